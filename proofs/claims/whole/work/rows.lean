section
-- ===== PART A: goes FIRST, ahead of the names: the tables' words, and 'selects' of the private methods out of them =====
/-- a private method of a class that the tables say can be made, by its rows of tables_1 -/
def lw_okq (q : MethodName × Nat) : Prop := (q.1.cls ≠ "java/lang/invoke/MethodHandle" ∧ q.1.cls ≠ "java/lang/invoke/VarHandle") ∧ Cond.instantiable q.1.cls q.2 ∈ tables_1 ∧ Cond.privateMethod q.1 ∈ tables_1 ∧ Cond.instanceMethod q.1 ∈ tables_1
theorem lw_p0 : lw_okq (⟨"DeltaViews", "make", "(LDeltaViews$Rule;)I"⟩, 7) := ⟨⟨by decide +kernel, by decide +kernel⟩, List.mem_of_getElem? (i := 16) (by decide +kernel), List.mem_of_getElem? (i := 112) (by decide +kernel), List.mem_of_getElem? (i := 113) (by decide +kernel)⟩
theorem lw_p1 : lw_okq (⟨"DeltaViews", "fillNode", "(LDeltaViews$Rule;[LDeltaViews$Rows;I)Z"⟩, 7) := ⟨⟨by decide +kernel, by decide +kernel⟩, List.mem_of_getElem? (i := 16) (by decide +kernel), List.mem_of_getElem? (i := 116) (by decide +kernel), List.mem_of_getElem? (i := 117) (by decide +kernel)⟩
theorem lw_p2 : lw_okq (⟨"DeltaViews$Rows", "placeOf", "(III)I"⟩, 3) := ⟨⟨by decide +kernel, by decide +kernel⟩, List.mem_of_getElem? (i := 28) (by decide +kernel), List.mem_of_getElem? (i := 165) (by decide +kernel), List.mem_of_getElem? (i := 166) (by decide +kernel)⟩
theorem lw_p3 : lw_okq (⟨"DeltaViews$Rows", "compareAt", "(IIII)I"⟩, 3) := ⟨⟨by decide +kernel, by decide +kernel⟩, List.mem_of_getElem? (i := 28) (by decide +kernel), List.mem_of_getElem? (i := 169) (by decide +kernel), List.mem_of_getElem? (i := 170) (by decide +kernel)⟩
theorem lw_p4 : lw_okq (⟨"DeltaViews$Rows", "isAt", "(IIII)Z"⟩, 3) := ⟨⟨by decide +kernel, by decide +kernel⟩, List.mem_of_getElem? (i := 28) (by decide +kernel), List.mem_of_getElem? (i := 173) (by decide +kernel), List.mem_of_getElem? (i := 174) (by decide +kernel)⟩
theorem lw_p5 : lw_okq (⟨"DeltaViews$Rows", "insertAt", "(IIIIJ)V"⟩, 3) := ⟨⟨by decide +kernel, by decide +kernel⟩, List.mem_of_getElem? (i := 28) (by decide +kernel), List.mem_of_getElem? (i := 177) (by decide +kernel), List.mem_of_getElem? (i := 178) (by decide +kernel)⟩
theorem lw_p6 : lw_okq (⟨"DeltaViews$FilterRule", "lets", "(I)Z"⟩, 4) := ⟨⟨by decide +kernel, by decide +kernel⟩, List.mem_of_getElem? (i := 200) (by decide +kernel), List.mem_of_getElem? (i := 198) (by decide +kernel), List.mem_of_getElem? (i := 199) (by decide +kernel)⟩
theorem lw_p7 : lw_okq (⟨"DeltaViews$GroupRule", "isFirstOfItsKey", "(LDeltaViews$Rows;I)Z"⟩, 4) := ⟨⟨by decide +kernel, by decide +kernel⟩, List.mem_of_getElem? (i := 215) (by decide +kernel), List.mem_of_getElem? (i := 213) (by decide +kernel), List.mem_of_getElem? (i := 214) (by decide +kernel)⟩
theorem lw_p8 : lw_okq (⟨"DeltaViews$GroupRule", "isWith", "(LDeltaViews$Rows;II)Z"⟩, 4) := ⟨⟨by decide +kernel, by decide +kernel⟩, List.mem_of_getElem? (i := 215) (by decide +kernel), List.mem_of_getElem? (i := 219) (by decide +kernel), List.mem_of_getElem? (i := 220) (by decide +kernel)⟩
theorem lw_p9 : lw_okq (⟨"DeltaViews$GroupRule", "valueFrom", "(LDeltaViews$Rows;I)I"⟩, 4) := ⟨⟨by decide +kernel, by decide +kernel⟩, List.mem_of_getElem? (i := 215) (by decide +kernel), List.mem_of_getElem? (i := 223) (by decide +kernel), List.mem_of_getElem? (i := 224) (by decide +kernel)⟩
theorem lw_p10 : lw_okq (⟨"DeltaViews$GroupRule", "startValue", "(LDeltaViews$Rows;I)I"⟩, 4) := ⟨⟨by decide +kernel, by decide +kernel⟩, List.mem_of_getElem? (i := 215) (by decide +kernel), List.mem_of_getElem? (i := 227) (by decide +kernel), List.mem_of_getElem? (i := 228) (by decide +kernel)⟩
theorem lw_p11 : lw_okq (⟨"DeltaViews$GroupRule", "joined", "(II)I"⟩, 4) := ⟨⟨by decide +kernel, by decide +kernel⟩, List.mem_of_getElem? (i := 215) (by decide +kernel), List.mem_of_getElem? (i := 231) (by decide +kernel), List.mem_of_getElem? (i := 232) (by decide +kernel)⟩
theorem lw_p12 : lw_okq (⟨"DeltaViews", "settleWork", "(LDeltaViews$Rows;)Z"⟩, 7) := ⟨⟨by decide +kernel, by decide +kernel⟩, List.mem_of_getElem? (i := 16) (by decide +kernel), List.mem_of_getElem? (i := 276) (by decide +kernel), List.mem_of_getElem? (i := 277) (by decide +kernel)⟩
theorem lw_p13 : lw_okq (⟨"DeltaViews", "isNode", "(I)Z"⟩, 7) := ⟨⟨by decide +kernel, by decide +kernel⟩, List.mem_of_getElem? (i := 16) (by decide +kernel), List.mem_of_getElem? (i := 295) (by decide +kernel), List.mem_of_getElem? (i := 296) (by decide +kernel)⟩
theorem lw_p14 : lw_okq (⟨"DeltaViews", "wouldFallBelowZero", "()Z"⟩, 7) := ⟨⟨by decide +kernel, by decide +kernel⟩, List.mem_of_getElem? (i := 16) (by decide +kernel), List.mem_of_getElem? (i := 441) (by decide +kernel), List.mem_of_getElem? (i := 442) (by decide +kernel)⟩
theorem lw_p15 : lw_okq (⟨"DeltaViews", "gatherTable", "(I)V"⟩, 7) := ⟨⟨by decide +kernel, by decide +kernel⟩, List.mem_of_getElem? (i := 16) (by decide +kernel), List.mem_of_getElem? (i := 445) (by decide +kernel), List.mem_of_getElem? (i := 446) (by decide +kernel)⟩
def lw_privs_1 : List (MethodName × Nat) := [(⟨"DeltaViews", "make", "(LDeltaViews$Rule;)I"⟩, 7), (⟨"DeltaViews", "fillNode", "(LDeltaViews$Rule;[LDeltaViews$Rows;I)Z"⟩, 7), (⟨"DeltaViews$Rows", "placeOf", "(III)I"⟩, 3), (⟨"DeltaViews$Rows", "compareAt", "(IIII)I"⟩, 3), (⟨"DeltaViews$Rows", "isAt", "(IIII)Z"⟩, 3), (⟨"DeltaViews$Rows", "insertAt", "(IIIIJ)V"⟩, 3), (⟨"DeltaViews$FilterRule", "lets", "(I)Z"⟩, 4), (⟨"DeltaViews$GroupRule", "isFirstOfItsKey", "(LDeltaViews$Rows;I)Z"⟩, 4), (⟨"DeltaViews$GroupRule", "isWith", "(LDeltaViews$Rows;II)Z"⟩, 4), (⟨"DeltaViews$GroupRule", "valueFrom", "(LDeltaViews$Rows;I)I"⟩, 4), (⟨"DeltaViews$GroupRule", "startValue", "(LDeltaViews$Rows;I)I"⟩, 4), (⟨"DeltaViews$GroupRule", "joined", "(II)I"⟩, 4), (⟨"DeltaViews", "settleWork", "(LDeltaViews$Rows;)Z"⟩, 7), (⟨"DeltaViews", "isNode", "(I)Z"⟩, 7), (⟨"DeltaViews", "wouldFallBelowZero", "()Z"⟩, 7), (⟨"DeltaViews", "gatherTable", "(I)V"⟩, 7)]
theorem lw_r1 : ∀ q ∈ lw_privs_1, lw_okq q := List.forall_mem_cons.mpr ⟨lw_p0, List.forall_mem_cons.mpr ⟨lw_p1, List.forall_mem_cons.mpr ⟨lw_p2, List.forall_mem_cons.mpr ⟨lw_p3, List.forall_mem_cons.mpr ⟨lw_p4, List.forall_mem_cons.mpr ⟨lw_p5, List.forall_mem_cons.mpr ⟨lw_p6, List.forall_mem_cons.mpr ⟨lw_p7, List.forall_mem_cons.mpr ⟨lw_p8, List.forall_mem_cons.mpr ⟨lw_p9, List.forall_mem_cons.mpr ⟨lw_p10, List.forall_mem_cons.mpr ⟨lw_p11, List.forall_mem_cons.mpr ⟨lw_p12, List.forall_mem_cons.mpr ⟨lw_p13, List.forall_mem_cons.mpr ⟨lw_p14, List.forall_mem_cons.mpr ⟨lw_p15, fun _ h => absurd h List.not_mem_nil⟩⟩⟩⟩⟩⟩⟩⟩⟩⟩⟩⟩⟩⟩⟩⟩
theorem lw_p16 : lw_okq (⟨"DeltaViews", "fillNextTables", "()Z"⟩, 7) := ⟨⟨by decide +kernel, by decide +kernel⟩, List.mem_of_getElem? (i := 16) (by decide +kernel), List.mem_of_getElem? (i := 458) (by decide +kernel), List.mem_of_getElem? (i := 459) (by decide +kernel)⟩
theorem lw_p17 : lw_okq (⟨"DeltaViews", "noteChangesSince", "([LDeltaViews$Rows;)I"⟩, 7) := ⟨⟨by decide +kernel, by decide +kernel⟩, List.mem_of_getElem? (i := 16) (by decide +kernel), List.mem_of_getElem? (i := 466) (by decide +kernel), List.mem_of_getElem? (i := 467) (by decide +kernel)⟩
theorem lw_p18 : lw_okq (⟨"DeltaViews", "rowsOf", "(I)LDeltaViews$Rows;"⟩, 7) := ⟨⟨by decide +kernel, by decide +kernel⟩, List.mem_of_getElem? (i := 16) (by decide +kernel), List.mem_of_getElem? (i := 486) (by decide +kernel), List.mem_of_getElem? (i := 487) (by decide +kernel)⟩
theorem lw_p19 : lw_okq (⟨"DeltaViewsModel", "out", "(II)Z"⟩, 20) := ⟨⟨by decide +kernel, by decide +kernel⟩, List.mem_of_getElem? (i := 530) (by decide +kernel), List.mem_of_getElem? (i := 601) (by decide +kernel), List.mem_of_getElem? (i := 602) (by decide +kernel)⟩
theorem lw_p20 : lw_okq (⟨"DeltaViewsModel", "make", "(IIIIII)I"⟩, 20) := ⟨⟨by decide +kernel, by decide +kernel⟩, List.mem_of_getElem? (i := 530) (by decide +kernel), List.mem_of_getElem? (i := 605) (by decide +kernel), List.mem_of_getElem? (i := 606) (by decide +kernel)⟩
theorem lw_p21 : lw_okq (⟨"DeltaViewsModel", "evaluate", "(II)Z"⟩, 20) := ⟨⟨by decide +kernel, by decide +kernel⟩, List.mem_of_getElem? (i := 530) (by decide +kernel), List.mem_of_getElem? (i := 609) (by decide +kernel), List.mem_of_getElem? (i := 610) (by decide +kernel)⟩
theorem lw_p22 : lw_okq (⟨"DeltaViewsModel", "joinOne", "(III)V"⟩, 20) := ⟨⟨by decide +kernel, by decide +kernel⟩, List.mem_of_getElem? (i := 530) (by decide +kernel), List.mem_of_getElem? (i := 613) (by decide +kernel), List.mem_of_getElem? (i := 614) (by decide +kernel)⟩
theorem lw_p23 : lw_okq (⟨"DeltaViewsModel", "column", "(II)I"⟩, 20) := ⟨⟨by decide +kernel, by decide +kernel⟩, List.mem_of_getElem? (i := 530) (by decide +kernel), List.mem_of_getElem? (i := 617) (by decide +kernel), List.mem_of_getElem? (i := 618) (by decide +kernel)⟩
theorem lw_p24 : lw_okq (⟨"DeltaViewsModel", "picked", "(III)I"⟩, 20) := ⟨⟨by decide +kernel, by decide +kernel⟩, List.mem_of_getElem? (i := 530) (by decide +kernel), List.mem_of_getElem? (i := 621) (by decide +kernel), List.mem_of_getElem? (i := 622) (by decide +kernel)⟩
theorem lw_p25 : lw_okq (⟨"DeltaViewsModel", "emit", "(IIIJ)V"⟩, 20) := ⟨⟨by decide +kernel, by decide +kernel⟩, List.mem_of_getElem? (i := 530) (by decide +kernel), List.mem_of_getElem? (i := 625) (by decide +kernel), List.mem_of_getElem? (i := 626) (by decide +kernel)⟩
theorem lw_p26 : lw_okq (⟨"DeltaViewsModel", "unary", "(III)V"⟩, 20) := ⟨⟨by decide +kernel, by decide +kernel⟩, List.mem_of_getElem? (i := 530) (by decide +kernel), List.mem_of_getElem? (i := 629) (by decide +kernel), List.mem_of_getElem? (i := 630) (by decide +kernel)⟩
theorem lw_p27 : lw_okq (⟨"DeltaViewsModel", "passes", "(III)Z"⟩, 20) := ⟨⟨by decide +kernel, by decide +kernel⟩, List.mem_of_getElem? (i := 530) (by decide +kernel), List.mem_of_getElem? (i := 633) (by decide +kernel), List.mem_of_getElem? (i := 634) (by decide +kernel)⟩
theorem lw_p28 : lw_okq (⟨"DeltaViewsModel", "mapped", "(II)I"⟩, 20) := ⟨⟨by decide +kernel, by decide +kernel⟩, List.mem_of_getElem? (i := 530) (by decide +kernel), List.mem_of_getElem? (i := 637) (by decide +kernel), List.mem_of_getElem? (i := 638) (by decide +kernel)⟩
theorem lw_p29 : lw_okq (⟨"DeltaViewsModel", "grouped", "(III)I"⟩, 20) := ⟨⟨by decide +kernel, by decide +kernel⟩, List.mem_of_getElem? (i := 530) (by decide +kernel), List.mem_of_getElem? (i := 641) (by decide +kernel), List.mem_of_getElem? (i := 642) (by decide +kernel)⟩
theorem lw_p30 : lw_okq (⟨"DeltaViewsModel", "settle", "(II)Z"⟩, 20) := ⟨⟨by decide +kernel, by decide +kernel⟩, List.mem_of_getElem? (i := 530) (by decide +kernel), List.mem_of_getElem? (i := 645) (by decide +kernel), List.mem_of_getElem? (i := 646) (by decide +kernel)⟩
theorem lw_p31 : lw_okq (⟨"DeltaViewsModel", "before", "(II)Z"⟩, 20) := ⟨⟨by decide +kernel, by decide +kernel⟩, List.mem_of_getElem? (i := 530) (by decide +kernel), List.mem_of_getElem? (i := 651) (by decide +kernel), List.mem_of_getElem? (i := 652) (by decide +kernel)⟩
def lw_privs_2 : List (MethodName × Nat) := [(⟨"DeltaViews", "fillNextTables", "()Z"⟩, 7), (⟨"DeltaViews", "noteChangesSince", "([LDeltaViews$Rows;)I"⟩, 7), (⟨"DeltaViews", "rowsOf", "(I)LDeltaViews$Rows;"⟩, 7), (⟨"DeltaViewsModel", "out", "(II)Z"⟩, 20), (⟨"DeltaViewsModel", "make", "(IIIIII)I"⟩, 20), (⟨"DeltaViewsModel", "evaluate", "(II)Z"⟩, 20), (⟨"DeltaViewsModel", "joinOne", "(III)V"⟩, 20), (⟨"DeltaViewsModel", "column", "(II)I"⟩, 20), (⟨"DeltaViewsModel", "picked", "(III)I"⟩, 20), (⟨"DeltaViewsModel", "emit", "(IIIJ)V"⟩, 20), (⟨"DeltaViewsModel", "unary", "(III)V"⟩, 20), (⟨"DeltaViewsModel", "passes", "(III)Z"⟩, 20), (⟨"DeltaViewsModel", "mapped", "(II)I"⟩, 20), (⟨"DeltaViewsModel", "grouped", "(III)I"⟩, 20), (⟨"DeltaViewsModel", "settle", "(II)Z"⟩, 20), (⟨"DeltaViewsModel", "before", "(II)Z"⟩, 20)]
theorem lw_r2 : ∀ q ∈ lw_privs_2, lw_okq q := List.forall_mem_cons.mpr ⟨lw_p16, List.forall_mem_cons.mpr ⟨lw_p17, List.forall_mem_cons.mpr ⟨lw_p18, List.forall_mem_cons.mpr ⟨lw_p19, List.forall_mem_cons.mpr ⟨lw_p20, List.forall_mem_cons.mpr ⟨lw_p21, List.forall_mem_cons.mpr ⟨lw_p22, List.forall_mem_cons.mpr ⟨lw_p23, List.forall_mem_cons.mpr ⟨lw_p24, List.forall_mem_cons.mpr ⟨lw_p25, List.forall_mem_cons.mpr ⟨lw_p26, List.forall_mem_cons.mpr ⟨lw_p27, List.forall_mem_cons.mpr ⟨lw_p28, List.forall_mem_cons.mpr ⟨lw_p29, List.forall_mem_cons.mpr ⟨lw_p30, List.forall_mem_cons.mpr ⟨lw_p31, fun _ h => absurd h List.not_mem_nil⟩⟩⟩⟩⟩⟩⟩⟩⟩⟩⟩⟩⟩⟩⟩⟩
theorem lw_p32 : lw_okq (⟨"DeltaViewsModel", "workTable", "(I)V"⟩, 20) := ⟨⟨by decide +kernel, by decide +kernel⟩, List.mem_of_getElem? (i := 530) (by decide +kernel), List.mem_of_getElem? (i := 687) (by decide +kernel), List.mem_of_getElem? (i := 688) (by decide +kernel)⟩
theorem lw_p33 : lw_okq (⟨"DeltaViewsModel", "differing", "(I)I"⟩, 20) := ⟨⟨by decide +kernel, by decide +kernel⟩, List.mem_of_getElem? (i := 530) (by decide +kernel), List.mem_of_getElem? (i := 691) (by decide +kernel), List.mem_of_getElem? (i := 692) (by decide +kernel)⟩
theorem lw_p34 : lw_okq (⟨"DeltaViewsModel", "weightIn", "(IIII)J"⟩, 20) := ⟨⟨by decide +kernel, by decide +kernel⟩, List.mem_of_getElem? (i := 530) (by decide +kernel), List.mem_of_getElem? (i := 695) (by decide +kernel), List.mem_of_getElem? (i := 696) (by decide +kernel)⟩
theorem lw_p35 : lw_okq (⟨"DeltaViewsModel", "adopt", "(I)V"⟩, 20) := ⟨⟨by decide +kernel, by decide +kernel⟩, List.mem_of_getElem? (i := 530) (by decide +kernel), List.mem_of_getElem? (i := 699) (by decide +kernel), List.mem_of_getElem? (i := 700) (by decide +kernel)⟩
def lw_privs_3 : List (MethodName × Nat) := [(⟨"DeltaViewsModel", "workTable", "(I)V"⟩, 20), (⟨"DeltaViewsModel", "differing", "(I)I"⟩, 20), (⟨"DeltaViewsModel", "weightIn", "(IIII)J"⟩, 20), (⟨"DeltaViewsModel", "adopt", "(I)V"⟩, 20)]
theorem lw_r3 : ∀ q ∈ lw_privs_3, lw_okq q := List.forall_mem_cons.mpr ⟨lw_p32, List.forall_mem_cons.mpr ⟨lw_p33, List.forall_mem_cons.mpr ⟨lw_p34, List.forall_mem_cons.mpr ⟨lw_p35, fun _ h => absurd h List.not_mem_nil⟩⟩⟩⟩
def lw_privs : List (MethodName × Nat) := lw_privs_1 ++ (lw_privs_2 ++ (lw_privs_3))
def lw_tbl : List Cond := k2_sels lw_privs ++ tables_1
theorem lw_privs_ok : ∀ q ∈ lw_privs, lw_okq q := by
  show ∀ q ∈ lw_privs_1 ++ (lw_privs_2 ++ (lw_privs_3)), lw_okq q
  exact List.forall_mem_append.mpr ⟨lw_r1, List.forall_mem_append.mpr ⟨lw_r2, lw_r3⟩⟩
end
section
/-! NAMES: by program (wip/whole/mk_names.py) out of the Statement and the listing -/
def tblG : List Cond := lw_tbl.filter goodWord
theorem tg {i : Nat} {w : Cond} (h : lw_tbl[i]? = some w) (hg : goodWord w = true) : w ∈ tblG := List.mem_filter.mpr ⟨List.mem_of_getElem? h, hg⟩
theorem tgood : ∀ w ∈ tblG, (w.onTables && w.keeps) = true ∨ ∃ ty, w = .arrayClass ty := fun w h => good_of_word (List.mem_filter.mp h).2
def RRW : String := "DeltaViews$Rows"
def TRW : u_T := fun k => match k with
  | 0 => ("DeltaViews$Rows", "values", "[I", true)
  | 1 => ("DeltaViews$Rows", "weights", "[J", true)
  | _ => ("DeltaViews$Rows", "size", "I", false)
def tyRW : Nat → FieldType := fun k => match k with
  | 0 => .array .int
  | 1 => .array .long
  | _ => .int
theorem nmRW : ∀ a, a < 3 → ∀ b, b < 3 → a ≠ b → (TRW a).2.1 ≠ (TRW b).2.1 := by decide +kernel
theorem okRW : ∀ k, k < 3 → parseFieldDescriptor (TRW k).2.2.1 = some (tyRW k) := by decide +kernel
def RPD : String := "DeltaViews$Pending"
def TPD : u_T := fun k => match k with
  | 0 => ("DeltaViews$Pending", "tables", "[I", true)
  | 1 => ("DeltaViews$Pending", "values", "[I", true)
  | 2 => ("DeltaViews$Pending", "bys", "[I", true)
  | _ => ("DeltaViews$Pending", "size", "I", false)
def tyPD : Nat → FieldType := fun k => match k with
  | 0 => .array .int
  | 1 => .array .int
  | 2 => .array .int
  | _ => .int
theorem nmPD : ∀ a, a < 4 → ∀ b, b < 4 → a ≠ b → (TPD a).2.1 ≠ (TPD b).2.1 := by decide +kernel
theorem okPD : ∀ k, k < 4 → parseFieldDescriptor (TPD k).2.2.1 = some (tyPD k) := by decide +kernel
def RTR : String := "DeltaViews$TableRule"
def TTR : u_T := fun k => match k with
  | _ => ("DeltaViews$TableRule", "input", "I", true)
def tyTR : Nat → FieldType := fun k => match k with
  | _ => .int
theorem nmTR : ∀ a, a < 1 → ∀ b, b < 1 → a ≠ b → (TTR a).2.1 ≠ (TTR b).2.1 := by decide +kernel
theorem okTR : ∀ k, k < 1 → parseFieldDescriptor (TTR k).2.2.1 = some (tyTR k) := by decide +kernel
def RFR : String := "DeltaViews$FilterRule"
def TFR : u_T := fun k => match k with
  | 0 => ("DeltaViews$FilterRule", "input", "I", true)
  | 1 => ("DeltaViews$FilterRule", "column", "I", true)
  | 2 => ("DeltaViews$FilterRule", "test", "I", true)
  | _ => ("DeltaViews$FilterRule", "number", "I", true)
def tyFR : Nat → FieldType := fun k => match k with
  | 0 => .int
  | 1 => .int
  | 2 => .int
  | _ => .int
theorem nmFR : ∀ a, a < 4 → ∀ b, b < 4 → a ≠ b → (TFR a).2.1 ≠ (TFR b).2.1 := by decide +kernel
theorem okFR : ∀ k, k < 4 → parseFieldDescriptor (TFR k).2.2.1 = some (tyFR k) := by decide +kernel
def RMR : String := "DeltaViews$MapRule"
def TMR : u_T := fun k => match k with
  | 0 => ("DeltaViews$MapRule", "input", "I", true)
  | 1 => ("DeltaViews$MapRule", "x", "I", true)
  | 2 => ("DeltaViews$MapRule", "y", "I", true)
  | _ => ("DeltaViews$MapRule", "z", "I", true)
def tyMR : Nat → FieldType := fun k => match k with
  | 0 => .int
  | 1 => .int
  | 2 => .int
  | _ => .int
theorem nmMR : ∀ a, a < 4 → ∀ b, b < 4 → a ≠ b → (TMR a).2.1 ≠ (TMR b).2.1 := by decide +kernel
theorem okMR : ∀ k, k < 4 → parseFieldDescriptor (TMR k).2.2.1 = some (tyMR k) := by decide +kernel
def RJR : String := "DeltaViews$JoinRule"
def TJR : u_T := fun k => match k with
  | 0 => ("DeltaViews$JoinRule", "left", "I", true)
  | 1 => ("DeltaViews$JoinRule", "right", "I", true)
  | 2 => ("DeltaViews$JoinRule", "leftColumn", "I", true)
  | 3 => ("DeltaViews$JoinRule", "rightColumn", "I", true)
  | _ => ("DeltaViews$JoinRule", "pick", "I", true)
def tyJR : Nat → FieldType := fun k => match k with
  | 0 => .int
  | 1 => .int
  | 2 => .int
  | 3 => .int
  | _ => .int
theorem nmJR : ∀ a, a < 5 → ∀ b, b < 5 → a ≠ b → (TJR a).2.1 ≠ (TJR b).2.1 := by decide +kernel
theorem okJR : ∀ k, k < 5 → parseFieldDescriptor (TJR k).2.2.1 = some (tyJR k) := by decide +kernel
def RCR : String := "DeltaViews$CombineRule"
def TCR : u_T := fun k => match k with
  | 0 => ("DeltaViews$CombineRule", "left", "I", true)
  | 1 => ("DeltaViews$CombineRule", "right", "I", true)
  | _ => ("DeltaViews$CombineRule", "kind", "I", true)
def tyCR : Nat → FieldType := fun k => match k with
  | 0 => .int
  | 1 => .int
  | _ => .int
theorem nmCR : ∀ a, a < 3 → ∀ b, b < 3 → a ≠ b → (TCR a).2.1 ≠ (TCR b).2.1 := by decide +kernel
theorem okCR : ∀ k, k < 3 → parseFieldDescriptor (TCR k).2.2.1 = some (tyCR k) := by decide +kernel
def RDR : String := "DeltaViews$DistinctRule"
def TDR : u_T := fun k => match k with
  | _ => ("DeltaViews$DistinctRule", "input", "I", true)
def tyDR : Nat → FieldType := fun k => match k with
  | _ => .int
theorem nmDR : ∀ a, a < 1 → ∀ b, b < 1 → a ≠ b → (TDR a).2.1 ≠ (TDR b).2.1 := by decide +kernel
theorem okDR : ∀ k, k < 1 → parseFieldDescriptor (TDR k).2.2.1 = some (tyDR k) := by decide +kernel
def RGR : String := "DeltaViews$GroupRule"
def TGR : u_T := fun k => match k with
  | 0 => ("DeltaViews$GroupRule", "input", "I", true)
  | 1 => ("DeltaViews$GroupRule", "key", "I", true)
  | 2 => ("DeltaViews$GroupRule", "column", "I", true)
  | _ => ("DeltaViews$GroupRule", "kind", "I", true)
def tyGR : Nat → FieldType := fun k => match k with
  | 0 => .int
  | 1 => .int
  | 2 => .int
  | _ => .int
theorem nmGR : ∀ a, a < 4 → ∀ b, b < 4 → a ≠ b → (TGR a).2.1 ≠ (TGR b).2.1 := by decide +kernel
theorem okGR : ∀ k, k < 4 → parseFieldDescriptor (TGR k).2.2.1 = some (tyGR k) := by decide +kernel
def RDV : String := "DeltaViews"
def TDV : u_T := fun k => match k with
  | 0 => ("DeltaViews", "now", "[LDeltaViews$Rows;", false)
  | 1 => ("DeltaViews", "next", "[LDeltaViews$Rows;", false)
  | 2 => ("DeltaViews", "work", "LDeltaViews$Rows;", true)
  | 3 => ("DeltaViews", "pending", "LDeltaViews$Pending;", true)
  | 4 => ("DeltaViews", "rules", "[LDeltaViews$Rule;", true)
  | 5 => ("DeltaViews", "changedRows", "[I", true)
  | _ => ("DeltaViews", "nodes", "I", false)
def tyDV : Nat → FieldType := fun k => match k with
  | 0 => .array (.object "DeltaViews$Rows")
  | 1 => .array (.object "DeltaViews$Rows")
  | 2 => .object "DeltaViews$Rows"
  | 3 => .object "DeltaViews$Pending"
  | 4 => .array (.object "DeltaViews$Rule")
  | 5 => .array .int
  | _ => .int
theorem nmDV : ∀ a, a < 7 → ∀ b, b < 7 → a ≠ b → (TDV a).2.1 ≠ (TDV b).2.1 := by decide +kernel
theorem okDV : ∀ k, k < 7 → parseFieldDescriptor (TDV k).2.2.1 = some (tyDV k) := by decide +kernel
def RMD : String := "DeltaViewsModel"
def TMD : u_T := fun k => match k with
  | 0 => ("DeltaViewsModel", "rowA", "[I", true)
  | 1 => ("DeltaViewsModel", "rowB", "[I", true)
  | 2 => ("DeltaViewsModel", "rowC", "[I", true)
  | 3 => ("DeltaViewsModel", "rowW", "[J", true)
  | 4 => ("DeltaViewsModel", "size", "[I", true)
  | 5 => ("DeltaViewsModel", "workA", "[I", true)
  | 6 => ("DeltaViewsModel", "workB", "[I", true)
  | 7 => ("DeltaViewsModel", "workC", "[I", true)
  | 8 => ("DeltaViewsModel", "workW", "[J", true)
  | 9 => ("DeltaViewsModel", "work", "I", false)
  | 10 => ("DeltaViewsModel", "kind", "[I", true)
  | 11 => ("DeltaViewsModel", "argument", "[I", true)
  | 12 => ("DeltaViewsModel", "changedRows", "[I", true)
  | 13 => ("DeltaViewsModel", "nodes", "I", false)
  | 14 => ("DeltaViewsModel", "pTable", "[I", true)
  | 15 => ("DeltaViewsModel", "pA", "[I", true)
  | 16 => ("DeltaViewsModel", "pB", "[I", true)
  | 17 => ("DeltaViewsModel", "pC", "[I", true)
  | 18 => ("DeltaViewsModel", "pBy", "[I", true)
  | _ => ("DeltaViewsModel", "pending", "I", false)
def tyMD : Nat → FieldType := fun k => match k with
  | 0 => .array .int
  | 1 => .array .int
  | 2 => .array .int
  | 3 => .array .long
  | 4 => .array .int
  | 5 => .array .int
  | 6 => .array .int
  | 7 => .array .int
  | 8 => .array .long
  | 9 => .int
  | 10 => .array .int
  | 11 => .array .int
  | 12 => .array .int
  | 13 => .int
  | 14 => .array .int
  | 15 => .array .int
  | 16 => .array .int
  | 17 => .array .int
  | 18 => .array .int
  | _ => .int
theorem nmMD : ∀ a, a < 20 → ∀ b, b < 20 → a ≠ b → (TMD a).2.1 ≠ (TMD b).2.1 := by decide +kernel
theorem okMD : ∀ k, k < 20 → parseFieldDescriptor (TMD k).2.2.1 = some (tyMD k) := by decide +kernel
abbrev vwCl : List vw_C := [(RRW, TRW, 3), (RPD, TPD, 4), (RTR, TTR, 1), (RFR, TFR, 4), (RMR, TMR, 4), (RJR, TJR, 5), (RCR, TCR, 3), (RDR, TDR, 1), (RGR, TGR, 4), (RDV, TDV, 7), (RMD, TMD, 20)]
abbrev cDV_init : ByteArray := prog_1_method_1_code
def yDV_init : MethodName := ⟨"DeltaViews", "<init>", "()V"⟩
abbrev cDV_emptySlots : ByteArray := prog_1_method_20_code
def yDV_emptySlots : MethodName := ⟨"DeltaViews", "emptySlots", "()[LDeltaViews$Rows;"⟩
abbrev cRW_init : ByteArray := prog_9_method_1_code
def yRW_init : MethodName := ⟨"DeltaViews$Rows", "<init>", "(I)V"⟩
abbrev cPD_init : ByteArray := prog_8_method_1_code
def yPD_init : MethodName := ⟨"DeltaViews$Pending", "<init>", "()V"⟩
abbrev cDV_table : ByteArray := prog_1_method_2_code
def yDV_table : MethodName := ⟨"DeltaViews", "table", "(I)I"⟩
abbrev cDV_isTable : ByteArray := prog_1_method_23_code
def yDV_isTable : MethodName := ⟨"DeltaViews", "isTable", "(I)Z"⟩
abbrev cDV_isBelow : ByteArray := prog_1_method_21_code
def yDV_isBelow : MethodName := ⟨"DeltaViews", "isBelow", "(II)Z"⟩
abbrev cTR_init : ByteArray := prog_11_method_1_code
def yTR_init : MethodName := ⟨"DeltaViews$TableRule", "<init>", "(I)V"⟩
abbrev cRC_init : ByteArray := prog_15_method_1_code
def yRC_init : MethodName := ⟨"java/lang/Record", "<init>", "()V"⟩
abbrev cDV_make : ByteArray := prog_1_method_27_code
def yDV_make : MethodName := ⟨"DeltaViews", "make", "(LDeltaViews$Rule;)I"⟩
abbrev cDV_fillNode : ByteArray := prog_1_method_28_code
def yDV_fillNode : MethodName := ⟨"DeltaViews", "fillNode", "(LDeltaViews$Rule;[LDeltaViews$Rows;I)Z"⟩
abbrev cRW_clear : ByteArray := prog_9_method_6_code
def yRW_clear : MethodName := ⟨"DeltaViews$Rows", "clear", "()V"⟩
abbrev cCR_fill : ByteArray := prog_2_method_2_code
def yCR_fill : MethodName := ⟨"DeltaViews$CombineRule", "fill", "([LDeltaViews$Rows;LDeltaViews$Rows;)V"⟩
abbrev cRW_copyFrom : ByteArray := prog_9_method_9_code
def yRW_copyFrom : MethodName := ⟨"DeltaViews$Rows", "copyFrom", "(LDeltaViews$Rows;)V"⟩
abbrev cRW_size : ByteArray := prog_9_method_2_code
def yRW_size : MethodName := ⟨"DeltaViews$Rows", "size", "()I"⟩
abbrev cRW_weightAt : ByteArray := prog_9_method_4_code
def yRW_weightAt : MethodName := ⟨"DeltaViews$Rows", "weightAt", "(I)J"⟩
abbrev cRW_addRow : ByteArray := prog_9_method_8_code
def yRW_addRow : MethodName := ⟨"DeltaViews$Rows", "addRow", "(LDeltaViews$Rows;IJ)V"⟩
abbrev cRW_valueAt : ByteArray := prog_9_method_3_code
def yRW_valueAt : MethodName := ⟨"DeltaViews$Rows", "valueAt", "(II)I"⟩
abbrev cRW_addWeight : ByteArray := prog_9_method_7_code
def yRW_addWeight : MethodName := ⟨"DeltaViews$Rows", "addWeight", "(IIIJ)V"⟩
abbrev cRW_placeOf : ByteArray := prog_9_method_16_code
def yRW_placeOf : MethodName := ⟨"DeltaViews$Rows", "placeOf", "(III)I"⟩
abbrev cRW_compareAt : ByteArray := prog_9_method_18_code
def yRW_compareAt : MethodName := ⟨"DeltaViews$Rows", "compareAt", "(IIII)I"⟩
abbrev cRW_isAt : ByteArray := prog_9_method_17_code
def yRW_isAt : MethodName := ⟨"DeltaViews$Rows", "isAt", "(IIII)Z"⟩
abbrev cRW_insertAt : ByteArray := prog_9_method_19_code
def yRW_insertAt : MethodName := ⟨"DeltaViews$Rows", "insertAt", "(IIIIJ)V"⟩
abbrev cDR_fill : ByteArray := prog_3_method_2_code
def yDR_fill : MethodName := ⟨"DeltaViews$DistinctRule", "fill", "([LDeltaViews$Rows;LDeltaViews$Rows;)V"⟩
abbrev cFR_fill : ByteArray := prog_4_method_2_code
def yFR_fill : MethodName := ⟨"DeltaViews$FilterRule", "fill", "([LDeltaViews$Rows;LDeltaViews$Rows;)V"⟩
abbrev cFR_lets : ByteArray := prog_4_method_3_code
def yFR_lets : MethodName := ⟨"DeltaViews$FilterRule", "lets", "(I)Z"⟩
abbrev cGR_fill : ByteArray := prog_5_method_2_code
def yGR_fill : MethodName := ⟨"DeltaViews$GroupRule", "fill", "([LDeltaViews$Rows;LDeltaViews$Rows;)V"⟩
abbrev cGR_isFirstOfItsKey : ByteArray := prog_5_method_3_code
def yGR_isFirstOfItsKey : MethodName := ⟨"DeltaViews$GroupRule", "isFirstOfItsKey", "(LDeltaViews$Rows;I)Z"⟩
abbrev cGR_isWith : ByteArray := prog_5_method_4_code
def yGR_isWith : MethodName := ⟨"DeltaViews$GroupRule", "isWith", "(LDeltaViews$Rows;II)Z"⟩
abbrev cGR_valueFrom : ByteArray := prog_5_method_5_code
def yGR_valueFrom : MethodName := ⟨"DeltaViews$GroupRule", "valueFrom", "(LDeltaViews$Rows;I)I"⟩
abbrev cGR_startValue : ByteArray := prog_5_method_6_code
def yGR_startValue : MethodName := ⟨"DeltaViews$GroupRule", "startValue", "(LDeltaViews$Rows;I)I"⟩
abbrev cGR_joined : ByteArray := prog_5_method_7_code
def yGR_joined : MethodName := ⟨"DeltaViews$GroupRule", "joined", "(II)I"⟩
abbrev cJR_fill : ByteArray := prog_6_method_2_code
def yJR_fill : MethodName := ⟨"DeltaViews$JoinRule", "fill", "([LDeltaViews$Rows;LDeltaViews$Rows;)V"⟩
abbrev cJR_picked : ByteArray := prog_6_method_3_code
def yJR_picked : MethodName := ⟨"DeltaViews$JoinRule", "picked", "(LDeltaViews$Rows;ILDeltaViews$Rows;II)I"⟩
abbrev cMR_fill : ByteArray := prog_7_method_2_code
def yMR_fill : MethodName := ⟨"DeltaViews$MapRule", "fill", "([LDeltaViews$Rows;LDeltaViews$Rows;)V"⟩
abbrev cMR_coded : ByteArray := prog_7_method_3_code
def yMR_coded : MethodName := ⟨"DeltaViews$MapRule", "coded", "(LDeltaViews$Rows;II)I"⟩
abbrev cTR_fill : ByteArray := prog_11_method_2_code
def yTR_fill : MethodName := ⟨"DeltaViews$TableRule", "fill", "([LDeltaViews$Rows;LDeltaViews$Rows;)V"⟩
abbrev cDV_slotOf : ByteArray := prog_1_method_25_code
def yDV_slotOf : MethodName := ⟨"DeltaViews", "slotOf", "(I)I"⟩
abbrev cDV_settleWork : ByteArray := prog_1_method_29_code
def yDV_settleWork : MethodName := ⟨"DeltaViews", "settleWork", "(LDeltaViews$Rows;)Z"⟩
abbrev cRW_dropZeros : ByteArray := prog_9_method_10_code
def yRW_dropZeros : MethodName := ⟨"DeltaViews$Rows", "dropZeros", "()V"⟩
abbrev cRW_canHold : ByteArray := prog_9_method_12_code
def yRW_canHold : MethodName := ⟨"DeltaViews$Rows", "canHold", "(LDeltaViews$Rows;)Z"⟩
abbrev cDV_filter : ByteArray := prog_1_method_3_code
def yDV_filter : MethodName := ⟨"DeltaViews", "filter", "(IIII)I"⟩
abbrev cDV_isNode : ByteArray := prog_1_method_24_code
def yDV_isNode : MethodName := ⟨"DeltaViews", "isNode", "(I)Z"⟩
abbrev cDV_isColumn : ByteArray := prog_1_method_22_code
def yDV_isColumn : MethodName := ⟨"DeltaViews", "isColumn", "(I)Z"⟩
abbrev cFR_init : ByteArray := prog_4_method_1_code
def yFR_init : MethodName := ⟨"DeltaViews$FilterRule", "<init>", "(IIII)V"⟩
abbrev cDV_map : ByteArray := prog_1_method_4_code
def yDV_map : MethodName := ⟨"DeltaViews", "map", "(IIII)I"⟩
abbrev cMR_init : ByteArray := prog_7_method_1_code
def yMR_init : MethodName := ⟨"DeltaViews$MapRule", "<init>", "(IIII)V"⟩
abbrev cDV_join : ByteArray := prog_1_method_5_code
def yDV_join : MethodName := ⟨"DeltaViews", "join", "(IIIII)I"⟩
abbrev cJR_init : ByteArray := prog_6_method_1_code
def yJR_init : MethodName := ⟨"DeltaViews$JoinRule", "<init>", "(IIIII)V"⟩
abbrev cDV_combine : ByteArray := prog_1_method_6_code
def yDV_combine : MethodName := ⟨"DeltaViews", "combine", "(III)I"⟩
abbrev cCR_init : ByteArray := prog_2_method_1_code
def yCR_init : MethodName := ⟨"DeltaViews$CombineRule", "<init>", "(III)V"⟩
abbrev cDV_distinct : ByteArray := prog_1_method_7_code
def yDV_distinct : MethodName := ⟨"DeltaViews", "distinct", "(I)I"⟩
abbrev cDR_init : ByteArray := prog_3_method_1_code
def yDR_init : MethodName := ⟨"DeltaViews$DistinctRule", "<init>", "(I)V"⟩
abbrev cDV_group : ByteArray := prog_1_method_8_code
def yDV_group : MethodName := ⟨"DeltaViews", "group", "(IIII)I"⟩
abbrev cGR_init : ByteArray := prog_5_method_1_code
def yGR_init : MethodName := ⟨"DeltaViews$GroupRule", "<init>", "(IIII)V"⟩
abbrev cDV_change : ByteArray := prog_1_method_9_code
def yDV_change : MethodName := ⟨"DeltaViews", "change", "(IIIII)I"⟩
abbrev cPD_size : ByteArray := prog_8_method_2_code
def yPD_size : MethodName := ⟨"DeltaViews$Pending", "size", "()I"⟩
abbrev cPD_append : ByteArray := prog_8_method_4_code
def yPD_append : MethodName := ⟨"DeltaViews$Pending", "append", "(IIIII)V"⟩
abbrev cDV_step : ByteArray := prog_1_method_10_code
def yDV_step : MethodName := ⟨"DeltaViews", "step", "()I"⟩
abbrev cDV_wouldFallBelowZero : ByteArray := prog_1_method_31_code
def yDV_wouldFallBelowZero : MethodName := ⟨"DeltaViews", "wouldFallBelowZero", "()Z"⟩
abbrev cDV_gatherTable : ByteArray := prog_1_method_30_code
def yDV_gatherTable : MethodName := ⟨"DeltaViews", "gatherTable", "(I)V"⟩
abbrev cPD_addTo : ByteArray := prog_8_method_5_code
def yPD_addTo : MethodName := ⟨"DeltaViews$Pending", "addTo", "(LDeltaViews$Rows;I)V"⟩
abbrev cRW_hasBelowZero : ByteArray := prog_9_method_11_code
def yRW_hasBelowZero : MethodName := ⟨"DeltaViews$Rows", "hasBelowZero", "()Z"⟩
abbrev cDV_fillNextTables : ByteArray := prog_1_method_32_code
def yDV_fillNextTables : MethodName := ⟨"DeltaViews", "fillNextTables", "()Z"⟩
abbrev cPD_clear : ByteArray := prog_8_method_3_code
def yPD_clear : MethodName := ⟨"DeltaViews$Pending", "clear", "()V"⟩
abbrev cDV_noteChangesSince : ByteArray := prog_1_method_33_code
def yDV_noteChangesSince : MethodName := ⟨"DeltaViews", "noteChangesSince", "([LDeltaViews$Rows;)I"⟩
abbrev cRW_differencesFrom : ByteArray := prog_9_method_15_code
def yRW_differencesFrom : MethodName := ⟨"DeltaViews$Rows", "differencesFrom", "(LDeltaViews$Rows;)I"⟩
abbrev cRW_weightOf : ByteArray := prog_9_method_5_code
def yRW_weightOf : MethodName := ⟨"DeltaViews$Rows", "weightOf", "(III)J"⟩
abbrev cDV_drop : ByteArray := prog_1_method_11_code
def yDV_drop : MethodName := ⟨"DeltaViews", "drop", "()I"⟩
abbrev cDV_weight : ByteArray := prog_1_method_12_code
def yDV_weight : MethodName := ⟨"DeltaViews", "weight", "(IIII)J"⟩
abbrev cDV_rowsOf : ByteArray := prog_1_method_26_code
def yDV_rowsOf : MethodName := ⟨"DeltaViews", "rowsOf", "(I)LDeltaViews$Rows;"⟩
abbrev cDV_inTable : ByteArray := prog_1_method_13_code
def yDV_inTable : MethodName := ⟨"DeltaViews", "inTable", "(IIII)J"⟩
abbrev cDV_rows : ByteArray := prog_1_method_14_code
def yDV_rows : MethodName := ⟨"DeltaViews", "rows", "(I)I"⟩
abbrev cDV_cell : ByteArray := prog_1_method_15_code
def yDV_cell : MethodName := ⟨"DeltaViews", "cell", "(III)J"⟩
abbrev cDV_total : ByteArray := prog_1_method_16_code
def yDV_total : MethodName := ⟨"DeltaViews", "total", "(I)J"⟩
abbrev cRW_sumOfWeights : ByteArray := prog_9_method_13_code
def yRW_sumOfWeights : MethodName := ⟨"DeltaViews$Rows", "sumOfWeights", "()J"⟩
abbrev cDV_changed : ByteArray := prog_1_method_17_code
def yDV_changed : MethodName := ⟨"DeltaViews", "changed", "(I)I"⟩
abbrev cDV_mean : ByteArray := prog_1_method_18_code
def yDV_mean : MethodName := ⟨"DeltaViews", "mean", "(II)D"⟩
abbrev cRW_weightedSum : ByteArray := prog_9_method_14_code
def yRW_weightedSum : MethodName := ⟨"DeltaViews$Rows", "weightedSum", "(I)J"⟩
abbrev cDV_count : ByteArray := prog_1_method_19_code
def yDV_count : MethodName := ⟨"DeltaViews", "count", "(I)I"⟩
abbrev cMD_init : ByteArray := prog_13_method_1_code
def yMD_init : MethodName := ⟨"DeltaViewsModel", "<init>", "()V"⟩
abbrev cMD_table : ByteArray := prog_13_method_16_code
def yMD_table : MethodName := ⟨"DeltaViewsModel", "table", "(I)I"⟩
abbrev cMD_out : ByteArray := prog_13_method_2_code
def yMD_out : MethodName := ⟨"DeltaViewsModel", "out", "(II)Z"⟩
abbrev cMD_make : ByteArray := prog_13_method_15_code
def yMD_make : MethodName := ⟨"DeltaViewsModel", "make", "(IIIIII)I"⟩
abbrev cMD_evaluate : ByteArray := prog_13_method_14_code
def yMD_evaluate : MethodName := ⟨"DeltaViewsModel", "evaluate", "(II)Z"⟩
abbrev cMD_joinOne : ByteArray := prog_13_method_11_code
def yMD_joinOne : MethodName := ⟨"DeltaViewsModel", "joinOne", "(III)V"⟩
abbrev cMD_column : ByteArray := prog_13_method_6_code
def yMD_column : MethodName := ⟨"DeltaViewsModel", "column", "(II)I"⟩
abbrev cMD_picked : ByteArray := prog_13_method_10_code
def yMD_picked : MethodName := ⟨"DeltaViewsModel", "picked", "(III)I"⟩
abbrev cMD_emit : ByteArray := prog_13_method_3_code
def yMD_emit : MethodName := ⟨"DeltaViewsModel", "emit", "(IIIJ)V"⟩
abbrev cMD_unary : ByteArray := prog_13_method_13_code
def yMD_unary : MethodName := ⟨"DeltaViewsModel", "unary", "(III)V"⟩
abbrev cMD_passes : ByteArray := prog_13_method_8_code
def yMD_passes : MethodName := ⟨"DeltaViewsModel", "passes", "(III)Z"⟩
abbrev cMD_mapped : ByteArray := prog_13_method_9_code
def yMD_mapped : MethodName := ⟨"DeltaViewsModel", "mapped", "(II)I"⟩
abbrev cMD_grouped : ByteArray := prog_13_method_12_code
def yMD_grouped : MethodName := ⟨"DeltaViewsModel", "grouped", "(III)I"⟩
abbrev cMD_settle : ByteArray := prog_13_method_5_code
def yMD_settle : MethodName := ⟨"DeltaViewsModel", "settle", "(II)Z"⟩
abbrev cMD_before : ByteArray := prog_13_method_4_code
def yMD_before : MethodName := ⟨"DeltaViewsModel", "before", "(II)Z"⟩
abbrev cMD_filter : ByteArray := prog_13_method_17_code
def yMD_filter : MethodName := ⟨"DeltaViewsModel", "filter", "(IIII)I"⟩
abbrev cMD_map : ByteArray := prog_13_method_18_code
def yMD_map : MethodName := ⟨"DeltaViewsModel", "map", "(IIII)I"⟩
abbrev cMD_join : ByteArray := prog_13_method_19_code
def yMD_join : MethodName := ⟨"DeltaViewsModel", "join", "(IIIII)I"⟩
abbrev cMD_combine : ByteArray := prog_13_method_20_code
def yMD_combine : MethodName := ⟨"DeltaViewsModel", "combine", "(III)I"⟩
abbrev cMD_distinct : ByteArray := prog_13_method_21_code
def yMD_distinct : MethodName := ⟨"DeltaViewsModel", "distinct", "(I)I"⟩
abbrev cMD_group : ByteArray := prog_13_method_22_code
def yMD_group : MethodName := ⟨"DeltaViewsModel", "group", "(IIII)I"⟩
abbrev cMD_change : ByteArray := prog_13_method_23_code
def yMD_change : MethodName := ⟨"DeltaViewsModel", "change", "(IIIII)I"⟩
abbrev cMD_step : ByteArray := prog_13_method_27_code
def yMD_step : MethodName := ⟨"DeltaViewsModel", "step", "()I"⟩
abbrev cMD_workTable : ByteArray := prog_13_method_24_code
def yMD_workTable : MethodName := ⟨"DeltaViewsModel", "workTable", "(I)V"⟩
abbrev cMD_differing : ByteArray := prog_13_method_25_code
def yMD_differing : MethodName := ⟨"DeltaViewsModel", "differing", "(I)I"⟩
abbrev cMD_weightIn : ByteArray := prog_13_method_7_code
def yMD_weightIn : MethodName := ⟨"DeltaViewsModel", "weightIn", "(IIII)J"⟩
abbrev cMD_adopt : ByteArray := prog_13_method_26_code
def yMD_adopt : MethodName := ⟨"DeltaViewsModel", "adopt", "(I)V"⟩
abbrev cMD_drop : ByteArray := prog_13_method_28_code
def yMD_drop : MethodName := ⟨"DeltaViewsModel", "drop", "()I"⟩
abbrev cMD_weight : ByteArray := prog_13_method_29_code
def yMD_weight : MethodName := ⟨"DeltaViewsModel", "weight", "(IIII)J"⟩
abbrev cMD_inTable : ByteArray := prog_13_method_30_code
def yMD_inTable : MethodName := ⟨"DeltaViewsModel", "inTable", "(IIII)J"⟩
abbrev cMD_rows : ByteArray := prog_13_method_31_code
def yMD_rows : MethodName := ⟨"DeltaViewsModel", "rows", "(I)I"⟩
abbrev cMD_cell : ByteArray := prog_13_method_32_code
def yMD_cell : MethodName := ⟨"DeltaViewsModel", "cell", "(III)J"⟩
abbrev cMD_total : ByteArray := prog_13_method_33_code
def yMD_total : MethodName := ⟨"DeltaViewsModel", "total", "(I)J"⟩
abbrev cMD_changed : ByteArray := prog_13_method_34_code
def yMD_changed : MethodName := ⟨"DeltaViewsModel", "changed", "(I)I"⟩
abbrev cMD_mean : ByteArray := prog_13_method_35_code
def yMD_mean : MethodName := ⟨"DeltaViewsModel", "mean", "(II)D"⟩
abbrev cMD_count : ByteArray := prog_13_method_36_code
def yMD_count : MethodName := ⟨"DeltaViewsModel", "count", "(I)I"⟩
end
section
/-! MINI-KIT: a judgement V over an abstract heap (a function from addresses to cells): one row an instruction, no world to cut. -/
abbrev AH : Type := Nat → Option va_E
abbrev Om : Type := va_G × (Nat → ClassId) × Nat
def xk_tys (o : Om) : List (ClassId × FieldType) := [(o.2.1 0, .int), (o.2.1 1, .long), (o.2.1 2, .object "DeltaViews$Rows"), (o.2.1 3, .object "DeltaViews$Rule")]
def Hp (o : Om) (h : AH) (H : Heap) : Prop := ∃ ws : va_W, va_P o.1 vwCl ws H ∧ va_D (fun q : Nat => o.2.2 ≤ q) ws ∧ ∀ (a : Nat) (x : va_E), h a = some x → ∃ k : Nat, ws[k]? = some (a, x)
def hu (h : AH) (a : Nat) (x : va_E) : AH := fun q => if q = a then some x else h q
theorem hu_eq (h : AH) (a : Nat) (x : va_E) : hu h a x a = some x := by simp [hu]
theorem hu_ne (h : AH) {a q : Nat} (x : va_E) (hq : q ≠ a) : hu h a x q = h q := by simp [hu, hq]
theorem hu_hu (h : AH) (a : Nat) (x y : va_E) : hu (hu h a x) a y = hu h a y := by
  funext q; simp only [hu]; split <;> rfl
theorem hu_comm (h : AH) {a b : Nat} (x y : va_E) (hq : a ≠ b) : hu (hu h a x) b y = hu (hu h b y) a x := by
  funext q; simp only [hu]
  by_cases h1 : q = a
  · subst h1; simp [hq]
  · by_cases h2 : q = b
    · subst h2; simp [Ne.symm hq]
    · simp [h1, h2]
theorem hu_self {h : AH} {a : Nat} {x : va_E} (e : h a = some x) : hu h a x = h := by
  funext q; simp only [hu]; split
  · next hq => rw [hq, e]
  · rfl
theorem Hp.lt {o : Om} {h : AH} {H : Heap} (hp : Hp o h H) {a : Nat} {x : va_E} (e : h a = some x) : a < H.size := by
  obtain ⟨ws, hP, -, hh⟩ := hp
  obtain ⟨k, hk⟩ := hh a x e
  exact (hP k _ hk).lt
theorem Hp.set {o : Om} {h : AH} {ws : va_W} {k a : Nat} {x0 x : va_E} (hD : va_D (fun q : Nat => o.2.2 ≤ q) ws) (hk : ws[k]? = some (a, x0)) (hh : ∀ (b : Nat) (y : va_E), h b = some y → ∃ k : Nat, ws[k]? = some (b, y)) : ∀ (b : Nat) (y : va_E), hu h a x b = some y → ∃ j : Nat, (ws.set k (a, x))[j]? = some (b, y) := by
  intro b y hb
  have hl := (List.getElem?_eq_some_iff.mp hk).1
  by_cases hq : b = a
  · subst hq
    rw [hu_eq] at hb
    cases hb
    exact ⟨k, List.getElem?_set_self hl⟩
  · rw [hu_ne h x hq] at hb
    obtain ⟨j, hj⟩ := hh b y hb
    refine ⟨j, ?_⟩
    rw [List.getElem?_set_ne (fun z => hq ?_)]
    · exact hj
    · subst z
      rw [hk] at hj
      exact (congrArg Prod.fst (Option.some.inj hj)).symm
theorem Hp.push {h : AH} {ws : va_W} {a : Nat} {x : va_E} (hh : ∀ (b : Nat) (y : va_E), h b = some y → ∃ k : Nat, ws[k]? = some (b, y)) : ∀ (b : Nat) (y : va_E), hu h a x b = some y → ∃ j : Nat, (ws ++ [(a, x)])[j]? = some (b, y) := by
  intro b y hb
  by_cases hq : b = a
  · subst hq
    rw [hu_eq] at hb
    cases hb
    exact ⟨ws.length, by simp⟩
  · rw [hu_ne h x hq] at hb
    obtain ⟨j, hj⟩ := hh b y hb
    exact ⟨j, by rw [List.getElem?_append_left (List.getElem?_eq_some_iff.mp hj).1]; exact hj⟩
theorem Hp.fresh {o : Om} {h : AH} {ws : va_W} {a : Nat} {x : va_E} (hD : va_D (fun q : Nat => o.2.2 ≤ q) (ws ++ [(a, x)])) (hh : ∀ (b : Nat) (y : va_E), h b = some y → ∃ k : Nat, ws[k]? = some (b, y)) : h a = none := by
  cases hc : h a with
  | none => rfl
  | some y =>
    exfalso
    obtain ⟨k, hk⟩ := hh a y hc
    have hl := (List.getElem?_eq_some_iff.mp hk).1
    have h1 : (ws ++ [(a, x)])[k]? = some (a, y) := by rw [List.getElem?_append_left hl]; exact hk
    have h2 : (ws ++ [(a, x)])[ws.length]? = some (a, x) := by simp
    have := hD.1 k ws.length _ _ h1 h2 rfl
    omega
abbrev Kx := Program × Launch × Env × Room × State × MethodId × Array Value × List Frame × Method × Code × Nat × Om
abbrev Kp (K : Kx) : Program := K.1
abbrev Kl (K : Kx) : Launch := K.2.1
abbrev Ke (K : Kx) : Env := K.2.2.1
abbrev KR (K : Kx) : Room := K.2.2.2.1
abbrev Ks (K : Kx) : State := K.2.2.2.2.1
abbrev Km (K : Kx) : MethodId := K.2.2.2.2.2.1
abbrev Ka (K : Kx) : Array Value := K.2.2.2.2.2.2.1
abbrev Kb (K : Kx) : List Frame := K.2.2.2.2.2.2.2.1
abbrev Kme (K : Kx) : Method := K.2.2.2.2.2.2.2.2.1
abbrev Kc (K : Kx) : Code := K.2.2.2.2.2.2.2.2.2.1
abbrev Kn (K : Kx) : Nat := K.2.2.2.2.2.2.2.2.2.2.1
abbrev Ko (K : Kx) : Om := K.2.2.2.2.2.2.2.2.2.2.2
abbrev fr (o : Om) : Nat → Prop := fun q => o.2.2 ≤ q
def V (K : Kx) (h : AH) (cells slots : Nat) (Q : State → Prop) (pc : Nat) (ls : List (Nat × Value)) (st : List Value) : Prop :=
  ∀ (H : Heap) (locs : List Loc) (la : Array Slot), Hp (Ko K) h H → va_S (fr (Ko K)) (Ks K).heap H locs → lv_has la (Kn K) ls →
    W (Kp K) (Kl K) (Ke K) (KR K) (Ks K) (Km K) (Ka K) (Kb K) (Kme K) (Kc K) H locs cells slots Q (F0 (Km K) pc la st)
def Cx (K : Kx) (cc : ByteArray) (nL : Nat) (own : String) (rm : Room) (ret : Option FieldType) (nm : String) : Prop :=
  CallFix (Kp K) (Km K) (Kc K) cc (Kn K) (Ks K) (Ka K) tblG own ∧ va_K (Ko K).1 vwCl (xk_tys (Ko K)) (Ks K) ∧ (Ko K).2.2 ≤ (Ks K).heap.size ∧ KR K = rm ∧ (Kme K).sig.returnType = ret ∧ (Kme K).locks = false ∧ (Kme K).name = nm ∧ Kn K = nL
/-- a local by its number -/
def lk : List (Nat × Value) → Nat → Option Value
  | [], _ => none
  | q :: r, i => match Nat.beq q.1 i with
    | true => some q.2
    | false => lk r i
theorem lk_mem : ∀ {ls : List (Nat × Value)} {i : Nat} {v : Value}, lk ls i = some v → (i, v) ∈ ls
  | [], i, v, h => by simp [lk] at h
  | q :: r, i, v, h => by
    unfold lk at h
    cases hq : Nat.beq q.1 i with
    | true =>
      rw [hq] at h
      have e : q.1 = i := Nat.eq_of_beq_eq_true hq
      have e2 : q.2 = v := Option.some.inj h
      rw [← e, ← e2]
      exact List.mem_cons_self
    | false =>
      rw [hq] at h
      exact List.mem_cons_of_mem _ (lk_mem h)
abbrev s1 (i : Nat) (v : Value) (ls : List (Nat × Value)) : List (Nat × Value) := (i, v) :: ls.filter (fun q => !(q.1 == i) && !(q.1 + 1 == i && q.2.category == 2))
abbrev s2 (i : Nat) (v : Value) (ls : List (Nat × Value)) : List (Nat × Value) := (i, v) :: ls.filter (fun q => !(q.1 == i) && (!(q.1 == i + 1) && !(q.1 + 1 == i && q.2.category == 2)))
def PB (o : Om) (h : AH) (U : State) : Prop := Hp o h U.heap ∧ va_K o.1 vwCl (xk_tys o) U ∧ o.2.2 ≤ U.heap.size
def HB (o : Om) (h : AH) (t : State) : Prop := Hp o h t.heap
def HBr (o : Om) (u : AH × Nat) (a : Nat) (t : State) : Prop := u.2 = a ∧ Hp o u.1 t.heap
abbrev EndQ (K : Kx) (Qc : Array Value → State → Outcome → State → Prop) (mc ms : Nat) : State → Prop := MQ (Kb K) Qc (Ka K) (Ks K) mc ms (fr (Ko K))
abbrev QI (o : Om) (post : Int32 → AH → Prop) : Array Value → State → Outcome → State → Prop := va_Qi post (HB o) (fr o)
abbrev QL (o : Om) (post : Int64 → AH → Prop) : Array Value → State → Outcome → State → Prop := va_Ql post (HB o) (fr o)
abbrev QD (o : Om) (post : UInt64 → AH → Prop) : Array Value → State → Outcome → State → Prop := va_Qd post (HB o) (fr o)
abbrev QV (o : Om) (post : AH → Prop) : Array Value → State → Outcome → State → Prop := va_Qv post (HB o) (fr o)
abbrev QR (o : Om) (post : AH × Nat → Prop) : Array Value → State → Outcome → State → Prop := va_Qr post (HBr o) (fr o)
/-- a method's contract: from args avs and abstract heap h -/
abbrev Mt (l : Launch) (o : Om) (y : MethodName) (cc : ByteArray) (nL : Nat) (ret : Option FieldType) (rm : Room) (avs : List Value) (h : AH) (Qc : Array Value → State → Outcome → State → Prop) (mc ms : Nat) : Prop := Met l y (Cond.code y cc nL ret :: tblG) rm (va_Pc avs (PB o h)) Qc mc ms (fr o)
theorem Met.ofV {l : Launch} {o : Om} {y : MethodName} {rm : Room} {avs : List Value} {h : AH} {Qc : Array Value → State → Outcome → State → Prop} {mc ms : Nat} {cc : ByteArray} {nL : Nat} {ret : Option FieldType} (hy : plainName y.cls = true) (hsl : (lg_sl avs).length ≤ nL)
    (body : ∀ K : Kx, Kl K = l → Ko K = o → Cx K cc nL y.cls rm ret y.name → V K h 0 0 (EndQ K Qc mc ms) 0 (lv_args 0 avs) []) : Mt l o y cc nL ret rm avs h Qc mc ms := by
  refine Met.ofW (cc := cc) (maxL := nL) (ret := ret) hy rfl ?_
  intro p e s m args below meth c s₁ B hml hv
  obtain ⟨rfl, hp, hK, hb0⟩ := hv
  have hts := atoms_spec (ws := Cond.code y cc nL ret :: tblG) B.pre
  have hown : s.vm.findClass y.cls = some m.cls := findClass_of_methodNamed B.named
  have hin : meth.name = y.name := (name_of_methodNamed B.named B.method).1
  have hl := lv_entry avs (n := nL) hsl
  rw [lg_entry_eq]
  exact body (p, l, e, rm, s, m, avs.toArray, below, meth, c, nL, o) rfl rfl ⟨⟨B.exec, B.bytes, hml, hown, fun w hw => hts w (List.mem_cons_of_mem _ hw)⟩, hK, hb0, rfl, B.returns, B.notSynchronized, hin, rfl⟩ s.heap [] _ hp va_S.rf hl
theorem good_code {w0 : Cond} (h : w0 ∈ tblG) : ∀ w ∈ w0 :: tblG, w ∈ tblG := List.forall_mem_cons.mpr ⟨h, fun _ h => h⟩
theorem good_of {a : List Cond} (ha : ∀ w ∈ a, w ∈ tblG) : GoodIn tblG a := fun w h => ⟨ha w h, tgood w (ha w h)⟩
theorem mem4 {P : Cond → Prop} {a b c d : Cond} {l : List Cond} (ha : P a) (hb : P b) (hc : P c) (hd : P d) (hl : ∀ w ∈ l, P w) : ∀ w ∈ [a, b, c, d] ++ l, P w := List.forall_mem_cons.mpr ⟨ha, List.forall_mem_cons.mpr ⟨hb, List.forall_mem_cons.mpr ⟨hc, List.forall_mem_cons.mpr ⟨hd, hl⟩⟩⟩⟩
theorem mem3 {P : Cond → Prop} {a b c : Cond} {l : List Cond} (ha : P a) (hb : P b) (hc : P c) (hl : ∀ w ∈ l, P w) : ∀ w ∈ [a, b, c] ++ l, P w := List.forall_mem_cons.mpr ⟨ha, List.forall_mem_cons.mpr ⟨hb, List.forall_mem_cons.mpr ⟨hc, hl⟩⟩⟩
section XK
variable {K : Kx} {h : AH} {cells slots : Nat} {Q : State → Prop} {pc n : Nat} {ls : List (Nat × Value)} {st : List Value} {cc : ByteArray} {nL : Nat} {own nm : String} {rm : Room} {ret : Option FieldType}
theorem V.less {ls' : List (Nat × Value)} (hs : ∀ q ∈ ls', q ∈ ls) (k : V K h cells slots Q pc ls' st) : V K h cells slots Q pc ls st := fun H locs la hp hS hl => k H locs la hp hS ⟨hl.1, hl.2.1, fun q hq => hl.2.2 q (hs q hq)⟩
/-- fewer locals, by their numbers -/
theorem V.byk {ls' : List (Nat × Value)} (hs : ls'.map (fun q => lk ls q.1) = ls'.map (fun q => some q.2)) (k : V K h cells slots Q pc ls' st) : V K h cells slots Q pc ls st := by
  refine V.less (fun q hq => ?_) k
  have : lk ls q.1 = some q.2 := by
    have h2 := List.map_inj_left.mp hs q hq
    exact h2
  exact lk_mem this
theorem V.widen {k n : Nat} (h1 : cells ≤ k) (h2 : slots ≤ n) (kk : V K h k n Q pc ls st) : V K h cells slots Q pc ls st := fun H locs la hp hS hl => W.widen h1 h2 (kk H locs la hp hS hl)
theorem V.nami {x : Int32} (k : ∀ y : Int32, y = x → V K h cells slots Q pc ls (.int y :: st)) : V K h cells slots Q pc ls (.int x :: st) := k x rfl
theorem V.naml {x : Int64} (k : ∀ y : Int64, y = x → V K h cells slots Q pc ls (.long y :: st)) : V K h cells slots Q pc ls (.long x :: st) := k x rfl
theorem V.eqi {x y : Int32} (e : x = y) (k : V K h cells slots Q pc ls (.int y :: st)) : V K h cells slots Q pc ls (.int x :: st) := e ▸ k
theorem V.eql {x y : Int64} (e : x = y) (k : V K h cells slots Q pc ls (.long y :: st)) : V K h cells slots Q pc ls (.long x :: st) := e ▸ k
theorem V.eqh {h' : AH} (e : h = h') (k : V K h' cells slots Q pc ls st) : V K h cells slots Q pc ls st := e ▸ k
theorem V.pos {P : Prop} (hP : ∀ H : Heap, Hp (Ko K) h H → P) (k : P → V K h cells slots Q pc ls st) : V K h cells slots Q pc ls st := fun H locs la hp hS hl => k (hP H hp) H locs la hp hS hl
theorem r_iconst {i : Int} {v : Int32} (C : Cx K cc nL own rm ret nm) (d : decode cc pc = .ok (.iconst i, 1)) (hn : pc + 1 = n) (hv : Int32.ofInt i = v) (k : V K h cells slots Q n ls (.int v :: st)) : V K h cells slots Q pc ls (st) := by
  subst hn; exact fun H locs la hp hS hl => lv_iconst C.1.1 C.1.2.1 d hv (k H locs la hp hS hl)
theorem r_bipush {i : Int} {v : Int32} (C : Cx K cc nL own rm ret nm) (d : decode cc pc = .ok (.bipush i, 2)) (hn : pc + 2 = n) (hv : (Int8.ofInt i).toInt32 = v) (k : V K h cells slots Q n ls (.int v :: st)) : V K h cells slots Q pc ls (st) := by
  subst hn; exact fun H locs la hp hS hl => lv_bipush C.1.1 C.1.2.1 d hv (k H locs la hp hS hl)
theorem r_sipush {i : Int} {v : Int32} (C : Cx K cc nL own rm ret nm) (d : decode cc pc = .ok (.sipush i, 3)) (hn : pc + 3 = n) (hv : (Int16.ofInt i).toInt32 = v) (k : V K h cells slots Q n ls (.int v :: st)) : V K h cells slots Q pc ls (st) := by
  subst hn; exact fun H locs la hp hS hl => lv_sipush C.1.1 C.1.2.1 d hv (k H locs la hp hS hl)
theorem r_lconst {i : Fin 2} {v : Int64} (C : Cx K cc nL own rm ret nm) (d : decode cc pc = .ok (.lconst i, 1)) (hn : pc + 1 = n) (hv : Int64.ofNat (i : Nat) = v) (k : V K h cells slots Q n ls (.long v :: st)) : V K h cells slots Q pc ls (st) := by
  subst hn; exact fun H locs la hp hS hl => lv_lconst C.1.1 C.1.2.1 d hv (k H locs la hp hS hl)
theorem r_dconst0  (C : Cx K cc nL own rm ret nm) (d : decode cc pc = .ok (.dconst 0, 1)) (hn : pc + 1 = n)  (k : V K h cells slots Q n ls (.double FP.dconst0 :: st)) : V K h cells slots Q pc ls (st) := by
  subst hn; exact fun H locs la hp hS hl => lv_dconst0 C.1.1 C.1.2.1 d  (k H locs la hp hS hl)
theorem r_iload_n {k : Fin 4} {x : Int32} (C : Cx K cc nL own rm ret nm) (d : decode cc pc = .ok (.iload_n k, 1)) (hn : pc + 1 = n) (hi : lk ls k.val = some (.int x)) (kk : V K h cells slots Q n ls (.int x :: st)) : V K h cells slots Q pc ls st := by
  subst hn; exact fun H locs la hp hS hl => lv_iload_n C.1.1 C.1.2.1 d rfl (hl.2.2 _ (lk_mem hi)) (kk H locs la hp hS hl)
theorem r_iload {i : Nat} {x : Int32} (C : Cx K cc nL own rm ret nm) (d : decode cc pc = .ok (.iload i, 2)) (hn : pc + 2 = n) (hi : lk ls i = some (.int x)) (kk : V K h cells slots Q n ls (.int x :: st)) : V K h cells slots Q pc ls st := by
  subst hn; exact fun H locs la hp hS hl => lv_iload C.1.1 C.1.2.1 d (hl.2.2 _ (lk_mem hi)) (kk H locs la hp hS hl)
theorem r_istore_n {k : Fin 4} {x : Int32} (C : Cx K cc nL own rm ret nm) (d : decode cc pc = .ok (.istore_n k, 1)) (hn : pc + 1 = n) (hi : k.val < nL) (kk : V K h cells slots Q n (s1 k.val (.int x) ls) st) : V K h cells slots Q pc ls (.int x :: st) := by
  subst hn; exact fun H locs la hp hS hl => lv_istore_n C.1.1 C.1.2.1 d rfl hl (by rw [C.2.2.2.2.2.2.2]; exact hi) rfl (fun la' hl' => kk H locs la' hp hS hl')
theorem r_istore {i : Nat} {x : Int32} (C : Cx K cc nL own rm ret nm) (d : decode cc pc = .ok (.istore i, 2)) (hn : pc + 2 = n) (hi : i < nL) (kk : V K h cells slots Q n (s1 i (.int x) ls) st) : V K h cells slots Q pc ls (.int x :: st) := by
  subst hn; exact fun H locs la hp hS hl => lv_istore C.1.1 C.1.2.1 d hl (by rw [C.2.2.2.2.2.2.2]; exact hi) rfl (fun la' hl' => kk H locs la' hp hS hl')
theorem r_lload_n {k : Fin 4} {x : Int64} (C : Cx K cc nL own rm ret nm) (d : decode cc pc = .ok (.lload_n k, 1)) (hn : pc + 1 = n) (hi : lk ls k.val = some (.long x)) (kk : V K h cells slots Q n ls (.long x :: st)) : V K h cells slots Q pc ls st := by
  subst hn; exact fun H locs la hp hS hl => lv_lload_n C.1.1 C.1.2.1 d rfl (hl.2.2 _ (lk_mem hi)) (kk H locs la hp hS hl)
theorem r_lload {i : Nat} {x : Int64} (C : Cx K cc nL own rm ret nm) (d : decode cc pc = .ok (.lload i, 2)) (hn : pc + 2 = n) (hi : lk ls i = some (.long x)) (kk : V K h cells slots Q n ls (.long x :: st)) : V K h cells slots Q pc ls st := by
  subst hn; exact fun H locs la hp hS hl => lv_lload C.1.1 C.1.2.1 d (hl.2.2 _ (lk_mem hi)) (kk H locs la hp hS hl)
theorem r_lstore_n {k : Fin 4} {x : Int64} (C : Cx K cc nL own rm ret nm) (d : decode cc pc = .ok (.lstore_n k, 1)) (hn : pc + 1 = n) (hi : k.val + 1 < nL) (kk : V K h cells slots Q n (s2 k.val (.long x) ls) st) : V K h cells slots Q pc ls (.long x :: st) := by
  subst hn; exact fun H locs la hp hS hl => lv_lstore_n C.1.1 C.1.2.1 d rfl hl (by rw [C.2.2.2.2.2.2.2]; exact hi) rfl (fun la' hl' => kk H locs la' hp hS hl')
theorem r_lstore {i : Nat} {x : Int64} (C : Cx K cc nL own rm ret nm) (d : decode cc pc = .ok (.lstore i, 2)) (hn : pc + 2 = n) (hi : i + 1 < nL) (kk : V K h cells slots Q n (s2 i (.long x) ls) st) : V K h cells slots Q pc ls (.long x :: st) := by
  subst hn; exact fun H locs la hp hS hl => lv_lstore C.1.1 C.1.2.1 d hl (by rw [C.2.2.2.2.2.2.2]; exact hi) rfl (fun la' hl' => kk H locs la' hp hS hl')
theorem r_aload_n {k : Fin 4} {x : Nat} (C : Cx K cc nL own rm ret nm) (d : decode cc pc = .ok (.aload_n k, 1)) (hn : pc + 1 = n) (hi : lk ls k.val = some (.ref x)) (kk : V K h cells slots Q n ls (.ref x :: st)) : V K h cells slots Q pc ls st := by
  subst hn; exact fun H locs la hp hS hl => lv_aload_n C.1.1 C.1.2.1 d rfl (hl.2.2 _ (lk_mem hi)) (kk H locs la hp hS hl)
theorem r_aload {i : Nat} {x : Nat} (C : Cx K cc nL own rm ret nm) (d : decode cc pc = .ok (.aload i, 2)) (hn : pc + 2 = n) (hi : lk ls i = some (.ref x)) (kk : V K h cells slots Q n ls (.ref x :: st)) : V K h cells slots Q pc ls st := by
  subst hn; exact fun H locs la hp hS hl => lv_aload C.1.1 C.1.2.1 d (hl.2.2 _ (lk_mem hi)) (kk H locs la hp hS hl)
theorem r_astore_n {k : Fin 4} {x : Nat} (C : Cx K cc nL own rm ret nm) (d : decode cc pc = .ok (.astore_n k, 1)) (hn : pc + 1 = n) (hi : k.val < nL) (kk : V K h cells slots Q n (s1 k.val (.ref x) ls) st) : V K h cells slots Q pc ls (.ref x :: st) := by
  subst hn; exact fun H locs la hp hS hl => lv_astore_n C.1.1 C.1.2.1 d rfl hl (by rw [C.2.2.2.2.2.2.2]; exact hi) rfl (fun la' hl' => kk H locs la' hp hS hl')
theorem r_astore {i : Nat} {x : Nat} (C : Cx K cc nL own rm ret nm) (d : decode cc pc = .ok (.astore i, 2)) (hn : pc + 2 = n) (hi : i < nL) (kk : V K h cells slots Q n (s1 i (.ref x) ls) st) : V K h cells slots Q pc ls (.ref x :: st) := by
  subst hn; exact fun H locs la hp hS hl => lv_astore C.1.1 C.1.2.1 d hl (by rw [C.2.2.2.2.2.2.2]; exact hi) rfl (fun la' hl' => kk H locs la' hp hS hl')
theorem r_dload_n {k : Fin 4} {x : UInt64} (C : Cx K cc nL own rm ret nm) (d : decode cc pc = .ok (.dload_n k, 1)) (hn : pc + 1 = n) (hi : lk ls k.val = some (.double x)) (kk : V K h cells slots Q n ls (.double x :: st)) : V K h cells slots Q pc ls st := by
  subst hn; exact fun H locs la hp hS hl => lv_dload_n C.1.1 C.1.2.1 d rfl (hl.2.2 _ (lk_mem hi)) (kk H locs la hp hS hl)
theorem r_dload {i : Nat} {x : UInt64} (C : Cx K cc nL own rm ret nm) (d : decode cc pc = .ok (.dload i, 2)) (hn : pc + 2 = n) (hi : lk ls i = some (.double x)) (kk : V K h cells slots Q n ls (.double x :: st)) : V K h cells slots Q pc ls st := by
  subst hn; exact fun H locs la hp hS hl => lv_dload C.1.1 C.1.2.1 d (hl.2.2 _ (lk_mem hi)) (kk H locs la hp hS hl)
theorem r_dstore_n {k : Fin 4} {x : UInt64} (C : Cx K cc nL own rm ret nm) (d : decode cc pc = .ok (.dstore_n k, 1)) (hn : pc + 1 = n) (hi : k.val + 1 < nL) (kk : V K h cells slots Q n (s2 k.val (.double x) ls) st) : V K h cells slots Q pc ls (.double x :: st) := by
  subst hn; exact fun H locs la hp hS hl => lv_dstore_n C.1.1 C.1.2.1 d rfl hl (by rw [C.2.2.2.2.2.2.2]; exact hi) rfl (fun la' hl' => kk H locs la' hp hS hl')
theorem r_dstore {i : Nat} {x : UInt64} (C : Cx K cc nL own rm ret nm) (d : decode cc pc = .ok (.dstore i, 2)) (hn : pc + 2 = n) (hi : i + 1 < nL) (kk : V K h cells slots Q n (s2 i (.double x) ls) st) : V K h cells slots Q pc ls (.double x :: st) := by
  subst hn; exact fun H locs la hp hS hl => lv_dstore C.1.1 C.1.2.1 d hl (by rw [C.2.2.2.2.2.2.2]; exact hi) rfl (fun la' hl' => kk H locs la' hp hS hl')
theorem r_iinc {i : Nat} {z : Int} {x v : Int32} (C : Cx K cc nL own rm ret nm) (d : decode cc pc = .ok (.iinc i z, 3)) (hn : pc + 3 = n) (hi : lk ls i = some (.int x)) (hv : x + Int32.ofInt z = v) (hl : i < nL) (kk : V K h cells slots Q n (s1 i (.int v) ls) st) : V K h cells slots Q pc ls st := by
  subst hn
  obtain ⟨j, hj⟩ := List.getElem?_of_mem (lk_mem hi)
  exact fun H locs la hp hS hl0 => lv_iinc C.1.1 C.1.2.1 d hl0 hj hv (by rw [C.2.2.2.2.2.2.2]; exact hl) rfl (fun la' hl' => kk H locs la' hp hS hl')
theorem r_iadd {x y : Int32} (C : Cx K cc nL own rm ret nm) (d : decode cc pc = .ok (.iadd, 1)) (hn : pc + 1 = n)  (k : V K h cells slots Q n ls (.int (x + y) :: st)) : V K h cells slots Q pc ls (.int y :: .int x :: st) := by
  subst hn; exact fun H locs la hp hS hl => lv_iadd C.1.1 C.1.2.1 d  (k H locs la hp hS hl)
theorem r_isub {x y : Int32} (C : Cx K cc nL own rm ret nm) (d : decode cc pc = .ok (.isub, 1)) (hn : pc + 1 = n)  (k : V K h cells slots Q n ls (.int (x - y) :: st)) : V K h cells slots Q pc ls (.int y :: .int x :: st) := by
  subst hn; exact fun H locs la hp hS hl => lv_isub C.1.1 C.1.2.1 d  (k H locs la hp hS hl)
theorem r_imul {x y : Int32} (C : Cx K cc nL own rm ret nm) (d : decode cc pc = .ok (.imul, 1)) (hn : pc + 1 = n)  (k : V K h cells slots Q n ls (.int (x * y) :: st)) : V K h cells slots Q pc ls (.int y :: .int x :: st) := by
  subst hn; exact fun H locs la hp hS hl => lv_imul C.1.1 C.1.2.1 d  (k H locs la hp hS hl)
theorem r_iand {x y : Int32} (C : Cx K cc nL own rm ret nm) (d : decode cc pc = .ok (.iand, 1)) (hn : pc + 1 = n)  (k : V K h cells slots Q n ls (.int (x &&& y) :: st)) : V K h cells slots Q pc ls (.int y :: .int x :: st) := by
  subst hn; exact fun H locs la hp hS hl => lv_iand C.1.1 C.1.2.1 d  (k H locs la hp hS hl)
theorem r_ladd {x y : Int64} (C : Cx K cc nL own rm ret nm) (d : decode cc pc = .ok (.ladd, 1)) (hn : pc + 1 = n)  (k : V K h cells slots Q n ls (.long (x + y) :: st)) : V K h cells slots Q pc ls (.long y :: .long x :: st) := by
  subst hn; exact fun H locs la hp hS hl => lv_ladd C.1.1 C.1.2.1 d  (k H locs la hp hS hl)
theorem r_lsub {x y : Int64} (C : Cx K cc nL own rm ret nm) (d : decode cc pc = .ok (.lsub, 1)) (hn : pc + 1 = n)  (k : V K h cells slots Q n ls (.long (x - y) :: st)) : V K h cells slots Q pc ls (.long y :: .long x :: st) := by
  subst hn; exact fun H locs la hp hS hl => lv_lsub C.1.1 C.1.2.1 d  (k H locs la hp hS hl)
theorem r_lmul {x y : Int64} (C : Cx K cc nL own rm ret nm) (d : decode cc pc = .ok (.lmul, 1)) (hn : pc + 1 = n)  (k : V K h cells slots Q n ls (.long (x * y) :: st)) : V K h cells slots Q pc ls (.long y :: .long x :: st) := by
  subst hn; exact fun H locs la hp hS hl => lv_lmul C.1.1 C.1.2.1 d  (k H locs la hp hS hl)
theorem r_idiv {x y : Int32} (C : Cx K cc nL own rm ret nm) (d : decode cc pc = .ok (.idiv, 1)) (hn : pc + 1 = n) (hne : ¬ y = 0) (k : V K h cells slots Q n ls (.int (x / y) :: st)) : V K h cells slots Q pc ls (.int y :: .int x :: st) := by
  subst hn; exact fun H locs la hp hS hl => lv_idiv C.1.1 C.1.2.1 d hne (k H locs la hp hS hl)
theorem r_irem {x y : Int32} (C : Cx K cc nL own rm ret nm) (d : decode cc pc = .ok (.irem, 1)) (hn : pc + 1 = n) (hne : ¬ y = 0) (k : V K h cells slots Q n ls (.int (x - x / y * y) :: st)) : V K h cells slots Q pc ls (.int y :: .int x :: st) := by
  subst hn; exact fun H locs la hp hS hl => lv_irem C.1.1 C.1.2.1 d hne (k H locs la hp hS hl)
theorem r_ineg {x : Int32} (C : Cx K cc nL own rm ret nm) (d : decode cc pc = .ok (.ineg, 1)) (hn : pc + 1 = n)  (k : V K h cells slots Q n ls (.int (-x) :: st)) : V K h cells slots Q pc ls (.int x :: st) := by
  subst hn; exact fun H locs la hp hS hl => lv_ineg C.1.1 C.1.2.1 d  (k H locs la hp hS hl)
theorem r_lneg {x : Int64} (C : Cx K cc nL own rm ret nm) (d : decode cc pc = .ok (.lneg, 1)) (hn : pc + 1 = n)  (k : V K h cells slots Q n ls (.long (-x) :: st)) : V K h cells slots Q pc ls (.long x :: st) := by
  subst hn; exact fun H locs la hp hS hl => lv_lneg C.1.1 C.1.2.1 d  (k H locs la hp hS hl)
theorem r_i2l {x : Int32} (C : Cx K cc nL own rm ret nm) (d : decode cc pc = .ok (.i2l, 1)) (hn : pc + 1 = n)  (k : V K h cells slots Q n ls (.long x.toInt64 :: st)) : V K h cells slots Q pc ls (.int x :: st) := by
  subst hn; exact fun H locs la hp hS hl => lv_i2l C.1.1 C.1.2.1 d rfl (k H locs la hp hS hl)
theorem r_l2i {x : Int64} (C : Cx K cc nL own rm ret nm) (d : decode cc pc = .ok (.l2i, 1)) (hn : pc + 1 = n)  (k : V K h cells slots Q n ls (.int x.toInt32 :: st)) : V K h cells slots Q pc ls (.long x :: st) := by
  subst hn; exact fun H locs la hp hS hl => lv_l2i C.1.1 C.1.2.1 d rfl (k H locs la hp hS hl)
theorem r_l2d {x : Int64} (C : Cx K cc nL own rm ret nm) (d : decode cc pc = .ok (.l2d, 1)) (hn : pc + 1 = n)  (k : V K h cells slots Q n ls (.double (FP.l2d x) :: st)) : V K h cells slots Q pc ls (.long x :: st) := by
  subst hn; exact fun H locs la hp hS hl => lv_l2d C.1.1 C.1.2.1 d  (k H locs la hp hS hl)
theorem r_ddiv {x y : UInt64} (C : Cx K cc nL own rm ret nm) (d : decode cc pc = .ok (.ddiv, 1)) (hn : pc + 1 = n) (hne : vf_n64 (FP.ddiv x y)) (k : V K h cells slots Q n ls (.double (FP.ddiv x y) :: st)) : V K h cells slots Q pc ls (.double y :: .double x :: st) := by
  subst hn; exact fun H locs la hp hS hl => lv_ddiv C.1.1 C.1.2.1 d hne (k H locs la hp hS hl)
theorem r_dcmp {x y : UInt64} {op : CmpOp} (C : Cx K cc nL own rm ret nm) (d : decode cc pc = .ok (.dcmp op, 1)) (hn : pc + 1 = n)  (k : V K h cells slots Q n ls (.int (Op.cmpValue (FP.dcmp x y) op) :: st)) : V K h cells slots Q pc ls (.double y :: .double x :: st) := by
  subst hn; exact fun H locs la hp hS hl => lv_dcmp C.1.1 C.1.2.1 d  (k H locs la hp hS hl)
theorem r_lcmp {x y : Int64} (C : Cx K cc nL own rm ret nm) (d : decode cc pc = .ok (.lcmp, 1)) (hn : pc + 1 = n)  (k : V K h cells slots Q n ls (.int (lg_cmp x y) :: st)) : V K h cells slots Q pc ls (.long y :: .long x :: st) := by
  subst hn; exact fun H locs la hp hS hl => W.lcmp C.1.1 C.1.2.1 d  (k H locs la hp hS hl)
theorem r_dup {va : Value} (C : Cx K cc nL own rm ret nm) (d : decode cc pc = .ok (.dup, 1)) (hn : pc + 1 = n) (hva : va.category = 1) (k : V K h cells slots Q n ls (va :: va :: st)) : V K h cells slots Q pc ls (va :: st) := by
  subst hn; exact fun H locs la hp hS hl => lv_dup C.1.1 C.1.2.1 d hva (k H locs la hp hS hl)
theorem r_pop {va : Value} (C : Cx K cc nL own rm ret nm) (d : decode cc pc = .ok (.pop, 1)) (hn : pc + 1 = n) (hva : va.category = 1) (k : V K h cells slots Q n ls (st)) : V K h cells slots Q pc ls (va :: st) := by
  subst hn; exact fun H locs la hp hS hl => lv_pop C.1.1 C.1.2.1 d hva (k H locs la hp hS hl)
theorem r_pop2 {va : Value} (C : Cx K cc nL own rm ret nm) (d : decode cc pc = .ok (.pop2, 1)) (hn : pc + 1 = n) (hva : va.category = 2) (k : V K h cells slots Q n ls (st)) : V K h cells slots Q pc ls (va :: st) := by
  subst hn; exact fun H locs la hp hS hl => lv_pop2_2 C.1.1 C.1.2.1 d hva (k H locs la hp hS hl)
theorem r_dup_x1 {va vb : Value} (C : Cx K cc nL own rm ret nm) (d : decode cc pc = .ok (.dup_x1, 1)) (hn : pc + 1 = n) (hva : va.category = 1) (hvb : vb.category = 1) (k : V K h cells slots Q n ls (va :: vb :: va :: st)) : V K h cells slots Q pc ls (va :: vb :: st) := by
  subst hn; exact fun H locs la hp hS hl => lv_dup_x1 C.1.1 C.1.2.1 d hva hvb (k H locs la hp hS hl)
theorem r_dup2 {va vb : Value} (C : Cx K cc nL own rm ret nm) (d : decode cc pc = .ok (.dup2, 1)) (hn : pc + 1 = n) (hva : va.category = 1) (hvb : vb.category = 1) (k : V K h cells slots Q n ls (va :: vb :: va :: vb :: st)) : V K h cells slots Q pc ls (va :: vb :: st) := by
  subst hn; exact fun H locs la hp hS hl => lv_dup2_11 C.1.1 C.1.2.1 d hva hvb (k H locs la hp hS hl)
theorem r_if_eq {x : Int32} {off : Int} {tgt : Nat} (C : Cx K cc nL own rm ret nm) (d : decode cc pc = .ok (.ifCond .eq off, 3)) (ht : (pc : Int) + off = (tgt : Int)) (hn : pc + 3 = n) (kt : x = 0 → V K h cells slots Q tgt ls st) (kf : ¬ x = 0 → V K h cells slots Q n ls st) : V K h cells slots Q pc ls (.int x :: st) := by
  subst hn; exact fun H locs la hp hS hl => lv_if_eq C.1.1 C.1.2.1 d ht (fun c0 => kt c0 H locs la hp hS hl) (fun c0 => kf c0 H locs la hp hS hl)
theorem r_icmp_eq {x y : Int32} {off : Int} {tgt : Nat} (C : Cx K cc nL own rm ret nm) (d : decode cc pc = .ok (.if_icmp .eq off, 3)) (ht : (pc : Int) + off = (tgt : Int)) (hn : pc + 3 = n) (kt : x = y → V K h cells slots Q tgt ls st) (kf : ¬ x = y → V K h cells slots Q n ls st) : V K h cells slots Q pc ls (.int y :: .int x :: st) := by
  subst hn; exact fun H locs la hp hS hl => lv_icmp_eq C.1.1 C.1.2.1 d ht (fun c0 => kt c0 H locs la hp hS hl) (fun c0 => kf c0 H locs la hp hS hl)
theorem r_if_ne {x : Int32} {off : Int} {tgt : Nat} (C : Cx K cc nL own rm ret nm) (d : decode cc pc = .ok (.ifCond .ne off, 3)) (ht : (pc : Int) + off = (tgt : Int)) (hn : pc + 3 = n) (kt : ¬ x = 0 → V K h cells slots Q tgt ls st) (kf : x = 0 → V K h cells slots Q n ls st) : V K h cells slots Q pc ls (.int x :: st) := by
  subst hn; exact fun H locs la hp hS hl => lv_if_ne C.1.1 C.1.2.1 d ht (fun c0 => kt c0 H locs la hp hS hl) (fun c0 => kf c0 H locs la hp hS hl)
theorem r_icmp_ne {x y : Int32} {off : Int} {tgt : Nat} (C : Cx K cc nL own rm ret nm) (d : decode cc pc = .ok (.if_icmp .ne off, 3)) (ht : (pc : Int) + off = (tgt : Int)) (hn : pc + 3 = n) (kt : ¬ x = y → V K h cells slots Q tgt ls st) (kf : x = y → V K h cells slots Q n ls st) : V K h cells slots Q pc ls (.int y :: .int x :: st) := by
  subst hn; exact fun H locs la hp hS hl => lv_icmp_ne C.1.1 C.1.2.1 d ht (fun c0 => kt c0 H locs la hp hS hl) (fun c0 => kf c0 H locs la hp hS hl)
theorem r_if_lt {x : Int32} {off : Int} {tgt : Nat} (C : Cx K cc nL own rm ret nm) (d : decode cc pc = .ok (.ifCond .lt off, 3)) (ht : (pc : Int) + off = (tgt : Int)) (hn : pc + 3 = n) (kt : x < 0 → V K h cells slots Q tgt ls st) (kf : ¬ x < 0 → V K h cells slots Q n ls st) : V K h cells slots Q pc ls (.int x :: st) := by
  subst hn; exact fun H locs la hp hS hl => lv_if_lt C.1.1 C.1.2.1 d ht (fun c0 => kt c0 H locs la hp hS hl) (fun c0 => kf c0 H locs la hp hS hl)
theorem r_icmp_lt {x y : Int32} {off : Int} {tgt : Nat} (C : Cx K cc nL own rm ret nm) (d : decode cc pc = .ok (.if_icmp .lt off, 3)) (ht : (pc : Int) + off = (tgt : Int)) (hn : pc + 3 = n) (kt : x < y → V K h cells slots Q tgt ls st) (kf : ¬ x < y → V K h cells slots Q n ls st) : V K h cells slots Q pc ls (.int y :: .int x :: st) := by
  subst hn; exact fun H locs la hp hS hl => lv_icmp_lt C.1.1 C.1.2.1 d ht (fun c0 => kt c0 H locs la hp hS hl) (fun c0 => kf c0 H locs la hp hS hl)
theorem r_if_ge {x : Int32} {off : Int} {tgt : Nat} (C : Cx K cc nL own rm ret nm) (d : decode cc pc = .ok (.ifCond .ge off, 3)) (ht : (pc : Int) + off = (tgt : Int)) (hn : pc + 3 = n) (kt : 0 ≤ x → V K h cells slots Q tgt ls st) (kf : ¬ 0 ≤ x → V K h cells slots Q n ls st) : V K h cells slots Q pc ls (.int x :: st) := by
  subst hn; exact fun H locs la hp hS hl => lv_if_ge C.1.1 C.1.2.1 d ht (fun c0 => kt c0 H locs la hp hS hl) (fun c0 => kf c0 H locs la hp hS hl)
theorem r_icmp_ge {x y : Int32} {off : Int} {tgt : Nat} (C : Cx K cc nL own rm ret nm) (d : decode cc pc = .ok (.if_icmp .ge off, 3)) (ht : (pc : Int) + off = (tgt : Int)) (hn : pc + 3 = n) (kt : y ≤ x → V K h cells slots Q tgt ls st) (kf : ¬ y ≤ x → V K h cells slots Q n ls st) : V K h cells slots Q pc ls (.int y :: .int x :: st) := by
  subst hn; exact fun H locs la hp hS hl => lv_icmp_ge C.1.1 C.1.2.1 d ht (fun c0 => kt c0 H locs la hp hS hl) (fun c0 => kf c0 H locs la hp hS hl)
theorem r_if_gt {x : Int32} {off : Int} {tgt : Nat} (C : Cx K cc nL own rm ret nm) (d : decode cc pc = .ok (.ifCond .gt off, 3)) (ht : (pc : Int) + off = (tgt : Int)) (hn : pc + 3 = n) (kt : 0 < x → V K h cells slots Q tgt ls st) (kf : ¬ 0 < x → V K h cells slots Q n ls st) : V K h cells slots Q pc ls (.int x :: st) := by
  subst hn; exact fun H locs la hp hS hl => lv_if_gt C.1.1 C.1.2.1 d ht (fun c0 => kt c0 H locs la hp hS hl) (fun c0 => kf c0 H locs la hp hS hl)
theorem r_icmp_gt {x y : Int32} {off : Int} {tgt : Nat} (C : Cx K cc nL own rm ret nm) (d : decode cc pc = .ok (.if_icmp .gt off, 3)) (ht : (pc : Int) + off = (tgt : Int)) (hn : pc + 3 = n) (kt : y < x → V K h cells slots Q tgt ls st) (kf : ¬ y < x → V K h cells slots Q n ls st) : V K h cells slots Q pc ls (.int y :: .int x :: st) := by
  subst hn; exact fun H locs la hp hS hl => lv_icmp_gt C.1.1 C.1.2.1 d ht (fun c0 => kt c0 H locs la hp hS hl) (fun c0 => kf c0 H locs la hp hS hl)
theorem r_if_le {x : Int32} {off : Int} {tgt : Nat} (C : Cx K cc nL own rm ret nm) (d : decode cc pc = .ok (.ifCond .le off, 3)) (ht : (pc : Int) + off = (tgt : Int)) (hn : pc + 3 = n) (kt : x ≤ 0 → V K h cells slots Q tgt ls st) (kf : ¬ x ≤ 0 → V K h cells slots Q n ls st) : V K h cells slots Q pc ls (.int x :: st) := by
  subst hn; exact fun H locs la hp hS hl => lv_if_le C.1.1 C.1.2.1 d ht (fun c0 => kt c0 H locs la hp hS hl) (fun c0 => kf c0 H locs la hp hS hl)
theorem r_icmp_le {x y : Int32} {off : Int} {tgt : Nat} (C : Cx K cc nL own rm ret nm) (d : decode cc pc = .ok (.if_icmp .le off, 3)) (ht : (pc : Int) + off = (tgt : Int)) (hn : pc + 3 = n) (kt : x ≤ y → V K h cells slots Q tgt ls st) (kf : ¬ x ≤ y → V K h cells slots Q n ls st) : V K h cells slots Q pc ls (.int y :: .int x :: st) := by
  subst hn; exact fun H locs la hp hS hl => lv_icmp_le C.1.1 C.1.2.1 d ht (fun c0 => kt c0 H locs la hp hS hl) (fun c0 => kf c0 H locs la hp hS hl)
theorem r_goto {off : Int} {tgt : Nat} (C : Cx K cc nL own rm ret nm) (d : decode cc pc = .ok (.goto off, 3)) (ht : (pc : Int) + off = (tgt : Int)) (k : V K h cells slots Q tgt ls st) : V K h cells slots Q pc ls st := fun H locs la hp hS hl => lv_goto C.1.1 C.1.2.1 d ht (k H locs la hp hS hl)
theorem r_tableOut {dflt lo hi : Int} {offs : Array Int} {len : Nat} {x : Int32} {tgt : Nat} (C : Cx K cc nL own rm ret nm) (d : decode cc pc = .ok (.tableswitch dflt lo hi offs, len)) (hx : x.toInt < lo ∨ hi < x.toInt) (ht : (pc : Int) + dflt = (tgt : Int)) (k : V K h cells slots Q tgt ls st) : V K h cells slots Q pc ls (.int x :: st) := fun H locs la hp hS hl => lv_tableOut C.1.1 C.1.2.1 d hx ht (k H locs la hp hS hl)
theorem r_tableIn {dflt lo hi : Int} {offs : Array Int} {len : Nat} {x : Int32} {off : Int} {tgt : Nat} (C : Cx K cc nL own rm ret nm) (d : decode cc pc = .ok (.tableswitch dflt lo hi offs, len)) (h1 : ¬ x.toInt < lo) (h2 : ¬ hi < x.toInt) (ho : offs[(x.toInt - lo).toNat]? = some off) (ht : (pc : Int) + off = (tgt : Int)) (k : V K h cells slots Q tgt ls st) : V K h cells slots Q pc ls (.int x :: st) := fun H locs la hp hS hl => lv_tableIn C.1.1 C.1.2.1 d h1 h2 ho ht (k H locs la hp hS hl)
theorem r_lookup {dflt : Int} {ps : Array (Int × Int)} {len : Nat} {x : Int32} {off : Int} {tgt : Nat} (C : Cx K cc nL own rm ret nm) (d : decode cc pc = .ok (.lookupswitch dflt ps, len)) (hq : (ps.toList.zip (ps.toList.drop 1)).all (fun (a, next) => a.1 < next.1) = true) (ho : Op.lookupswitch.offset ps.toList dflt x.toInt = off) (ht : (pc : Int) + off = (tgt : Int)) (k : V K h cells slots Q tgt ls st) : V K h cells slots Q pc ls (.int x :: st) := fun H locs la hp hS hl => lv_lookup C.1.1 C.1.2.1 d hq ho ht (k H locs la hp hS hl)
theorem r_ldc {index : Nat} {v : Int32} (C : Cx K cc nL own rm ret nm) (hw : Jvm.Cond.constant own index v ∈ tblG) (d : decode cc pc = .ok (.ldc index, 2)) (hn : pc + 2 = n) (k : V K h cells slots Q n ls (.int v :: st)) : V K h cells slots Q pc ls st := by
  subst hn; exact fun H locs la hp hS hl => lv_ldc C.1.1 C.1.2.1 C.1.2.2.2.1 (C.1.2.2.2.2 _ hw) d (k H locs la hp hS hl)
theorem r_ldc2 {index : Nat} {v : Int64} (C : Cx K cc nL own rm ret nm) (hw : Jvm.Cond.constantLong own index v ∈ tblG) (d : decode cc pc = .ok (.ldc2_w index, 3)) (hn : pc + 3 = n) (k : V K h cells slots Q n ls (.long v :: st)) : V K h cells slots Q pc ls st := by
  subst hn; exact fun H locs la hp hS hl => lv_ldc2 C.1.1 C.1.2.1 C.1.2.2.2.1 (C.1.2.2.2.2 _ hw) d (k H locs la hp hS hl)
theorem r_get {ref Cn : String} {T : u_T} {N ci index a : Nat} {fs : List Value} {v : Value} (C : Cx K cc nL own rm ret nm) (hin : ∀ w ∈ u_ws Cn T N, w ∈ tblG) (hc : vwCl[ci]? = some (Cn, T, N)) (j : Nat) (hj : j < N) (hl0 : Cond.fieldLink own index ref (T j).2.1 (T j).2.2.1 ∈ tblG) (hr : (T j).1 = ref) (d : decode cc pc = .ok (.getfield index, 3)) (hn : pc + 3 = n) (ha : h a = some (.inr (ci, fs))) (hv : fs[j]? = some v) (k : V K h cells slots Q n ls (v :: st)) : V K h cells slots Q pc ls (.ref a :: st) := by
  subst hn; subst hr
  intro H locs la hp hS hl
  obtain ⟨ws, hP, -, hh⟩ := id hp
  obtain ⟨q0, hq⟩ := hh a _ ha
  exact va_get C.1.1 C.1.2.1 C.1.2.2.2.2 hin C.1.2.2.2.1 C.2.1 hP q0 hq hc j hj (C.1.2.2.2.2 _ hl0) (fun _ h9 => h9) hv d (k H locs la hp hS hl)
theorem r_getN {ref Cn host : String} {T : u_T} {N ci index a : Nat} {fs : List Value} {v : Value} (C : Cx K cc nL own rm ret nm) (hin : ∀ w ∈ u_ws Cn T N, w ∈ tblG) (hc : vwCl[ci]? = some (Cn, T, N)) (j : Nat) (hj : j < N) (hl0 : Cond.fieldLinkNest own index ref (T j).2.1 (T j).2.2.1 host ∈ tblG) (hr : (T j).1 = ref) (d : decode cc pc = .ok (.getfield index, 3)) (hn : pc + 3 = n) (ha : h a = some (.inr (ci, fs))) (hv : fs[j]? = some v) (k : V K h cells slots Q n ls (v :: st)) : V K h cells slots Q pc ls (.ref a :: st) := by
  subst hn; subst hr
  intro H locs la hp hS hl
  obtain ⟨ws, hP, -, hh⟩ := id hp
  obtain ⟨q0, hq⟩ := hh a _ ha
  exact va_getN C.1.1 C.1.2.1 C.1.2.2.2.2 hin C.1.2.2.2.1 C.2.1 hP q0 hq hc j hj (C.1.2.2.2.2 _ hl0) (fun _ h9 => h9) hv d (k H locs la hp hS hl)
theorem r_put {ref Cn : String} {T : u_T} {N ci index a : Nat} {fs : List Value} {v : Value} {ty : FieldType} (C : Cx K cc nL own rm ret nm) (hin : ∀ w ∈ u_ws Cn T N, w ∈ tblG) (ty0 : Nat → FieldType) (hty : ∀ k, k < N → parseFieldDescriptor (T k).2.2.1 = some (ty0 k)) (hnm : ∀ a, a < N → ∀ b, b < N → a ≠ b → (T a).2.1 ≠ (T b).2.1) (hc : vwCl[ci]? = some (Cn, T, N)) (j : Nat) (hj : j < N) (hl0 : Cond.fieldLink own index ref (T j).2.1 (T j).2.2.1 ∈ tblG) (hr : (T j).1 = ref) (hfin : (T j).2.2.2 = false) (hd : parseFieldDescriptor (T j).2.2.1 = some ty) (hna : narrow ty v = v) (hfit : fits ty v = true) (d : decode cc pc = .ok (.putfield index, 3)) (hn : pc + 3 = n) (ha : h a = some (.inr (ci, fs))) (hlen : j < fs.length) (k : V K (hu h a (.inr (ci, fs.set j v))) cells slots Q n ls st) : V K h cells slots Q pc ls (v :: .ref a :: st) := by
  subst hn; subst hr
  intro H locs la hp hS hl
  obtain ⟨ws, hP, hD, hh⟩ := id hp
  obtain ⟨q0, hq⟩ := hh a _ ha
  exact va_put C.1.1 C.1.2.1 C.1.2.2.2.2 hin ty0 hty hnm C.1.2.2.2.1 C.2.1 hP hD hS q0 hq hc j hj (C.1.2.2.2.2 _ hl0) (fun _ h9 => h9) hfin hd hna hfit hlen d (fun H1 locs1 hP1 hD1 hS1 => k H1 locs1 la ⟨_, hP1, hD1, Hp.set hD hq hh⟩ hS1 hl)
theorem r_putF {ref Cn : String} {T : u_T} {N ci index a : Nat} {fs : List Value} {v : Value} {ty : FieldType} (C : Cx K cc nL own rm ret nm) (hin : ∀ w ∈ u_ws Cn T N, w ∈ tblG) (ty0 : Nat → FieldType) (hty : ∀ k, k < N → parseFieldDescriptor (T k).2.2.1 = some (ty0 k)) (hnm : ∀ a, a < N → ∀ b, b < N → a ≠ b → (T a).2.1 ≠ (T b).2.1) (hc : vwCl[ci]? = some (Cn, T, N)) (j : Nat) (hj : j < N) (hl0 : Cond.fieldLink own index ref (T j).2.1 (T j).2.2.1 ∈ tblG) (hr : (T j).1 = ref) (hfin : (T j).2.2.2 = true) (hin2 : nm = "<init>") (hown : (T j).1 = own) (hd : parseFieldDescriptor (T j).2.2.1 = some ty) (hna : narrow ty v = v) (hfit : fits ty v = true) (d : decode cc pc = .ok (.putfield index, 3)) (hn : pc + 3 = n) (ha : h a = some (.inr (ci, fs))) (hlen : j < fs.length) (k : V K (hu h a (.inr (ci, fs.set j v))) cells slots Q n ls st) : V K h cells slots Q pc ls (v :: .ref a :: st) := by
  subst hn; subst hr
  intro H locs la hp hS hl
  obtain ⟨ws, hP, hD, hh⟩ := id hp
  obtain ⟨q0, hq⟩ := hh a _ ha
  exact va_putF C.1.1 C.1.2.1 C.1.2.2.2.2 hin ty0 hty hnm C.1.2.2.2.1 C.2.1 hP hD hS q0 hq hc j hj (C.1.2.2.2.2 _ hl0) (fun _ h9 => h9) hfin (C.2.2.2.2.2.2.1.trans hin2) hown hd hna hfit hlen d (fun H1 locs1 hP1 hD1 hS1 => k H1 locs1 la ⟨_, hP1, hD1, Hp.set hD hq hh⟩ hS1 hl)
theorem r_putN {ref Cn host : String} {T : u_T} {N ci index a : Nat} {fs : List Value} {v : Value} {ty : FieldType} (C : Cx K cc nL own rm ret nm) (hin : ∀ w ∈ u_ws Cn T N, w ∈ tblG) (ty0 : Nat → FieldType) (hty : ∀ k, k < N → parseFieldDescriptor (T k).2.2.1 = some (ty0 k)) (hnm : ∀ a, a < N → ∀ b, b < N → a ≠ b → (T a).2.1 ≠ (T b).2.1) (hc : vwCl[ci]? = some (Cn, T, N)) (j : Nat) (hj : j < N) (hl0 : Cond.fieldLinkNest own index ref (T j).2.1 (T j).2.2.1 host ∈ tblG) (hr : (T j).1 = ref) (hfin : (T j).2.2.2 = false) (hd : parseFieldDescriptor (T j).2.2.1 = some ty) (hna : narrow ty v = v) (hfit : fits ty v = true) (d : decode cc pc = .ok (.putfield index, 3)) (hn : pc + 3 = n) (ha : h a = some (.inr (ci, fs))) (hlen : j < fs.length) (k : V K (hu h a (.inr (ci, fs.set j v))) cells slots Q n ls st) : V K h cells slots Q pc ls (v :: .ref a :: st) := by
  subst hn; subst hr
  intro H locs la hp hS hl
  obtain ⟨ws, hP, hD, hh⟩ := id hp
  obtain ⟨q0, hq⟩ := hh a _ ha
  exact va_putN C.1.1 C.1.2.1 C.1.2.2.2.2 hin ty0 hty hnm C.1.2.2.2.1 C.2.1 hP hD hS q0 hq hc j hj (C.1.2.2.2.2 _ hl0) (fun _ h9 => h9) hfin hd hna hfit hlen d (fun H1 locs1 hP1 hD1 hS1 => k H1 locs1 la ⟨_, hP1, hD1, Hp.set hD hq hh⟩ hS1 hl)
theorem xk_in {i : Int32} {j N : Nat} (hi : i = nI j) (hj : j < N) (hN : N < 2147483648) : vp_in i N := by rw [hi]; exact vp_in_nI hj hN
theorem xk_cl {i : Int32} {j N : Nat} (hi : i = nI j) (hj : j < N) (hN : N < 2147483648) : i.toNatClampNeg = j := by rw [hi]; exact nI_clamp (by omega)
theorem r_iald {i : Int32} {a N : Nat} {f : Nat → Int32} (C : Cx K cc nL own rm ret nm) (d : decode cc pc = .ok (.iaload, 1)) (hn : pc + 1 = n) (ha : h a = some (.inl ((Ko K).2.1 0, N, .inl f))) (j : Nat) (hi : i = nI j) (hj : j < N) (hN : N < 2147483648) (k : V K h cells slots Q n ls (.int (f j) :: st)) : V K h cells slots Q pc ls (.int i :: .ref a :: st) := by
  subst hn
  intro H locs la hp hS hl
  obtain ⟨ws, hP, -, hh⟩ := id hp
  obtain ⟨q0, hq⟩ := hh a _ ha
  refine va_iald C.1.1 C.1.2.1 C.2.1 hP q0 0 hq rfl (xk_in hi hj hN) d ?_
  rw [xk_cl hi hj hN]
  exact k H locs la hp hS hl
theorem r_lald {i : Int32} {a N : Nat} {f : Nat → Int64} (C : Cx K cc nL own rm ret nm) (d : decode cc pc = .ok (.laload, 1)) (hn : pc + 1 = n) (ha : h a = some (.inl ((Ko K).2.1 1, N, .inr (.inl f)))) (j : Nat) (hi : i = nI j) (hj : j < N) (hN : N < 2147483648) (k : V K h cells slots Q n ls (.long (f j) :: st)) : V K h cells slots Q pc ls (.int i :: .ref a :: st) := by
  subst hn
  intro H locs la hp hS hl
  obtain ⟨ws, hP, -, hh⟩ := id hp
  obtain ⟨q0, hq⟩ := hh a _ ha
  refine va_lald C.1.1 C.1.2.1 C.2.1 hP q0 1 hq rfl (xk_in hi hj hN) d ?_
  rw [xk_cl hi hj hN]
  exact k H locs la hp hS hl
theorem r_iast {i : Int32} {x : Int32} {a N : Nat} {f : Nat → Int32} (C : Cx K cc nL own rm ret nm) (d : decode cc pc = .ok (.iastore, 1)) (hn : pc + 1 = n) (ha : h a = some (.inl ((Ko K).2.1 0, N, .inl f))) (j : Nat) (hi : i = nI j) (hj : j < N) (hN : N < 2147483648) (k : V K (hu h a (.inl ((Ko K).2.1 0, N, .inl (upd f j x)))) cells slots Q n ls st) : V K h cells slots Q pc ls (.int x :: .int i :: .ref a :: st) := by
  subst hn
  intro H locs la hp hS hl
  obtain ⟨ws, hP, hD, hh⟩ := id hp
  obtain ⟨q0, hq⟩ := hh a _ ha
  refine va_iast C.1.1 C.1.2.1 C.2.1 hP hD hS q0 0 hq rfl (xk_in hi hj hN) d (fun H1 locs1 hP1 hD1 hS1 => ?_)
  rw [xk_cl hi hj hN] at hP1 hD1
  exact k H1 locs1 la ⟨_, hP1, hD1, Hp.set hD hq hh⟩ hS1 hl
theorem r_last {i : Int32} {x : Int64} {a N : Nat} {f : Nat → Int64} (C : Cx K cc nL own rm ret nm) (d : decode cc pc = .ok (.lastore, 1)) (hn : pc + 1 = n) (ha : h a = some (.inl ((Ko K).2.1 1, N, .inr (.inl f)))) (j : Nat) (hi : i = nI j) (hj : j < N) (hN : N < 2147483648) (k : V K (hu h a (.inl ((Ko K).2.1 1, N, .inr (.inl (vp_updL f j x))))) cells slots Q n ls st) : V K h cells slots Q pc ls (.long x :: .int i :: .ref a :: st) := by
  subst hn
  intro H locs la hp hS hl
  obtain ⟨ws, hP, hD, hh⟩ := id hp
  obtain ⟨q0, hq⟩ := hh a _ ha
  refine va_last C.1.1 C.1.2.1 C.2.1 hP hD hS q0 1 hq rfl (xk_in hi hj hN) d (fun H1 locs1 hP1 hD1 hS1 => ?_)
  rw [xk_cl hi hj hN] at hP1 hD1
  exact k H1 locs1 la ⟨_, hP1, hD1, Hp.set hD hq hh⟩ hS1 hl
theorem r_ialen {a N : Nat} {f : Nat → Int32} (C : Cx K cc nL own rm ret nm) (d : decode cc pc = .ok (.arraylength, 1)) (hn : pc + 1 = n) (ha : h a = some (.inl ((Ko K).2.1 0, N, .inl f))) (k : V K h cells slots Q n ls (.int (nI N) :: st)) : V K h cells slots Q pc ls (.ref a :: st) := by
  subst hn
  intro H locs la hp hS hl
  obtain ⟨ws, hP, -, hh⟩ := id hp
  obtain ⟨q0, hq⟩ := hh a _ ha
  exact va_alen C.1.1 C.1.2.1 C.2.1 hP q0 0 hq rfl rfl d (k H locs la hp hS hl)
theorem r_lalen {a N : Nat} {f : Nat → Int64} (C : Cx K cc nL own rm ret nm) (d : decode cc pc = .ok (.arraylength, 1)) (hn : pc + 1 = n) (ha : h a = some (.inl ((Ko K).2.1 1, N, .inr (.inl f)))) (k : V K h cells slots Q n ls (.int (nI N) :: st)) : V K h cells slots Q pc ls (.ref a :: st) := by
  subst hn
  intro H locs la hp hS hl
  obtain ⟨ws, hP, -, hh⟩ := id hp
  obtain ⟨q0, hq⟩ := hh a _ ha
  exact va_alen C.1.1 C.1.2.1 C.2.1 hP q0 1 hq rfl rfl d (k H locs la hp hS hl)
theorem r_qalen {a N t0 : Nat} {cA : ClassId} {E : String} {f : Nat → Option Nat} (C : Cx K cc nL own rm ret nm) (d : decode cc pc = .ok (.arraylength, 1)) (hn : pc + 1 = n) (ha : h a = some (.inl (cA, N, .inr (.inr (.inr (.inr f)))))) (ht : (xk_tys (Ko K))[t0]? = some (cA, .object E)) (k : V K h cells slots Q n ls (.int (nI N) :: st)) : V K h cells slots Q pc ls (.ref a :: st) := by
  subst hn
  intro H locs la hp hS hl
  obtain ⟨ws, hP, -, hh⟩ := id hp
  obtain ⟨q0, hq⟩ := hh a _ ha
  exact va_alen C.1.1 C.1.2.1 C.2.1 hP q0 t0 hq ht rfl d (k H locs la hp hS hl)
theorem r_aald {i : Int32} {a N t0 v : Nat} {cA : ClassId} {E : String} {f : Nat → Option Nat} (C : Cx K cc nL own rm ret nm) (d : decode cc pc = .ok (.aaload, 1)) (hn : pc + 1 = n) (ha : h a = some (.inl (cA, N, .inr (.inr (.inr (.inr f)))))) (ht : (xk_tys (Ko K))[t0]? = some (cA, .object E)) (j : Nat) (hi : i = nI j) (hj : j < N) (hN : N < 2147483648) (hv : f j = some v) (k : V K h cells slots Q n ls (.ref v :: st)) : V K h cells slots Q pc ls (.int i :: .ref a :: st) := by
  subst hn
  intro H locs la hp hS hl
  obtain ⟨ws, hP, -, hh⟩ := id hp
  obtain ⟨q0, hq⟩ := hh a _ ha
  refine va_aldq C.1.1 C.1.2.1 C.2.1 hP q0 t0 hq ht (xk_in hi hj hN) d ?_
  rw [xk_cl hi hj hN, hv]
  exact k H locs la hp hS hl
theorem r_aast {i : Int32} {a N t0 ci v : Nat} {cA : ClassId} {r : vw_C} {vs : List Value} {f : Nat → Option Nat} (C : Cx K cc nL own rm ret nm) (d : decode cc pc = .ok (.aastore, 1)) (hn : pc + 1 = n) (ha : h a = some (.inl (cA, N, .inr (.inr (.inr (.inr f)))))) (hv : h v = some (.inr (ci, vs))) (hc : vwCl[ci]? = some r) (ht : (xk_tys (Ko K))[t0]? = some (cA, .object r.1)) (j : Nat) (hi : i = nI j) (hj : j < N) (hN : N < 2147483648) (k : V K (hu h a (.inl (cA, N, .inr (.inr (.inr (.inr (va_up f j (some v)))))))) cells slots Q n ls st) : V K h cells slots Q pc ls (.ref v :: .int i :: .ref a :: st) := by
  subst hn
  intro H locs la hp hS hl
  obtain ⟨ws, hP, hD, hh⟩ := id hp
  obtain ⟨q0, hq⟩ := hh a _ ha
  obtain ⟨q1, hq1⟩ := hh v _ hv
  refine va_astq C.1.1 C.1.2.1 C.2.1 hP hD hS q0 t0 q1 ci hq ht hq1 hc (xk_in hi hj hN) d (fun H1 locs1 hP1 hD1 hS1 => ?_)
  rw [xk_cl hi hj hN] at hP1 hD1
  exact k H1 locs1 la ⟨_, hP1, hD1, Hp.set hD hq hh⟩ hS1 hl
theorem r_newi {z : Int32} {N : Nat} (C : Cx K cc nL own rm ret nm) (hw : Cond.arrayClass (newarray.typeOf .int) ∈ tblG) (d : decode cc pc = .ok (.newarray .int, 2)) (hn : pc + 2 = n) (hz : z = nI N) (hN : N * componentBytes .int ≤ 536870912) (hN2 : N < 2147483648) (hcell : cells + 1 ≤ rm.cells) (hslot : slots + N ≤ rm.slots) (k : ∀ q : Nat, h q = none → V K (hu h q (.inl ((Ko K).2.1 0, N, .inl (fun _ => 0)))) (cells + 1) (slots + N) Q n ls (.ref q :: st)) : V K h cells slots Q pc ls (.int z :: st) := by
  subst hn
  intro H locs la hp hS hl
  obtain ⟨ws, hP, hD, hh⟩ := id hp
  have hR : KR K = rm := C.2.2.2.1
  refine va_newa (ty := .int) (a0 := (N, .inl (fun _ => 0))) C.1.1 C.1.2.1 (C.1.2.2.2.2 _ hw) rfl C.2.1 hP hD hS (fun q hq => Nat.le_trans C.2.2.1 hq) (fun cA => rfl) (by rw [hz]; exact nI_pos hN2) (by rw [hz]; exact nI_clamp hN2) hN (by rw [hR]; exact hcell) (by rw [hR]; exact hslot) d (fun q cA H1 hK1 hP1 hD1 hS1 => ?_)
  have e : cA = (Ko K).2.1 0 := by
    have h1 := (C.2.1.2 0 _ (show (xk_tys (Ko K))[0]? = some ((Ko K).2.1 0, .int) from rfl)).2
    have h2 := (hK1.2 (xk_tys (Ko K)).length (cA, .int) (by simp)).2
    exact Option.some.inj (h2.symm.trans h1)
  subst e
  exact k q (Hp.fresh hD1 hh) H1 locs la ⟨_, hP1, hD1, Hp.push hh⟩ hS1 hl
theorem r_newl {z : Int32} {N : Nat} (C : Cx K cc nL own rm ret nm) (hw : Cond.arrayClass (newarray.typeOf .long) ∈ tblG) (d : decode cc pc = .ok (.newarray .long, 2)) (hn : pc + 2 = n) (hz : z = nI N) (hN : N * componentBytes .long ≤ 536870912) (hN2 : N < 2147483648) (hcell : cells + 1 ≤ rm.cells) (hslot : slots + N ≤ rm.slots) (k : ∀ q : Nat, h q = none → V K (hu h q (.inl ((Ko K).2.1 1, N, .inr (.inl (fun _ => 0))))) (cells + 1) (slots + N) Q n ls (.ref q :: st)) : V K h cells slots Q pc ls (.int z :: st) := by
  subst hn
  intro H locs la hp hS hl
  obtain ⟨ws, hP, hD, hh⟩ := id hp
  have hR : KR K = rm := C.2.2.2.1
  refine va_newa (ty := .long) (a0 := (N, .inr (.inl (fun _ => 0)))) C.1.1 C.1.2.1 (C.1.2.2.2.2 _ hw) rfl C.2.1 hP hD hS (fun q hq => Nat.le_trans C.2.2.1 hq) (fun cA => rfl) (by rw [hz]; exact nI_pos hN2) (by rw [hz]; exact nI_clamp hN2) hN (by rw [hR]; exact hcell) (by rw [hR]; exact hslot) d (fun q cA H1 hK1 hP1 hD1 hS1 => ?_)
  have e : cA = (Ko K).2.1 1 := by
    have h1 := (C.2.1.2 1 _ (show (xk_tys (Ko K))[1]? = some ((Ko K).2.1 1, .long) from rfl)).2
    have h2 := (hK1.2 (xk_tys (Ko K)).length (cA, .long) (by simp)).2
    exact Option.some.inj (h2.symm.trans h1)
  subst e
  exact k q (Hp.fresh hD1 hh) H1 locs la ⟨_, hP1, hD1, Hp.push hh⟩ hS1 hl
theorem r_newq {z : Int32} {N t0 index : Nat} {E : String} {cA0 : ClassId} (C : Cx K cc nL own rm ret nm) (hcl : Cond.classLink own index E ∈ tblG) (hao : va_AO E (Ks K)) (ht : (xk_tys (Ko K))[t0]? = some (cA0, .object E)) (d : decode cc pc = .ok (.anewarray index, 3)) (hn : pc + 3 = n) (hz : z = nI N) (hN : N * 4 ≤ 536870912) (hcell : cells + 1 ≤ rm.cells) (hslot : slots + N ≤ rm.slots) (k : ∀ q : Nat, h q = none → V K (hu h q (.inl (cA0, N, .inr (.inr (.inr (.inr (fun _ => none))))))) (cells + 1) (slots + N) Q n ls (.ref q :: st)) : V K h cells slots Q pc ls (.int z :: st) := by
  subst hn
  intro H locs la hp hS hl
  obtain ⟨ws, hP, hD, hh⟩ := id hp
  have hR : KR K = rm := C.2.2.2.1
  have hN2 : N < 2147483648 := by omega
  refine va_newq C.1.1 C.1.2.1 C.1.2.2.2.1 (C.1.2.2.2.2 _ hcl) hao C.2.1 hP hD hS (fun q hq => Nat.le_trans C.2.2.1 hq) (by rw [hz]; exact nI_pos hN2) (by rw [hz]; exact nI_clamp hN2) hN (by rw [hR]; exact hcell) (by rw [hR]; exact hslot) d (fun q cA H1 hK1 hP1 hD1 hS1 => ?_)
  have e : cA = cA0 := by
    obtain ⟨_, _, _, _, _, h1⟩ := (C.2.1.2 t0 _ ht).2
    obtain ⟨_, _, _, _, _, h2⟩ := (hK1.2 (xk_tys (Ko K)).length (cA, .object E) (by simp)).2
    exact Option.some.inj (h2.symm.trans h1)
  subst e
  exact k q (Hp.fresh hD1 hh) H1 locs la ⟨_, hP1, hD1, Hp.push hh⟩ hS1 hl
theorem r_new {Cn : String} {T : u_T} {N ci index : Nat} {fs : List Value} (C : Cx K cc nL own rm ret nm) (hin : ∀ w ∈ u_ws Cn T N, w ∈ tblG) (ty : Nat → FieldType) (hty : ∀ k, k < N → parseFieldDescriptor (T k).2.2.1 = some (ty k)) (hcl : Cond.classLink own index Cn ∈ tblG) (hinst : Cond.instantiable Cn N ∈ tblG) (hini : Cond.initialized Cn ∈ tblG) (hc : vwCl[ci]? = some (Cn, T, N)) (hfs : ∀ j, j < N → defaultValue (ty j) = vp_V fs j) (d : decode cc pc = .ok (.new index, 3)) (hn : pc + 3 = n) (hcell : cells + 1 ≤ rm.cells) (hslot : slots + N ≤ rm.slots) (k : ∀ q : Nat, h q = none → V K (hu h q (.inr (ci, fs))) (cells + 1) (slots + N) Q n ls (.ref q :: st)) : V K h cells slots Q pc ls st := by
  subst hn
  intro H locs la hp hS hl
  obtain ⟨ws, hP, hD, hh⟩ := id hp
  have hR : KR K = rm := C.2.2.2.1
  have hts := C.1.2.2.2.2
  refine va_new C.1.1 C.1.2.1 hts hin ty hty C.1.2.2.2.1 (hts _ hcl) (hts _ hinst) (hts _ hini) C.2.1 hP hD hS (fun q hq => Nat.le_trans C.2.2.1 hq) hc hfs (by rw [hR]; exact hcell) (by rw [hR]; exact hslot) d (fun q H1 hP1 hD1 hS1 => ?_)
  exact k q (Hp.fresh hD1 hh) H1 locs la ⟨_, hP1, hD1, Hp.push hh⟩ hS1 hl
theorem r_objInit {idx a : Nat} (C : Cx K cc nL own rm ret nm) (hlk : Cond.methodLink own idx objectInit ∈ tblG) (hin : Cond.instanceMethod objectInit ∈ tblG) (hco : Cond.code objectInit ⟨#[0xb1]⟩ 1 none ∈ tblG) (d : decode cc pc = .ok (.invokespecial idx, 3)) (hn : pc + 3 = n) (hf : 1 ≤ rm.frames) (hl0 : (st.map fun v => v.category).sum + 12 ≤ rm.locals) (k : V K h cells slots Q n ls st) : V K h cells slots Q pc ls (.ref a :: st) := by
  subst hn
  intro H locs la hp hS hl
  have hR : KR K = rm := C.2.2.2.1
  have hts := C.1.2.2.2.2
  refine W.objInit C.1.1 C.1.2.1 C.1.2.2.2.1 (hts _ hlk) (hts _ hin) (hts _ hco) rfl (by rw [C.1.2.2.1]; exact hl.1) rfl d (by rw [hR]; exact hf) (by rw [hR]; simpa [JFrame.monitorRoom] using hl0) ?_
  exact k H locs la hp hS hl
theorem r_copyi {index a0 a n0 n1 : Nat} {f g : Nat → Int32} {sp dp z : Int32} (C : Cx K cc nL own rm ret nm) (hlk : Cond.methodLink own index arraycopyName ∈ tblG) (hnat : Cond.native arraycopyName ∈ tblG) (hstat : Cond.static arraycopyName ∈ tblG) (hini : Cond.initialized "java/lang/System" ∈ tblG) (d : decode cc pc = .ok (.invokestatic index, 3)) (hn : pc + 3 = n) (ha0 : h a0 = some (.inl ((Ko K).2.1 0, n0, .inl f))) (ha1 : h a = some (.inl ((Ko K).2.1 0, n1, .inl g))) (sp0 dp0 z0 : Nat) (h1 : sp = nI sp0) (h2 : dp = nI dp0) (h3 : z = nI z0) (h4 : sp0 + z0 ≤ n0) (h5 : dp0 + z0 ≤ n1) (hb0 : n0 < 2147483648) (hb1 : n1 < 2147483648) (hf : 1 ≤ rm.frames) (hlo : (st.map fun v => v.category).sum + (nativeFrameWords "java/lang/System" "arraycopy" 5 + 11) ≤ rm.locals) (k : V K (hu h a (.inl ((Ko K).2.1 0, n1, .inl (va_cpy f g sp0 dp0 z0)))) cells slots Q n ls st) : V K h cells slots Q pc ls (.int z :: .int dp :: .ref a :: .int sp :: .ref a0 :: st) := by
  subst hn; subst h1; subst h2; subst h3
  intro H locs la hp hS hl
  obtain ⟨ws, hP, hD, hh⟩ := id hp
  obtain ⟨q0, hq0⟩ := hh a0 _ ha0
  obtain ⟨q1, hq1⟩ := hh a _ ha1
  have hR : KR K = rm := C.2.2.2.1
  have hts := C.1.2.2.2.2
  have e1 : (nI sp0).toNatClampNeg = sp0 := nI_clamp (by omega)
  have e2 : (nI dp0).toNatClampNeg = dp0 := nI_clamp (by omega)
  have e3 : (nI z0).toNatClampNeg = z0 := nI_clamp (by omega)
  refine va_copyi C.1.1 C.1.2.1 (C.1.2.2.1.trans hl.1.symm) C.1.2.2.2.1 (hts _ hlk) (hts _ hnat) (hts _ hstat) (hts _ hini) C.2.1 hP hD hS q0 q1 0 0 hq0 hq1 rfl rfl rfl (nI_pos (by omega)) (nI_pos (by omega)) (nI_pos (by omega)) (by rw [e1, e3]; exact h4) (by rw [e2, e3]; exact h5) (fun i _ => rfl) (by rw [hR]; exact hf) (by rw [hR]; exact hlo) d (fun H1 locs1 hP1 hD1 hS1 => ?_)
  rw [e1, e2, e3] at hP1 hD1
  exact k H1 locs1 la ⟨_, hP1, hD1, Hp.set hD hq1 hh⟩ hS1 hl
theorem r_copyl {index a0 a n0 n1 : Nat} {f g : Nat → Int64} {sp dp z : Int32} (C : Cx K cc nL own rm ret nm) (hlk : Cond.methodLink own index arraycopyName ∈ tblG) (hnat : Cond.native arraycopyName ∈ tblG) (hstat : Cond.static arraycopyName ∈ tblG) (hini : Cond.initialized "java/lang/System" ∈ tblG) (d : decode cc pc = .ok (.invokestatic index, 3)) (hn : pc + 3 = n) (ha0 : h a0 = some (.inl ((Ko K).2.1 1, n0, .inr (.inl f)))) (ha1 : h a = some (.inl ((Ko K).2.1 1, n1, .inr (.inl g)))) (sp0 dp0 z0 : Nat) (h1 : sp = nI sp0) (h2 : dp = nI dp0) (h3 : z = nI z0) (h4 : sp0 + z0 ≤ n0) (h5 : dp0 + z0 ≤ n1) (hb0 : n0 < 2147483648) (hb1 : n1 < 2147483648) (hf : 1 ≤ rm.frames) (hlo : (st.map fun v => v.category).sum + (nativeFrameWords "java/lang/System" "arraycopy" 5 + 11) ≤ rm.locals) (k : V K (hu h a (.inl ((Ko K).2.1 1, n1, .inr (.inl (va_cpy f g sp0 dp0 z0))))) cells slots Q n ls st) : V K h cells slots Q pc ls (.int z :: .int dp :: .ref a :: .int sp :: .ref a0 :: st) := by
  subst hn; subst h1; subst h2; subst h3
  intro H locs la hp hS hl
  obtain ⟨ws, hP, hD, hh⟩ := id hp
  obtain ⟨q0, hq0⟩ := hh a0 _ ha0
  obtain ⟨q1, hq1⟩ := hh a _ ha1
  have hR : KR K = rm := C.2.2.2.1
  have hts := C.1.2.2.2.2
  have e1 : (nI sp0).toNatClampNeg = sp0 := nI_clamp (by omega)
  have e2 : (nI dp0).toNatClampNeg = dp0 := nI_clamp (by omega)
  have e3 : (nI z0).toNatClampNeg = z0 := nI_clamp (by omega)
  refine va_copyl C.1.1 C.1.2.1 (C.1.2.2.1.trans hl.1.symm) C.1.2.2.2.1 (hts _ hlk) (hts _ hnat) (hts _ hstat) (hts _ hini) C.2.1 hP hD hS q0 q1 1 1 hq0 hq1 rfl rfl rfl (nI_pos (by omega)) (nI_pos (by omega)) (nI_pos (by omega)) (by rw [e1, e3]; exact h4) (by rw [e2, e3]; exact h5) (fun i _ => rfl) (by rw [hR]; exact hf) (by rw [hR]; exact hlo) d (fun H1 locs1 hP1 hD1 hS1 => ?_)
  rw [e1, e2, e3] at hP1 hD1
  exact k H1 locs1 la ⟨_, hP1, hD1, Hp.set hD hq1 hh⟩ hS1 hl
theorem r_mmax {index : Nat} {x y : Int32} (C : Cx K cc nL own rm ret nm) (hlk : Cond.methodLink own index Lib.Math.max.name ∈ tblG) (hstat : Cond.static Lib.Math.max.name ∈ tblG) (hini : Cond.initialized "java/lang/Math" ∈ tblG) (hco : Cond.code Lib.Math.max.name Lib.Math.max.code 2 (some .int) ∈ tblG) (hf : 1 ≤ rm.frames) (hlo : (st.map fun v => v.category).sum + 13 ≤ rm.locals) (hc : cells ≤ rm.cells) (hs : slots ≤ rm.slots) (d : decode cc pc = .ok (.invokestatic index, 3)) (hn : pc + 3 = n) (k : V K h cells slots Q n ls (.int (if x < y then y else x) :: st)) : V K h cells slots Q pc ls (.int y :: .int x :: st) := by
  subst hn
  intro H locs la hp hS hl
  have hR : KR K = rm := C.2.2.2.1
  have hts := C.1.2.2.2.2
  exact va_mmax C.1.1 C.1.2.1 (C.1.2.2.1.trans hl.1.symm) C.1.2.2.2.1 (hts _ hlk) (hts _ hstat) (hts _ hini) (hts _ hco) (by rw [hR]; exact hf) (by rw [hR]; exact hlo) (by rw [hR]; exact hc) (by rw [hR]; exact hs) d (k H locs la hp hS hl)
theorem r_mmin {index : Nat} {x y : Int32} (C : Cx K cc nL own rm ret nm) (hlk : Cond.methodLink own index Lib.Math.min.name ∈ tblG) (hstat : Cond.static Lib.Math.min.name ∈ tblG) (hini : Cond.initialized "java/lang/Math" ∈ tblG) (hco : Cond.code Lib.Math.min.name Lib.Math.min.code 2 (some .int) ∈ tblG) (hf : 1 ≤ rm.frames) (hlo : (st.map fun v => v.category).sum + 13 ≤ rm.locals) (hc : cells ≤ rm.cells) (hs : slots ≤ rm.slots) (d : decode cc pc = .ok (.invokestatic index, 3)) (hn : pc + 3 = n) (k : V K h cells slots Q n ls (.int (if y < x then y else x) :: st)) : V K h cells slots Q pc ls (.int y :: .int x :: st) := by
  subst hn
  intro H locs la hp hS hl
  have hR : KR K = rm := C.2.2.2.1
  have hts := C.1.2.2.2.2
  exact va_mmin C.1.1 C.1.2.1 (C.1.2.2.1.trans hl.1.symm) C.1.2.2.2.1 (hts _ hlk) (hts _ hstat) (hts _ hini) (hts _ hco) (by rw [hR]; exact hf) (by rw [hR]; exact hlo) (by rw [hR]; exact hc) (by rw [hR]; exact hs) d (k H locs la hp hS hl)
theorem r_iret {v : Int32} {post : Int32 → AH → Prop} {mc ms : Nat} (C : Cx K cc nL own rm (some .int) nm) (d : decode cc pc = .ok (.ireturn, 1)) (hc : cells ≤ mc) (hs : slots ≤ ms) (hq : post v h) : V K h cells slots (EndQ K (QI (Ko K) post) mc ms) pc ls [.int v] := fun H locs la hp hS hl =>
  W.widen hc hs (W.iret C.1.1 C.1.2.1 C.2.2.2.2.1 (fun t ht _ => ⟨⟨v, h, rfl, hq, by show Hp _ _ t.heap; rw [ht]; exact hp⟩, hS.F ht⟩) hS.2.2 d C.2.2.2.2.2.1)
theorem r_lret {v : Int64} {post : Int64 → AH → Prop} {mc ms : Nat} (C : Cx K cc nL own rm (some .long) nm) (d : decode cc pc = .ok (.lreturn, 1)) (hc : cells ≤ mc) (hs : slots ≤ ms) (hq : post v h) : V K h cells slots (EndQ K (QL (Ko K) post) mc ms) pc ls [.long v] := fun H locs la hp hS hl =>
  W.widen hc hs (W.lret C.1.1 C.1.2.1 C.2.2.2.2.1 (fun t ht _ => ⟨⟨v, h, rfl, hq, by show Hp _ _ t.heap; rw [ht]; exact hp⟩, hS.F ht⟩) hS.2.2 d C.2.2.2.2.2.1)
theorem r_dret {v : UInt64} {post : UInt64 → AH → Prop} {mc ms : Nat} (C : Cx K cc nL own rm (some .double) nm) (d : decode cc pc = .ok (.dreturn, 1)) (hc : cells ≤ mc) (hs : slots ≤ ms) (hq : post v h) : V K h cells slots (EndQ K (QD (Ko K) post) mc ms) pc ls [.double v] := fun H locs la hp hS hl =>
  W.widen hc hs (W.dret C.1.1 C.1.2.1 C.2.2.2.2.1 (fun t ht _ => ⟨⟨v, h, rfl, hq, by show Hp _ _ t.heap; rw [ht]; exact hp⟩, hS.F ht⟩) hS.2.2 d C.2.2.2.2.2.1)
theorem r_zret {v : Int32} {post : Int32 → AH → Prop} {mc ms : Nat} (C : Cx K cc nL own rm (some .boolean) nm) (d : decode cc pc = .ok (.ireturn, 1)) (hv : narrow .boolean (.int v) = .int v) (hc : cells ≤ mc) (hs : slots ≤ ms) (hq : post v h) : V K h cells slots (EndQ K (QI (Ko K) post) mc ms) pc ls [.int v] := fun H locs la hp hS hl =>
  W.widen hc hs (W.zret C.1.1 C.1.2.1 C.2.2.2.2.1 hv (fun t ht _ => ⟨⟨v, h, rfl, hq, by show Hp _ _ t.heap; rw [ht]; exact hp⟩, hS.F ht⟩) hS.2.2 d C.2.2.2.2.2.1)
theorem r_vret {post : AH → Prop} {mc ms : Nat} (C : Cx K cc nL own rm none nm) (d : decode cc pc = .ok (.return_, 1)) (hc : cells ≤ mc) (hs : slots ≤ ms) (hq : post h) : V K h cells slots (EndQ K (QV (Ko K) post) mc ms) pc ls [] := fun H locs la hp hS hl =>
  W.widen hc hs (W.vret C.1.1 C.1.2.1 C.2.2.2.2.1 (fun t ht _ => ⟨⟨h, rfl, hq, by show Hp _ _ t.heap; rw [ht]; exact hp⟩, hS.F ht⟩) hS.2.2 d C.2.2.2.2.2.1)
theorem r_aret {v : Nat} {rt : FieldType} {post : AH × Nat → Prop} {mc ms : Nat} (C : Cx K cc nL own rm (some rt) nm) (hrt : (∃ n, rt = .object n) ∨ ∃ t, rt = .array t) (d : decode cc pc = .ok (.areturn, 1)) (hc : cells ≤ mc) (hs : slots ≤ ms) (hq : post (h, v)) : V K h cells slots (EndQ K (QR (Ko K) post) mc ms) pc ls [.ref v] := fun H locs la hp hS hl =>
  W.widen hc hs (W.aret C.1.1 C.1.2.1 C.2.2.2.2.1 hrt (Or.inr ⟨v, rfl⟩) (fun t ht _ => ⟨⟨(h, v), v, rfl, hq, rfl, by show Hp _ _ t.heap; rw [ht]; exact hp⟩, hS.F ht⟩) hS.2.2 d C.2.2.2.2.2.1)
def Rn (K : Kx) (h : AH) (cells slots mc ms pc : Nat) (ls : List (Nat × Value)) (st0 rest : List Value) (Qa : State → Outcome → State → Prop) : Prop :=
  ∀ (H : Heap) (locs : List Loc) (la : Array Slot), Hp (Ko K) h H → va_S (fr (Ko K)) (Ks K).heap H locs → lv_has la (Kn K) ls →
    va_Run (Kp K) (Kl K) (Ke K) (KR K) (Ks K) (Km K) (Ka K) (Kb K) (Kme K) (Kc K) H locs cells slots mc ms (F0 (Km K) pc la st0) rest Qa (fr (Ko K))
def Rn5 (K : Kx) (h : AH) (cells slots mc ms pc : Nat) (ls : List (Nat × Value)) (st0 rest : List Value) (Qa : State → Outcome → State → Prop) : Prop :=
  ∀ (H : Heap) (locs : List Loc) (la : Array Slot), Hp (Ko K) h H → va_S (fr (Ko K)) (Ks K).heap H locs → lv_has la (Kn K) ls →
    va_Run5 (Kp K) (Kl K) (Ke K) (KR K) (Ks K) (Km K) (Ka K) (Kb K) (Kme K) (Kc K) H locs cells slots mc ms (F0 (Km K) pc la st0) rest Qa (fr (Ko K))
theorem PB.blind {o : Om} {avs : List Value} : FrameBlind (va_Pc avs (PB o h)) := fun a U g mk q => by
  obtain ⟨q0, q1, q2, q3⟩ := q
  exact ⟨q0, q1, va_K.moved (u := U) (U := U.calling g mk a) (Vm.Alike.refl U.vm) q2, q3⟩
theorem Cx.pre (C : Cx K cc nL own rm ret nm) {H : Heap} {locs : List Loc} (hp : Hp (Ko K) h H) (hS : va_S (fr (Ko K)) (Ks K).heap H locs) (avs : List Value) : ∀ U : State, U.heap = H → (Ks K).WarmedH U.vm → va_Pc avs (PB (Ko K) h) avs.toArray U := fun U hU hW =>
  ⟨rfl, by rw [hU]; exact hp, va_K.moved hW.alike C.2.1, by rw [hU]; exact Nat.le_trans C.2.2.1 hS.1⟩
theorem Cx.recv (C : Cx K cc nL own rm ret nm) {H : Heap} {b ci : Nat} {fs : List Value} {q : vw_C} (hp : Hp (Ko K) h H) (hb : h b = some (.inr (ci, fs))) (hc : vwCl[ci]? = some q) : ∃ cell : Cell, H[b]? = some cell ∧ cell.vm.isStatics = false ∧ (Ks K).vm.findClass q.1 = some cell.cls := by
  obtain ⟨ws, hP, -, hh⟩ := hp
  obtain ⟨q0, hq⟩ := hh b _ hb
  exact va_recv C.2.1 hP hc hq
section CALL
variable {y x : MethodName} {rmc : Room} {Qc : Array Value → State → Outcome → State → Prop} {mc ms z index maxL ci b N : Nat} {As rest st0 : List Value} {bytes : ByteArray} {rt : Option FieldType} {Cn host : String} {fs : List Value} {T : u_T}
theorem rn_V (C : Cx K cc nL own rm ret nm) (hM : Mt (Kl K) (Ko K) y bytes maxL rt rmc (.ref b :: As) h Qc mc ms) (hlk : Cond.methodLink own index y ∈ tblG) (hinm : Cond.instanceMethod y ∈ tblG) (hsel : Cond.selects Cn y y ∈ tblG) (hini : Cond.initialized Cn ∈ tblG) (hco : Cond.code y bytes maxL rt ∈ tblG) (hrc : rmc.cells = mc) (hrs : rmc.slots = ms) (hd : y.cls = Cn ∧ y.cls ≠ "java/lang/invoke/MethodHandle" ∧ y.cls ≠ "java/lang/invoke/VarHandle" ∧ (parseMethodDescriptor y.desc).map (fun d => d.parameters.length) = some z) (hR : rmc.frames + 1 ≤ rm.frames ∧ 8 + (maxL + 11) + rmc.locals ≤ rm.locals) (hb : h b = some (.inr (ci, fs))) (hc : vwCl[ci]? = some (Cn, T, N)) (hz : As.length = z) (hst : st0 = As.reverse ++ .ref b :: rest) (hro : (rest.map fun v => v.category).sum ≤ 8) (d : decode cc pc = .ok (.invokevirtual index, 3)) (hf : cells + mc ≤ rm.cells ∧ slots + ms ≤ rm.slots) : Rn K h cells slots mc ms pc ls st0 rest (Qc (Value.ref b :: As).toArray) := by
  intro H locs la hp hS hl
  have hR0 : KR K = rm := C.2.2.2.1
  have hts := C.1.2.2.2.2
  exact va_runV C.1 hM (cwV z hts (good_of (mem4 hlk hinm hsel hini (good_code hco))) rfl hrc hrs hd (by rw [hR0]; exact hR)) ⟨PB.blind, C.recv hp hb hc, C.pre hp hS _⟩ rfl hz hl.1 hst (lv_room hro) d (by rw [hR0]; exact hf)
theorem rn_S (C : Cx K cc nL own rm ret nm) (hM : Mt (Kl K) (Ko K) y bytes maxL rt rmc (As) h Qc mc ms) (hlk : Cond.methodLink own index y ∈ tblG) (hstm : Cond.static y ∈ tblG) (hini : Cond.initialized y.cls ∈ tblG) (hco : Cond.code y bytes maxL rt ∈ tblG) (hrc : rmc.cells = mc) (hrs : rmc.slots = ms) (hd : y.cls ≠ "java/lang/invoke/MethodHandle" ∧ y.cls ≠ "java/lang/invoke/VarHandle" ∧ (parseMethodDescriptor y.desc).map (fun d => d.parameters.length) = some z) (hR : rmc.frames + 1 ≤ rm.frames ∧ 8 + (maxL + 11) + rmc.locals ≤ rm.locals)  (hz : As.length = z) (hst : st0 = As.reverse ++ rest) (hro : (rest.map fun v => v.category).sum ≤ 8) (d : decode cc pc = .ok (.invokestatic index, 3)) (hf : cells + mc ≤ rm.cells ∧ slots + ms ≤ rm.slots) : Rn K h cells slots mc ms pc ls st0 rest (Qc (As).toArray) := by
  intro H locs la hp hS hl
  have hR0 : KR K = rm := C.2.2.2.1
  have hts := C.1.2.2.2.2
  exact va_runS C.1 hM (va_cwS z hts (good_of (mem3 hlk hstm hini (good_code hco))) rfl hrc hrs hd (by rw [hR0]; exact hR)) ⟨PB.blind, C.pre hp hS _⟩ rfl hz hl.1 hst (lv_room hro) d (by rw [hR0]; exact hf)
theorem rn_I (C : Cx K cc nL own rm ret nm) (hM : Mt (Kl K) (Ko K) y bytes maxL none rmc (.ref b :: As) h Qc mc ms) (hlk : Cond.methodLink own index y ∈ tblG) (hinm : Cond.instanceMethod y ∈ tblG) (hini : Cond.initialized y.cls ∈ tblG) (hnm : y.name = "<init>") (hco : Cond.code y bytes maxL none ∈ tblG) (hrc : rmc.cells = mc) (hrs : rmc.slots = ms) (hd : y.cls ≠ "java/lang/invoke/MethodHandle" ∧ y.cls ≠ "java/lang/invoke/VarHandle" ∧ (parseMethodDescriptor y.desc).map (fun d => d.parameters.length) = some z) (hR : rmc.frames + 1 ≤ rm.frames ∧ 8 + (maxL + 11) + rmc.locals ≤ rm.locals)  (hz : As.length = z) (hst : st0 = As.reverse ++ .ref b :: rest) (hro : (rest.map fun v => v.category).sum ≤ 8) (d : decode cc pc = .ok (.invokespecial index, 3)) (hf : cells + mc ≤ rm.cells ∧ slots + ms ≤ rm.slots) : Rn K h cells slots mc ms pc ls st0 rest (Qc (Value.ref b :: As).toArray) := by
  intro H locs la hp hS hl
  have hR0 : KR K = rm := C.2.2.2.1
  have hts := C.1.2.2.2.2
  exact va_runI C.1 hM (cwI z hts (good_of (good_code hco)) rfl hrc hrs (hts _ hini) (hts _ hlk) (hts _ hinm) hnm hd (by rw [hR0]; exact hR)) ⟨PB.blind, C.pre hp hS _⟩ rfl hz hl.1 hst (lv_room hro) d (by rw [hR0]; exact hf)
theorem rn_IN (C : Cx K cc nL own rm ret nm) (hM : Mt (Kl K) (Ko K) y bytes maxL none rmc (.ref b :: As) h Qc mc ms) (hlk : Cond.methodLinkNest own index y host ∈ tblG) (hinm : Cond.instanceMethod y ∈ tblG) (hini : Cond.initialized y.cls ∈ tblG) (hnm : y.name = "<init>") (hco : Cond.code y bytes maxL none ∈ tblG) (hrc : rmc.cells = mc) (hrs : rmc.slots = ms) (hd : y.cls ≠ "java/lang/invoke/MethodHandle" ∧ y.cls ≠ "java/lang/invoke/VarHandle" ∧ (parseMethodDescriptor y.desc).map (fun d => d.parameters.length) = some z) (hR : rmc.frames + 1 ≤ rm.frames ∧ 8 + (maxL + 11) + rmc.locals ≤ rm.locals)  (hz : As.length = z) (hst : st0 = As.reverse ++ .ref b :: rest) (hro : (rest.map fun v => v.category).sum ≤ 8) (d : decode cc pc = .ok (.invokespecial index, 3)) (hf : cells + mc ≤ rm.cells ∧ slots + ms ≤ rm.slots) : Rn K h cells slots mc ms pc ls st0 rest (Qc (Value.ref b :: As).toArray) := by
  intro H locs la hp hS hl
  have hR0 : KR K = rm := C.2.2.2.1
  have hts := C.1.2.2.2.2
  exact va_runIN C.1 hM ⟨va_cnB z hts (good_of (good_code hco)) rfl hrc hrs (va_Nw.of rfl (hts _ hlk)) (hts _ hini) hd (by rw [hR0]; exact hR), hnm, hts _ hinm⟩ ⟨PB.blind, C.pre hp hS _⟩ rfl hz hl.1 hst (lv_room hro) d (by rw [hR0]; exact hf)
theorem rn_F {count : Nat} (C : Cx K cc nL own rm ret nm) (hM : Mt (Kl K) (Ko K) y bytes maxL rt rmc (.ref b :: As) h Qc mc ms) (hlk : Cond.methodLink own index x ∈ tblG) (hsel : Cond.selects Cn x y ∈ tblG) (hinm : Cond.instanceMethod y ∈ tblG) (hini : Cond.initialized y.cls ∈ tblG) (hco : Cond.code y bytes maxL rt ∈ tblG) (hrc : rmc.cells = mc) (hrs : rmc.slots = ms) (f1 : Cond.declares x ∈ tblG) (f2 : Cond.interfaceMethod x.cls x.cls x.name x.desc ∈ tblG) (f3 : Cond.publicMethod y ∈ tblG) (f4 : Cond.unhidden Cn x.name x.desc ∈ tblG) (f5 : Cond.castable Cn x.cls ∈ tblG) (hd : x.cls ≠ "java/lang/invoke/MethodHandle" ∧ x.cls ≠ "java/lang/invoke/VarHandle" ∧ (parseMethodDescriptor x.desc).map (fun d => d.parameters.length) = some z) (hR : rmc.frames + 1 ≤ rm.frames ∧ 8 + (maxL + 11) + rmc.locals ≤ rm.locals) (hb : h b = some (.inr (ci, fs))) (hc : vwCl[ci]? = some (Cn, T, N)) (hz : As.length = z) (hst : st0 = As.reverse ++ .ref b :: rest) (hro : (rest.map fun v => v.category).sum ≤ 8) (d : decode cc pc = .ok (.invokeinterface index count, 5)) (hf : cells + mc ≤ rm.cells ∧ slots + ms ≤ rm.slots) : Rn5 K h cells slots mc ms pc ls st0 rest (Qc (Value.ref b :: As).toArray) := by
  intro H locs la hp hS hl
  have hR0 : KR K = rm := C.2.2.2.1
  have hts := C.1.2.2.2.2
  exact va_runF (C.2.1.1 ci _ hc).2 C.1 hM (va_cwF z hts (good_of (mem4 hlk hsel hinm hini (good_code hco))) rfl hrc hrs (va_Fw.of (hts _ f1) (hts _ f2) (hts _ f3) (hts _ f4) (hts _ f5)) hd (by rw [hR0]; exact hR)) ⟨PB.blind, C.recv hp hb hc, C.pre hp hS _⟩ rfl hz hl.1 hst (lv_room hro) d (by rw [hR0]; exact hf)
theorem r_ci {post : Int32 → AH → Prop} {a : Array Value} (hr : Rn K h cells slots mc ms pc ls st0 rest (QI (Ko K) post a)) (hn : pc + 3 = n) (k : ∀ (r : Int32) (h' : AH), post r h' → V K h' (cells + mc) (slots + ms) Q n ls (.int r :: rest)) : V K h cells slots Q pc ls st0 := by
  subst hn
  exact fun H locs la hp hS hl => va_calli (hr H locs la hp hS hl) hS (fun _ _ hq => hq) (fun _ hq => hq) (fun r h' t H1 locs1 ht _ hq hB _ _ hS1 => k r h' hq H1 locs1 la (by rw [← ht]; exact hB) hS1 hl)
theorem r_cl {post : Int64 → AH → Prop} {a : Array Value} (hr : Rn K h cells slots mc ms pc ls st0 rest (QL (Ko K) post a)) (hn : pc + 3 = n) (k : ∀ (r : Int64) (h' : AH), post r h' → V K h' (cells + mc) (slots + ms) Q n ls (.long r :: rest)) : V K h cells slots Q pc ls st0 := by
  subst hn
  exact fun H locs la hp hS hl => va_calll (hr H locs la hp hS hl) hS (fun _ _ hq => hq) (fun _ hq => hq) (fun r h' t H1 locs1 ht _ hq hB _ _ hS1 => k r h' hq H1 locs1 la (by rw [← ht]; exact hB) hS1 hl)
theorem r_cd {post : UInt64 → AH → Prop} {a : Array Value} (hr : Rn K h cells slots mc ms pc ls st0 rest (QD (Ko K) post a)) (hn : pc + 3 = n) (k : ∀ (r : UInt64) (h' : AH), post r h' → V K h' (cells + mc) (slots + ms) Q n ls (.double r :: rest)) : V K h cells slots Q pc ls st0 := by
  subst hn
  exact fun H locs la hp hS hl => va_calld (hr H locs la hp hS hl) hS (fun _ _ hq => hq) (fun _ hq => hq) (fun r h' t H1 locs1 ht _ hq hB _ _ hS1 => k r h' hq H1 locs1 la (by rw [← ht]; exact hB) hS1 hl)
theorem r_cv {post : AH → Prop} {a : Array Value} (hr : Rn K h cells slots mc ms pc ls st0 rest (QV (Ko K) post a)) (hn : pc + 3 = n) (k : ∀ (h' : AH), post h' → V K h' (cells + mc) (slots + ms) Q n ls rest) : V K h cells slots Q pc ls st0 := by
  subst hn
  exact fun H locs la hp hS hl => va_callv (hr H locs la hp hS hl) hS (fun _ _ hq => hq) (fun _ hq => hq) (fun h' t H1 locs1 ht _ hq hB _ _ hS1 => k h' hq H1 locs1 la (by rw [← ht]; exact hB) hS1 hl)
theorem r_cFi {post : Int32 → AH → Prop} {a : Array Value} (hr : Rn5 K h cells slots mc ms pc ls st0 rest (QI (Ko K) post a)) (hn : pc + 5 = n) (k : ∀ (r : Int32) (h' : AH), post r h' → V K h' (cells + mc) (slots + ms) Q n ls (.int r :: rest)) : V K h cells slots Q pc ls st0 := by
  subst hn
  exact fun H locs la hp hS hl => va_callFi (hr H locs la hp hS hl) hS (fun _ _ hq => hq) (fun _ hq => hq) (fun r h' t H1 locs1 ht _ hq hB _ _ hS1 => k r h' hq H1 locs1 la (by rw [← ht]; exact hB) hS1 hl)
theorem r_cFl {post : Int64 → AH → Prop} {a : Array Value} (hr : Rn5 K h cells slots mc ms pc ls st0 rest (QL (Ko K) post a)) (hn : pc + 5 = n) (k : ∀ (r : Int64) (h' : AH), post r h' → V K h' (cells + mc) (slots + ms) Q n ls (.long r :: rest)) : V K h cells slots Q pc ls st0 := by
  subst hn
  exact fun H locs la hp hS hl => va_callFl (hr H locs la hp hS hl) hS (fun _ _ hq => hq) (fun _ hq => hq) (fun r h' t H1 locs1 ht _ hq hB _ _ hS1 => k r h' hq H1 locs1 la (by rw [← ht]; exact hB) hS1 hl)
theorem r_cFd {post : UInt64 → AH → Prop} {a : Array Value} (hr : Rn5 K h cells slots mc ms pc ls st0 rest (QD (Ko K) post a)) (hn : pc + 5 = n) (k : ∀ (r : UInt64) (h' : AH), post r h' → V K h' (cells + mc) (slots + ms) Q n ls (.double r :: rest)) : V K h cells slots Q pc ls st0 := by
  subst hn
  exact fun H locs la hp hS hl => va_callFd (hr H locs la hp hS hl) hS (fun _ _ hq => hq) (fun _ hq => hq) (fun r h' t H1 locs1 ht _ hq hB _ _ hS1 => k r h' hq H1 locs1 la (by rw [← ht]; exact hB) hS1 hl)
theorem r_cFv {post : AH → Prop} {a : Array Value} (hr : Rn5 K h cells slots mc ms pc ls st0 rest (QV (Ko K) post a)) (hn : pc + 5 = n) (k : ∀ (h' : AH), post h' → V K h' (cells + mc) (slots + ms) Q n ls rest) : V K h cells slots Q pc ls st0 := by
  subst hn
  exact fun H locs la hp hS hl => va_callFv (hr H locs la hp hS hl) hS (fun _ _ hq => hq) (fun _ hq => hq) (fun h' t H1 locs1 ht _ hq hB _ _ hS1 => k h' hq H1 locs1 la (by rw [← ht]; exact hB) hS1 hl)
theorem r_cr {post : AH × Nat → Prop} {a : Array Value} (hr : Rn K h cells slots mc ms pc ls st0 rest (QR (Ko K) post a)) (hn : pc + 3 = n) (k : ∀ (h' : AH) (v : Nat), post (h', v) → V K h' (cells + mc) (slots + ms) Q n ls (.ref v :: rest)) : V K h cells slots Q pc ls st0 := by
  subst hn
  exact fun H locs la hp hS hl => va_callr (hr H locs la hp hS hl) hS (fun _ _ hq => hq) (fun _ hq => hq) (fun u v t H1 locs1 ht _ hq hB _ _ hS1 => by
    obtain ⟨h', v'⟩ := u
    obtain ⟨e1, e2⟩ := hB
    have e1 : v' = v := e1
    subst e1
    exact k h' v' hq H1 locs1 la (by rw [← ht]; exact e2) hS1 hl)
end CALL
end XK
end
section
/-! PURE: rows, keys, sorted lists with weights -/
abbrev Ky : Type := Int32 × Int32 × Int32
abbrev Rw : Type := Ky × Int64
def kz (k : Ky) : Int := (k.1.toInt * 4294967296 + k.2.1.toInt) * 4294967296 + k.2.2.toInt
theorem i32_lo (x : Int32) : -2147483648 ≤ x.toInt := by have := Int32.le_toInt x; simpa using this
theorem i32_hi (x : Int32) : x.toInt < 2147483648 := by have := Int32.toInt_lt x; simpa using this
theorem kz_inj {x y : Ky} (h : kz x = kz y) : x = y := by
  obtain ⟨a, b, c⟩ := x
  obtain ⟨a', b', c'⟩ := y
  simp only [kz] at h
  have h1 := i32_lo a; have h2 := i32_hi a; have h3 := i32_lo b; have h4 := i32_hi b; have h5 := i32_lo c; have h6 := i32_hi c
  have g1 := i32_lo a'; have g2 := i32_hi a'; have g3 := i32_lo b'; have g4 := i32_hi b'; have g5 := i32_lo c'; have g6 := i32_hi c'
  have e1 : a.toInt = a'.toInt := by omega
  have e2 : b.toInt = b'.toInt := by omega
  have e3 : c.toInt = c'.toInt := by omega
  rw [Int32.toInt_inj.mp e1, Int32.toInt_inj.mp e2, Int32.toInt_inj.mp e3]
theorem kz_lt {a b c a' b' c' : Int32} : kz (a, b, c) < kz (a', b', c') ↔ a < a' ∨ (a = a' ∧ (b < b' ∨ (b = b' ∧ c < c'))) := by
  simp only [kz, Int32.lt_iff_toInt_lt, ← Int32.toInt_inj]
  have h1 := i32_lo a; have h2 := i32_hi a; have h3 := i32_lo b; have h4 := i32_hi b; have h5 := i32_lo c; have h6 := i32_hi c
  have g1 := i32_lo a'; have g2 := i32_hi a'; have g3 := i32_lo b'; have g4 := i32_hi b'; have g5 := i32_lo c'; have g6 := i32_hi c'
  constructor
  · intro h; omega
  · intro h; omega
def Srt (L : List Rw) : Prop := L.Pairwise (fun x y => kz x.1 < kz y.1)
def wt : List Rw → Ky → Int64
  | [], _ => 0
  | r :: L, k => if r.1 = k then r.2 else wt L k
def addW : List Rw → Ky → Int64 → List Rw
  | [], k, w => [(k, w)]
  | r :: L, k, w => if kz k < kz r.1 then (k, w) :: r :: L else if r.1 = k then (k, r.2 + w) :: L else r :: addW L k w
theorem wt_lt {L : List Rw} {k : Ky} (h : ∀ r ∈ L, kz k < kz r.1) : wt L k = 0 := by
  induction L with
  | nil => rfl
  | cons r L ih =>
    have h1 := h r List.mem_cons_self
    have h2 : ¬ r.1 = k := fun e => by rw [e] at h1; omega
    simp only [wt, if_neg h2]
    exact ih (fun q hq => h q (List.mem_cons_of_mem _ hq))
theorem addW_mem {L : List Rw} {k : Ky} {w : Int64} : ∀ r ∈ addW L k w, r.1 = k ∨ ∃ q ∈ L, q.1 = r.1 := by
  induction L with
  | nil =>
    intro r hr
    simp only [addW, List.mem_singleton] at hr
    exact Or.inl (by rw [hr])
  | cons q L ih =>
    intro r hr
    simp only [addW] at hr
    split at hr
    · rcases List.mem_cons.mp hr with e | e
      · exact Or.inl (by rw [e])
      · exact Or.inr ⟨r, e, rfl⟩
    · split at hr
      · rcases List.mem_cons.mp hr with e | e
        · exact Or.inl (by rw [e])
        · exact Or.inr ⟨r, List.mem_cons_of_mem _ e, rfl⟩
      · rcases List.mem_cons.mp hr with e | e
        · exact Or.inr ⟨q, List.mem_cons_self, by rw [e]⟩
        · rcases ih r e with h | ⟨q', h1, h2⟩
          · exact Or.inl h
          · exact Or.inr ⟨q', List.mem_cons_of_mem _ h1, h2⟩
theorem addW_srt {L : List Rw} (k : Ky) (w : Int64) (h : Srt L) : Srt (addW L k w) := by
  induction L with
  | nil => exact List.pairwise_singleton _ _
  | cons q L ih =>
    obtain ⟨h1, h2⟩ := List.pairwise_cons.mp h
    simp only [addW]
    split
    · next hk =>
      refine List.pairwise_cons.mpr ⟨fun r hr => ?_, h⟩
      rcases List.mem_cons.mp hr with e | e
      · rw [e]; exact hk
      · exact Int.lt_trans hk (h1 r e)
    · next hk =>
      split
      · next he =>
        refine List.pairwise_cons.mpr ⟨fun r hr => ?_, h2⟩
        have := h1 r hr
        rw [he] at this
        exact this
      · next he =>
        refine List.pairwise_cons.mpr ⟨fun r hr => ?_, ih h2⟩
        rcases addW_mem r hr with e | ⟨q', e1, e2⟩
        · rw [e]
          have : kz q.1 ≠ kz k := fun z => he (kz_inj z)
          omega
        · rw [← e2]; exact h1 q' e1
theorem addW_wt {L : List Rw} (k : Ky) (w : Int64) (h : Srt L) (k' : Ky) : wt (addW L k w) k' = wt L k' + (if k' = k then w else 0) := by
  induction L with
  | nil =>
    simp only [addW, wt]
    by_cases e : k = k'
    · simp [e]
    · simp [e, Ne.symm e]
  | cons q L ih =>
    obtain ⟨h1, h2⟩ := List.pairwise_cons.mp h
    simp only [addW]
    split
    · next hk =>
      by_cases e : k = k'
      · subst e
        have hz : wt (q :: L) k = 0 := wt_lt (fun r hr => by
          rcases List.mem_cons.mp hr with e | e
          · rw [e]; exact hk
          · exact Int.lt_trans hk (h1 r e))
        rw [hz]
        simp [wt]
      · simp [wt, e, Ne.symm e]
    · next hk =>
      split
      · next he =>
        by_cases e : k = k'
        · subst e; simp [wt, he]
        · have : ¬ q.1 = k' := by rw [he]; exact e
          simp [wt, e, Ne.symm e, this]
      · next he =>
        by_cases e : q.1 = k'
        · have : ¬ k' = k := fun z => he (e.trans z)
          simp [wt, e, this]
        · simp only [wt, if_neg e]
          exact ih h2
theorem addW_len {L : List Rw} (k : Ky) (w : Int64) : (addW L k w).length ≤ L.length + 1 := by
  induction L with
  | nil => simp [addW]
  | cons q L ih =>
    simp only [addW]
    split
    · simp
    · split
      · simp
      · simp only [List.length_cons]; omega
/-- rows whose weight isn't 0 -/
def nz (L : List Rw) : List Rw := L.filter (fun r => decide (r.2 ≠ 0))
theorem nz_srt {L : List Rw} (h : Srt L) : Srt (nz L) := List.Pairwise.filter _ h
theorem nz_mem {L : List Rw} {r : Rw} : r ∈ nz L ↔ r ∈ L ∧ r.2 ≠ 0 := by simp [nz]
theorem nz_wt {L : List Rw} (h : Srt L) (k : Ky) : wt (nz L) k = wt L k := by
  induction L with
  | nil => rfl
  | cons q L ih =>
    obtain ⟨h1, h2⟩ := List.pairwise_cons.mp h
    have ih := ih h2
    by_cases hq : q.2 = 0
    · have e : nz (q :: L) = nz L := by simp [nz, hq]
      rw [e, ih]
      by_cases hk : q.1 = k
      · simp only [wt, if_pos hk, hq]
        exact wt_lt (fun r hr => by rw [← hk]; exact h1 r hr)
      · simp [wt, hk]
    · have e : nz (q :: L) = q :: nz L := by simp [nz, hq]
      rw [e]
      simp only [wt, ih]
theorem nz_nz {L : List Rw} (h : ∀ r ∈ L, r.2 ≠ 0) : nz L = L := List.filter_eq_self.mpr (fun r hr => by simpa using h r hr)
theorem wt_mem {L : List Rw} (h : Srt L) {r : Rw} (hr : r ∈ L) : wt L r.1 = r.2 := by
  induction L with
  | nil => cases hr
  | cons q L ih =>
    obtain ⟨h1, h2⟩ := List.pairwise_cons.mp h
    rcases List.mem_cons.mp hr with e | e
    · subst e; simp [wt]
    · have hlt := h1 r e
      have : ¬ q.1 = r.1 := fun z => by rw [z] at hlt; omega
      simp only [wt, if_neg this]
      exact ih h2 e
theorem wt_none {L : List Rw} {k : Ky} (h : ∀ r ∈ L, r.1 ≠ k) : wt L k = 0 := by
  induction L with
  | nil => rfl
  | cons q L ih =>
    simp only [wt, if_neg (h q List.mem_cons_self)]
    exact ih (fun r hr => h r (List.mem_cons_of_mem _ hr))
theorem mem_of_wt {L : List Rw} {k : Ky} (h : wt L k ≠ 0) : (k, wt L k) ∈ L := by
  induction L with
  | nil => exact absurd rfl h
  | cons q L ih =>
    by_cases e : q.1 = k
    · have : wt (q :: L) k = q.2 := by simp [wt, e]
      rw [this, ← e]
      exact List.mem_cons_self
    · have : wt (q :: L) k = wt L k := by simp [wt, e]
      rw [this] at h ⊢
      exact List.mem_cons_of_mem _ (ih h)
/-- sorted lists without zeros are told by their weights -/
theorem eq_of_wt {L M : List Rw} (hL : Srt L) (hM : Srt M) (zL : ∀ r ∈ L, r.2 ≠ 0) (zM : ∀ r ∈ M, r.2 ≠ 0) (e : ∀ k, wt L k = wt M k) : L = M := by
  have sub : ∀ {A B : List Rw}, Srt A → (∀ r ∈ A, r.2 ≠ 0) → (∀ k, wt A k = wt B k) → ∀ r ∈ A, r ∈ B := by
    intro A B hA zA hAB r hr
    have h1 := wt_mem hA hr
    have h2 := hAB r.1
    have h3 : wt B r.1 ≠ 0 := by rw [← h2, h1]; exact zA r hr
    have h4 := mem_of_wt h3
    rw [← h2, h1] at h4
    exact h4
  have s1 := sub hL zL e
  have s2 := sub hM zM (fun k => (e k).symm)
  clear sub zL zM e
  induction L generalizing M with
  | nil =>
    cases M with
    | nil => rfl
    | cons q M => exact absurd (s2 q List.mem_cons_self) List.not_mem_nil
  | cons p L ih =>
    cases M with
    | nil => exact absurd (s1 p List.mem_cons_self) List.not_mem_nil
    | cons q M =>
      obtain ⟨a1, a2⟩ := List.pairwise_cons.mp hL
      obtain ⟨b1, b2⟩ := List.pairwise_cons.mp hM
      have hpq : p = q := by
        rcases List.mem_cons.mp (s1 p List.mem_cons_self) with h | h
        · exact h
        · rcases List.mem_cons.mp (s2 q List.mem_cons_self) with h' | h'
          · exact h'.symm
          · have := b1 p h
            have := a1 q h'
            omega
      subst hpq
      congr 1
      refine ih a2 b2 (fun r hr => ?_) (fun r hr => ?_)
      · rcases List.mem_cons.mp (s1 r (List.mem_cons_of_mem _ hr)) with h | h
        · have := a1 r hr
          rw [h] at this
          omega
        · exact h
      · rcases List.mem_cons.mp (s2 r (List.mem_cons_of_mem _ hr)) with h | h
        · have := b1 r hr
          rw [h] at this
          omega
        · exact h
/-- p is the place of the first row that doesn't come before k -/
def PlaceP (L : List Rw) (k : Ky) (p : Nat) : Prop := p ≤ L.length ∧ (∀ (i : Nat) (r : Rw), i < p → L[i]? = some r → kz r.1 < kz k) ∧ (∀ (i : Nat) (r : Rw), p ≤ i → L[i]? = some r → kz k ≤ kz r.1)
theorem PlaceP.tail {r : Rw} {L : List Rw} {k : Ky} {p : Nat} (h : PlaceP (r :: L) k (p + 1)) : kz r.1 < kz k ∧ PlaceP L k p := by
  obtain ⟨h1, h2, h3⟩ := h
  refine ⟨h2 0 r (Nat.succ_pos p) rfl, by simpa using h1, fun i q hi hq => h2 (i + 1) q (by omega) (by simpa using hq), fun i q hi hq => h3 (i + 1) q (by omega) (by simpa using hq)⟩
theorem addW_at {L : List Rw} {k : Ky} {p : Nat} {r : Rw} (w : Int64) (h : PlaceP L k p) (hr : L[p]? = some r) (hk : r.1 = k) : addW L k w = L.set p (k, r.2 + w) := by
  induction L generalizing p with
  | nil => simp at hr
  | cons q L ih =>
    cases p with
    | zero =>
      simp only [List.getElem?_cons_zero, Option.some.injEq] at hr
      subst hr
      have : ¬ kz k < kz q.1 := by rw [hk]; omega
      simp [addW, this, hk]
    | succ p =>
      obtain ⟨h1, h2⟩ := h.tail
      have n1 : ¬ kz k < kz q.1 := by omega
      have n2 : ¬ q.1 = k := fun e => by rw [e] at h1; omega
      simp only [addW, if_neg n1, if_neg n2, List.set_cons_succ]
      rw [ih h2 (by simpa using hr)]
theorem addW_in {L : List Rw} {k : Ky} {p : Nat} (w : Int64) (h : PlaceP L k p) (hk : ∀ r, L[p]? = some r → r.1 ≠ k) : addW L k w = L.take p ++ (k, w) :: L.drop p := by
  induction L generalizing p with
  | nil =>
    have : p = 0 := by have := h.1; simpa using this
    subst this
    rfl
  | cons q L ih =>
    cases p with
    | zero =>
      have h1 := h.2.2 0 q (Nat.le_refl 0) rfl
      have h2 := hk q rfl
      have h3 : kz k ≠ kz q.1 := fun e => h2 (kz_inj e).symm
      have : kz k < kz q.1 := by omega
      simp [addW, this]
    | succ p =>
      obtain ⟨h1, h2⟩ := h.tail
      have n1 : ¬ kz k < kz q.1 := by omega
      have n2 : ¬ q.1 = k := fun e => by rw [e] at h1; omega
      simp only [addW, if_neg n1, if_neg n2, List.take_succ_cons, List.drop_succ_cons, List.cons_append]
      rw [ih h2 (fun r hr => hk r (by simpa using hr))]
theorem wt_at {L : List Rw} {k : Ky} {p : Nat} {r : Rw} (h : PlaceP L k p) (hr : L[p]? = some r) (hk : r.1 = k) : wt L k = r.2 := by
  induction L generalizing p with
  | nil => simp at hr
  | cons q L ih =>
    cases p with
    | zero =>
      simp only [List.getElem?_cons_zero, Option.some.injEq] at hr
      subst hr
      simp [wt, hk]
    | succ p =>
      obtain ⟨h1, h2⟩ := h.tail
      have n2 : ¬ q.1 = k := fun e => by rw [e] at h1; omega
      simp only [wt, if_neg n2]
      exact ih h2 (by simpa using hr)
theorem wt_not {L : List Rw} {k : Ky} {p : Nat} (hs : Srt L) (h : PlaceP L k p) (hk : ∀ r, L[p]? = some r → r.1 ≠ k) : wt L k = 0 := by
  induction L generalizing p with
  | nil => rfl
  | cons q L ih =>
    obtain ⟨s1, s2⟩ := List.pairwise_cons.mp hs
    cases p with
    | zero =>
      have h1 := h.2.2 0 q (Nat.le_refl 0) rfl
      have h2 := hk q rfl
      have h3 : kz k ≠ kz q.1 := fun e => h2 (kz_inj e).symm
      refine wt_lt (fun r hr => ?_)
      rcases List.mem_cons.mp hr with e | e
      · rw [e]; omega
      · have := s1 r e; omega
    | succ p =>
      obtain ⟨h1, h2⟩ := h.tail
      have n2 : ¬ q.1 = k := fun e => by rw [e] at h1; omega
      simp only [wt, if_neg n2]
      exact ih s2 h2 (fun r hr => hk r (by simpa using hr))
/-- in a sorted list what stands before is smaller -/
theorem srt_get {L : List Rw} (h : Srt L) {i j : Nat} {x y : Rw} (hij : i < j) (hx : L[i]? = some x) (hy : L[j]? = some y) : kz x.1 < kz y.1 := by
  obtain ⟨h1, e1⟩ := List.getElem?_eq_some_iff.mp hx
  obtain ⟨h2, e2⟩ := List.getElem?_eq_some_iff.mp hy
  have := List.pairwise_iff_getElem.mp h i j h1 h2 hij
  rw [e1, e2] at this
  exact this
end
section
/-! how a list of rows lies in an array of ints (three to a row) and an array of longs -/
def EncA (f : Nat → Int32) (g : Nat → Int64) (i : Nat) (r : Rw) : Prop := f (i * 3) = r.1.1 ∧ f (i * 3 + 1) = r.1.2.1 ∧ f (i * 3 + 2) = r.1.2.2 ∧ g i = r.2
def Enc (f : Nat → Int32) (g : Nat → Int64) (L : List Rw) : Prop := ∀ (i : Nat) (r : Rw), L[i]? = some r → EncA f g i r
theorem Enc_nil (f : Nat → Int32) (g : Nat → Int64) : Enc f g [] := fun i r h => by simp at h
theorem Enc_set {f : Nat → Int32} {g : Nat → Int64} {L : List Rw} (h : Enc f g L) {p : Nat} {r : Rw} (hp : L[p]? = some r) (w : Int64) : Enc f (vp_updL g p w) (L.set p (r.1, w)) := by
  intro i q hq
  have hl := (List.getElem?_eq_some_iff.mp hp).1
  by_cases e : i = p
  · subst e
    rw [List.getElem?_set_self hl] at hq
    cases hq
    obtain ⟨e1, e2, e3, e4⟩ := h i r hp
    exact ⟨e1, e2, e3, pk_uLs⟩
  · rw [List.getElem?_set_ne (Ne.symm e)] at hq
    obtain ⟨e1, e2, e3, e4⟩ := h i q hq
    exact ⟨e1, e2, e3, by rw [pk_uLn e]; exact e4⟩
theorem Enc_ins {f : Nat → Int32} {g : Nat → Int64} {L : List Rw} (h : Enc f g L) {p : Nat} (hp : p ≤ L.length) (a b c : Int32) (w : Int64) : Enc (upd (upd (upd (va_cpy f f (p * 3) (p * 3 + 3) ((L.length - p) * 3)) (p * 3) a) (p * 3 + 1) b) (p * 3 + 2) c) (vp_updL (va_cpy g g p (p + 1) (L.length - p)) p w) (L.take p ++ ((a, b, c), w) :: L.drop p) := by
  intro i r hr
  have hlt : (L.take p).length = p := by rw [List.length_take]; omega
  rcases Nat.lt_trichotomy i p with hi | hi | hi
  · have e : L[i]? = some r := by
      rw [List.getElem?_append_left (by omega), List.getElem?_take_of_lt hi] at hr
      exact hr
    obtain ⟨e1, e2, e3, e4⟩ := h i r e
    refine ⟨?_, ?_, ?_, ?_⟩
    · rw [pk_un (by omega), pk_un (by omega), pk_un (by omega), pk_cpy_out (Or.inl (by omega))]; exact e1
    · rw [pk_un (by omega), pk_un (by omega), pk_un (by omega), pk_cpy_out (Or.inl (by omega))]; exact e2
    · rw [pk_un (by omega), pk_un (by omega), pk_un (by omega), pk_cpy_out (Or.inl (by omega))]; exact e3
    · rw [pk_uLn (by omega), pk_cpy_out (Or.inl (by omega))]; exact e4
  · subst hi
    rw [List.getElem?_append_right (by omega), hlt, Nat.sub_self, List.getElem?_cons_zero] at hr
    cases hr
    refine ⟨?_, ?_, ?_, ?_⟩
    · rw [pk_un (by omega), pk_un (by omega), pk_us]
    · rw [pk_un (by omega), pk_us]
    · rw [pk_us]
    · rw [pk_uLs]
  · obtain ⟨j, rfl⟩ : ∃ j, i = p + 1 + j := ⟨i - p - 1, by omega⟩
    rw [List.getElem?_append_right (by omega), hlt, show p + 1 + j - p = j + 1 by omega, List.getElem?_cons_succ, List.getElem?_drop] at hr
    have hl := (List.getElem?_eq_some_iff.mp hr).1
    obtain ⟨e1, e2, e3, e4⟩ := h _ r hr
    refine ⟨?_, ?_, ?_, ?_⟩
    · rw [pk_un (by omega), pk_un (by omega), pk_un (by omega), pk_cpy_in (by omega) (by omega), ← e1]; congr 1; omega
    · rw [pk_un (by omega), pk_un (by omega), pk_un (by omega), pk_cpy_in (by omega) (by omega), ← e2]; congr 1; omega
    · rw [pk_un (by omega), pk_un (by omega), pk_un (by omega), pk_cpy_in (by omega) (by omega), ← e3]; congr 1; omega
    · rw [pk_uLn (by omega), pk_cpy_in (by omega) (by omega), ← e4]; congr 1; omega
theorem Enc_copy {f f' : Nat → Int32} {g g' : Nat → Int64} {L : List Rw} (h : Enc f g L) {n : Nat} (hn : n = L.length) : Enc (va_cpy f f' 0 0 (n * 3)) (va_cpy g g' 0 0 n) L := by
  intro i r hr
  have hl := (List.getElem?_eq_some_iff.mp hr).1
  obtain ⟨e1, e2, e3, e4⟩ := h i r hr
  refine ⟨?_, ?_, ?_, ?_⟩
  · rw [pk_cpy_in (by omega) (by omega), ← e1]; congr 1; omega
  · rw [pk_cpy_in (by omega) (by omega), ← e2]; congr 1; omega
  · rw [pk_cpy_in (by omega) (by omega), ← e3]; congr 1; omega
  · rw [pk_cpy_in (by omega) (by omega), ← e4]; congr 1; omega
theorem Enc_snoc {f f' : Nat → Int32} {g g' : Nat → Int64} {M : List Rw} {r : Rw} (h : Enc f g M) (hf : ∀ j, j < M.length * 3 → f' j = f j) (hg : ∀ j, j < M.length → g' j = g j) (hr : EncA f' g' M.length r) : Enc f' g' (M ++ [r]) := by
  intro i q hq
  by_cases hi : i < M.length
  · rw [List.getElem?_append_left hi] at hq
    obtain ⟨e1, e2, e3, e4⟩ := h i q hq
    exact ⟨by rw [hf _ (by omega)]; exact e1, by rw [hf _ (by omega)]; exact e2, by rw [hf _ (by omega)]; exact e3, by rw [hg _ (by omega)]; exact e4⟩
  · rw [List.getElem?_append_right (by omega)] at hq
    have hz := (List.getElem?_eq_some_iff.mp hq).1
    have e : i = M.length := by simp at hz; omega
    subst e
    rw [Nat.sub_self] at hq
    cases hq
    exact hr
theorem nz_take {L : List Rw} {i : Nat} {r : Rw} (h : L[i]? = some r) : nz (L.take (i + 1)) = nz (L.take i) ++ (if r.2 = 0 then [] else [r]) := by
  rw [List.take_succ, h]
  by_cases e : r.2 = 0
  · simp [nz, List.filter_append, e]
  · simp [nz, List.filter_append, e]
theorem nz_len {L : List Rw} {i : Nat} : (nz (L.take i)).length ≤ i := Nat.le_trans (List.length_filter_le _ _) (by rw [List.length_take]; omega)
end
