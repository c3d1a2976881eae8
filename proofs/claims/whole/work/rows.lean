section
-- ===== PART A: goes FIRST, ahead of the names: the tables' words, and 'selects' of the private methods out of them =====
/-- a private method of a class that the tables say can be made, by its rows of tables_1 -/
def lw_okq (q : MethodName × Nat) : Prop := (q.1.cls ≠ "java/lang/invoke/MethodHandle" ∧ q.1.cls ≠ "java/lang/invoke/VarHandle") ∧ Cond.instantiable q.1.cls q.2 ∈ tables_1 ∧ Cond.privateMethod q.1 ∈ tables_1 ∧ Cond.instanceMethod q.1 ∈ tables_1
theorem lw_p0 : lw_okq (⟨"ShapeKeeper$ObjectTable", "has", "(I)Z"⟩, 5) := ⟨⟨by decide +kernel, by decide +kernel⟩, List.mem_of_getElem? (i := 23) (by decide +kernel), List.mem_of_getElem? (i := 138) (by decide +kernel), List.mem_of_getElem? (i := 139) (by decide +kernel)⟩
theorem lw_p1 : lw_okq (⟨"ShapeKeeper$ShapeTree", "placeOf", "(II)I"⟩, 5) := ⟨⟨by decide +kernel, by decide +kernel⟩, List.mem_of_getElem? (i := 53) (by decide +kernel), List.mem_of_getElem? (i := 145) (by decide +kernel), List.mem_of_getElem? (i := 146) (by decide +kernel)⟩
theorem lw_p2 : lw_okq (⟨"ShapeKeeper$ShapeTree", "grow", "(II)I"⟩, 5) := ⟨⟨by decide +kernel, by decide +kernel⟩, List.mem_of_getElem? (i := 53) (by decide +kernel), List.mem_of_getElem? (i := 149) (by decide +kernel), List.mem_of_getElem? (i := 150) (by decide +kernel)⟩
theorem lw_p3 : lw_okq (⟨"ShapeKeeper$ShapeTree", "withName", "(II)I"⟩, 5) := ⟨⟨by decide +kernel, by decide +kernel⟩, List.mem_of_getElem? (i := 53) (by decide +kernel), List.mem_of_getElem? (i := 153) (by decide +kernel), List.mem_of_getElem? (i := 154) (by decide +kernel)⟩
theorem lw_p4 : lw_okq (⟨"ShapeKeeper$ShapeTree", "makeWith", "(II)I"⟩, 5) := ⟨⟨by decide +kernel, by decide +kernel⟩, List.mem_of_getElem? (i := 53) (by decide +kernel), List.mem_of_getElem? (i := 157) (by decide +kernel), List.mem_of_getElem? (i := 158) (by decide +kernel)⟩
theorem lw_p5 : lw_okq (⟨"ShapeKeeper$ShapeTree", "make", "(IIII)I"⟩, 5) := ⟨⟨by decide +kernel, by decide +kernel⟩, List.mem_of_getElem? (i := 53) (by decide +kernel), List.mem_of_getElem? (i := 161) (by decide +kernel), List.mem_of_getElem? (i := 162) (by decide +kernel)⟩
theorem lw_p6 : lw_okq (⟨"ShapeKeeper", "change", "(II)V"⟩, 4) := ⟨⟨by decide +kernel, by decide +kernel⟩, List.mem_of_getElem? (i := 15) (by decide +kernel), List.mem_of_getElem? (i := 165) (by decide +kernel), List.mem_of_getElem? (i := 166) (by decide +kernel)⟩
theorem lw_p7 : lw_okq (⟨"ShapeKeeper$FindingRing", "breakThrough", "(I)V"⟩, 9) := ⟨⟨by decide +kernel, by decide +kernel⟩, List.mem_of_getElem? (i := 79) (by decide +kernel), List.mem_of_getElem? (i := 169) (by decide +kernel), List.mem_of_getElem? (i := 170) (by decide +kernel)⟩
theorem lw_p8 : lw_okq (⟨"ShapeKeeper$ShapeTree", "listNames", "(II[I)I"⟩, 5) := ⟨⟨by decide +kernel, by decide +kernel⟩, List.mem_of_getElem? (i := 53) (by decide +kernel), List.mem_of_getElem? (i := 177) (by decide +kernel), List.mem_of_getElem? (i := 178) (by decide +kernel)⟩
theorem lw_p9 : lw_okq (⟨"ShapeKeeper$ShapeTree", "nameAt", "(II)I"⟩, 5) := ⟨⟨by decide +kernel, by decide +kernel⟩, List.mem_of_getElem? (i := 53) (by decide +kernel), List.mem_of_getElem? (i := 181) (by decide +kernel), List.mem_of_getElem? (i := 182) (by decide +kernel)⟩
theorem lw_p10 : lw_okq (⟨"ShapeKeeper$ShapeTree", "reach", "(I[II)I"⟩, 5) := ⟨⟨by decide +kernel, by decide +kernel⟩, List.mem_of_getElem? (i := 53) (by decide +kernel), List.mem_of_getElem? (i := 185) (by decide +kernel), List.mem_of_getElem? (i := 186) (by decide +kernel)⟩
theorem lw_p11 : lw_okq (⟨"ShapeKeeper$ShapeTree", "emptyOf", "(I)I"⟩, 5) := ⟨⟨by decide +kernel, by decide +kernel⟩, List.mem_of_getElem? (i := 53) (by decide +kernel), List.mem_of_getElem? (i := 189) (by decide +kernel), List.mem_of_getElem? (i := 190) (by decide +kernel)⟩
theorem lw_p12 : lw_okq (⟨"ShapeKeeper$ShapeTree", "makeEmpty", "(I)I"⟩, 5) := ⟨⟨by decide +kernel, by decide +kernel⟩, List.mem_of_getElem? (i := 53) (by decide +kernel), List.mem_of_getElem? (i := 193) (by decide +kernel), List.mem_of_getElem? (i := 194) (by decide +kernel)⟩
theorem lw_p13 : lw_okq (⟨"ShapeKeeper$ObjectTable", "closeGap", "(II)V"⟩, 5) := ⟨⟨by decide +kernel, by decide +kernel⟩, List.mem_of_getElem? (i := 23) (by decide +kernel), List.mem_of_getElem? (i := 197) (by decide +kernel), List.mem_of_getElem? (i := 198) (by decide +kernel)⟩
theorem lw_p14 : lw_okq (⟨"ShapeKeeper$ObjectTable", "canBePrototype", "(I)Z"⟩, 5) := ⟨⟨by decide +kernel, by decide +kernel⟩, List.mem_of_getElem? (i := 23) (by decide +kernel), List.mem_of_getElem? (i := 205) (by decide +kernel), List.mem_of_getElem? (i := 206) (by decide +kernel)⟩
theorem lw_p15 : lw_okq (⟨"ShapeKeeper$ObjectTable", "leadsTo", "(II)Z"⟩, 5) := ⟨⟨by decide +kernel, by decide +kernel⟩, List.mem_of_getElem? (i := 23) (by decide +kernel), List.mem_of_getElem? (i := 210) (by decide +kernel), List.mem_of_getElem? (i := 211) (by decide +kernel)⟩
def lw_privs_1 : List (MethodName × Nat) := [(⟨"ShapeKeeper$ObjectTable", "has", "(I)Z"⟩, 5), (⟨"ShapeKeeper$ShapeTree", "placeOf", "(II)I"⟩, 5), (⟨"ShapeKeeper$ShapeTree", "grow", "(II)I"⟩, 5), (⟨"ShapeKeeper$ShapeTree", "withName", "(II)I"⟩, 5), (⟨"ShapeKeeper$ShapeTree", "makeWith", "(II)I"⟩, 5), (⟨"ShapeKeeper$ShapeTree", "make", "(IIII)I"⟩, 5), (⟨"ShapeKeeper", "change", "(II)V"⟩, 4), (⟨"ShapeKeeper$FindingRing", "breakThrough", "(I)V"⟩, 9), (⟨"ShapeKeeper$ShapeTree", "listNames", "(II[I)I"⟩, 5), (⟨"ShapeKeeper$ShapeTree", "nameAt", "(II)I"⟩, 5), (⟨"ShapeKeeper$ShapeTree", "reach", "(I[II)I"⟩, 5), (⟨"ShapeKeeper$ShapeTree", "emptyOf", "(I)I"⟩, 5), (⟨"ShapeKeeper$ShapeTree", "makeEmpty", "(I)I"⟩, 5), (⟨"ShapeKeeper$ObjectTable", "closeGap", "(II)V"⟩, 5), (⟨"ShapeKeeper$ObjectTable", "canBePrototype", "(I)Z"⟩, 5), (⟨"ShapeKeeper$ObjectTable", "leadsTo", "(II)Z"⟩, 5)]
theorem lw_r1 : ∀ q ∈ lw_privs_1, lw_okq q := List.forall_mem_cons.mpr ⟨lw_p0, List.forall_mem_cons.mpr ⟨lw_p1, List.forall_mem_cons.mpr ⟨lw_p2, List.forall_mem_cons.mpr ⟨lw_p3, List.forall_mem_cons.mpr ⟨lw_p4, List.forall_mem_cons.mpr ⟨lw_p5, List.forall_mem_cons.mpr ⟨lw_p6, List.forall_mem_cons.mpr ⟨lw_p7, List.forall_mem_cons.mpr ⟨lw_p8, List.forall_mem_cons.mpr ⟨lw_p9, List.forall_mem_cons.mpr ⟨lw_p10, List.forall_mem_cons.mpr ⟨lw_p11, List.forall_mem_cons.mpr ⟨lw_p12, List.forall_mem_cons.mpr ⟨lw_p13, List.forall_mem_cons.mpr ⟨lw_p14, List.forall_mem_cons.mpr ⟨lw_p15, fun _ h => absurd h List.not_mem_nil⟩⟩⟩⟩⟩⟩⟩⟩⟩⟩⟩⟩⟩⟩⟩⟩
theorem lw_p16 : lw_okq (⟨"ShapeKeeper$FindingRing", "add", "(IIIIJ)I"⟩, 9) := ⟨⟨by decide +kernel, by decide +kernel⟩, List.mem_of_getElem? (i := 79) (by decide +kernel), List.mem_of_getElem? (i := 218) (by decide +kernel), List.mem_of_getElem? (i := 219) (by decide +kernel)⟩
theorem lw_p17 : lw_okq (⟨"ShapeKeeper", "nearestWith", "(II)I"⟩, 4) := ⟨⟨by decide +kernel, by decide +kernel⟩, List.mem_of_getElem? (i := 15) (by decide +kernel), List.mem_of_getElem? (i := 225) (by decide +kernel), List.mem_of_getElem? (i := 226) (by decide +kernel)⟩
theorem lw_p18 : lw_okq (⟨"ShapeKeeper", "ownPlace", "(II)I"⟩, 4) := ⟨⟨by decide +kernel, by decide +kernel⟩, List.mem_of_getElem? (i := 15) (by decide +kernel), List.mem_of_getElem? (i := 229) (by decide +kernel), List.mem_of_getElem? (i := 230) (by decide +kernel)⟩
theorem lw_p19 : lw_okq (⟨"ShapeKeeper$ObjectTable", "way", "(II)J"⟩, 5) := ⟨⟨by decide +kernel, by decide +kernel⟩, List.mem_of_getElem? (i := 23) (by decide +kernel), List.mem_of_getElem? (i := 233) (by decide +kernel), List.mem_of_getElem? (i := 234) (by decide +kernel)⟩
theorem lw_p20 : lw_okq (⟨"ShapeKeeper$FindingRing", "has", "(I)Z"⟩, 9) := ⟨⟨by decide +kernel, by decide +kernel⟩, List.mem_of_getElem? (i := 79) (by decide +kernel), List.mem_of_getElem? (i := 241) (by decide +kernel), List.mem_of_getElem? (i := 242) (by decide +kernel)⟩
theorem lw_p21 : lw_okq (⟨"ShapeKeeper$ObjectTable", "countAbove", "(I)I"⟩, 5) := ⟨⟨by decide +kernel, by decide +kernel⟩, List.mem_of_getElem? (i := 23) (by decide +kernel), List.mem_of_getElem? (i := 249) (by decide +kernel), List.mem_of_getElem? (i := 250) (by decide +kernel)⟩
theorem lw_p22 : lw_okq (⟨"ShapeKeeper$ObjectTable", "countBelow", "(I)I"⟩, 5) := ⟨⟨by decide +kernel, by decide +kernel⟩, List.mem_of_getElem? (i := 23) (by decide +kernel), List.mem_of_getElem? (i := 260) (by decide +kernel), List.mem_of_getElem? (i := 261) (by decide +kernel)⟩
theorem lw_p23 : lw_okq (⟨"ShapeKeeper$ShapeTree", "has", "(I)Z"⟩, 5) := ⟨⟨by decide +kernel, by decide +kernel⟩, List.mem_of_getElem? (i := 53) (by decide +kernel), List.mem_of_getElem? (i := 269) (by decide +kernel), List.mem_of_getElem? (i := 270) (by decide +kernel)⟩
theorem lw_p24 : lw_okq (⟨"ShapeKeeper$ObjectTable", "countOfShape", "(I)I"⟩, 5) := ⟨⟨by decide +kernel, by decide +kernel⟩, List.mem_of_getElem? (i := 23) (by decide +kernel), List.mem_of_getElem? (i := 273) (by decide +kernel), List.mem_of_getElem? (i := 274) (by decide +kernel)⟩
theorem lw_p25 : lw_okq (⟨"ShapeKeeper$FindingRing", "whereOf", "(I)I"⟩, 9) := ⟨⟨by decide +kernel, by decide +kernel⟩, List.mem_of_getElem? (i := 79) (by decide +kernel), List.mem_of_getElem? (i := 282) (by decide +kernel), List.mem_of_getElem? (i := 283) (by decide +kernel)⟩
theorem lw_p26 : lw_okq (⟨"ShapeKeeper$FindingRing", "countHolding", "()I"⟩, 9) := ⟨⟨by decide +kernel, by decide +kernel⟩, List.mem_of_getElem? (i := 79) (by decide +kernel), List.mem_of_getElem? (i := 290) (by decide +kernel), List.mem_of_getElem? (i := 291) (by decide +kernel)⟩
theorem lw_p27 : lw_okq (⟨"java/lang/Throwable", "fillInStackTrace", "(I)Ljava/lang/Throwable;"⟩, 6) := ⟨⟨by decide +kernel, by decide +kernel⟩, List.mem_of_getElem? (i := 341) (by decide +kernel), List.mem_of_getElem? (i := 339) (by decide +kernel), List.mem_of_getElem? (i := 340) (by decide +kernel)⟩
theorem lw_p28 : lw_okq (⟨"ShapeKeeper$ObjectTable", "add", "(II)I"⟩, 5) := ⟨⟨by decide +kernel, by decide +kernel⟩, List.mem_of_getElem? (i := 23) (by decide +kernel), List.mem_of_getElem? (i := 388) (by decide +kernel), List.mem_of_getElem? (i := 389) (by decide +kernel)⟩
theorem lw_p29 : lw_okq (⟨"ShapeKeeperModel", "isObject", "(I)Z"⟩, 20) := ⟨⟨by decide +kernel, by decide +kernel⟩, List.mem_of_getElem? (i := 427) (by decide +kernel), List.mem_of_getElem? (i := 502) (by decide +kernel), List.mem_of_getElem? (i := 503) (by decide +kernel)⟩
theorem lw_p30 : lw_okq (⟨"ShapeKeeperModel", "shapeFor", "(II)I"⟩, 20) := ⟨⟨by decide +kernel, by decide +kernel⟩, List.mem_of_getElem? (i := 427) (by decide +kernel), List.mem_of_getElem? (i := 506) (by decide +kernel), List.mem_of_getElem? (i := 507) (by decide +kernel)⟩
theorem lw_p31 : lw_okq (⟨"ShapeKeeperModel", "empty", "(I)I"⟩, 20) := ⟨⟨by decide +kernel, by decide +kernel⟩, List.mem_of_getElem? (i := 427) (by decide +kernel), List.mem_of_getElem? (i := 510) (by decide +kernel), List.mem_of_getElem? (i := 511) (by decide +kernel)⟩
def lw_privs_2 : List (MethodName × Nat) := [(⟨"ShapeKeeper$FindingRing", "add", "(IIIIJ)I"⟩, 9), (⟨"ShapeKeeper", "nearestWith", "(II)I"⟩, 4), (⟨"ShapeKeeper", "ownPlace", "(II)I"⟩, 4), (⟨"ShapeKeeper$ObjectTable", "way", "(II)J"⟩, 5), (⟨"ShapeKeeper$FindingRing", "has", "(I)Z"⟩, 9), (⟨"ShapeKeeper$ObjectTable", "countAbove", "(I)I"⟩, 5), (⟨"ShapeKeeper$ObjectTable", "countBelow", "(I)I"⟩, 5), (⟨"ShapeKeeper$ShapeTree", "has", "(I)Z"⟩, 5), (⟨"ShapeKeeper$ObjectTable", "countOfShape", "(I)I"⟩, 5), (⟨"ShapeKeeper$FindingRing", "whereOf", "(I)I"⟩, 9), (⟨"ShapeKeeper$FindingRing", "countHolding", "()I"⟩, 9), (⟨"java/lang/Throwable", "fillInStackTrace", "(I)Ljava/lang/Throwable;"⟩, 6), (⟨"ShapeKeeper$ObjectTable", "add", "(II)I"⟩, 5), (⟨"ShapeKeeperModel", "isObject", "(I)Z"⟩, 20), (⟨"ShapeKeeperModel", "shapeFor", "(II)I"⟩, 20), (⟨"ShapeKeeperModel", "empty", "(I)I"⟩, 20)]
theorem lw_r2 : ∀ q ∈ lw_privs_2, lw_okq q := List.forall_mem_cons.mpr ⟨lw_p16, List.forall_mem_cons.mpr ⟨lw_p17, List.forall_mem_cons.mpr ⟨lw_p18, List.forall_mem_cons.mpr ⟨lw_p19, List.forall_mem_cons.mpr ⟨lw_p20, List.forall_mem_cons.mpr ⟨lw_p21, List.forall_mem_cons.mpr ⟨lw_p22, List.forall_mem_cons.mpr ⟨lw_p23, List.forall_mem_cons.mpr ⟨lw_p24, List.forall_mem_cons.mpr ⟨lw_p25, List.forall_mem_cons.mpr ⟨lw_p26, List.forall_mem_cons.mpr ⟨lw_p27, List.forall_mem_cons.mpr ⟨lw_p28, List.forall_mem_cons.mpr ⟨lw_p29, List.forall_mem_cons.mpr ⟨lw_p30, List.forall_mem_cons.mpr ⟨lw_p31, fun _ h => absurd h List.not_mem_nil⟩⟩⟩⟩⟩⟩⟩⟩⟩⟩⟩⟩⟩⟩⟩⟩
theorem lw_p32 : lw_okq (⟨"ShapeKeeperModel", "child", "(II)I"⟩, 20) := ⟨⟨by decide +kernel, by decide +kernel⟩, List.mem_of_getElem? (i := 427) (by decide +kernel), List.mem_of_getElem? (i := 514) (by decide +kernel), List.mem_of_getElem? (i := 515) (by decide +kernel)⟩
theorem lw_p33 : lw_okq (⟨"ShapeKeeperModel", "makeEmpty", "(I)I"⟩, 20) := ⟨⟨by decide +kernel, by decide +kernel⟩, List.mem_of_getElem? (i := 427) (by decide +kernel), List.mem_of_getElem? (i := 518) (by decide +kernel), List.mem_of_getElem? (i := 519) (by decide +kernel)⟩
theorem lw_p34 : lw_okq (⟨"ShapeKeeperModel", "makeChild", "(II)I"⟩, 20) := ⟨⟨by decide +kernel, by decide +kernel⟩, List.mem_of_getElem? (i := 427) (by decide +kernel), List.mem_of_getElem? (i := 522) (by decide +kernel), List.mem_of_getElem? (i := 523) (by decide +kernel)⟩
theorem lw_p35 : lw_okq (⟨"ShapeKeeperModel", "placeOf", "(II)I"⟩, 20) := ⟨⟨by decide +kernel, by decide +kernel⟩, List.mem_of_getElem? (i := 427) (by decide +kernel), List.mem_of_getElem? (i := 533) (by decide +kernel), List.mem_of_getElem? (i := 534) (by decide +kernel)⟩
theorem lw_p36 : lw_okq (⟨"ShapeKeeperModel", "above", "(I)I"⟩, 20) := ⟨⟨by decide +kernel, by decide +kernel⟩, List.mem_of_getElem? (i := 427) (by decide +kernel), List.mem_of_getElem? (i := 545) (by decide +kernel), List.mem_of_getElem? (i := 546) (by decide +kernel)⟩
theorem lw_p37 : lw_okq (⟨"ShapeKeeperModel", "isFinding", "(I)Z"⟩, 20) := ⟨⟨by decide +kernel, by decide +kernel⟩, List.mem_of_getElem? (i := 427) (by decide +kernel), List.mem_of_getElem? (i := 561) (by decide +kernel), List.mem_of_getElem? (i := 562) (by decide +kernel)⟩
theorem lw_p38 : lw_okq (⟨"ShapeKeeperModel", "holdsStill", "(I)Z"⟩, 20) := ⟨⟨by decide +kernel, by decide +kernel⟩, List.mem_of_getElem? (i := 427) (by decide +kernel), List.mem_of_getElem? (i := 565) (by decide +kernel), List.mem_of_getElem? (i := 566) (by decide +kernel)⟩
def lw_privs_3 : List (MethodName × Nat) := [(⟨"ShapeKeeperModel", "child", "(II)I"⟩, 20), (⟨"ShapeKeeperModel", "makeEmpty", "(I)I"⟩, 20), (⟨"ShapeKeeperModel", "makeChild", "(II)I"⟩, 20), (⟨"ShapeKeeperModel", "placeOf", "(II)I"⟩, 20), (⟨"ShapeKeeperModel", "above", "(I)I"⟩, 20), (⟨"ShapeKeeperModel", "isFinding", "(I)Z"⟩, 20), (⟨"ShapeKeeperModel", "holdsStill", "(I)Z"⟩, 20)]
theorem lw_r3 : ∀ q ∈ lw_privs_3, lw_okq q := List.forall_mem_cons.mpr ⟨lw_p32, List.forall_mem_cons.mpr ⟨lw_p33, List.forall_mem_cons.mpr ⟨lw_p34, List.forall_mem_cons.mpr ⟨lw_p35, List.forall_mem_cons.mpr ⟨lw_p36, List.forall_mem_cons.mpr ⟨lw_p37, List.forall_mem_cons.mpr ⟨lw_p38, fun _ h => absurd h List.not_mem_nil⟩⟩⟩⟩⟩⟩⟩
def lw_privs : List (MethodName × Nat) := lw_privs_1 ++ (lw_privs_2 ++ (lw_privs_3))
def lw_tbl : List Cond := k2_sels lw_privs ++ tables_1
theorem lw_privs_ok : ∀ q ∈ lw_privs, lw_okq q := by
  show ∀ q ∈ lw_privs_1 ++ (lw_privs_2 ++ (lw_privs_3)), lw_okq q
  exact List.forall_mem_append.mpr ⟨lw_r1, List.forall_mem_append.mpr ⟨lw_r2, lw_r3⟩⟩
-- ===== end of PART A; then your names; then what follows =====
end
section
def RF : String := "ShapeKeeper$FindingRing"
def TF : u_T := fun k => match k with
  | 0 => ("ShapeKeeper$FindingRing", "shapes", "[I", true)
  | 1 => ("ShapeKeeper$FindingRing", "names", "[I", true)
  | 2 => ("ShapeKeeper$FindingRing", "holders", "[I", true)
  | 3 => ("ShapeKeeper$FindingRing", "places", "[I", true)
  | 4 => ("ShapeKeeper$FindingRing", "ways", "[J", true)
  | 5 => ("ShapeKeeper$FindingRing", "holding", "[Z", true)
  | 6 => ("ShapeKeeper$FindingRing", "made", "I", false)
  | 7 => ("ShapeKeeper$FindingRing", "there", "I", false)
  | _ => ("ShapeKeeper$FindingRing", "next", "I", false)
def tyF : Nat → FieldType := fun k => match k with
  | 0 => .array .int
  | 1 => .array .int
  | 2 => .array .int
  | 3 => .array .int
  | 4 => .array .long
  | 5 => .array .boolean
  | 6 => .int
  | 7 => .int
  | _ => .int
theorem nmF : ∀ a, a < 9 → ∀ b, b < 9 → a ≠ b → (TF a).2.1 ≠ (TF b).2.1 := by decide +kernel
theorem tyF_ok : ∀ k, k < 9 → parseFieldDescriptor (TF k).2.2.1 = some (tyF k) := by decide +kernel
def RO : String := "ShapeKeeper$ObjectTable"
def TO : u_T := fun k => match k with
  | 0 => ("ShapeKeeper$ObjectTable", "prototypes", "[I", true)
  | 1 => ("ShapeKeeper$ObjectTable", "shapes", "[I", true)
  | 2 => ("ShapeKeeper$ObjectTable", "changes", "[I", true)
  | 3 => ("ShapeKeeper$ObjectTable", "values", "[[I", true)
  | _ => ("ShapeKeeper$ObjectTable", "size", "I", false)
def tyO : Nat → FieldType := fun k => match k with
  | 0 => .array .int
  | 1 => .array .int
  | 2 => .array .int
  | 3 => .array (.array .int)
  | _ => .int
theorem nmO : ∀ a, a < 5 → ∀ b, b < 5 → a ≠ b → (TO a).2.1 ≠ (TO b).2.1 := by decide +kernel
theorem tyO_ok : ∀ k, k < 5 → parseFieldDescriptor (TO k).2.2.1 = some (tyO k) := by decide +kernel
def RT : String := "ShapeKeeper$ShapeTree"
def TT : u_T := fun k => match k with
  | 0 => ("ShapeKeeper$ShapeTree", "prototypes", "[I", true)
  | 1 => ("ShapeKeeper$ShapeTree", "origins", "[I", true)
  | 2 => ("ShapeKeeper$ShapeTree", "lastNames", "[I", true)
  | 3 => ("ShapeKeeper$ShapeTree", "lengths", "[I", true)
  | _ => ("ShapeKeeper$ShapeTree", "size", "I", false)
def tyT : Nat → FieldType := fun k => match k with
  | 0 => .array .int
  | 1 => .array .int
  | 2 => .array .int
  | 3 => .array .int
  | _ => .int
theorem nmT : ∀ a, a < 5 → ∀ b, b < 5 → a ≠ b → (TT a).2.1 ≠ (TT b).2.1 := by decide +kernel
theorem tyT_ok : ∀ k, k < 5 → parseFieldDescriptor (TT k).2.2.1 = some (tyT k) := by decide +kernel
def RK : String := "ShapeKeeper"
def TK : u_T := fun k => match k with
  | 0 => ("ShapeKeeper", "objects", "LShapeKeeper$ObjectTable;", true)
  | 1 => ("ShapeKeeper", "shapes", "LShapeKeeper$ShapeTree;", true)
  | 2 => ("ShapeKeeper", "findings", "LShapeKeeper$FindingRing;", true)
  | _ => ("ShapeKeeper", "wanted", "[I", true)
def tyK : Nat → FieldType := fun k => match k with
  | 0 => .object "ShapeKeeper$ObjectTable"
  | 1 => .object "ShapeKeeper$ShapeTree"
  | 2 => .object "ShapeKeeper$FindingRing"
  | _ => .array .int
theorem nmK : ∀ a, a < 4 → ∀ b, b < 4 → a ≠ b → (TK a).2.1 ≠ (TK b).2.1 := by decide +kernel
theorem tyK_ok : ∀ k, k < 4 → parseFieldDescriptor (TK k).2.2.1 = some (tyK k) := by decide +kernel
def RM : String := "ShapeKeeperModel"
def TM : u_T := fun k => match k with
  | 0 => ("ShapeKeeperModel", "thrown", "I", false)
  | 1 => ("ShapeKeeperModel", "objects", "I", false)
  | 2 => ("ShapeKeeperModel", "shapeOf", "[I", true)
  | 3 => ("ShapeKeeperModel", "changed", "[I", true)
  | 4 => ("ShapeKeeperModel", "value", "[I", true)
  | 5 => ("ShapeKeeperModel", "shapes", "I", false)
  | 6 => ("ShapeKeeperModel", "prototype", "[I", true)
  | 7 => ("ShapeKeeperModel", "outOf", "[I", true)
  | 8 => ("ShapeKeeperModel", "many", "[I", true)
  | 9 => ("ShapeKeeperModel", "nameAt", "[I", true)
  | 10 => ("ShapeKeeperModel", "made", "I", false)
  | 11 => ("ShapeKeeperModel", "fShape", "[I", true)
  | 12 => ("ShapeKeeperModel", "fName", "[I", true)
  | 13 => ("ShapeKeeperModel", "fWhere", "[I", true)
  | 14 => ("ShapeKeeperModel", "fHolder", "[I", true)
  | 15 => ("ShapeKeeperModel", "fPlace", "[I", true)
  | 16 => ("ShapeKeeperModel", "fMany", "[I", true)
  | 17 => ("ShapeKeeperModel", "fObject", "[I", true)
  | 18 => ("ShapeKeeperModel", "fChanged", "[I", true)
  | _ => ("ShapeKeeperModel", "left", "[I", true)
def tyM : Nat → FieldType := fun k => match k with
  | 0 => .int
  | 1 => .int
  | 2 => .array .int
  | 3 => .array .int
  | 4 => .array .int
  | 5 => .int
  | 6 => .array .int
  | 7 => .array .int
  | 8 => .array .int
  | 9 => .array .int
  | 10 => .int
  | 11 => .array .int
  | 12 => .array .int
  | 13 => .array .int
  | 14 => .array .int
  | 15 => .array .int
  | 16 => .array .int
  | 17 => .array .int
  | 18 => .array .int
  | _ => .array .int
theorem nmM : ∀ a, a < 20 → ∀ b, b < 20 → a ≠ b → (TM a).2.1 ≠ (TM b).2.1 := by decide +kernel
theorem tyM_ok : ∀ k, k < 20 → parseFieldDescriptor (TM k).2.2.1 = some (tyM k) := by decide +kernel
def RL : String := "ShapeKeeperLaw"
abbrev cK_init : ByteArray := prog_1_method_1_code
def yK_init : MethodName := ⟨RK, "<init>", "()V"⟩
abbrev cO_init : ByteArray := prog_3_method_1_code
def yO_init : MethodName := ⟨RO, "<init>", "()V"⟩
abbrev cT_init : ByteArray := prog_4_method_1_code
def yT_init : MethodName := ⟨RT, "<init>", "()V"⟩
abbrev cF_init : ByteArray := prog_2_method_1_code
def yF_init : MethodName := ⟨RF, "<init>", "()V"⟩
abbrev cK_set : ByteArray := prog_1_method_3_code
def yK_set : MethodName := ⟨RK, "set", "(III)Z"⟩
abbrev cO_has : ByteArray := prog_3_method_2_code
def yO_has : MethodName := ⟨RO, "has", "(I)Z"⟩
abbrev cK_isName : ByteArray := prog_1_method_14_code
def yK_isName : MethodName := ⟨RK, "isName", "(I)Z"⟩
abbrev cT_placeOf : ByteArray := prog_4_method_10_code
def yT_placeOf : MethodName := ⟨RT, "placeOf", "(II)I"⟩
abbrev cT_grow : ByteArray := prog_4_method_5_code
def yT_grow : MethodName := ⟨RT, "grow", "(II)I"⟩
abbrev cT_withName : ByteArray := prog_4_method_4_code
def yT_withName : MethodName := ⟨RT, "withName", "(II)I"⟩
abbrev cT_makeWith : ByteArray := prog_4_method_8_code
def yT_makeWith : MethodName := ⟨RT, "makeWith", "(II)I"⟩
abbrev cT_make : ByteArray := prog_4_method_9_code
def yT_make : MethodName := ⟨RT, "make", "(IIII)I"⟩
abbrev cK_change : ByteArray := prog_1_method_15_code
def yK_change : MethodName := ⟨RK, "change", "(II)V"⟩
abbrev cF_breakThrough : ByteArray := prog_2_method_4_code
def yF_breakThrough : MethodName := ⟨RF, "breakThrough", "(I)V"⟩
abbrev cK_drop : ByteArray := prog_1_method_4_code
def yK_drop : MethodName := ⟨RK, "drop", "(II)Z"⟩
abbrev cT_listNames : ByteArray := prog_4_method_12_code
def yT_listNames : MethodName := ⟨RT, "listNames", "(II[I)I"⟩
abbrev cT_nameAt : ByteArray := prog_4_method_11_code
def yT_nameAt : MethodName := ⟨RT, "nameAt", "(II)I"⟩
abbrev cT_reach : ByteArray := prog_4_method_6_code
def yT_reach : MethodName := ⟨RT, "reach", "(I[II)I"⟩
abbrev cT_emptyOf : ByteArray := prog_4_method_3_code
def yT_emptyOf : MethodName := ⟨RT, "emptyOf", "(I)I"⟩
abbrev cT_makeEmpty : ByteArray := prog_4_method_7_code
def yT_makeEmpty : MethodName := ⟨RT, "makeEmpty", "(I)I"⟩
abbrev cO_closeGap : ByteArray := prog_3_method_5_code
def yO_closeGap : MethodName := ⟨RO, "closeGap", "(II)V"⟩
abbrev cK_turn : ByteArray := prog_1_method_5_code
def yK_turn : MethodName := ⟨RK, "turn", "(II)Z"⟩
abbrev cO_canBePrototype : ByteArray := prog_3_method_3_code
def yO_canBePrototype : MethodName := ⟨RO, "canBePrototype", "(I)Z"⟩
abbrev cO_leadsTo : ByteArray := prog_3_method_6_code
def yO_leadsTo : MethodName := ⟨RO, "leadsTo", "(II)Z"⟩
abbrev cK_find : ByteArray := prog_1_method_7_code
def yK_find : MethodName := ⟨RK, "find", "(II)I"⟩
abbrev cF_add : ByteArray := prog_2_method_3_code
def yF_add : MethodName := ⟨RF, "add", "(IIIIJ)I"⟩
abbrev cK_nearestWith : ByteArray := prog_1_method_17_code
def yK_nearestWith : MethodName := ⟨RK, "nearestWith", "(II)I"⟩
abbrev cK_ownPlace : ByteArray := prog_1_method_16_code
def yK_ownPlace : MethodName := ⟨RK, "ownPlace", "(II)I"⟩
abbrev cO_way : ByteArray := prog_3_method_7_code
def yO_way : MethodName := ⟨RO, "way", "(II)J"⟩
abbrev cK_holds : ByteArray := prog_1_method_8_code
def yK_holds : MethodName := ⟨RK, "holds", "(II)Z"⟩
abbrev cF_has : ByteArray := prog_2_method_2_code
def yF_has : MethodName := ⟨RF, "has", "(I)Z"⟩
abbrev cK_look : ByteArray := prog_1_method_10_code
def yK_look : MethodName := ⟨RK, "look", "(II)I"⟩
abbrev cO_countAbove : ByteArray := prog_3_method_8_code
def yO_countAbove : MethodName := ⟨RO, "countAbove", "(I)I"⟩
abbrev cO_countBelow : ByteArray := prog_3_method_9_code
def yO_countBelow : MethodName := ⟨RO, "countBelow", "(I)I"⟩
abbrev cK_shape : ByteArray := prog_1_method_11_code
def yK_shape : MethodName := ⟨RK, "shape", "(II)I"⟩
abbrev cT_has : ByteArray := prog_4_method_2_code
def yT_has : MethodName := ⟨RT, "has", "(I)Z"⟩
abbrev cO_countOfShape : ByteArray := prog_3_method_10_code
def yO_countOfShape : MethodName := ⟨RO, "countOfShape", "(I)I"⟩
abbrev cK_finding : ByteArray := prog_1_method_12_code
def yK_finding : MethodName := ⟨RK, "finding", "(II)I"⟩
abbrev cF_whereOf : ByteArray := prog_2_method_5_code
def yF_whereOf : MethodName := ⟨RF, "whereOf", "(I)I"⟩
abbrev cK_count : ByteArray := prog_1_method_13_code
def yK_count : MethodName := ⟨RK, "count", "(I)I"⟩
abbrev cF_countHolding : ByteArray := prog_2_method_6_code
def yF_countHolding : MethodName := ⟨RF, "countHolding", "()I"⟩
abbrev cL_object : ByteArray := method_3_code
def yL_object : MethodName := ⟨RL, "object", "(LShapeKeeper;I[J)I"⟩
abbrev cK_object : ByteArray := prog_1_method_2_code
def yK_object : MethodName := ⟨RK, "object", "(I)I"⟩
abbrev cO_add : ByteArray := prog_3_method_4_code
def yO_add : MethodName := ⟨RO, "add", "(II)I"⟩
abbrev cL_read : ByteArray := method_4_code
def yL_read : MethodName := ⟨RL, "read", "(LShapeKeeper;II[J)I"⟩
abbrev cK_read : ByteArray := prog_1_method_6_code
def yK_read : MethodName := ⟨RK, "read", "(II)I"⟩
abbrev cL_get : ByteArray := method_5_code
def yL_get : MethodName := ⟨RL, "get", "(LShapeKeeper;II[J)I"⟩
abbrev cK_get : ByteArray := prog_1_method_9_code
def yK_get : MethodName := ⟨RK, "get", "(II)I"⟩
abbrev cM_init : ByteArray := prog_6_method_1_code
def yM_init : MethodName := ⟨RM, "<init>", "()V"⟩
abbrev cM_thrown : ByteArray := prog_6_method_2_code
def yM_thrown : MethodName := ⟨RM, "thrown", "()I"⟩
abbrev cM_object : ByteArray := prog_6_method_12_code
def yM_object : MethodName := ⟨RM, "object", "(I)I"⟩
abbrev cM_isObject : ByteArray := prog_6_method_3_code
def yM_isObject : MethodName := ⟨RM, "isObject", "(I)Z"⟩
abbrev cM_shapeFor : ByteArray := prog_6_method_9_code
def yM_shapeFor : MethodName := ⟨RM, "shapeFor", "(II)I"⟩
abbrev cM_empty : ByteArray := prog_6_method_5_code
def yM_empty : MethodName := ⟨RM, "empty", "(I)I"⟩
abbrev cM_child : ByteArray := prog_6_method_6_code
def yM_child : MethodName := ⟨RM, "child", "(II)I"⟩
abbrev cM_makeEmpty : ByteArray := prog_6_method_7_code
def yM_makeEmpty : MethodName := ⟨RM, "makeEmpty", "(I)I"⟩
abbrev cM_makeChild : ByteArray := prog_6_method_8_code
def yM_makeChild : MethodName := ⟨RM, "makeChild", "(II)I"⟩
abbrev cM_set : ByteArray := prog_6_method_13_code
def yM_set : MethodName := ⟨RM, "set", "(III)Z"⟩
abbrev cM_isName : ByteArray := prog_6_method_11_code
def yM_isName : MethodName := ⟨RM, "isName", "(I)Z"⟩
abbrev cM_placeOf : ByteArray := prog_6_method_10_code
def yM_placeOf : MethodName := ⟨RM, "placeOf", "(II)I"⟩
abbrev cM_drop : ByteArray := prog_6_method_14_code
def yM_drop : MethodName := ⟨RM, "drop", "(II)Z"⟩
abbrev cM_turn : ByteArray := prog_6_method_15_code
def yM_turn : MethodName := ⟨RM, "turn", "(II)Z"⟩
abbrev cM_above : ByteArray := prog_6_method_4_code
def yM_above : MethodName := ⟨RM, "above", "(I)I"⟩
abbrev cM_read : ByteArray := prog_6_method_16_code
def yM_read : MethodName := ⟨RM, "read", "(II)I"⟩
abbrev cM_find : ByteArray := prog_6_method_17_code
def yM_find : MethodName := ⟨RM, "find", "(II)I"⟩
abbrev cM_holds : ByteArray := prog_6_method_20_code
def yM_holds : MethodName := ⟨RM, "holds", "(II)Z"⟩
abbrev cM_isFinding : ByteArray := prog_6_method_18_code
def yM_isFinding : MethodName := ⟨RM, "isFinding", "(I)Z"⟩
abbrev cM_holdsStill : ByteArray := prog_6_method_19_code
def yM_holdsStill : MethodName := ⟨RM, "holdsStill", "(I)Z"⟩
abbrev cM_get : ByteArray := prog_6_method_21_code
def yM_get : MethodName := ⟨RM, "get", "(II)I"⟩
abbrev cM_look : ByteArray := prog_6_method_22_code
def yM_look : MethodName := ⟨RM, "look", "(II)I"⟩
abbrev cM_shape : ByteArray := prog_6_method_23_code
def yM_shape : MethodName := ⟨RM, "shape", "(II)I"⟩
abbrev cM_finding : ByteArray := prog_6_method_24_code
def yM_finding : MethodName := ⟨RM, "finding", "(II)I"⟩
abbrev cM_count : ByteArray := prog_6_method_25_code
def yM_count : MethodName := ⟨RM, "count", "(I)I"⟩
abbrev cL_law : ByteArray := code
/-- the words that all methods need, of those that stay -/
def sk_W : List Cond := lw_tbl.filter goodWord
theorem sk_mem {w : Cond} (i : Nat) (h : lw_tbl[i]? = some w) (g : goodWord w = true) : w ∈ sk_W := List.mem_filter.mpr ⟨List.mem_of_getElem? h, g⟩
theorem sk_Wtbl : ∀ w ∈ sk_W, w ∈ lw_tbl := fun _ h => (List.mem_filter.mp h).1
theorem sk_Wgood : GoodIn sk_W sk_W := fun w h => ⟨h, good_of_word (List.mem_filter.mp h).2⟩
theorem sk_gC {c : Cond} (h : c ∈ sk_W) : GoodIn sk_W (c :: sk_W) := fun w hw => (List.mem_cons.mp hw).elim (fun e => sk_Wgood w (e ▸ h)) (fun q => sk_Wgood w q)
theorem sk_gV {own C : String} {idx : Nat} {y : MethodName} {c : Cond} (h1 : Cond.methodLink own idx y ∈ sk_W) (h2 : Cond.instanceMethod y ∈ sk_W) (h3 : Cond.selects C y y ∈ sk_W) (h4 : Cond.initialized C ∈ sk_W) (h5 : c ∈ sk_W) : GoodIn sk_W (wsV own idx C y (c :: sk_W)) := by
  intro w hw
  rcases List.mem_append.mp hw with q | q
  · simp only [List.mem_cons, List.not_mem_nil, or_false] at q
    rcases q with rfl | rfl | rfl | rfl
    · exact sk_Wgood _ h1
    · exact sk_Wgood _ h2
    · exact sk_Wgood _ h3
    · exact sk_Wgood _ h4
  · exact sk_gC h5 w q
theorem wlF_0 : u_lay RF TF 0 ∈ sk_W := sk_mem 138 (by decide +kernel) (by decide +kernel)
theorem wlF_1 : u_lay RF TF 1 ∈ sk_W := sk_mem 140 (by decide +kernel) (by decide +kernel)
theorem wlF_2 : u_lay RF TF 2 ∈ sk_W := sk_mem 142 (by decide +kernel) (by decide +kernel)
theorem wlF_3 : u_lay RF TF 3 ∈ sk_W := sk_mem 144 (by decide +kernel) (by decide +kernel)
theorem wlF_4 : u_lay RF TF 4 ∈ sk_W := sk_mem 146 (by decide +kernel) (by decide +kernel)
theorem wlF_5 : u_lay RF TF 5 ∈ sk_W := sk_mem 148 (by decide +kernel) (by decide +kernel)
theorem wlF_6 : u_lay RF TF 6 ∈ sk_W := sk_mem 150 (by decide +kernel) (by decide +kernel)
theorem wlF_7 : u_lay RF TF 7 ∈ sk_W := sk_mem 152 (by decide +kernel) (by decide +kernel)
theorem wlF_8 : u_lay RF TF 8 ∈ sk_W := sk_mem 154 (by decide +kernel) (by decide +kernel)
theorem inF : ∀ w ∈ u_ws RF TF 9, w ∈ sk_W := by
  intro w hw
  obtain ⟨k, hk, rfl⟩ := List.mem_map.mp hw
  have hk := List.mem_range.mp hk
  match k, hk with
  | 0, _ => exact wlF_0
  | 1, _ => exact wlF_1
  | 2, _ => exact wlF_2
  | 3, _ => exact wlF_3
  | 4, _ => exact wlF_4
  | 5, _ => exact wlF_5
  | 6, _ => exact wlF_6
  | 7, _ => exact wlF_7
  | 8, _ => exact wlF_8
  | q + 9, hk => exact absurd hk (by omega)
theorem wlO_0 : u_lay RO TO 0 ∈ sk_W := sk_mem 79 (by decide +kernel) (by decide +kernel)
theorem wlO_1 : u_lay RO TO 1 ∈ sk_W := sk_mem 81 (by decide +kernel) (by decide +kernel)
theorem wlO_2 : u_lay RO TO 2 ∈ sk_W := sk_mem 83 (by decide +kernel) (by decide +kernel)
theorem wlO_3 : u_lay RO TO 3 ∈ sk_W := sk_mem 85 (by decide +kernel) (by decide +kernel)
theorem wlO_4 : u_lay RO TO 4 ∈ sk_W := sk_mem 87 (by decide +kernel) (by decide +kernel)
theorem inO : ∀ w ∈ u_ws RO TO 5, w ∈ sk_W := by
  intro w hw
  obtain ⟨k, hk, rfl⟩ := List.mem_map.mp hw
  have hk := List.mem_range.mp hk
  match k, hk with
  | 0, _ => exact wlO_0
  | 1, _ => exact wlO_1
  | 2, _ => exact wlO_2
  | 3, _ => exact wlO_3
  | 4, _ => exact wlO_4
  | q + 5, hk => exact absurd hk (by omega)
theorem wlT_0 : u_lay RT TT 0 ∈ sk_W := sk_mem 106 (by decide +kernel) (by decide +kernel)
theorem wlT_1 : u_lay RT TT 1 ∈ sk_W := sk_mem 108 (by decide +kernel) (by decide +kernel)
theorem wlT_2 : u_lay RT TT 2 ∈ sk_W := sk_mem 110 (by decide +kernel) (by decide +kernel)
theorem wlT_3 : u_lay RT TT 3 ∈ sk_W := sk_mem 112 (by decide +kernel) (by decide +kernel)
theorem wlT_4 : u_lay RT TT 4 ∈ sk_W := sk_mem 114 (by decide +kernel) (by decide +kernel)
theorem inT : ∀ w ∈ u_ws RT TT 5, w ∈ sk_W := by
  intro w hw
  obtain ⟨k, hk, rfl⟩ := List.mem_map.mp hw
  have hk := List.mem_range.mp hk
  match k, hk with
  | 0, _ => exact wlT_0
  | 1, _ => exact wlT_1
  | 2, _ => exact wlT_2
  | 3, _ => exact wlT_3
  | 4, _ => exact wlT_4
  | q + 5, hk => exact absurd hk (by omega)
theorem wlK_0 : u_lay RK TK 0 ∈ sk_W := sk_mem 163 (by decide +kernel) (by decide +kernel)
theorem wlK_1 : u_lay RK TK 1 ∈ sk_W := sk_mem 165 (by decide +kernel) (by decide +kernel)
theorem wlK_2 : u_lay RK TK 2 ∈ sk_W := sk_mem 167 (by decide +kernel) (by decide +kernel)
theorem wlK_3 : u_lay RK TK 3 ∈ sk_W := sk_mem 169 (by decide +kernel) (by decide +kernel)
theorem inK : ∀ w ∈ u_ws RK TK 4, w ∈ sk_W := by
  intro w hw
  obtain ⟨k, hk, rfl⟩ := List.mem_map.mp hw
  have hk := List.mem_range.mp hk
  match k, hk with
  | 0, _ => exact wlK_0
  | 1, _ => exact wlK_1
  | 2, _ => exact wlK_2
  | 3, _ => exact wlK_3
  | q + 4, hk => exact absurd hk (by omega)
theorem wlM_0 : u_lay RM TM 0 ∈ sk_W := sk_mem 491 (by decide +kernel) (by decide +kernel)
theorem wlM_1 : u_lay RM TM 1 ∈ sk_W := sk_mem 493 (by decide +kernel) (by decide +kernel)
theorem wlM_2 : u_lay RM TM 2 ∈ sk_W := sk_mem 495 (by decide +kernel) (by decide +kernel)
theorem wlM_3 : u_lay RM TM 3 ∈ sk_W := sk_mem 497 (by decide +kernel) (by decide +kernel)
theorem wlM_4 : u_lay RM TM 4 ∈ sk_W := sk_mem 499 (by decide +kernel) (by decide +kernel)
theorem wlM_5 : u_lay RM TM 5 ∈ sk_W := sk_mem 501 (by decide +kernel) (by decide +kernel)
theorem wlM_6 : u_lay RM TM 6 ∈ sk_W := sk_mem 503 (by decide +kernel) (by decide +kernel)
theorem wlM_7 : u_lay RM TM 7 ∈ sk_W := sk_mem 505 (by decide +kernel) (by decide +kernel)
theorem wlM_8 : u_lay RM TM 8 ∈ sk_W := sk_mem 507 (by decide +kernel) (by decide +kernel)
theorem wlM_9 : u_lay RM TM 9 ∈ sk_W := sk_mem 509 (by decide +kernel) (by decide +kernel)
theorem wlM_10 : u_lay RM TM 10 ∈ sk_W := sk_mem 511 (by decide +kernel) (by decide +kernel)
theorem wlM_11 : u_lay RM TM 11 ∈ sk_W := sk_mem 513 (by decide +kernel) (by decide +kernel)
theorem wlM_12 : u_lay RM TM 12 ∈ sk_W := sk_mem 515 (by decide +kernel) (by decide +kernel)
theorem wlM_13 : u_lay RM TM 13 ∈ sk_W := sk_mem 517 (by decide +kernel) (by decide +kernel)
theorem wlM_14 : u_lay RM TM 14 ∈ sk_W := sk_mem 519 (by decide +kernel) (by decide +kernel)
theorem wlM_15 : u_lay RM TM 15 ∈ sk_W := sk_mem 521 (by decide +kernel) (by decide +kernel)
theorem wlM_16 : u_lay RM TM 16 ∈ sk_W := sk_mem 523 (by decide +kernel) (by decide +kernel)
theorem wlM_17 : u_lay RM TM 17 ∈ sk_W := sk_mem 525 (by decide +kernel) (by decide +kernel)
theorem wlM_18 : u_lay RM TM 18 ∈ sk_W := sk_mem 527 (by decide +kernel) (by decide +kernel)
theorem wlM_19 : u_lay RM TM 19 ∈ sk_W := sk_mem 529 (by decide +kernel) (by decide +kernel)
theorem inM : ∀ w ∈ u_ws RM TM 20, w ∈ sk_W := by
  intro w hw
  obtain ⟨k, hk, rfl⟩ := List.mem_map.mp hw
  have hk := List.mem_range.mp hk
  match k, hk with
  | 0, _ => exact wlM_0
  | 1, _ => exact wlM_1
  | 2, _ => exact wlM_2
  | 3, _ => exact wlM_3
  | 4, _ => exact wlM_4
  | 5, _ => exact wlM_5
  | 6, _ => exact wlM_6
  | 7, _ => exact wlM_7
  | 8, _ => exact wlM_8
  | 9, _ => exact wlM_9
  | 10, _ => exact wlM_10
  | 11, _ => exact wlM_11
  | 12, _ => exact wlM_12
  | 13, _ => exact wlM_13
  | 14, _ => exact wlM_14
  | 15, _ => exact wlM_15
  | 16, _ => exact wlM_16
  | 17, _ => exact wlM_17
  | 18, _ => exact wlM_18
  | 19, _ => exact wlM_19
  | q + 20, hk => exact absurd hk (by omega)
theorem wnL : Cond.initialized RL ∈ sk_W := sk_mem 39 (by decide +kernel) (by decide +kernel)
theorem wnK : Cond.initialized RK ∈ sk_W := sk_mem 40 (by decide +kernel) (by decide +kernel)
theorem wnO : Cond.initialized RO ∈ sk_W := sk_mem 41 (by decide +kernel) (by decide +kernel)
theorem wnT : Cond.initialized RT ∈ sk_W := sk_mem 42 (by decide +kernel) (by decide +kernel)
theorem wnF : Cond.initialized RF ∈ sk_W := sk_mem 43 (by decide +kernel) (by decide +kernel)
theorem wnM : Cond.initialized RM ∈ sk_W := sk_mem 44 (by decide +kernel) (by decide +kernel)
theorem wkL_8 : Cond.classLink RL 8 "ShapeKeeper" ∈ sk_W := sk_mem 53 (by decide +kernel) (by decide +kernel)
theorem wtK : Cond.instantiable RK 4 ∈ sk_W := sk_mem 54 (by decide +kernel) (by decide +kernel)
theorem wmL_26 : Cond.methodLink RL 26 yK_init ∈ sk_W := sk_mem 55 (by decide +kernel) (by decide +kernel)
theorem wiK_init : Cond.instanceMethod yK_init ∈ sk_W := sk_mem 56 (by decide +kernel) (by decide +kernel)
theorem wcK_init : Cond.code yK_init cK_init 1 none ∈ sk_W := sk_mem 57 (by decide +kernel) (by decide +kernel)
theorem wmK_1 : Cond.methodLink RK 1 objectInit ∈ sk_W := sk_mem 58 (by decide +kernel) (by decide +kernel)
theorem wkK_7 : Cond.classLink RK 7 "ShapeKeeper$ObjectTable" ∈ sk_W := sk_mem 61 (by decide +kernel) (by decide +kernel)
theorem wtO : Cond.instantiable RO 5 ∈ sk_W := sk_mem 62 (by decide +kernel) (by decide +kernel)
theorem wiO_init : Cond.instanceMethod yO_init ∈ sk_W := sk_mem 64 (by decide +kernel) (by decide +kernel)
theorem wcO_init : Cond.code yO_init cO_init 1 none ∈ sk_W := sk_mem 65 (by decide +kernel) (by decide +kernel)
theorem wmO_3 : Cond.methodLink RO 3 objectInit ∈ sk_W := sk_mem 66 (by decide +kernel) (by decide +kernel)
theorem wkO_21 : Cond.classLink RO 21 "[[I" ∈ sk_W := sk_mem 67 (by decide +kernel) (by decide +kernel)
theorem wfO_9 : Cond.fieldLink RO 9 "ShapeKeeper$ObjectTable" "prototypes" "[I" ∈ sk_W := sk_mem 69 (by decide +kernel) (by decide +kernel)
theorem wfO_15 : Cond.fieldLink RO 15 "ShapeKeeper$ObjectTable" "shapes" "[I" ∈ sk_W := sk_mem 71 (by decide +kernel) (by decide +kernel)
theorem wfO_18 : Cond.fieldLink RO 18 "ShapeKeeper$ObjectTable" "changes" "[I" ∈ sk_W := sk_mem 73 (by decide +kernel) (by decide +kernel)
theorem wfO_23 : Cond.fieldLink RO 23 "ShapeKeeper$ObjectTable" "values" "[[I" ∈ sk_W := sk_mem 75 (by decide +kernel) (by decide +kernel)
theorem wfO_26 : Cond.fieldLink RO 26 "ShapeKeeper$ObjectTable" "size" "I" ∈ sk_W := sk_mem 77 (by decide +kernel) (by decide +kernel)
theorem wkK_16 : Cond.classLink RK 16 "ShapeKeeper$ShapeTree" ∈ sk_W := sk_mem 91 (by decide +kernel) (by decide +kernel)
theorem wtT : Cond.instantiable RT 5 ∈ sk_W := sk_mem 92 (by decide +kernel) (by decide +kernel)
theorem wiT_init : Cond.instanceMethod yT_init ∈ sk_W := sk_mem 94 (by decide +kernel) (by decide +kernel)
theorem wcT_init : Cond.code yT_init cT_init 1 none ∈ sk_W := sk_mem 95 (by decide +kernel) (by decide +kernel)
theorem wmT_3 : Cond.methodLink RT 3 objectInit ∈ sk_W := sk_mem 96 (by decide +kernel) (by decide +kernel)
theorem wfT_9 : Cond.fieldLink RT 9 "ShapeKeeper$ShapeTree" "prototypes" "[I" ∈ sk_W := sk_mem 97 (by decide +kernel) (by decide +kernel)
theorem wfT_15 : Cond.fieldLink RT 15 "ShapeKeeper$ShapeTree" "origins" "[I" ∈ sk_W := sk_mem 99 (by decide +kernel) (by decide +kernel)
theorem wfT_18 : Cond.fieldLink RT 18 "ShapeKeeper$ShapeTree" "lastNames" "[I" ∈ sk_W := sk_mem 101 (by decide +kernel) (by decide +kernel)
theorem wfT_21 : Cond.fieldLink RT 21 "ShapeKeeper$ShapeTree" "lengths" "[I" ∈ sk_W := sk_mem 102 (by decide +kernel) (by decide +kernel)
theorem wfT_24 : Cond.fieldLink RT 24 "ShapeKeeper$ShapeTree" "size" "I" ∈ sk_W := sk_mem 104 (by decide +kernel) (by decide +kernel)
theorem wkK_23 : Cond.classLink RK 23 "ShapeKeeper$FindingRing" ∈ sk_W := sk_mem 117 (by decide +kernel) (by decide +kernel)
theorem wtF : Cond.instantiable RF 9 ∈ sk_W := sk_mem 118 (by decide +kernel) (by decide +kernel)
theorem wiF_init : Cond.instanceMethod yF_init ∈ sk_W := sk_mem 120 (by decide +kernel) (by decide +kernel)
theorem wcF_init : Cond.code yF_init cF_init 1 none ∈ sk_W := sk_mem 121 (by decide +kernel) (by decide +kernel)
theorem wmF_3 : Cond.methodLink RF 3 objectInit ∈ sk_W := sk_mem 122 (by decide +kernel) (by decide +kernel)
theorem wfF_9 : Cond.fieldLink RF 9 "ShapeKeeper$FindingRing" "shapes" "[I" ∈ sk_W := sk_mem 123 (by decide +kernel) (by decide +kernel)
theorem wfF_15 : Cond.fieldLink RF 15 "ShapeKeeper$FindingRing" "names" "[I" ∈ sk_W := sk_mem 125 (by decide +kernel) (by decide +kernel)
theorem wfF_18 : Cond.fieldLink RF 18 "ShapeKeeper$FindingRing" "holders" "[I" ∈ sk_W := sk_mem 127 (by decide +kernel) (by decide +kernel)
theorem wfF_21 : Cond.fieldLink RF 21 "ShapeKeeper$FindingRing" "places" "[I" ∈ sk_W := sk_mem 129 (by decide +kernel) (by decide +kernel)
theorem wfF_24 : Cond.fieldLink RF 24 "ShapeKeeper$FindingRing" "ways" "[J" ∈ sk_W := sk_mem 131 (by decide +kernel) (by decide +kernel)
theorem wfF_28 : Cond.fieldLink RF 28 "ShapeKeeper$FindingRing" "holding" "[Z" ∈ sk_W := sk_mem 132 (by decide +kernel) (by decide +kernel)
theorem wfF_32 : Cond.fieldLink RF 32 "ShapeKeeper$FindingRing" "made" "I" ∈ sk_W := sk_mem 134 (by decide +kernel) (by decide +kernel)
theorem wfF_36 : Cond.fieldLink RF 36 "ShapeKeeper$FindingRing" "there" "I" ∈ sk_W := sk_mem 136 (by decide +kernel) (by decide +kernel)
theorem wfF_39 : Cond.fieldLink RF 39 "ShapeKeeper$FindingRing" "next" "I" ∈ sk_W := sk_mem 137 (by decide +kernel) (by decide +kernel)
theorem wfK_10 : Cond.fieldLink RK 10 "ShapeKeeper" "objects" "LShapeKeeper$ObjectTable;" ∈ sk_W := sk_mem 159 (by decide +kernel) (by decide +kernel)
theorem wfK_19 : Cond.fieldLink RK 19 "ShapeKeeper" "shapes" "LShapeKeeper$ShapeTree;" ∈ sk_W := sk_mem 160 (by decide +kernel) (by decide +kernel)
theorem wfK_26 : Cond.fieldLink RK 26 "ShapeKeeper" "findings" "LShapeKeeper$FindingRing;" ∈ sk_W := sk_mem 161 (by decide +kernel) (by decide +kernel)
theorem wfK_30 : Cond.fieldLink RK 30 "ShapeKeeper" "wanted" "[I" ∈ sk_W := sk_mem 162 (by decide +kernel) (by decide +kernel)
theorem wmL_40 : Cond.methodLink RL 40 yK_set ∈ sk_W := sk_mem 172 (by decide +kernel) (by decide +kernel)
theorem wiK_set : Cond.instanceMethod yK_set ∈ sk_W := sk_mem 173 (by decide +kernel) (by decide +kernel)
theorem wsK_set : Cond.selects RK yK_set yK_set ∈ sk_W := sk_mem 174 (by decide +kernel) (by decide +kernel)
theorem wcK_set : Cond.code yK_set cK_set 7 (some .boolean) ∈ sk_W := sk_mem 175 (by decide +kernel) (by decide +kernel)
theorem wiO_has : Cond.instanceMethod yO_has ∈ sk_W := sk_mem 178 (by decide +kernel) (by decide +kernel)
theorem wcO_has : Cond.code yO_has cO_has 2 (some .boolean) ∈ sk_W := sk_mem 179 (by decide +kernel) (by decide +kernel)
theorem wmK_67 : Cond.methodLink RK 67 yK_isName ∈ sk_W := sk_mem 180 (by decide +kernel) (by decide +kernel)
theorem wiK_isName : Cond.static yK_isName ∈ sk_W := sk_mem 181 (by decide +kernel) (by decide +kernel)
theorem wcK_isName : Cond.code yK_isName cK_isName 1 (some .boolean) ∈ sk_W := sk_mem 182 (by decide +kernel) (by decide +kernel)
theorem wiT_placeOf : Cond.instanceMethod yT_placeOf ∈ sk_W := sk_mem 185 (by decide +kernel) (by decide +kernel)
theorem wcT_placeOf : Cond.code yT_placeOf cT_placeOf 5 (some .int) ∈ sk_W := sk_mem 186 (by decide +kernel) (by decide +kernel)
theorem wiT_grow : Cond.instanceMethod yT_grow ∈ sk_W := sk_mem 189 (by decide +kernel) (by decide +kernel)
theorem wcT_grow : Cond.code yT_grow cT_grow 4 (some .int) ∈ sk_W := sk_mem 190 (by decide +kernel) (by decide +kernel)
theorem wmT_28 : Cond.methodLink RT 28 yT_withName ∈ sk_W := sk_mem 191 (by decide +kernel) (by decide +kernel)
theorem wiT_withName : Cond.instanceMethod yT_withName ∈ sk_W := sk_mem 193 (by decide +kernel) (by decide +kernel)
theorem wcT_withName : Cond.code yT_withName cT_withName 4 (some .int) ∈ sk_W := sk_mem 194 (by decide +kernel) (by decide +kernel)
theorem wmT_32 : Cond.methodLink RT 32 yT_makeWith ∈ sk_W := sk_mem 195 (by decide +kernel) (by decide +kernel)
theorem wiT_makeWith : Cond.instanceMethod yT_makeWith ∈ sk_W := sk_mem 197 (by decide +kernel) (by decide +kernel)
theorem wcT_makeWith : Cond.code yT_makeWith cT_makeWith 3 (some .int) ∈ sk_W := sk_mem 198 (by decide +kernel) (by decide +kernel)
theorem wmT_42 : Cond.methodLink RT 42 yT_make ∈ sk_W := sk_mem 199 (by decide +kernel) (by decide +kernel)
theorem wiT_make : Cond.instanceMethod yT_make ∈ sk_W := sk_mem 201 (by decide +kernel) (by decide +kernel)
theorem wcT_make : Cond.code yT_make cT_make 6 (some .int) ∈ sk_W := sk_mem 202 (by decide +kernel) (by decide +kernel)
theorem wmK_81 : Cond.methodLink RK 81 yK_change ∈ sk_W := sk_mem 203 (by decide +kernel) (by decide +kernel)
theorem wiK_change : Cond.instanceMethod yK_change ∈ sk_W := sk_mem 205 (by decide +kernel) (by decide +kernel)
theorem wcK_change : Cond.code yK_change cK_change 3 none ∈ sk_W := sk_mem 206 (by decide +kernel) (by decide +kernel)
theorem wiF_breakThrough : Cond.instanceMethod yF_breakThrough ∈ sk_W := sk_mem 209 (by decide +kernel) (by decide +kernel)
theorem wcF_breakThrough : Cond.code yF_breakThrough cF_breakThrough 5 none ∈ sk_W := sk_mem 210 (by decide +kernel) (by decide +kernel)
theorem wmL_45 : Cond.methodLink RL 45 yK_drop ∈ sk_W := sk_mem 211 (by decide +kernel) (by decide +kernel)
theorem wiK_drop : Cond.instanceMethod yK_drop ∈ sk_W := sk_mem 212 (by decide +kernel) (by decide +kernel)
theorem wsK_drop : Cond.selects RK yK_drop yK_drop ∈ sk_W := sk_mem 213 (by decide +kernel) (by decide +kernel)
theorem wcK_drop : Cond.code yK_drop cK_drop 7 (some .boolean) ∈ sk_W := sk_mem 214 (by decide +kernel) (by decide +kernel)
theorem wiT_listNames : Cond.instanceMethod yT_listNames ∈ sk_W := sk_mem 217 (by decide +kernel) (by decide +kernel)
theorem wcT_listNames : Cond.code yT_listNames cT_listNames 7 (some .int) ∈ sk_W := sk_mem 218 (by decide +kernel) (by decide +kernel)
theorem wmT_46 : Cond.methodLink RT 46 yT_nameAt ∈ sk_W := sk_mem 219 (by decide +kernel) (by decide +kernel)
theorem wiT_nameAt : Cond.instanceMethod yT_nameAt ∈ sk_W := sk_mem 221 (by decide +kernel) (by decide +kernel)
theorem wcT_nameAt : Cond.code yT_nameAt cT_nameAt 6 (some .int) ∈ sk_W := sk_mem 222 (by decide +kernel) (by decide +kernel)
theorem wiT_reach : Cond.instanceMethod yT_reach ∈ sk_W := sk_mem 225 (by decide +kernel) (by decide +kernel)
theorem wcT_reach : Cond.code yT_reach cT_reach 8 (some .int) ∈ sk_W := sk_mem 226 (by decide +kernel) (by decide +kernel)
theorem wmT_35 : Cond.methodLink RT 35 yT_emptyOf ∈ sk_W := sk_mem 227 (by decide +kernel) (by decide +kernel)
theorem wiT_emptyOf : Cond.instanceMethod yT_emptyOf ∈ sk_W := sk_mem 229 (by decide +kernel) (by decide +kernel)
theorem wcT_emptyOf : Cond.code yT_emptyOf cT_emptyOf 3 (some .int) ∈ sk_W := sk_mem 230 (by decide +kernel) (by decide +kernel)
theorem wmT_39 : Cond.methodLink RT 39 yT_makeEmpty ∈ sk_W := sk_mem 231 (by decide +kernel) (by decide +kernel)
theorem wiT_makeEmpty : Cond.instanceMethod yT_makeEmpty ∈ sk_W := sk_mem 233 (by decide +kernel) (by decide +kernel)
theorem wcT_makeEmpty : Cond.code yT_makeEmpty cT_makeEmpty 2 (some .int) ∈ sk_W := sk_mem 234 (by decide +kernel) (by decide +kernel)
theorem wiO_closeGap : Cond.instanceMethod yO_closeGap ∈ sk_W := sk_mem 237 (by decide +kernel) (by decide +kernel)
theorem wcO_closeGap : Cond.code yO_closeGap cO_closeGap 4 none ∈ sk_W := sk_mem 238 (by decide +kernel) (by decide +kernel)
theorem wmL_50 : Cond.methodLink RL 50 yK_turn ∈ sk_W := sk_mem 239 (by decide +kernel) (by decide +kernel)
theorem wiK_turn : Cond.instanceMethod yK_turn ∈ sk_W := sk_mem 240 (by decide +kernel) (by decide +kernel)
theorem wsK_turn : Cond.selects RK yK_turn yK_turn ∈ sk_W := sk_mem 241 (by decide +kernel) (by decide +kernel)
theorem wcK_turn : Cond.code yK_turn cK_turn 5 (some .boolean) ∈ sk_W := sk_mem 242 (by decide +kernel) (by decide +kernel)
theorem wiO_canBePrototype : Cond.instanceMethod yO_canBePrototype ∈ sk_W := sk_mem 245 (by decide +kernel) (by decide +kernel)
theorem wcO_canBePrototype : Cond.code yO_canBePrototype cO_canBePrototype 2 (some .boolean) ∈ sk_W := sk_mem 246 (by decide +kernel) (by decide +kernel)
theorem wmO_30 : Cond.methodLink RO 30 yO_has ∈ sk_W := sk_mem 247 (by decide +kernel) (by decide +kernel)
theorem wiO_leadsTo : Cond.instanceMethod yO_leadsTo ∈ sk_W := sk_mem 250 (by decide +kernel) (by decide +kernel)
theorem wcO_leadsTo : Cond.code yO_leadsTo cO_leadsTo 5 (some .boolean) ∈ sk_W := sk_mem 251 (by decide +kernel) (by decide +kernel)
theorem wmL_58 : Cond.methodLink RL 58 yK_find ∈ sk_W := sk_mem 252 (by decide +kernel) (by decide +kernel)
theorem wiK_find : Cond.instanceMethod yK_find ∈ sk_W := sk_mem 253 (by decide +kernel) (by decide +kernel)
theorem wsK_find : Cond.selects RK yK_find yK_find ∈ sk_W := sk_mem 254 (by decide +kernel) (by decide +kernel)
theorem wcK_find : Cond.code yK_find cK_find 9 (some .int) ∈ sk_W := sk_mem 255 (by decide +kernel) (by decide +kernel)
theorem wiF_add : Cond.instanceMethod yF_add ∈ sk_W := sk_mem 258 (by decide +kernel) (by decide +kernel)
theorem wcF_add : Cond.code yF_add cF_add 8 (some .int) ∈ sk_W := sk_mem 259 (by decide +kernel) (by decide +kernel)
theorem wmF_42 : Cond.methodLink RF 42 ⟨"java/lang/Math", "max", "(II)I"⟩ ∈ sk_W := sk_mem 260 (by decide +kernel) (by decide +kernel)
theorem wmK_105 : Cond.methodLink RK 105 yK_nearestWith ∈ sk_W := sk_mem 263 (by decide +kernel) (by decide +kernel)
theorem wiK_nearestWith : Cond.instanceMethod yK_nearestWith ∈ sk_W := sk_mem 265 (by decide +kernel) (by decide +kernel)
theorem wcK_nearestWith : Cond.code yK_nearestWith cK_nearestWith 5 (some .int) ∈ sk_W := sk_mem 266 (by decide +kernel) (by decide +kernel)
theorem wmK_108 : Cond.methodLink RK 108 yK_ownPlace ∈ sk_W := sk_mem 267 (by decide +kernel) (by decide +kernel)
theorem wiK_ownPlace : Cond.instanceMethod yK_ownPlace ∈ sk_W := sk_mem 269 (by decide +kernel) (by decide +kernel)
theorem wcK_ownPlace : Cond.code yK_ownPlace cK_ownPlace 3 (some .int) ∈ sk_W := sk_mem 270 (by decide +kernel) (by decide +kernel)
theorem wiO_way : Cond.instanceMethod yO_way ∈ sk_W := sk_mem 273 (by decide +kernel) (by decide +kernel)
theorem wcO_way : Cond.code yO_way cO_way 7 (some .long) ∈ sk_W := sk_mem 274 (by decide +kernel) (by decide +kernel)
theorem wmL_62 : Cond.methodLink RL 62 yK_holds ∈ sk_W := sk_mem 275 (by decide +kernel) (by decide +kernel)
theorem wiK_holds : Cond.instanceMethod yK_holds ∈ sk_W := sk_mem 276 (by decide +kernel) (by decide +kernel)
theorem wsK_holds : Cond.selects RK yK_holds yK_holds ∈ sk_W := sk_mem 277 (by decide +kernel) (by decide +kernel)
theorem wcK_holds : Cond.code yK_holds cK_holds 3 (some .boolean) ∈ sk_W := sk_mem 278 (by decide +kernel) (by decide +kernel)
theorem wiF_has : Cond.instanceMethod yF_has ∈ sk_W := sk_mem 281 (by decide +kernel) (by decide +kernel)
theorem wcF_has : Cond.code yF_has cF_has 2 (some .boolean) ∈ sk_W := sk_mem 282 (by decide +kernel) (by decide +kernel)
theorem wmL_69 : Cond.methodLink RL 69 yK_look ∈ sk_W := sk_mem 283 (by decide +kernel) (by decide +kernel)
theorem wiK_look : Cond.instanceMethod yK_look ∈ sk_W := sk_mem 284 (by decide +kernel) (by decide +kernel)
theorem wsK_look : Cond.selects RK yK_look yK_look ∈ sk_W := sk_mem 285 (by decide +kernel) (by decide +kernel)
theorem wcK_look : Cond.code yK_look cK_look 3 (some .int) ∈ sk_W := sk_mem 286 (by decide +kernel) (by decide +kernel)
theorem wiO_countAbove : Cond.instanceMethod yO_countAbove ∈ sk_W := sk_mem 289 (by decide +kernel) (by decide +kernel)
theorem wcO_countAbove : Cond.code yO_countAbove cO_countAbove 2 (some .int) ∈ sk_W := sk_mem 290 (by decide +kernel) (by decide +kernel)
theorem wmO_34 : Cond.methodLink RO 34 yO_way ∈ sk_W := sk_mem 291 (by decide +kernel) (by decide +kernel)
theorem wmO_38 : Cond.methodLink RO 38 ⟨"java/lang/Long", "bitCount", "(J)I"⟩ ∈ sk_W := sk_mem 292 (by decide +kernel) (by decide +kernel)
theorem wiO_countBelow : Cond.instanceMethod yO_countBelow ∈ sk_W := sk_mem 300 (by decide +kernel) (by decide +kernel)
theorem wcO_countBelow : Cond.code yO_countBelow cO_countBelow 4 (some .int) ∈ sk_W := sk_mem 301 (by decide +kernel) (by decide +kernel)
theorem wmO_44 : Cond.methodLink RO 44 yO_leadsTo ∈ sk_W := sk_mem 302 (by decide +kernel) (by decide +kernel)
theorem wmL_73 : Cond.methodLink RL 73 yK_shape ∈ sk_W := sk_mem 303 (by decide +kernel) (by decide +kernel)
theorem wiK_shape : Cond.instanceMethod yK_shape ∈ sk_W := sk_mem 304 (by decide +kernel) (by decide +kernel)
theorem wsK_shape : Cond.selects RK yK_shape yK_shape ∈ sk_W := sk_mem 305 (by decide +kernel) (by decide +kernel)
theorem wcK_shape : Cond.code yK_shape cK_shape 3 (some .int) ∈ sk_W := sk_mem 306 (by decide +kernel) (by decide +kernel)
theorem wiT_has : Cond.instanceMethod yT_has ∈ sk_W := sk_mem 309 (by decide +kernel) (by decide +kernel)
theorem wcT_has : Cond.code yT_has cT_has 2 (some .boolean) ∈ sk_W := sk_mem 310 (by decide +kernel) (by decide +kernel)
theorem wiO_countOfShape : Cond.instanceMethod yO_countOfShape ∈ sk_W := sk_mem 313 (by decide +kernel) (by decide +kernel)
theorem wcO_countOfShape : Cond.code yO_countOfShape cO_countOfShape 4 (some .int) ∈ sk_W := sk_mem 314 (by decide +kernel) (by decide +kernel)
theorem wmL_77 : Cond.methodLink RL 77 yK_finding ∈ sk_W := sk_mem 316 (by decide +kernel) (by decide +kernel)
theorem wiK_finding : Cond.instanceMethod yK_finding ∈ sk_W := sk_mem 317 (by decide +kernel) (by decide +kernel)
theorem wsK_finding : Cond.selects RK yK_finding yK_finding ∈ sk_W := sk_mem 318 (by decide +kernel) (by decide +kernel)
theorem wcK_finding : Cond.code yK_finding cK_finding 3 (some .int) ∈ sk_W := sk_mem 319 (by decide +kernel) (by decide +kernel)
theorem wiF_whereOf : Cond.instanceMethod yF_whereOf ∈ sk_W := sk_mem 322 (by decide +kernel) (by decide +kernel)
theorem wcF_whereOf : Cond.code yF_whereOf cF_whereOf 2 (some .int) ∈ sk_W := sk_mem 323 (by decide +kernel) (by decide +kernel)
theorem wmL_81 : Cond.methodLink RL 81 yK_count ∈ sk_W := sk_mem 324 (by decide +kernel) (by decide +kernel)
theorem wiK_count : Cond.instanceMethod yK_count ∈ sk_W := sk_mem 325 (by decide +kernel) (by decide +kernel)
theorem wsK_count : Cond.selects RK yK_count yK_count ∈ sk_W := sk_mem 326 (by decide +kernel) (by decide +kernel)
theorem wcK_count : Cond.code yK_count cK_count 2 (some .int) ∈ sk_W := sk_mem 327 (by decide +kernel) (by decide +kernel)
theorem wiF_countHolding : Cond.instanceMethod yF_countHolding ∈ sk_W := sk_mem 330 (by decide +kernel) (by decide +kernel)
theorem wcF_countHolding : Cond.code yF_countHolding cF_countHolding 3 (some .int) ∈ sk_W := sk_mem 331 (by decide +kernel) (by decide +kernel)
theorem wmL_30 : Cond.methodLink RL 30 yL_object ∈ sk_W := sk_mem 332 (by decide +kernel) (by decide +kernel)
theorem wiL_object : Cond.static yL_object ∈ sk_W := sk_mem 333 (by decide +kernel) (by decide +kernel)
theorem wkL_13 : Cond.classLink RL 13 "java/lang/IllegalArgumentException" ∈ sk_W := sk_mem 335 (by decide +kernel) (by decide +kernel)
theorem wkL_15 : Cond.classLink RL 15 "java/lang/IllegalStateException" ∈ sk_W := sk_mem 336 (by decide +kernel) (by decide +kernel)
theorem wmL_7 : Cond.methodLink RL 7 yK_object ∈ sk_W := sk_mem 337 (by decide +kernel) (by decide +kernel)
theorem wiK_object : Cond.instanceMethod yK_object ∈ sk_W := sk_mem 338 (by decide +kernel) (by decide +kernel)
theorem wsK_object : Cond.selects RK yK_object yK_object ∈ sk_W := sk_mem 339 (by decide +kernel) (by decide +kernel)
theorem wcK_object : Cond.code yK_object cK_object 3 (some .int) ∈ sk_W := sk_mem 340 (by decide +kernel) (by decide +kernel)
theorem wkK_38 : Cond.classLink RK 38 "java/lang/IllegalArgumentException" ∈ sk_W := sk_mem 341 (by decide +kernel) (by decide +kernel)
theorem wmK_42 : Cond.methodLink RK 42 ⟨"java/lang/IllegalArgumentException", "<init>", "(Ljava/lang/String;)V"⟩ ∈ sk_W := sk_mem 383 (by decide +kernel) (by decide +kernel)
theorem wkK_49 : Cond.classLink RK 49 "java/lang/IllegalStateException" ∈ sk_W := sk_mem 409 (by decide +kernel) (by decide +kernel)
theorem wmK_53 : Cond.methodLink RK 53 ⟨"java/lang/IllegalStateException", "<init>", "(Ljava/lang/String;)V"⟩ ∈ sk_W := sk_mem 419 (by decide +kernel) (by decide +kernel)
theorem wiO_add : Cond.instanceMethod yO_add ∈ sk_W := sk_mem 428 (by decide +kernel) (by decide +kernel)
theorem wcO_add : Cond.code yO_add cO_add 4 (some .int) ∈ sk_W := sk_mem 429 (by decide +kernel) (by decide +kernel)
theorem wmL_54 : Cond.methodLink RL 54 yL_read ∈ sk_W := sk_mem 430 (by decide +kernel) (by decide +kernel)
theorem wiL_read : Cond.static yL_read ∈ sk_W := sk_mem 431 (by decide +kernel) (by decide +kernel)
theorem wkL_21 : Cond.classLink RL 21 "java/lang/IndexOutOfBoundsException" ∈ sk_W := sk_mem 433 (by decide +kernel) (by decide +kernel)
theorem wmL_17 : Cond.methodLink RL 17 yK_read ∈ sk_W := sk_mem 434 (by decide +kernel) (by decide +kernel)
theorem wiK_read : Cond.instanceMethod yK_read ∈ sk_W := sk_mem 435 (by decide +kernel) (by decide +kernel)
theorem wsK_read : Cond.selects RK yK_read yK_read ∈ sk_W := sk_mem 436 (by decide +kernel) (by decide +kernel)
theorem wcK_read : Cond.code yK_read cK_read 5 (some .int) ∈ sk_W := sk_mem 437 (by decide +kernel) (by decide +kernel)
theorem wkK_111 : Cond.classLink RK 111 "java/lang/IndexOutOfBoundsException" ∈ sk_W := sk_mem 439 (by decide +kernel) (by decide +kernel)
theorem wmK_115 : Cond.methodLink RK 115 ⟨"java/lang/IndexOutOfBoundsException", "<init>", "(Ljava/lang/String;)V"⟩ ∈ sk_W := sk_mem 449 (by decide +kernel) (by decide +kernel)
theorem wmL_66 : Cond.methodLink RL 66 yL_get ∈ sk_W := sk_mem 455 (by decide +kernel) (by decide +kernel)
theorem wiL_get : Cond.static yL_get ∈ sk_W := sk_mem 456 (by decide +kernel) (by decide +kernel)
theorem wmL_23 : Cond.methodLink RL 23 yK_get ∈ sk_W := sk_mem 458 (by decide +kernel) (by decide +kernel)
theorem wiK_get : Cond.instanceMethod yK_get ∈ sk_W := sk_mem 459 (by decide +kernel) (by decide +kernel)
theorem wsK_get : Cond.selects RK yK_get yK_get ∈ sk_W := sk_mem 460 (by decide +kernel) (by decide +kernel)
theorem wcK_get : Cond.code yK_get cK_get 5 (some .int) ∈ sk_W := sk_mem 461 (by decide +kernel) (by decide +kernel)
theorem wmK_131 : Cond.methodLink RK 131 yK_holds ∈ sk_W := sk_mem 463 (by decide +kernel) (by decide +kernel)
theorem wkL_27 : Cond.classLink RL 27 "ShapeKeeperModel" ∈ sk_W := sk_mem 465 (by decide +kernel) (by decide +kernel)
theorem wtM : Cond.instantiable RM 20 ∈ sk_W := sk_mem 466 (by decide +kernel) (by decide +kernel)
theorem wmL_29 : Cond.methodLink RL 29 yM_init ∈ sk_W := sk_mem 467 (by decide +kernel) (by decide +kernel)
theorem wiM_init : Cond.instanceMethod yM_init ∈ sk_W := sk_mem 468 (by decide +kernel) (by decide +kernel)
theorem wcM_init : Cond.code yM_init cM_init 1 none ∈ sk_W := sk_mem 469 (by decide +kernel) (by decide +kernel)
theorem wmM_1 : Cond.methodLink RM 1 objectInit ∈ sk_W := sk_mem 470 (by decide +kernel) (by decide +kernel)
theorem wfM_62 : Cond.fieldLink RM 62 "ShapeKeeperModel" "thrown" "I" ∈ sk_W := sk_mem 471 (by decide +kernel) (by decide +kernel)
theorem wfM_65 : Cond.fieldLink RM 65 "ShapeKeeperModel" "objects" "I" ∈ sk_W := sk_mem 472 (by decide +kernel) (by decide +kernel)
theorem wfM_7 : Cond.fieldLink RM 7 "ShapeKeeperModel" "shapeOf" "[I" ∈ sk_W := sk_mem 473 (by decide +kernel) (by decide +kernel)
theorem wfM_13 : Cond.fieldLink RM 13 "ShapeKeeperModel" "changed" "[I" ∈ sk_W := sk_mem 474 (by decide +kernel) (by decide +kernel)
theorem wfM_16 : Cond.fieldLink RM 16 "ShapeKeeperModel" "value" "[I" ∈ sk_W := sk_mem 475 (by decide +kernel) (by decide +kernel)
theorem wfM_19 : Cond.fieldLink RM 19 "ShapeKeeperModel" "shapes" "I" ∈ sk_W := sk_mem 476 (by decide +kernel) (by decide +kernel)
theorem wfM_23 : Cond.fieldLink RM 23 "ShapeKeeperModel" "prototype" "[I" ∈ sk_W := sk_mem 477 (by decide +kernel) (by decide +kernel)
theorem wfM_26 : Cond.fieldLink RM 26 "ShapeKeeperModel" "outOf" "[I" ∈ sk_W := sk_mem 478 (by decide +kernel) (by decide +kernel)
theorem wfM_29 : Cond.fieldLink RM 29 "ShapeKeeperModel" "many" "[I" ∈ sk_W := sk_mem 479 (by decide +kernel) (by decide +kernel)
theorem wfM_32 : Cond.fieldLink RM 32 "ShapeKeeperModel" "nameAt" "[I" ∈ sk_W := sk_mem 480 (by decide +kernel) (by decide +kernel)
theorem wfM_98 : Cond.fieldLink RM 98 "ShapeKeeperModel" "made" "I" ∈ sk_W := sk_mem 481 (by decide +kernel) (by decide +kernel)
theorem wfM_35 : Cond.fieldLink RM 35 "ShapeKeeperModel" "fShape" "[I" ∈ sk_W := sk_mem 482 (by decide +kernel) (by decide +kernel)
theorem wfM_38 : Cond.fieldLink RM 38 "ShapeKeeperModel" "fName" "[I" ∈ sk_W := sk_mem 483 (by decide +kernel) (by decide +kernel)
theorem wfM_41 : Cond.fieldLink RM 41 "ShapeKeeperModel" "fWhere" "[I" ∈ sk_W := sk_mem 484 (by decide +kernel) (by decide +kernel)
theorem wfM_44 : Cond.fieldLink RM 44 "ShapeKeeperModel" "fHolder" "[I" ∈ sk_W := sk_mem 485 (by decide +kernel) (by decide +kernel)
theorem wfM_47 : Cond.fieldLink RM 47 "ShapeKeeperModel" "fPlace" "[I" ∈ sk_W := sk_mem 486 (by decide +kernel) (by decide +kernel)
theorem wfM_50 : Cond.fieldLink RM 50 "ShapeKeeperModel" "fMany" "[I" ∈ sk_W := sk_mem 487 (by decide +kernel) (by decide +kernel)
theorem wfM_53 : Cond.fieldLink RM 53 "ShapeKeeperModel" "fObject" "[I" ∈ sk_W := sk_mem 488 (by decide +kernel) (by decide +kernel)
theorem wfM_56 : Cond.fieldLink RM 56 "ShapeKeeperModel" "fChanged" "[I" ∈ sk_W := sk_mem 489 (by decide +kernel) (by decide +kernel)
theorem wfM_59 : Cond.fieldLink RM 59 "ShapeKeeperModel" "left" "[I" ∈ sk_W := sk_mem 490 (by decide +kernel) (by decide +kernel)
theorem wmL_36 : Cond.methodLink RL 36 yM_thrown ∈ sk_W := sk_mem 532 (by decide +kernel) (by decide +kernel)
theorem wiM_thrown : Cond.instanceMethod yM_thrown ∈ sk_W := sk_mem 533 (by decide +kernel) (by decide +kernel)
theorem wsM_thrown : Cond.selects RM yM_thrown yM_thrown ∈ sk_W := sk_mem 534 (by decide +kernel) (by decide +kernel)
theorem wcM_thrown : Cond.code yM_thrown cM_thrown 1 (some .int) ∈ sk_W := sk_mem 535 (by decide +kernel) (by decide +kernel)
theorem wmL_35 : Cond.methodLink RL 35 yM_object ∈ sk_W := sk_mem 536 (by decide +kernel) (by decide +kernel)
theorem wiM_object : Cond.instanceMethod yM_object ∈ sk_W := sk_mem 537 (by decide +kernel) (by decide +kernel)
theorem wsM_object : Cond.selects RM yM_object yM_object ∈ sk_W := sk_mem 538 (by decide +kernel) (by decide +kernel)
theorem wcM_object : Cond.code yM_object cM_object 3 (some .int) ∈ sk_W := sk_mem 539 (by decide +kernel) (by decide +kernel)
theorem wmM_82 : Cond.methodLink RM 82 yM_isObject ∈ sk_W := sk_mem 540 (by decide +kernel) (by decide +kernel)
theorem wiM_isObject : Cond.instanceMethod yM_isObject ∈ sk_W := sk_mem 542 (by decide +kernel) (by decide +kernel)
theorem wcM_isObject : Cond.code yM_isObject cM_isObject 2 (some .boolean) ∈ sk_W := sk_mem 543 (by decide +kernel) (by decide +kernel)
theorem wmM_86 : Cond.methodLink RM 86 yM_shapeFor ∈ sk_W := sk_mem 544 (by decide +kernel) (by decide +kernel)
theorem wiM_shapeFor : Cond.instanceMethod yM_shapeFor ∈ sk_W := sk_mem 546 (by decide +kernel) (by decide +kernel)
theorem wcM_shapeFor : Cond.code yM_shapeFor cM_shapeFor 7 (some .int) ∈ sk_W := sk_mem 547 (by decide +kernel) (by decide +kernel)
theorem wmM_68 : Cond.methodLink RM 68 yM_empty ∈ sk_W := sk_mem 548 (by decide +kernel) (by decide +kernel)
theorem wiM_empty : Cond.instanceMethod yM_empty ∈ sk_W := sk_mem 550 (by decide +kernel) (by decide +kernel)
theorem wcM_empty : Cond.code yM_empty cM_empty 3 (some .int) ∈ sk_W := sk_mem 551 (by decide +kernel) (by decide +kernel)
theorem wmM_72 : Cond.methodLink RM 72 yM_child ∈ sk_W := sk_mem 552 (by decide +kernel) (by decide +kernel)
theorem wiM_child : Cond.instanceMethod yM_child ∈ sk_W := sk_mem 554 (by decide +kernel) (by decide +kernel)
theorem wcM_child : Cond.code yM_child cM_child 4 (some .int) ∈ sk_W := sk_mem 555 (by decide +kernel) (by decide +kernel)
theorem wmM_76 : Cond.methodLink RM 76 yM_makeEmpty ∈ sk_W := sk_mem 556 (by decide +kernel) (by decide +kernel)
theorem wiM_makeEmpty : Cond.instanceMethod yM_makeEmpty ∈ sk_W := sk_mem 558 (by decide +kernel) (by decide +kernel)
theorem wcM_makeEmpty : Cond.code yM_makeEmpty cM_makeEmpty 3 (some .int) ∈ sk_W := sk_mem 559 (by decide +kernel) (by decide +kernel)
theorem wmM_79 : Cond.methodLink RM 79 yM_makeChild ∈ sk_W := sk_mem 560 (by decide +kernel) (by decide +kernel)
theorem wiM_makeChild : Cond.instanceMethod yM_makeChild ∈ sk_W := sk_mem 562 (by decide +kernel) (by decide +kernel)
theorem wcM_makeChild : Cond.code yM_makeChild cM_makeChild 5 (some .int) ∈ sk_W := sk_mem 563 (by decide +kernel) (by decide +kernel)
theorem wmL_44 : Cond.methodLink RL 44 yM_set ∈ sk_W := sk_mem 564 (by decide +kernel) (by decide +kernel)
theorem wiM_set : Cond.instanceMethod yM_set ∈ sk_W := sk_mem 565 (by decide +kernel) (by decide +kernel)
theorem wsM_set : Cond.selects RM yM_set yM_set ∈ sk_W := sk_mem 566 (by decide +kernel) (by decide +kernel)
theorem wcM_set : Cond.code yM_set cM_set 7 (some .boolean) ∈ sk_W := sk_mem 567 (by decide +kernel) (by decide +kernel)
theorem wmM_89 : Cond.methodLink RM 89 yM_isName ∈ sk_W := sk_mem 568 (by decide +kernel) (by decide +kernel)
theorem wiM_isName : Cond.static yM_isName ∈ sk_W := sk_mem 569 (by decide +kernel) (by decide +kernel)
theorem wcM_isName : Cond.code yM_isName cM_isName 1 (some .boolean) ∈ sk_W := sk_mem 570 (by decide +kernel) (by decide +kernel)
theorem wmM_92 : Cond.methodLink RM 92 yM_placeOf ∈ sk_W := sk_mem 571 (by decide +kernel) (by decide +kernel)
theorem wiM_placeOf : Cond.instanceMethod yM_placeOf ∈ sk_W := sk_mem 573 (by decide +kernel) (by decide +kernel)
theorem wcM_placeOf : Cond.code yM_placeOf cM_placeOf 4 (some .int) ∈ sk_W := sk_mem 574 (by decide +kernel) (by decide +kernel)
theorem wmL_49 : Cond.methodLink RL 49 yM_drop ∈ sk_W := sk_mem 575 (by decide +kernel) (by decide +kernel)
theorem wiM_drop : Cond.instanceMethod yM_drop ∈ sk_W := sk_mem 576 (by decide +kernel) (by decide +kernel)
theorem wsM_drop : Cond.selects RM yM_drop yM_drop ∈ sk_W := sk_mem 577 (by decide +kernel) (by decide +kernel)
theorem wcM_drop : Cond.code yM_drop cM_drop 8 (some .boolean) ∈ sk_W := sk_mem 578 (by decide +kernel) (by decide +kernel)
theorem wmL_53 : Cond.methodLink RL 53 yM_turn ∈ sk_W := sk_mem 579 (by decide +kernel) (by decide +kernel)
theorem wiM_turn : Cond.instanceMethod yM_turn ∈ sk_W := sk_mem 580 (by decide +kernel) (by decide +kernel)
theorem wsM_turn : Cond.selects RM yM_turn yM_turn ∈ sk_W := sk_mem 581 (by decide +kernel) (by decide +kernel)
theorem wcM_turn : Cond.code yM_turn cM_turn 5 (some .boolean) ∈ sk_W := sk_mem 582 (by decide +kernel) (by decide +kernel)
theorem wmM_95 : Cond.methodLink RM 95 yM_above ∈ sk_W := sk_mem 583 (by decide +kernel) (by decide +kernel)
theorem wiM_above : Cond.instanceMethod yM_above ∈ sk_W := sk_mem 585 (by decide +kernel) (by decide +kernel)
theorem wcM_above : Cond.code yM_above cM_above 2 (some .int) ∈ sk_W := sk_mem 586 (by decide +kernel) (by decide +kernel)
theorem wmL_57 : Cond.methodLink RL 57 yM_read ∈ sk_W := sk_mem 587 (by decide +kernel) (by decide +kernel)
theorem wiM_read : Cond.instanceMethod yM_read ∈ sk_W := sk_mem 588 (by decide +kernel) (by decide +kernel)
theorem wsM_read : Cond.selects RM yM_read yM_read ∈ sk_W := sk_mem 589 (by decide +kernel) (by decide +kernel)
theorem wcM_read : Cond.code yM_read cM_read 5 (some .int) ∈ sk_W := sk_mem 590 (by decide +kernel) (by decide +kernel)
theorem wmL_61 : Cond.methodLink RL 61 yM_find ∈ sk_W := sk_mem 591 (by decide +kernel) (by decide +kernel)
theorem wiM_find : Cond.instanceMethod yM_find ∈ sk_W := sk_mem 592 (by decide +kernel) (by decide +kernel)
theorem wsM_find : Cond.selects RM yM_find yM_find ∈ sk_W := sk_mem 593 (by decide +kernel) (by decide +kernel)
theorem wcM_find : Cond.code yM_find cM_find 7 (some .int) ∈ sk_W := sk_mem 594 (by decide +kernel) (by decide +kernel)
theorem wmL_65 : Cond.methodLink RL 65 yM_holds ∈ sk_W := sk_mem 595 (by decide +kernel) (by decide +kernel)
theorem wiM_holds : Cond.instanceMethod yM_holds ∈ sk_W := sk_mem 596 (by decide +kernel) (by decide +kernel)
theorem wsM_holds : Cond.selects RM yM_holds yM_holds ∈ sk_W := sk_mem 597 (by decide +kernel) (by decide +kernel)
theorem wcM_holds : Cond.code yM_holds cM_holds 3 (some .boolean) ∈ sk_W := sk_mem 598 (by decide +kernel) (by decide +kernel)
theorem wmM_101 : Cond.methodLink RM 101 yM_isFinding ∈ sk_W := sk_mem 599 (by decide +kernel) (by decide +kernel)
theorem wiM_isFinding : Cond.instanceMethod yM_isFinding ∈ sk_W := sk_mem 601 (by decide +kernel) (by decide +kernel)
theorem wcM_isFinding : Cond.code yM_isFinding cM_isFinding 2 (some .boolean) ∈ sk_W := sk_mem 602 (by decide +kernel) (by decide +kernel)
theorem wmM_104 : Cond.methodLink RM 104 yM_holdsStill ∈ sk_W := sk_mem 603 (by decide +kernel) (by decide +kernel)
theorem wiM_holdsStill : Cond.instanceMethod yM_holdsStill ∈ sk_W := sk_mem 605 (by decide +kernel) (by decide +kernel)
theorem wcM_holdsStill : Cond.code yM_holdsStill cM_holdsStill 4 (some .boolean) ∈ sk_W := sk_mem 606 (by decide +kernel) (by decide +kernel)
theorem wmL_68 : Cond.methodLink RL 68 yM_get ∈ sk_W := sk_mem 607 (by decide +kernel) (by decide +kernel)
theorem wiM_get : Cond.instanceMethod yM_get ∈ sk_W := sk_mem 608 (by decide +kernel) (by decide +kernel)
theorem wsM_get : Cond.selects RM yM_get yM_get ∈ sk_W := sk_mem 609 (by decide +kernel) (by decide +kernel)
theorem wcM_get : Cond.code yM_get cM_get 3 (some .int) ∈ sk_W := sk_mem 610 (by decide +kernel) (by decide +kernel)
theorem wmL_72 : Cond.methodLink RL 72 yM_look ∈ sk_W := sk_mem 611 (by decide +kernel) (by decide +kernel)
theorem wiM_look : Cond.instanceMethod yM_look ∈ sk_W := sk_mem 612 (by decide +kernel) (by decide +kernel)
theorem wsM_look : Cond.selects RM yM_look yM_look ∈ sk_W := sk_mem 613 (by decide +kernel) (by decide +kernel)
theorem wcM_look : Cond.code yM_look cM_look 7 (some .int) ∈ sk_W := sk_mem 614 (by decide +kernel) (by decide +kernel)
theorem wmL_76 : Cond.methodLink RL 76 yM_shape ∈ sk_W := sk_mem 615 (by decide +kernel) (by decide +kernel)
theorem wiM_shape : Cond.instanceMethod yM_shape ∈ sk_W := sk_mem 616 (by decide +kernel) (by decide +kernel)
theorem wsM_shape : Cond.selects RM yM_shape yM_shape ∈ sk_W := sk_mem 617 (by decide +kernel) (by decide +kernel)
theorem wcM_shape : Cond.code yM_shape cM_shape 5 (some .int) ∈ sk_W := sk_mem 618 (by decide +kernel) (by decide +kernel)
theorem wmL_80 : Cond.methodLink RL 80 yM_finding ∈ sk_W := sk_mem 619 (by decide +kernel) (by decide +kernel)
theorem wiM_finding : Cond.instanceMethod yM_finding ∈ sk_W := sk_mem 620 (by decide +kernel) (by decide +kernel)
theorem wsM_finding : Cond.selects RM yM_finding yM_finding ∈ sk_W := sk_mem 621 (by decide +kernel) (by decide +kernel)
theorem wcM_finding : Cond.code yM_finding cM_finding 3 (some .int) ∈ sk_W := sk_mem 622 (by decide +kernel) (by decide +kernel)
theorem wmL_84 : Cond.methodLink RL 84 yM_count ∈ sk_W := sk_mem 623 (by decide +kernel) (by decide +kernel)
theorem wiM_count : Cond.instanceMethod yM_count ∈ sk_W := sk_mem 624 (by decide +kernel) (by decide +kernel)
theorem wsM_count : Cond.selects RM yM_count yM_count ∈ sk_W := sk_mem 625 (by decide +kernel) (by decide +kernel)
theorem wcM_count : Cond.code yM_count cM_count 4 (some .int) ∈ sk_W := sk_mem 626 (by decide +kernel) (by decide +kernel)
theorem wsO_has : Cond.selects RO yO_has yO_has ∈ sk_W := sk_mem 0 (by decide +kernel) (by decide +kernel)
theorem wsT_placeOf : Cond.selects RT yT_placeOf yT_placeOf ∈ sk_W := sk_mem 1 (by decide +kernel) (by decide +kernel)
theorem wsT_grow : Cond.selects RT yT_grow yT_grow ∈ sk_W := sk_mem 2 (by decide +kernel) (by decide +kernel)
theorem wsT_withName : Cond.selects RT yT_withName yT_withName ∈ sk_W := sk_mem 3 (by decide +kernel) (by decide +kernel)
theorem wsT_makeWith : Cond.selects RT yT_makeWith yT_makeWith ∈ sk_W := sk_mem 4 (by decide +kernel) (by decide +kernel)
theorem wsT_make : Cond.selects RT yT_make yT_make ∈ sk_W := sk_mem 5 (by decide +kernel) (by decide +kernel)
theorem wsK_change : Cond.selects RK yK_change yK_change ∈ sk_W := sk_mem 6 (by decide +kernel) (by decide +kernel)
theorem wsF_breakThrough : Cond.selects RF yF_breakThrough yF_breakThrough ∈ sk_W := sk_mem 7 (by decide +kernel) (by decide +kernel)
theorem wsT_listNames : Cond.selects RT yT_listNames yT_listNames ∈ sk_W := sk_mem 8 (by decide +kernel) (by decide +kernel)
theorem wsT_nameAt : Cond.selects RT yT_nameAt yT_nameAt ∈ sk_W := sk_mem 9 (by decide +kernel) (by decide +kernel)
theorem wsT_reach : Cond.selects RT yT_reach yT_reach ∈ sk_W := sk_mem 10 (by decide +kernel) (by decide +kernel)
theorem wsT_emptyOf : Cond.selects RT yT_emptyOf yT_emptyOf ∈ sk_W := sk_mem 11 (by decide +kernel) (by decide +kernel)
theorem wsT_makeEmpty : Cond.selects RT yT_makeEmpty yT_makeEmpty ∈ sk_W := sk_mem 12 (by decide +kernel) (by decide +kernel)
theorem wsO_closeGap : Cond.selects RO yO_closeGap yO_closeGap ∈ sk_W := sk_mem 13 (by decide +kernel) (by decide +kernel)
theorem wsO_canBePrototype : Cond.selects RO yO_canBePrototype yO_canBePrototype ∈ sk_W := sk_mem 14 (by decide +kernel) (by decide +kernel)
theorem wsO_leadsTo : Cond.selects RO yO_leadsTo yO_leadsTo ∈ sk_W := sk_mem 15 (by decide +kernel) (by decide +kernel)
theorem wsF_add : Cond.selects RF yF_add yF_add ∈ sk_W := sk_mem 16 (by decide +kernel) (by decide +kernel)
theorem wsK_nearestWith : Cond.selects RK yK_nearestWith yK_nearestWith ∈ sk_W := sk_mem 17 (by decide +kernel) (by decide +kernel)
theorem wsK_ownPlace : Cond.selects RK yK_ownPlace yK_ownPlace ∈ sk_W := sk_mem 18 (by decide +kernel) (by decide +kernel)
theorem wsO_way : Cond.selects RO yO_way yO_way ∈ sk_W := sk_mem 19 (by decide +kernel) (by decide +kernel)
theorem wsF_has : Cond.selects RF yF_has yF_has ∈ sk_W := sk_mem 20 (by decide +kernel) (by decide +kernel)
theorem wsO_countAbove : Cond.selects RO yO_countAbove yO_countAbove ∈ sk_W := sk_mem 21 (by decide +kernel) (by decide +kernel)
theorem wsO_countBelow : Cond.selects RO yO_countBelow yO_countBelow ∈ sk_W := sk_mem 22 (by decide +kernel) (by decide +kernel)
theorem wsT_has : Cond.selects RT yT_has yT_has ∈ sk_W := sk_mem 23 (by decide +kernel) (by decide +kernel)
theorem wsO_countOfShape : Cond.selects RO yO_countOfShape yO_countOfShape ∈ sk_W := sk_mem 24 (by decide +kernel) (by decide +kernel)
theorem wsF_whereOf : Cond.selects RF yF_whereOf yF_whereOf ∈ sk_W := sk_mem 25 (by decide +kernel) (by decide +kernel)
theorem wsF_countHolding : Cond.selects RF yF_countHolding yF_countHolding ∈ sk_W := sk_mem 26 (by decide +kernel) (by decide +kernel)
theorem wsO_add : Cond.selects RO yO_add yO_add ∈ sk_W := sk_mem 28 (by decide +kernel) (by decide +kernel)
theorem wsM_isObject : Cond.selects RM yM_isObject yM_isObject ∈ sk_W := sk_mem 29 (by decide +kernel) (by decide +kernel)
theorem wsM_shapeFor : Cond.selects RM yM_shapeFor yM_shapeFor ∈ sk_W := sk_mem 30 (by decide +kernel) (by decide +kernel)
theorem wsM_empty : Cond.selects RM yM_empty yM_empty ∈ sk_W := sk_mem 31 (by decide +kernel) (by decide +kernel)
theorem wsM_child : Cond.selects RM yM_child yM_child ∈ sk_W := sk_mem 32 (by decide +kernel) (by decide +kernel)
theorem wsM_makeEmpty : Cond.selects RM yM_makeEmpty yM_makeEmpty ∈ sk_W := sk_mem 33 (by decide +kernel) (by decide +kernel)
theorem wsM_makeChild : Cond.selects RM yM_makeChild yM_makeChild ∈ sk_W := sk_mem 34 (by decide +kernel) (by decide +kernel)
theorem wsM_placeOf : Cond.selects RM yM_placeOf yM_placeOf ∈ sk_W := sk_mem 35 (by decide +kernel) (by decide +kernel)
theorem wsM_above : Cond.selects RM yM_above yM_above ∈ sk_W := sk_mem 36 (by decide +kernel) (by decide +kernel)
theorem wsM_isFinding : Cond.selects RM yM_isFinding yM_isFinding ∈ sk_W := sk_mem 37 (by decide +kernel) (by decide +kernel)
theorem wsM_holdsStill : Cond.selects RM yM_holdsStill yM_holdsStill ∈ sk_W := sk_mem 38 (by decide +kernel) (by decide +kernel)
abbrev vwCl : List vw_C := [(RF, TF, 9), (RO, TO, 5), (RT, TT, 5), (RK, TK, 4), (RM, TM, 20)]
/-- links across the nest -/
def sk_NL : List Cond := [Cond.methodLinkNest RK 9 yO_init "ShapeKeeper", Cond.fieldLinkNest RK 93 "ShapeKeeper$ObjectTable" "prototypes" "[I" "ShapeKeeper", Cond.fieldLinkNest RK 70 "ShapeKeeper$ObjectTable" "shapes" "[I" "ShapeKeeper", Cond.fieldLinkNest RK 142 "ShapeKeeper$ObjectTable" "changes" "[I" "ShapeKeeper", Cond.fieldLinkNest RK 85 "ShapeKeeper$ObjectTable" "values" "[[I" "ShapeKeeper", Cond.fieldLinkNest RK 45 "ShapeKeeper$ObjectTable" "size" "I" "ShapeKeeper", Cond.methodLinkNest RK 18 yT_init "ShapeKeeper", Cond.fieldLinkNest RK 153 "ShapeKeeper$ShapeTree" "prototypes" "[I" "ShapeKeeper", Cond.fieldLinkNest RK 157 "ShapeKeeper$ShapeTree" "origins" "[I" "ShapeKeeper", Cond.fieldLinkNest RK 78 "ShapeKeeper$ShapeTree" "lengths" "[I" "ShapeKeeper", Cond.fieldLinkNest RK 169 "ShapeKeeper$ShapeTree" "size" "I" "ShapeKeeper", Cond.methodLinkNest RK 25 yF_init "ShapeKeeper", Cond.fieldLinkNest RK 128 "ShapeKeeper$FindingRing" "shapes" "[I" "ShapeKeeper", Cond.fieldLinkNest RK 163 "ShapeKeeper$FindingRing" "names" "[I" "ShapeKeeper", Cond.fieldLinkNest RK 139 "ShapeKeeper$FindingRing" "holders" "[I" "ShapeKeeper", Cond.fieldLinkNest RK 136 "ShapeKeeper$FindingRing" "places" "[I" "ShapeKeeper", Cond.fieldLinkNest RK 124 "ShapeKeeper$FindingRing" "holding" "[Z" "ShapeKeeper", Cond.fieldLinkNest RK 170 "ShapeKeeper$FindingRing" "made" "I" "ShapeKeeper", Cond.methodLinkNest RK 64 yO_has "ShapeKeeper", Cond.methodLinkNest RK 72 yT_placeOf "ShapeKeeper", Cond.methodLinkNest RK 75 yT_grow "ShapeKeeper", Cond.methodLinkNest RK 177 yF_breakThrough "ShapeKeeper", Cond.methodLinkNest RK 89 yT_listNames "ShapeKeeper", Cond.methodLinkNest RK 54 yT_reach "ShapeKeeper", Cond.methodLinkNest RK 96 yO_closeGap "ShapeKeeper", Cond.methodLinkNest RK 34 yO_canBePrototype "ShapeKeeper", Cond.methodLinkNest RK 99 yO_leadsTo "ShapeKeeper", Cond.methodLinkNest RK 116 yF_add "ShapeKeeper", Cond.methodLinkNest RK 119 yO_way "ShapeKeeper", Cond.methodLinkNest RK 123 yF_has "ShapeKeeper", Cond.methodLinkNest RK 145 yO_countAbove "ShapeKeeper", Cond.methodLinkNest RK 149 yO_countBelow "ShapeKeeper", Cond.methodLinkNest RK 152 yT_has "ShapeKeeper", Cond.methodLinkNest RK 154 yO_countOfShape "ShapeKeeper", Cond.methodLinkNest RK 160 yT_nameAt "ShapeKeeper", Cond.methodLinkNest RK 166 yF_whereOf "ShapeKeeper", Cond.methodLinkNest RK 173 yF_countHolding "ShapeKeeper", Cond.methodLinkNest RK 60 yO_add "ShapeKeeper"]
theorem sk_NLtbl : sk_NL = [63, 70, 72, 74, 76, 78, 93, 98, 100, 103, 105, 119, 124, 126, 128, 130, 133, 135, 176, 183, 187, 207, 215, 223, 235, 243, 248, 256, 271, 279, 287, 298, 307, 311, 315, 320, 328, 426].filterMap (fun i => lw_tbl[i]?) := by decide +kernel
def sk_NW (U : State) : Prop := ∀ (k : Nat) (w : Cond), sk_NL[k]? = some w → va_Nw w U
theorem nlmK_9 {U : State} (h : sk_NW U) : va_Nw (Cond.methodLinkNest RK 9 yO_init "ShapeKeeper") U := h 0 _ rfl
theorem nlfK_93 {U : State} (h : sk_NW U) : va_Nw (Cond.fieldLinkNest RK 93 "ShapeKeeper$ObjectTable" "prototypes" "[I" "ShapeKeeper") U := h 1 _ rfl
theorem nlfK_70 {U : State} (h : sk_NW U) : va_Nw (Cond.fieldLinkNest RK 70 "ShapeKeeper$ObjectTable" "shapes" "[I" "ShapeKeeper") U := h 2 _ rfl
theorem nlfK_142 {U : State} (h : sk_NW U) : va_Nw (Cond.fieldLinkNest RK 142 "ShapeKeeper$ObjectTable" "changes" "[I" "ShapeKeeper") U := h 3 _ rfl
theorem nlfK_85 {U : State} (h : sk_NW U) : va_Nw (Cond.fieldLinkNest RK 85 "ShapeKeeper$ObjectTable" "values" "[[I" "ShapeKeeper") U := h 4 _ rfl
theorem nlfK_45 {U : State} (h : sk_NW U) : va_Nw (Cond.fieldLinkNest RK 45 "ShapeKeeper$ObjectTable" "size" "I" "ShapeKeeper") U := h 5 _ rfl
theorem nlmK_18 {U : State} (h : sk_NW U) : va_Nw (Cond.methodLinkNest RK 18 yT_init "ShapeKeeper") U := h 6 _ rfl
theorem nlfK_153 {U : State} (h : sk_NW U) : va_Nw (Cond.fieldLinkNest RK 153 "ShapeKeeper$ShapeTree" "prototypes" "[I" "ShapeKeeper") U := h 7 _ rfl
theorem nlfK_157 {U : State} (h : sk_NW U) : va_Nw (Cond.fieldLinkNest RK 157 "ShapeKeeper$ShapeTree" "origins" "[I" "ShapeKeeper") U := h 8 _ rfl
theorem nlfK_78 {U : State} (h : sk_NW U) : va_Nw (Cond.fieldLinkNest RK 78 "ShapeKeeper$ShapeTree" "lengths" "[I" "ShapeKeeper") U := h 9 _ rfl
theorem nlfK_169 {U : State} (h : sk_NW U) : va_Nw (Cond.fieldLinkNest RK 169 "ShapeKeeper$ShapeTree" "size" "I" "ShapeKeeper") U := h 10 _ rfl
theorem nlmK_25 {U : State} (h : sk_NW U) : va_Nw (Cond.methodLinkNest RK 25 yF_init "ShapeKeeper") U := h 11 _ rfl
theorem nlfK_128 {U : State} (h : sk_NW U) : va_Nw (Cond.fieldLinkNest RK 128 "ShapeKeeper$FindingRing" "shapes" "[I" "ShapeKeeper") U := h 12 _ rfl
theorem nlfK_163 {U : State} (h : sk_NW U) : va_Nw (Cond.fieldLinkNest RK 163 "ShapeKeeper$FindingRing" "names" "[I" "ShapeKeeper") U := h 13 _ rfl
theorem nlfK_139 {U : State} (h : sk_NW U) : va_Nw (Cond.fieldLinkNest RK 139 "ShapeKeeper$FindingRing" "holders" "[I" "ShapeKeeper") U := h 14 _ rfl
theorem nlfK_136 {U : State} (h : sk_NW U) : va_Nw (Cond.fieldLinkNest RK 136 "ShapeKeeper$FindingRing" "places" "[I" "ShapeKeeper") U := h 15 _ rfl
theorem nlfK_124 {U : State} (h : sk_NW U) : va_Nw (Cond.fieldLinkNest RK 124 "ShapeKeeper$FindingRing" "holding" "[Z" "ShapeKeeper") U := h 16 _ rfl
theorem nlfK_170 {U : State} (h : sk_NW U) : va_Nw (Cond.fieldLinkNest RK 170 "ShapeKeeper$FindingRing" "made" "I" "ShapeKeeper") U := h 17 _ rfl
theorem nlmK_64 {U : State} (h : sk_NW U) : va_Nw (Cond.methodLinkNest RK 64 yO_has "ShapeKeeper") U := h 18 _ rfl
theorem nlmK_72 {U : State} (h : sk_NW U) : va_Nw (Cond.methodLinkNest RK 72 yT_placeOf "ShapeKeeper") U := h 19 _ rfl
theorem nlmK_75 {U : State} (h : sk_NW U) : va_Nw (Cond.methodLinkNest RK 75 yT_grow "ShapeKeeper") U := h 20 _ rfl
theorem nlmK_177 {U : State} (h : sk_NW U) : va_Nw (Cond.methodLinkNest RK 177 yF_breakThrough "ShapeKeeper") U := h 21 _ rfl
theorem nlmK_89 {U : State} (h : sk_NW U) : va_Nw (Cond.methodLinkNest RK 89 yT_listNames "ShapeKeeper") U := h 22 _ rfl
theorem nlmK_54 {U : State} (h : sk_NW U) : va_Nw (Cond.methodLinkNest RK 54 yT_reach "ShapeKeeper") U := h 23 _ rfl
theorem nlmK_96 {U : State} (h : sk_NW U) : va_Nw (Cond.methodLinkNest RK 96 yO_closeGap "ShapeKeeper") U := h 24 _ rfl
theorem nlmK_34 {U : State} (h : sk_NW U) : va_Nw (Cond.methodLinkNest RK 34 yO_canBePrototype "ShapeKeeper") U := h 25 _ rfl
theorem nlmK_99 {U : State} (h : sk_NW U) : va_Nw (Cond.methodLinkNest RK 99 yO_leadsTo "ShapeKeeper") U := h 26 _ rfl
theorem nlmK_116 {U : State} (h : sk_NW U) : va_Nw (Cond.methodLinkNest RK 116 yF_add "ShapeKeeper") U := h 27 _ rfl
theorem nlmK_119 {U : State} (h : sk_NW U) : va_Nw (Cond.methodLinkNest RK 119 yO_way "ShapeKeeper") U := h 28 _ rfl
theorem nlmK_123 {U : State} (h : sk_NW U) : va_Nw (Cond.methodLinkNest RK 123 yF_has "ShapeKeeper") U := h 29 _ rfl
theorem nlmK_145 {U : State} (h : sk_NW U) : va_Nw (Cond.methodLinkNest RK 145 yO_countAbove "ShapeKeeper") U := h 30 _ rfl
theorem nlmK_149 {U : State} (h : sk_NW U) : va_Nw (Cond.methodLinkNest RK 149 yO_countBelow "ShapeKeeper") U := h 31 _ rfl
theorem nlmK_152 {U : State} (h : sk_NW U) : va_Nw (Cond.methodLinkNest RK 152 yT_has "ShapeKeeper") U := h 32 _ rfl
theorem nlmK_154 {U : State} (h : sk_NW U) : va_Nw (Cond.methodLinkNest RK 154 yO_countOfShape "ShapeKeeper") U := h 33 _ rfl
theorem nlmK_160 {U : State} (h : sk_NW U) : va_Nw (Cond.methodLinkNest RK 160 yT_nameAt "ShapeKeeper") U := h 34 _ rfl
theorem nlmK_166 {U : State} (h : sk_NW U) : va_Nw (Cond.methodLinkNest RK 166 yF_whereOf "ShapeKeeper") U := h 35 _ rfl
theorem nlmK_173 {U : State} (h : sk_NW U) : va_Nw (Cond.methodLinkNest RK 173 yF_countHolding "ShapeKeeper") U := h 36 _ rfl
theorem nlmK_60 {U : State} (h : sk_NW U) : va_Nw (Cond.methodLinkNest RK 60 yO_add "ShapeKeeper") U := h 37 _ rfl
end
section
theorem dF_init_0 : decode cF_init 0 = .ok (.aload_n 0, 1) := by decide +kernel
theorem dF_init_1 : decode cF_init 1 = .ok (.invokespecial 3, 3) := by decide +kernel
theorem dF_init_4 : decode cF_init 4 = .ok (.aload_n 0, 1) := by decide +kernel
theorem dF_init_5 : decode cF_init 5 = .ok (.bipush 100, 2) := by decide +kernel
theorem dF_init_7 : decode cF_init 7 = .ok (.newarray .int, 2) := by decide +kernel
theorem dF_init_9 : decode cF_init 9 = .ok (.putfield 9, 3) := by decide +kernel
theorem dF_init_12 : decode cF_init 12 = .ok (.aload_n 0, 1) := by decide +kernel
theorem dF_init_13 : decode cF_init 13 = .ok (.bipush 100, 2) := by decide +kernel
theorem dF_init_15 : decode cF_init 15 = .ok (.newarray .int, 2) := by decide +kernel
theorem dF_init_17 : decode cF_init 17 = .ok (.putfield 15, 3) := by decide +kernel
theorem dF_init_20 : decode cF_init 20 = .ok (.aload_n 0, 1) := by decide +kernel
theorem dF_init_21 : decode cF_init 21 = .ok (.bipush 100, 2) := by decide +kernel
theorem dF_init_23 : decode cF_init 23 = .ok (.newarray .int, 2) := by decide +kernel
theorem dF_init_25 : decode cF_init 25 = .ok (.putfield 18, 3) := by decide +kernel
theorem dF_init_28 : decode cF_init 28 = .ok (.aload_n 0, 1) := by decide +kernel
theorem dF_init_29 : decode cF_init 29 = .ok (.bipush 100, 2) := by decide +kernel
theorem dF_init_31 : decode cF_init 31 = .ok (.newarray .int, 2) := by decide +kernel
theorem dF_init_33 : decode cF_init 33 = .ok (.putfield 21, 3) := by decide +kernel
theorem dF_init_36 : decode cF_init 36 = .ok (.aload_n 0, 1) := by decide +kernel
theorem dF_init_37 : decode cF_init 37 = .ok (.bipush 100, 2) := by decide +kernel
theorem dF_init_39 : decode cF_init 39 = .ok (.newarray .long, 2) := by decide +kernel
theorem dF_init_41 : decode cF_init 41 = .ok (.putfield 24, 3) := by decide +kernel
theorem dF_init_44 : decode cF_init 44 = .ok (.aload_n 0, 1) := by decide +kernel
theorem dF_init_45 : decode cF_init 45 = .ok (.bipush 100, 2) := by decide +kernel
theorem dF_init_47 : decode cF_init 47 = .ok (.newarray .boolean, 2) := by decide +kernel
theorem dF_init_49 : decode cF_init 49 = .ok (.putfield 28, 3) := by decide +kernel
theorem dF_init_52 : decode cF_init 52 = .ok (.aload_n 0, 1) := by decide +kernel
theorem dF_init_53 : decode cF_init 53 = .ok (.iconst 0, 1) := by decide +kernel
theorem dF_init_54 : decode cF_init 54 = .ok (.putfield 32, 3) := by decide +kernel
theorem dF_init_57 : decode cF_init 57 = .ok (.aload_n 0, 1) := by decide +kernel
theorem dF_init_58 : decode cF_init 58 = .ok (.iconst 0, 1) := by decide +kernel
theorem dF_init_59 : decode cF_init 59 = .ok (.putfield 36, 3) := by decide +kernel
theorem dF_init_62 : decode cF_init 62 = .ok (.aload_n 0, 1) := by decide +kernel
theorem dF_init_63 : decode cF_init 63 = .ok (.iconst 0, 1) := by decide +kernel
theorem dF_init_64 : decode cF_init 64 = .ok (.putfield 39, 3) := by decide +kernel
theorem dF_init_67 : decode cF_init 67 = .ok (.return_, 1) := by decide +kernel
theorem dF_has_0 : decode cF_has 0 = .ok (.iload_n 1, 1) := by decide +kernel
theorem dF_has_1 : decode cF_has 1 = .ok (.ifCond .lt 15, 3) := by decide +kernel
theorem dF_has_4 : decode cF_has 4 = .ok (.iload_n 1, 1) := by decide +kernel
theorem dF_has_5 : decode cF_has 5 = .ok (.aload_n 0, 1) := by decide +kernel
theorem dF_has_6 : decode cF_has 6 = .ok (.getfield 36, 3) := by decide +kernel
theorem dF_has_9 : decode cF_has 9 = .ok (.if_icmp .ge 7, 3) := by decide +kernel
theorem dF_has_12 : decode cF_has 12 = .ok (.iconst 1, 1) := by decide +kernel
theorem dF_has_13 : decode cF_has 13 = .ok (.goto 4, 3) := by decide +kernel
theorem dF_has_16 : decode cF_has 16 = .ok (.iconst 0, 1) := by decide +kernel
theorem dF_has_17 : decode cF_has 17 = .ok (.ireturn, 1) := by decide +kernel
theorem dF_add_0 : decode cF_add 0 = .ok (.aload_n 0, 1) := by decide +kernel
theorem dF_add_1 : decode cF_add 1 = .ok (.getfield 39, 3) := by decide +kernel
theorem dF_add_4 : decode cF_add 4 = .ok (.istore 7, 2) := by decide +kernel
theorem dF_add_6 : decode cF_add 6 = .ok (.aload_n 0, 1) := by decide +kernel
theorem dF_add_7 : decode cF_add 7 = .ok (.getfield 9, 3) := by decide +kernel
theorem dF_add_10 : decode cF_add 10 = .ok (.iload 7, 2) := by decide +kernel
theorem dF_add_12 : decode cF_add 12 = .ok (.iload_n 1, 1) := by decide +kernel
theorem dF_add_13 : decode cF_add 13 = .ok (.iastore, 1) := by decide +kernel
theorem dF_add_14 : decode cF_add 14 = .ok (.aload_n 0, 1) := by decide +kernel
theorem dF_add_15 : decode cF_add 15 = .ok (.getfield 15, 3) := by decide +kernel
theorem dF_add_18 : decode cF_add 18 = .ok (.iload 7, 2) := by decide +kernel
theorem dF_add_20 : decode cF_add 20 = .ok (.iload_n 2, 1) := by decide +kernel
theorem dF_add_21 : decode cF_add 21 = .ok (.iastore, 1) := by decide +kernel
theorem dF_add_22 : decode cF_add 22 = .ok (.aload_n 0, 1) := by decide +kernel
theorem dF_add_23 : decode cF_add 23 = .ok (.getfield 18, 3) := by decide +kernel
theorem dF_add_26 : decode cF_add 26 = .ok (.iload 7, 2) := by decide +kernel
theorem dF_add_28 : decode cF_add 28 = .ok (.iload_n 3, 1) := by decide +kernel
theorem dF_add_29 : decode cF_add 29 = .ok (.iastore, 1) := by decide +kernel
theorem dF_add_30 : decode cF_add 30 = .ok (.aload_n 0, 1) := by decide +kernel
theorem dF_add_31 : decode cF_add 31 = .ok (.getfield 21, 3) := by decide +kernel
theorem dF_add_34 : decode cF_add 34 = .ok (.iload 7, 2) := by decide +kernel
theorem dF_add_36 : decode cF_add 36 = .ok (.iload 4, 2) := by decide +kernel
theorem dF_add_38 : decode cF_add 38 = .ok (.iastore, 1) := by decide +kernel
theorem dF_add_39 : decode cF_add 39 = .ok (.aload_n 0, 1) := by decide +kernel
theorem dF_add_40 : decode cF_add 40 = .ok (.getfield 24, 3) := by decide +kernel
theorem dF_add_43 : decode cF_add 43 = .ok (.iload 7, 2) := by decide +kernel
theorem dF_add_45 : decode cF_add 45 = .ok (.lload 5, 2) := by decide +kernel
theorem dF_add_47 : decode cF_add 47 = .ok (.lastore, 1) := by decide +kernel
theorem dF_add_48 : decode cF_add 48 = .ok (.aload_n 0, 1) := by decide +kernel
theorem dF_add_49 : decode cF_add 49 = .ok (.getfield 28, 3) := by decide +kernel
theorem dF_add_52 : decode cF_add 52 = .ok (.iload 7, 2) := by decide +kernel
theorem dF_add_54 : decode cF_add 54 = .ok (.iconst 1, 1) := by decide +kernel
theorem dF_add_55 : decode cF_add 55 = .ok (.bastore, 1) := by decide +kernel
theorem dF_add_56 : decode cF_add 56 = .ok (.aload_n 0, 1) := by decide +kernel
theorem dF_add_57 : decode cF_add 57 = .ok (.dup, 1) := by decide +kernel
theorem dF_add_58 : decode cF_add 58 = .ok (.getfield 32, 3) := by decide +kernel
theorem dF_add_61 : decode cF_add 61 = .ok (.iconst 1, 1) := by decide +kernel
theorem dF_add_62 : decode cF_add 62 = .ok (.iadd, 1) := by decide +kernel
theorem dF_add_63 : decode cF_add 63 = .ok (.putfield 32, 3) := by decide +kernel
theorem dF_add_66 : decode cF_add 66 = .ok (.aload_n 0, 1) := by decide +kernel
theorem dF_add_67 : decode cF_add 67 = .ok (.aload_n 0, 1) := by decide +kernel
theorem dF_add_68 : decode cF_add 68 = .ok (.getfield 36, 3) := by decide +kernel
theorem dF_add_71 : decode cF_add 71 = .ok (.iload 7, 2) := by decide +kernel
theorem dF_add_73 : decode cF_add 73 = .ok (.iconst 1, 1) := by decide +kernel
theorem dF_add_74 : decode cF_add 74 = .ok (.iadd, 1) := by decide +kernel
theorem dF_add_75 : decode cF_add 75 = .ok (.invokestatic 42, 3) := by decide +kernel
theorem dF_add_78 : decode cF_add 78 = .ok (.putfield 36, 3) := by decide +kernel
theorem dF_add_81 : decode cF_add 81 = .ok (.aload_n 0, 1) := by decide +kernel
theorem dF_add_82 : decode cF_add 82 = .ok (.iload 7, 2) := by decide +kernel
theorem dF_add_84 : decode cF_add 84 = .ok (.iconst 1, 1) := by decide +kernel
theorem dF_add_85 : decode cF_add 85 = .ok (.iadd, 1) := by decide +kernel
theorem dF_add_86 : decode cF_add 86 = .ok (.bipush 100, 2) := by decide +kernel
theorem dF_add_88 : decode cF_add 88 = .ok (.if_icmp .ge 10, 3) := by decide +kernel
theorem dF_add_91 : decode cF_add 91 = .ok (.iload 7, 2) := by decide +kernel
theorem dF_add_93 : decode cF_add 93 = .ok (.iconst 1, 1) := by decide +kernel
theorem dF_add_94 : decode cF_add 94 = .ok (.iadd, 1) := by decide +kernel
theorem dF_add_95 : decode cF_add 95 = .ok (.goto 4, 3) := by decide +kernel
theorem dF_add_98 : decode cF_add 98 = .ok (.iconst 0, 1) := by decide +kernel
theorem dF_add_99 : decode cF_add 99 = .ok (.putfield 39, 3) := by decide +kernel
theorem dF_add_102 : decode cF_add 102 = .ok (.iload 7, 2) := by decide +kernel
theorem dF_add_104 : decode cF_add 104 = .ok (.ireturn, 1) := by decide +kernel
theorem dF_breakThrough_0 : decode cF_breakThrough 0 = .ok (.lconst 1, 1) := by decide +kernel
theorem dF_breakThrough_1 : decode cF_breakThrough 1 = .ok (.iload_n 1, 1) := by decide +kernel
theorem dF_breakThrough_2 : decode cF_breakThrough 2 = .ok (.lshl, 1) := by decide +kernel
theorem dF_breakThrough_3 : decode cF_breakThrough 3 = .ok (.lstore_n 2, 1) := by decide +kernel
theorem dF_breakThrough_4 : decode cF_breakThrough 4 = .ok (.iconst 0, 1) := by decide +kernel
theorem dF_breakThrough_5 : decode cF_breakThrough 5 = .ok (.istore 4, 2) := by decide +kernel
theorem dF_breakThrough_7 : decode cF_breakThrough 7 = .ok (.iload 4, 2) := by decide +kernel
theorem dF_breakThrough_9 : decode cF_breakThrough 9 = .ok (.aload_n 0, 1) := by decide +kernel
theorem dF_breakThrough_10 : decode cF_breakThrough 10 = .ok (.getfield 36, 3) := by decide +kernel
theorem dF_breakThrough_13 : decode cF_breakThrough 13 = .ok (.if_icmp .ge 31, 3) := by decide +kernel
theorem dF_breakThrough_16 : decode cF_breakThrough 16 = .ok (.aload_n 0, 1) := by decide +kernel
theorem dF_breakThrough_17 : decode cF_breakThrough 17 = .ok (.getfield 24, 3) := by decide +kernel
theorem dF_breakThrough_20 : decode cF_breakThrough 20 = .ok (.iload 4, 2) := by decide +kernel
theorem dF_breakThrough_22 : decode cF_breakThrough 22 = .ok (.laload, 1) := by decide +kernel
theorem dF_breakThrough_23 : decode cF_breakThrough 23 = .ok (.lload_n 2, 1) := by decide +kernel
theorem dF_breakThrough_24 : decode cF_breakThrough 24 = .ok (.land, 1) := by decide +kernel
theorem dF_breakThrough_25 : decode cF_breakThrough 25 = .ok (.lconst 0, 1) := by decide +kernel
theorem dF_breakThrough_26 : decode cF_breakThrough 26 = .ok (.lcmp, 1) := by decide +kernel
theorem dF_breakThrough_27 : decode cF_breakThrough 27 = .ok (.ifCond .eq 11, 3) := by decide +kernel
theorem dF_breakThrough_30 : decode cF_breakThrough 30 = .ok (.aload_n 0, 1) := by decide +kernel
theorem dF_breakThrough_31 : decode cF_breakThrough 31 = .ok (.getfield 28, 3) := by decide +kernel
theorem dF_breakThrough_34 : decode cF_breakThrough 34 = .ok (.iload 4, 2) := by decide +kernel
theorem dF_breakThrough_36 : decode cF_breakThrough 36 = .ok (.iconst 0, 1) := by decide +kernel
theorem dF_breakThrough_37 : decode cF_breakThrough 37 = .ok (.bastore, 1) := by decide +kernel
theorem dF_breakThrough_38 : decode cF_breakThrough 38 = .ok (.iinc 4 1, 3) := by decide +kernel
theorem dF_breakThrough_41 : decode cF_breakThrough 41 = .ok (.goto (-34), 3) := by decide +kernel
theorem dF_breakThrough_44 : decode cF_breakThrough 44 = .ok (.return_, 1) := by decide +kernel
theorem dF_whereOf_0 : decode cF_whereOf 0 = .ok (.aload_n 0, 1) := by decide +kernel
theorem dF_whereOf_1 : decode cF_whereOf 1 = .ok (.getfield 21, 3) := by decide +kernel
theorem dF_whereOf_4 : decode cF_whereOf 4 = .ok (.iload_n 1, 1) := by decide +kernel
theorem dF_whereOf_5 : decode cF_whereOf 5 = .ok (.iaload, 1) := by decide +kernel
theorem dF_whereOf_6 : decode cF_whereOf 6 = .ok (.iconst (-1), 1) := by decide +kernel
theorem dF_whereOf_7 : decode cF_whereOf 7 = .ok (.if_icmp .ne 5, 3) := by decide +kernel
theorem dF_whereOf_10 : decode cF_whereOf 10 = .ok (.iconst 0, 1) := by decide +kernel
theorem dF_whereOf_11 : decode cF_whereOf 11 = .ok (.ireturn, 1) := by decide +kernel
theorem dF_whereOf_12 : decode cF_whereOf 12 = .ok (.aload_n 0, 1) := by decide +kernel
theorem dF_whereOf_13 : decode cF_whereOf 13 = .ok (.getfield 18, 3) := by decide +kernel
theorem dF_whereOf_16 : decode cF_whereOf 16 = .ok (.iload_n 1, 1) := by decide +kernel
theorem dF_whereOf_17 : decode cF_whereOf 17 = .ok (.iaload, 1) := by decide +kernel
theorem dF_whereOf_18 : decode cF_whereOf 18 = .ok (.iconst (-1), 1) := by decide +kernel
theorem dF_whereOf_19 : decode cF_whereOf 19 = .ok (.if_icmp .ne 7, 3) := by decide +kernel
theorem dF_whereOf_22 : decode cF_whereOf 22 = .ok (.iconst 1, 1) := by decide +kernel
theorem dF_whereOf_23 : decode cF_whereOf 23 = .ok (.goto 4, 3) := by decide +kernel
theorem dF_whereOf_26 : decode cF_whereOf 26 = .ok (.iconst 2, 1) := by decide +kernel
theorem dF_whereOf_27 : decode cF_whereOf 27 = .ok (.ireturn, 1) := by decide +kernel
theorem dF_countHolding_0 : decode cF_countHolding 0 = .ok (.iconst 0, 1) := by decide +kernel
theorem dF_countHolding_1 : decode cF_countHolding 1 = .ok (.istore_n 1, 1) := by decide +kernel
theorem dF_countHolding_2 : decode cF_countHolding 2 = .ok (.iconst 0, 1) := by decide +kernel
theorem dF_countHolding_3 : decode cF_countHolding 3 = .ok (.istore_n 2, 1) := by decide +kernel
theorem dF_countHolding_4 : decode cF_countHolding 4 = .ok (.iload_n 2, 1) := by decide +kernel
theorem dF_countHolding_5 : decode cF_countHolding 5 = .ok (.aload_n 0, 1) := by decide +kernel
theorem dF_countHolding_6 : decode cF_countHolding 6 = .ok (.getfield 36, 3) := by decide +kernel
theorem dF_countHolding_9 : decode cF_countHolding 9 = .ok (.if_icmp .ge 21, 3) := by decide +kernel
theorem dF_countHolding_12 : decode cF_countHolding 12 = .ok (.aload_n 0, 1) := by decide +kernel
theorem dF_countHolding_13 : decode cF_countHolding 13 = .ok (.getfield 28, 3) := by decide +kernel
theorem dF_countHolding_16 : decode cF_countHolding 16 = .ok (.iload_n 2, 1) := by decide +kernel
theorem dF_countHolding_17 : decode cF_countHolding 17 = .ok (.baload, 1) := by decide +kernel
theorem dF_countHolding_18 : decode cF_countHolding 18 = .ok (.ifCond .eq 6, 3) := by decide +kernel
theorem dF_countHolding_21 : decode cF_countHolding 21 = .ok (.iinc 1 1, 3) := by decide +kernel
theorem dF_countHolding_24 : decode cF_countHolding 24 = .ok (.iinc 2 1, 3) := by decide +kernel
theorem dF_countHolding_27 : decode cF_countHolding 27 = .ok (.goto (-23), 3) := by decide +kernel
theorem dF_countHolding_30 : decode cF_countHolding 30 = .ok (.iload_n 1, 1) := by decide +kernel
theorem dF_countHolding_31 : decode cF_countHolding 31 = .ok (.ireturn, 1) := by decide +kernel
end
section
theorem dK_init_0 : decode cK_init 0 = .ok (.aload_n 0, 1) := by decide +kernel
theorem dK_init_1 : decode cK_init 1 = .ok (.invokespecial 1, 3) := by decide +kernel
theorem dK_init_4 : decode cK_init 4 = .ok (.aload_n 0, 1) := by decide +kernel
theorem dK_init_5 : decode cK_init 5 = .ok (.new 7, 3) := by decide +kernel
theorem dK_init_8 : decode cK_init 8 = .ok (.dup, 1) := by decide +kernel
theorem dK_init_9 : decode cK_init 9 = .ok (.invokespecial 9, 3) := by decide +kernel
theorem dK_init_12 : decode cK_init 12 = .ok (.putfield 10, 3) := by decide +kernel
theorem dK_init_15 : decode cK_init 15 = .ok (.aload_n 0, 1) := by decide +kernel
theorem dK_init_16 : decode cK_init 16 = .ok (.new 16, 3) := by decide +kernel
theorem dK_init_19 : decode cK_init 19 = .ok (.dup, 1) := by decide +kernel
theorem dK_init_20 : decode cK_init 20 = .ok (.invokespecial 18, 3) := by decide +kernel
theorem dK_init_23 : decode cK_init 23 = .ok (.putfield 19, 3) := by decide +kernel
theorem dK_init_26 : decode cK_init 26 = .ok (.aload_n 0, 1) := by decide +kernel
theorem dK_init_27 : decode cK_init 27 = .ok (.new 23, 3) := by decide +kernel
theorem dK_init_30 : decode cK_init 30 = .ok (.dup, 1) := by decide +kernel
theorem dK_init_31 : decode cK_init 31 = .ok (.invokespecial 25, 3) := by decide +kernel
theorem dK_init_34 : decode cK_init 34 = .ok (.putfield 26, 3) := by decide +kernel
theorem dK_init_37 : decode cK_init 37 = .ok (.aload_n 0, 1) := by decide +kernel
theorem dK_init_38 : decode cK_init 38 = .ok (.bipush 12, 2) := by decide +kernel
theorem dK_init_40 : decode cK_init 40 = .ok (.newarray .int, 2) := by decide +kernel
theorem dK_init_42 : decode cK_init 42 = .ok (.putfield 30, 3) := by decide +kernel
theorem dK_init_45 : decode cK_init 45 = .ok (.return_, 1) := by decide +kernel
theorem dK_object_0 : decode cK_object 0 = .ok (.aload_n 0, 1) := by decide +kernel
theorem dK_object_1 : decode cK_object 1 = .ok (.getfield 10, 3) := by decide +kernel
theorem dK_object_4 : decode cK_object 4 = .ok (.iload_n 1, 1) := by decide +kernel
theorem dK_object_5 : decode cK_object 5 = .ok (.invokevirtual 34, 3) := by decide +kernel
theorem dK_object_8 : decode cK_object 8 = .ok (.ifCond .ne 13, 3) := by decide +kernel
theorem dK_object_11 : decode cK_object 11 = .ok (.new 38, 3) := by decide +kernel
theorem dK_object_14 : decode cK_object 14 = .ok (.dup, 1) := by decide +kernel
theorem dK_object_15 : decode cK_object 15 = .ok (.ldc 40, 2) := by decide +kernel
theorem dK_object_17 : decode cK_object 17 = .ok (.invokespecial 42, 3) := by decide +kernel
theorem dK_object_20 : decode cK_object 20 = .ok (.athrow, 1) := by decide +kernel
theorem dK_object_21 : decode cK_object 21 = .ok (.aload_n 0, 1) := by decide +kernel
theorem dK_object_22 : decode cK_object 22 = .ok (.getfield 10, 3) := by decide +kernel
theorem dK_object_25 : decode cK_object 25 = .ok (.getfield 45, 3) := by decide +kernel
theorem dK_object_28 : decode cK_object 28 = .ok (.bipush 60, 2) := by decide +kernel
theorem dK_object_30 : decode cK_object 30 = .ok (.if_icmp .lt 13, 3) := by decide +kernel
theorem dK_object_33 : decode cK_object 33 = .ok (.new 49, 3) := by decide +kernel
theorem dK_object_36 : decode cK_object 36 = .ok (.dup, 1) := by decide +kernel
theorem dK_object_37 : decode cK_object 37 = .ok (.ldc 51, 2) := by decide +kernel
theorem dK_object_39 : decode cK_object 39 = .ok (.invokespecial 53, 3) := by decide +kernel
theorem dK_object_42 : decode cK_object 42 = .ok (.athrow, 1) := by decide +kernel
theorem dK_object_43 : decode cK_object 43 = .ok (.aload_n 0, 1) := by decide +kernel
theorem dK_object_44 : decode cK_object 44 = .ok (.getfield 19, 3) := by decide +kernel
theorem dK_object_47 : decode cK_object 47 = .ok (.iload_n 1, 1) := by decide +kernel
theorem dK_object_48 : decode cK_object 48 = .ok (.aload_n 0, 1) := by decide +kernel
theorem dK_object_49 : decode cK_object 49 = .ok (.getfield 30, 3) := by decide +kernel
theorem dK_object_52 : decode cK_object 52 = .ok (.iconst 0, 1) := by decide +kernel
theorem dK_object_53 : decode cK_object 53 = .ok (.invokevirtual 54, 3) := by decide +kernel
theorem dK_object_56 : decode cK_object 56 = .ok (.istore_n 2, 1) := by decide +kernel
theorem dK_object_57 : decode cK_object 57 = .ok (.iload_n 2, 1) := by decide +kernel
theorem dK_object_58 : decode cK_object 58 = .ok (.iconst (-1), 1) := by decide +kernel
theorem dK_object_59 : decode cK_object 59 = .ok (.if_icmp .ne 13, 3) := by decide +kernel
theorem dK_object_62 : decode cK_object 62 = .ok (.new 49, 3) := by decide +kernel
theorem dK_object_65 : decode cK_object 65 = .ok (.dup, 1) := by decide +kernel
theorem dK_object_66 : decode cK_object 66 = .ok (.ldc 58, 2) := by decide +kernel
theorem dK_object_68 : decode cK_object 68 = .ok (.invokespecial 53, 3) := by decide +kernel
theorem dK_object_71 : decode cK_object 71 = .ok (.athrow, 1) := by decide +kernel
theorem dK_object_72 : decode cK_object 72 = .ok (.aload_n 0, 1) := by decide +kernel
theorem dK_object_73 : decode cK_object 73 = .ok (.getfield 10, 3) := by decide +kernel
theorem dK_object_76 : decode cK_object 76 = .ok (.iload_n 1, 1) := by decide +kernel
theorem dK_object_77 : decode cK_object 77 = .ok (.iload_n 2, 1) := by decide +kernel
theorem dK_object_78 : decode cK_object 78 = .ok (.invokevirtual 60, 3) := by decide +kernel
theorem dK_object_81 : decode cK_object 81 = .ok (.ireturn, 1) := by decide +kernel
theorem dK_set_0 : decode cK_set 0 = .ok (.aload_n 0, 1) := by decide +kernel
theorem dK_set_1 : decode cK_set 1 = .ok (.getfield 10, 3) := by decide +kernel
theorem dK_set_4 : decode cK_set 4 = .ok (.iload_n 1, 1) := by decide +kernel
theorem dK_set_5 : decode cK_set 5 = .ok (.invokevirtual 64, 3) := by decide +kernel
theorem dK_set_8 : decode cK_set 8 = .ok (.ifCond .eq 10, 3) := by decide +kernel
theorem dK_set_11 : decode cK_set 11 = .ok (.iload_n 2, 1) := by decide +kernel
theorem dK_set_12 : decode cK_set 12 = .ok (.invokestatic 67, 3) := by decide +kernel
theorem dK_set_15 : decode cK_set 15 = .ok (.ifCond .ne 5, 3) := by decide +kernel
theorem dK_set_18 : decode cK_set 18 = .ok (.iconst 0, 1) := by decide +kernel
theorem dK_set_19 : decode cK_set 19 = .ok (.ireturn, 1) := by decide +kernel
theorem dK_set_20 : decode cK_set 20 = .ok (.aload_n 0, 1) := by decide +kernel
theorem dK_set_21 : decode cK_set 21 = .ok (.getfield 10, 3) := by decide +kernel
theorem dK_set_24 : decode cK_set 24 = .ok (.getfield 70, 3) := by decide +kernel
theorem dK_set_27 : decode cK_set 27 = .ok (.iload_n 1, 1) := by decide +kernel
theorem dK_set_28 : decode cK_set 28 = .ok (.iaload, 1) := by decide +kernel
theorem dK_set_29 : decode cK_set 29 = .ok (.istore 4, 2) := by decide +kernel
theorem dK_set_31 : decode cK_set 31 = .ok (.aload_n 0, 1) := by decide +kernel
theorem dK_set_32 : decode cK_set 32 = .ok (.getfield 19, 3) := by decide +kernel
theorem dK_set_35 : decode cK_set 35 = .ok (.iload 4, 2) := by decide +kernel
theorem dK_set_37 : decode cK_set 37 = .ok (.iload_n 2, 1) := by decide +kernel
theorem dK_set_38 : decode cK_set 38 = .ok (.invokevirtual 72, 3) := by decide +kernel
theorem dK_set_41 : decode cK_set 41 = .ok (.istore 5, 2) := by decide +kernel
theorem dK_set_43 : decode cK_set 43 = .ok (.iload 5, 2) := by decide +kernel
theorem dK_set_45 : decode cK_set 45 = .ok (.iconst (-1), 1) := by decide +kernel
theorem dK_set_46 : decode cK_set 46 = .ok (.if_icmp .ne 42, 3) := by decide +kernel
theorem dK_set_49 : decode cK_set 49 = .ok (.aload_n 0, 1) := by decide +kernel
theorem dK_set_50 : decode cK_set 50 = .ok (.getfield 19, 3) := by decide +kernel
theorem dK_set_53 : decode cK_set 53 = .ok (.iload 4, 2) := by decide +kernel
theorem dK_set_55 : decode cK_set 55 = .ok (.iload_n 2, 1) := by decide +kernel
theorem dK_set_56 : decode cK_set 56 = .ok (.invokevirtual 75, 3) := by decide +kernel
theorem dK_set_59 : decode cK_set 59 = .ok (.istore 6, 2) := by decide +kernel
theorem dK_set_61 : decode cK_set 61 = .ok (.iload 6, 2) := by decide +kernel
theorem dK_set_63 : decode cK_set 63 = .ok (.iconst (-1), 1) := by decide +kernel
theorem dK_set_64 : decode cK_set 64 = .ok (.if_icmp .ne 5, 3) := by decide +kernel
theorem dK_set_67 : decode cK_set 67 = .ok (.iconst 0, 1) := by decide +kernel
theorem dK_set_68 : decode cK_set 68 = .ok (.ireturn, 1) := by decide +kernel
theorem dK_set_69 : decode cK_set 69 = .ok (.aload_n 0, 1) := by decide +kernel
theorem dK_set_70 : decode cK_set 70 = .ok (.getfield 19, 3) := by decide +kernel
theorem dK_set_73 : decode cK_set 73 = .ok (.getfield 78, 3) := by decide +kernel
theorem dK_set_76 : decode cK_set 76 = .ok (.iload 4, 2) := by decide +kernel
theorem dK_set_78 : decode cK_set 78 = .ok (.iaload, 1) := by decide +kernel
theorem dK_set_79 : decode cK_set 79 = .ok (.istore 5, 2) := by decide +kernel
theorem dK_set_81 : decode cK_set 81 = .ok (.aload_n 0, 1) := by decide +kernel
theorem dK_set_82 : decode cK_set 82 = .ok (.iload_n 1, 1) := by decide +kernel
theorem dK_set_83 : decode cK_set 83 = .ok (.iload 6, 2) := by decide +kernel
theorem dK_set_85 : decode cK_set 85 = .ok (.invokevirtual 81, 3) := by decide +kernel
theorem dK_set_88 : decode cK_set 88 = .ok (.aload_n 0, 1) := by decide +kernel
theorem dK_set_89 : decode cK_set 89 = .ok (.getfield 10, 3) := by decide +kernel
theorem dK_set_92 : decode cK_set 92 = .ok (.getfield 85, 3) := by decide +kernel
theorem dK_set_95 : decode cK_set 95 = .ok (.iload_n 1, 1) := by decide +kernel
theorem dK_set_96 : decode cK_set 96 = .ok (.aaload, 1) := by decide +kernel
theorem dK_set_97 : decode cK_set 97 = .ok (.iload 5, 2) := by decide +kernel
theorem dK_set_99 : decode cK_set 99 = .ok (.iload_n 3, 1) := by decide +kernel
theorem dK_set_100 : decode cK_set 100 = .ok (.iastore, 1) := by decide +kernel
theorem dK_set_101 : decode cK_set 101 = .ok (.iconst 1, 1) := by decide +kernel
theorem dK_set_102 : decode cK_set 102 = .ok (.ireturn, 1) := by decide +kernel
theorem dK_drop_0 : decode cK_drop 0 = .ok (.aload_n 0, 1) := by decide +kernel
theorem dK_drop_1 : decode cK_drop 1 = .ok (.getfield 10, 3) := by decide +kernel
theorem dK_drop_4 : decode cK_drop 4 = .ok (.iload_n 1, 1) := by decide +kernel
theorem dK_drop_5 : decode cK_drop 5 = .ok (.invokevirtual 64, 3) := by decide +kernel
theorem dK_drop_8 : decode cK_drop 8 = .ok (.ifCond .ne 5, 3) := by decide +kernel
theorem dK_drop_11 : decode cK_drop 11 = .ok (.iconst 0, 1) := by decide +kernel
theorem dK_drop_12 : decode cK_drop 12 = .ok (.ireturn, 1) := by decide +kernel
theorem dK_drop_13 : decode cK_drop 13 = .ok (.aload_n 0, 1) := by decide +kernel
theorem dK_drop_14 : decode cK_drop 14 = .ok (.getfield 10, 3) := by decide +kernel
theorem dK_drop_17 : decode cK_drop 17 = .ok (.getfield 70, 3) := by decide +kernel
theorem dK_drop_20 : decode cK_drop 20 = .ok (.iload_n 1, 1) := by decide +kernel
theorem dK_drop_21 : decode cK_drop 21 = .ok (.iaload, 1) := by decide +kernel
theorem dK_drop_22 : decode cK_drop 22 = .ok (.istore_n 3, 1) := by decide +kernel
theorem dK_drop_23 : decode cK_drop 23 = .ok (.aload_n 0, 1) := by decide +kernel
theorem dK_drop_24 : decode cK_drop 24 = .ok (.getfield 19, 3) := by decide +kernel
theorem dK_drop_27 : decode cK_drop 27 = .ok (.iload_n 3, 1) := by decide +kernel
theorem dK_drop_28 : decode cK_drop 28 = .ok (.iload_n 2, 1) := by decide +kernel
theorem dK_drop_29 : decode cK_drop 29 = .ok (.invokevirtual 72, 3) := by decide +kernel
theorem dK_drop_32 : decode cK_drop 32 = .ok (.istore 4, 2) := by decide +kernel
theorem dK_drop_34 : decode cK_drop 34 = .ok (.iload 4, 2) := by decide +kernel
theorem dK_drop_36 : decode cK_drop 36 = .ok (.iconst (-1), 1) := by decide +kernel
theorem dK_drop_37 : decode cK_drop 37 = .ok (.if_icmp .ne 5, 3) := by decide +kernel
theorem dK_drop_40 : decode cK_drop 40 = .ok (.iconst 0, 1) := by decide +kernel
theorem dK_drop_41 : decode cK_drop 41 = .ok (.ireturn, 1) := by decide +kernel
theorem dK_drop_42 : decode cK_drop 42 = .ok (.aload_n 0, 1) := by decide +kernel
theorem dK_drop_43 : decode cK_drop 43 = .ok (.getfield 19, 3) := by decide +kernel
theorem dK_drop_46 : decode cK_drop 46 = .ok (.iload_n 3, 1) := by decide +kernel
theorem dK_drop_47 : decode cK_drop 47 = .ok (.iload_n 2, 1) := by decide +kernel
theorem dK_drop_48 : decode cK_drop 48 = .ok (.aload_n 0, 1) := by decide +kernel
theorem dK_drop_49 : decode cK_drop 49 = .ok (.getfield 30, 3) := by decide +kernel
theorem dK_drop_52 : decode cK_drop 52 = .ok (.invokevirtual 89, 3) := by decide +kernel
theorem dK_drop_55 : decode cK_drop 55 = .ok (.istore 5, 2) := by decide +kernel
theorem dK_drop_57 : decode cK_drop 57 = .ok (.aload_n 0, 1) := by decide +kernel
theorem dK_drop_58 : decode cK_drop 58 = .ok (.getfield 19, 3) := by decide +kernel
theorem dK_drop_61 : decode cK_drop 61 = .ok (.aload_n 0, 1) := by decide +kernel
theorem dK_drop_62 : decode cK_drop 62 = .ok (.getfield 10, 3) := by decide +kernel
theorem dK_drop_65 : decode cK_drop 65 = .ok (.getfield 93, 3) := by decide +kernel
theorem dK_drop_68 : decode cK_drop 68 = .ok (.iload_n 1, 1) := by decide +kernel
theorem dK_drop_69 : decode cK_drop 69 = .ok (.iaload, 1) := by decide +kernel
theorem dK_drop_70 : decode cK_drop 70 = .ok (.aload_n 0, 1) := by decide +kernel
theorem dK_drop_71 : decode cK_drop 71 = .ok (.getfield 30, 3) := by decide +kernel
theorem dK_drop_74 : decode cK_drop 74 = .ok (.iload 5, 2) := by decide +kernel
theorem dK_drop_76 : decode cK_drop 76 = .ok (.invokevirtual 54, 3) := by decide +kernel
theorem dK_drop_79 : decode cK_drop 79 = .ok (.istore 6, 2) := by decide +kernel
theorem dK_drop_81 : decode cK_drop 81 = .ok (.iload 6, 2) := by decide +kernel
theorem dK_drop_83 : decode cK_drop 83 = .ok (.iconst (-1), 1) := by decide +kernel
theorem dK_drop_84 : decode cK_drop 84 = .ok (.if_icmp .ne 5, 3) := by decide +kernel
theorem dK_drop_87 : decode cK_drop 87 = .ok (.iconst 0, 1) := by decide +kernel
theorem dK_drop_88 : decode cK_drop 88 = .ok (.ireturn, 1) := by decide +kernel
theorem dK_drop_89 : decode cK_drop 89 = .ok (.aload_n 0, 1) := by decide +kernel
theorem dK_drop_90 : decode cK_drop 90 = .ok (.getfield 10, 3) := by decide +kernel
theorem dK_drop_93 : decode cK_drop 93 = .ok (.iload_n 1, 1) := by decide +kernel
theorem dK_drop_94 : decode cK_drop 94 = .ok (.iload 4, 2) := by decide +kernel
theorem dK_drop_96 : decode cK_drop 96 = .ok (.invokevirtual 96, 3) := by decide +kernel
theorem dK_drop_99 : decode cK_drop 99 = .ok (.aload_n 0, 1) := by decide +kernel
theorem dK_drop_100 : decode cK_drop 100 = .ok (.iload_n 1, 1) := by decide +kernel
theorem dK_drop_101 : decode cK_drop 101 = .ok (.iload 6, 2) := by decide +kernel
theorem dK_drop_103 : decode cK_drop 103 = .ok (.invokevirtual 81, 3) := by decide +kernel
theorem dK_drop_106 : decode cK_drop 106 = .ok (.iconst 1, 1) := by decide +kernel
theorem dK_drop_107 : decode cK_drop 107 = .ok (.ireturn, 1) := by decide +kernel
theorem dK_turn_0 : decode cK_turn 0 = .ok (.aload_n 0, 1) := by decide +kernel
theorem dK_turn_1 : decode cK_turn 1 = .ok (.getfield 10, 3) := by decide +kernel
theorem dK_turn_4 : decode cK_turn 4 = .ok (.iload_n 1, 1) := by decide +kernel
theorem dK_turn_5 : decode cK_turn 5 = .ok (.invokevirtual 64, 3) := by decide +kernel
theorem dK_turn_8 : decode cK_turn 8 = .ok (.ifCond .eq 14, 3) := by decide +kernel
theorem dK_turn_11 : decode cK_turn 11 = .ok (.aload_n 0, 1) := by decide +kernel
theorem dK_turn_12 : decode cK_turn 12 = .ok (.getfield 10, 3) := by decide +kernel
theorem dK_turn_15 : decode cK_turn 15 = .ok (.iload_n 2, 1) := by decide +kernel
theorem dK_turn_16 : decode cK_turn 16 = .ok (.invokevirtual 34, 3) := by decide +kernel
theorem dK_turn_19 : decode cK_turn 19 = .ok (.ifCond .ne 5, 3) := by decide +kernel
theorem dK_turn_22 : decode cK_turn 22 = .ok (.iconst 0, 1) := by decide +kernel
theorem dK_turn_23 : decode cK_turn 23 = .ok (.ireturn, 1) := by decide +kernel
theorem dK_turn_24 : decode cK_turn 24 = .ok (.aload_n 0, 1) := by decide +kernel
theorem dK_turn_25 : decode cK_turn 25 = .ok (.getfield 10, 3) := by decide +kernel
theorem dK_turn_28 : decode cK_turn 28 = .ok (.iload_n 2, 1) := by decide +kernel
theorem dK_turn_29 : decode cK_turn 29 = .ok (.iload_n 1, 1) := by decide +kernel
theorem dK_turn_30 : decode cK_turn 30 = .ok (.invokevirtual 99, 3) := by decide +kernel
theorem dK_turn_33 : decode cK_turn 33 = .ok (.ifCond .eq 5, 3) := by decide +kernel
theorem dK_turn_36 : decode cK_turn 36 = .ok (.iconst 0, 1) := by decide +kernel
theorem dK_turn_37 : decode cK_turn 37 = .ok (.ireturn, 1) := by decide +kernel
theorem dK_turn_38 : decode cK_turn 38 = .ok (.aload_n 0, 1) := by decide +kernel
theorem dK_turn_39 : decode cK_turn 39 = .ok (.getfield 19, 3) := by decide +kernel
theorem dK_turn_42 : decode cK_turn 42 = .ok (.aload_n 0, 1) := by decide +kernel
theorem dK_turn_43 : decode cK_turn 43 = .ok (.getfield 10, 3) := by decide +kernel
theorem dK_turn_46 : decode cK_turn 46 = .ok (.getfield 70, 3) := by decide +kernel
theorem dK_turn_49 : decode cK_turn 49 = .ok (.iload_n 1, 1) := by decide +kernel
theorem dK_turn_50 : decode cK_turn 50 = .ok (.iaload, 1) := by decide +kernel
theorem dK_turn_51 : decode cK_turn 51 = .ok (.iconst (-1), 1) := by decide +kernel
theorem dK_turn_52 : decode cK_turn 52 = .ok (.aload_n 0, 1) := by decide +kernel
theorem dK_turn_53 : decode cK_turn 53 = .ok (.getfield 30, 3) := by decide +kernel
theorem dK_turn_56 : decode cK_turn 56 = .ok (.invokevirtual 89, 3) := by decide +kernel
theorem dK_turn_59 : decode cK_turn 59 = .ok (.istore_n 3, 1) := by decide +kernel
theorem dK_turn_60 : decode cK_turn 60 = .ok (.aload_n 0, 1) := by decide +kernel
theorem dK_turn_61 : decode cK_turn 61 = .ok (.getfield 19, 3) := by decide +kernel
theorem dK_turn_64 : decode cK_turn 64 = .ok (.iload_n 2, 1) := by decide +kernel
theorem dK_turn_65 : decode cK_turn 65 = .ok (.aload_n 0, 1) := by decide +kernel
theorem dK_turn_66 : decode cK_turn 66 = .ok (.getfield 30, 3) := by decide +kernel
theorem dK_turn_69 : decode cK_turn 69 = .ok (.iload_n 3, 1) := by decide +kernel
theorem dK_turn_70 : decode cK_turn 70 = .ok (.invokevirtual 54, 3) := by decide +kernel
theorem dK_turn_73 : decode cK_turn 73 = .ok (.istore 4, 2) := by decide +kernel
theorem dK_turn_75 : decode cK_turn 75 = .ok (.iload 4, 2) := by decide +kernel
theorem dK_turn_77 : decode cK_turn 77 = .ok (.iconst (-1), 1) := by decide +kernel
theorem dK_turn_78 : decode cK_turn 78 = .ok (.if_icmp .ne 5, 3) := by decide +kernel
theorem dK_turn_81 : decode cK_turn 81 = .ok (.iconst 0, 1) := by decide +kernel
theorem dK_turn_82 : decode cK_turn 82 = .ok (.ireturn, 1) := by decide +kernel
theorem dK_turn_83 : decode cK_turn 83 = .ok (.aload_n 0, 1) := by decide +kernel
theorem dK_turn_84 : decode cK_turn 84 = .ok (.getfield 10, 3) := by decide +kernel
theorem dK_turn_87 : decode cK_turn 87 = .ok (.getfield 93, 3) := by decide +kernel
theorem dK_turn_90 : decode cK_turn 90 = .ok (.iload_n 1, 1) := by decide +kernel
theorem dK_turn_91 : decode cK_turn 91 = .ok (.iload_n 2, 1) := by decide +kernel
theorem dK_turn_92 : decode cK_turn 92 = .ok (.iastore, 1) := by decide +kernel
theorem dK_turn_93 : decode cK_turn 93 = .ok (.aload_n 0, 1) := by decide +kernel
theorem dK_turn_94 : decode cK_turn 94 = .ok (.iload_n 1, 1) := by decide +kernel
theorem dK_turn_95 : decode cK_turn 95 = .ok (.iload 4, 2) := by decide +kernel
theorem dK_turn_97 : decode cK_turn 97 = .ok (.invokevirtual 81, 3) := by decide +kernel
theorem dK_turn_100 : decode cK_turn 100 = .ok (.iconst 1, 1) := by decide +kernel
theorem dK_turn_101 : decode cK_turn 101 = .ok (.ireturn, 1) := by decide +kernel
theorem dK_read_0 : decode cK_read 0 = .ok (.aload_n 0, 1) := by decide +kernel
theorem dK_read_1 : decode cK_read 1 = .ok (.getfield 10, 3) := by decide +kernel
theorem dK_read_4 : decode cK_read 4 = .ok (.iload_n 1, 1) := by decide +kernel
theorem dK_read_5 : decode cK_read 5 = .ok (.invokevirtual 64, 3) := by decide +kernel
theorem dK_read_8 : decode cK_read 8 = .ok (.ifCond .ne 13, 3) := by decide +kernel
theorem dK_read_11 : decode cK_read 11 = .ok (.new 38, 3) := by decide +kernel
theorem dK_read_14 : decode cK_read 14 = .ok (.dup, 1) := by decide +kernel
theorem dK_read_15 : decode cK_read 15 = .ok (.ldc 103, 2) := by decide +kernel
theorem dK_read_17 : decode cK_read 17 = .ok (.invokespecial 42, 3) := by decide +kernel
theorem dK_read_20 : decode cK_read 20 = .ok (.athrow, 1) := by decide +kernel
theorem dK_read_21 : decode cK_read 21 = .ok (.aload_n 0, 1) := by decide +kernel
theorem dK_read_22 : decode cK_read 22 = .ok (.iload_n 1, 1) := by decide +kernel
theorem dK_read_23 : decode cK_read 23 = .ok (.iload_n 2, 1) := by decide +kernel
theorem dK_read_24 : decode cK_read 24 = .ok (.invokevirtual 105, 3) := by decide +kernel
theorem dK_read_27 : decode cK_read 27 = .ok (.istore_n 3, 1) := by decide +kernel
theorem dK_read_28 : decode cK_read 28 = .ok (.aload_n 0, 1) := by decide +kernel
theorem dK_read_29 : decode cK_read 29 = .ok (.iload_n 3, 1) := by decide +kernel
theorem dK_read_30 : decode cK_read 30 = .ok (.iload_n 2, 1) := by decide +kernel
theorem dK_read_31 : decode cK_read 31 = .ok (.invokevirtual 108, 3) := by decide +kernel
theorem dK_read_34 : decode cK_read 34 = .ok (.istore 4, 2) := by decide +kernel
theorem dK_read_36 : decode cK_read 36 = .ok (.iload 4, 2) := by decide +kernel
theorem dK_read_38 : decode cK_read 38 = .ok (.iconst (-1), 1) := by decide +kernel
theorem dK_read_39 : decode cK_read 39 = .ok (.if_icmp .ne 13, 3) := by decide +kernel
theorem dK_read_42 : decode cK_read 42 = .ok (.new 111, 3) := by decide +kernel
theorem dK_read_45 : decode cK_read 45 = .ok (.dup, 1) := by decide +kernel
theorem dK_read_46 : decode cK_read 46 = .ok (.ldc 113, 2) := by decide +kernel
theorem dK_read_48 : decode cK_read 48 = .ok (.invokespecial 115, 3) := by decide +kernel
theorem dK_read_51 : decode cK_read 51 = .ok (.athrow, 1) := by decide +kernel
theorem dK_read_52 : decode cK_read 52 = .ok (.aload_n 0, 1) := by decide +kernel
theorem dK_read_53 : decode cK_read 53 = .ok (.getfield 10, 3) := by decide +kernel
theorem dK_read_56 : decode cK_read 56 = .ok (.getfield 85, 3) := by decide +kernel
theorem dK_read_59 : decode cK_read 59 = .ok (.iload_n 3, 1) := by decide +kernel
theorem dK_read_60 : decode cK_read 60 = .ok (.aaload, 1) := by decide +kernel
theorem dK_read_61 : decode cK_read 61 = .ok (.iload 4, 2) := by decide +kernel
theorem dK_read_63 : decode cK_read 63 = .ok (.iaload, 1) := by decide +kernel
theorem dK_read_64 : decode cK_read 64 = .ok (.ireturn, 1) := by decide +kernel
theorem dK_find_0 : decode cK_find 0 = .ok (.aload_n 0, 1) := by decide +kernel
theorem dK_find_1 : decode cK_find 1 = .ok (.getfield 10, 3) := by decide +kernel
theorem dK_find_4 : decode cK_find 4 = .ok (.iload_n 1, 1) := by decide +kernel
theorem dK_find_5 : decode cK_find 5 = .ok (.invokevirtual 64, 3) := by decide +kernel
theorem dK_find_8 : decode cK_find 8 = .ok (.ifCond .eq 10, 3) := by decide +kernel
theorem dK_find_11 : decode cK_find 11 = .ok (.iload_n 2, 1) := by decide +kernel
theorem dK_find_12 : decode cK_find 12 = .ok (.invokestatic 67, 3) := by decide +kernel
theorem dK_find_15 : decode cK_find 15 = .ok (.ifCond .ne 5, 3) := by decide +kernel
theorem dK_find_18 : decode cK_find 18 = .ok (.iconst (-1), 1) := by decide +kernel
theorem dK_find_19 : decode cK_find 19 = .ok (.ireturn, 1) := by decide +kernel
theorem dK_find_20 : decode cK_find 20 = .ok (.aload_n 0, 1) := by decide +kernel
theorem dK_find_21 : decode cK_find 21 = .ok (.getfield 10, 3) := by decide +kernel
theorem dK_find_24 : decode cK_find 24 = .ok (.getfield 70, 3) := by decide +kernel
theorem dK_find_27 : decode cK_find 27 = .ok (.iload_n 1, 1) := by decide +kernel
theorem dK_find_28 : decode cK_find 28 = .ok (.iaload, 1) := by decide +kernel
theorem dK_find_29 : decode cK_find 29 = .ok (.istore_n 3, 1) := by decide +kernel
theorem dK_find_30 : decode cK_find 30 = .ok (.aload_n 0, 1) := by decide +kernel
theorem dK_find_31 : decode cK_find 31 = .ok (.getfield 19, 3) := by decide +kernel
theorem dK_find_34 : decode cK_find 34 = .ok (.iload_n 3, 1) := by decide +kernel
theorem dK_find_35 : decode cK_find 35 = .ok (.iload_n 2, 1) := by decide +kernel
theorem dK_find_36 : decode cK_find 36 = .ok (.invokevirtual 72, 3) := by decide +kernel
theorem dK_find_39 : decode cK_find 39 = .ok (.istore 4, 2) := by decide +kernel
theorem dK_find_41 : decode cK_find 41 = .ok (.iload 4, 2) := by decide +kernel
theorem dK_find_43 : decode cK_find 43 = .ok (.iconst (-1), 1) := by decide +kernel
theorem dK_find_44 : decode cK_find 44 = .ok (.if_icmp .eq 17, 3) := by decide +kernel
theorem dK_find_47 : decode cK_find 47 = .ok (.aload_n 0, 1) := by decide +kernel
theorem dK_find_48 : decode cK_find 48 = .ok (.getfield 26, 3) := by decide +kernel
theorem dK_find_51 : decode cK_find 51 = .ok (.iload_n 3, 1) := by decide +kernel
theorem dK_find_52 : decode cK_find 52 = .ok (.iload_n 2, 1) := by decide +kernel
theorem dK_find_53 : decode cK_find 53 = .ok (.iconst (-1), 1) := by decide +kernel
theorem dK_find_54 : decode cK_find 54 = .ok (.iload 4, 2) := by decide +kernel
theorem dK_find_56 : decode cK_find 56 = .ok (.lconst 0, 1) := by decide +kernel
theorem dK_find_57 : decode cK_find 57 = .ok (.invokevirtual 116, 3) := by decide +kernel
theorem dK_find_60 : decode cK_find 60 = .ok (.ireturn, 1) := by decide +kernel
theorem dK_find_61 : decode cK_find 61 = .ok (.aload_n 0, 1) := by decide +kernel
theorem dK_find_62 : decode cK_find 62 = .ok (.getfield 10, 3) := by decide +kernel
theorem dK_find_65 : decode cK_find 65 = .ok (.getfield 93, 3) := by decide +kernel
theorem dK_find_68 : decode cK_find 68 = .ok (.iload_n 1, 1) := by decide +kernel
theorem dK_find_69 : decode cK_find 69 = .ok (.iaload, 1) := by decide +kernel
theorem dK_find_70 : decode cK_find 70 = .ok (.istore 5, 2) := by decide +kernel
theorem dK_find_72 : decode cK_find 72 = .ok (.aload_n 0, 1) := by decide +kernel
theorem dK_find_73 : decode cK_find 73 = .ok (.iload 5, 2) := by decide +kernel
theorem dK_find_75 : decode cK_find 75 = .ok (.iload_n 2, 1) := by decide +kernel
theorem dK_find_76 : decode cK_find 76 = .ok (.invokevirtual 105, 3) := by decide +kernel
theorem dK_find_79 : decode cK_find 79 = .ok (.istore 6, 2) := by decide +kernel
theorem dK_find_81 : decode cK_find 81 = .ok (.aload_n 0, 1) := by decide +kernel
theorem dK_find_82 : decode cK_find 82 = .ok (.getfield 10, 3) := by decide +kernel
theorem dK_find_85 : decode cK_find 85 = .ok (.iload 5, 2) := by decide +kernel
theorem dK_find_87 : decode cK_find 87 = .ok (.iload 6, 2) := by decide +kernel
theorem dK_find_89 : decode cK_find 89 = .ok (.invokevirtual 119, 3) := by decide +kernel
theorem dK_find_92 : decode cK_find 92 = .ok (.lstore 7, 2) := by decide +kernel
theorem dK_find_94 : decode cK_find 94 = .ok (.aload_n 0, 1) := by decide +kernel
theorem dK_find_95 : decode cK_find 95 = .ok (.getfield 26, 3) := by decide +kernel
theorem dK_find_98 : decode cK_find 98 = .ok (.iload_n 3, 1) := by decide +kernel
theorem dK_find_99 : decode cK_find 99 = .ok (.iload_n 2, 1) := by decide +kernel
theorem dK_find_100 : decode cK_find 100 = .ok (.iload 6, 2) := by decide +kernel
theorem dK_find_102 : decode cK_find 102 = .ok (.aload_n 0, 1) := by decide +kernel
end
section
theorem dK_find_103 : decode cK_find 103 = .ok (.iload 6, 2) := by decide +kernel
theorem dK_find_105 : decode cK_find 105 = .ok (.iload_n 2, 1) := by decide +kernel
theorem dK_find_106 : decode cK_find 106 = .ok (.invokevirtual 108, 3) := by decide +kernel
theorem dK_find_109 : decode cK_find 109 = .ok (.lload 7, 2) := by decide +kernel
theorem dK_find_111 : decode cK_find 111 = .ok (.invokevirtual 116, 3) := by decide +kernel
theorem dK_find_114 : decode cK_find 114 = .ok (.ireturn, 1) := by decide +kernel
theorem dK_holds_0 : decode cK_holds 0 = .ok (.aload_n 0, 1) := by decide +kernel
theorem dK_holds_1 : decode cK_holds 1 = .ok (.getfield 26, 3) := by decide +kernel
theorem dK_holds_4 : decode cK_holds 4 = .ok (.iload_n 1, 1) := by decide +kernel
theorem dK_holds_5 : decode cK_holds 5 = .ok (.invokevirtual 123, 3) := by decide +kernel
theorem dK_holds_8 : decode cK_holds 8 = .ok (.ifCond .eq 51, 3) := by decide +kernel
theorem dK_holds_11 : decode cK_holds 11 = .ok (.aload_n 0, 1) := by decide +kernel
theorem dK_holds_12 : decode cK_holds 12 = .ok (.getfield 10, 3) := by decide +kernel
theorem dK_holds_15 : decode cK_holds 15 = .ok (.iload_n 2, 1) := by decide +kernel
theorem dK_holds_16 : decode cK_holds 16 = .ok (.invokevirtual 64, 3) := by decide +kernel
theorem dK_holds_19 : decode cK_holds 19 = .ok (.ifCond .eq 40, 3) := by decide +kernel
theorem dK_holds_22 : decode cK_holds 22 = .ok (.aload_n 0, 1) := by decide +kernel
theorem dK_holds_23 : decode cK_holds 23 = .ok (.getfield 26, 3) := by decide +kernel
theorem dK_holds_26 : decode cK_holds 26 = .ok (.getfield 124, 3) := by decide +kernel
theorem dK_holds_29 : decode cK_holds 29 = .ok (.iload_n 1, 1) := by decide +kernel
theorem dK_holds_30 : decode cK_holds 30 = .ok (.baload, 1) := by decide +kernel
theorem dK_holds_31 : decode cK_holds 31 = .ok (.ifCond .eq 28, 3) := by decide +kernel
theorem dK_holds_34 : decode cK_holds 34 = .ok (.aload_n 0, 1) := by decide +kernel
theorem dK_holds_35 : decode cK_holds 35 = .ok (.getfield 26, 3) := by decide +kernel
theorem dK_holds_38 : decode cK_holds 38 = .ok (.getfield 128, 3) := by decide +kernel
theorem dK_holds_41 : decode cK_holds 41 = .ok (.iload_n 1, 1) := by decide +kernel
theorem dK_holds_42 : decode cK_holds 42 = .ok (.iaload, 1) := by decide +kernel
theorem dK_holds_43 : decode cK_holds 43 = .ok (.aload_n 0, 1) := by decide +kernel
theorem dK_holds_44 : decode cK_holds 44 = .ok (.getfield 10, 3) := by decide +kernel
theorem dK_holds_47 : decode cK_holds 47 = .ok (.getfield 70, 3) := by decide +kernel
theorem dK_holds_50 : decode cK_holds 50 = .ok (.iload_n 2, 1) := by decide +kernel
theorem dK_holds_51 : decode cK_holds 51 = .ok (.iaload, 1) := by decide +kernel
theorem dK_holds_52 : decode cK_holds 52 = .ok (.if_icmp .ne 7, 3) := by decide +kernel
theorem dK_holds_55 : decode cK_holds 55 = .ok (.iconst 1, 1) := by decide +kernel
theorem dK_holds_56 : decode cK_holds 56 = .ok (.goto 4, 3) := by decide +kernel
theorem dK_holds_59 : decode cK_holds 59 = .ok (.iconst 0, 1) := by decide +kernel
theorem dK_holds_60 : decode cK_holds 60 = .ok (.ireturn, 1) := by decide +kernel
theorem dK_get_0 : decode cK_get 0 = .ok (.aload_n 0, 1) := by decide +kernel
theorem dK_get_1 : decode cK_get 1 = .ok (.getfield 26, 3) := by decide +kernel
theorem dK_get_4 : decode cK_get 4 = .ok (.iload_n 1, 1) := by decide +kernel
theorem dK_get_5 : decode cK_get 5 = .ok (.invokevirtual 123, 3) := by decide +kernel
theorem dK_get_8 : decode cK_get 8 = .ok (.ifCond .ne 13, 3) := by decide +kernel
theorem dK_get_11 : decode cK_get 11 = .ok (.new 38, 3) := by decide +kernel
theorem dK_get_14 : decode cK_get 14 = .ok (.dup, 1) := by decide +kernel
theorem dK_get_15 : decode cK_get 15 = .ok (.ldc 129, 2) := by decide +kernel
theorem dK_get_17 : decode cK_get 17 = .ok (.invokespecial 42, 3) := by decide +kernel
theorem dK_get_20 : decode cK_get 20 = .ok (.athrow, 1) := by decide +kernel
theorem dK_get_21 : decode cK_get 21 = .ok (.aload_n 0, 1) := by decide +kernel
theorem dK_get_22 : decode cK_get 22 = .ok (.iload_n 1, 1) := by decide +kernel
theorem dK_get_23 : decode cK_get 23 = .ok (.iload_n 2, 1) := by decide +kernel
theorem dK_get_24 : decode cK_get 24 = .ok (.invokevirtual 131, 3) := by decide +kernel
theorem dK_get_27 : decode cK_get 27 = .ok (.ifCond .ne 13, 3) := by decide +kernel
theorem dK_get_30 : decode cK_get 30 = .ok (.new 49, 3) := by decide +kernel
theorem dK_get_33 : decode cK_get 33 = .ok (.dup, 1) := by decide +kernel
theorem dK_get_34 : decode cK_get 34 = .ok (.ldc 134, 2) := by decide +kernel
theorem dK_get_36 : decode cK_get 36 = .ok (.invokespecial 53, 3) := by decide +kernel
theorem dK_get_39 : decode cK_get 39 = .ok (.athrow, 1) := by decide +kernel
theorem dK_get_40 : decode cK_get 40 = .ok (.aload_n 0, 1) := by decide +kernel
theorem dK_get_41 : decode cK_get 41 = .ok (.getfield 26, 3) := by decide +kernel
theorem dK_get_44 : decode cK_get 44 = .ok (.getfield 136, 3) := by decide +kernel
theorem dK_get_47 : decode cK_get 47 = .ok (.iload_n 1, 1) := by decide +kernel
theorem dK_get_48 : decode cK_get 48 = .ok (.iaload, 1) := by decide +kernel
theorem dK_get_49 : decode cK_get 49 = .ok (.istore_n 3, 1) := by decide +kernel
theorem dK_get_50 : decode cK_get 50 = .ok (.iload_n 3, 1) := by decide +kernel
theorem dK_get_51 : decode cK_get 51 = .ok (.iconst (-1), 1) := by decide +kernel
theorem dK_get_52 : decode cK_get 52 = .ok (.if_icmp .ne 13, 3) := by decide +kernel
theorem dK_get_55 : decode cK_get 55 = .ok (.new 111, 3) := by decide +kernel
theorem dK_get_58 : decode cK_get 58 = .ok (.dup, 1) := by decide +kernel
theorem dK_get_59 : decode cK_get 59 = .ok (.ldc 113, 2) := by decide +kernel
theorem dK_get_61 : decode cK_get 61 = .ok (.invokespecial 115, 3) := by decide +kernel
theorem dK_get_64 : decode cK_get 64 = .ok (.athrow, 1) := by decide +kernel
theorem dK_get_65 : decode cK_get 65 = .ok (.aload_n 0, 1) := by decide +kernel
theorem dK_get_66 : decode cK_get 66 = .ok (.getfield 26, 3) := by decide +kernel
theorem dK_get_69 : decode cK_get 69 = .ok (.getfield 139, 3) := by decide +kernel
theorem dK_get_72 : decode cK_get 72 = .ok (.iload_n 1, 1) := by decide +kernel
theorem dK_get_73 : decode cK_get 73 = .ok (.iaload, 1) := by decide +kernel
theorem dK_get_74 : decode cK_get 74 = .ok (.istore 4, 2) := by decide +kernel
theorem dK_get_76 : decode cK_get 76 = .ok (.aload_n 0, 1) := by decide +kernel
theorem dK_get_77 : decode cK_get 77 = .ok (.getfield 10, 3) := by decide +kernel
theorem dK_get_80 : decode cK_get 80 = .ok (.getfield 85, 3) := by decide +kernel
theorem dK_get_83 : decode cK_get 83 = .ok (.iload 4, 2) := by decide +kernel
theorem dK_get_85 : decode cK_get 85 = .ok (.iconst (-1), 1) := by decide +kernel
theorem dK_get_86 : decode cK_get 86 = .ok (.if_icmp .ne 7, 3) := by decide +kernel
theorem dK_get_89 : decode cK_get 89 = .ok (.iload_n 2, 1) := by decide +kernel
theorem dK_get_90 : decode cK_get 90 = .ok (.goto 5, 3) := by decide +kernel
theorem dK_get_93 : decode cK_get 93 = .ok (.iload 4, 2) := by decide +kernel
theorem dK_get_95 : decode cK_get 95 = .ok (.aaload, 1) := by decide +kernel
theorem dK_get_96 : decode cK_get 96 = .ok (.iload_n 3, 1) := by decide +kernel
theorem dK_get_97 : decode cK_get 97 = .ok (.iaload, 1) := by decide +kernel
theorem dK_get_98 : decode cK_get 98 = .ok (.ireturn, 1) := by decide +kernel
theorem dK_look_0 : decode cK_look 0 = .ok (.aload_n 0, 1) := by decide +kernel
theorem dK_look_1 : decode cK_look 1 = .ok (.getfield 10, 3) := by decide +kernel
theorem dK_look_4 : decode cK_look 4 = .ok (.iload_n 1, 1) := by decide +kernel
theorem dK_look_5 : decode cK_look 5 = .ok (.invokevirtual 64, 3) := by decide +kernel
theorem dK_look_8 : decode cK_look 8 = .ok (.ifCond .ne 5, 3) := by decide +kernel
theorem dK_look_11 : decode cK_look 11 = .ok (.iconst (-1), 1) := by decide +kernel
theorem dK_look_12 : decode cK_look 12 = .ok (.ireturn, 1) := by decide +kernel
theorem dK_look_13 : decode cK_look 13 = .ok (.iload_n 2, 1) := by decide +kernel
theorem dK_look_14 : decode cK_look 14 = .ok (.tableswitch 104 0 5 #[38, 48, 58, 76, 86, 95], 38) := by decide +kernel
theorem dK_look_52 : decode cK_look 52 = .ok (.aload_n 0, 1) := by decide +kernel
theorem dK_look_53 : decode cK_look 53 = .ok (.getfield 10, 3) := by decide +kernel
theorem dK_look_56 : decode cK_look 56 = .ok (.getfield 70, 3) := by decide +kernel
theorem dK_look_59 : decode cK_look 59 = .ok (.iload_n 1, 1) := by decide +kernel
theorem dK_look_60 : decode cK_look 60 = .ok (.iaload, 1) := by decide +kernel
theorem dK_look_61 : decode cK_look 61 = .ok (.ireturn, 1) := by decide +kernel
theorem dK_look_62 : decode cK_look 62 = .ok (.aload_n 0, 1) := by decide +kernel
theorem dK_look_63 : decode cK_look 63 = .ok (.getfield 10, 3) := by decide +kernel
theorem dK_look_66 : decode cK_look 66 = .ok (.getfield 93, 3) := by decide +kernel
theorem dK_look_69 : decode cK_look 69 = .ok (.iload_n 1, 1) := by decide +kernel
theorem dK_look_70 : decode cK_look 70 = .ok (.iaload, 1) := by decide +kernel
theorem dK_look_71 : decode cK_look 71 = .ok (.ireturn, 1) := by decide +kernel
theorem dK_look_72 : decode cK_look 72 = .ok (.aload_n 0, 1) := by decide +kernel
theorem dK_look_73 : decode cK_look 73 = .ok (.getfield 19, 3) := by decide +kernel
theorem dK_look_76 : decode cK_look 76 = .ok (.getfield 78, 3) := by decide +kernel
theorem dK_look_79 : decode cK_look 79 = .ok (.aload_n 0, 1) := by decide +kernel
theorem dK_look_80 : decode cK_look 80 = .ok (.getfield 10, 3) := by decide +kernel
theorem dK_look_83 : decode cK_look 83 = .ok (.getfield 70, 3) := by decide +kernel
theorem dK_look_86 : decode cK_look 86 = .ok (.iload_n 1, 1) := by decide +kernel
theorem dK_look_87 : decode cK_look 87 = .ok (.iaload, 1) := by decide +kernel
theorem dK_look_88 : decode cK_look 88 = .ok (.iaload, 1) := by decide +kernel
theorem dK_look_89 : decode cK_look 89 = .ok (.ireturn, 1) := by decide +kernel
theorem dK_look_90 : decode cK_look 90 = .ok (.aload_n 0, 1) := by decide +kernel
theorem dK_look_91 : decode cK_look 91 = .ok (.getfield 10, 3) := by decide +kernel
theorem dK_look_94 : decode cK_look 94 = .ok (.getfield 142, 3) := by decide +kernel
theorem dK_look_97 : decode cK_look 97 = .ok (.iload_n 1, 1) := by decide +kernel
theorem dK_look_98 : decode cK_look 98 = .ok (.iaload, 1) := by decide +kernel
theorem dK_look_99 : decode cK_look 99 = .ok (.ireturn, 1) := by decide +kernel
theorem dK_look_100 : decode cK_look 100 = .ok (.aload_n 0, 1) := by decide +kernel
theorem dK_look_101 : decode cK_look 101 = .ok (.getfield 10, 3) := by decide +kernel
theorem dK_look_104 : decode cK_look 104 = .ok (.iload_n 1, 1) := by decide +kernel
theorem dK_look_105 : decode cK_look 105 = .ok (.invokevirtual 145, 3) := by decide +kernel
theorem dK_look_108 : decode cK_look 108 = .ok (.ireturn, 1) := by decide +kernel
theorem dK_look_109 : decode cK_look 109 = .ok (.aload_n 0, 1) := by decide +kernel
theorem dK_look_110 : decode cK_look 110 = .ok (.getfield 10, 3) := by decide +kernel
theorem dK_look_113 : decode cK_look 113 = .ok (.iload_n 1, 1) := by decide +kernel
theorem dK_look_114 : decode cK_look 114 = .ok (.invokevirtual 149, 3) := by decide +kernel
theorem dK_look_117 : decode cK_look 117 = .ok (.ireturn, 1) := by decide +kernel
theorem dK_look_118 : decode cK_look 118 = .ok (.iconst (-1), 1) := by decide +kernel
theorem dK_look_119 : decode cK_look 119 = .ok (.ireturn, 1) := by decide +kernel
theorem dK_shape_0 : decode cK_shape 0 = .ok (.aload_n 0, 1) := by decide +kernel
theorem dK_shape_1 : decode cK_shape 1 = .ok (.getfield 19, 3) := by decide +kernel
theorem dK_shape_4 : decode cK_shape 4 = .ok (.iload_n 1, 1) := by decide +kernel
theorem dK_shape_5 : decode cK_shape 5 = .ok (.invokevirtual 152, 3) := by decide +kernel
theorem dK_shape_8 : decode cK_shape 8 = .ok (.ifCond .ne 5, 3) := by decide +kernel
theorem dK_shape_11 : decode cK_shape 11 = .ok (.iconst (-1), 1) := by decide +kernel
theorem dK_shape_12 : decode cK_shape 12 = .ok (.ireturn, 1) := by decide +kernel
theorem dK_shape_13 : decode cK_shape 13 = .ok (.iload_n 2, 1) := by decide +kernel
theorem dK_shape_14 : decode cK_shape 14 = .ok (.tableswitch 69 0 3 #[30, 40, 50, 59], 30) := by decide +kernel
theorem dK_shape_44 : decode cK_shape 44 = .ok (.aload_n 0, 1) := by decide +kernel
theorem dK_shape_45 : decode cK_shape 45 = .ok (.getfield 19, 3) := by decide +kernel
theorem dK_shape_48 : decode cK_shape 48 = .ok (.getfield 153, 3) := by decide +kernel
theorem dK_shape_51 : decode cK_shape 51 = .ok (.iload_n 1, 1) := by decide +kernel
theorem dK_shape_52 : decode cK_shape 52 = .ok (.iaload, 1) := by decide +kernel
theorem dK_shape_53 : decode cK_shape 53 = .ok (.ireturn, 1) := by decide +kernel
theorem dK_shape_54 : decode cK_shape 54 = .ok (.aload_n 0, 1) := by decide +kernel
theorem dK_shape_55 : decode cK_shape 55 = .ok (.getfield 19, 3) := by decide +kernel
theorem dK_shape_58 : decode cK_shape 58 = .ok (.getfield 78, 3) := by decide +kernel
theorem dK_shape_61 : decode cK_shape 61 = .ok (.iload_n 1, 1) := by decide +kernel
theorem dK_shape_62 : decode cK_shape 62 = .ok (.iaload, 1) := by decide +kernel
theorem dK_shape_63 : decode cK_shape 63 = .ok (.ireturn, 1) := by decide +kernel
theorem dK_shape_64 : decode cK_shape 64 = .ok (.aload_n 0, 1) := by decide +kernel
theorem dK_shape_65 : decode cK_shape 65 = .ok (.getfield 10, 3) := by decide +kernel
theorem dK_shape_68 : decode cK_shape 68 = .ok (.iload_n 1, 1) := by decide +kernel
theorem dK_shape_69 : decode cK_shape 69 = .ok (.invokevirtual 154, 3) := by decide +kernel
theorem dK_shape_72 : decode cK_shape 72 = .ok (.ireturn, 1) := by decide +kernel
theorem dK_shape_73 : decode cK_shape 73 = .ok (.aload_n 0, 1) := by decide +kernel
theorem dK_shape_74 : decode cK_shape 74 = .ok (.getfield 19, 3) := by decide +kernel
theorem dK_shape_77 : decode cK_shape 77 = .ok (.getfield 157, 3) := by decide +kernel
theorem dK_shape_80 : decode cK_shape 80 = .ok (.iload_n 1, 1) := by decide +kernel
theorem dK_shape_81 : decode cK_shape 81 = .ok (.iaload, 1) := by decide +kernel
theorem dK_shape_82 : decode cK_shape 82 = .ok (.ireturn, 1) := by decide +kernel
theorem dK_shape_83 : decode cK_shape 83 = .ok (.iload_n 2, 1) := by decide +kernel
theorem dK_shape_84 : decode cK_shape 84 = .ok (.iconst 4, 1) := by decide +kernel
theorem dK_shape_85 : decode cK_shape 85 = .ok (.if_icmp .ge 7, 3) := by decide +kernel
theorem dK_shape_88 : decode cK_shape 88 = .ok (.iconst (-1), 1) := by decide +kernel
theorem dK_shape_89 : decode cK_shape 89 = .ok (.goto 14, 3) := by decide +kernel
theorem dK_shape_92 : decode cK_shape 92 = .ok (.aload_n 0, 1) := by decide +kernel
theorem dK_shape_93 : decode cK_shape 93 = .ok (.getfield 19, 3) := by decide +kernel
theorem dK_shape_96 : decode cK_shape 96 = .ok (.iload_n 1, 1) := by decide +kernel
theorem dK_shape_97 : decode cK_shape 97 = .ok (.iload_n 2, 1) := by decide +kernel
theorem dK_shape_98 : decode cK_shape 98 = .ok (.iconst 4, 1) := by decide +kernel
theorem dK_shape_99 : decode cK_shape 99 = .ok (.isub, 1) := by decide +kernel
theorem dK_shape_100 : decode cK_shape 100 = .ok (.invokevirtual 160, 3) := by decide +kernel
theorem dK_shape_103 : decode cK_shape 103 = .ok (.ireturn, 1) := by decide +kernel
theorem dK_finding_0 : decode cK_finding 0 = .ok (.aload_n 0, 1) := by decide +kernel
theorem dK_finding_1 : decode cK_finding 1 = .ok (.getfield 26, 3) := by decide +kernel
theorem dK_finding_4 : decode cK_finding 4 = .ok (.iload_n 1, 1) := by decide +kernel
theorem dK_finding_5 : decode cK_finding 5 = .ok (.invokevirtual 123, 3) := by decide +kernel
theorem dK_finding_8 : decode cK_finding 8 = .ok (.ifCond .ne 5, 3) := by decide +kernel
theorem dK_finding_11 : decode cK_finding 11 = .ok (.iconst (-1), 1) := by decide +kernel
theorem dK_finding_12 : decode cK_finding 12 = .ok (.ireturn, 1) := by decide +kernel
theorem dK_finding_13 : decode cK_finding 13 = .ok (.iload_n 2, 1) := by decide +kernel
theorem dK_finding_14 : decode cK_finding 14 = .ok (.tableswitch 105 0 5 #[38, 48, 58, 67, 77, 87], 38) := by decide +kernel
theorem dK_finding_52 : decode cK_finding 52 = .ok (.aload_n 0, 1) := by decide +kernel
theorem dK_finding_53 : decode cK_finding 53 = .ok (.getfield 26, 3) := by decide +kernel
theorem dK_finding_56 : decode cK_finding 56 = .ok (.getfield 128, 3) := by decide +kernel
theorem dK_finding_59 : decode cK_finding 59 = .ok (.iload_n 1, 1) := by decide +kernel
theorem dK_finding_60 : decode cK_finding 60 = .ok (.iaload, 1) := by decide +kernel
theorem dK_finding_61 : decode cK_finding 61 = .ok (.ireturn, 1) := by decide +kernel
theorem dK_finding_62 : decode cK_finding 62 = .ok (.aload_n 0, 1) := by decide +kernel
theorem dK_finding_63 : decode cK_finding 63 = .ok (.getfield 26, 3) := by decide +kernel
theorem dK_finding_66 : decode cK_finding 66 = .ok (.getfield 163, 3) := by decide +kernel
theorem dK_finding_69 : decode cK_finding 69 = .ok (.iload_n 1, 1) := by decide +kernel
theorem dK_finding_70 : decode cK_finding 70 = .ok (.iaload, 1) := by decide +kernel
theorem dK_finding_71 : decode cK_finding 71 = .ok (.ireturn, 1) := by decide +kernel
theorem dK_finding_72 : decode cK_finding 72 = .ok (.aload_n 0, 1) := by decide +kernel
theorem dK_finding_73 : decode cK_finding 73 = .ok (.getfield 26, 3) := by decide +kernel
theorem dK_finding_76 : decode cK_finding 76 = .ok (.iload_n 1, 1) := by decide +kernel
theorem dK_finding_77 : decode cK_finding 77 = .ok (.invokevirtual 166, 3) := by decide +kernel
theorem dK_finding_80 : decode cK_finding 80 = .ok (.ireturn, 1) := by decide +kernel
theorem dK_finding_81 : decode cK_finding 81 = .ok (.aload_n 0, 1) := by decide +kernel
theorem dK_finding_82 : decode cK_finding 82 = .ok (.getfield 26, 3) := by decide +kernel
theorem dK_finding_85 : decode cK_finding 85 = .ok (.getfield 139, 3) := by decide +kernel
theorem dK_finding_88 : decode cK_finding 88 = .ok (.iload_n 1, 1) := by decide +kernel
theorem dK_finding_89 : decode cK_finding 89 = .ok (.iaload, 1) := by decide +kernel
theorem dK_finding_90 : decode cK_finding 90 = .ok (.ireturn, 1) := by decide +kernel
theorem dK_finding_91 : decode cK_finding 91 = .ok (.aload_n 0, 1) := by decide +kernel
theorem dK_finding_92 : decode cK_finding 92 = .ok (.getfield 26, 3) := by decide +kernel
theorem dK_finding_95 : decode cK_finding 95 = .ok (.getfield 136, 3) := by decide +kernel
theorem dK_finding_98 : decode cK_finding 98 = .ok (.iload_n 1, 1) := by decide +kernel
theorem dK_finding_99 : decode cK_finding 99 = .ok (.iaload, 1) := by decide +kernel
theorem dK_finding_100 : decode cK_finding 100 = .ok (.ireturn, 1) := by decide +kernel
theorem dK_finding_101 : decode cK_finding 101 = .ok (.aload_n 0, 1) := by decide +kernel
theorem dK_finding_102 : decode cK_finding 102 = .ok (.getfield 26, 3) := by decide +kernel
theorem dK_finding_105 : decode cK_finding 105 = .ok (.getfield 124, 3) := by decide +kernel
theorem dK_finding_108 : decode cK_finding 108 = .ok (.iload_n 1, 1) := by decide +kernel
theorem dK_finding_109 : decode cK_finding 109 = .ok (.baload, 1) := by decide +kernel
theorem dK_finding_110 : decode cK_finding 110 = .ok (.ifCond .eq 7, 3) := by decide +kernel
theorem dK_finding_113 : decode cK_finding 113 = .ok (.iconst 1, 1) := by decide +kernel
theorem dK_finding_114 : decode cK_finding 114 = .ok (.goto 4, 3) := by decide +kernel
theorem dK_finding_117 : decode cK_finding 117 = .ok (.iconst 0, 1) := by decide +kernel
theorem dK_finding_118 : decode cK_finding 118 = .ok (.ireturn, 1) := by decide +kernel
theorem dK_finding_119 : decode cK_finding 119 = .ok (.iconst (-1), 1) := by decide +kernel
theorem dK_finding_120 : decode cK_finding 120 = .ok (.ireturn, 1) := by decide +kernel
theorem dK_count_0 : decode cK_count 0 = .ok (.iload_n 1, 1) := by decide +kernel
theorem dK_count_1 : decode cK_count 1 = .ok (.tableswitch 63 0 3 #[31, 39, 47, 55], 31) := by decide +kernel
theorem dK_count_32 : decode cK_count 32 = .ok (.aload_n 0, 1) := by decide +kernel
theorem dK_count_33 : decode cK_count 33 = .ok (.getfield 10, 3) := by decide +kernel
theorem dK_count_36 : decode cK_count 36 = .ok (.getfield 45, 3) := by decide +kernel
theorem dK_count_39 : decode cK_count 39 = .ok (.ireturn, 1) := by decide +kernel
theorem dK_count_40 : decode cK_count 40 = .ok (.aload_n 0, 1) := by decide +kernel
theorem dK_count_41 : decode cK_count 41 = .ok (.getfield 19, 3) := by decide +kernel
theorem dK_count_44 : decode cK_count 44 = .ok (.getfield 169, 3) := by decide +kernel
theorem dK_count_47 : decode cK_count 47 = .ok (.ireturn, 1) := by decide +kernel
theorem dK_count_48 : decode cK_count 48 = .ok (.aload_n 0, 1) := by decide +kernel
theorem dK_count_49 : decode cK_count 49 = .ok (.getfield 26, 3) := by decide +kernel
theorem dK_count_52 : decode cK_count 52 = .ok (.getfield 170, 3) := by decide +kernel
theorem dK_count_55 : decode cK_count 55 = .ok (.ireturn, 1) := by decide +kernel
theorem dK_count_56 : decode cK_count 56 = .ok (.aload_n 0, 1) := by decide +kernel
theorem dK_count_57 : decode cK_count 57 = .ok (.getfield 26, 3) := by decide +kernel
theorem dK_count_60 : decode cK_count 60 = .ok (.invokevirtual 173, 3) := by decide +kernel
theorem dK_count_63 : decode cK_count 63 = .ok (.ireturn, 1) := by decide +kernel
theorem dK_count_64 : decode cK_count 64 = .ok (.iconst (-1), 1) := by decide +kernel
theorem dK_count_65 : decode cK_count 65 = .ok (.ireturn, 1) := by decide +kernel
theorem dK_isName_0 : decode cK_isName 0 = .ok (.iload_n 0, 1) := by decide +kernel
theorem dK_isName_1 : decode cK_isName 1 = .ok (.ifCond .lt 13, 3) := by decide +kernel
theorem dK_isName_4 : decode cK_isName 4 = .ok (.iload_n 0, 1) := by decide +kernel
theorem dK_isName_5 : decode cK_isName 5 = .ok (.bipush 12, 2) := by decide +kernel
theorem dK_isName_7 : decode cK_isName 7 = .ok (.if_icmp .ge 7, 3) := by decide +kernel
theorem dK_isName_10 : decode cK_isName 10 = .ok (.iconst 1, 1) := by decide +kernel
theorem dK_isName_11 : decode cK_isName 11 = .ok (.goto 4, 3) := by decide +kernel
theorem dK_isName_14 : decode cK_isName 14 = .ok (.iconst 0, 1) := by decide +kernel
theorem dK_isName_15 : decode cK_isName 15 = .ok (.ireturn, 1) := by decide +kernel
theorem dK_change_0 : decode cK_change 0 = .ok (.aload_n 0, 1) := by decide +kernel
theorem dK_change_1 : decode cK_change 1 = .ok (.getfield 10, 3) := by decide +kernel
theorem dK_change_4 : decode cK_change 4 = .ok (.getfield 70, 3) := by decide +kernel
theorem dK_change_7 : decode cK_change 7 = .ok (.iload_n 1, 1) := by decide +kernel
theorem dK_change_8 : decode cK_change 8 = .ok (.iload_n 2, 1) := by decide +kernel
theorem dK_change_9 : decode cK_change 9 = .ok (.iastore, 1) := by decide +kernel
theorem dK_change_10 : decode cK_change 10 = .ok (.aload_n 0, 1) := by decide +kernel
theorem dK_change_11 : decode cK_change 11 = .ok (.getfield 10, 3) := by decide +kernel
theorem dK_change_14 : decode cK_change 14 = .ok (.getfield 142, 3) := by decide +kernel
theorem dK_change_17 : decode cK_change 17 = .ok (.iload_n 1, 1) := by decide +kernel
theorem dK_change_18 : decode cK_change 18 = .ok (.dup2, 1) := by decide +kernel
theorem dK_change_19 : decode cK_change 19 = .ok (.iaload, 1) := by decide +kernel
theorem dK_change_20 : decode cK_change 20 = .ok (.iconst 1, 1) := by decide +kernel
theorem dK_change_21 : decode cK_change 21 = .ok (.iadd, 1) := by decide +kernel
theorem dK_change_22 : decode cK_change 22 = .ok (.iastore, 1) := by decide +kernel
theorem dK_change_23 : decode cK_change 23 = .ok (.aload_n 0, 1) := by decide +kernel
theorem dK_change_24 : decode cK_change 24 = .ok (.getfield 26, 3) := by decide +kernel
theorem dK_change_27 : decode cK_change 27 = .ok (.iload_n 1, 1) := by decide +kernel
theorem dK_change_28 : decode cK_change 28 = .ok (.invokevirtual 177, 3) := by decide +kernel
theorem dK_change_31 : decode cK_change 31 = .ok (.return_, 1) := by decide +kernel
theorem dK_ownPlace_0 : decode cK_ownPlace 0 = .ok (.iload_n 1, 1) := by decide +kernel
theorem dK_ownPlace_1 : decode cK_ownPlace 1 = .ok (.iconst (-1), 1) := by decide +kernel
theorem dK_ownPlace_2 : decode cK_ownPlace 2 = .ok (.if_icmp .ne 7, 3) := by decide +kernel
theorem dK_ownPlace_5 : decode cK_ownPlace 5 = .ok (.iconst (-1), 1) := by decide +kernel
theorem dK_ownPlace_6 : decode cK_ownPlace 6 = .ok (.goto 20, 3) := by decide +kernel
theorem dK_ownPlace_9 : decode cK_ownPlace 9 = .ok (.aload_n 0, 1) := by decide +kernel
theorem dK_ownPlace_10 : decode cK_ownPlace 10 = .ok (.getfield 19, 3) := by decide +kernel
theorem dK_ownPlace_13 : decode cK_ownPlace 13 = .ok (.aload_n 0, 1) := by decide +kernel
theorem dK_ownPlace_14 : decode cK_ownPlace 14 = .ok (.getfield 10, 3) := by decide +kernel
theorem dK_ownPlace_17 : decode cK_ownPlace 17 = .ok (.getfield 70, 3) := by decide +kernel
theorem dK_ownPlace_20 : decode cK_ownPlace 20 = .ok (.iload_n 1, 1) := by decide +kernel
theorem dK_ownPlace_21 : decode cK_ownPlace 21 = .ok (.iaload, 1) := by decide +kernel
theorem dK_ownPlace_22 : decode cK_ownPlace 22 = .ok (.iload_n 2, 1) := by decide +kernel
theorem dK_ownPlace_23 : decode cK_ownPlace 23 = .ok (.invokevirtual 72, 3) := by decide +kernel
theorem dK_ownPlace_26 : decode cK_ownPlace 26 = .ok (.ireturn, 1) := by decide +kernel
theorem dK_nearestWith_0 : decode cK_nearestWith 0 = .ok (.iload_n 1, 1) := by decide +kernel
theorem dK_nearestWith_1 : decode cK_nearestWith 1 = .ok (.istore_n 3, 1) := by decide +kernel
theorem dK_nearestWith_2 : decode cK_nearestWith 2 = .ok (.iconst 0, 1) := by decide +kernel
theorem dK_nearestWith_3 : decode cK_nearestWith 3 = .ok (.istore 4, 2) := by decide +kernel
theorem dK_nearestWith_5 : decode cK_nearestWith 5 = .ok (.iload_n 3, 1) := by decide +kernel
theorem dK_nearestWith_6 : decode cK_nearestWith 6 = .ok (.iconst (-1), 1) := by decide +kernel
theorem dK_nearestWith_7 : decode cK_nearestWith 7 = .ok (.if_icmp .eq 38, 3) := by decide +kernel
theorem dK_nearestWith_10 : decode cK_nearestWith 10 = .ok (.iload 4, 2) := by decide +kernel
theorem dK_nearestWith_12 : decode cK_nearestWith 12 = .ok (.bipush 60, 2) := by decide +kernel
theorem dK_nearestWith_14 : decode cK_nearestWith 14 = .ok (.if_icmp .ge 31, 3) := by decide +kernel
theorem dK_nearestWith_17 : decode cK_nearestWith 17 = .ok (.aload_n 0, 1) := by decide +kernel
theorem dK_nearestWith_18 : decode cK_nearestWith 18 = .ok (.iload_n 3, 1) := by decide +kernel
theorem dK_nearestWith_19 : decode cK_nearestWith 19 = .ok (.iload_n 2, 1) := by decide +kernel
theorem dK_nearestWith_20 : decode cK_nearestWith 20 = .ok (.invokevirtual 108, 3) := by decide +kernel
theorem dK_nearestWith_23 : decode cK_nearestWith 23 = .ok (.iconst (-1), 1) := by decide +kernel
theorem dK_nearestWith_24 : decode cK_nearestWith 24 = .ok (.if_icmp .eq 5, 3) := by decide +kernel
theorem dK_nearestWith_27 : decode cK_nearestWith 27 = .ok (.iload_n 3, 1) := by decide +kernel
theorem dK_nearestWith_28 : decode cK_nearestWith 28 = .ok (.ireturn, 1) := by decide +kernel
theorem dK_nearestWith_29 : decode cK_nearestWith 29 = .ok (.aload_n 0, 1) := by decide +kernel
theorem dK_nearestWith_30 : decode cK_nearestWith 30 = .ok (.getfield 10, 3) := by decide +kernel
theorem dK_nearestWith_33 : decode cK_nearestWith 33 = .ok (.getfield 93, 3) := by decide +kernel
theorem dK_nearestWith_36 : decode cK_nearestWith 36 = .ok (.iload_n 3, 1) := by decide +kernel
theorem dK_nearestWith_37 : decode cK_nearestWith 37 = .ok (.iaload, 1) := by decide +kernel
theorem dK_nearestWith_38 : decode cK_nearestWith 38 = .ok (.istore_n 3, 1) := by decide +kernel
theorem dK_nearestWith_39 : decode cK_nearestWith 39 = .ok (.iinc 4 1, 3) := by decide +kernel
theorem dK_nearestWith_42 : decode cK_nearestWith 42 = .ok (.goto (-37), 3) := by decide +kernel
theorem dK_nearestWith_45 : decode cK_nearestWith 45 = .ok (.iconst (-1), 1) := by decide +kernel
theorem dK_nearestWith_46 : decode cK_nearestWith 46 = .ok (.ireturn, 1) := by decide +kernel
end
section
theorem dL_object_0 : decode cL_object 0 = .ok (.aload_n 2, 1) := by decide +kernel
theorem dL_object_1 : decode cL_object 1 = .ok (.iconst 0, 1) := by decide +kernel
theorem dL_object_2 : decode cL_object 2 = .ok (.aload_n 0, 1) := by decide +kernel
theorem dL_object_3 : decode cL_object 3 = .ok (.iload_n 1, 1) := by decide +kernel
theorem dL_object_4 : decode cL_object 4 = .ok (.invokevirtual 7, 3) := by decide +kernel
theorem dL_object_7 : decode cL_object 7 = .ok (.i2l, 1) := by decide +kernel
theorem dL_object_8 : decode cL_object 8 = .ok (.lastore, 1) := by decide +kernel
theorem dL_object_9 : decode cL_object 9 = .ok (.goto 9, 3) := by decide +kernel
theorem dL_object_12 : decode cL_object 12 = .ok (.astore_n 3, 1) := by decide +kernel
theorem dL_object_13 : decode cL_object 13 = .ok (.iconst 1, 1) := by decide +kernel
theorem dL_object_14 : decode cL_object 14 = .ok (.ireturn, 1) := by decide +kernel
theorem dL_object_15 : decode cL_object 15 = .ok (.astore_n 3, 1) := by decide +kernel
theorem dL_object_16 : decode cL_object 16 = .ok (.iconst 2, 1) := by decide +kernel
theorem dL_object_17 : decode cL_object 17 = .ok (.ireturn, 1) := by decide +kernel
theorem dL_object_18 : decode cL_object 18 = .ok (.iconst 0, 1) := by decide +kernel
theorem dL_object_19 : decode cL_object 19 = .ok (.ireturn, 1) := by decide +kernel
theorem dL_read_0 : decode cL_read 0 = .ok (.aload_n 3, 1) := by decide +kernel
theorem dL_read_1 : decode cL_read 1 = .ok (.iconst 0, 1) := by decide +kernel
theorem dL_read_2 : decode cL_read 2 = .ok (.aload_n 0, 1) := by decide +kernel
theorem dL_read_3 : decode cL_read 3 = .ok (.iload_n 1, 1) := by decide +kernel
theorem dL_read_4 : decode cL_read 4 = .ok (.iload_n 2, 1) := by decide +kernel
theorem dL_read_5 : decode cL_read 5 = .ok (.invokevirtual 17, 3) := by decide +kernel
theorem dL_read_8 : decode cL_read 8 = .ok (.i2l, 1) := by decide +kernel
theorem dL_read_9 : decode cL_read 9 = .ok (.lastore, 1) := by decide +kernel
theorem dL_read_10 : decode cL_read 10 = .ok (.goto 11, 3) := by decide +kernel
theorem dL_read_13 : decode cL_read 13 = .ok (.astore 4, 2) := by decide +kernel
theorem dL_read_15 : decode cL_read 15 = .ok (.iconst 1, 1) := by decide +kernel
theorem dL_read_16 : decode cL_read 16 = .ok (.ireturn, 1) := by decide +kernel
theorem dL_read_17 : decode cL_read 17 = .ok (.astore 4, 2) := by decide +kernel
theorem dL_read_19 : decode cL_read 19 = .ok (.iconst 2, 1) := by decide +kernel
theorem dL_read_20 : decode cL_read 20 = .ok (.ireturn, 1) := by decide +kernel
theorem dL_read_21 : decode cL_read 21 = .ok (.iconst 0, 1) := by decide +kernel
theorem dL_read_22 : decode cL_read 22 = .ok (.ireturn, 1) := by decide +kernel
theorem dL_get_0 : decode cL_get 0 = .ok (.aload_n 3, 1) := by decide +kernel
theorem dL_get_1 : decode cL_get 1 = .ok (.iconst 0, 1) := by decide +kernel
theorem dL_get_2 : decode cL_get 2 = .ok (.aload_n 0, 1) := by decide +kernel
theorem dL_get_3 : decode cL_get 3 = .ok (.iload_n 1, 1) := by decide +kernel
theorem dL_get_4 : decode cL_get 4 = .ok (.iload_n 2, 1) := by decide +kernel
theorem dL_get_5 : decode cL_get 5 = .ok (.invokevirtual 23, 3) := by decide +kernel
theorem dL_get_8 : decode cL_get 8 = .ok (.i2l, 1) := by decide +kernel
theorem dL_get_9 : decode cL_get 9 = .ok (.lastore, 1) := by decide +kernel
theorem dL_get_10 : decode cL_get 10 = .ok (.goto 15, 3) := by decide +kernel
theorem dL_get_13 : decode cL_get 13 = .ok (.astore 4, 2) := by decide +kernel
theorem dL_get_15 : decode cL_get 15 = .ok (.iconst 1, 1) := by decide +kernel
theorem dL_get_16 : decode cL_get 16 = .ok (.ireturn, 1) := by decide +kernel
theorem dL_get_17 : decode cL_get 17 = .ok (.astore 4, 2) := by decide +kernel
theorem dL_get_19 : decode cL_get 19 = .ok (.iconst 2, 1) := by decide +kernel
theorem dL_get_20 : decode cL_get 20 = .ok (.ireturn, 1) := by decide +kernel
theorem dL_get_21 : decode cL_get 21 = .ok (.astore 4, 2) := by decide +kernel
theorem dL_get_23 : decode cL_get 23 = .ok (.iconst 3, 1) := by decide +kernel
theorem dL_get_24 : decode cL_get 24 = .ok (.ireturn, 1) := by decide +kernel
theorem dL_get_25 : decode cL_get 25 = .ok (.iconst 0, 1) := by decide +kernel
theorem dL_get_26 : decode cL_get 26 = .ok (.ireturn, 1) := by decide +kernel
theorem dL_law_0 : decode cL_law 0 = .ok (.new 8, 3) := by decide +kernel
theorem dL_law_3 : decode cL_law 3 = .ok (.dup, 1) := by decide +kernel
theorem dL_law_4 : decode cL_law 4 = .ok (.invokespecial 26, 3) := by decide +kernel
theorem dL_law_7 : decode cL_law 7 = .ok (.astore_n 1, 1) := by decide +kernel
theorem dL_law_8 : decode cL_law 8 = .ok (.new 27, 3) := by decide +kernel
theorem dL_law_11 : decode cL_law 11 = .ok (.dup, 1) := by decide +kernel
theorem dL_law_12 : decode cL_law 12 = .ok (.invokespecial 29, 3) := by decide +kernel
theorem dL_law_15 : decode cL_law 15 = .ok (.astore_n 2, 1) := by decide +kernel
theorem dL_law_16 : decode cL_law 16 = .ok (.iconst 1, 1) := by decide +kernel
theorem dL_law_17 : decode cL_law 17 = .ok (.newarray .long, 2) := by decide +kernel
theorem dL_law_19 : decode cL_law 19 = .ok (.astore_n 3, 1) := by decide +kernel
theorem dL_law_20 : decode cL_law 20 = .ok (.iconst 0, 1) := by decide +kernel
theorem dL_law_21 : decode cL_law 21 = .ok (.istore 4, 2) := by decide +kernel
theorem dL_law_23 : decode cL_law 23 = .ok (.iload 4, 2) := by decide +kernel
theorem dL_law_25 : decode cL_law 25 = .ok (.aload_n 0, 1) := by decide +kernel
theorem dL_law_26 : decode cL_law 26 = .ok (.arraylength, 1) := by decide +kernel
theorem dL_law_27 : decode cL_law 27 = .ok (.iconst 4, 1) := by decide +kernel
theorem dL_law_28 : decode cL_law 28 = .ok (.isub, 1) := by decide +kernel
theorem dL_law_29 : decode cL_law 29 = .ok (.if_icmp .gt 602, 3) := by decide +kernel
theorem dL_law_32 : decode cL_law 32 = .ok (.aload_n 0, 1) := by decide +kernel
theorem dL_law_33 : decode cL_law 33 = .ok (.iload 4, 2) := by decide +kernel
theorem dL_law_35 : decode cL_law 35 = .ok (.iaload, 1) := by decide +kernel
theorem dL_law_36 : decode cL_law 36 = .ok (.bipush 15, 2) := by decide +kernel
theorem dL_law_38 : decode cL_law 38 = .ok (.iand, 1) := by decide +kernel
theorem dL_law_39 : decode cL_law 39 = .ok (.tableswitch 586 0 11 #[61, 117, 166, 203, 240, 308, 345, 382, 450, 487, 524, 561], 61) := by decide +kernel
theorem dL_law_100 : decode cL_law 100 = .ok (.aload_n 1, 1) := by decide +kernel
theorem dL_law_101 : decode cL_law 101 = .ok (.aload_n 0, 1) := by decide +kernel
theorem dL_law_102 : decode cL_law 102 = .ok (.iload 4, 2) := by decide +kernel
theorem dL_law_104 : decode cL_law 104 = .ok (.iconst 1, 1) := by decide +kernel
theorem dL_law_105 : decode cL_law 105 = .ok (.iadd, 1) := by decide +kernel
theorem dL_law_106 : decode cL_law 106 = .ok (.iaload, 1) := by decide +kernel
theorem dL_law_107 : decode cL_law 107 = .ok (.aload_n 3, 1) := by decide +kernel
theorem dL_law_108 : decode cL_law 108 = .ok (.invokestatic 30, 3) := by decide +kernel
theorem dL_law_111 : decode cL_law 111 = .ok (.istore 5, 2) := by decide +kernel
theorem dL_law_113 : decode cL_law 113 = .ok (.aload_n 2, 1) := by decide +kernel
theorem dL_law_114 : decode cL_law 114 = .ok (.aload_n 0, 1) := by decide +kernel
theorem dL_law_115 : decode cL_law 115 = .ok (.iload 4, 2) := by decide +kernel
theorem dL_law_117 : decode cL_law 117 = .ok (.iconst 1, 1) := by decide +kernel
theorem dL_law_118 : decode cL_law 118 = .ok (.iadd, 1) := by decide +kernel
theorem dL_law_119 : decode cL_law 119 = .ok (.iaload, 1) := by decide +kernel
theorem dL_law_120 : decode cL_law 120 = .ok (.invokevirtual 35, 3) := by decide +kernel
theorem dL_law_123 : decode cL_law 123 = .ok (.istore 6, 2) := by decide +kernel
theorem dL_law_125 : decode cL_law 125 = .ok (.aload_n 2, 1) := by decide +kernel
theorem dL_law_126 : decode cL_law 126 = .ok (.invokevirtual 36, 3) := by decide +kernel
theorem dL_law_129 : decode cL_law 129 = .ok (.iload 5, 2) := by decide +kernel
theorem dL_law_131 : decode cL_law 131 = .ok (.if_icmp .eq 5, 3) := by decide +kernel
theorem dL_law_134 : decode cL_law 134 = .ok (.iconst 0, 1) := by decide +kernel
theorem dL_law_135 : decode cL_law 135 = .ok (.ireturn, 1) := by decide +kernel
theorem dL_law_136 : decode cL_law 136 = .ok (.iload 5, 2) := by decide +kernel
theorem dL_law_138 : decode cL_law 138 = .ok (.ifCond .ne 15, 3) := by decide +kernel
theorem dL_law_141 : decode cL_law 141 = .ok (.aload_n 3, 1) := by decide +kernel
theorem dL_law_142 : decode cL_law 142 = .ok (.iconst 0, 1) := by decide +kernel
theorem dL_law_143 : decode cL_law 143 = .ok (.laload, 1) := by decide +kernel
theorem dL_law_144 : decode cL_law 144 = .ok (.iload 6, 2) := by decide +kernel
theorem dL_law_146 : decode cL_law 146 = .ok (.i2l, 1) := by decide +kernel
theorem dL_law_147 : decode cL_law 147 = .ok (.lcmp, 1) := by decide +kernel
theorem dL_law_148 : decode cL_law 148 = .ok (.ifCond .eq 5, 3) := by decide +kernel
theorem dL_law_151 : decode cL_law 151 = .ok (.iconst 0, 1) := by decide +kernel
theorem dL_law_152 : decode cL_law 152 = .ok (.ireturn, 1) := by decide +kernel
theorem dL_law_153 : decode cL_law 153 = .ok (.goto 472, 3) := by decide +kernel
theorem dL_law_156 : decode cL_law 156 = .ok (.aload_n 1, 1) := by decide +kernel
theorem dL_law_157 : decode cL_law 157 = .ok (.aload_n 0, 1) := by decide +kernel
theorem dL_law_158 : decode cL_law 158 = .ok (.iload 4, 2) := by decide +kernel
theorem dL_law_160 : decode cL_law 160 = .ok (.iconst 1, 1) := by decide +kernel
theorem dL_law_161 : decode cL_law 161 = .ok (.iadd, 1) := by decide +kernel
theorem dL_law_162 : decode cL_law 162 = .ok (.iaload, 1) := by decide +kernel
theorem dL_law_163 : decode cL_law 163 = .ok (.aload_n 0, 1) := by decide +kernel
theorem dL_law_164 : decode cL_law 164 = .ok (.iload 4, 2) := by decide +kernel
theorem dL_law_166 : decode cL_law 166 = .ok (.iconst 2, 1) := by decide +kernel
theorem dL_law_167 : decode cL_law 167 = .ok (.iadd, 1) := by decide +kernel
theorem dL_law_168 : decode cL_law 168 = .ok (.iaload, 1) := by decide +kernel
theorem dL_law_169 : decode cL_law 169 = .ok (.aload_n 0, 1) := by decide +kernel
theorem dL_law_170 : decode cL_law 170 = .ok (.iload 4, 2) := by decide +kernel
theorem dL_law_172 : decode cL_law 172 = .ok (.iconst 3, 1) := by decide +kernel
theorem dL_law_173 : decode cL_law 173 = .ok (.iadd, 1) := by decide +kernel
theorem dL_law_174 : decode cL_law 174 = .ok (.iaload, 1) := by decide +kernel
theorem dL_law_175 : decode cL_law 175 = .ok (.invokevirtual 40, 3) := by decide +kernel
theorem dL_law_178 : decode cL_law 178 = .ok (.aload_n 2, 1) := by decide +kernel
theorem dL_law_179 : decode cL_law 179 = .ok (.aload_n 0, 1) := by decide +kernel
theorem dL_law_180 : decode cL_law 180 = .ok (.iload 4, 2) := by decide +kernel
theorem dL_law_182 : decode cL_law 182 = .ok (.iconst 1, 1) := by decide +kernel
theorem dL_law_183 : decode cL_law 183 = .ok (.iadd, 1) := by decide +kernel
theorem dL_law_184 : decode cL_law 184 = .ok (.iaload, 1) := by decide +kernel
theorem dL_law_185 : decode cL_law 185 = .ok (.aload_n 0, 1) := by decide +kernel
theorem dL_law_186 : decode cL_law 186 = .ok (.iload 4, 2) := by decide +kernel
theorem dL_law_188 : decode cL_law 188 = .ok (.iconst 2, 1) := by decide +kernel
theorem dL_law_189 : decode cL_law 189 = .ok (.iadd, 1) := by decide +kernel
theorem dL_law_190 : decode cL_law 190 = .ok (.iaload, 1) := by decide +kernel
theorem dL_law_191 : decode cL_law 191 = .ok (.aload_n 0, 1) := by decide +kernel
theorem dL_law_192 : decode cL_law 192 = .ok (.iload 4, 2) := by decide +kernel
theorem dL_law_194 : decode cL_law 194 = .ok (.iconst 3, 1) := by decide +kernel
theorem dL_law_195 : decode cL_law 195 = .ok (.iadd, 1) := by decide +kernel
theorem dL_law_196 : decode cL_law 196 = .ok (.iaload, 1) := by decide +kernel
theorem dL_law_197 : decode cL_law 197 = .ok (.invokevirtual 44, 3) := by decide +kernel
theorem dL_law_200 : decode cL_law 200 = .ok (.if_icmp .eq 425, 3) := by decide +kernel
theorem dL_law_203 : decode cL_law 203 = .ok (.iconst 0, 1) := by decide +kernel
theorem dL_law_204 : decode cL_law 204 = .ok (.ireturn, 1) := by decide +kernel
theorem dL_law_205 : decode cL_law 205 = .ok (.aload_n 1, 1) := by decide +kernel
theorem dL_law_206 : decode cL_law 206 = .ok (.aload_n 0, 1) := by decide +kernel
theorem dL_law_207 : decode cL_law 207 = .ok (.iload 4, 2) := by decide +kernel
theorem dL_law_209 : decode cL_law 209 = .ok (.iconst 1, 1) := by decide +kernel
theorem dL_law_210 : decode cL_law 210 = .ok (.iadd, 1) := by decide +kernel
theorem dL_law_211 : decode cL_law 211 = .ok (.iaload, 1) := by decide +kernel
theorem dL_law_212 : decode cL_law 212 = .ok (.aload_n 0, 1) := by decide +kernel
theorem dL_law_213 : decode cL_law 213 = .ok (.iload 4, 2) := by decide +kernel
theorem dL_law_215 : decode cL_law 215 = .ok (.iconst 2, 1) := by decide +kernel
theorem dL_law_216 : decode cL_law 216 = .ok (.iadd, 1) := by decide +kernel
theorem dL_law_217 : decode cL_law 217 = .ok (.iaload, 1) := by decide +kernel
theorem dL_law_218 : decode cL_law 218 = .ok (.invokevirtual 45, 3) := by decide +kernel
theorem dL_law_221 : decode cL_law 221 = .ok (.aload_n 2, 1) := by decide +kernel
theorem dL_law_222 : decode cL_law 222 = .ok (.aload_n 0, 1) := by decide +kernel
theorem dL_law_223 : decode cL_law 223 = .ok (.iload 4, 2) := by decide +kernel
theorem dL_law_225 : decode cL_law 225 = .ok (.iconst 1, 1) := by decide +kernel
theorem dL_law_226 : decode cL_law 226 = .ok (.iadd, 1) := by decide +kernel
theorem dL_law_227 : decode cL_law 227 = .ok (.iaload, 1) := by decide +kernel
theorem dL_law_228 : decode cL_law 228 = .ok (.aload_n 0, 1) := by decide +kernel
theorem dL_law_229 : decode cL_law 229 = .ok (.iload 4, 2) := by decide +kernel
theorem dL_law_231 : decode cL_law 231 = .ok (.iconst 2, 1) := by decide +kernel
theorem dL_law_232 : decode cL_law 232 = .ok (.iadd, 1) := by decide +kernel
theorem dL_law_233 : decode cL_law 233 = .ok (.iaload, 1) := by decide +kernel
theorem dL_law_234 : decode cL_law 234 = .ok (.invokevirtual 49, 3) := by decide +kernel
theorem dL_law_237 : decode cL_law 237 = .ok (.if_icmp .eq 388, 3) := by decide +kernel
theorem dL_law_240 : decode cL_law 240 = .ok (.iconst 0, 1) := by decide +kernel
theorem dL_law_241 : decode cL_law 241 = .ok (.ireturn, 1) := by decide +kernel
theorem dL_law_242 : decode cL_law 242 = .ok (.aload_n 1, 1) := by decide +kernel
theorem dL_law_243 : decode cL_law 243 = .ok (.aload_n 0, 1) := by decide +kernel
theorem dL_law_244 : decode cL_law 244 = .ok (.iload 4, 2) := by decide +kernel
theorem dL_law_246 : decode cL_law 246 = .ok (.iconst 1, 1) := by decide +kernel
theorem dL_law_247 : decode cL_law 247 = .ok (.iadd, 1) := by decide +kernel
theorem dL_law_248 : decode cL_law 248 = .ok (.iaload, 1) := by decide +kernel
theorem dL_law_249 : decode cL_law 249 = .ok (.aload_n 0, 1) := by decide +kernel
theorem dL_law_250 : decode cL_law 250 = .ok (.iload 4, 2) := by decide +kernel
theorem dL_law_252 : decode cL_law 252 = .ok (.iconst 2, 1) := by decide +kernel
theorem dL_law_253 : decode cL_law 253 = .ok (.iadd, 1) := by decide +kernel
theorem dL_law_254 : decode cL_law 254 = .ok (.iaload, 1) := by decide +kernel
theorem dL_law_255 : decode cL_law 255 = .ok (.invokevirtual 50, 3) := by decide +kernel
theorem dL_law_258 : decode cL_law 258 = .ok (.aload_n 2, 1) := by decide +kernel
theorem dL_law_259 : decode cL_law 259 = .ok (.aload_n 0, 1) := by decide +kernel
theorem dL_law_260 : decode cL_law 260 = .ok (.iload 4, 2) := by decide +kernel
theorem dL_law_262 : decode cL_law 262 = .ok (.iconst 1, 1) := by decide +kernel
theorem dL_law_263 : decode cL_law 263 = .ok (.iadd, 1) := by decide +kernel
theorem dL_law_264 : decode cL_law 264 = .ok (.iaload, 1) := by decide +kernel
theorem dL_law_265 : decode cL_law 265 = .ok (.aload_n 0, 1) := by decide +kernel
theorem dL_law_266 : decode cL_law 266 = .ok (.iload 4, 2) := by decide +kernel
theorem dL_law_268 : decode cL_law 268 = .ok (.iconst 2, 1) := by decide +kernel
theorem dL_law_269 : decode cL_law 269 = .ok (.iadd, 1) := by decide +kernel
theorem dL_law_270 : decode cL_law 270 = .ok (.iaload, 1) := by decide +kernel
theorem dL_law_271 : decode cL_law 271 = .ok (.invokevirtual 53, 3) := by decide +kernel
theorem dL_law_274 : decode cL_law 274 = .ok (.if_icmp .eq 351, 3) := by decide +kernel
theorem dL_law_277 : decode cL_law 277 = .ok (.iconst 0, 1) := by decide +kernel
theorem dL_law_278 : decode cL_law 278 = .ok (.ireturn, 1) := by decide +kernel
theorem dL_law_279 : decode cL_law 279 = .ok (.aload_n 1, 1) := by decide +kernel
theorem dL_law_280 : decode cL_law 280 = .ok (.aload_n 0, 1) := by decide +kernel
theorem dL_law_281 : decode cL_law 281 = .ok (.iload 4, 2) := by decide +kernel
theorem dL_law_283 : decode cL_law 283 = .ok (.iconst 1, 1) := by decide +kernel
theorem dL_law_284 : decode cL_law 284 = .ok (.iadd, 1) := by decide +kernel
theorem dL_law_285 : decode cL_law 285 = .ok (.iaload, 1) := by decide +kernel
theorem dL_law_286 : decode cL_law 286 = .ok (.aload_n 0, 1) := by decide +kernel
theorem dL_law_287 : decode cL_law 287 = .ok (.iload 4, 2) := by decide +kernel
theorem dL_law_289 : decode cL_law 289 = .ok (.iconst 2, 1) := by decide +kernel
theorem dL_law_290 : decode cL_law 290 = .ok (.iadd, 1) := by decide +kernel
theorem dL_law_291 : decode cL_law 291 = .ok (.iaload, 1) := by decide +kernel
theorem dL_law_292 : decode cL_law 292 = .ok (.aload_n 3, 1) := by decide +kernel
theorem dL_law_293 : decode cL_law 293 = .ok (.invokestatic 54, 3) := by decide +kernel
theorem dL_law_296 : decode cL_law 296 = .ok (.istore 5, 2) := by decide +kernel
theorem dL_law_298 : decode cL_law 298 = .ok (.aload_n 2, 1) := by decide +kernel
theorem dL_law_299 : decode cL_law 299 = .ok (.aload_n 0, 1) := by decide +kernel
theorem dL_law_300 : decode cL_law 300 = .ok (.iload 4, 2) := by decide +kernel
theorem dL_law_302 : decode cL_law 302 = .ok (.iconst 1, 1) := by decide +kernel
theorem dL_law_303 : decode cL_law 303 = .ok (.iadd, 1) := by decide +kernel
theorem dL_law_304 : decode cL_law 304 = .ok (.iaload, 1) := by decide +kernel
theorem dL_law_305 : decode cL_law 305 = .ok (.aload_n 0, 1) := by decide +kernel
theorem dL_law_306 : decode cL_law 306 = .ok (.iload 4, 2) := by decide +kernel
theorem dL_law_308 : decode cL_law 308 = .ok (.iconst 2, 1) := by decide +kernel
theorem dL_law_309 : decode cL_law 309 = .ok (.iadd, 1) := by decide +kernel
theorem dL_law_310 : decode cL_law 310 = .ok (.iaload, 1) := by decide +kernel
theorem dL_law_311 : decode cL_law 311 = .ok (.invokevirtual 57, 3) := by decide +kernel
theorem dL_law_314 : decode cL_law 314 = .ok (.istore 6, 2) := by decide +kernel
theorem dL_law_316 : decode cL_law 316 = .ok (.aload_n 2, 1) := by decide +kernel
theorem dL_law_317 : decode cL_law 317 = .ok (.invokevirtual 36, 3) := by decide +kernel
theorem dL_law_320 : decode cL_law 320 = .ok (.iload 5, 2) := by decide +kernel
theorem dL_law_322 : decode cL_law 322 = .ok (.if_icmp .eq 5, 3) := by decide +kernel
theorem dL_law_325 : decode cL_law 325 = .ok (.iconst 0, 1) := by decide +kernel
theorem dL_law_326 : decode cL_law 326 = .ok (.ireturn, 1) := by decide +kernel
theorem dL_law_327 : decode cL_law 327 = .ok (.iload 5, 2) := by decide +kernel
theorem dL_law_329 : decode cL_law 329 = .ok (.ifCond .ne 15, 3) := by decide +kernel
theorem dL_law_332 : decode cL_law 332 = .ok (.aload_n 3, 1) := by decide +kernel
theorem dL_law_333 : decode cL_law 333 = .ok (.iconst 0, 1) := by decide +kernel
theorem dL_law_334 : decode cL_law 334 = .ok (.laload, 1) := by decide +kernel
theorem dL_law_335 : decode cL_law 335 = .ok (.iload 6, 2) := by decide +kernel
theorem dL_law_337 : decode cL_law 337 = .ok (.i2l, 1) := by decide +kernel
theorem dL_law_338 : decode cL_law 338 = .ok (.lcmp, 1) := by decide +kernel
theorem dL_law_339 : decode cL_law 339 = .ok (.ifCond .eq 5, 3) := by decide +kernel
theorem dL_law_342 : decode cL_law 342 = .ok (.iconst 0, 1) := by decide +kernel
theorem dL_law_343 : decode cL_law 343 = .ok (.ireturn, 1) := by decide +kernel
theorem dL_law_344 : decode cL_law 344 = .ok (.goto 281, 3) := by decide +kernel
theorem dL_law_347 : decode cL_law 347 = .ok (.aload_n 1, 1) := by decide +kernel
theorem dL_law_348 : decode cL_law 348 = .ok (.aload_n 0, 1) := by decide +kernel
theorem dL_law_349 : decode cL_law 349 = .ok (.iload 4, 2) := by decide +kernel
theorem dL_law_351 : decode cL_law 351 = .ok (.iconst 1, 1) := by decide +kernel
theorem dL_law_352 : decode cL_law 352 = .ok (.iadd, 1) := by decide +kernel
theorem dL_law_353 : decode cL_law 353 = .ok (.iaload, 1) := by decide +kernel
theorem dL_law_354 : decode cL_law 354 = .ok (.aload_n 0, 1) := by decide +kernel
theorem dL_law_355 : decode cL_law 355 = .ok (.iload 4, 2) := by decide +kernel
theorem dL_law_357 : decode cL_law 357 = .ok (.iconst 2, 1) := by decide +kernel
theorem dL_law_358 : decode cL_law 358 = .ok (.iadd, 1) := by decide +kernel
theorem dL_law_359 : decode cL_law 359 = .ok (.iaload, 1) := by decide +kernel
theorem dL_law_360 : decode cL_law 360 = .ok (.invokevirtual 58, 3) := by decide +kernel
theorem dL_law_363 : decode cL_law 363 = .ok (.aload_n 2, 1) := by decide +kernel
theorem dL_law_364 : decode cL_law 364 = .ok (.aload_n 0, 1) := by decide +kernel
theorem dL_law_365 : decode cL_law 365 = .ok (.iload 4, 2) := by decide +kernel
theorem dL_law_367 : decode cL_law 367 = .ok (.iconst 1, 1) := by decide +kernel
theorem dL_law_368 : decode cL_law 368 = .ok (.iadd, 1) := by decide +kernel
theorem dL_law_369 : decode cL_law 369 = .ok (.iaload, 1) := by decide +kernel
theorem dL_law_370 : decode cL_law 370 = .ok (.aload_n 0, 1) := by decide +kernel
theorem dL_law_371 : decode cL_law 371 = .ok (.iload 4, 2) := by decide +kernel
theorem dL_law_373 : decode cL_law 373 = .ok (.iconst 2, 1) := by decide +kernel
theorem dL_law_374 : decode cL_law 374 = .ok (.iadd, 1) := by decide +kernel
theorem dL_law_375 : decode cL_law 375 = .ok (.iaload, 1) := by decide +kernel
theorem dL_law_376 : decode cL_law 376 = .ok (.invokevirtual 61, 3) := by decide +kernel
theorem dL_law_379 : decode cL_law 379 = .ok (.if_icmp .eq 246, 3) := by decide +kernel
theorem dL_law_382 : decode cL_law 382 = .ok (.iconst 0, 1) := by decide +kernel
theorem dL_law_383 : decode cL_law 383 = .ok (.ireturn, 1) := by decide +kernel
theorem dL_law_384 : decode cL_law 384 = .ok (.aload_n 1, 1) := by decide +kernel
theorem dL_law_385 : decode cL_law 385 = .ok (.aload_n 0, 1) := by decide +kernel
theorem dL_law_386 : decode cL_law 386 = .ok (.iload 4, 2) := by decide +kernel
theorem dL_law_388 : decode cL_law 388 = .ok (.iconst 1, 1) := by decide +kernel
theorem dL_law_389 : decode cL_law 389 = .ok (.iadd, 1) := by decide +kernel
theorem dL_law_390 : decode cL_law 390 = .ok (.iaload, 1) := by decide +kernel
theorem dL_law_391 : decode cL_law 391 = .ok (.aload_n 0, 1) := by decide +kernel
theorem dL_law_392 : decode cL_law 392 = .ok (.iload 4, 2) := by decide +kernel
theorem dL_law_394 : decode cL_law 394 = .ok (.iconst 2, 1) := by decide +kernel
theorem dL_law_395 : decode cL_law 395 = .ok (.iadd, 1) := by decide +kernel
theorem dL_law_396 : decode cL_law 396 = .ok (.iaload, 1) := by decide +kernel
theorem dL_law_397 : decode cL_law 397 = .ok (.invokevirtual 62, 3) := by decide +kernel
theorem dL_law_400 : decode cL_law 400 = .ok (.aload_n 2, 1) := by decide +kernel
theorem dL_law_401 : decode cL_law 401 = .ok (.aload_n 0, 1) := by decide +kernel
theorem dL_law_402 : decode cL_law 402 = .ok (.iload 4, 2) := by decide +kernel
theorem dL_law_404 : decode cL_law 404 = .ok (.iconst 1, 1) := by decide +kernel
theorem dL_law_405 : decode cL_law 405 = .ok (.iadd, 1) := by decide +kernel
theorem dL_law_406 : decode cL_law 406 = .ok (.iaload, 1) := by decide +kernel
theorem dL_law_407 : decode cL_law 407 = .ok (.aload_n 0, 1) := by decide +kernel
theorem dL_law_408 : decode cL_law 408 = .ok (.iload 4, 2) := by decide +kernel
theorem dL_law_410 : decode cL_law 410 = .ok (.iconst 2, 1) := by decide +kernel
theorem dL_law_411 : decode cL_law 411 = .ok (.iadd, 1) := by decide +kernel
theorem dL_law_412 : decode cL_law 412 = .ok (.iaload, 1) := by decide +kernel
theorem dL_law_413 : decode cL_law 413 = .ok (.invokevirtual 65, 3) := by decide +kernel
theorem dL_law_416 : decode cL_law 416 = .ok (.if_icmp .eq 209, 3) := by decide +kernel
theorem dL_law_419 : decode cL_law 419 = .ok (.iconst 0, 1) := by decide +kernel
theorem dL_law_420 : decode cL_law 420 = .ok (.ireturn, 1) := by decide +kernel
theorem dL_law_421 : decode cL_law 421 = .ok (.aload_n 1, 1) := by decide +kernel
theorem dL_law_422 : decode cL_law 422 = .ok (.aload_n 0, 1) := by decide +kernel
theorem dL_law_423 : decode cL_law 423 = .ok (.iload 4, 2) := by decide +kernel
theorem dL_law_425 : decode cL_law 425 = .ok (.iconst 1, 1) := by decide +kernel
theorem dL_law_426 : decode cL_law 426 = .ok (.iadd, 1) := by decide +kernel
theorem dL_law_427 : decode cL_law 427 = .ok (.iaload, 1) := by decide +kernel
theorem dL_law_428 : decode cL_law 428 = .ok (.aload_n 0, 1) := by decide +kernel
theorem dL_law_429 : decode cL_law 429 = .ok (.iload 4, 2) := by decide +kernel
theorem dL_law_431 : decode cL_law 431 = .ok (.iconst 2, 1) := by decide +kernel
theorem dL_law_432 : decode cL_law 432 = .ok (.iadd, 1) := by decide +kernel
theorem dL_law_433 : decode cL_law 433 = .ok (.iaload, 1) := by decide +kernel
theorem dL_law_434 : decode cL_law 434 = .ok (.aload_n 3, 1) := by decide +kernel
theorem dL_law_435 : decode cL_law 435 = .ok (.invokestatic 66, 3) := by decide +kernel
theorem dL_law_438 : decode cL_law 438 = .ok (.istore 5, 2) := by decide +kernel
theorem dL_law_440 : decode cL_law 440 = .ok (.aload_n 2, 1) := by decide +kernel
theorem dL_law_441 : decode cL_law 441 = .ok (.aload_n 0, 1) := by decide +kernel
theorem dL_law_442 : decode cL_law 442 = .ok (.iload 4, 2) := by decide +kernel
theorem dL_law_444 : decode cL_law 444 = .ok (.iconst 1, 1) := by decide +kernel
theorem dL_law_445 : decode cL_law 445 = .ok (.iadd, 1) := by decide +kernel
theorem dL_law_446 : decode cL_law 446 = .ok (.iaload, 1) := by decide +kernel
theorem dL_law_447 : decode cL_law 447 = .ok (.aload_n 0, 1) := by decide +kernel
theorem dL_law_448 : decode cL_law 448 = .ok (.iload 4, 2) := by decide +kernel
theorem dL_law_450 : decode cL_law 450 = .ok (.iconst 2, 1) := by decide +kernel
theorem dL_law_451 : decode cL_law 451 = .ok (.iadd, 1) := by decide +kernel
theorem dL_law_452 : decode cL_law 452 = .ok (.iaload, 1) := by decide +kernel
theorem dL_law_453 : decode cL_law 453 = .ok (.invokevirtual 68, 3) := by decide +kernel
theorem dL_law_456 : decode cL_law 456 = .ok (.istore 6, 2) := by decide +kernel
end
section
theorem dL_law_458 : decode cL_law 458 = .ok (.aload_n 2, 1) := by decide +kernel
theorem dL_law_459 : decode cL_law 459 = .ok (.invokevirtual 36, 3) := by decide +kernel
theorem dL_law_462 : decode cL_law 462 = .ok (.iload 5, 2) := by decide +kernel
theorem dL_law_464 : decode cL_law 464 = .ok (.if_icmp .eq 5, 3) := by decide +kernel
theorem dL_law_467 : decode cL_law 467 = .ok (.iconst 0, 1) := by decide +kernel
theorem dL_law_468 : decode cL_law 468 = .ok (.ireturn, 1) := by decide +kernel
theorem dL_law_469 : decode cL_law 469 = .ok (.iload 5, 2) := by decide +kernel
theorem dL_law_471 : decode cL_law 471 = .ok (.ifCond .ne 15, 3) := by decide +kernel
theorem dL_law_474 : decode cL_law 474 = .ok (.aload_n 3, 1) := by decide +kernel
theorem dL_law_475 : decode cL_law 475 = .ok (.iconst 0, 1) := by decide +kernel
theorem dL_law_476 : decode cL_law 476 = .ok (.laload, 1) := by decide +kernel
theorem dL_law_477 : decode cL_law 477 = .ok (.iload 6, 2) := by decide +kernel
theorem dL_law_479 : decode cL_law 479 = .ok (.i2l, 1) := by decide +kernel
theorem dL_law_480 : decode cL_law 480 = .ok (.lcmp, 1) := by decide +kernel
theorem dL_law_481 : decode cL_law 481 = .ok (.ifCond .eq 5, 3) := by decide +kernel
theorem dL_law_484 : decode cL_law 484 = .ok (.iconst 0, 1) := by decide +kernel
theorem dL_law_485 : decode cL_law 485 = .ok (.ireturn, 1) := by decide +kernel
theorem dL_law_486 : decode cL_law 486 = .ok (.goto 139, 3) := by decide +kernel
theorem dL_law_489 : decode cL_law 489 = .ok (.aload_n 1, 1) := by decide +kernel
theorem dL_law_490 : decode cL_law 490 = .ok (.aload_n 0, 1) := by decide +kernel
theorem dL_law_491 : decode cL_law 491 = .ok (.iload 4, 2) := by decide +kernel
theorem dL_law_493 : decode cL_law 493 = .ok (.iconst 1, 1) := by decide +kernel
theorem dL_law_494 : decode cL_law 494 = .ok (.iadd, 1) := by decide +kernel
theorem dL_law_495 : decode cL_law 495 = .ok (.iaload, 1) := by decide +kernel
theorem dL_law_496 : decode cL_law 496 = .ok (.aload_n 0, 1) := by decide +kernel
theorem dL_law_497 : decode cL_law 497 = .ok (.iload 4, 2) := by decide +kernel
theorem dL_law_499 : decode cL_law 499 = .ok (.iconst 2, 1) := by decide +kernel
theorem dL_law_500 : decode cL_law 500 = .ok (.iadd, 1) := by decide +kernel
theorem dL_law_501 : decode cL_law 501 = .ok (.iaload, 1) := by decide +kernel
theorem dL_law_502 : decode cL_law 502 = .ok (.invokevirtual 69, 3) := by decide +kernel
theorem dL_law_505 : decode cL_law 505 = .ok (.aload_n 2, 1) := by decide +kernel
theorem dL_law_506 : decode cL_law 506 = .ok (.aload_n 0, 1) := by decide +kernel
theorem dL_law_507 : decode cL_law 507 = .ok (.iload 4, 2) := by decide +kernel
theorem dL_law_509 : decode cL_law 509 = .ok (.iconst 1, 1) := by decide +kernel
theorem dL_law_510 : decode cL_law 510 = .ok (.iadd, 1) := by decide +kernel
theorem dL_law_511 : decode cL_law 511 = .ok (.iaload, 1) := by decide +kernel
theorem dL_law_512 : decode cL_law 512 = .ok (.aload_n 0, 1) := by decide +kernel
theorem dL_law_513 : decode cL_law 513 = .ok (.iload 4, 2) := by decide +kernel
theorem dL_law_515 : decode cL_law 515 = .ok (.iconst 2, 1) := by decide +kernel
theorem dL_law_516 : decode cL_law 516 = .ok (.iadd, 1) := by decide +kernel
theorem dL_law_517 : decode cL_law 517 = .ok (.iaload, 1) := by decide +kernel
theorem dL_law_518 : decode cL_law 518 = .ok (.invokevirtual 72, 3) := by decide +kernel
theorem dL_law_521 : decode cL_law 521 = .ok (.if_icmp .eq 104, 3) := by decide +kernel
theorem dL_law_524 : decode cL_law 524 = .ok (.iconst 0, 1) := by decide +kernel
theorem dL_law_525 : decode cL_law 525 = .ok (.ireturn, 1) := by decide +kernel
theorem dL_law_526 : decode cL_law 526 = .ok (.aload_n 1, 1) := by decide +kernel
theorem dL_law_527 : decode cL_law 527 = .ok (.aload_n 0, 1) := by decide +kernel
theorem dL_law_528 : decode cL_law 528 = .ok (.iload 4, 2) := by decide +kernel
theorem dL_law_530 : decode cL_law 530 = .ok (.iconst 1, 1) := by decide +kernel
theorem dL_law_531 : decode cL_law 531 = .ok (.iadd, 1) := by decide +kernel
theorem dL_law_532 : decode cL_law 532 = .ok (.iaload, 1) := by decide +kernel
theorem dL_law_533 : decode cL_law 533 = .ok (.aload_n 0, 1) := by decide +kernel
theorem dL_law_534 : decode cL_law 534 = .ok (.iload 4, 2) := by decide +kernel
theorem dL_law_536 : decode cL_law 536 = .ok (.iconst 2, 1) := by decide +kernel
theorem dL_law_537 : decode cL_law 537 = .ok (.iadd, 1) := by decide +kernel
theorem dL_law_538 : decode cL_law 538 = .ok (.iaload, 1) := by decide +kernel
theorem dL_law_539 : decode cL_law 539 = .ok (.invokevirtual 73, 3) := by decide +kernel
theorem dL_law_542 : decode cL_law 542 = .ok (.aload_n 2, 1) := by decide +kernel
theorem dL_law_543 : decode cL_law 543 = .ok (.aload_n 0, 1) := by decide +kernel
theorem dL_law_544 : decode cL_law 544 = .ok (.iload 4, 2) := by decide +kernel
theorem dL_law_546 : decode cL_law 546 = .ok (.iconst 1, 1) := by decide +kernel
theorem dL_law_547 : decode cL_law 547 = .ok (.iadd, 1) := by decide +kernel
theorem dL_law_548 : decode cL_law 548 = .ok (.iaload, 1) := by decide +kernel
theorem dL_law_549 : decode cL_law 549 = .ok (.aload_n 0, 1) := by decide +kernel
theorem dL_law_550 : decode cL_law 550 = .ok (.iload 4, 2) := by decide +kernel
theorem dL_law_552 : decode cL_law 552 = .ok (.iconst 2, 1) := by decide +kernel
theorem dL_law_553 : decode cL_law 553 = .ok (.iadd, 1) := by decide +kernel
theorem dL_law_554 : decode cL_law 554 = .ok (.iaload, 1) := by decide +kernel
theorem dL_law_555 : decode cL_law 555 = .ok (.invokevirtual 76, 3) := by decide +kernel
theorem dL_law_558 : decode cL_law 558 = .ok (.if_icmp .eq 67, 3) := by decide +kernel
theorem dL_law_561 : decode cL_law 561 = .ok (.iconst 0, 1) := by decide +kernel
theorem dL_law_562 : decode cL_law 562 = .ok (.ireturn, 1) := by decide +kernel
theorem dL_law_563 : decode cL_law 563 = .ok (.aload_n 1, 1) := by decide +kernel
theorem dL_law_564 : decode cL_law 564 = .ok (.aload_n 0, 1) := by decide +kernel
theorem dL_law_565 : decode cL_law 565 = .ok (.iload 4, 2) := by decide +kernel
theorem dL_law_567 : decode cL_law 567 = .ok (.iconst 1, 1) := by decide +kernel
theorem dL_law_568 : decode cL_law 568 = .ok (.iadd, 1) := by decide +kernel
theorem dL_law_569 : decode cL_law 569 = .ok (.iaload, 1) := by decide +kernel
theorem dL_law_570 : decode cL_law 570 = .ok (.aload_n 0, 1) := by decide +kernel
theorem dL_law_571 : decode cL_law 571 = .ok (.iload 4, 2) := by decide +kernel
theorem dL_law_573 : decode cL_law 573 = .ok (.iconst 2, 1) := by decide +kernel
theorem dL_law_574 : decode cL_law 574 = .ok (.iadd, 1) := by decide +kernel
theorem dL_law_575 : decode cL_law 575 = .ok (.iaload, 1) := by decide +kernel
theorem dL_law_576 : decode cL_law 576 = .ok (.invokevirtual 77, 3) := by decide +kernel
theorem dL_law_579 : decode cL_law 579 = .ok (.aload_n 2, 1) := by decide +kernel
theorem dL_law_580 : decode cL_law 580 = .ok (.aload_n 0, 1) := by decide +kernel
theorem dL_law_581 : decode cL_law 581 = .ok (.iload 4, 2) := by decide +kernel
theorem dL_law_583 : decode cL_law 583 = .ok (.iconst 1, 1) := by decide +kernel
theorem dL_law_584 : decode cL_law 584 = .ok (.iadd, 1) := by decide +kernel
theorem dL_law_585 : decode cL_law 585 = .ok (.iaload, 1) := by decide +kernel
theorem dL_law_586 : decode cL_law 586 = .ok (.aload_n 0, 1) := by decide +kernel
theorem dL_law_587 : decode cL_law 587 = .ok (.iload 4, 2) := by decide +kernel
theorem dL_law_589 : decode cL_law 589 = .ok (.iconst 2, 1) := by decide +kernel
theorem dL_law_590 : decode cL_law 590 = .ok (.iadd, 1) := by decide +kernel
theorem dL_law_591 : decode cL_law 591 = .ok (.iaload, 1) := by decide +kernel
theorem dL_law_592 : decode cL_law 592 = .ok (.invokevirtual 80, 3) := by decide +kernel
theorem dL_law_595 : decode cL_law 595 = .ok (.if_icmp .eq 30, 3) := by decide +kernel
theorem dL_law_598 : decode cL_law 598 = .ok (.iconst 0, 1) := by decide +kernel
theorem dL_law_599 : decode cL_law 599 = .ok (.ireturn, 1) := by decide +kernel
theorem dL_law_600 : decode cL_law 600 = .ok (.aload_n 1, 1) := by decide +kernel
theorem dL_law_601 : decode cL_law 601 = .ok (.aload_n 0, 1) := by decide +kernel
theorem dL_law_602 : decode cL_law 602 = .ok (.iload 4, 2) := by decide +kernel
theorem dL_law_604 : decode cL_law 604 = .ok (.iconst 1, 1) := by decide +kernel
theorem dL_law_605 : decode cL_law 605 = .ok (.iadd, 1) := by decide +kernel
theorem dL_law_606 : decode cL_law 606 = .ok (.iaload, 1) := by decide +kernel
theorem dL_law_607 : decode cL_law 607 = .ok (.invokevirtual 81, 3) := by decide +kernel
theorem dL_law_610 : decode cL_law 610 = .ok (.aload_n 2, 1) := by decide +kernel
theorem dL_law_611 : decode cL_law 611 = .ok (.aload_n 0, 1) := by decide +kernel
theorem dL_law_612 : decode cL_law 612 = .ok (.iload 4, 2) := by decide +kernel
theorem dL_law_614 : decode cL_law 614 = .ok (.iconst 1, 1) := by decide +kernel
theorem dL_law_615 : decode cL_law 615 = .ok (.iadd, 1) := by decide +kernel
theorem dL_law_616 : decode cL_law 616 = .ok (.iaload, 1) := by decide +kernel
theorem dL_law_617 : decode cL_law 617 = .ok (.invokevirtual 84, 3) := by decide +kernel
theorem dL_law_620 : decode cL_law 620 = .ok (.if_icmp .eq 5, 3) := by decide +kernel
theorem dL_law_623 : decode cL_law 623 = .ok (.iconst 0, 1) := by decide +kernel
theorem dL_law_624 : decode cL_law 624 = .ok (.ireturn, 1) := by decide +kernel
theorem dL_law_625 : decode cL_law 625 = .ok (.iinc 4 4, 3) := by decide +kernel
theorem dL_law_628 : decode cL_law 628 = .ok (.goto (-605), 3) := by decide +kernel
theorem dL_law_631 : decode cL_law 631 = .ok (.iconst 1, 1) := by decide +kernel
theorem dL_law_632 : decode cL_law 632 = .ok (.ireturn, 1) := by decide +kernel
end
section
theorem dM_init_0 : decode cM_init 0 = .ok (.aload_n 0, 1) := by decide +kernel
theorem dM_init_1 : decode cM_init 1 = .ok (.invokespecial 1, 3) := by decide +kernel
theorem dM_init_4 : decode cM_init 4 = .ok (.aload_n 0, 1) := by decide +kernel
theorem dM_init_5 : decode cM_init 5 = .ok (.bipush 60, 2) := by decide +kernel
theorem dM_init_7 : decode cM_init 7 = .ok (.newarray .int, 2) := by decide +kernel
theorem dM_init_9 : decode cM_init 9 = .ok (.putfield 7, 3) := by decide +kernel
theorem dM_init_12 : decode cM_init 12 = .ok (.aload_n 0, 1) := by decide +kernel
theorem dM_init_13 : decode cM_init 13 = .ok (.bipush 60, 2) := by decide +kernel
theorem dM_init_15 : decode cM_init 15 = .ok (.newarray .int, 2) := by decide +kernel
theorem dM_init_17 : decode cM_init 17 = .ok (.putfield 13, 3) := by decide +kernel
theorem dM_init_20 : decode cM_init 20 = .ok (.aload_n 0, 1) := by decide +kernel
theorem dM_init_21 : decode cM_init 21 = .ok (.sipush 720, 3) := by decide +kernel
theorem dM_init_24 : decode cM_init 24 = .ok (.newarray .int, 2) := by decide +kernel
theorem dM_init_26 : decode cM_init 26 = .ok (.putfield 16, 3) := by decide +kernel
theorem dM_init_29 : decode cM_init 29 = .ok (.aload_n 0, 1) := by decide +kernel
theorem dM_init_30 : decode cM_init 30 = .ok (.iconst 1, 1) := by decide +kernel
theorem dM_init_31 : decode cM_init 31 = .ok (.putfield 19, 3) := by decide +kernel
theorem dM_init_34 : decode cM_init 34 = .ok (.aload_n 0, 1) := by decide +kernel
theorem dM_init_35 : decode cM_init 35 = .ok (.sipush 200, 3) := by decide +kernel
theorem dM_init_38 : decode cM_init 38 = .ok (.newarray .int, 2) := by decide +kernel
theorem dM_init_40 : decode cM_init 40 = .ok (.putfield 23, 3) := by decide +kernel
theorem dM_init_43 : decode cM_init 43 = .ok (.aload_n 0, 1) := by decide +kernel
theorem dM_init_44 : decode cM_init 44 = .ok (.sipush 200, 3) := by decide +kernel
theorem dM_init_47 : decode cM_init 47 = .ok (.newarray .int, 2) := by decide +kernel
theorem dM_init_49 : decode cM_init 49 = .ok (.putfield 26, 3) := by decide +kernel
theorem dM_init_52 : decode cM_init 52 = .ok (.aload_n 0, 1) := by decide +kernel
theorem dM_init_53 : decode cM_init 53 = .ok (.sipush 200, 3) := by decide +kernel
theorem dM_init_56 : decode cM_init 56 = .ok (.newarray .int, 2) := by decide +kernel
theorem dM_init_58 : decode cM_init 58 = .ok (.putfield 29, 3) := by decide +kernel
theorem dM_init_61 : decode cM_init 61 = .ok (.aload_n 0, 1) := by decide +kernel
theorem dM_init_62 : decode cM_init 62 = .ok (.sipush 2400, 3) := by decide +kernel
theorem dM_init_65 : decode cM_init 65 = .ok (.newarray .int, 2) := by decide +kernel
theorem dM_init_67 : decode cM_init 67 = .ok (.putfield 32, 3) := by decide +kernel
theorem dM_init_70 : decode cM_init 70 = .ok (.aload_n 0, 1) := by decide +kernel
theorem dM_init_71 : decode cM_init 71 = .ok (.bipush 100, 2) := by decide +kernel
theorem dM_init_73 : decode cM_init 73 = .ok (.newarray .int, 2) := by decide +kernel
theorem dM_init_75 : decode cM_init 75 = .ok (.putfield 35, 3) := by decide +kernel
theorem dM_init_78 : decode cM_init 78 = .ok (.aload_n 0, 1) := by decide +kernel
theorem dM_init_79 : decode cM_init 79 = .ok (.bipush 100, 2) := by decide +kernel
theorem dM_init_81 : decode cM_init 81 = .ok (.newarray .int, 2) := by decide +kernel
theorem dM_init_83 : decode cM_init 83 = .ok (.putfield 38, 3) := by decide +kernel
theorem dM_init_86 : decode cM_init 86 = .ok (.aload_n 0, 1) := by decide +kernel
theorem dM_init_87 : decode cM_init 87 = .ok (.bipush 100, 2) := by decide +kernel
theorem dM_init_89 : decode cM_init 89 = .ok (.newarray .int, 2) := by decide +kernel
theorem dM_init_91 : decode cM_init 91 = .ok (.putfield 41, 3) := by decide +kernel
theorem dM_init_94 : decode cM_init 94 = .ok (.aload_n 0, 1) := by decide +kernel
theorem dM_init_95 : decode cM_init 95 = .ok (.bipush 100, 2) := by decide +kernel
theorem dM_init_97 : decode cM_init 97 = .ok (.newarray .int, 2) := by decide +kernel
theorem dM_init_99 : decode cM_init 99 = .ok (.putfield 44, 3) := by decide +kernel
theorem dM_init_102 : decode cM_init 102 = .ok (.aload_n 0, 1) := by decide +kernel
theorem dM_init_103 : decode cM_init 103 = .ok (.bipush 100, 2) := by decide +kernel
theorem dM_init_105 : decode cM_init 105 = .ok (.newarray .int, 2) := by decide +kernel
theorem dM_init_107 : decode cM_init 107 = .ok (.putfield 47, 3) := by decide +kernel
theorem dM_init_110 : decode cM_init 110 = .ok (.aload_n 0, 1) := by decide +kernel
theorem dM_init_111 : decode cM_init 111 = .ok (.bipush 100, 2) := by decide +kernel
theorem dM_init_113 : decode cM_init 113 = .ok (.newarray .int, 2) := by decide +kernel
theorem dM_init_115 : decode cM_init 115 = .ok (.putfield 50, 3) := by decide +kernel
theorem dM_init_118 : decode cM_init 118 = .ok (.aload_n 0, 1) := by decide +kernel
theorem dM_init_119 : decode cM_init 119 = .ok (.sipush 6000, 3) := by decide +kernel
theorem dM_init_122 : decode cM_init 122 = .ok (.newarray .int, 2) := by decide +kernel
theorem dM_init_124 : decode cM_init 124 = .ok (.putfield 53, 3) := by decide +kernel
theorem dM_init_127 : decode cM_init 127 = .ok (.aload_n 0, 1) := by decide +kernel
theorem dM_init_128 : decode cM_init 128 = .ok (.sipush 6000, 3) := by decide +kernel
theorem dM_init_131 : decode cM_init 131 = .ok (.newarray .int, 2) := by decide +kernel
theorem dM_init_133 : decode cM_init 133 = .ok (.putfield 56, 3) := by decide +kernel
theorem dM_init_136 : decode cM_init 136 = .ok (.aload_n 0, 1) := by decide +kernel
theorem dM_init_137 : decode cM_init 137 = .ok (.bipush 12, 2) := by decide +kernel
theorem dM_init_139 : decode cM_init 139 = .ok (.newarray .int, 2) := by decide +kernel
theorem dM_init_141 : decode cM_init 141 = .ok (.putfield 59, 3) := by decide +kernel
theorem dM_init_144 : decode cM_init 144 = .ok (.aload_n 0, 1) := by decide +kernel
theorem dM_init_145 : decode cM_init 145 = .ok (.getfield 23, 3) := by decide +kernel
theorem dM_init_148 : decode cM_init 148 = .ok (.iconst 0, 1) := by decide +kernel
theorem dM_init_149 : decode cM_init 149 = .ok (.iconst (-1), 1) := by decide +kernel
theorem dM_init_150 : decode cM_init 150 = .ok (.iastore, 1) := by decide +kernel
theorem dM_init_151 : decode cM_init 151 = .ok (.aload_n 0, 1) := by decide +kernel
theorem dM_init_152 : decode cM_init 152 = .ok (.getfield 26, 3) := by decide +kernel
theorem dM_init_155 : decode cM_init 155 = .ok (.iconst 0, 1) := by decide +kernel
theorem dM_init_156 : decode cM_init 156 = .ok (.iconst (-1), 1) := by decide +kernel
theorem dM_init_157 : decode cM_init 157 = .ok (.iastore, 1) := by decide +kernel
theorem dM_init_158 : decode cM_init 158 = .ok (.return_, 1) := by decide +kernel
theorem dM_thrown_0 : decode cM_thrown 0 = .ok (.aload_n 0, 1) := by decide +kernel
theorem dM_thrown_1 : decode cM_thrown 1 = .ok (.getfield 62, 3) := by decide +kernel
theorem dM_thrown_4 : decode cM_thrown 4 = .ok (.ireturn, 1) := by decide +kernel
theorem dM_isObject_0 : decode cM_isObject 0 = .ok (.iload_n 1, 1) := by decide +kernel
theorem dM_isObject_1 : decode cM_isObject 1 = .ok (.ifCond .lt 15, 3) := by decide +kernel
theorem dM_isObject_4 : decode cM_isObject 4 = .ok (.iload_n 1, 1) := by decide +kernel
theorem dM_isObject_5 : decode cM_isObject 5 = .ok (.aload_n 0, 1) := by decide +kernel
theorem dM_isObject_6 : decode cM_isObject 6 = .ok (.getfield 65, 3) := by decide +kernel
theorem dM_isObject_9 : decode cM_isObject 9 = .ok (.if_icmp .ge 7, 3) := by decide +kernel
theorem dM_isObject_12 : decode cM_isObject 12 = .ok (.iconst 1, 1) := by decide +kernel
theorem dM_isObject_13 : decode cM_isObject 13 = .ok (.goto 4, 3) := by decide +kernel
theorem dM_isObject_16 : decode cM_isObject 16 = .ok (.iconst 0, 1) := by decide +kernel
theorem dM_isObject_17 : decode cM_isObject 17 = .ok (.ireturn, 1) := by decide +kernel
theorem dM_above_0 : decode cM_above 0 = .ok (.aload_n 0, 1) := by decide +kernel
theorem dM_above_1 : decode cM_above 1 = .ok (.getfield 23, 3) := by decide +kernel
theorem dM_above_4 : decode cM_above 4 = .ok (.aload_n 0, 1) := by decide +kernel
theorem dM_above_5 : decode cM_above 5 = .ok (.getfield 7, 3) := by decide +kernel
theorem dM_above_8 : decode cM_above 8 = .ok (.iload_n 1, 1) := by decide +kernel
theorem dM_above_9 : decode cM_above 9 = .ok (.iaload, 1) := by decide +kernel
theorem dM_above_10 : decode cM_above 10 = .ok (.iaload, 1) := by decide +kernel
theorem dM_above_11 : decode cM_above 11 = .ok (.ireturn, 1) := by decide +kernel
theorem dM_empty_0 : decode cM_empty 0 = .ok (.iconst 0, 1) := by decide +kernel
theorem dM_empty_1 : decode cM_empty 1 = .ok (.istore_n 2, 1) := by decide +kernel
theorem dM_empty_2 : decode cM_empty 2 = .ok (.iload_n 2, 1) := by decide +kernel
theorem dM_empty_3 : decode cM_empty 3 = .ok (.aload_n 0, 1) := by decide +kernel
theorem dM_empty_4 : decode cM_empty 4 = .ok (.getfield 19, 3) := by decide +kernel
theorem dM_empty_7 : decode cM_empty 7 = .ok (.if_icmp .ge 31, 3) := by decide +kernel
theorem dM_empty_10 : decode cM_empty 10 = .ok (.aload_n 0, 1) := by decide +kernel
theorem dM_empty_11 : decode cM_empty 11 = .ok (.getfield 26, 3) := by decide +kernel
theorem dM_empty_14 : decode cM_empty 14 = .ok (.iload_n 2, 1) := by decide +kernel
theorem dM_empty_15 : decode cM_empty 15 = .ok (.iaload, 1) := by decide +kernel
theorem dM_empty_16 : decode cM_empty 16 = .ok (.iconst (-1), 1) := by decide +kernel
theorem dM_empty_17 : decode cM_empty 17 = .ok (.if_icmp .ne 15, 3) := by decide +kernel
theorem dM_empty_20 : decode cM_empty 20 = .ok (.aload_n 0, 1) := by decide +kernel
theorem dM_empty_21 : decode cM_empty 21 = .ok (.getfield 23, 3) := by decide +kernel
theorem dM_empty_24 : decode cM_empty 24 = .ok (.iload_n 2, 1) := by decide +kernel
theorem dM_empty_25 : decode cM_empty 25 = .ok (.iaload, 1) := by decide +kernel
theorem dM_empty_26 : decode cM_empty 26 = .ok (.iload_n 1, 1) := by decide +kernel
theorem dM_empty_27 : decode cM_empty 27 = .ok (.if_icmp .ne 5, 3) := by decide +kernel
theorem dM_empty_30 : decode cM_empty 30 = .ok (.iload_n 2, 1) := by decide +kernel
theorem dM_empty_31 : decode cM_empty 31 = .ok (.ireturn, 1) := by decide +kernel
theorem dM_empty_32 : decode cM_empty 32 = .ok (.iinc 2 1, 3) := by decide +kernel
theorem dM_empty_35 : decode cM_empty 35 = .ok (.goto (-33), 3) := by decide +kernel
theorem dM_empty_38 : decode cM_empty 38 = .ok (.iconst (-1), 1) := by decide +kernel
theorem dM_empty_39 : decode cM_empty 39 = .ok (.ireturn, 1) := by decide +kernel
theorem dM_child_0 : decode cM_child 0 = .ok (.iconst 0, 1) := by decide +kernel
theorem dM_child_1 : decode cM_child 1 = .ok (.istore_n 3, 1) := by decide +kernel
theorem dM_child_2 : decode cM_child 2 = .ok (.iload_n 3, 1) := by decide +kernel
theorem dM_child_3 : decode cM_child 3 = .ok (.aload_n 0, 1) := by decide +kernel
theorem dM_child_4 : decode cM_child 4 = .ok (.getfield 19, 3) := by decide +kernel
theorem dM_child_7 : decode cM_child 7 = .ok (.if_icmp .ge 43, 3) := by decide +kernel
theorem dM_child_10 : decode cM_child 10 = .ok (.aload_n 0, 1) := by decide +kernel
theorem dM_child_11 : decode cM_child 11 = .ok (.getfield 26, 3) := by decide +kernel
theorem dM_child_14 : decode cM_child 14 = .ok (.iload_n 3, 1) := by decide +kernel
theorem dM_child_15 : decode cM_child 15 = .ok (.iaload, 1) := by decide +kernel
theorem dM_child_16 : decode cM_child 16 = .ok (.iload_n 1, 1) := by decide +kernel
theorem dM_child_17 : decode cM_child 17 = .ok (.if_icmp .ne 27, 3) := by decide +kernel
theorem dM_child_20 : decode cM_child 20 = .ok (.aload_n 0, 1) := by decide +kernel
theorem dM_child_21 : decode cM_child 21 = .ok (.getfield 32, 3) := by decide +kernel
theorem dM_child_24 : decode cM_child 24 = .ok (.bipush 12, 2) := by decide +kernel
theorem dM_child_26 : decode cM_child 26 = .ok (.iload_n 3, 1) := by decide +kernel
theorem dM_child_27 : decode cM_child 27 = .ok (.imul, 1) := by decide +kernel
theorem dM_child_28 : decode cM_child 28 = .ok (.aload_n 0, 1) := by decide +kernel
theorem dM_child_29 : decode cM_child 29 = .ok (.getfield 29, 3) := by decide +kernel
theorem dM_child_32 : decode cM_child 32 = .ok (.iload_n 3, 1) := by decide +kernel
theorem dM_child_33 : decode cM_child 33 = .ok (.iaload, 1) := by decide +kernel
theorem dM_child_34 : decode cM_child 34 = .ok (.iadd, 1) := by decide +kernel
theorem dM_child_35 : decode cM_child 35 = .ok (.iconst 1, 1) := by decide +kernel
theorem dM_child_36 : decode cM_child 36 = .ok (.isub, 1) := by decide +kernel
theorem dM_child_37 : decode cM_child 37 = .ok (.iaload, 1) := by decide +kernel
theorem dM_child_38 : decode cM_child 38 = .ok (.iload_n 2, 1) := by decide +kernel
theorem dM_child_39 : decode cM_child 39 = .ok (.if_icmp .ne 5, 3) := by decide +kernel
theorem dM_child_42 : decode cM_child 42 = .ok (.iload_n 3, 1) := by decide +kernel
theorem dM_child_43 : decode cM_child 43 = .ok (.ireturn, 1) := by decide +kernel
theorem dM_child_44 : decode cM_child 44 = .ok (.iinc 3 1, 3) := by decide +kernel
theorem dM_child_47 : decode cM_child 47 = .ok (.goto (-45), 3) := by decide +kernel
theorem dM_child_50 : decode cM_child 50 = .ok (.iconst (-1), 1) := by decide +kernel
theorem dM_child_51 : decode cM_child 51 = .ok (.ireturn, 1) := by decide +kernel
theorem dM_makeEmpty_0 : decode cM_makeEmpty 0 = .ok (.aload_n 0, 1) := by decide +kernel
theorem dM_makeEmpty_1 : decode cM_makeEmpty 1 = .ok (.getfield 19, 3) := by decide +kernel
theorem dM_makeEmpty_4 : decode cM_makeEmpty 4 = .ok (.istore_n 2, 1) := by decide +kernel
theorem dM_makeEmpty_5 : decode cM_makeEmpty 5 = .ok (.aload_n 0, 1) := by decide +kernel
theorem dM_makeEmpty_6 : decode cM_makeEmpty 6 = .ok (.getfield 23, 3) := by decide +kernel
theorem dM_makeEmpty_9 : decode cM_makeEmpty 9 = .ok (.iload_n 2, 1) := by decide +kernel
theorem dM_makeEmpty_10 : decode cM_makeEmpty 10 = .ok (.iload_n 1, 1) := by decide +kernel
theorem dM_makeEmpty_11 : decode cM_makeEmpty 11 = .ok (.iastore, 1) := by decide +kernel
theorem dM_makeEmpty_12 : decode cM_makeEmpty 12 = .ok (.aload_n 0, 1) := by decide +kernel
theorem dM_makeEmpty_13 : decode cM_makeEmpty 13 = .ok (.getfield 26, 3) := by decide +kernel
theorem dM_makeEmpty_16 : decode cM_makeEmpty 16 = .ok (.iload_n 2, 1) := by decide +kernel
theorem dM_makeEmpty_17 : decode cM_makeEmpty 17 = .ok (.iconst (-1), 1) := by decide +kernel
theorem dM_makeEmpty_18 : decode cM_makeEmpty 18 = .ok (.iastore, 1) := by decide +kernel
theorem dM_makeEmpty_19 : decode cM_makeEmpty 19 = .ok (.aload_n 0, 1) := by decide +kernel
theorem dM_makeEmpty_20 : decode cM_makeEmpty 20 = .ok (.getfield 29, 3) := by decide +kernel
theorem dM_makeEmpty_23 : decode cM_makeEmpty 23 = .ok (.iload_n 2, 1) := by decide +kernel
theorem dM_makeEmpty_24 : decode cM_makeEmpty 24 = .ok (.iconst 0, 1) := by decide +kernel
theorem dM_makeEmpty_25 : decode cM_makeEmpty 25 = .ok (.iastore, 1) := by decide +kernel
theorem dM_makeEmpty_26 : decode cM_makeEmpty 26 = .ok (.aload_n 0, 1) := by decide +kernel
theorem dM_makeEmpty_27 : decode cM_makeEmpty 27 = .ok (.dup, 1) := by decide +kernel
theorem dM_makeEmpty_28 : decode cM_makeEmpty 28 = .ok (.getfield 19, 3) := by decide +kernel
theorem dM_makeEmpty_31 : decode cM_makeEmpty 31 = .ok (.iconst 1, 1) := by decide +kernel
theorem dM_makeEmpty_32 : decode cM_makeEmpty 32 = .ok (.iadd, 1) := by decide +kernel
theorem dM_makeEmpty_33 : decode cM_makeEmpty 33 = .ok (.putfield 19, 3) := by decide +kernel
theorem dM_makeEmpty_36 : decode cM_makeEmpty 36 = .ok (.iload_n 2, 1) := by decide +kernel
theorem dM_makeEmpty_37 : decode cM_makeEmpty 37 = .ok (.ireturn, 1) := by decide +kernel
theorem dM_makeChild_0 : decode cM_makeChild 0 = .ok (.aload_n 0, 1) := by decide +kernel
theorem dM_makeChild_1 : decode cM_makeChild 1 = .ok (.getfield 19, 3) := by decide +kernel
theorem dM_makeChild_4 : decode cM_makeChild 4 = .ok (.istore_n 3, 1) := by decide +kernel
theorem dM_makeChild_5 : decode cM_makeChild 5 = .ok (.aload_n 0, 1) := by decide +kernel
theorem dM_makeChild_6 : decode cM_makeChild 6 = .ok (.getfield 23, 3) := by decide +kernel
theorem dM_makeChild_9 : decode cM_makeChild 9 = .ok (.iload_n 3, 1) := by decide +kernel
theorem dM_makeChild_10 : decode cM_makeChild 10 = .ok (.aload_n 0, 1) := by decide +kernel
theorem dM_makeChild_11 : decode cM_makeChild 11 = .ok (.getfield 23, 3) := by decide +kernel
theorem dM_makeChild_14 : decode cM_makeChild 14 = .ok (.iload_n 1, 1) := by decide +kernel
theorem dM_makeChild_15 : decode cM_makeChild 15 = .ok (.iaload, 1) := by decide +kernel
theorem dM_makeChild_16 : decode cM_makeChild 16 = .ok (.iastore, 1) := by decide +kernel
theorem dM_makeChild_17 : decode cM_makeChild 17 = .ok (.aload_n 0, 1) := by decide +kernel
theorem dM_makeChild_18 : decode cM_makeChild 18 = .ok (.getfield 26, 3) := by decide +kernel
theorem dM_makeChild_21 : decode cM_makeChild 21 = .ok (.iload_n 3, 1) := by decide +kernel
theorem dM_makeChild_22 : decode cM_makeChild 22 = .ok (.iload_n 1, 1) := by decide +kernel
theorem dM_makeChild_23 : decode cM_makeChild 23 = .ok (.iastore, 1) := by decide +kernel
theorem dM_makeChild_24 : decode cM_makeChild 24 = .ok (.aload_n 0, 1) := by decide +kernel
theorem dM_makeChild_25 : decode cM_makeChild 25 = .ok (.getfield 29, 3) := by decide +kernel
theorem dM_makeChild_28 : decode cM_makeChild 28 = .ok (.iload_n 3, 1) := by decide +kernel
theorem dM_makeChild_29 : decode cM_makeChild 29 = .ok (.aload_n 0, 1) := by decide +kernel
theorem dM_makeChild_30 : decode cM_makeChild 30 = .ok (.getfield 29, 3) := by decide +kernel
theorem dM_makeChild_33 : decode cM_makeChild 33 = .ok (.iload_n 1, 1) := by decide +kernel
theorem dM_makeChild_34 : decode cM_makeChild 34 = .ok (.iaload, 1) := by decide +kernel
theorem dM_makeChild_35 : decode cM_makeChild 35 = .ok (.iconst 1, 1) := by decide +kernel
theorem dM_makeChild_36 : decode cM_makeChild 36 = .ok (.iadd, 1) := by decide +kernel
theorem dM_makeChild_37 : decode cM_makeChild 37 = .ok (.iastore, 1) := by decide +kernel
theorem dM_makeChild_38 : decode cM_makeChild 38 = .ok (.iconst 0, 1) := by decide +kernel
theorem dM_makeChild_39 : decode cM_makeChild 39 = .ok (.istore 4, 2) := by decide +kernel
theorem dM_makeChild_41 : decode cM_makeChild 41 = .ok (.iload 4, 2) := by decide +kernel
theorem dM_makeChild_43 : decode cM_makeChild 43 = .ok (.aload_n 0, 1) := by decide +kernel
theorem dM_makeChild_44 : decode cM_makeChild 44 = .ok (.getfield 29, 3) := by decide +kernel
theorem dM_makeChild_47 : decode cM_makeChild 47 = .ok (.iload_n 1, 1) := by decide +kernel
theorem dM_makeChild_48 : decode cM_makeChild 48 = .ok (.iaload, 1) := by decide +kernel
theorem dM_makeChild_49 : decode cM_makeChild 49 = .ok (.if_icmp .ge 33, 3) := by decide +kernel
theorem dM_makeChild_52 : decode cM_makeChild 52 = .ok (.aload_n 0, 1) := by decide +kernel
theorem dM_makeChild_53 : decode cM_makeChild 53 = .ok (.getfield 32, 3) := by decide +kernel
theorem dM_makeChild_56 : decode cM_makeChild 56 = .ok (.bipush 12, 2) := by decide +kernel
theorem dM_makeChild_58 : decode cM_makeChild 58 = .ok (.iload_n 3, 1) := by decide +kernel
theorem dM_makeChild_59 : decode cM_makeChild 59 = .ok (.imul, 1) := by decide +kernel
theorem dM_makeChild_60 : decode cM_makeChild 60 = .ok (.iload 4, 2) := by decide +kernel
theorem dM_makeChild_62 : decode cM_makeChild 62 = .ok (.iadd, 1) := by decide +kernel
theorem dM_makeChild_63 : decode cM_makeChild 63 = .ok (.aload_n 0, 1) := by decide +kernel
theorem dM_makeChild_64 : decode cM_makeChild 64 = .ok (.getfield 32, 3) := by decide +kernel
theorem dM_makeChild_67 : decode cM_makeChild 67 = .ok (.bipush 12, 2) := by decide +kernel
theorem dM_makeChild_69 : decode cM_makeChild 69 = .ok (.iload_n 1, 1) := by decide +kernel
theorem dM_makeChild_70 : decode cM_makeChild 70 = .ok (.imul, 1) := by decide +kernel
theorem dM_makeChild_71 : decode cM_makeChild 71 = .ok (.iload 4, 2) := by decide +kernel
theorem dM_makeChild_73 : decode cM_makeChild 73 = .ok (.iadd, 1) := by decide +kernel
theorem dM_makeChild_74 : decode cM_makeChild 74 = .ok (.iaload, 1) := by decide +kernel
theorem dM_makeChild_75 : decode cM_makeChild 75 = .ok (.iastore, 1) := by decide +kernel
theorem dM_makeChild_76 : decode cM_makeChild 76 = .ok (.iinc 4 1, 3) := by decide +kernel
theorem dM_makeChild_79 : decode cM_makeChild 79 = .ok (.goto (-38), 3) := by decide +kernel
theorem dM_makeChild_82 : decode cM_makeChild 82 = .ok (.aload_n 0, 1) := by decide +kernel
theorem dM_makeChild_83 : decode cM_makeChild 83 = .ok (.getfield 32, 3) := by decide +kernel
theorem dM_makeChild_86 : decode cM_makeChild 86 = .ok (.bipush 12, 2) := by decide +kernel
theorem dM_makeChild_88 : decode cM_makeChild 88 = .ok (.iload_n 3, 1) := by decide +kernel
theorem dM_makeChild_89 : decode cM_makeChild 89 = .ok (.imul, 1) := by decide +kernel
theorem dM_makeChild_90 : decode cM_makeChild 90 = .ok (.aload_n 0, 1) := by decide +kernel
theorem dM_makeChild_91 : decode cM_makeChild 91 = .ok (.getfield 29, 3) := by decide +kernel
theorem dM_makeChild_94 : decode cM_makeChild 94 = .ok (.iload_n 1, 1) := by decide +kernel
theorem dM_makeChild_95 : decode cM_makeChild 95 = .ok (.iaload, 1) := by decide +kernel
theorem dM_makeChild_96 : decode cM_makeChild 96 = .ok (.iadd, 1) := by decide +kernel
theorem dM_makeChild_97 : decode cM_makeChild 97 = .ok (.iload_n 2, 1) := by decide +kernel
theorem dM_makeChild_98 : decode cM_makeChild 98 = .ok (.iastore, 1) := by decide +kernel
theorem dM_makeChild_99 : decode cM_makeChild 99 = .ok (.aload_n 0, 1) := by decide +kernel
theorem dM_makeChild_100 : decode cM_makeChild 100 = .ok (.dup, 1) := by decide +kernel
theorem dM_makeChild_101 : decode cM_makeChild 101 = .ok (.getfield 19, 3) := by decide +kernel
theorem dM_makeChild_104 : decode cM_makeChild 104 = .ok (.iconst 1, 1) := by decide +kernel
theorem dM_makeChild_105 : decode cM_makeChild 105 = .ok (.iadd, 1) := by decide +kernel
theorem dM_makeChild_106 : decode cM_makeChild 106 = .ok (.putfield 19, 3) := by decide +kernel
theorem dM_makeChild_109 : decode cM_makeChild 109 = .ok (.iload_n 3, 1) := by decide +kernel
theorem dM_makeChild_110 : decode cM_makeChild 110 = .ok (.ireturn, 1) := by decide +kernel
theorem dM_shapeFor_0 : decode cM_shapeFor 0 = .ok (.aload_n 0, 1) := by decide +kernel
theorem dM_shapeFor_1 : decode cM_shapeFor 1 = .ok (.iload_n 1, 1) := by decide +kernel
theorem dM_shapeFor_2 : decode cM_shapeFor 2 = .ok (.invokevirtual 68, 3) := by decide +kernel
theorem dM_shapeFor_5 : decode cM_shapeFor 5 = .ok (.istore_n 3, 1) := by decide +kernel
theorem dM_shapeFor_6 : decode cM_shapeFor 6 = .ok (.iconst 0, 1) := by decide +kernel
theorem dM_shapeFor_7 : decode cM_shapeFor 7 = .ok (.istore 4, 2) := by decide +kernel
theorem dM_shapeFor_9 : decode cM_shapeFor 9 = .ok (.iload_n 3, 1) := by decide +kernel
theorem dM_shapeFor_10 : decode cM_shapeFor 10 = .ok (.istore 5, 2) := by decide +kernel
theorem dM_shapeFor_12 : decode cM_shapeFor 12 = .ok (.iload 5, 2) := by decide +kernel
theorem dM_shapeFor_14 : decode cM_shapeFor 14 = .ok (.ifCond .lt 38, 3) := by decide +kernel
theorem dM_shapeFor_17 : decode cM_shapeFor 17 = .ok (.iload 4, 2) := by decide +kernel
theorem dM_shapeFor_19 : decode cM_shapeFor 19 = .ok (.iload_n 2, 1) := by decide +kernel
theorem dM_shapeFor_20 : decode cM_shapeFor 20 = .ok (.if_icmp .ge 32, 3) := by decide +kernel
theorem dM_shapeFor_23 : decode cM_shapeFor 23 = .ok (.aload_n 0, 1) := by decide +kernel
theorem dM_shapeFor_24 : decode cM_shapeFor 24 = .ok (.iload 5, 2) := by decide +kernel
theorem dM_shapeFor_26 : decode cM_shapeFor 26 = .ok (.aload_n 0, 1) := by decide +kernel
theorem dM_shapeFor_27 : decode cM_shapeFor 27 = .ok (.getfield 59, 3) := by decide +kernel
theorem dM_shapeFor_30 : decode cM_shapeFor 30 = .ok (.iload 4, 2) := by decide +kernel
theorem dM_shapeFor_32 : decode cM_shapeFor 32 = .ok (.iaload, 1) := by decide +kernel
theorem dM_shapeFor_33 : decode cM_shapeFor 33 = .ok (.invokevirtual 72, 3) := by decide +kernel
theorem dM_shapeFor_36 : decode cM_shapeFor 36 = .ok (.istore 5, 2) := by decide +kernel
theorem dM_shapeFor_38 : decode cM_shapeFor 38 = .ok (.iload 5, 2) := by decide +kernel
theorem dM_shapeFor_40 : decode cM_shapeFor 40 = .ok (.ifCond .lt (-28), 3) := by decide +kernel
theorem dM_shapeFor_43 : decode cM_shapeFor 43 = .ok (.iload 5, 2) := by decide +kernel
theorem dM_shapeFor_45 : decode cM_shapeFor 45 = .ok (.istore_n 3, 1) := by decide +kernel
theorem dM_shapeFor_46 : decode cM_shapeFor 46 = .ok (.iinc 4 1, 3) := by decide +kernel
theorem dM_shapeFor_49 : decode cM_shapeFor 49 = .ok (.goto (-37), 3) := by decide +kernel
theorem dM_shapeFor_52 : decode cM_shapeFor 52 = .ok (.iload_n 2, 1) := by decide +kernel
theorem dM_shapeFor_53 : decode cM_shapeFor 53 = .ok (.iload 4, 2) := by decide +kernel
theorem dM_shapeFor_55 : decode cM_shapeFor 55 = .ok (.isub, 1) := by decide +kernel
theorem dM_shapeFor_56 : decode cM_shapeFor 56 = .ok (.iload_n 3, 1) := by decide +kernel
theorem dM_shapeFor_57 : decode cM_shapeFor 57 = .ok (.ifCond .ge 7, 3) := by decide +kernel
theorem dM_shapeFor_60 : decode cM_shapeFor 60 = .ok (.iconst 1, 1) := by decide +kernel
theorem dM_shapeFor_61 : decode cM_shapeFor 61 = .ok (.goto 4, 3) := by decide +kernel
theorem dM_shapeFor_64 : decode cM_shapeFor 64 = .ok (.iconst 0, 1) := by decide +kernel
theorem dM_shapeFor_65 : decode cM_shapeFor 65 = .ok (.iadd, 1) := by decide +kernel
theorem dM_shapeFor_66 : decode cM_shapeFor 66 = .ok (.istore 6, 2) := by decide +kernel
theorem dM_shapeFor_68 : decode cM_shapeFor 68 = .ok (.aload_n 0, 1) := by decide +kernel
theorem dM_shapeFor_69 : decode cM_shapeFor 69 = .ok (.getfield 19, 3) := by decide +kernel
theorem dM_shapeFor_72 : decode cM_shapeFor 72 = .ok (.iload 6, 2) := by decide +kernel
theorem dM_shapeFor_74 : decode cM_shapeFor 74 = .ok (.iadd, 1) := by decide +kernel
theorem dM_shapeFor_75 : decode cM_shapeFor 75 = .ok (.sipush 200, 3) := by decide +kernel
theorem dM_shapeFor_78 : decode cM_shapeFor 78 = .ok (.if_icmp .le 5, 3) := by decide +kernel
theorem dM_shapeFor_81 : decode cM_shapeFor 81 = .ok (.iconst (-1), 1) := by decide +kernel
theorem dM_shapeFor_82 : decode cM_shapeFor 82 = .ok (.ireturn, 1) := by decide +kernel
theorem dM_shapeFor_83 : decode cM_shapeFor 83 = .ok (.iload_n 3, 1) := by decide +kernel
theorem dM_shapeFor_84 : decode cM_shapeFor 84 = .ok (.ifCond .ge 9, 3) := by decide +kernel
theorem dM_shapeFor_87 : decode cM_shapeFor 87 = .ok (.aload_n 0, 1) := by decide +kernel
theorem dM_shapeFor_88 : decode cM_shapeFor 88 = .ok (.iload_n 1, 1) := by decide +kernel
theorem dM_shapeFor_89 : decode cM_shapeFor 89 = .ok (.invokevirtual 76, 3) := by decide +kernel
theorem dM_shapeFor_92 : decode cM_shapeFor 92 = .ok (.istore_n 3, 1) := by decide +kernel
theorem dM_shapeFor_93 : decode cM_shapeFor 93 = .ok (.iload 4, 2) := by decide +kernel
theorem dM_shapeFor_95 : decode cM_shapeFor 95 = .ok (.iload_n 2, 1) := by decide +kernel
theorem dM_shapeFor_96 : decode cM_shapeFor 96 = .ok (.if_icmp .ge 22, 3) := by decide +kernel
theorem dM_shapeFor_99 : decode cM_shapeFor 99 = .ok (.aload_n 0, 1) := by decide +kernel
theorem dM_shapeFor_100 : decode cM_shapeFor 100 = .ok (.iload_n 3, 1) := by decide +kernel
theorem dM_shapeFor_101 : decode cM_shapeFor 101 = .ok (.aload_n 0, 1) := by decide +kernel
theorem dM_shapeFor_102 : decode cM_shapeFor 102 = .ok (.getfield 59, 3) := by decide +kernel
theorem dM_shapeFor_105 : decode cM_shapeFor 105 = .ok (.iload 4, 2) := by decide +kernel
theorem dM_shapeFor_107 : decode cM_shapeFor 107 = .ok (.iaload, 1) := by decide +kernel
theorem dM_shapeFor_108 : decode cM_shapeFor 108 = .ok (.invokevirtual 79, 3) := by decide +kernel
theorem dM_shapeFor_111 : decode cM_shapeFor 111 = .ok (.istore_n 3, 1) := by decide +kernel
theorem dM_shapeFor_112 : decode cM_shapeFor 112 = .ok (.iinc 4 1, 3) := by decide +kernel
theorem dM_shapeFor_115 : decode cM_shapeFor 115 = .ok (.goto (-22), 3) := by decide +kernel
theorem dM_shapeFor_118 : decode cM_shapeFor 118 = .ok (.iload_n 3, 1) := by decide +kernel
theorem dM_shapeFor_119 : decode cM_shapeFor 119 = .ok (.ireturn, 1) := by decide +kernel
theorem dM_placeOf_0 : decode cM_placeOf 0 = .ok (.iconst 0, 1) := by decide +kernel
theorem dM_placeOf_1 : decode cM_placeOf 1 = .ok (.istore_n 3, 1) := by decide +kernel
theorem dM_placeOf_2 : decode cM_placeOf 2 = .ok (.iload_n 3, 1) := by decide +kernel
theorem dM_placeOf_3 : decode cM_placeOf 3 = .ok (.aload_n 0, 1) := by decide +kernel
theorem dM_placeOf_4 : decode cM_placeOf 4 = .ok (.getfield 29, 3) := by decide +kernel
theorem dM_placeOf_7 : decode cM_placeOf 7 = .ok (.iload_n 1, 1) := by decide +kernel
theorem dM_placeOf_8 : decode cM_placeOf 8 = .ok (.iaload, 1) := by decide +kernel
theorem dM_placeOf_9 : decode cM_placeOf 9 = .ok (.if_icmp .ge 26, 3) := by decide +kernel
end
section
theorem dM_placeOf_12 : decode cM_placeOf 12 = .ok (.aload_n 0, 1) := by decide +kernel
theorem dM_placeOf_13 : decode cM_placeOf 13 = .ok (.getfield 32, 3) := by decide +kernel
theorem dM_placeOf_16 : decode cM_placeOf 16 = .ok (.bipush 12, 2) := by decide +kernel
theorem dM_placeOf_18 : decode cM_placeOf 18 = .ok (.iload_n 1, 1) := by decide +kernel
theorem dM_placeOf_19 : decode cM_placeOf 19 = .ok (.imul, 1) := by decide +kernel
theorem dM_placeOf_20 : decode cM_placeOf 20 = .ok (.iload_n 3, 1) := by decide +kernel
theorem dM_placeOf_21 : decode cM_placeOf 21 = .ok (.iadd, 1) := by decide +kernel
theorem dM_placeOf_22 : decode cM_placeOf 22 = .ok (.iaload, 1) := by decide +kernel
theorem dM_placeOf_23 : decode cM_placeOf 23 = .ok (.iload_n 2, 1) := by decide +kernel
theorem dM_placeOf_24 : decode cM_placeOf 24 = .ok (.if_icmp .ne 5, 3) := by decide +kernel
theorem dM_placeOf_27 : decode cM_placeOf 27 = .ok (.iload_n 3, 1) := by decide +kernel
theorem dM_placeOf_28 : decode cM_placeOf 28 = .ok (.ireturn, 1) := by decide +kernel
theorem dM_placeOf_29 : decode cM_placeOf 29 = .ok (.iinc 3 1, 3) := by decide +kernel
theorem dM_placeOf_32 : decode cM_placeOf 32 = .ok (.goto (-30), 3) := by decide +kernel
theorem dM_placeOf_35 : decode cM_placeOf 35 = .ok (.iconst (-1), 1) := by decide +kernel
theorem dM_placeOf_36 : decode cM_placeOf 36 = .ok (.ireturn, 1) := by decide +kernel
theorem dM_isName_0 : decode cM_isName 0 = .ok (.iload_n 0, 1) := by decide +kernel
theorem dM_isName_1 : decode cM_isName 1 = .ok (.ifCond .lt 13, 3) := by decide +kernel
theorem dM_isName_4 : decode cM_isName 4 = .ok (.iload_n 0, 1) := by decide +kernel
theorem dM_isName_5 : decode cM_isName 5 = .ok (.bipush 12, 2) := by decide +kernel
theorem dM_isName_7 : decode cM_isName 7 = .ok (.if_icmp .ge 7, 3) := by decide +kernel
theorem dM_isName_10 : decode cM_isName 10 = .ok (.iconst 1, 1) := by decide +kernel
theorem dM_isName_11 : decode cM_isName 11 = .ok (.goto 4, 3) := by decide +kernel
theorem dM_isName_14 : decode cM_isName 14 = .ok (.iconst 0, 1) := by decide +kernel
theorem dM_isName_15 : decode cM_isName 15 = .ok (.ireturn, 1) := by decide +kernel
theorem dM_object_0 : decode cM_object 0 = .ok (.aload_n 0, 1) := by decide +kernel
theorem dM_object_1 : decode cM_object 1 = .ok (.iload_n 1, 1) := by decide +kernel
theorem dM_object_2 : decode cM_object 2 = .ok (.iconst (-1), 1) := by decide +kernel
theorem dM_object_3 : decode cM_object 3 = .ok (.if_icmp .eq 15, 3) := by decide +kernel
theorem dM_object_6 : decode cM_object 6 = .ok (.aload_n 0, 1) := by decide +kernel
theorem dM_object_7 : decode cM_object 7 = .ok (.iload_n 1, 1) := by decide +kernel
theorem dM_object_8 : decode cM_object 8 = .ok (.invokevirtual 82, 3) := by decide +kernel
theorem dM_object_11 : decode cM_object 11 = .ok (.ifCond .ne 7, 3) := by decide +kernel
theorem dM_object_14 : decode cM_object 14 = .ok (.iconst 1, 1) := by decide +kernel
theorem dM_object_15 : decode cM_object 15 = .ok (.goto 17, 3) := by decide +kernel
theorem dM_object_18 : decode cM_object 18 = .ok (.aload_n 0, 1) := by decide +kernel
theorem dM_object_19 : decode cM_object 19 = .ok (.getfield 65, 3) := by decide +kernel
theorem dM_object_22 : decode cM_object 22 = .ok (.bipush 60, 2) := by decide +kernel
theorem dM_object_24 : decode cM_object 24 = .ok (.if_icmp .ne 7, 3) := by decide +kernel
theorem dM_object_27 : decode cM_object 27 = .ok (.iconst 2, 1) := by decide +kernel
theorem dM_object_28 : decode cM_object 28 = .ok (.goto 4, 3) := by decide +kernel
theorem dM_object_31 : decode cM_object 31 = .ok (.iconst 0, 1) := by decide +kernel
theorem dM_object_32 : decode cM_object 32 = .ok (.putfield 62, 3) := by decide +kernel
theorem dM_object_35 : decode cM_object 35 = .ok (.aload_n 0, 1) := by decide +kernel
theorem dM_object_36 : decode cM_object 36 = .ok (.getfield 62, 3) := by decide +kernel
theorem dM_object_39 : decode cM_object 39 = .ok (.ifCond .le 5, 3) := by decide +kernel
theorem dM_object_42 : decode cM_object 42 = .ok (.iconst 0, 1) := by decide +kernel
theorem dM_object_43 : decode cM_object 43 = .ok (.ireturn, 1) := by decide +kernel
theorem dM_object_44 : decode cM_object 44 = .ok (.aload_n 0, 1) := by decide +kernel
theorem dM_object_45 : decode cM_object 45 = .ok (.iload_n 1, 1) := by decide +kernel
theorem dM_object_46 : decode cM_object 46 = .ok (.iconst 0, 1) := by decide +kernel
theorem dM_object_47 : decode cM_object 47 = .ok (.invokevirtual 86, 3) := by decide +kernel
theorem dM_object_50 : decode cM_object 50 = .ok (.istore_n 2, 1) := by decide +kernel
theorem dM_object_51 : decode cM_object 51 = .ok (.aload_n 0, 1) := by decide +kernel
theorem dM_object_52 : decode cM_object 52 = .ok (.iload_n 2, 1) := by decide +kernel
theorem dM_object_53 : decode cM_object 53 = .ok (.ifCond .ge 7, 3) := by decide +kernel
theorem dM_object_56 : decode cM_object 56 = .ok (.iconst 2, 1) := by decide +kernel
theorem dM_object_57 : decode cM_object 57 = .ok (.goto 4, 3) := by decide +kernel
theorem dM_object_60 : decode cM_object 60 = .ok (.iconst 0, 1) := by decide +kernel
theorem dM_object_61 : decode cM_object 61 = .ok (.putfield 62, 3) := by decide +kernel
theorem dM_object_64 : decode cM_object 64 = .ok (.aload_n 0, 1) := by decide +kernel
theorem dM_object_65 : decode cM_object 65 = .ok (.getfield 62, 3) := by decide +kernel
theorem dM_object_68 : decode cM_object 68 = .ok (.ifCond .le 5, 3) := by decide +kernel
theorem dM_object_71 : decode cM_object 71 = .ok (.iconst 0, 1) := by decide +kernel
theorem dM_object_72 : decode cM_object 72 = .ok (.ireturn, 1) := by decide +kernel
theorem dM_object_73 : decode cM_object 73 = .ok (.aload_n 0, 1) := by decide +kernel
theorem dM_object_74 : decode cM_object 74 = .ok (.getfield 7, 3) := by decide +kernel
theorem dM_object_77 : decode cM_object 77 = .ok (.aload_n 0, 1) := by decide +kernel
theorem dM_object_78 : decode cM_object 78 = .ok (.getfield 65, 3) := by decide +kernel
theorem dM_object_81 : decode cM_object 81 = .ok (.iload_n 2, 1) := by decide +kernel
theorem dM_object_82 : decode cM_object 82 = .ok (.iastore, 1) := by decide +kernel
theorem dM_object_83 : decode cM_object 83 = .ok (.aload_n 0, 1) := by decide +kernel
theorem dM_object_84 : decode cM_object 84 = .ok (.getfield 13, 3) := by decide +kernel
theorem dM_object_87 : decode cM_object 87 = .ok (.aload_n 0, 1) := by decide +kernel
theorem dM_object_88 : decode cM_object 88 = .ok (.getfield 65, 3) := by decide +kernel
theorem dM_object_91 : decode cM_object 91 = .ok (.iconst 0, 1) := by decide +kernel
theorem dM_object_92 : decode cM_object 92 = .ok (.iastore, 1) := by decide +kernel
theorem dM_object_93 : decode cM_object 93 = .ok (.aload_n 0, 1) := by decide +kernel
theorem dM_object_94 : decode cM_object 94 = .ok (.dup, 1) := by decide +kernel
theorem dM_object_95 : decode cM_object 95 = .ok (.getfield 65, 3) := by decide +kernel
theorem dM_object_98 : decode cM_object 98 = .ok (.iconst 1, 1) := by decide +kernel
theorem dM_object_99 : decode cM_object 99 = .ok (.iadd, 1) := by decide +kernel
theorem dM_object_100 : decode cM_object 100 = .ok (.putfield 65, 3) := by decide +kernel
theorem dM_object_103 : decode cM_object 103 = .ok (.aload_n 0, 1) := by decide +kernel
theorem dM_object_104 : decode cM_object 104 = .ok (.getfield 65, 3) := by decide +kernel
theorem dM_object_107 : decode cM_object 107 = .ok (.iconst 1, 1) := by decide +kernel
theorem dM_object_108 : decode cM_object 108 = .ok (.isub, 1) := by decide +kernel
theorem dM_object_109 : decode cM_object 109 = .ok (.ireturn, 1) := by decide +kernel
theorem dM_set_0 : decode cM_set 0 = .ok (.aload_n 0, 1) := by decide +kernel
theorem dM_set_1 : decode cM_set 1 = .ok (.iconst 0, 1) := by decide +kernel
theorem dM_set_2 : decode cM_set 2 = .ok (.putfield 62, 3) := by decide +kernel
theorem dM_set_5 : decode cM_set 5 = .ok (.aload_n 0, 1) := by decide +kernel
theorem dM_set_6 : decode cM_set 6 = .ok (.iload_n 1, 1) := by decide +kernel
theorem dM_set_7 : decode cM_set 7 = .ok (.invokevirtual 82, 3) := by decide +kernel
theorem dM_set_10 : decode cM_set 10 = .ok (.ifCond .eq 10, 3) := by decide +kernel
theorem dM_set_13 : decode cM_set 13 = .ok (.iload_n 2, 1) := by decide +kernel
theorem dM_set_14 : decode cM_set 14 = .ok (.invokestatic 89, 3) := by decide +kernel
theorem dM_set_17 : decode cM_set 17 = .ok (.ifCond .ne 5, 3) := by decide +kernel
theorem dM_set_20 : decode cM_set 20 = .ok (.iconst 0, 1) := by decide +kernel
theorem dM_set_21 : decode cM_set 21 = .ok (.ireturn, 1) := by decide +kernel
theorem dM_set_22 : decode cM_set 22 = .ok (.aload_n 0, 1) := by decide +kernel
theorem dM_set_23 : decode cM_set 23 = .ok (.getfield 7, 3) := by decide +kernel
theorem dM_set_26 : decode cM_set 26 = .ok (.iload_n 1, 1) := by decide +kernel
theorem dM_set_27 : decode cM_set 27 = .ok (.iaload, 1) := by decide +kernel
theorem dM_set_28 : decode cM_set 28 = .ok (.istore 4, 2) := by decide +kernel
theorem dM_set_30 : decode cM_set 30 = .ok (.aload_n 0, 1) := by decide +kernel
theorem dM_set_31 : decode cM_set 31 = .ok (.iload 4, 2) := by decide +kernel
theorem dM_set_33 : decode cM_set 33 = .ok (.iload_n 2, 1) := by decide +kernel
theorem dM_set_34 : decode cM_set 34 = .ok (.invokevirtual 92, 3) := by decide +kernel
theorem dM_set_37 : decode cM_set 37 = .ok (.istore 5, 2) := by decide +kernel
theorem dM_set_39 : decode cM_set 39 = .ok (.iload 5, 2) := by decide +kernel
theorem dM_set_41 : decode cM_set 41 = .ok (.ifCond .ge 75, 3) := by decide +kernel
theorem dM_set_44 : decode cM_set 44 = .ok (.aload_n 0, 1) := by decide +kernel
theorem dM_set_45 : decode cM_set 45 = .ok (.iload 4, 2) := by decide +kernel
theorem dM_set_47 : decode cM_set 47 = .ok (.iload_n 2, 1) := by decide +kernel
theorem dM_set_48 : decode cM_set 48 = .ok (.invokevirtual 72, 3) := by decide +kernel
theorem dM_set_51 : decode cM_set 51 = .ok (.istore 6, 2) := by decide +kernel
theorem dM_set_53 : decode cM_set 53 = .ok (.iload 6, 2) := by decide +kernel
theorem dM_set_55 : decode cM_set 55 = .ok (.ifCond .ge 15, 3) := by decide +kernel
theorem dM_set_58 : decode cM_set 58 = .ok (.aload_n 0, 1) := by decide +kernel
theorem dM_set_59 : decode cM_set 59 = .ok (.getfield 19, 3) := by decide +kernel
theorem dM_set_62 : decode cM_set 62 = .ok (.sipush 200, 3) := by decide +kernel
theorem dM_set_65 : decode cM_set 65 = .ok (.if_icmp .ne 5, 3) := by decide +kernel
theorem dM_set_68 : decode cM_set 68 = .ok (.iconst 0, 1) := by decide +kernel
theorem dM_set_69 : decode cM_set 69 = .ok (.ireturn, 1) := by decide +kernel
theorem dM_set_70 : decode cM_set 70 = .ok (.iload 6, 2) := by decide +kernel
theorem dM_set_72 : decode cM_set 72 = .ok (.ifCond .ge 13, 3) := by decide +kernel
theorem dM_set_75 : decode cM_set 75 = .ok (.aload_n 0, 1) := by decide +kernel
theorem dM_set_76 : decode cM_set 76 = .ok (.iload 4, 2) := by decide +kernel
theorem dM_set_78 : decode cM_set 78 = .ok (.iload_n 2, 1) := by decide +kernel
theorem dM_set_79 : decode cM_set 79 = .ok (.invokevirtual 79, 3) := by decide +kernel
theorem dM_set_82 : decode cM_set 82 = .ok (.goto 5, 3) := by decide +kernel
theorem dM_set_85 : decode cM_set 85 = .ok (.iload 6, 2) := by decide +kernel
theorem dM_set_87 : decode cM_set 87 = .ok (.istore 6, 2) := by decide +kernel
theorem dM_set_89 : decode cM_set 89 = .ok (.aload_n 0, 1) := by decide +kernel
theorem dM_set_90 : decode cM_set 90 = .ok (.getfield 29, 3) := by decide +kernel
theorem dM_set_93 : decode cM_set 93 = .ok (.iload 4, 2) := by decide +kernel
theorem dM_set_95 : decode cM_set 95 = .ok (.iaload, 1) := by decide +kernel
theorem dM_set_96 : decode cM_set 96 = .ok (.istore 5, 2) := by decide +kernel
theorem dM_set_98 : decode cM_set 98 = .ok (.aload_n 0, 1) := by decide +kernel
theorem dM_set_99 : decode cM_set 99 = .ok (.getfield 7, 3) := by decide +kernel
theorem dM_set_102 : decode cM_set 102 = .ok (.iload_n 1, 1) := by decide +kernel
theorem dM_set_103 : decode cM_set 103 = .ok (.iload 6, 2) := by decide +kernel
theorem dM_set_105 : decode cM_set 105 = .ok (.iastore, 1) := by decide +kernel
theorem dM_set_106 : decode cM_set 106 = .ok (.aload_n 0, 1) := by decide +kernel
theorem dM_set_107 : decode cM_set 107 = .ok (.getfield 13, 3) := by decide +kernel
theorem dM_set_110 : decode cM_set 110 = .ok (.iload_n 1, 1) := by decide +kernel
theorem dM_set_111 : decode cM_set 111 = .ok (.dup2, 1) := by decide +kernel
theorem dM_set_112 : decode cM_set 112 = .ok (.iaload, 1) := by decide +kernel
theorem dM_set_113 : decode cM_set 113 = .ok (.iconst 1, 1) := by decide +kernel
theorem dM_set_114 : decode cM_set 114 = .ok (.iadd, 1) := by decide +kernel
theorem dM_set_115 : decode cM_set 115 = .ok (.iastore, 1) := by decide +kernel
theorem dM_set_116 : decode cM_set 116 = .ok (.aload_n 0, 1) := by decide +kernel
theorem dM_set_117 : decode cM_set 117 = .ok (.getfield 16, 3) := by decide +kernel
theorem dM_set_120 : decode cM_set 120 = .ok (.bipush 12, 2) := by decide +kernel
theorem dM_set_122 : decode cM_set 122 = .ok (.iload_n 1, 1) := by decide +kernel
theorem dM_set_123 : decode cM_set 123 = .ok (.imul, 1) := by decide +kernel
theorem dM_set_124 : decode cM_set 124 = .ok (.iload 5, 2) := by decide +kernel
theorem dM_set_126 : decode cM_set 126 = .ok (.iadd, 1) := by decide +kernel
theorem dM_set_127 : decode cM_set 127 = .ok (.iload_n 3, 1) := by decide +kernel
theorem dM_set_128 : decode cM_set 128 = .ok (.iastore, 1) := by decide +kernel
theorem dM_set_129 : decode cM_set 129 = .ok (.iconst 1, 1) := by decide +kernel
theorem dM_set_130 : decode cM_set 130 = .ok (.ireturn, 1) := by decide +kernel
theorem dM_drop_0 : decode cM_drop 0 = .ok (.aload_n 0, 1) := by decide +kernel
theorem dM_drop_1 : decode cM_drop 1 = .ok (.iconst 0, 1) := by decide +kernel
theorem dM_drop_2 : decode cM_drop 2 = .ok (.putfield 62, 3) := by decide +kernel
theorem dM_drop_5 : decode cM_drop 5 = .ok (.aload_n 0, 1) := by decide +kernel
theorem dM_drop_6 : decode cM_drop 6 = .ok (.iload_n 1, 1) := by decide +kernel
theorem dM_drop_7 : decode cM_drop 7 = .ok (.invokevirtual 82, 3) := by decide +kernel
theorem dM_drop_10 : decode cM_drop 10 = .ok (.ifCond .ne 5, 3) := by decide +kernel
theorem dM_drop_13 : decode cM_drop 13 = .ok (.iconst 0, 1) := by decide +kernel
theorem dM_drop_14 : decode cM_drop 14 = .ok (.ireturn, 1) := by decide +kernel
theorem dM_drop_15 : decode cM_drop 15 = .ok (.aload_n 0, 1) := by decide +kernel
theorem dM_drop_16 : decode cM_drop 16 = .ok (.getfield 7, 3) := by decide +kernel
theorem dM_drop_19 : decode cM_drop 19 = .ok (.iload_n 1, 1) := by decide +kernel
theorem dM_drop_20 : decode cM_drop 20 = .ok (.iaload, 1) := by decide +kernel
theorem dM_drop_21 : decode cM_drop 21 = .ok (.istore_n 3, 1) := by decide +kernel
theorem dM_drop_22 : decode cM_drop 22 = .ok (.aload_n 0, 1) := by decide +kernel
theorem dM_drop_23 : decode cM_drop 23 = .ok (.iload_n 3, 1) := by decide +kernel
theorem dM_drop_24 : decode cM_drop 24 = .ok (.iload_n 2, 1) := by decide +kernel
theorem dM_drop_25 : decode cM_drop 25 = .ok (.invokevirtual 92, 3) := by decide +kernel
theorem dM_drop_28 : decode cM_drop 28 = .ok (.istore 4, 2) := by decide +kernel
theorem dM_drop_30 : decode cM_drop 30 = .ok (.iload 4, 2) := by decide +kernel
theorem dM_drop_32 : decode cM_drop 32 = .ok (.ifCond .ge 5, 3) := by decide +kernel
theorem dM_drop_35 : decode cM_drop 35 = .ok (.iconst 0, 1) := by decide +kernel
theorem dM_drop_36 : decode cM_drop 36 = .ok (.ireturn, 1) := by decide +kernel
theorem dM_drop_37 : decode cM_drop 37 = .ok (.iconst 0, 1) := by decide +kernel
theorem dM_drop_38 : decode cM_drop 38 = .ok (.istore 5, 2) := by decide +kernel
theorem dM_drop_40 : decode cM_drop 40 = .ok (.iconst 0, 1) := by decide +kernel
theorem dM_drop_41 : decode cM_drop 41 = .ok (.istore 6, 2) := by decide +kernel
theorem dM_drop_43 : decode cM_drop 43 = .ok (.iload 6, 2) := by decide +kernel
theorem dM_drop_45 : decode cM_drop 45 = .ok (.aload_n 0, 1) := by decide +kernel
theorem dM_drop_46 : decode cM_drop 46 = .ok (.getfield 29, 3) := by decide +kernel
theorem dM_drop_49 : decode cM_drop 49 = .ok (.iload_n 3, 1) := by decide +kernel
theorem dM_drop_50 : decode cM_drop 50 = .ok (.iaload, 1) := by decide +kernel
theorem dM_drop_51 : decode cM_drop 51 = .ok (.if_icmp .ge 41, 3) := by decide +kernel
theorem dM_drop_54 : decode cM_drop 54 = .ok (.iload 6, 2) := by decide +kernel
theorem dM_drop_56 : decode cM_drop 56 = .ok (.iload 4, 2) := by decide +kernel
theorem dM_drop_58 : decode cM_drop 58 = .ok (.if_icmp .ne 6, 3) := by decide +kernel
theorem dM_drop_61 : decode cM_drop 61 = .ok (.goto 25, 3) := by decide +kernel
theorem dM_drop_64 : decode cM_drop 64 = .ok (.aload_n 0, 1) := by decide +kernel
theorem dM_drop_65 : decode cM_drop 65 = .ok (.getfield 59, 3) := by decide +kernel
theorem dM_drop_68 : decode cM_drop 68 = .ok (.iload 5, 2) := by decide +kernel
theorem dM_drop_70 : decode cM_drop 70 = .ok (.aload_n 0, 1) := by decide +kernel
theorem dM_drop_71 : decode cM_drop 71 = .ok (.getfield 32, 3) := by decide +kernel
theorem dM_drop_74 : decode cM_drop 74 = .ok (.bipush 12, 2) := by decide +kernel
theorem dM_drop_76 : decode cM_drop 76 = .ok (.iload_n 3, 1) := by decide +kernel
theorem dM_drop_77 : decode cM_drop 77 = .ok (.imul, 1) := by decide +kernel
theorem dM_drop_78 : decode cM_drop 78 = .ok (.iload 6, 2) := by decide +kernel
theorem dM_drop_80 : decode cM_drop 80 = .ok (.iadd, 1) := by decide +kernel
theorem dM_drop_81 : decode cM_drop 81 = .ok (.iaload, 1) := by decide +kernel
theorem dM_drop_82 : decode cM_drop 82 = .ok (.iastore, 1) := by decide +kernel
theorem dM_drop_83 : decode cM_drop 83 = .ok (.iinc 5 1, 3) := by decide +kernel
theorem dM_drop_86 : decode cM_drop 86 = .ok (.iinc 6 1, 3) := by decide +kernel
theorem dM_drop_89 : decode cM_drop 89 = .ok (.goto (-46), 3) := by decide +kernel
theorem dM_drop_92 : decode cM_drop 92 = .ok (.aload_n 0, 1) := by decide +kernel
theorem dM_drop_93 : decode cM_drop 93 = .ok (.aload_n 0, 1) := by decide +kernel
theorem dM_drop_94 : decode cM_drop 94 = .ok (.getfield 23, 3) := by decide +kernel
theorem dM_drop_97 : decode cM_drop 97 = .ok (.iload_n 3, 1) := by decide +kernel
theorem dM_drop_98 : decode cM_drop 98 = .ok (.iaload, 1) := by decide +kernel
theorem dM_drop_99 : decode cM_drop 99 = .ok (.iload 5, 2) := by decide +kernel
theorem dM_drop_101 : decode cM_drop 101 = .ok (.invokevirtual 86, 3) := by decide +kernel
theorem dM_drop_104 : decode cM_drop 104 = .ok (.istore 6, 2) := by decide +kernel
theorem dM_drop_106 : decode cM_drop 106 = .ok (.iload 6, 2) := by decide +kernel
theorem dM_drop_108 : decode cM_drop 108 = .ok (.ifCond .ge 5, 3) := by decide +kernel
theorem dM_drop_111 : decode cM_drop 111 = .ok (.iconst 0, 1) := by decide +kernel
theorem dM_drop_112 : decode cM_drop 112 = .ok (.ireturn, 1) := by decide +kernel
theorem dM_drop_113 : decode cM_drop 113 = .ok (.iload 4, 2) := by decide +kernel
theorem dM_drop_115 : decode cM_drop 115 = .ok (.istore 7, 2) := by decide +kernel
theorem dM_drop_117 : decode cM_drop 117 = .ok (.iload 7, 2) := by decide +kernel
theorem dM_drop_119 : decode cM_drop 119 = .ok (.iload 5, 2) := by decide +kernel
theorem dM_drop_121 : decode cM_drop 121 = .ok (.if_icmp .ge 35, 3) := by decide +kernel
theorem dM_drop_124 : decode cM_drop 124 = .ok (.aload_n 0, 1) := by decide +kernel
theorem dM_drop_125 : decode cM_drop 125 = .ok (.getfield 16, 3) := by decide +kernel
theorem dM_drop_128 : decode cM_drop 128 = .ok (.bipush 12, 2) := by decide +kernel
theorem dM_drop_130 : decode cM_drop 130 = .ok (.iload_n 1, 1) := by decide +kernel
theorem dM_drop_131 : decode cM_drop 131 = .ok (.imul, 1) := by decide +kernel
theorem dM_drop_132 : decode cM_drop 132 = .ok (.iload 7, 2) := by decide +kernel
theorem dM_drop_134 : decode cM_drop 134 = .ok (.iadd, 1) := by decide +kernel
theorem dM_drop_135 : decode cM_drop 135 = .ok (.aload_n 0, 1) := by decide +kernel
theorem dM_drop_136 : decode cM_drop 136 = .ok (.getfield 16, 3) := by decide +kernel
theorem dM_drop_139 : decode cM_drop 139 = .ok (.bipush 12, 2) := by decide +kernel
theorem dM_drop_141 : decode cM_drop 141 = .ok (.iload_n 1, 1) := by decide +kernel
theorem dM_drop_142 : decode cM_drop 142 = .ok (.imul, 1) := by decide +kernel
theorem dM_drop_143 : decode cM_drop 143 = .ok (.iload 7, 2) := by decide +kernel
theorem dM_drop_145 : decode cM_drop 145 = .ok (.iadd, 1) := by decide +kernel
theorem dM_drop_146 : decode cM_drop 146 = .ok (.iconst 1, 1) := by decide +kernel
theorem dM_drop_147 : decode cM_drop 147 = .ok (.iadd, 1) := by decide +kernel
theorem dM_drop_148 : decode cM_drop 148 = .ok (.iaload, 1) := by decide +kernel
theorem dM_drop_149 : decode cM_drop 149 = .ok (.iastore, 1) := by decide +kernel
theorem dM_drop_150 : decode cM_drop 150 = .ok (.iinc 7 1, 3) := by decide +kernel
theorem dM_drop_153 : decode cM_drop 153 = .ok (.goto (-36), 3) := by decide +kernel
theorem dM_drop_156 : decode cM_drop 156 = .ok (.aload_n 0, 1) := by decide +kernel
theorem dM_drop_157 : decode cM_drop 157 = .ok (.getfield 7, 3) := by decide +kernel
theorem dM_drop_160 : decode cM_drop 160 = .ok (.iload_n 1, 1) := by decide +kernel
theorem dM_drop_161 : decode cM_drop 161 = .ok (.iload 6, 2) := by decide +kernel
theorem dM_drop_163 : decode cM_drop 163 = .ok (.iastore, 1) := by decide +kernel
theorem dM_drop_164 : decode cM_drop 164 = .ok (.aload_n 0, 1) := by decide +kernel
theorem dM_drop_165 : decode cM_drop 165 = .ok (.getfield 13, 3) := by decide +kernel
theorem dM_drop_168 : decode cM_drop 168 = .ok (.iload_n 1, 1) := by decide +kernel
theorem dM_drop_169 : decode cM_drop 169 = .ok (.dup2, 1) := by decide +kernel
theorem dM_drop_170 : decode cM_drop 170 = .ok (.iaload, 1) := by decide +kernel
theorem dM_drop_171 : decode cM_drop 171 = .ok (.iconst 1, 1) := by decide +kernel
theorem dM_drop_172 : decode cM_drop 172 = .ok (.iadd, 1) := by decide +kernel
theorem dM_drop_173 : decode cM_drop 173 = .ok (.iastore, 1) := by decide +kernel
theorem dM_drop_174 : decode cM_drop 174 = .ok (.iconst 1, 1) := by decide +kernel
theorem dM_drop_175 : decode cM_drop 175 = .ok (.ireturn, 1) := by decide +kernel
theorem dM_turn_0 : decode cM_turn 0 = .ok (.aload_n 0, 1) := by decide +kernel
theorem dM_turn_1 : decode cM_turn 1 = .ok (.iconst 0, 1) := by decide +kernel
theorem dM_turn_2 : decode cM_turn 2 = .ok (.putfield 62, 3) := by decide +kernel
theorem dM_turn_5 : decode cM_turn 5 = .ok (.aload_n 0, 1) := by decide +kernel
theorem dM_turn_6 : decode cM_turn 6 = .ok (.iload_n 1, 1) := by decide +kernel
theorem dM_turn_7 : decode cM_turn 7 = .ok (.invokevirtual 82, 3) := by decide +kernel
theorem dM_turn_10 : decode cM_turn 10 = .ok (.ifCond .eq 16, 3) := by decide +kernel
theorem dM_turn_13 : decode cM_turn 13 = .ok (.iload_n 2, 1) := by decide +kernel
theorem dM_turn_14 : decode cM_turn 14 = .ok (.iconst (-1), 1) := by decide +kernel
theorem dM_turn_15 : decode cM_turn 15 = .ok (.if_icmp .eq 13, 3) := by decide +kernel
theorem dM_turn_18 : decode cM_turn 18 = .ok (.aload_n 0, 1) := by decide +kernel
theorem dM_turn_19 : decode cM_turn 19 = .ok (.iload_n 2, 1) := by decide +kernel
theorem dM_turn_20 : decode cM_turn 20 = .ok (.invokevirtual 82, 3) := by decide +kernel
theorem dM_turn_23 : decode cM_turn 23 = .ok (.ifCond .ne 5, 3) := by decide +kernel
theorem dM_turn_26 : decode cM_turn 26 = .ok (.iconst 0, 1) := by decide +kernel
theorem dM_turn_27 : decode cM_turn 27 = .ok (.ireturn, 1) := by decide +kernel
theorem dM_turn_28 : decode cM_turn 28 = .ok (.iload_n 2, 1) := by decide +kernel
theorem dM_turn_29 : decode cM_turn 29 = .ok (.istore_n 3, 1) := by decide +kernel
theorem dM_turn_30 : decode cM_turn 30 = .ok (.iload_n 3, 1) := by decide +kernel
theorem dM_turn_31 : decode cM_turn 31 = .ok (.ifCond .lt 19, 3) := by decide +kernel
theorem dM_turn_34 : decode cM_turn 34 = .ok (.iload_n 3, 1) := by decide +kernel
theorem dM_turn_35 : decode cM_turn 35 = .ok (.iload_n 1, 1) := by decide +kernel
theorem dM_turn_36 : decode cM_turn 36 = .ok (.if_icmp .ne 5, 3) := by decide +kernel
theorem dM_turn_39 : decode cM_turn 39 = .ok (.iconst 0, 1) := by decide +kernel
theorem dM_turn_40 : decode cM_turn 40 = .ok (.ireturn, 1) := by decide +kernel
theorem dM_turn_41 : decode cM_turn 41 = .ok (.aload_n 0, 1) := by decide +kernel
theorem dM_turn_42 : decode cM_turn 42 = .ok (.iload_n 3, 1) := by decide +kernel
theorem dM_turn_43 : decode cM_turn 43 = .ok (.invokevirtual 95, 3) := by decide +kernel
theorem dM_turn_46 : decode cM_turn 46 = .ok (.istore_n 3, 1) := by decide +kernel
theorem dM_turn_47 : decode cM_turn 47 = .ok (.goto (-17), 3) := by decide +kernel
theorem dM_turn_50 : decode cM_turn 50 = .ok (.aload_n 0, 1) := by decide +kernel
theorem dM_turn_51 : decode cM_turn 51 = .ok (.getfield 7, 3) := by decide +kernel
theorem dM_turn_54 : decode cM_turn 54 = .ok (.iload_n 1, 1) := by decide +kernel
theorem dM_turn_55 : decode cM_turn 55 = .ok (.iaload, 1) := by decide +kernel
theorem dM_turn_56 : decode cM_turn 56 = .ok (.istore_n 3, 1) := by decide +kernel
theorem dM_turn_57 : decode cM_turn 57 = .ok (.iconst 0, 1) := by decide +kernel
theorem dM_turn_58 : decode cM_turn 58 = .ok (.istore 4, 2) := by decide +kernel
theorem dM_turn_60 : decode cM_turn 60 = .ok (.iload 4, 2) := by decide +kernel
theorem dM_turn_62 : decode cM_turn 62 = .ok (.aload_n 0, 1) := by decide +kernel
theorem dM_turn_63 : decode cM_turn 63 = .ok (.getfield 29, 3) := by decide +kernel
theorem dM_turn_66 : decode cM_turn 66 = .ok (.iload_n 3, 1) := by decide +kernel
theorem dM_turn_67 : decode cM_turn 67 = .ok (.iaload, 1) := by decide +kernel
theorem dM_turn_68 : decode cM_turn 68 = .ok (.if_icmp .ge 28, 3) := by decide +kernel
theorem dM_turn_71 : decode cM_turn 71 = .ok (.aload_n 0, 1) := by decide +kernel
theorem dM_turn_72 : decode cM_turn 72 = .ok (.getfield 59, 3) := by decide +kernel
theorem dM_turn_75 : decode cM_turn 75 = .ok (.iload 4, 2) := by decide +kernel
theorem dM_turn_77 : decode cM_turn 77 = .ok (.aload_n 0, 1) := by decide +kernel
theorem dM_turn_78 : decode cM_turn 78 = .ok (.getfield 32, 3) := by decide +kernel
theorem dM_turn_81 : decode cM_turn 81 = .ok (.bipush 12, 2) := by decide +kernel
theorem dM_turn_83 : decode cM_turn 83 = .ok (.iload_n 3, 1) := by decide +kernel
theorem dM_turn_84 : decode cM_turn 84 = .ok (.imul, 1) := by decide +kernel
theorem dM_turn_85 : decode cM_turn 85 = .ok (.iload 4, 2) := by decide +kernel
theorem dM_turn_87 : decode cM_turn 87 = .ok (.iadd, 1) := by decide +kernel
theorem dM_turn_88 : decode cM_turn 88 = .ok (.iaload, 1) := by decide +kernel
theorem dM_turn_89 : decode cM_turn 89 = .ok (.iastore, 1) := by decide +kernel
theorem dM_turn_90 : decode cM_turn 90 = .ok (.iinc 4 1, 3) := by decide +kernel
theorem dM_turn_93 : decode cM_turn 93 = .ok (.goto (-33), 3) := by decide +kernel
theorem dM_turn_96 : decode cM_turn 96 = .ok (.aload_n 0, 1) := by decide +kernel
theorem dM_turn_97 : decode cM_turn 97 = .ok (.iload_n 2, 1) := by decide +kernel
theorem dM_turn_98 : decode cM_turn 98 = .ok (.aload_n 0, 1) := by decide +kernel
theorem dM_turn_99 : decode cM_turn 99 = .ok (.getfield 29, 3) := by decide +kernel
theorem dM_turn_102 : decode cM_turn 102 = .ok (.iload_n 3, 1) := by decide +kernel
theorem dM_turn_103 : decode cM_turn 103 = .ok (.iaload, 1) := by decide +kernel
end
section
theorem dM_turn_104 : decode cM_turn 104 = .ok (.invokevirtual 86, 3) := by decide +kernel
theorem dM_turn_107 : decode cM_turn 107 = .ok (.istore 4, 2) := by decide +kernel
theorem dM_turn_109 : decode cM_turn 109 = .ok (.iload 4, 2) := by decide +kernel
theorem dM_turn_111 : decode cM_turn 111 = .ok (.ifCond .ge 5, 3) := by decide +kernel
theorem dM_turn_114 : decode cM_turn 114 = .ok (.iconst 0, 1) := by decide +kernel
theorem dM_turn_115 : decode cM_turn 115 = .ok (.ireturn, 1) := by decide +kernel
theorem dM_turn_116 : decode cM_turn 116 = .ok (.aload_n 0, 1) := by decide +kernel
theorem dM_turn_117 : decode cM_turn 117 = .ok (.getfield 7, 3) := by decide +kernel
theorem dM_turn_120 : decode cM_turn 120 = .ok (.iload_n 1, 1) := by decide +kernel
theorem dM_turn_121 : decode cM_turn 121 = .ok (.iload 4, 2) := by decide +kernel
theorem dM_turn_123 : decode cM_turn 123 = .ok (.iastore, 1) := by decide +kernel
theorem dM_turn_124 : decode cM_turn 124 = .ok (.aload_n 0, 1) := by decide +kernel
theorem dM_turn_125 : decode cM_turn 125 = .ok (.getfield 13, 3) := by decide +kernel
theorem dM_turn_128 : decode cM_turn 128 = .ok (.iload_n 1, 1) := by decide +kernel
theorem dM_turn_129 : decode cM_turn 129 = .ok (.dup2, 1) := by decide +kernel
theorem dM_turn_130 : decode cM_turn 130 = .ok (.iaload, 1) := by decide +kernel
theorem dM_turn_131 : decode cM_turn 131 = .ok (.iconst 1, 1) := by decide +kernel
theorem dM_turn_132 : decode cM_turn 132 = .ok (.iadd, 1) := by decide +kernel
theorem dM_turn_133 : decode cM_turn 133 = .ok (.iastore, 1) := by decide +kernel
theorem dM_turn_134 : decode cM_turn 134 = .ok (.iconst 1, 1) := by decide +kernel
theorem dM_turn_135 : decode cM_turn 135 = .ok (.ireturn, 1) := by decide +kernel
theorem dM_read_0 : decode cM_read 0 = .ok (.aload_n 0, 1) := by decide +kernel
theorem dM_read_1 : decode cM_read 1 = .ok (.aload_n 0, 1) := by decide +kernel
theorem dM_read_2 : decode cM_read 2 = .ok (.iload_n 1, 1) := by decide +kernel
theorem dM_read_3 : decode cM_read 3 = .ok (.invokevirtual 82, 3) := by decide +kernel
theorem dM_read_6 : decode cM_read 6 = .ok (.ifCond .eq 7, 3) := by decide +kernel
theorem dM_read_9 : decode cM_read 9 = .ok (.iconst 0, 1) := by decide +kernel
theorem dM_read_10 : decode cM_read 10 = .ok (.goto 4, 3) := by decide +kernel
theorem dM_read_13 : decode cM_read 13 = .ok (.iconst 1, 1) := by decide +kernel
theorem dM_read_14 : decode cM_read 14 = .ok (.putfield 62, 3) := by decide +kernel
theorem dM_read_17 : decode cM_read 17 = .ok (.aload_n 0, 1) := by decide +kernel
theorem dM_read_18 : decode cM_read 18 = .ok (.getfield 62, 3) := by decide +kernel
theorem dM_read_21 : decode cM_read 21 = .ok (.ifCond .le 5, 3) := by decide +kernel
theorem dM_read_24 : decode cM_read 24 = .ok (.iconst 0, 1) := by decide +kernel
theorem dM_read_25 : decode cM_read 25 = .ok (.ireturn, 1) := by decide +kernel
theorem dM_read_26 : decode cM_read 26 = .ok (.iload_n 1, 1) := by decide +kernel
theorem dM_read_27 : decode cM_read 27 = .ok (.istore_n 3, 1) := by decide +kernel
theorem dM_read_28 : decode cM_read 28 = .ok (.iload_n 3, 1) := by decide +kernel
theorem dM_read_29 : decode cM_read 29 = .ok (.ifCond .lt 43, 3) := by decide +kernel
theorem dM_read_32 : decode cM_read 32 = .ok (.aload_n 0, 1) := by decide +kernel
theorem dM_read_33 : decode cM_read 33 = .ok (.aload_n 0, 1) := by decide +kernel
theorem dM_read_34 : decode cM_read 34 = .ok (.getfield 7, 3) := by decide +kernel
theorem dM_read_37 : decode cM_read 37 = .ok (.iload_n 3, 1) := by decide +kernel
theorem dM_read_38 : decode cM_read 38 = .ok (.iaload, 1) := by decide +kernel
theorem dM_read_39 : decode cM_read 39 = .ok (.iload_n 2, 1) := by decide +kernel
theorem dM_read_40 : decode cM_read 40 = .ok (.invokevirtual 92, 3) := by decide +kernel
theorem dM_read_43 : decode cM_read 43 = .ok (.istore 4, 2) := by decide +kernel
theorem dM_read_45 : decode cM_read 45 = .ok (.iload 4, 2) := by decide +kernel
theorem dM_read_47 : decode cM_read 47 = .ok (.ifCond .lt 16, 3) := by decide +kernel
theorem dM_read_50 : decode cM_read 50 = .ok (.aload_n 0, 1) := by decide +kernel
theorem dM_read_51 : decode cM_read 51 = .ok (.getfield 16, 3) := by decide +kernel
theorem dM_read_54 : decode cM_read 54 = .ok (.bipush 12, 2) := by decide +kernel
theorem dM_read_56 : decode cM_read 56 = .ok (.iload_n 3, 1) := by decide +kernel
theorem dM_read_57 : decode cM_read 57 = .ok (.imul, 1) := by decide +kernel
theorem dM_read_58 : decode cM_read 58 = .ok (.iload 4, 2) := by decide +kernel
theorem dM_read_60 : decode cM_read 60 = .ok (.iadd, 1) := by decide +kernel
theorem dM_read_61 : decode cM_read 61 = .ok (.iaload, 1) := by decide +kernel
theorem dM_read_62 : decode cM_read 62 = .ok (.ireturn, 1) := by decide +kernel
theorem dM_read_63 : decode cM_read 63 = .ok (.aload_n 0, 1) := by decide +kernel
theorem dM_read_64 : decode cM_read 64 = .ok (.iload_n 3, 1) := by decide +kernel
theorem dM_read_65 : decode cM_read 65 = .ok (.invokevirtual 95, 3) := by decide +kernel
theorem dM_read_68 : decode cM_read 68 = .ok (.istore_n 3, 1) := by decide +kernel
theorem dM_read_69 : decode cM_read 69 = .ok (.goto (-41), 3) := by decide +kernel
theorem dM_read_72 : decode cM_read 72 = .ok (.aload_n 0, 1) := by decide +kernel
theorem dM_read_73 : decode cM_read 73 = .ok (.iconst 2, 1) := by decide +kernel
theorem dM_read_74 : decode cM_read 74 = .ok (.putfield 62, 3) := by decide +kernel
theorem dM_read_77 : decode cM_read 77 = .ok (.iconst 0, 1) := by decide +kernel
theorem dM_read_78 : decode cM_read 78 = .ok (.ireturn, 1) := by decide +kernel
theorem dM_find_0 : decode cM_find 0 = .ok (.aload_n 0, 1) := by decide +kernel
theorem dM_find_1 : decode cM_find 1 = .ok (.iconst 0, 1) := by decide +kernel
theorem dM_find_2 : decode cM_find 2 = .ok (.putfield 62, 3) := by decide +kernel
theorem dM_find_5 : decode cM_find 5 = .ok (.aload_n 0, 1) := by decide +kernel
theorem dM_find_6 : decode cM_find 6 = .ok (.iload_n 1, 1) := by decide +kernel
theorem dM_find_7 : decode cM_find 7 = .ok (.invokevirtual 82, 3) := by decide +kernel
theorem dM_find_10 : decode cM_find 10 = .ok (.ifCond .eq 10, 3) := by decide +kernel
theorem dM_find_13 : decode cM_find 13 = .ok (.iload_n 2, 1) := by decide +kernel
theorem dM_find_14 : decode cM_find 14 = .ok (.invokestatic 89, 3) := by decide +kernel
theorem dM_find_17 : decode cM_find 17 = .ok (.ifCond .ne 5, 3) := by decide +kernel
theorem dM_find_20 : decode cM_find 20 = .ok (.iconst (-1), 1) := by decide +kernel
theorem dM_find_21 : decode cM_find 21 = .ok (.ireturn, 1) := by decide +kernel
theorem dM_find_22 : decode cM_find 22 = .ok (.aload_n 0, 1) := by decide +kernel
theorem dM_find_23 : decode cM_find 23 = .ok (.getfield 98, 3) := by decide +kernel
theorem dM_find_26 : decode cM_find 26 = .ok (.bipush 100, 2) := by decide +kernel
theorem dM_find_28 : decode cM_find 28 = .ok (.irem, 1) := by decide +kernel
theorem dM_find_29 : decode cM_find 29 = .ok (.istore_n 3, 1) := by decide +kernel
theorem dM_find_30 : decode cM_find 30 = .ok (.aload_n 0, 1) := by decide +kernel
theorem dM_find_31 : decode cM_find 31 = .ok (.dup, 1) := by decide +kernel
theorem dM_find_32 : decode cM_find 32 = .ok (.getfield 98, 3) := by decide +kernel
theorem dM_find_35 : decode cM_find 35 = .ok (.iconst 1, 1) := by decide +kernel
theorem dM_find_36 : decode cM_find 36 = .ok (.iadd, 1) := by decide +kernel
theorem dM_find_37 : decode cM_find 37 = .ok (.putfield 98, 3) := by decide +kernel
theorem dM_find_40 : decode cM_find 40 = .ok (.aload_n 0, 1) := by decide +kernel
theorem dM_find_41 : decode cM_find 41 = .ok (.getfield 7, 3) := by decide +kernel
theorem dM_find_44 : decode cM_find 44 = .ok (.iload_n 1, 1) := by decide +kernel
theorem dM_find_45 : decode cM_find 45 = .ok (.iaload, 1) := by decide +kernel
theorem dM_find_46 : decode cM_find 46 = .ok (.istore 4, 2) := by decide +kernel
theorem dM_find_48 : decode cM_find 48 = .ok (.aload_n 0, 1) := by decide +kernel
theorem dM_find_49 : decode cM_find 49 = .ok (.getfield 35, 3) := by decide +kernel
theorem dM_find_52 : decode cM_find 52 = .ok (.iload_n 3, 1) := by decide +kernel
theorem dM_find_53 : decode cM_find 53 = .ok (.iload 4, 2) := by decide +kernel
theorem dM_find_55 : decode cM_find 55 = .ok (.iastore, 1) := by decide +kernel
theorem dM_find_56 : decode cM_find 56 = .ok (.aload_n 0, 1) := by decide +kernel
theorem dM_find_57 : decode cM_find 57 = .ok (.getfield 38, 3) := by decide +kernel
theorem dM_find_60 : decode cM_find 60 = .ok (.iload_n 3, 1) := by decide +kernel
theorem dM_find_61 : decode cM_find 61 = .ok (.iload_n 2, 1) := by decide +kernel
theorem dM_find_62 : decode cM_find 62 = .ok (.iastore, 1) := by decide +kernel
theorem dM_find_63 : decode cM_find 63 = .ok (.aload_n 0, 1) := by decide +kernel
theorem dM_find_64 : decode cM_find 64 = .ok (.getfield 44, 3) := by decide +kernel
theorem dM_find_67 : decode cM_find 67 = .ok (.iload_n 3, 1) := by decide +kernel
theorem dM_find_68 : decode cM_find 68 = .ok (.iconst (-1), 1) := by decide +kernel
theorem dM_find_69 : decode cM_find 69 = .ok (.iastore, 1) := by decide +kernel
theorem dM_find_70 : decode cM_find 70 = .ok (.aload_n 0, 1) := by decide +kernel
theorem dM_find_71 : decode cM_find 71 = .ok (.getfield 50, 3) := by decide +kernel
theorem dM_find_74 : decode cM_find 74 = .ok (.iload_n 3, 1) := by decide +kernel
theorem dM_find_75 : decode cM_find 75 = .ok (.iconst 0, 1) := by decide +kernel
theorem dM_find_76 : decode cM_find 76 = .ok (.iastore, 1) := by decide +kernel
theorem dM_find_77 : decode cM_find 77 = .ok (.aload_n 0, 1) := by decide +kernel
theorem dM_find_78 : decode cM_find 78 = .ok (.getfield 47, 3) := by decide +kernel
theorem dM_find_81 : decode cM_find 81 = .ok (.iload_n 3, 1) := by decide +kernel
theorem dM_find_82 : decode cM_find 82 = .ok (.aload_n 0, 1) := by decide +kernel
theorem dM_find_83 : decode cM_find 83 = .ok (.iload 4, 2) := by decide +kernel
theorem dM_find_85 : decode cM_find 85 = .ok (.iload_n 2, 1) := by decide +kernel
theorem dM_find_86 : decode cM_find 86 = .ok (.invokevirtual 92, 3) := by decide +kernel
theorem dM_find_89 : decode cM_find 89 = .ok (.iastore, 1) := by decide +kernel
theorem dM_find_90 : decode cM_find 90 = .ok (.aload_n 0, 1) := by decide +kernel
theorem dM_find_91 : decode cM_find 91 = .ok (.getfield 41, 3) := by decide +kernel
theorem dM_find_94 : decode cM_find 94 = .ok (.iload_n 3, 1) := by decide +kernel
theorem dM_find_95 : decode cM_find 95 = .ok (.aload_n 0, 1) := by decide +kernel
theorem dM_find_96 : decode cM_find 96 = .ok (.getfield 47, 3) := by decide +kernel
theorem dM_find_99 : decode cM_find 99 = .ok (.iload_n 3, 1) := by decide +kernel
theorem dM_find_100 : decode cM_find 100 = .ok (.iaload, 1) := by decide +kernel
theorem dM_find_101 : decode cM_find 101 = .ok (.ifCond .lt 7, 3) := by decide +kernel
theorem dM_find_104 : decode cM_find 104 = .ok (.iconst 1, 1) := by decide +kernel
theorem dM_find_105 : decode cM_find 105 = .ok (.goto 4, 3) := by decide +kernel
theorem dM_find_108 : decode cM_find 108 = .ok (.iconst 0, 1) := by decide +kernel
theorem dM_find_109 : decode cM_find 109 = .ok (.iastore, 1) := by decide +kernel
theorem dM_find_110 : decode cM_find 110 = .ok (.aload_n 0, 1) := by decide +kernel
theorem dM_find_111 : decode cM_find 111 = .ok (.getfield 23, 3) := by decide +kernel
theorem dM_find_114 : decode cM_find 114 = .ok (.iload 4, 2) := by decide +kernel
theorem dM_find_116 : decode cM_find 116 = .ok (.iaload, 1) := by decide +kernel
theorem dM_find_117 : decode cM_find 117 = .ok (.istore 5, 2) := by decide +kernel
theorem dM_find_119 : decode cM_find 119 = .ok (.iload 5, 2) := by decide +kernel
theorem dM_find_121 : decode cM_find 121 = .ok (.ifCond .lt 119, 3) := by decide +kernel
theorem dM_find_124 : decode cM_find 124 = .ok (.aload_n 0, 1) := by decide +kernel
theorem dM_find_125 : decode cM_find 125 = .ok (.getfield 41, 3) := by decide +kernel
theorem dM_find_128 : decode cM_find 128 = .ok (.iload_n 3, 1) := by decide +kernel
theorem dM_find_129 : decode cM_find 129 = .ok (.iaload, 1) := by decide +kernel
theorem dM_find_130 : decode cM_find 130 = .ok (.ifCond .ne 110, 3) := by decide +kernel
theorem dM_find_133 : decode cM_find 133 = .ok (.aload_n 0, 1) := by decide +kernel
theorem dM_find_134 : decode cM_find 134 = .ok (.getfield 53, 3) := by decide +kernel
theorem dM_find_137 : decode cM_find 137 = .ok (.bipush 60, 2) := by decide +kernel
theorem dM_find_139 : decode cM_find 139 = .ok (.iload_n 3, 1) := by decide +kernel
theorem dM_find_140 : decode cM_find 140 = .ok (.imul, 1) := by decide +kernel
theorem dM_find_141 : decode cM_find 141 = .ok (.aload_n 0, 1) := by decide +kernel
theorem dM_find_142 : decode cM_find 142 = .ok (.getfield 50, 3) := by decide +kernel
theorem dM_find_145 : decode cM_find 145 = .ok (.iload_n 3, 1) := by decide +kernel
theorem dM_find_146 : decode cM_find 146 = .ok (.iaload, 1) := by decide +kernel
theorem dM_find_147 : decode cM_find 147 = .ok (.iadd, 1) := by decide +kernel
theorem dM_find_148 : decode cM_find 148 = .ok (.iload 5, 2) := by decide +kernel
theorem dM_find_150 : decode cM_find 150 = .ok (.iastore, 1) := by decide +kernel
theorem dM_find_151 : decode cM_find 151 = .ok (.aload_n 0, 1) := by decide +kernel
theorem dM_find_152 : decode cM_find 152 = .ok (.getfield 56, 3) := by decide +kernel
theorem dM_find_155 : decode cM_find 155 = .ok (.bipush 60, 2) := by decide +kernel
theorem dM_find_157 : decode cM_find 157 = .ok (.iload_n 3, 1) := by decide +kernel
theorem dM_find_158 : decode cM_find 158 = .ok (.imul, 1) := by decide +kernel
theorem dM_find_159 : decode cM_find 159 = .ok (.aload_n 0, 1) := by decide +kernel
theorem dM_find_160 : decode cM_find 160 = .ok (.getfield 50, 3) := by decide +kernel
theorem dM_find_163 : decode cM_find 163 = .ok (.iload_n 3, 1) := by decide +kernel
theorem dM_find_164 : decode cM_find 164 = .ok (.iaload, 1) := by decide +kernel
theorem dM_find_165 : decode cM_find 165 = .ok (.iadd, 1) := by decide +kernel
theorem dM_find_166 : decode cM_find 166 = .ok (.aload_n 0, 1) := by decide +kernel
theorem dM_find_167 : decode cM_find 167 = .ok (.getfield 13, 3) := by decide +kernel
theorem dM_find_170 : decode cM_find 170 = .ok (.iload 5, 2) := by decide +kernel
theorem dM_find_172 : decode cM_find 172 = .ok (.iaload, 1) := by decide +kernel
theorem dM_find_173 : decode cM_find 173 = .ok (.iastore, 1) := by decide +kernel
theorem dM_find_174 : decode cM_find 174 = .ok (.aload_n 0, 1) := by decide +kernel
theorem dM_find_175 : decode cM_find 175 = .ok (.getfield 50, 3) := by decide +kernel
theorem dM_find_178 : decode cM_find 178 = .ok (.iload_n 3, 1) := by decide +kernel
theorem dM_find_179 : decode cM_find 179 = .ok (.dup2, 1) := by decide +kernel
theorem dM_find_180 : decode cM_find 180 = .ok (.iaload, 1) := by decide +kernel
theorem dM_find_181 : decode cM_find 181 = .ok (.iconst 1, 1) := by decide +kernel
theorem dM_find_182 : decode cM_find 182 = .ok (.iadd, 1) := by decide +kernel
theorem dM_find_183 : decode cM_find 183 = .ok (.iastore, 1) := by decide +kernel
theorem dM_find_184 : decode cM_find 184 = .ok (.aload_n 0, 1) := by decide +kernel
theorem dM_find_185 : decode cM_find 185 = .ok (.aload_n 0, 1) := by decide +kernel
theorem dM_find_186 : decode cM_find 186 = .ok (.getfield 7, 3) := by decide +kernel
theorem dM_find_189 : decode cM_find 189 = .ok (.iload 5, 2) := by decide +kernel
theorem dM_find_191 : decode cM_find 191 = .ok (.iaload, 1) := by decide +kernel
theorem dM_find_192 : decode cM_find 192 = .ok (.iload_n 2, 1) := by decide +kernel
theorem dM_find_193 : decode cM_find 193 = .ok (.invokevirtual 92, 3) := by decide +kernel
theorem dM_find_196 : decode cM_find 196 = .ok (.istore 6, 2) := by decide +kernel
theorem dM_find_198 : decode cM_find 198 = .ok (.iload 6, 2) := by decide +kernel
theorem dM_find_200 : decode cM_find 200 = .ok (.ifCond .ge 6, 3) := by decide +kernel
theorem dM_find_203 : decode cM_find 203 = .ok (.goto 26, 3) := by decide +kernel
theorem dM_find_206 : decode cM_find 206 = .ok (.aload_n 0, 1) := by decide +kernel
theorem dM_find_207 : decode cM_find 207 = .ok (.getfield 41, 3) := by decide +kernel
theorem dM_find_210 : decode cM_find 210 = .ok (.iload_n 3, 1) := by decide +kernel
theorem dM_find_211 : decode cM_find 211 = .ok (.iconst 2, 1) := by decide +kernel
theorem dM_find_212 : decode cM_find 212 = .ok (.iastore, 1) := by decide +kernel
theorem dM_find_213 : decode cM_find 213 = .ok (.aload_n 0, 1) := by decide +kernel
theorem dM_find_214 : decode cM_find 214 = .ok (.getfield 44, 3) := by decide +kernel
theorem dM_find_217 : decode cM_find 217 = .ok (.iload_n 3, 1) := by decide +kernel
theorem dM_find_218 : decode cM_find 218 = .ok (.iload 5, 2) := by decide +kernel
theorem dM_find_220 : decode cM_find 220 = .ok (.iastore, 1) := by decide +kernel
theorem dM_find_221 : decode cM_find 221 = .ok (.aload_n 0, 1) := by decide +kernel
theorem dM_find_222 : decode cM_find 222 = .ok (.getfield 47, 3) := by decide +kernel
theorem dM_find_225 : decode cM_find 225 = .ok (.iload_n 3, 1) := by decide +kernel
theorem dM_find_226 : decode cM_find 226 = .ok (.iload 6, 2) := by decide +kernel
theorem dM_find_228 : decode cM_find 228 = .ok (.iastore, 1) := by decide +kernel
theorem dM_find_229 : decode cM_find 229 = .ok (.aload_n 0, 1) := by decide +kernel
theorem dM_find_230 : decode cM_find 230 = .ok (.iload 5, 2) := by decide +kernel
theorem dM_find_232 : decode cM_find 232 = .ok (.invokevirtual 95, 3) := by decide +kernel
theorem dM_find_235 : decode cM_find 235 = .ok (.istore 5, 2) := by decide +kernel
theorem dM_find_237 : decode cM_find 237 = .ok (.goto (-118), 3) := by decide +kernel
theorem dM_find_240 : decode cM_find 240 = .ok (.iload_n 3, 1) := by decide +kernel
theorem dM_find_241 : decode cM_find 241 = .ok (.ireturn, 1) := by decide +kernel
theorem dM_isFinding_0 : decode cM_isFinding 0 = .ok (.iload_n 1, 1) := by decide +kernel
theorem dM_isFinding_1 : decode cM_isFinding 1 = .ok (.ifCond .lt 21, 3) := by decide +kernel
theorem dM_isFinding_4 : decode cM_isFinding 4 = .ok (.iload_n 1, 1) := by decide +kernel
theorem dM_isFinding_5 : decode cM_isFinding 5 = .ok (.bipush 100, 2) := by decide +kernel
theorem dM_isFinding_7 : decode cM_isFinding 7 = .ok (.if_icmp .ge 15, 3) := by decide +kernel
theorem dM_isFinding_10 : decode cM_isFinding 10 = .ok (.iload_n 1, 1) := by decide +kernel
theorem dM_isFinding_11 : decode cM_isFinding 11 = .ok (.aload_n 0, 1) := by decide +kernel
theorem dM_isFinding_12 : decode cM_isFinding 12 = .ok (.getfield 98, 3) := by decide +kernel
theorem dM_isFinding_15 : decode cM_isFinding 15 = .ok (.if_icmp .ge 7, 3) := by decide +kernel
theorem dM_isFinding_18 : decode cM_isFinding 18 = .ok (.iconst 1, 1) := by decide +kernel
theorem dM_isFinding_19 : decode cM_isFinding 19 = .ok (.goto 4, 3) := by decide +kernel
theorem dM_isFinding_22 : decode cM_isFinding 22 = .ok (.iconst 0, 1) := by decide +kernel
theorem dM_isFinding_23 : decode cM_isFinding 23 = .ok (.ireturn, 1) := by decide +kernel
theorem dM_holdsStill_0 : decode cM_holdsStill 0 = .ok (.iconst 1, 1) := by decide +kernel
theorem dM_holdsStill_1 : decode cM_holdsStill 1 = .ok (.istore_n 2, 1) := by decide +kernel
theorem dM_holdsStill_2 : decode cM_holdsStill 2 = .ok (.iconst 0, 1) := by decide +kernel
theorem dM_holdsStill_3 : decode cM_holdsStill 3 = .ok (.istore_n 3, 1) := by decide +kernel
theorem dM_holdsStill_4 : decode cM_holdsStill 4 = .ok (.iload_n 3, 1) := by decide +kernel
theorem dM_holdsStill_5 : decode cM_holdsStill 5 = .ok (.aload_n 0, 1) := by decide +kernel
theorem dM_holdsStill_6 : decode cM_holdsStill 6 = .ok (.getfield 50, 3) := by decide +kernel
theorem dM_holdsStill_9 : decode cM_holdsStill 9 = .ok (.iload_n 1, 1) := by decide +kernel
theorem dM_holdsStill_10 : decode cM_holdsStill 10 = .ok (.iaload, 1) := by decide +kernel
theorem dM_holdsStill_11 : decode cM_holdsStill 11 = .ok (.if_icmp .ge 49, 3) := by decide +kernel
theorem dM_holdsStill_14 : decode cM_holdsStill 14 = .ok (.iload_n 2, 1) := by decide +kernel
theorem dM_holdsStill_15 : decode cM_holdsStill 15 = .ok (.ifCond .eq 45, 3) := by decide +kernel
theorem dM_holdsStill_18 : decode cM_holdsStill 18 = .ok (.aload_n 0, 1) := by decide +kernel
theorem dM_holdsStill_19 : decode cM_holdsStill 19 = .ok (.getfield 13, 3) := by decide +kernel
theorem dM_holdsStill_22 : decode cM_holdsStill 22 = .ok (.aload_n 0, 1) := by decide +kernel
theorem dM_holdsStill_23 : decode cM_holdsStill 23 = .ok (.getfield 53, 3) := by decide +kernel
theorem dM_holdsStill_26 : decode cM_holdsStill 26 = .ok (.bipush 60, 2) := by decide +kernel
theorem dM_holdsStill_28 : decode cM_holdsStill 28 = .ok (.iload_n 1, 1) := by decide +kernel
theorem dM_holdsStill_29 : decode cM_holdsStill 29 = .ok (.imul, 1) := by decide +kernel
theorem dM_holdsStill_30 : decode cM_holdsStill 30 = .ok (.iload_n 3, 1) := by decide +kernel
theorem dM_holdsStill_31 : decode cM_holdsStill 31 = .ok (.iadd, 1) := by decide +kernel
theorem dM_holdsStill_32 : decode cM_holdsStill 32 = .ok (.iaload, 1) := by decide +kernel
theorem dM_holdsStill_33 : decode cM_holdsStill 33 = .ok (.iaload, 1) := by decide +kernel
theorem dM_holdsStill_34 : decode cM_holdsStill 34 = .ok (.aload_n 0, 1) := by decide +kernel
theorem dM_holdsStill_35 : decode cM_holdsStill 35 = .ok (.getfield 56, 3) := by decide +kernel
theorem dM_holdsStill_38 : decode cM_holdsStill 38 = .ok (.bipush 60, 2) := by decide +kernel
theorem dM_holdsStill_40 : decode cM_holdsStill 40 = .ok (.iload_n 1, 1) := by decide +kernel
theorem dM_holdsStill_41 : decode cM_holdsStill 41 = .ok (.imul, 1) := by decide +kernel
theorem dM_holdsStill_42 : decode cM_holdsStill 42 = .ok (.iload_n 3, 1) := by decide +kernel
theorem dM_holdsStill_43 : decode cM_holdsStill 43 = .ok (.iadd, 1) := by decide +kernel
theorem dM_holdsStill_44 : decode cM_holdsStill 44 = .ok (.iaload, 1) := by decide +kernel
theorem dM_holdsStill_45 : decode cM_holdsStill 45 = .ok (.if_icmp .ne 7, 3) := by decide +kernel
theorem dM_holdsStill_48 : decode cM_holdsStill 48 = .ok (.iconst 1, 1) := by decide +kernel
theorem dM_holdsStill_49 : decode cM_holdsStill 49 = .ok (.goto 4, 3) := by decide +kernel
theorem dM_holdsStill_52 : decode cM_holdsStill 52 = .ok (.iconst 0, 1) := by decide +kernel
theorem dM_holdsStill_53 : decode cM_holdsStill 53 = .ok (.istore_n 2, 1) := by decide +kernel
theorem dM_holdsStill_54 : decode cM_holdsStill 54 = .ok (.iinc 3 1, 3) := by decide +kernel
theorem dM_holdsStill_57 : decode cM_holdsStill 57 = .ok (.goto (-53), 3) := by decide +kernel
theorem dM_holdsStill_60 : decode cM_holdsStill 60 = .ok (.iload_n 2, 1) := by decide +kernel
theorem dM_holdsStill_61 : decode cM_holdsStill 61 = .ok (.ireturn, 1) := by decide +kernel
theorem dM_holds_0 : decode cM_holds 0 = .ok (.aload_n 0, 1) := by decide +kernel
theorem dM_holds_1 : decode cM_holds 1 = .ok (.iconst 0, 1) := by decide +kernel
theorem dM_holds_2 : decode cM_holds 2 = .ok (.putfield 62, 3) := by decide +kernel
theorem dM_holds_5 : decode cM_holds 5 = .ok (.aload_n 0, 1) := by decide +kernel
theorem dM_holds_6 : decode cM_holds 6 = .ok (.iload_n 1, 1) := by decide +kernel
theorem dM_holds_7 : decode cM_holds 7 = .ok (.invokevirtual 101, 3) := by decide +kernel
theorem dM_holds_10 : decode cM_holds 10 = .ok (.ifCond .eq 38, 3) := by decide +kernel
theorem dM_holds_13 : decode cM_holds 13 = .ok (.aload_n 0, 1) := by decide +kernel
theorem dM_holds_14 : decode cM_holds 14 = .ok (.iload_n 2, 1) := by decide +kernel
theorem dM_holds_15 : decode cM_holds 15 = .ok (.invokevirtual 82, 3) := by decide +kernel
theorem dM_holds_18 : decode cM_holds 18 = .ok (.ifCond .eq 30, 3) := by decide +kernel
theorem dM_holds_21 : decode cM_holds 21 = .ok (.aload_n 0, 1) := by decide +kernel
theorem dM_holds_22 : decode cM_holds 22 = .ok (.getfield 7, 3) := by decide +kernel
theorem dM_holds_25 : decode cM_holds 25 = .ok (.iload_n 2, 1) := by decide +kernel
theorem dM_holds_26 : decode cM_holds 26 = .ok (.iaload, 1) := by decide +kernel
theorem dM_holds_27 : decode cM_holds 27 = .ok (.aload_n 0, 1) := by decide +kernel
theorem dM_holds_28 : decode cM_holds 28 = .ok (.getfield 35, 3) := by decide +kernel
theorem dM_holds_31 : decode cM_holds 31 = .ok (.iload_n 1, 1) := by decide +kernel
theorem dM_holds_32 : decode cM_holds 32 = .ok (.iaload, 1) := by decide +kernel
theorem dM_holds_33 : decode cM_holds 33 = .ok (.if_icmp .ne 15, 3) := by decide +kernel
theorem dM_holds_36 : decode cM_holds 36 = .ok (.aload_n 0, 1) := by decide +kernel
theorem dM_holds_37 : decode cM_holds 37 = .ok (.iload_n 1, 1) := by decide +kernel
theorem dM_holds_38 : decode cM_holds 38 = .ok (.invokevirtual 104, 3) := by decide +kernel
theorem dM_holds_41 : decode cM_holds 41 = .ok (.ifCond .eq 7, 3) := by decide +kernel
theorem dM_holds_44 : decode cM_holds 44 = .ok (.iconst 1, 1) := by decide +kernel
theorem dM_holds_45 : decode cM_holds 45 = .ok (.goto 4, 3) := by decide +kernel
theorem dM_holds_48 : decode cM_holds 48 = .ok (.iconst 0, 1) := by decide +kernel
theorem dM_holds_49 : decode cM_holds 49 = .ok (.ireturn, 1) := by decide +kernel
theorem dM_get_0 : decode cM_get 0 = .ok (.aload_n 0, 1) := by decide +kernel
theorem dM_get_1 : decode cM_get 1 = .ok (.aload_n 0, 1) := by decide +kernel
theorem dM_get_2 : decode cM_get 2 = .ok (.iload_n 1, 1) := by decide +kernel
theorem dM_get_3 : decode cM_get 3 = .ok (.invokevirtual 101, 3) := by decide +kernel
theorem dM_get_6 : decode cM_get 6 = .ok (.ifCond .ne 7, 3) := by decide +kernel
theorem dM_get_9 : decode cM_get 9 = .ok (.iconst 1, 1) := by decide +kernel
theorem dM_get_10 : decode cM_get 10 = .ok (.goto 52, 3) := by decide +kernel
theorem dM_get_13 : decode cM_get 13 = .ok (.aload_n 0, 1) := by decide +kernel
theorem dM_get_14 : decode cM_get 14 = .ok (.iload_n 2, 1) := by decide +kernel
theorem dM_get_15 : decode cM_get 15 = .ok (.invokevirtual 82, 3) := by decide +kernel
theorem dM_get_18 : decode cM_get 18 = .ok (.ifCond .eq 26, 3) := by decide +kernel
theorem dM_get_21 : decode cM_get 21 = .ok (.aload_n 0, 1) := by decide +kernel
theorem dM_get_22 : decode cM_get 22 = .ok (.getfield 7, 3) := by decide +kernel
theorem dM_get_25 : decode cM_get 25 = .ok (.iload_n 2, 1) := by decide +kernel
theorem dM_get_26 : decode cM_get 26 = .ok (.iaload, 1) := by decide +kernel
theorem dM_get_27 : decode cM_get 27 = .ok (.aload_n 0, 1) := by decide +kernel
theorem dM_get_28 : decode cM_get 28 = .ok (.getfield 35, 3) := by decide +kernel
theorem dM_get_31 : decode cM_get 31 = .ok (.iload_n 1, 1) := by decide +kernel
theorem dM_get_32 : decode cM_get 32 = .ok (.iaload, 1) := by decide +kernel
theorem dM_get_33 : decode cM_get 33 = .ok (.if_icmp .ne 11, 3) := by decide +kernel
theorem dM_get_36 : decode cM_get 36 = .ok (.aload_n 0, 1) := by decide +kernel
theorem dM_get_37 : decode cM_get 37 = .ok (.iload_n 1, 1) := by decide +kernel
theorem dM_get_38 : decode cM_get 38 = .ok (.invokevirtual 104, 3) := by decide +kernel
theorem dM_get_41 : decode cM_get 41 = .ok (.ifCond .ne 7, 3) := by decide +kernel
theorem dM_get_44 : decode cM_get 44 = .ok (.iconst 2, 1) := by decide +kernel
theorem dM_get_45 : decode cM_get 45 = .ok (.goto 17, 3) := by decide +kernel
theorem dM_get_48 : decode cM_get 48 = .ok (.aload_n 0, 1) := by decide +kernel
theorem dM_get_49 : decode cM_get 49 = .ok (.getfield 41, 3) := by decide +kernel
theorem dM_get_52 : decode cM_get 52 = .ok (.iload_n 1, 1) := by decide +kernel
theorem dM_get_53 : decode cM_get 53 = .ok (.iaload, 1) := by decide +kernel
theorem dM_get_54 : decode cM_get 54 = .ok (.ifCond .ne 7, 3) := by decide +kernel
theorem dM_get_57 : decode cM_get 57 = .ok (.iconst 3, 1) := by decide +kernel
theorem dM_get_58 : decode cM_get 58 = .ok (.goto 4, 3) := by decide +kernel
end
section
theorem dM_get_61 : decode cM_get 61 = .ok (.iconst 0, 1) := by decide +kernel
theorem dM_get_62 : decode cM_get 62 = .ok (.putfield 62, 3) := by decide +kernel
theorem dM_get_65 : decode cM_get 65 = .ok (.aload_n 0, 1) := by decide +kernel
theorem dM_get_66 : decode cM_get 66 = .ok (.getfield 62, 3) := by decide +kernel
theorem dM_get_69 : decode cM_get 69 = .ok (.ifCond .le 7, 3) := by decide +kernel
theorem dM_get_72 : decode cM_get 72 = .ok (.iconst 0, 1) := by decide +kernel
theorem dM_get_73 : decode cM_get 73 = .ok (.goto 38, 3) := by decide +kernel
theorem dM_get_76 : decode cM_get 76 = .ok (.aload_n 0, 1) := by decide +kernel
theorem dM_get_77 : decode cM_get 77 = .ok (.getfield 16, 3) := by decide +kernel
theorem dM_get_80 : decode cM_get 80 = .ok (.bipush 12, 2) := by decide +kernel
theorem dM_get_82 : decode cM_get 82 = .ok (.aload_n 0, 1) := by decide +kernel
theorem dM_get_83 : decode cM_get 83 = .ok (.getfield 41, 3) := by decide +kernel
theorem dM_get_86 : decode cM_get 86 = .ok (.iload_n 1, 1) := by decide +kernel
theorem dM_get_87 : decode cM_get 87 = .ok (.iaload, 1) := by decide +kernel
theorem dM_get_88 : decode cM_get 88 = .ok (.iconst 1, 1) := by decide +kernel
theorem dM_get_89 : decode cM_get 89 = .ok (.if_icmp .ne 7, 3) := by decide +kernel
theorem dM_get_92 : decode cM_get 92 = .ok (.iload_n 2, 1) := by decide +kernel
theorem dM_get_93 : decode cM_get 93 = .ok (.goto 9, 3) := by decide +kernel
theorem dM_get_96 : decode cM_get 96 = .ok (.aload_n 0, 1) := by decide +kernel
theorem dM_get_97 : decode cM_get 97 = .ok (.getfield 44, 3) := by decide +kernel
theorem dM_get_100 : decode cM_get 100 = .ok (.iload_n 1, 1) := by decide +kernel
theorem dM_get_101 : decode cM_get 101 = .ok (.iaload, 1) := by decide +kernel
theorem dM_get_102 : decode cM_get 102 = .ok (.imul, 1) := by decide +kernel
theorem dM_get_103 : decode cM_get 103 = .ok (.aload_n 0, 1) := by decide +kernel
theorem dM_get_104 : decode cM_get 104 = .ok (.getfield 47, 3) := by decide +kernel
theorem dM_get_107 : decode cM_get 107 = .ok (.iload_n 1, 1) := by decide +kernel
theorem dM_get_108 : decode cM_get 108 = .ok (.iaload, 1) := by decide +kernel
theorem dM_get_109 : decode cM_get 109 = .ok (.iadd, 1) := by decide +kernel
theorem dM_get_110 : decode cM_get 110 = .ok (.iaload, 1) := by decide +kernel
theorem dM_get_111 : decode cM_get 111 = .ok (.ireturn, 1) := by decide +kernel
theorem dM_look_0 : decode cM_look 0 = .ok (.aload_n 0, 1) := by decide +kernel
theorem dM_look_1 : decode cM_look 1 = .ok (.iconst 0, 1) := by decide +kernel
theorem dM_look_2 : decode cM_look 2 = .ok (.putfield 62, 3) := by decide +kernel
theorem dM_look_5 : decode cM_look 5 = .ok (.aload_n 0, 1) := by decide +kernel
theorem dM_look_6 : decode cM_look 6 = .ok (.iload_n 1, 1) := by decide +kernel
theorem dM_look_7 : decode cM_look 7 = .ok (.invokevirtual 82, 3) := by decide +kernel
theorem dM_look_10 : decode cM_look 10 = .ok (.ifCond .ne 5, 3) := by decide +kernel
theorem dM_look_13 : decode cM_look 13 = .ok (.iconst (-1), 1) := by decide +kernel
theorem dM_look_14 : decode cM_look 14 = .ok (.ireturn, 1) := by decide +kernel
theorem dM_look_15 : decode cM_look 15 = .ok (.iconst 0, 1) := by decide +kernel
theorem dM_look_16 : decode cM_look 16 = .ok (.istore_n 3, 1) := by decide +kernel
theorem dM_look_17 : decode cM_look 17 = .ok (.iload_n 2, 1) := by decide +kernel
theorem dM_look_18 : decode cM_look 18 = .ok (.tableswitch 176 0 5 #[38, 45, 51, 63, 70, 98], 38) := by decide +kernel
theorem dM_look_56 : decode cM_look 56 = .ok (.aload_n 0, 1) := by decide +kernel
theorem dM_look_57 : decode cM_look 57 = .ok (.getfield 7, 3) := by decide +kernel
theorem dM_look_60 : decode cM_look 60 = .ok (.iload_n 1, 1) := by decide +kernel
theorem dM_look_61 : decode cM_look 61 = .ok (.iaload, 1) := by decide +kernel
theorem dM_look_62 : decode cM_look 62 = .ok (.ireturn, 1) := by decide +kernel
theorem dM_look_63 : decode cM_look 63 = .ok (.aload_n 0, 1) := by decide +kernel
theorem dM_look_64 : decode cM_look 64 = .ok (.iload_n 1, 1) := by decide +kernel
theorem dM_look_65 : decode cM_look 65 = .ok (.invokevirtual 95, 3) := by decide +kernel
theorem dM_look_68 : decode cM_look 68 = .ok (.ireturn, 1) := by decide +kernel
theorem dM_look_69 : decode cM_look 69 = .ok (.aload_n 0, 1) := by decide +kernel
theorem dM_look_70 : decode cM_look 70 = .ok (.getfield 29, 3) := by decide +kernel
theorem dM_look_73 : decode cM_look 73 = .ok (.aload_n 0, 1) := by decide +kernel
theorem dM_look_74 : decode cM_look 74 = .ok (.getfield 7, 3) := by decide +kernel
theorem dM_look_77 : decode cM_look 77 = .ok (.iload_n 1, 1) := by decide +kernel
theorem dM_look_78 : decode cM_look 78 = .ok (.iaload, 1) := by decide +kernel
theorem dM_look_79 : decode cM_look 79 = .ok (.iaload, 1) := by decide +kernel
theorem dM_look_80 : decode cM_look 80 = .ok (.ireturn, 1) := by decide +kernel
theorem dM_look_81 : decode cM_look 81 = .ok (.aload_n 0, 1) := by decide +kernel
theorem dM_look_82 : decode cM_look 82 = .ok (.getfield 13, 3) := by decide +kernel
theorem dM_look_85 : decode cM_look 85 = .ok (.iload_n 1, 1) := by decide +kernel
theorem dM_look_86 : decode cM_look 86 = .ok (.iaload, 1) := by decide +kernel
theorem dM_look_87 : decode cM_look 87 = .ok (.ireturn, 1) := by decide +kernel
theorem dM_look_88 : decode cM_look 88 = .ok (.aload_n 0, 1) := by decide +kernel
theorem dM_look_89 : decode cM_look 89 = .ok (.iload_n 1, 1) := by decide +kernel
theorem dM_look_90 : decode cM_look 90 = .ok (.invokevirtual 95, 3) := by decide +kernel
theorem dM_look_93 : decode cM_look 93 = .ok (.istore 4, 2) := by decide +kernel
theorem dM_look_95 : decode cM_look 95 = .ok (.iload 4, 2) := by decide +kernel
theorem dM_look_97 : decode cM_look 97 = .ok (.ifCond .lt 17, 3) := by decide +kernel
theorem dM_look_100 : decode cM_look 100 = .ok (.iinc 3 1, 3) := by decide +kernel
theorem dM_look_103 : decode cM_look 103 = .ok (.aload_n 0, 1) := by decide +kernel
theorem dM_look_104 : decode cM_look 104 = .ok (.iload 4, 2) := by decide +kernel
theorem dM_look_106 : decode cM_look 106 = .ok (.invokevirtual 95, 3) := by decide +kernel
theorem dM_look_109 : decode cM_look 109 = .ok (.istore 4, 2) := by decide +kernel
theorem dM_look_111 : decode cM_look 111 = .ok (.goto (-16), 3) := by decide +kernel
theorem dM_look_114 : decode cM_look 114 = .ok (.iload_n 3, 1) := by decide +kernel
theorem dM_look_115 : decode cM_look 115 = .ok (.ireturn, 1) := by decide +kernel
theorem dM_look_116 : decode cM_look 116 = .ok (.iconst 0, 1) := by decide +kernel
theorem dM_look_117 : decode cM_look 117 = .ok (.istore 4, 2) := by decide +kernel
theorem dM_look_119 : decode cM_look 119 = .ok (.iload 4, 2) := by decide +kernel
theorem dM_look_121 : decode cM_look 121 = .ok (.aload_n 0, 1) := by decide +kernel
theorem dM_look_122 : decode cM_look 122 = .ok (.getfield 65, 3) := by decide +kernel
theorem dM_look_125 : decode cM_look 125 = .ok (.if_icmp .ge 67, 3) := by decide +kernel
theorem dM_look_128 : decode cM_look 128 = .ok (.iconst 0, 1) := by decide +kernel
theorem dM_look_129 : decode cM_look 129 = .ok (.istore 5, 2) := by decide +kernel
theorem dM_look_131 : decode cM_look 131 = .ok (.aload_n 0, 1) := by decide +kernel
theorem dM_look_132 : decode cM_look 132 = .ok (.iload 4, 2) := by decide +kernel
theorem dM_look_134 : decode cM_look 134 = .ok (.invokevirtual 95, 3) := by decide +kernel
theorem dM_look_137 : decode cM_look 137 = .ok (.istore 6, 2) := by decide +kernel
theorem dM_look_139 : decode cM_look 139 = .ok (.iload 6, 2) := by decide +kernel
theorem dM_look_141 : decode cM_look 141 = .ok (.ifCond .lt 32, 3) := by decide +kernel
theorem dM_look_144 : decode cM_look 144 = .ok (.iload 5, 2) := by decide +kernel
theorem dM_look_146 : decode cM_look 146 = .ok (.ifCond .ne 9, 3) := by decide +kernel
theorem dM_look_149 : decode cM_look 149 = .ok (.iload 6, 2) := by decide +kernel
theorem dM_look_151 : decode cM_look 151 = .ok (.iload_n 1, 1) := by decide +kernel
theorem dM_look_152 : decode cM_look 152 = .ok (.if_icmp .ne 7, 3) := by decide +kernel
theorem dM_look_155 : decode cM_look 155 = .ok (.iconst 1, 1) := by decide +kernel
theorem dM_look_156 : decode cM_look 156 = .ok (.goto 4, 3) := by decide +kernel
theorem dM_look_159 : decode cM_look 159 = .ok (.iconst 0, 1) := by decide +kernel
theorem dM_look_160 : decode cM_look 160 = .ok (.istore 5, 2) := by decide +kernel
theorem dM_look_162 : decode cM_look 162 = .ok (.aload_n 0, 1) := by decide +kernel
theorem dM_look_163 : decode cM_look 163 = .ok (.iload 6, 2) := by decide +kernel
theorem dM_look_165 : decode cM_look 165 = .ok (.invokevirtual 95, 3) := by decide +kernel
theorem dM_look_168 : decode cM_look 168 = .ok (.istore 6, 2) := by decide +kernel
theorem dM_look_170 : decode cM_look 170 = .ok (.goto (-31), 3) := by decide +kernel
theorem dM_look_173 : decode cM_look 173 = .ok (.iload_n 3, 1) := by decide +kernel
theorem dM_look_174 : decode cM_look 174 = .ok (.iload 5, 2) := by decide +kernel
theorem dM_look_176 : decode cM_look 176 = .ok (.ifCond .eq 7, 3) := by decide +kernel
theorem dM_look_179 : decode cM_look 179 = .ok (.iconst 1, 1) := by decide +kernel
theorem dM_look_180 : decode cM_look 180 = .ok (.goto 4, 3) := by decide +kernel
theorem dM_look_183 : decode cM_look 183 = .ok (.iconst 0, 1) := by decide +kernel
theorem dM_look_184 : decode cM_look 184 = .ok (.iadd, 1) := by decide +kernel
theorem dM_look_185 : decode cM_look 185 = .ok (.istore_n 3, 1) := by decide +kernel
theorem dM_look_186 : decode cM_look 186 = .ok (.iinc 4 1, 3) := by decide +kernel
theorem dM_look_189 : decode cM_look 189 = .ok (.goto (-70), 3) := by decide +kernel
theorem dM_look_192 : decode cM_look 192 = .ok (.iload_n 3, 1) := by decide +kernel
theorem dM_look_193 : decode cM_look 193 = .ok (.ireturn, 1) := by decide +kernel
theorem dM_look_194 : decode cM_look 194 = .ok (.iconst (-1), 1) := by decide +kernel
theorem dM_look_195 : decode cM_look 195 = .ok (.ireturn, 1) := by decide +kernel
theorem dM_shape_0 : decode cM_shape 0 = .ok (.aload_n 0, 1) := by decide +kernel
theorem dM_shape_1 : decode cM_shape 1 = .ok (.iconst 0, 1) := by decide +kernel
theorem dM_shape_2 : decode cM_shape 2 = .ok (.putfield 62, 3) := by decide +kernel
theorem dM_shape_5 : decode cM_shape 5 = .ok (.iload_n 1, 1) := by decide +kernel
theorem dM_shape_6 : decode cM_shape 6 = .ok (.ifCond .lt 15, 3) := by decide +kernel
theorem dM_shape_9 : decode cM_shape 9 = .ok (.iload_n 1, 1) := by decide +kernel
theorem dM_shape_10 : decode cM_shape 10 = .ok (.aload_n 0, 1) := by decide +kernel
theorem dM_shape_11 : decode cM_shape 11 = .ok (.getfield 19, 3) := by decide +kernel
theorem dM_shape_14 : decode cM_shape 14 = .ok (.if_icmp .ge 7, 3) := by decide +kernel
theorem dM_shape_17 : decode cM_shape 17 = .ok (.iload_n 2, 1) := by decide +kernel
theorem dM_shape_18 : decode cM_shape 18 = .ok (.ifCond .ge 5, 3) := by decide +kernel
theorem dM_shape_21 : decode cM_shape 21 = .ok (.iconst (-1), 1) := by decide +kernel
theorem dM_shape_22 : decode cM_shape 22 = .ok (.ireturn, 1) := by decide +kernel
theorem dM_shape_23 : decode cM_shape 23 = .ok (.iload_n 2, 1) := by decide +kernel
theorem dM_shape_24 : decode cM_shape 24 = .ok (.iconst 3, 1) := by decide +kernel
theorem dM_shape_25 : decode cM_shape 25 = .ok (.if_icmp .le 33, 3) := by decide +kernel
theorem dM_shape_28 : decode cM_shape 28 = .ok (.iload_n 2, 1) := by decide +kernel
theorem dM_shape_29 : decode cM_shape 29 = .ok (.iconst 4, 1) := by decide +kernel
theorem dM_shape_30 : decode cM_shape 30 = .ok (.isub, 1) := by decide +kernel
theorem dM_shape_31 : decode cM_shape 31 = .ok (.aload_n 0, 1) := by decide +kernel
theorem dM_shape_32 : decode cM_shape 32 = .ok (.getfield 29, 3) := by decide +kernel
theorem dM_shape_35 : decode cM_shape 35 = .ok (.iload_n 1, 1) := by decide +kernel
theorem dM_shape_36 : decode cM_shape 36 = .ok (.iaload, 1) := by decide +kernel
theorem dM_shape_37 : decode cM_shape 37 = .ok (.if_icmp .ge 19, 3) := by decide +kernel
theorem dM_shape_40 : decode cM_shape 40 = .ok (.aload_n 0, 1) := by decide +kernel
theorem dM_shape_41 : decode cM_shape 41 = .ok (.getfield 32, 3) := by decide +kernel
theorem dM_shape_44 : decode cM_shape 44 = .ok (.bipush 12, 2) := by decide +kernel
theorem dM_shape_46 : decode cM_shape 46 = .ok (.iload_n 1, 1) := by decide +kernel
theorem dM_shape_47 : decode cM_shape 47 = .ok (.imul, 1) := by decide +kernel
theorem dM_shape_48 : decode cM_shape 48 = .ok (.iload_n 2, 1) := by decide +kernel
theorem dM_shape_49 : decode cM_shape 49 = .ok (.iadd, 1) := by decide +kernel
theorem dM_shape_50 : decode cM_shape 50 = .ok (.iconst 4, 1) := by decide +kernel
theorem dM_shape_51 : decode cM_shape 51 = .ok (.isub, 1) := by decide +kernel
theorem dM_shape_52 : decode cM_shape 52 = .ok (.iaload, 1) := by decide +kernel
theorem dM_shape_53 : decode cM_shape 53 = .ok (.goto 4, 3) := by decide +kernel
theorem dM_shape_56 : decode cM_shape 56 = .ok (.iconst (-1), 1) := by decide +kernel
theorem dM_shape_57 : decode cM_shape 57 = .ok (.ireturn, 1) := by decide +kernel
theorem dM_shape_58 : decode cM_shape 58 = .ok (.iconst 0, 1) := by decide +kernel
theorem dM_shape_59 : decode cM_shape 59 = .ok (.istore_n 3, 1) := by decide +kernel
theorem dM_shape_60 : decode cM_shape 60 = .ok (.iconst 0, 1) := by decide +kernel
theorem dM_shape_61 : decode cM_shape 61 = .ok (.istore 4, 2) := by decide +kernel
theorem dM_shape_63 : decode cM_shape 63 = .ok (.iload 4, 2) := by decide +kernel
theorem dM_shape_65 : decode cM_shape 65 = .ok (.aload_n 0, 1) := by decide +kernel
theorem dM_shape_66 : decode cM_shape 66 = .ok (.getfield 65, 3) := by decide +kernel
theorem dM_shape_69 : decode cM_shape 69 = .ok (.if_icmp .ge 28, 3) := by decide +kernel
theorem dM_shape_72 : decode cM_shape 72 = .ok (.iload_n 3, 1) := by decide +kernel
theorem dM_shape_73 : decode cM_shape 73 = .ok (.aload_n 0, 1) := by decide +kernel
theorem dM_shape_74 : decode cM_shape 74 = .ok (.getfield 7, 3) := by decide +kernel
theorem dM_shape_77 : decode cM_shape 77 = .ok (.iload 4, 2) := by decide +kernel
theorem dM_shape_79 : decode cM_shape 79 = .ok (.iaload, 1) := by decide +kernel
theorem dM_shape_80 : decode cM_shape 80 = .ok (.iload_n 1, 1) := by decide +kernel
theorem dM_shape_81 : decode cM_shape 81 = .ok (.if_icmp .ne 7, 3) := by decide +kernel
theorem dM_shape_84 : decode cM_shape 84 = .ok (.iconst 1, 1) := by decide +kernel
theorem dM_shape_85 : decode cM_shape 85 = .ok (.goto 4, 3) := by decide +kernel
theorem dM_shape_88 : decode cM_shape 88 = .ok (.iconst 0, 1) := by decide +kernel
theorem dM_shape_89 : decode cM_shape 89 = .ok (.iadd, 1) := by decide +kernel
theorem dM_shape_90 : decode cM_shape 90 = .ok (.istore_n 3, 1) := by decide +kernel
theorem dM_shape_91 : decode cM_shape 91 = .ok (.iinc 4 1, 3) := by decide +kernel
theorem dM_shape_94 : decode cM_shape 94 = .ok (.goto (-31), 3) := by decide +kernel
theorem dM_shape_97 : decode cM_shape 97 = .ok (.iload_n 2, 1) := by decide +kernel
theorem dM_shape_98 : decode cM_shape 98 = .ok (.ifCond .ne 12, 3) := by decide +kernel
theorem dM_shape_101 : decode cM_shape 101 = .ok (.aload_n 0, 1) := by decide +kernel
theorem dM_shape_102 : decode cM_shape 102 = .ok (.getfield 23, 3) := by decide +kernel
theorem dM_shape_105 : decode cM_shape 105 = .ok (.iload_n 1, 1) := by decide +kernel
theorem dM_shape_106 : decode cM_shape 106 = .ok (.iaload, 1) := by decide +kernel
theorem dM_shape_107 : decode cM_shape 107 = .ok (.goto 32, 3) := by decide +kernel
theorem dM_shape_110 : decode cM_shape 110 = .ok (.iload_n 2, 1) := by decide +kernel
theorem dM_shape_111 : decode cM_shape 111 = .ok (.iconst 1, 1) := by decide +kernel
theorem dM_shape_112 : decode cM_shape 112 = .ok (.if_icmp .ne 12, 3) := by decide +kernel
theorem dM_shape_115 : decode cM_shape 115 = .ok (.aload_n 0, 1) := by decide +kernel
theorem dM_shape_116 : decode cM_shape 116 = .ok (.getfield 29, 3) := by decide +kernel
theorem dM_shape_119 : decode cM_shape 119 = .ok (.iload_n 1, 1) := by decide +kernel
theorem dM_shape_120 : decode cM_shape 120 = .ok (.iaload, 1) := by decide +kernel
theorem dM_shape_121 : decode cM_shape 121 = .ok (.goto 18, 3) := by decide +kernel
theorem dM_shape_124 : decode cM_shape 124 = .ok (.iload_n 2, 1) := by decide +kernel
theorem dM_shape_125 : decode cM_shape 125 = .ok (.iconst 2, 1) := by decide +kernel
theorem dM_shape_126 : decode cM_shape 126 = .ok (.if_icmp .ne 7, 3) := by decide +kernel
theorem dM_shape_129 : decode cM_shape 129 = .ok (.iload_n 3, 1) := by decide +kernel
theorem dM_shape_130 : decode cM_shape 130 = .ok (.goto 9, 3) := by decide +kernel
theorem dM_shape_133 : decode cM_shape 133 = .ok (.aload_n 0, 1) := by decide +kernel
theorem dM_shape_134 : decode cM_shape 134 = .ok (.getfield 26, 3) := by decide +kernel
theorem dM_shape_137 : decode cM_shape 137 = .ok (.iload_n 1, 1) := by decide +kernel
theorem dM_shape_138 : decode cM_shape 138 = .ok (.iaload, 1) := by decide +kernel
theorem dM_shape_139 : decode cM_shape 139 = .ok (.ireturn, 1) := by decide +kernel
theorem dM_finding_0 : decode cM_finding 0 = .ok (.aload_n 0, 1) := by decide +kernel
theorem dM_finding_1 : decode cM_finding 1 = .ok (.iconst 0, 1) := by decide +kernel
theorem dM_finding_2 : decode cM_finding 2 = .ok (.putfield 62, 3) := by decide +kernel
theorem dM_finding_5 : decode cM_finding 5 = .ok (.aload_n 0, 1) := by decide +kernel
theorem dM_finding_6 : decode cM_finding 6 = .ok (.iload_n 1, 1) := by decide +kernel
theorem dM_finding_7 : decode cM_finding 7 = .ok (.invokevirtual 101, 3) := by decide +kernel
theorem dM_finding_10 : decode cM_finding 10 = .ok (.ifCond .ne 5, 3) := by decide +kernel
theorem dM_finding_13 : decode cM_finding 13 = .ok (.iconst (-1), 1) := by decide +kernel
theorem dM_finding_14 : decode cM_finding 14 = .ok (.ireturn, 1) := by decide +kernel
theorem dM_finding_15 : decode cM_finding 15 = .ok (.iload_n 2, 1) := by decide +kernel
theorem dM_finding_16 : decode cM_finding 16 = .ok (.ifCond .ne 12, 3) := by decide +kernel
theorem dM_finding_19 : decode cM_finding 19 = .ok (.aload_n 0, 1) := by decide +kernel
theorem dM_finding_20 : decode cM_finding 20 = .ok (.getfield 35, 3) := by decide +kernel
theorem dM_finding_23 : decode cM_finding 23 = .ok (.iload_n 1, 1) := by decide +kernel
theorem dM_finding_24 : decode cM_finding 24 = .ok (.iaload, 1) := by decide +kernel
theorem dM_finding_25 : decode cM_finding 25 = .ok (.goto 81, 3) := by decide +kernel
theorem dM_finding_28 : decode cM_finding 28 = .ok (.iload_n 2, 1) := by decide +kernel
theorem dM_finding_29 : decode cM_finding 29 = .ok (.iconst 1, 1) := by decide +kernel
theorem dM_finding_30 : decode cM_finding 30 = .ok (.if_icmp .ne 12, 3) := by decide +kernel
theorem dM_finding_33 : decode cM_finding 33 = .ok (.aload_n 0, 1) := by decide +kernel
theorem dM_finding_34 : decode cM_finding 34 = .ok (.getfield 38, 3) := by decide +kernel
theorem dM_finding_37 : decode cM_finding 37 = .ok (.iload_n 1, 1) := by decide +kernel
theorem dM_finding_38 : decode cM_finding 38 = .ok (.iaload, 1) := by decide +kernel
theorem dM_finding_39 : decode cM_finding 39 = .ok (.goto 67, 3) := by decide +kernel
theorem dM_finding_42 : decode cM_finding 42 = .ok (.iload_n 2, 1) := by decide +kernel
theorem dM_finding_43 : decode cM_finding 43 = .ok (.iconst 2, 1) := by decide +kernel
theorem dM_finding_44 : decode cM_finding 44 = .ok (.if_icmp .ne 12, 3) := by decide +kernel
theorem dM_finding_47 : decode cM_finding 47 = .ok (.aload_n 0, 1) := by decide +kernel
theorem dM_finding_48 : decode cM_finding 48 = .ok (.getfield 41, 3) := by decide +kernel
theorem dM_finding_51 : decode cM_finding 51 = .ok (.iload_n 1, 1) := by decide +kernel
theorem dM_finding_52 : decode cM_finding 52 = .ok (.iaload, 1) := by decide +kernel
theorem dM_finding_53 : decode cM_finding 53 = .ok (.goto 53, 3) := by decide +kernel
theorem dM_finding_56 : decode cM_finding 56 = .ok (.iload_n 2, 1) := by decide +kernel
theorem dM_finding_57 : decode cM_finding 57 = .ok (.iconst 3, 1) := by decide +kernel
theorem dM_finding_58 : decode cM_finding 58 = .ok (.if_icmp .ne 12, 3) := by decide +kernel
theorem dM_finding_61 : decode cM_finding 61 = .ok (.aload_n 0, 1) := by decide +kernel
theorem dM_finding_62 : decode cM_finding 62 = .ok (.getfield 44, 3) := by decide +kernel
theorem dM_finding_65 : decode cM_finding 65 = .ok (.iload_n 1, 1) := by decide +kernel
theorem dM_finding_66 : decode cM_finding 66 = .ok (.iaload, 1) := by decide +kernel
theorem dM_finding_67 : decode cM_finding 67 = .ok (.goto 39, 3) := by decide +kernel
theorem dM_finding_70 : decode cM_finding 70 = .ok (.iload_n 2, 1) := by decide +kernel
theorem dM_finding_71 : decode cM_finding 71 = .ok (.iconst 4, 1) := by decide +kernel
theorem dM_finding_72 : decode cM_finding 72 = .ok (.if_icmp .ne 12, 3) := by decide +kernel
theorem dM_finding_75 : decode cM_finding 75 = .ok (.aload_n 0, 1) := by decide +kernel
theorem dM_finding_76 : decode cM_finding 76 = .ok (.getfield 47, 3) := by decide +kernel
theorem dM_finding_79 : decode cM_finding 79 = .ok (.iload_n 1, 1) := by decide +kernel
theorem dM_finding_80 : decode cM_finding 80 = .ok (.iaload, 1) := by decide +kernel
theorem dM_finding_81 : decode cM_finding 81 = .ok (.goto 25, 3) := by decide +kernel
theorem dM_finding_84 : decode cM_finding 84 = .ok (.iload_n 2, 1) := by decide +kernel
theorem dM_finding_85 : decode cM_finding 85 = .ok (.iconst 5, 1) := by decide +kernel
theorem dM_finding_86 : decode cM_finding 86 = .ok (.if_icmp .ne 19, 3) := by decide +kernel
theorem dM_finding_89 : decode cM_finding 89 = .ok (.aload_n 0, 1) := by decide +kernel
theorem dM_finding_90 : decode cM_finding 90 = .ok (.iload_n 1, 1) := by decide +kernel
theorem dM_finding_91 : decode cM_finding 91 = .ok (.invokevirtual 104, 3) := by decide +kernel
theorem dM_finding_94 : decode cM_finding 94 = .ok (.ifCond .eq 7, 3) := by decide +kernel
theorem dM_finding_97 : decode cM_finding 97 = .ok (.iconst 1, 1) := by decide +kernel
theorem dM_finding_98 : decode cM_finding 98 = .ok (.goto 8, 3) := by decide +kernel
theorem dM_finding_101 : decode cM_finding 101 = .ok (.iconst 0, 1) := by decide +kernel
theorem dM_finding_102 : decode cM_finding 102 = .ok (.goto 4, 3) := by decide +kernel
theorem dM_finding_105 : decode cM_finding 105 = .ok (.iconst (-1), 1) := by decide +kernel
theorem dM_finding_106 : decode cM_finding 106 = .ok (.ireturn, 1) := by decide +kernel
theorem dM_count_0 : decode cM_count 0 = .ok (.aload_n 0, 1) := by decide +kernel
theorem dM_count_1 : decode cM_count 1 = .ok (.iconst 0, 1) := by decide +kernel
theorem dM_count_2 : decode cM_count 2 = .ok (.putfield 62, 3) := by decide +kernel
theorem dM_count_5 : decode cM_count 5 = .ok (.iconst 0, 1) := by decide +kernel
theorem dM_count_6 : decode cM_count 6 = .ok (.istore_n 2, 1) := by decide +kernel
theorem dM_count_7 : decode cM_count 7 = .ok (.iconst 0, 1) := by decide +kernel
theorem dM_count_8 : decode cM_count 8 = .ok (.istore_n 3, 1) := by decide +kernel
theorem dM_count_9 : decode cM_count 9 = .ok (.iload_n 3, 1) := by decide +kernel
theorem dM_count_10 : decode cM_count 10 = .ok (.bipush 100, 2) := by decide +kernel
theorem dM_count_12 : decode cM_count 12 = .ok (.if_icmp .ge 33, 3) := by decide +kernel
theorem dM_count_15 : decode cM_count 15 = .ok (.iload_n 3, 1) := by decide +kernel
theorem dM_count_16 : decode cM_count 16 = .ok (.aload_n 0, 1) := by decide +kernel
theorem dM_count_17 : decode cM_count 17 = .ok (.getfield 98, 3) := by decide +kernel
theorem dM_count_20 : decode cM_count 20 = .ok (.if_icmp .ge 25, 3) := by decide +kernel
theorem dM_count_23 : decode cM_count 23 = .ok (.iload_n 2, 1) := by decide +kernel
theorem dM_count_24 : decode cM_count 24 = .ok (.aload_n 0, 1) := by decide +kernel
theorem dM_count_25 : decode cM_count 25 = .ok (.iload_n 3, 1) := by decide +kernel
theorem dM_count_26 : decode cM_count 26 = .ok (.invokevirtual 104, 3) := by decide +kernel
theorem dM_count_29 : decode cM_count 29 = .ok (.ifCond .eq 7, 3) := by decide +kernel
theorem dM_count_32 : decode cM_count 32 = .ok (.iconst 1, 1) := by decide +kernel
theorem dM_count_33 : decode cM_count 33 = .ok (.goto 4, 3) := by decide +kernel
theorem dM_count_36 : decode cM_count 36 = .ok (.iconst 0, 1) := by decide +kernel
theorem dM_count_37 : decode cM_count 37 = .ok (.iadd, 1) := by decide +kernel
theorem dM_count_38 : decode cM_count 38 = .ok (.istore_n 2, 1) := by decide +kernel
theorem dM_count_39 : decode cM_count 39 = .ok (.iinc 3 1, 3) := by decide +kernel
theorem dM_count_42 : decode cM_count 42 = .ok (.goto (-33), 3) := by decide +kernel
theorem dM_count_45 : decode cM_count 45 = .ok (.iload_n 1, 1) := by decide +kernel
theorem dM_count_46 : decode cM_count 46 = .ok (.ifCond .ne 10, 3) := by decide +kernel
theorem dM_count_49 : decode cM_count 49 = .ok (.aload_n 0, 1) := by decide +kernel
theorem dM_count_50 : decode cM_count 50 = .ok (.getfield 65, 3) := by decide +kernel
theorem dM_count_53 : decode cM_count 53 = .ok (.goto 37, 3) := by decide +kernel
theorem dM_count_56 : decode cM_count 56 = .ok (.iload_n 1, 1) := by decide +kernel
theorem dM_count_57 : decode cM_count 57 = .ok (.iconst 1, 1) := by decide +kernel
theorem dM_count_58 : decode cM_count 58 = .ok (.if_icmp .ne 10, 3) := by decide +kernel
theorem dM_count_61 : decode cM_count 61 = .ok (.aload_n 0, 1) := by decide +kernel
theorem dM_count_62 : decode cM_count 62 = .ok (.getfield 19, 3) := by decide +kernel
theorem dM_count_65 : decode cM_count 65 = .ok (.goto 25, 3) := by decide +kernel
theorem dM_count_68 : decode cM_count 68 = .ok (.iload_n 1, 1) := by decide +kernel
theorem dM_count_69 : decode cM_count 69 = .ok (.iconst 2, 1) := by decide +kernel
theorem dM_count_70 : decode cM_count 70 = .ok (.if_icmp .ne 10, 3) := by decide +kernel
theorem dM_count_73 : decode cM_count 73 = .ok (.aload_n 0, 1) := by decide +kernel
theorem dM_count_74 : decode cM_count 74 = .ok (.getfield 98, 3) := by decide +kernel
theorem dM_count_77 : decode cM_count 77 = .ok (.goto 13, 3) := by decide +kernel
theorem dM_count_80 : decode cM_count 80 = .ok (.iload_n 1, 1) := by decide +kernel
theorem dM_count_81 : decode cM_count 81 = .ok (.iconst 3, 1) := by decide +kernel
theorem dM_count_82 : decode cM_count 82 = .ok (.if_icmp .ne 7, 3) := by decide +kernel
theorem dM_count_85 : decode cM_count 85 = .ok (.iload_n 2, 1) := by decide +kernel
theorem dM_count_86 : decode cM_count 86 = .ok (.goto 4, 3) := by decide +kernel
theorem dM_count_89 : decode cM_count 89 = .ok (.iconst (-1), 1) := by decide +kernel
theorem dM_count_90 : decode cM_count 90 = .ok (.ireturn, 1) := by decide +kernel
end
section
theorem dO_init_0 : decode cO_init 0 = .ok (.aload_n 0, 1) := by decide +kernel
theorem dO_init_1 : decode cO_init 1 = .ok (.invokespecial 3, 3) := by decide +kernel
theorem dO_init_4 : decode cO_init 4 = .ok (.aload_n 0, 1) := by decide +kernel
theorem dO_init_5 : decode cO_init 5 = .ok (.bipush 60, 2) := by decide +kernel
theorem dO_init_7 : decode cO_init 7 = .ok (.newarray .int, 2) := by decide +kernel
theorem dO_init_9 : decode cO_init 9 = .ok (.putfield 9, 3) := by decide +kernel
theorem dO_init_12 : decode cO_init 12 = .ok (.aload_n 0, 1) := by decide +kernel
theorem dO_init_13 : decode cO_init 13 = .ok (.bipush 60, 2) := by decide +kernel
theorem dO_init_15 : decode cO_init 15 = .ok (.newarray .int, 2) := by decide +kernel
theorem dO_init_17 : decode cO_init 17 = .ok (.putfield 15, 3) := by decide +kernel
theorem dO_init_20 : decode cO_init 20 = .ok (.aload_n 0, 1) := by decide +kernel
theorem dO_init_21 : decode cO_init 21 = .ok (.bipush 60, 2) := by decide +kernel
theorem dO_init_23 : decode cO_init 23 = .ok (.newarray .int, 2) := by decide +kernel
theorem dO_init_25 : decode cO_init 25 = .ok (.putfield 18, 3) := by decide +kernel
theorem dO_init_28 : decode cO_init 28 = .ok (.aload_n 0, 1) := by decide +kernel
theorem dO_init_29 : decode cO_init 29 = .ok (.bipush 60, 2) := by decide +kernel
theorem dO_init_31 : decode cO_init 31 = .ok (.bipush 12, 2) := by decide +kernel
theorem dO_init_33 : decode cO_init 33 = .ok (.multianewarray 21 2, 4) := by decide +kernel
theorem dO_init_37 : decode cO_init 37 = .ok (.putfield 23, 3) := by decide +kernel
theorem dO_init_40 : decode cO_init 40 = .ok (.aload_n 0, 1) := by decide +kernel
theorem dO_init_41 : decode cO_init 41 = .ok (.iconst 0, 1) := by decide +kernel
theorem dO_init_42 : decode cO_init 42 = .ok (.putfield 26, 3) := by decide +kernel
theorem dO_init_45 : decode cO_init 45 = .ok (.return_, 1) := by decide +kernel
theorem dO_has_0 : decode cO_has 0 = .ok (.iload_n 1, 1) := by decide +kernel
theorem dO_has_1 : decode cO_has 1 = .ok (.ifCond .lt 15, 3) := by decide +kernel
theorem dO_has_4 : decode cO_has 4 = .ok (.iload_n 1, 1) := by decide +kernel
theorem dO_has_5 : decode cO_has 5 = .ok (.aload_n 0, 1) := by decide +kernel
theorem dO_has_6 : decode cO_has 6 = .ok (.getfield 26, 3) := by decide +kernel
theorem dO_has_9 : decode cO_has 9 = .ok (.if_icmp .ge 7, 3) := by decide +kernel
theorem dO_has_12 : decode cO_has 12 = .ok (.iconst 1, 1) := by decide +kernel
theorem dO_has_13 : decode cO_has 13 = .ok (.goto 4, 3) := by decide +kernel
theorem dO_has_16 : decode cO_has 16 = .ok (.iconst 0, 1) := by decide +kernel
theorem dO_has_17 : decode cO_has 17 = .ok (.ireturn, 1) := by decide +kernel
theorem dO_canBePrototype_0 : decode cO_canBePrototype 0 = .ok (.iload_n 1, 1) := by decide +kernel
theorem dO_canBePrototype_1 : decode cO_canBePrototype 1 = .ok (.iconst (-1), 1) := by decide +kernel
theorem dO_canBePrototype_2 : decode cO_canBePrototype 2 = .ok (.if_icmp .eq 11, 3) := by decide +kernel
theorem dO_canBePrototype_5 : decode cO_canBePrototype 5 = .ok (.aload_n 0, 1) := by decide +kernel
theorem dO_canBePrototype_6 : decode cO_canBePrototype 6 = .ok (.iload_n 1, 1) := by decide +kernel
theorem dO_canBePrototype_7 : decode cO_canBePrototype 7 = .ok (.invokevirtual 30, 3) := by decide +kernel
theorem dO_canBePrototype_10 : decode cO_canBePrototype 10 = .ok (.ifCond .eq 7, 3) := by decide +kernel
theorem dO_canBePrototype_13 : decode cO_canBePrototype 13 = .ok (.iconst 1, 1) := by decide +kernel
theorem dO_canBePrototype_14 : decode cO_canBePrototype 14 = .ok (.goto 4, 3) := by decide +kernel
theorem dO_canBePrototype_17 : decode cO_canBePrototype 17 = .ok (.iconst 0, 1) := by decide +kernel
theorem dO_canBePrototype_18 : decode cO_canBePrototype 18 = .ok (.ireturn, 1) := by decide +kernel
theorem dO_add_0 : decode cO_add 0 = .ok (.aload_n 0, 1) := by decide +kernel
theorem dO_add_1 : decode cO_add 1 = .ok (.getfield 26, 3) := by decide +kernel
theorem dO_add_4 : decode cO_add 4 = .ok (.istore_n 3, 1) := by decide +kernel
theorem dO_add_5 : decode cO_add 5 = .ok (.aload_n 0, 1) := by decide +kernel
theorem dO_add_6 : decode cO_add 6 = .ok (.getfield 9, 3) := by decide +kernel
theorem dO_add_9 : decode cO_add 9 = .ok (.iload_n 3, 1) := by decide +kernel
theorem dO_add_10 : decode cO_add 10 = .ok (.iload_n 1, 1) := by decide +kernel
theorem dO_add_11 : decode cO_add 11 = .ok (.iastore, 1) := by decide +kernel
theorem dO_add_12 : decode cO_add 12 = .ok (.aload_n 0, 1) := by decide +kernel
theorem dO_add_13 : decode cO_add 13 = .ok (.getfield 15, 3) := by decide +kernel
theorem dO_add_16 : decode cO_add 16 = .ok (.iload_n 3, 1) := by decide +kernel
theorem dO_add_17 : decode cO_add 17 = .ok (.iload_n 2, 1) := by decide +kernel
theorem dO_add_18 : decode cO_add 18 = .ok (.iastore, 1) := by decide +kernel
theorem dO_add_19 : decode cO_add 19 = .ok (.aload_n 0, 1) := by decide +kernel
theorem dO_add_20 : decode cO_add 20 = .ok (.dup, 1) := by decide +kernel
theorem dO_add_21 : decode cO_add 21 = .ok (.getfield 26, 3) := by decide +kernel
theorem dO_add_24 : decode cO_add 24 = .ok (.iconst 1, 1) := by decide +kernel
theorem dO_add_25 : decode cO_add 25 = .ok (.iadd, 1) := by decide +kernel
theorem dO_add_26 : decode cO_add 26 = .ok (.putfield 26, 3) := by decide +kernel
theorem dO_add_29 : decode cO_add 29 = .ok (.iload_n 3, 1) := by decide +kernel
theorem dO_add_30 : decode cO_add 30 = .ok (.ireturn, 1) := by decide +kernel
theorem dO_closeGap_0 : decode cO_closeGap 0 = .ok (.iload_n 2, 1) := by decide +kernel
theorem dO_closeGap_1 : decode cO_closeGap 1 = .ok (.istore_n 3, 1) := by decide +kernel
theorem dO_closeGap_2 : decode cO_closeGap 2 = .ok (.iload_n 3, 1) := by decide +kernel
theorem dO_closeGap_3 : decode cO_closeGap 3 = .ok (.iconst 1, 1) := by decide +kernel
theorem dO_closeGap_4 : decode cO_closeGap 4 = .ok (.iadd, 1) := by decide +kernel
theorem dO_closeGap_5 : decode cO_closeGap 5 = .ok (.bipush 12, 2) := by decide +kernel
theorem dO_closeGap_7 : decode cO_closeGap 7 = .ok (.if_icmp .ge 27, 3) := by decide +kernel
theorem dO_closeGap_10 : decode cO_closeGap 10 = .ok (.aload_n 0, 1) := by decide +kernel
theorem dO_closeGap_11 : decode cO_closeGap 11 = .ok (.getfield 23, 3) := by decide +kernel
theorem dO_closeGap_14 : decode cO_closeGap 14 = .ok (.iload_n 1, 1) := by decide +kernel
theorem dO_closeGap_15 : decode cO_closeGap 15 = .ok (.aaload, 1) := by decide +kernel
theorem dO_closeGap_16 : decode cO_closeGap 16 = .ok (.iload_n 3, 1) := by decide +kernel
theorem dO_closeGap_17 : decode cO_closeGap 17 = .ok (.aload_n 0, 1) := by decide +kernel
theorem dO_closeGap_18 : decode cO_closeGap 18 = .ok (.getfield 23, 3) := by decide +kernel
theorem dO_closeGap_21 : decode cO_closeGap 21 = .ok (.iload_n 1, 1) := by decide +kernel
theorem dO_closeGap_22 : decode cO_closeGap 22 = .ok (.aaload, 1) := by decide +kernel
theorem dO_closeGap_23 : decode cO_closeGap 23 = .ok (.iload_n 3, 1) := by decide +kernel
theorem dO_closeGap_24 : decode cO_closeGap 24 = .ok (.iconst 1, 1) := by decide +kernel
theorem dO_closeGap_25 : decode cO_closeGap 25 = .ok (.iadd, 1) := by decide +kernel
theorem dO_closeGap_26 : decode cO_closeGap 26 = .ok (.iaload, 1) := by decide +kernel
theorem dO_closeGap_27 : decode cO_closeGap 27 = .ok (.iastore, 1) := by decide +kernel
theorem dO_closeGap_28 : decode cO_closeGap 28 = .ok (.iinc 3 1, 3) := by decide +kernel
theorem dO_closeGap_31 : decode cO_closeGap 31 = .ok (.goto (-29), 3) := by decide +kernel
theorem dO_closeGap_34 : decode cO_closeGap 34 = .ok (.return_, 1) := by decide +kernel
theorem dO_leadsTo_0 : decode cO_leadsTo 0 = .ok (.iload_n 1, 1) := by decide +kernel
theorem dO_leadsTo_1 : decode cO_leadsTo 1 = .ok (.istore_n 3, 1) := by decide +kernel
theorem dO_leadsTo_2 : decode cO_leadsTo 2 = .ok (.iconst 0, 1) := by decide +kernel
theorem dO_leadsTo_3 : decode cO_leadsTo 3 = .ok (.istore 4, 2) := by decide +kernel
theorem dO_leadsTo_5 : decode cO_leadsTo 5 = .ok (.iload_n 3, 1) := by decide +kernel
theorem dO_leadsTo_6 : decode cO_leadsTo 6 = .ok (.iconst (-1), 1) := by decide +kernel
theorem dO_leadsTo_7 : decode cO_leadsTo 7 = .ok (.if_icmp .eq 30, 3) := by decide +kernel
theorem dO_leadsTo_10 : decode cO_leadsTo 10 = .ok (.iload 4, 2) := by decide +kernel
theorem dO_leadsTo_12 : decode cO_leadsTo 12 = .ok (.bipush 60, 2) := by decide +kernel
theorem dO_leadsTo_14 : decode cO_leadsTo 14 = .ok (.if_icmp .ge 23, 3) := by decide +kernel
theorem dO_leadsTo_17 : decode cO_leadsTo 17 = .ok (.iload_n 3, 1) := by decide +kernel
theorem dO_leadsTo_18 : decode cO_leadsTo 18 = .ok (.iload_n 2, 1) := by decide +kernel
theorem dO_leadsTo_19 : decode cO_leadsTo 19 = .ok (.if_icmp .ne 5, 3) := by decide +kernel
theorem dO_leadsTo_22 : decode cO_leadsTo 22 = .ok (.iconst 1, 1) := by decide +kernel
theorem dO_leadsTo_23 : decode cO_leadsTo 23 = .ok (.ireturn, 1) := by decide +kernel
theorem dO_leadsTo_24 : decode cO_leadsTo 24 = .ok (.aload_n 0, 1) := by decide +kernel
theorem dO_leadsTo_25 : decode cO_leadsTo 25 = .ok (.getfield 9, 3) := by decide +kernel
theorem dO_leadsTo_28 : decode cO_leadsTo 28 = .ok (.iload_n 3, 1) := by decide +kernel
theorem dO_leadsTo_29 : decode cO_leadsTo 29 = .ok (.iaload, 1) := by decide +kernel
theorem dO_leadsTo_30 : decode cO_leadsTo 30 = .ok (.istore_n 3, 1) := by decide +kernel
theorem dO_leadsTo_31 : decode cO_leadsTo 31 = .ok (.iinc 4 1, 3) := by decide +kernel
theorem dO_leadsTo_34 : decode cO_leadsTo 34 = .ok (.goto (-29), 3) := by decide +kernel
theorem dO_leadsTo_37 : decode cO_leadsTo 37 = .ok (.iconst 0, 1) := by decide +kernel
theorem dO_leadsTo_38 : decode cO_leadsTo 38 = .ok (.ireturn, 1) := by decide +kernel
theorem dO_way_0 : decode cO_way 0 = .ok (.lconst 0, 1) := by decide +kernel
theorem dO_way_1 : decode cO_way 1 = .ok (.lstore_n 3, 1) := by decide +kernel
theorem dO_way_2 : decode cO_way 2 = .ok (.iload_n 1, 1) := by decide +kernel
theorem dO_way_3 : decode cO_way 3 = .ok (.istore 5, 2) := by decide +kernel
theorem dO_way_5 : decode cO_way 5 = .ok (.iconst 0, 1) := by decide +kernel
theorem dO_way_6 : decode cO_way 6 = .ok (.istore 6, 2) := by decide +kernel
theorem dO_way_8 : decode cO_way 8 = .ok (.iload 5, 2) := by decide +kernel
theorem dO_way_10 : decode cO_way 10 = .ok (.iconst (-1), 1) := by decide +kernel
theorem dO_way_11 : decode cO_way 11 = .ok (.if_icmp .eq 40, 3) := by decide +kernel
theorem dO_way_14 : decode cO_way 14 = .ok (.iload 6, 2) := by decide +kernel
theorem dO_way_16 : decode cO_way 16 = .ok (.bipush 60, 2) := by decide +kernel
theorem dO_way_18 : decode cO_way 18 = .ok (.if_icmp .ge 33, 3) := by decide +kernel
theorem dO_way_21 : decode cO_way 21 = .ok (.lload_n 3, 1) := by decide +kernel
theorem dO_way_22 : decode cO_way 22 = .ok (.lconst 1, 1) := by decide +kernel
theorem dO_way_23 : decode cO_way 23 = .ok (.iload 5, 2) := by decide +kernel
theorem dO_way_25 : decode cO_way 25 = .ok (.lshl, 1) := by decide +kernel
theorem dO_way_26 : decode cO_way 26 = .ok (.lor, 1) := by decide +kernel
theorem dO_way_27 : decode cO_way 27 = .ok (.lstore_n 3, 1) := by decide +kernel
theorem dO_way_28 : decode cO_way 28 = .ok (.iload 5, 2) := by decide +kernel
theorem dO_way_30 : decode cO_way 30 = .ok (.iload_n 2, 1) := by decide +kernel
theorem dO_way_31 : decode cO_way 31 = .ok (.if_icmp .ne 5, 3) := by decide +kernel
theorem dO_way_34 : decode cO_way 34 = .ok (.lload_n 3, 1) := by decide +kernel
theorem dO_way_35 : decode cO_way 35 = .ok (.lreturn, 1) := by decide +kernel
theorem dO_way_36 : decode cO_way 36 = .ok (.aload_n 0, 1) := by decide +kernel
theorem dO_way_37 : decode cO_way 37 = .ok (.getfield 9, 3) := by decide +kernel
theorem dO_way_40 : decode cO_way 40 = .ok (.iload 5, 2) := by decide +kernel
theorem dO_way_42 : decode cO_way 42 = .ok (.iaload, 1) := by decide +kernel
theorem dO_way_43 : decode cO_way 43 = .ok (.istore 5, 2) := by decide +kernel
theorem dO_way_45 : decode cO_way 45 = .ok (.iinc 6 1, 3) := by decide +kernel
theorem dO_way_48 : decode cO_way 48 = .ok (.goto (-40), 3) := by decide +kernel
theorem dO_way_51 : decode cO_way 51 = .ok (.lload_n 3, 1) := by decide +kernel
theorem dO_way_52 : decode cO_way 52 = .ok (.lreturn, 1) := by decide +kernel
theorem dO_countAbove_0 : decode cO_countAbove 0 = .ok (.aload_n 0, 1) := by decide +kernel
theorem dO_countAbove_1 : decode cO_countAbove 1 = .ok (.aload_n 0, 1) := by decide +kernel
theorem dO_countAbove_2 : decode cO_countAbove 2 = .ok (.getfield 9, 3) := by decide +kernel
theorem dO_countAbove_5 : decode cO_countAbove 5 = .ok (.iload_n 1, 1) := by decide +kernel
theorem dO_countAbove_6 : decode cO_countAbove 6 = .ok (.iaload, 1) := by decide +kernel
theorem dO_countAbove_7 : decode cO_countAbove 7 = .ok (.iconst (-1), 1) := by decide +kernel
theorem dO_countAbove_8 : decode cO_countAbove 8 = .ok (.invokevirtual 34, 3) := by decide +kernel
theorem dO_countAbove_11 : decode cO_countAbove 11 = .ok (.invokestatic 38, 3) := by decide +kernel
theorem dO_countAbove_14 : decode cO_countAbove 14 = .ok (.ireturn, 1) := by decide +kernel
theorem dO_countBelow_0 : decode cO_countBelow 0 = .ok (.iconst 0, 1) := by decide +kernel
theorem dO_countBelow_1 : decode cO_countBelow 1 = .ok (.istore_n 2, 1) := by decide +kernel
theorem dO_countBelow_2 : decode cO_countBelow 2 = .ok (.iconst 0, 1) := by decide +kernel
theorem dO_countBelow_3 : decode cO_countBelow 3 = .ok (.istore_n 3, 1) := by decide +kernel
theorem dO_countBelow_4 : decode cO_countBelow 4 = .ok (.iload_n 3, 1) := by decide +kernel
theorem dO_countBelow_5 : decode cO_countBelow 5 = .ok (.aload_n 0, 1) := by decide +kernel
theorem dO_countBelow_6 : decode cO_countBelow 6 = .ok (.getfield 26, 3) := by decide +kernel
theorem dO_countBelow_9 : decode cO_countBelow 9 = .ok (.if_icmp .ge 26, 3) := by decide +kernel
theorem dO_countBelow_12 : decode cO_countBelow 12 = .ok (.aload_n 0, 1) := by decide +kernel
theorem dO_countBelow_13 : decode cO_countBelow 13 = .ok (.aload_n 0, 1) := by decide +kernel
theorem dO_countBelow_14 : decode cO_countBelow 14 = .ok (.getfield 9, 3) := by decide +kernel
theorem dO_countBelow_17 : decode cO_countBelow 17 = .ok (.iload_n 3, 1) := by decide +kernel
theorem dO_countBelow_18 : decode cO_countBelow 18 = .ok (.iaload, 1) := by decide +kernel
theorem dO_countBelow_19 : decode cO_countBelow 19 = .ok (.iload_n 1, 1) := by decide +kernel
theorem dO_countBelow_20 : decode cO_countBelow 20 = .ok (.invokevirtual 44, 3) := by decide +kernel
theorem dO_countBelow_23 : decode cO_countBelow 23 = .ok (.ifCond .eq 6, 3) := by decide +kernel
theorem dO_countBelow_26 : decode cO_countBelow 26 = .ok (.iinc 2 1, 3) := by decide +kernel
theorem dO_countBelow_29 : decode cO_countBelow 29 = .ok (.iinc 3 1, 3) := by decide +kernel
theorem dO_countBelow_32 : decode cO_countBelow 32 = .ok (.goto (-28), 3) := by decide +kernel
theorem dO_countBelow_35 : decode cO_countBelow 35 = .ok (.iload_n 2, 1) := by decide +kernel
theorem dO_countBelow_36 : decode cO_countBelow 36 = .ok (.ireturn, 1) := by decide +kernel
theorem dO_countOfShape_0 : decode cO_countOfShape 0 = .ok (.iconst 0, 1) := by decide +kernel
theorem dO_countOfShape_1 : decode cO_countOfShape 1 = .ok (.istore_n 2, 1) := by decide +kernel
theorem dO_countOfShape_2 : decode cO_countOfShape 2 = .ok (.iconst 0, 1) := by decide +kernel
theorem dO_countOfShape_3 : decode cO_countOfShape 3 = .ok (.istore_n 3, 1) := by decide +kernel
theorem dO_countOfShape_4 : decode cO_countOfShape 4 = .ok (.iload_n 3, 1) := by decide +kernel
theorem dO_countOfShape_5 : decode cO_countOfShape 5 = .ok (.aload_n 0, 1) := by decide +kernel
theorem dO_countOfShape_6 : decode cO_countOfShape 6 = .ok (.getfield 26, 3) := by decide +kernel
theorem dO_countOfShape_9 : decode cO_countOfShape 9 = .ok (.if_icmp .ge 22, 3) := by decide +kernel
theorem dO_countOfShape_12 : decode cO_countOfShape 12 = .ok (.aload_n 0, 1) := by decide +kernel
theorem dO_countOfShape_13 : decode cO_countOfShape 13 = .ok (.getfield 15, 3) := by decide +kernel
theorem dO_countOfShape_16 : decode cO_countOfShape 16 = .ok (.iload_n 3, 1) := by decide +kernel
theorem dO_countOfShape_17 : decode cO_countOfShape 17 = .ok (.iaload, 1) := by decide +kernel
theorem dO_countOfShape_18 : decode cO_countOfShape 18 = .ok (.iload_n 1, 1) := by decide +kernel
theorem dO_countOfShape_19 : decode cO_countOfShape 19 = .ok (.if_icmp .ne 6, 3) := by decide +kernel
theorem dO_countOfShape_22 : decode cO_countOfShape 22 = .ok (.iinc 2 1, 3) := by decide +kernel
theorem dO_countOfShape_25 : decode cO_countOfShape 25 = .ok (.iinc 3 1, 3) := by decide +kernel
theorem dO_countOfShape_28 : decode cO_countOfShape 28 = .ok (.goto (-24), 3) := by decide +kernel
theorem dO_countOfShape_31 : decode cO_countOfShape 31 = .ok (.iload_n 2, 1) := by decide +kernel
theorem dO_countOfShape_32 : decode cO_countOfShape 32 = .ok (.ireturn, 1) := by decide +kernel
end
section
theorem dT_init_0 : decode cT_init 0 = .ok (.aload_n 0, 1) := by decide +kernel
theorem dT_init_1 : decode cT_init 1 = .ok (.invokespecial 3, 3) := by decide +kernel
theorem dT_init_4 : decode cT_init 4 = .ok (.aload_n 0, 1) := by decide +kernel
theorem dT_init_5 : decode cT_init 5 = .ok (.sipush 200, 3) := by decide +kernel
theorem dT_init_8 : decode cT_init 8 = .ok (.newarray .int, 2) := by decide +kernel
theorem dT_init_10 : decode cT_init 10 = .ok (.putfield 9, 3) := by decide +kernel
theorem dT_init_13 : decode cT_init 13 = .ok (.aload_n 0, 1) := by decide +kernel
theorem dT_init_14 : decode cT_init 14 = .ok (.sipush 200, 3) := by decide +kernel
theorem dT_init_17 : decode cT_init 17 = .ok (.newarray .int, 2) := by decide +kernel
theorem dT_init_19 : decode cT_init 19 = .ok (.putfield 15, 3) := by decide +kernel
theorem dT_init_22 : decode cT_init 22 = .ok (.aload_n 0, 1) := by decide +kernel
theorem dT_init_23 : decode cT_init 23 = .ok (.sipush 200, 3) := by decide +kernel
theorem dT_init_26 : decode cT_init 26 = .ok (.newarray .int, 2) := by decide +kernel
theorem dT_init_28 : decode cT_init 28 = .ok (.putfield 18, 3) := by decide +kernel
theorem dT_init_31 : decode cT_init 31 = .ok (.aload_n 0, 1) := by decide +kernel
theorem dT_init_32 : decode cT_init 32 = .ok (.sipush 200, 3) := by decide +kernel
theorem dT_init_35 : decode cT_init 35 = .ok (.newarray .int, 2) := by decide +kernel
theorem dT_init_37 : decode cT_init 37 = .ok (.putfield 21, 3) := by decide +kernel
theorem dT_init_40 : decode cT_init 40 = .ok (.aload_n 0, 1) := by decide +kernel
theorem dT_init_41 : decode cT_init 41 = .ok (.getfield 9, 3) := by decide +kernel
theorem dT_init_44 : decode cT_init 44 = .ok (.iconst 0, 1) := by decide +kernel
theorem dT_init_45 : decode cT_init 45 = .ok (.iconst (-1), 1) := by decide +kernel
theorem dT_init_46 : decode cT_init 46 = .ok (.iastore, 1) := by decide +kernel
theorem dT_init_47 : decode cT_init 47 = .ok (.aload_n 0, 1) := by decide +kernel
theorem dT_init_48 : decode cT_init 48 = .ok (.getfield 15, 3) := by decide +kernel
theorem dT_init_51 : decode cT_init 51 = .ok (.iconst 0, 1) := by decide +kernel
theorem dT_init_52 : decode cT_init 52 = .ok (.iconst (-1), 1) := by decide +kernel
theorem dT_init_53 : decode cT_init 53 = .ok (.iastore, 1) := by decide +kernel
theorem dT_init_54 : decode cT_init 54 = .ok (.aload_n 0, 1) := by decide +kernel
theorem dT_init_55 : decode cT_init 55 = .ok (.getfield 18, 3) := by decide +kernel
theorem dT_init_58 : decode cT_init 58 = .ok (.iconst 0, 1) := by decide +kernel
theorem dT_init_59 : decode cT_init 59 = .ok (.iconst (-1), 1) := by decide +kernel
theorem dT_init_60 : decode cT_init 60 = .ok (.iastore, 1) := by decide +kernel
theorem dT_init_61 : decode cT_init 61 = .ok (.aload_n 0, 1) := by decide +kernel
theorem dT_init_62 : decode cT_init 62 = .ok (.iconst 1, 1) := by decide +kernel
theorem dT_init_63 : decode cT_init 63 = .ok (.putfield 24, 3) := by decide +kernel
theorem dT_init_66 : decode cT_init 66 = .ok (.return_, 1) := by decide +kernel
theorem dT_has_0 : decode cT_has 0 = .ok (.iload_n 1, 1) := by decide +kernel
theorem dT_has_1 : decode cT_has 1 = .ok (.ifCond .lt 15, 3) := by decide +kernel
theorem dT_has_4 : decode cT_has 4 = .ok (.iload_n 1, 1) := by decide +kernel
theorem dT_has_5 : decode cT_has 5 = .ok (.aload_n 0, 1) := by decide +kernel
theorem dT_has_6 : decode cT_has 6 = .ok (.getfield 24, 3) := by decide +kernel
theorem dT_has_9 : decode cT_has 9 = .ok (.if_icmp .ge 7, 3) := by decide +kernel
theorem dT_has_12 : decode cT_has 12 = .ok (.iconst 1, 1) := by decide +kernel
theorem dT_has_13 : decode cT_has 13 = .ok (.goto 4, 3) := by decide +kernel
theorem dT_has_16 : decode cT_has 16 = .ok (.iconst 0, 1) := by decide +kernel
theorem dT_has_17 : decode cT_has 17 = .ok (.ireturn, 1) := by decide +kernel
theorem dT_emptyOf_0 : decode cT_emptyOf 0 = .ok (.iconst 0, 1) := by decide +kernel
theorem dT_emptyOf_1 : decode cT_emptyOf 1 = .ok (.istore_n 2, 1) := by decide +kernel
theorem dT_emptyOf_2 : decode cT_emptyOf 2 = .ok (.iload_n 2, 1) := by decide +kernel
theorem dT_emptyOf_3 : decode cT_emptyOf 3 = .ok (.aload_n 0, 1) := by decide +kernel
theorem dT_emptyOf_4 : decode cT_emptyOf 4 = .ok (.getfield 24, 3) := by decide +kernel
theorem dT_emptyOf_7 : decode cT_emptyOf 7 = .ok (.if_icmp .ge 31, 3) := by decide +kernel
theorem dT_emptyOf_10 : decode cT_emptyOf 10 = .ok (.aload_n 0, 1) := by decide +kernel
theorem dT_emptyOf_11 : decode cT_emptyOf 11 = .ok (.getfield 15, 3) := by decide +kernel
theorem dT_emptyOf_14 : decode cT_emptyOf 14 = .ok (.iload_n 2, 1) := by decide +kernel
theorem dT_emptyOf_15 : decode cT_emptyOf 15 = .ok (.iaload, 1) := by decide +kernel
theorem dT_emptyOf_16 : decode cT_emptyOf 16 = .ok (.iconst (-1), 1) := by decide +kernel
theorem dT_emptyOf_17 : decode cT_emptyOf 17 = .ok (.if_icmp .ne 15, 3) := by decide +kernel
theorem dT_emptyOf_20 : decode cT_emptyOf 20 = .ok (.aload_n 0, 1) := by decide +kernel
theorem dT_emptyOf_21 : decode cT_emptyOf 21 = .ok (.getfield 9, 3) := by decide +kernel
theorem dT_emptyOf_24 : decode cT_emptyOf 24 = .ok (.iload_n 2, 1) := by decide +kernel
theorem dT_emptyOf_25 : decode cT_emptyOf 25 = .ok (.iaload, 1) := by decide +kernel
theorem dT_emptyOf_26 : decode cT_emptyOf 26 = .ok (.iload_n 1, 1) := by decide +kernel
theorem dT_emptyOf_27 : decode cT_emptyOf 27 = .ok (.if_icmp .ne 5, 3) := by decide +kernel
theorem dT_emptyOf_30 : decode cT_emptyOf 30 = .ok (.iload_n 2, 1) := by decide +kernel
theorem dT_emptyOf_31 : decode cT_emptyOf 31 = .ok (.ireturn, 1) := by decide +kernel
theorem dT_emptyOf_32 : decode cT_emptyOf 32 = .ok (.iinc 2 1, 3) := by decide +kernel
theorem dT_emptyOf_35 : decode cT_emptyOf 35 = .ok (.goto (-33), 3) := by decide +kernel
theorem dT_emptyOf_38 : decode cT_emptyOf 38 = .ok (.iconst (-1), 1) := by decide +kernel
theorem dT_emptyOf_39 : decode cT_emptyOf 39 = .ok (.ireturn, 1) := by decide +kernel
theorem dT_withName_0 : decode cT_withName 0 = .ok (.iload_n 1, 1) := by decide +kernel
theorem dT_withName_1 : decode cT_withName 1 = .ok (.iconst 1, 1) := by decide +kernel
theorem dT_withName_2 : decode cT_withName 2 = .ok (.iadd, 1) := by decide +kernel
theorem dT_withName_3 : decode cT_withName 3 = .ok (.istore_n 3, 1) := by decide +kernel
theorem dT_withName_4 : decode cT_withName 4 = .ok (.iload_n 3, 1) := by decide +kernel
theorem dT_withName_5 : decode cT_withName 5 = .ok (.aload_n 0, 1) := by decide +kernel
theorem dT_withName_6 : decode cT_withName 6 = .ok (.getfield 24, 3) := by decide +kernel
theorem dT_withName_9 : decode cT_withName 9 = .ok (.if_icmp .ge 31, 3) := by decide +kernel
theorem dT_withName_12 : decode cT_withName 12 = .ok (.aload_n 0, 1) := by decide +kernel
theorem dT_withName_13 : decode cT_withName 13 = .ok (.getfield 15, 3) := by decide +kernel
theorem dT_withName_16 : decode cT_withName 16 = .ok (.iload_n 3, 1) := by decide +kernel
theorem dT_withName_17 : decode cT_withName 17 = .ok (.iaload, 1) := by decide +kernel
theorem dT_withName_18 : decode cT_withName 18 = .ok (.iload_n 1, 1) := by decide +kernel
theorem dT_withName_19 : decode cT_withName 19 = .ok (.if_icmp .ne 15, 3) := by decide +kernel
theorem dT_withName_22 : decode cT_withName 22 = .ok (.aload_n 0, 1) := by decide +kernel
theorem dT_withName_23 : decode cT_withName 23 = .ok (.getfield 18, 3) := by decide +kernel
theorem dT_withName_26 : decode cT_withName 26 = .ok (.iload_n 3, 1) := by decide +kernel
theorem dT_withName_27 : decode cT_withName 27 = .ok (.iaload, 1) := by decide +kernel
theorem dT_withName_28 : decode cT_withName 28 = .ok (.iload_n 2, 1) := by decide +kernel
theorem dT_withName_29 : decode cT_withName 29 = .ok (.if_icmp .ne 5, 3) := by decide +kernel
theorem dT_withName_32 : decode cT_withName 32 = .ok (.iload_n 3, 1) := by decide +kernel
theorem dT_withName_33 : decode cT_withName 33 = .ok (.ireturn, 1) := by decide +kernel
theorem dT_withName_34 : decode cT_withName 34 = .ok (.iinc 3 1, 3) := by decide +kernel
theorem dT_withName_37 : decode cT_withName 37 = .ok (.goto (-33), 3) := by decide +kernel
theorem dT_withName_40 : decode cT_withName 40 = .ok (.iconst (-1), 1) := by decide +kernel
theorem dT_withName_41 : decode cT_withName 41 = .ok (.ireturn, 1) := by decide +kernel
theorem dT_grow_0 : decode cT_grow 0 = .ok (.aload_n 0, 1) := by decide +kernel
theorem dT_grow_1 : decode cT_grow 1 = .ok (.iload_n 1, 1) := by decide +kernel
theorem dT_grow_2 : decode cT_grow 2 = .ok (.iload_n 2, 1) := by decide +kernel
theorem dT_grow_3 : decode cT_grow 3 = .ok (.invokevirtual 28, 3) := by decide +kernel
theorem dT_grow_6 : decode cT_grow 6 = .ok (.istore_n 3, 1) := by decide +kernel
theorem dT_grow_7 : decode cT_grow 7 = .ok (.iload_n 3, 1) := by decide +kernel
theorem dT_grow_8 : decode cT_grow 8 = .ok (.iconst (-1), 1) := by decide +kernel
theorem dT_grow_9 : decode cT_grow 9 = .ok (.if_icmp .ne 13, 3) := by decide +kernel
theorem dT_grow_12 : decode cT_grow 12 = .ok (.aload_n 0, 1) := by decide +kernel
theorem dT_grow_13 : decode cT_grow 13 = .ok (.getfield 24, 3) := by decide +kernel
theorem dT_grow_16 : decode cT_grow 16 = .ok (.sipush 200, 3) := by decide +kernel
theorem dT_grow_19 : decode cT_grow 19 = .ok (.if_icmp .lt 5, 3) := by decide +kernel
theorem dT_grow_22 : decode cT_grow 22 = .ok (.iload_n 3, 1) := by decide +kernel
theorem dT_grow_23 : decode cT_grow 23 = .ok (.ireturn, 1) := by decide +kernel
theorem dT_grow_24 : decode cT_grow 24 = .ok (.aload_n 0, 1) := by decide +kernel
theorem dT_grow_25 : decode cT_grow 25 = .ok (.iload_n 1, 1) := by decide +kernel
theorem dT_grow_26 : decode cT_grow 26 = .ok (.iload_n 2, 1) := by decide +kernel
theorem dT_grow_27 : decode cT_grow 27 = .ok (.invokevirtual 32, 3) := by decide +kernel
theorem dT_grow_30 : decode cT_grow 30 = .ok (.ireturn, 1) := by decide +kernel
theorem dT_reach_0 : decode cT_reach 0 = .ok (.aload_n 0, 1) := by decide +kernel
theorem dT_reach_1 : decode cT_reach 1 = .ok (.iload_n 1, 1) := by decide +kernel
theorem dT_reach_2 : decode cT_reach 2 = .ok (.invokevirtual 35, 3) := by decide +kernel
theorem dT_reach_5 : decode cT_reach 5 = .ok (.istore 4, 2) := by decide +kernel
theorem dT_reach_7 : decode cT_reach 7 = .ok (.iconst 0, 1) := by decide +kernel
theorem dT_reach_8 : decode cT_reach 8 = .ok (.istore 5, 2) := by decide +kernel
theorem dT_reach_10 : decode cT_reach 10 = .ok (.iconst 0, 1) := by decide +kernel
theorem dT_reach_11 : decode cT_reach 11 = .ok (.istore 6, 2) := by decide +kernel
theorem dT_reach_13 : decode cT_reach 13 = .ok (.iload 4, 2) := by decide +kernel
theorem dT_reach_15 : decode cT_reach 15 = .ok (.iconst (-1), 1) := by decide +kernel
theorem dT_reach_16 : decode cT_reach 16 = .ok (.if_icmp .eq 43, 3) := by decide +kernel
theorem dT_reach_19 : decode cT_reach 19 = .ok (.iload 6, 2) := by decide +kernel
theorem dT_reach_21 : decode cT_reach 21 = .ok (.iload_n 3, 1) := by decide +kernel
theorem dT_reach_22 : decode cT_reach 22 = .ok (.if_icmp .ge 37, 3) := by decide +kernel
theorem dT_reach_25 : decode cT_reach 25 = .ok (.aload_n 0, 1) := by decide +kernel
theorem dT_reach_26 : decode cT_reach 26 = .ok (.iload 4, 2) := by decide +kernel
theorem dT_reach_28 : decode cT_reach 28 = .ok (.aload_n 2, 1) := by decide +kernel
theorem dT_reach_29 : decode cT_reach 29 = .ok (.iload 6, 2) := by decide +kernel
theorem dT_reach_31 : decode cT_reach 31 = .ok (.iaload, 1) := by decide +kernel
theorem dT_reach_32 : decode cT_reach 32 = .ok (.invokevirtual 28, 3) := by decide +kernel
theorem dT_reach_35 : decode cT_reach 35 = .ok (.istore 7, 2) := by decide +kernel
theorem dT_reach_37 : decode cT_reach 37 = .ok (.iload 7, 2) := by decide +kernel
theorem dT_reach_39 : decode cT_reach 39 = .ok (.iconst (-1), 1) := by decide +kernel
theorem dT_reach_40 : decode cT_reach 40 = .ok (.if_icmp .ne 6, 3) := by decide +kernel
theorem dT_reach_43 : decode cT_reach 43 = .ok (.goto 16, 3) := by decide +kernel
theorem dT_reach_46 : decode cT_reach 46 = .ok (.iload 7, 2) := by decide +kernel
theorem dT_reach_48 : decode cT_reach 48 = .ok (.istore 4, 2) := by decide +kernel
theorem dT_reach_50 : decode cT_reach 50 = .ok (.iinc 5 1, 3) := by decide +kernel
theorem dT_reach_53 : decode cT_reach 53 = .ok (.iinc 6 1, 3) := by decide +kernel
theorem dT_reach_56 : decode cT_reach 56 = .ok (.goto (-43), 3) := by decide +kernel
theorem dT_reach_59 : decode cT_reach 59 = .ok (.iload_n 3, 1) := by decide +kernel
theorem dT_reach_60 : decode cT_reach 60 = .ok (.iload 5, 2) := by decide +kernel
theorem dT_reach_62 : decode cT_reach 62 = .ok (.isub, 1) := by decide +kernel
theorem dT_reach_63 : decode cT_reach 63 = .ok (.iload 4, 2) := by decide +kernel
theorem dT_reach_65 : decode cT_reach 65 = .ok (.iconst (-1), 1) := by decide +kernel
theorem dT_reach_66 : decode cT_reach 66 = .ok (.if_icmp .ne 7, 3) := by decide +kernel
theorem dT_reach_69 : decode cT_reach 69 = .ok (.iconst 1, 1) := by decide +kernel
theorem dT_reach_70 : decode cT_reach 70 = .ok (.goto 4, 3) := by decide +kernel
theorem dT_reach_73 : decode cT_reach 73 = .ok (.iconst 0, 1) := by decide +kernel
theorem dT_reach_74 : decode cT_reach 74 = .ok (.iadd, 1) := by decide +kernel
theorem dT_reach_75 : decode cT_reach 75 = .ok (.istore 6, 2) := by decide +kernel
theorem dT_reach_77 : decode cT_reach 77 = .ok (.iload 6, 2) := by decide +kernel
theorem dT_reach_79 : decode cT_reach 79 = .ok (.sipush 200, 3) := by decide +kernel
theorem dT_reach_82 : decode cT_reach 82 = .ok (.aload_n 0, 1) := by decide +kernel
theorem dT_reach_83 : decode cT_reach 83 = .ok (.getfield 24, 3) := by decide +kernel
theorem dT_reach_86 : decode cT_reach 86 = .ok (.isub, 1) := by decide +kernel
theorem dT_reach_87 : decode cT_reach 87 = .ok (.if_icmp .le 5, 3) := by decide +kernel
theorem dT_reach_90 : decode cT_reach 90 = .ok (.iconst (-1), 1) := by decide +kernel
theorem dT_reach_91 : decode cT_reach 91 = .ok (.ireturn, 1) := by decide +kernel
theorem dT_reach_92 : decode cT_reach 92 = .ok (.iload 4, 2) := by decide +kernel
theorem dT_reach_94 : decode cT_reach 94 = .ok (.iconst (-1), 1) := by decide +kernel
theorem dT_reach_95 : decode cT_reach 95 = .ok (.if_icmp .ne 10, 3) := by decide +kernel
theorem dT_reach_98 : decode cT_reach 98 = .ok (.aload_n 0, 1) := by decide +kernel
theorem dT_reach_99 : decode cT_reach 99 = .ok (.iload_n 1, 1) := by decide +kernel
theorem dT_reach_100 : decode cT_reach 100 = .ok (.invokevirtual 39, 3) := by decide +kernel
theorem dT_reach_103 : decode cT_reach 103 = .ok (.istore 4, 2) := by decide +kernel
theorem dT_reach_105 : decode cT_reach 105 = .ok (.iload 5, 2) := by decide +kernel
theorem dT_reach_107 : decode cT_reach 107 = .ok (.istore 7, 2) := by decide +kernel
theorem dT_reach_109 : decode cT_reach 109 = .ok (.iload 7, 2) := by decide +kernel
theorem dT_reach_111 : decode cT_reach 111 = .ok (.iload_n 3, 1) := by decide +kernel
theorem dT_reach_112 : decode cT_reach 112 = .ok (.if_icmp .ge 21, 3) := by decide +kernel
theorem dT_reach_115 : decode cT_reach 115 = .ok (.aload_n 0, 1) := by decide +kernel
theorem dT_reach_116 : decode cT_reach 116 = .ok (.iload 4, 2) := by decide +kernel
theorem dT_reach_118 : decode cT_reach 118 = .ok (.aload_n 2, 1) := by decide +kernel
theorem dT_reach_119 : decode cT_reach 119 = .ok (.iload 7, 2) := by decide +kernel
theorem dT_reach_121 : decode cT_reach 121 = .ok (.iaload, 1) := by decide +kernel
theorem dT_reach_122 : decode cT_reach 122 = .ok (.invokevirtual 32, 3) := by decide +kernel
theorem dT_reach_125 : decode cT_reach 125 = .ok (.istore 4, 2) := by decide +kernel
theorem dT_reach_127 : decode cT_reach 127 = .ok (.iinc 7 1, 3) := by decide +kernel
theorem dT_reach_130 : decode cT_reach 130 = .ok (.goto (-21), 3) := by decide +kernel
theorem dT_reach_133 : decode cT_reach 133 = .ok (.iload 4, 2) := by decide +kernel
theorem dT_reach_135 : decode cT_reach 135 = .ok (.ireturn, 1) := by decide +kernel
theorem dT_makeEmpty_0 : decode cT_makeEmpty 0 = .ok (.aload_n 0, 1) := by decide +kernel
theorem dT_makeEmpty_1 : decode cT_makeEmpty 1 = .ok (.iload_n 1, 1) := by decide +kernel
theorem dT_makeEmpty_2 : decode cT_makeEmpty 2 = .ok (.iconst (-1), 1) := by decide +kernel
theorem dT_makeEmpty_3 : decode cT_makeEmpty 3 = .ok (.iconst (-1), 1) := by decide +kernel
theorem dT_makeEmpty_4 : decode cT_makeEmpty 4 = .ok (.iconst 0, 1) := by decide +kernel
theorem dT_makeEmpty_5 : decode cT_makeEmpty 5 = .ok (.invokevirtual 42, 3) := by decide +kernel
theorem dT_makeEmpty_8 : decode cT_makeEmpty 8 = .ok (.ireturn, 1) := by decide +kernel
theorem dT_makeWith_0 : decode cT_makeWith 0 = .ok (.aload_n 0, 1) := by decide +kernel
theorem dT_makeWith_1 : decode cT_makeWith 1 = .ok (.aload_n 0, 1) := by decide +kernel
theorem dT_makeWith_2 : decode cT_makeWith 2 = .ok (.getfield 9, 3) := by decide +kernel
theorem dT_makeWith_5 : decode cT_makeWith 5 = .ok (.iload_n 1, 1) := by decide +kernel
theorem dT_makeWith_6 : decode cT_makeWith 6 = .ok (.iaload, 1) := by decide +kernel
theorem dT_makeWith_7 : decode cT_makeWith 7 = .ok (.iload_n 1, 1) := by decide +kernel
theorem dT_makeWith_8 : decode cT_makeWith 8 = .ok (.iload_n 2, 1) := by decide +kernel
theorem dT_makeWith_9 : decode cT_makeWith 9 = .ok (.aload_n 0, 1) := by decide +kernel
theorem dT_makeWith_10 : decode cT_makeWith 10 = .ok (.getfield 21, 3) := by decide +kernel
theorem dT_makeWith_13 : decode cT_makeWith 13 = .ok (.iload_n 1, 1) := by decide +kernel
theorem dT_makeWith_14 : decode cT_makeWith 14 = .ok (.iaload, 1) := by decide +kernel
theorem dT_makeWith_15 : decode cT_makeWith 15 = .ok (.iconst 1, 1) := by decide +kernel
theorem dT_makeWith_16 : decode cT_makeWith 16 = .ok (.iadd, 1) := by decide +kernel
theorem dT_makeWith_17 : decode cT_makeWith 17 = .ok (.invokevirtual 42, 3) := by decide +kernel
theorem dT_makeWith_20 : decode cT_makeWith 20 = .ok (.ireturn, 1) := by decide +kernel
theorem dT_make_0 : decode cT_make 0 = .ok (.aload_n 0, 1) := by decide +kernel
theorem dT_make_1 : decode cT_make 1 = .ok (.getfield 24, 3) := by decide +kernel
theorem dT_make_4 : decode cT_make 4 = .ok (.istore 5, 2) := by decide +kernel
theorem dT_make_6 : decode cT_make 6 = .ok (.aload_n 0, 1) := by decide +kernel
theorem dT_make_7 : decode cT_make 7 = .ok (.getfield 9, 3) := by decide +kernel
theorem dT_make_10 : decode cT_make 10 = .ok (.iload 5, 2) := by decide +kernel
theorem dT_make_12 : decode cT_make 12 = .ok (.iload_n 1, 1) := by decide +kernel
theorem dT_make_13 : decode cT_make 13 = .ok (.iastore, 1) := by decide +kernel
theorem dT_make_14 : decode cT_make 14 = .ok (.aload_n 0, 1) := by decide +kernel
theorem dT_make_15 : decode cT_make 15 = .ok (.getfield 15, 3) := by decide +kernel
theorem dT_make_18 : decode cT_make 18 = .ok (.iload 5, 2) := by decide +kernel
theorem dT_make_20 : decode cT_make 20 = .ok (.iload_n 2, 1) := by decide +kernel
theorem dT_make_21 : decode cT_make 21 = .ok (.iastore, 1) := by decide +kernel
theorem dT_make_22 : decode cT_make 22 = .ok (.aload_n 0, 1) := by decide +kernel
theorem dT_make_23 : decode cT_make 23 = .ok (.getfield 18, 3) := by decide +kernel
theorem dT_make_26 : decode cT_make 26 = .ok (.iload 5, 2) := by decide +kernel
theorem dT_make_28 : decode cT_make 28 = .ok (.iload_n 3, 1) := by decide +kernel
theorem dT_make_29 : decode cT_make 29 = .ok (.iastore, 1) := by decide +kernel
theorem dT_make_30 : decode cT_make 30 = .ok (.aload_n 0, 1) := by decide +kernel
theorem dT_make_31 : decode cT_make 31 = .ok (.getfield 21, 3) := by decide +kernel
theorem dT_make_34 : decode cT_make 34 = .ok (.iload 5, 2) := by decide +kernel
theorem dT_make_36 : decode cT_make 36 = .ok (.iload 4, 2) := by decide +kernel
theorem dT_make_38 : decode cT_make 38 = .ok (.iastore, 1) := by decide +kernel
theorem dT_make_39 : decode cT_make 39 = .ok (.aload_n 0, 1) := by decide +kernel
theorem dT_make_40 : decode cT_make 40 = .ok (.dup, 1) := by decide +kernel
theorem dT_make_41 : decode cT_make 41 = .ok (.getfield 24, 3) := by decide +kernel
theorem dT_make_44 : decode cT_make 44 = .ok (.iconst 1, 1) := by decide +kernel
theorem dT_make_45 : decode cT_make 45 = .ok (.iadd, 1) := by decide +kernel
theorem dT_make_46 : decode cT_make 46 = .ok (.putfield 24, 3) := by decide +kernel
theorem dT_make_49 : decode cT_make 49 = .ok (.iload 5, 2) := by decide +kernel
theorem dT_make_51 : decode cT_make 51 = .ok (.ireturn, 1) := by decide +kernel
theorem dT_placeOf_0 : decode cT_placeOf 0 = .ok (.iload_n 1, 1) := by decide +kernel
theorem dT_placeOf_1 : decode cT_placeOf 1 = .ok (.istore_n 3, 1) := by decide +kernel
theorem dT_placeOf_2 : decode cT_placeOf 2 = .ok (.aload_n 0, 1) := by decide +kernel
theorem dT_placeOf_3 : decode cT_placeOf 3 = .ok (.getfield 21, 3) := by decide +kernel
theorem dT_placeOf_6 : decode cT_placeOf 6 = .ok (.iload_n 1, 1) := by decide +kernel
theorem dT_placeOf_7 : decode cT_placeOf 7 = .ok (.iaload, 1) := by decide +kernel
theorem dT_placeOf_8 : decode cT_placeOf 8 = .ok (.iconst 1, 1) := by decide +kernel
theorem dT_placeOf_9 : decode cT_placeOf 9 = .ok (.isub, 1) := by decide +kernel
theorem dT_placeOf_10 : decode cT_placeOf 10 = .ok (.istore 4, 2) := by decide +kernel
theorem dT_placeOf_12 : decode cT_placeOf 12 = .ok (.iload 4, 2) := by decide +kernel
theorem dT_placeOf_14 : decode cT_placeOf 14 = .ok (.ifCond .lt 29, 3) := by decide +kernel
theorem dT_placeOf_17 : decode cT_placeOf 17 = .ok (.aload_n 0, 1) := by decide +kernel
theorem dT_placeOf_18 : decode cT_placeOf 18 = .ok (.getfield 18, 3) := by decide +kernel
theorem dT_placeOf_21 : decode cT_placeOf 21 = .ok (.iload_n 3, 1) := by decide +kernel
theorem dT_placeOf_22 : decode cT_placeOf 22 = .ok (.iaload, 1) := by decide +kernel
theorem dT_placeOf_23 : decode cT_placeOf 23 = .ok (.iload_n 2, 1) := by decide +kernel
theorem dT_placeOf_24 : decode cT_placeOf 24 = .ok (.if_icmp .ne 6, 3) := by decide +kernel
theorem dT_placeOf_27 : decode cT_placeOf 27 = .ok (.iload 4, 2) := by decide +kernel
theorem dT_placeOf_29 : decode cT_placeOf 29 = .ok (.ireturn, 1) := by decide +kernel
theorem dT_placeOf_30 : decode cT_placeOf 30 = .ok (.aload_n 0, 1) := by decide +kernel
theorem dT_placeOf_31 : decode cT_placeOf 31 = .ok (.getfield 15, 3) := by decide +kernel
theorem dT_placeOf_34 : decode cT_placeOf 34 = .ok (.iload_n 3, 1) := by decide +kernel
theorem dT_placeOf_35 : decode cT_placeOf 35 = .ok (.iaload, 1) := by decide +kernel
theorem dT_placeOf_36 : decode cT_placeOf 36 = .ok (.istore_n 3, 1) := by decide +kernel
theorem dT_placeOf_37 : decode cT_placeOf 37 = .ok (.iinc 4 (-1), 3) := by decide +kernel
theorem dT_placeOf_40 : decode cT_placeOf 40 = .ok (.goto (-28), 3) := by decide +kernel
theorem dT_placeOf_43 : decode cT_placeOf 43 = .ok (.iconst (-1), 1) := by decide +kernel
theorem dT_placeOf_44 : decode cT_placeOf 44 = .ok (.ireturn, 1) := by decide +kernel
theorem dT_nameAt_0 : decode cT_nameAt 0 = .ok (.aload_n 0, 1) := by decide +kernel
theorem dT_nameAt_1 : decode cT_nameAt 1 = .ok (.getfield 21, 3) := by decide +kernel
theorem dT_nameAt_4 : decode cT_nameAt 4 = .ok (.iload_n 1, 1) := by decide +kernel
theorem dT_nameAt_5 : decode cT_nameAt 5 = .ok (.iaload, 1) := by decide +kernel
theorem dT_nameAt_6 : decode cT_nameAt 6 = .ok (.iconst 1, 1) := by decide +kernel
theorem dT_nameAt_7 : decode cT_nameAt 7 = .ok (.isub, 1) := by decide +kernel
theorem dT_nameAt_8 : decode cT_nameAt 8 = .ok (.istore_n 3, 1) := by decide +kernel
theorem dT_nameAt_9 : decode cT_nameAt 9 = .ok (.iload_n 2, 1) := by decide +kernel
theorem dT_nameAt_10 : decode cT_nameAt 10 = .ok (.ifCond .lt 8, 3) := by decide +kernel
theorem dT_nameAt_13 : decode cT_nameAt 13 = .ok (.iload_n 2, 1) := by decide +kernel
theorem dT_nameAt_14 : decode cT_nameAt 14 = .ok (.iload_n 3, 1) := by decide +kernel
theorem dT_nameAt_15 : decode cT_nameAt 15 = .ok (.if_icmp .le 5, 3) := by decide +kernel
theorem dT_nameAt_18 : decode cT_nameAt 18 = .ok (.iconst (-1), 1) := by decide +kernel
theorem dT_nameAt_19 : decode cT_nameAt 19 = .ok (.ireturn, 1) := by decide +kernel
theorem dT_nameAt_20 : decode cT_nameAt 20 = .ok (.iload_n 1, 1) := by decide +kernel
theorem dT_nameAt_21 : decode cT_nameAt 21 = .ok (.istore 4, 2) := by decide +kernel
theorem dT_nameAt_23 : decode cT_nameAt 23 = .ok (.iload_n 3, 1) := by decide +kernel
theorem dT_nameAt_24 : decode cT_nameAt 24 = .ok (.istore 5, 2) := by decide +kernel
theorem dT_nameAt_26 : decode cT_nameAt 26 = .ok (.iload 5, 2) := by decide +kernel
theorem dT_nameAt_28 : decode cT_nameAt 28 = .ok (.iload_n 2, 1) := by decide +kernel
theorem dT_nameAt_29 : decode cT_nameAt 29 = .ok (.if_icmp .le 18, 3) := by decide +kernel
theorem dT_nameAt_32 : decode cT_nameAt 32 = .ok (.aload_n 0, 1) := by decide +kernel
theorem dT_nameAt_33 : decode cT_nameAt 33 = .ok (.getfield 15, 3) := by decide +kernel
theorem dT_nameAt_36 : decode cT_nameAt 36 = .ok (.iload 4, 2) := by decide +kernel
theorem dT_nameAt_38 : decode cT_nameAt 38 = .ok (.iaload, 1) := by decide +kernel
theorem dT_nameAt_39 : decode cT_nameAt 39 = .ok (.istore 4, 2) := by decide +kernel
theorem dT_nameAt_41 : decode cT_nameAt 41 = .ok (.iinc 5 (-1), 3) := by decide +kernel
theorem dT_nameAt_44 : decode cT_nameAt 44 = .ok (.goto (-18), 3) := by decide +kernel
theorem dT_nameAt_47 : decode cT_nameAt 47 = .ok (.aload_n 0, 1) := by decide +kernel
theorem dT_nameAt_48 : decode cT_nameAt 48 = .ok (.getfield 18, 3) := by decide +kernel
theorem dT_nameAt_51 : decode cT_nameAt 51 = .ok (.iload 4, 2) := by decide +kernel
theorem dT_nameAt_53 : decode cT_nameAt 53 = .ok (.iaload, 1) := by decide +kernel
theorem dT_nameAt_54 : decode cT_nameAt 54 = .ok (.ireturn, 1) := by decide +kernel
theorem dT_listNames_0 : decode cT_listNames 0 = .ok (.iconst 0, 1) := by decide +kernel
theorem dT_listNames_1 : decode cT_listNames 1 = .ok (.istore 4, 2) := by decide +kernel
theorem dT_listNames_3 : decode cT_listNames 3 = .ok (.iconst 0, 1) := by decide +kernel
theorem dT_listNames_4 : decode cT_listNames 4 = .ok (.istore 5, 2) := by decide +kernel
theorem dT_listNames_6 : decode cT_listNames 6 = .ok (.iload 5, 2) := by decide +kernel
theorem dT_listNames_8 : decode cT_listNames 8 = .ok (.aload_n 0, 1) := by decide +kernel
theorem dT_listNames_9 : decode cT_listNames 9 = .ok (.getfield 21, 3) := by decide +kernel
theorem dT_listNames_12 : decode cT_listNames 12 = .ok (.iload_n 1, 1) := by decide +kernel
theorem dT_listNames_13 : decode cT_listNames 13 = .ok (.iaload, 1) := by decide +kernel
theorem dT_listNames_14 : decode cT_listNames 14 = .ok (.if_icmp .ge 33, 3) := by decide +kernel
theorem dT_listNames_17 : decode cT_listNames 17 = .ok (.aload_n 0, 1) := by decide +kernel
theorem dT_listNames_18 : decode cT_listNames 18 = .ok (.iload_n 1, 1) := by decide +kernel
theorem dT_listNames_19 : decode cT_listNames 19 = .ok (.iload 5, 2) := by decide +kernel
theorem dT_listNames_21 : decode cT_listNames 21 = .ok (.invokevirtual 46, 3) := by decide +kernel
theorem dT_listNames_24 : decode cT_listNames 24 = .ok (.istore 6, 2) := by decide +kernel
theorem dT_listNames_26 : decode cT_listNames 26 = .ok (.iload 6, 2) := by decide +kernel
theorem dT_listNames_28 : decode cT_listNames 28 = .ok (.iload_n 2, 1) := by decide +kernel
theorem dT_listNames_29 : decode cT_listNames 29 = .ok (.if_icmp .eq 12, 3) := by decide +kernel
theorem dT_listNames_32 : decode cT_listNames 32 = .ok (.aload_n 3, 1) := by decide +kernel
theorem dT_listNames_33 : decode cT_listNames 33 = .ok (.iload 4, 2) := by decide +kernel
theorem dT_listNames_35 : decode cT_listNames 35 = .ok (.iload 6, 2) := by decide +kernel
theorem dT_listNames_37 : decode cT_listNames 37 = .ok (.iastore, 1) := by decide +kernel
theorem dT_listNames_38 : decode cT_listNames 38 = .ok (.iinc 4 1, 3) := by decide +kernel
theorem dT_listNames_41 : decode cT_listNames 41 = .ok (.iinc 5 1, 3) := by decide +kernel
theorem dT_listNames_44 : decode cT_listNames 44 = .ok (.goto (-38), 3) := by decide +kernel
theorem dT_listNames_47 : decode cT_listNames 47 = .ok (.iload 4, 2) := by decide +kernel
theorem dT_listNames_49 : decode cT_listNames 49 = .ok (.ireturn, 1) := by decide +kernel
end
section
/-! numbers, searches, the tree of shapes: pure rows -/
abbrev sk_F : Type := Nat → Int32
theorem sk_nm1 {i : Nat} (h : i < 2 ^ 31) : ¬ nI i = -1 := fun e => nI_pos h (by rw [e]; decide)
theorem sk_m1n {i : Nat} (h : i < 2 ^ 31) : ¬ (-1 : Int32) = nI i := fun e => sk_nm1 h e.symm
theorem sk_inj {a b : Nat} (ha : a < 2 ^ 31) (hb : b < 2 ^ 31) (h : nI a = nI b) : a = b := (nI_eq ha hb).mp h
theorem sk_cl {n : Nat} (h : n < 2 ^ 31) : (nI n).toNatClampNeg = n := nI_clamp h
/-- the first of a, a+1, .. (k of them) with P; -1 if there is none -/
def sk_ff (P : Nat → Bool) : Nat → Nat → Int32
  | 0, _ => -1
  | k + 1, a => if P a = true then nI a else sk_ff P k (a + 1)
theorem sk_ff_0 (P : Nat → Bool) (a : Nat) : sk_ff P 0 a = -1 := rfl
theorem sk_ff_s (P : Nat → Bool) (k a : Nat) : sk_ff P (k + 1) a = if P a = true then nI a else sk_ff P k (a + 1) := rfl
theorem sk_ff_spec (P : Nat → Bool) : ∀ (k a : Nat), (sk_ff P k a = -1 ∧ ∀ i, a ≤ i → i < a + k → P i = false) ∨ ∃ i, a ≤ i ∧ i < a + k ∧ sk_ff P k a = nI i ∧ P i = true ∧ ∀ j, a ≤ j → j < i → P j = false
  | 0, a => Or.inl ⟨rfl, fun i h1 h2 => absurd h2 (by omega)⟩
  | k + 1, a => by
    rw [sk_ff_s]
    by_cases h : P a = true
    · rw [if_pos h]
      exact Or.inr ⟨a, Nat.le_refl a, by omega, rfl, h, fun j h1 h2 => absurd h2 (by omega)⟩
    · rw [if_neg h]
      have hf : P a = false := by cases hp : P a <;> simp_all
      rcases sk_ff_spec P k (a + 1) with ⟨e, q⟩ | ⟨i, h1, h2, e, hp, q⟩
      · refine Or.inl ⟨e, fun i h1 h2 => ?_⟩
        rcases Nat.eq_or_lt_of_le h1 with g | g
        · rw [← g]; exact hf
        · exact q i (by omega) (by omega)
      · refine Or.inr ⟨i, by omega, by omega, e, hp, fun j g1 g2 => ?_⟩
        rcases Nat.eq_or_lt_of_le g1 with g | g
        · rw [← g]; exact hf
        · exact q j (by omega) g2
theorem sk_ff_congr {P Q : Nat → Bool} : ∀ (k a : Nat), (∀ i, a ≤ i → i < a + k → P i = Q i) → sk_ff P k a = sk_ff Q k a
  | 0, _, _ => rfl
  | k + 1, a, h => by
    rw [sk_ff_s, sk_ff_s, h a (Nat.le_refl a) (by omega), sk_ff_congr k (a + 1) (fun i h1 h2 => h i (by omega) (by omega))]
/-- what isn't there ahead may be passed over -/
theorem sk_ff_skip {P : Nat → Bool} : ∀ (d k a : Nat), (∀ i, a ≤ i → i < a + d → P i = false) → sk_ff P (d + k) a = sk_ff P k (a + d)
  | 0, k, a, _ => by rw [Nat.zero_add, Nat.add_zero]
  | d + 1, k, a, h => by
    rw [show d + 1 + k = (d + k) + 1 by omega, sk_ff_s, if_neg (by rw [h a (Nat.le_refl a) (by omega)]; decide), sk_ff_skip d k (a + 1) (fun i h1 h2 => h i (by omega) (by omega))]
    congr 1; omega
/-! the tree: how many; prototypes, origins, last names, lengths -/
abbrev sk_Tr : Type := Nat × sk_F × sk_F × sk_F × sk_F
def sk_up (t : sk_Tr) : Nat → Nat → Nat
  | 0, s => s
  | j + 1, s => sk_up t j (t.2.2.1 s).toNatClampNeg
def sk_len (t : sk_Tr) (s : Nat) : Nat := (t.2.2.2.2 s).toNatClampNeg
/-- the name at a place -/
def sk_nm (t : sk_Tr) (s k : Nat) : Int32 := t.2.2.2.1 (sk_up t (sk_len t s - 1 - k) s)
/-- the place of a name among the first k, from the top -/
def sk_pl (t : sk_Tr) (x : Int32) : Nat → Nat → Int32
  | 0, _ => -1
  | k + 1, q => if t.2.2.2.1 q = x then nI k else sk_pl t x k (t.2.2.1 q).toNatClampNeg
def sk_place (t : sk_Tr) (x : Int32) (s : Nat) : Int32 := sk_pl t x (sk_len t s) s
def sk_SO (nO : Nat) (t : sk_Tr) (i : Nat) : Prop := (t.2.1 i = -1 ∨ ∃ x, x < nO ∧ t.2.1 i = nI x) ∧ ((t.2.2.1 i = -1 ∧ t.2.2.2.2 i = nI 0) ∨ ∃ j m a : Nat, j < i ∧ m < 12 ∧ a < 12 ∧ t.2.2.1 i = nI j ∧ t.2.2.2.2 j = nI m ∧ t.2.2.2.2 i = nI (m + 1) ∧ t.2.1 i = t.2.1 j ∧ t.2.2.2.1 i = nI a ∧ ∀ k, k < m → ¬ sk_nm t j k = t.2.2.2.1 i)
def sk_TO (nO : Nat) (t : sk_Tr) : Prop := 1 ≤ t.1 ∧ t.1 ≤ 200 ∧ nO ≤ 60 ∧ t.2.1 0 = -1 ∧ t.2.2.1 0 = -1 ∧ ∀ i, i < t.1 → sk_SO nO t i
theorem sk_lenE {t : sk_Tr} {s m : Nat} (hm : m < 2 ^ 31) (h : t.2.2.2.2 s = nI m) : sk_len t s = m := by
  unfold sk_len; rw [h]; exact nI_clamp hm
theorem sk_lenOk {nO : Nat} {t : sk_Tr} (h : sk_TO nO t) {i : Nat} (hi : i < t.1) : ∃ m, m ≤ 12 ∧ t.2.2.2.2 i = nI m ∧ sk_len t i = m := by
  rcases (h.2.2.2.2.2 i hi).2 with ⟨-, e⟩ | ⟨j, m, a, -, hm, -, -, -, e, -⟩
  · exact ⟨0, by omega, e, sk_lenE (by omega) e⟩
  · exact ⟨m + 1, by omega, e, sk_lenE (by omega) e⟩
theorem sk_nm_par {t : sk_Tr} {i j m k : Nat} (hj : j < 2 ^ 31) (hm : m < 12) (ho : t.2.2.1 i = nI j) (h1 : t.2.2.2.2 j = nI m) (h2 : t.2.2.2.2 i = nI (m + 1)) (hk : k < m) : sk_nm t i k = sk_nm t j k := by
  unfold sk_nm
  rw [sk_lenE (by omega) h1, sk_lenE (by omega) h2, show m + 1 - 1 - k = (m - 1 - k) + 1 by omega]
  show t.2.2.2.1 (sk_up t (m - 1 - k) (t.2.2.1 i).toNatClampNeg) = _
  rw [ho, nI_clamp hj]
theorem sk_nm_top {t : sk_Tr} {i m : Nat} (hm : m < 12) (h2 : t.2.2.2.2 i = nI (m + 1)) : sk_nm t i m = t.2.2.2.1 i := by
  unfold sk_nm
  rw [sk_lenE (by omega) h2, show m + 1 - 1 - m = 0 by omega]
  rfl
/-- induction along the origins -/
theorem sk_ind {nO : Nat} {t : sk_Tr} (h : sk_TO nO t) (P : Nat → Prop) (h0 : ∀ i, i < t.1 → t.2.2.1 i = -1 → t.2.2.2.2 i = nI 0 → P i)
    (hs : ∀ i j m a, i < t.1 → j < i → m < 12 → a < 12 → t.2.2.1 i = nI j → t.2.2.2.2 j = nI m → t.2.2.2.2 i = nI (m + 1) → t.2.1 i = t.2.1 j → t.2.2.2.1 i = nI a → (∀ k, k < m → ¬ sk_nm t j k = t.2.2.2.1 i) → P j → P i) : ∀ i, i < t.1 → P i := by
  intro i
  induction i using Nat.strongRecOn with
  | ind i ih =>
    intro hi
    rcases (h.2.2.2.2.2 i hi).2 with ⟨a, b⟩ | ⟨j, m, a, h1, h2, h3, h4, h5, h6, h7, h8, h9⟩
    · exact h0 i hi a b
    · exact hs i j m a hi h1 h2 h3 h4 h5 h6 h7 h8 h9 (ih j h1 (by omega))
theorem sk_t31 {nO : Nat} {t : sk_Tr} (h : sk_TO nO t) {i : Nat} (hi : i < t.1) : i < 2 ^ 31 := by have := h.2.1; omega
/-- names are 0 .. 11 -/
theorem sk_nm_in {nO : Nat} {t : sk_Tr} (h : sk_TO nO t) : ∀ i, i < t.1 → ∀ k, k < sk_len t i → ∃ a, a < 12 ∧ sk_nm t i k = nI a := by
  refine sk_ind h (fun i => ∀ k, k < sk_len t i → ∃ a, a < 12 ∧ sk_nm t i k = nI a) ?_ ?_
  · intro i hi _ e k hk
    rw [sk_lenE (by omega) e] at hk
    omega
  · intro i j m a hi hj hm ha ho h1 h2 hp hl hd ih k hk
    rw [sk_lenE (by omega) h2] at hk
    by_cases hkm : k < m
    · rw [sk_nm_par (by have := sk_t31 h hi; omega) hm ho h1 h2 hkm]
      exact ih k (by rw [sk_lenE (by omega) h1]; exact hkm)
    · have hkm : k = m := by omega
      subst hkm
      rw [sk_nm_top hm h2]
      exact ⟨a, ha, hl⟩
/-- names are apart -/
theorem sk_nm_inj {nO : Nat} {t : sk_Tr} (h : sk_TO nO t) : ∀ i, i < t.1 → ∀ k, k < sk_len t i → ∀ g, g < sk_len t i → sk_nm t i k = sk_nm t i g → k = g := by
  refine sk_ind h (fun i => ∀ k, k < sk_len t i → ∀ g, g < sk_len t i → sk_nm t i k = sk_nm t i g → k = g) ?_ ?_
  · intro i hi _ e k hk
    rw [sk_lenE (by omega) e] at hk
    omega
  · intro i j m a hi hj hm ha ho h1 h2 hp hl hd ih k hk g hg e
    rw [sk_lenE (by omega) h2] at hk hg
    have hj31 : j < 2 ^ 31 := by have := sk_t31 h hi; omega
    by_cases hkm : k < m
    · by_cases hgm : g < m
      · rw [sk_nm_par hj31 hm ho h1 h2 hkm, sk_nm_par hj31 hm ho h1 h2 hgm] at e
        exact ih k (by rw [sk_lenE (by omega) h1]; exact hkm) g (by rw [sk_lenE (by omega) h1]; exact hgm) e
      · have hgm : g = m := by omega
        subst hgm
        rw [sk_nm_par hj31 hm ho h1 h2 hkm, sk_nm_top hm h2] at e
        exact absurd e (hd k hkm)
    · have hkm : k = m := by omega
      subst hkm
      by_cases hgm : g < k
      · rw [sk_nm_par hj31 hm ho h1 h2 hgm, sk_nm_top hm h2] at e
        exact absurd e.symm (hd g hgm)
      · omega
/-- what the place of a name is -/
theorem sk_place_spec {nO : Nat} {t : sk_Tr} (h : sk_TO nO t) (x : Int32) : ∀ i, i < t.1 → (sk_place t x i = -1 ∧ ∀ k, k < sk_len t i → ¬ sk_nm t i k = x) ∨ ∃ k, k < sk_len t i ∧ sk_place t x i = nI k ∧ sk_nm t i k = x := by
  refine sk_ind h (fun i => (sk_place t x i = -1 ∧ ∀ k, k < sk_len t i → ¬ sk_nm t i k = x) ∨ ∃ k, k < sk_len t i ∧ sk_place t x i = nI k ∧ sk_nm t i k = x) ?_ ?_
  · intro i hi _ e
    refine Or.inl ⟨?_, fun k hk => ?_⟩
    · unfold sk_place; rw [sk_lenE (by omega) e]; rfl
    · rw [sk_lenE (by omega) e] at hk; omega
  · intro i j m a hi hj hm ha ho h1 h2 hp hl hd ih
    have hj31 : j < 2 ^ 31 := by have := sk_t31 h hi; omega
    have hli := sk_lenE (s := i) (by omega : m + 1 < 2 ^ 31) h2
    have hlj := sk_lenE (s := j) (by omega : m < 2 ^ 31) h1
    have hpl : sk_place t x i = if t.2.2.2.1 i = x then nI m else sk_place t x j := by
      unfold sk_place
      rw [hli, hlj]
      show (if t.2.2.2.1 i = x then nI m else sk_pl t x m (t.2.2.1 i).toNatClampNeg) = _
      rw [ho, nI_clamp hj31]
    rw [hpl, hli]
    by_cases hx : t.2.2.2.1 i = x
    · rw [if_pos hx]
      exact Or.inr ⟨m, by omega, rfl, by rw [sk_nm_top hm h2]; exact hx⟩
    · rw [if_neg hx]
      rcases ih with ⟨e, q⟩ | ⟨k, hk, e, q⟩
      · refine Or.inl ⟨e, fun k hk => ?_⟩
        by_cases hkm : k < m
        · rw [sk_nm_par hj31 hm ho h1 h2 hkm]
          exact q k (by rw [hlj]; exact hkm)
        · have hkm : k = m := by omega
          subst hkm
          rw [sk_nm_top hm h2]; exact hx
      · rw [hlj] at hk
        exact Or.inr ⟨k, by omega, e, by rw [sk_nm_par hj31 hm ho h1 h2 hk]; exact q⟩
/-- .. and nothing else is -/
theorem sk_place_uniq {nO : Nat} {t : sk_Tr} (h : sk_TO nO t) {x r : Int32} {i : Nat} (hi : i < t.1) (hr : (r = -1 ∧ ∀ k, k < sk_len t i → ¬ sk_nm t i k = x) ∨ ∃ k, k < sk_len t i ∧ r = nI k ∧ sk_nm t i k = x) : r = sk_place t x i := by
  rcases sk_place_spec h x i hi with ⟨e, q⟩ | ⟨k, hk, e, q⟩
  · rcases hr with ⟨e2, -⟩ | ⟨g, hg, -, q2⟩
    · rw [e, e2]
    · exact absurd q2 (q g hg)
  · rcases hr with ⟨-, q2⟩ | ⟨g, hg, e2, q2⟩
    · exact absurd q (q2 k hk)
    · rw [e, e2, sk_nm_inj h i hi k hk g hg (q.trans q2.symm)]
end
section
/-! the tree grows -/
theorem sk_pigeon : ∀ (n k : Nat) (f : Nat → Nat), (∀ i, i < k → f i < n) → (∀ i j, i < k → j < k → f i = f j → i = j) → k ≤ n
  | 0, k, f, h, _ => by
    rcases Nat.eq_zero_or_pos k with e | e
    · omega
    · exact absurd (h 0 e) (Nat.not_lt_zero _)
  | n + 1, k, f, h, hi => by
    by_cases hx : ∃ i0, i0 < k ∧ f i0 = n
    · obtain ⟨i0, h0, e0⟩ := hx
      have hne : ∀ i, i < k → i ≠ i0 → f i < n := fun i hik hne => by
        have h1 := h i hik
        have h2 : f i ≠ n := fun e => hne (hi i i0 hik h0 (e.trans e0.symm))
        omega
      have key := sk_pigeon n (k - 1) (fun i => if i < i0 then f i else f (i + 1)) (fun i hik => by
        try dsimp only
        split
        · exact hne i (by omega) (by omega)
        · exact hne (i + 1) (by omega) (by omega)) (fun i j hik hjk e => by
        try dsimp only at e
        by_cases c1 : i < i0
        · by_cases c2 : j < i0
          · rw [if_pos c1, if_pos c2] at e
            exact hi i j (by omega) (by omega) e
          · rw [if_pos c1, if_neg c2] at e
            have := hi i (j + 1) (by omega) (by omega) e
            omega
        · by_cases c2 : j < i0
          · rw [if_neg c1, if_pos c2] at e
            have := hi (i + 1) j (by omega) (by omega) e
            omega
          · rw [if_neg c1, if_neg c2] at e
            have := hi (i + 1) (j + 1) (by omega) (by omega) e
            omega)
      omega
    · have := sk_pigeon n k f (fun i hik => by
        have h1 := h i hik
        have h2 : f i ≠ n := fun e => hx ⟨i, hik, e⟩
        omega) hi
      omega
def sk_make (t : sk_Tr) (p o a L : Int32) : sk_Tr := (t.1 + 1, upd t.2.1 t.1 p, upd t.2.2.1 t.1 o, upd t.2.2.2.1 t.1 a, upd t.2.2.2.2 t.1 L)
def sk_grow1 (t : sk_Tr) (s : Nat) (a : Int32) : sk_Tr := sk_make t (t.2.1 s) (nI s) a (t.2.2.2.2 s + 1)
def sk_ext (t u : sk_Tr) : Prop := t.1 ≤ u.1 ∧ ∀ i, i < t.1 → u.2.1 i = t.2.1 i ∧ u.2.2.1 i = t.2.2.1 i ∧ u.2.2.2.1 i = t.2.2.2.1 i ∧ u.2.2.2.2 i = t.2.2.2.2 i
theorem sk_ext_refl (t : sk_Tr) : sk_ext t t := ⟨Nat.le_refl _, fun _ _ => ⟨rfl, rfl, rfl, rfl⟩⟩
theorem sk_ext_trans {t u v : sk_Tr} (h : sk_ext t u) (g : sk_ext u v) : sk_ext t v := ⟨Nat.le_trans h.1 g.1, fun i hi => by
  obtain ⟨a, b, c, d⟩ := h.2 i hi
  obtain ⟨a2, b2, c2, d2⟩ := g.2 i (Nat.lt_of_lt_of_le hi h.1)
  exact ⟨a2.trans a, b2.trans b, c2.trans c, d2.trans d⟩⟩
theorem sk_ext_make (t : sk_Tr) (p o a L : Int32) : sk_ext t (sk_make t p o a L) := ⟨Nat.le_succ _, fun i hi => ⟨pk_un (Nat.ne_of_lt hi), pk_un (Nat.ne_of_lt hi), pk_un (Nat.ne_of_lt hi), pk_un (Nat.ne_of_lt hi)⟩⟩
theorem sk_ext_nm {nO : Nat} {t u : sk_Tr} (h : sk_TO nO t) (he : sk_ext t u) : ∀ i, i < t.1 → sk_len u i = sk_len t i ∧ ∀ k, k < sk_len t i → sk_nm u i k = sk_nm t i k := by
  refine sk_ind h (fun i => sk_len u i = sk_len t i ∧ ∀ k, k < sk_len t i → sk_nm u i k = sk_nm t i k) ?_ ?_
  · intro i hi _ e
    refine ⟨by unfold sk_len; rw [(he.2 i hi).2.2.2], fun k hk => ?_⟩
    rw [sk_lenE (by omega) e] at hk
    omega
  · intro i j m a hi hj hm ha ho h1 h2 hp hl hd ih
    have hj31 : j < 2 ^ 31 := by have := sk_t31 h hi; omega
    obtain ⟨-, e2, e3, e4⟩ := he.2 i hi
    obtain ⟨-, f2, f3, f4⟩ := he.2 j (by omega)
    refine ⟨by unfold sk_len; rw [e4], fun k hk => ?_⟩
    rw [sk_lenE (by omega) h2] at hk
    by_cases hkm : k < m
    · rw [sk_nm_par hj31 hm ho h1 h2 hkm, sk_nm_par hj31 hm (e2.trans ho) (f4.trans h1) (e4.trans h2) hkm]
      exact ih.2 k (by rw [sk_lenE (by omega) h1]; exact hkm)
    · have hkm : k = m := by omega
      subst hkm
      rw [sk_nm_top hm h2, sk_nm_top hm (e4.trans h2), e3]
theorem sk_SO_ext {nO : Nat} {t u : sk_Tr} (h : sk_TO nO t) (he : sk_ext t u) {i : Nat} (hi : i < t.1) : sk_SO nO u i := by
  obtain ⟨e1, e2, e3, e4⟩ := he.2 i hi
  refine ⟨by rw [e1]; exact (h.2.2.2.2.2 i hi).1, ?_⟩
  rcases (h.2.2.2.2.2 i hi).2 with ⟨a, b⟩ | ⟨j, m, a, h1, h2, h3, h4, h5, h6, h7, h8, h9⟩
  · exact Or.inl ⟨e2.trans a, e4.trans b⟩
  · obtain ⟨f1, f2, f3, f4⟩ := he.2 j (by omega)
    refine Or.inr ⟨j, m, a, h1, h2, h3, e2.trans h4, f4.trans h5, e4.trans h6, by rw [e1, f1]; exact h7, e3.trans h8, fun k hk => ?_⟩
    rw [e3, (sk_ext_nm h he j (by omega)).2 k (by rw [sk_lenE (by omega) h5]; exact hk)]
    exact h9 k hk
theorem sk_TO_of {nO : Nat} {t u : sk_Tr} (h : sk_TO nO t) (he : sk_ext t u) (hu : u.1 ≤ 200) (hn : ∀ i, t.1 ≤ i → i < u.1 → sk_SO nO u i) : sk_TO nO u := by
  obtain ⟨h1, h2, h3, h4, h5, h6⟩ := h
  refine ⟨Nat.le_trans h1 he.1, hu, h3, ((he.2 0 (by omega)).1).trans h4, ((he.2 0 (by omega)).2.1).trans h5, fun i hi => ?_⟩
  by_cases hit : i < t.1
  · exact sk_SO_ext ⟨h1, h2, h3, h4, h5, h6⟩ he hit
  · exact hn i (by omega) hi
theorem sk_TO_mono {nO nP : Nat} {t : sk_Tr} (h : sk_TO nO t) (h1 : nO ≤ nP) (h2 : nP ≤ 60) : sk_TO nP t := by
  obtain ⟨a1, a2, a3, a4, a5, a6⟩ := h
  refine ⟨a1, a2, h2, a4, a5, fun i hi => ⟨?_, (a6 i hi).2⟩⟩
  rcases (a6 i hi).1 with e | ⟨x, hx, e⟩
  · exact Or.inl e
  · exact Or.inr ⟨x, by omega, e⟩
theorem sk_TO_child {nO : Nat} {t : sk_Tr} (h : sk_TO nO t) {s m a : Nat} (hs : s < t.1) (hn : t.1 < 200) (hm : m < 12) (hl : t.2.2.2.2 s = nI m) (ha : a < 12) (hd : ∀ k, k < m → ¬ sk_nm t s k = nI a) : sk_TO nO (sk_grow1 t s (nI a)) := by
  have he : sk_ext t (sk_grow1 t s (nI a)) := sk_ext_make t _ _ _ _
  refine sk_TO_of h he (show t.1 + 1 ≤ 200 by omega) (fun i h1 h2 => ?_)
  have h2 : i < t.1 + 1 := h2
  have hi : i = t.1 := by omega
  subst hi
  obtain ⟨f1, f2, f3, f4⟩ := he.2 s hs
  refine ⟨?_, Or.inr ⟨s, m, a, hs, hm, ha, pk_us, f4.trans hl, ?_, ?_, pk_us, fun k hk => ?_⟩⟩
  · rw [show (sk_grow1 t s (nI a)).2.1 t.1 = t.2.1 s from pk_us]
    exact (h.2.2.2.2.2 s hs).1
  · rw [show (sk_grow1 t s (nI a)).2.2.2.2 t.1 = t.2.2.2.2 s + 1 from pk_us, hl]
    exact nI_1 m
  · rw [f1]; exact pk_us
  · rw [show (sk_grow1 t s (nI a)).2.2.2.1 t.1 = nI a from pk_us, (sk_ext_nm h he s hs).2 k (by rw [sk_lenE (by omega) hl]; exact hk)]
    exact hd k hk
theorem sk_TO_empty {nO : Nat} {t : sk_Tr} (h : sk_TO nO t) {p : Int32} (hn : t.1 < 200) (hp : p = -1 ∨ ∃ x, x < nO ∧ p = nI x) : sk_TO nO (sk_make t p (-1) (-1) 0) := by
  have he : sk_ext t (sk_make t p (-1) (-1) 0) := sk_ext_make t _ _ _ _
  refine sk_TO_of h he (show t.1 + 1 ≤ 200 by omega) (fun i h1 h2 => ?_)
  have h2 : i < t.1 + 1 := h2
  have hi : i = t.1 := by omega
  subst hi
  refine ⟨?_, Or.inl ⟨pk_us, pk_us⟩⟩
  rw [show (sk_make t p (-1) (-1) 0).2.1 t.1 = p from pk_us]
  exact hp
/-! names as a list -/
def sk_names (t : sk_Tr) (s : Nat) : List Int32 := (List.range (sk_len t s)).map (sk_nm t s)
theorem sk_names_len (t : sk_Tr) (s : Nat) : (sk_names t s).length = sk_len t s := by simp [sk_names]
theorem sk_names_mem {t : sk_Tr} {s : Nat} {x : Int32} : x ∈ sk_names t s ↔ ∃ k, k < sk_len t s ∧ sk_nm t s k = x := by
  unfold sk_names
  rw [List.mem_map]
  exact ⟨fun ⟨k, h, e⟩ => ⟨k, List.mem_range.mp h, e⟩, fun ⟨k, h, e⟩ => ⟨k, List.mem_range.mpr h, e⟩⟩
theorem sk_names_get {t : sk_Tr} {s k : Nat} (h : k < sk_len t s) : (sk_names t s)[k]? = some (sk_nm t s k) := by
  unfold sk_names
  rw [List.getElem?_map, List.getElem?_range h]
  rfl
theorem sk_names_child {t : sk_Tr} {i s m : Nat} {a : Int32} (hs : s < 2 ^ 31) (hm : m < 12) (ho : t.2.2.1 i = nI s) (h1 : t.2.2.2.2 s = nI m) (h2 : t.2.2.2.2 i = nI (m + 1)) (hl : t.2.2.2.1 i = a) : sk_names t i = sk_names t s ++ [a] := by
  unfold sk_names
  rw [sk_lenE (by omega) h2, sk_lenE (by omega) h1, List.range_succ, List.map_append]
  congr 1
  · apply List.map_congr_left
    intro k hk
    exact sk_nm_par hs hm ho h1 h2 (List.mem_range.mp hk)
  · rw [List.map_cons, List.map_nil, sk_nm_top hm h2, hl]
theorem sk_names_ext {nO : Nat} {t u : sk_Tr} (h : sk_TO nO t) (he : sk_ext t u) {i : Nat} (hi : i < t.1) : sk_names u i = sk_names t i := by
  unfold sk_names
  obtain ⟨e1, e2⟩ := sk_ext_nm h he i hi
  rw [e1]
  apply List.map_congr_left
  intro k hk
  exact e2 k (List.mem_range.mp hk)
theorem sk_names_nodup {nO : Nat} {t : sk_Tr} (h : sk_TO nO t) {s : Nat} (hs : s < t.1) : (sk_names t s).Nodup := by
  refine List.pairwise_iff_getElem.mpr (fun i j hi hj hij e => ?_)
  rw [sk_names_len] at hi hj
  have e1 : (sk_names t s)[i]? = some (sk_nm t s i) := sk_names_get hi
  have e2 : (sk_names t s)[j]? = some (sk_nm t s j) := sk_names_get hj
  rw [List.getElem?_eq_getElem (by rw [sk_names_len]; exact hi)] at e1
  rw [List.getElem?_eq_getElem (by rw [sk_names_len]; exact hj)] at e2
  have := sk_nm_inj h s hs i hi j hj ((Option.some.inj e1).symm.trans (e.trans (Option.some.inj e2)))
  omega
def sk_in12 (l : List Int32) : Prop := ∀ x ∈ l, ∃ a, a < 12 ∧ x = nI a
theorem sk_names_in {nO : Nat} {t : sk_Tr} (h : sk_TO nO t) {s : Nat} (hs : s < t.1) : sk_in12 (sk_names t s) := fun x hx => by
  obtain ⟨k, hk, e⟩ := sk_names_mem.mp hx
  obtain ⟨a, ha, e2⟩ := sk_nm_in h s hs k hk
  exact ⟨a, ha, e.symm.trans e2⟩
theorem sk_len12 {l : List Int32} (hn : l.Nodup) (h : sk_in12 l) : l.length ≤ 12 := by
  refine sk_pigeon 12 l.length (fun i => (l.getD i 0).toNatClampNeg) (fun i hi => ?_) (fun i j hi hj e => ?_)
  · obtain ⟨a, ha, e⟩ := h l[i] (List.getElem_mem hi)
    try dsimp only
    rw [List.getD_eq_getElem?_getD, List.getElem?_eq_getElem hi, Option.getD_some, e, nI_clamp (by omega)]
    exact ha
  · obtain ⟨a, ha, e1⟩ := h l[i] (List.getElem_mem hi)
    obtain ⟨b, hb, e2⟩ := h l[j] (List.getElem_mem hj)
    try dsimp only at e
    rw [List.getD_eq_getElem?_getD, List.getElem?_eq_getElem hi, Option.getD_some, List.getD_eq_getElem?_getD, List.getElem?_eq_getElem hj, Option.getD_some, e1, e2, nI_clamp (by omega), nI_clamp (by omega)] at e
    have e3 : l[i] = l[j] := by rw [e1, e2, e]
    rcases Nat.lt_trichotomy i j with g | g | g
    · exact absurd e3 (List.pairwise_iff_getElem.mp hn i j hi hj g)
    · exact g
    · exact absurd e3.symm (List.pairwise_iff_getElem.mp hn j i hj hi g)
/-! searches in the tree -/
def sk_em (t : sk_Tr) (p : Int32) : Int32 := sk_ff (fun i => decide (t.2.2.1 i = -1) && decide (t.2.1 i = p)) t.1 0
def sk_wn (t : sk_Tr) (s : Nat) (a : Int32) : Int32 := sk_ff (fun i => decide (t.2.2.1 i = nI s) && decide (t.2.2.2.1 i = a)) (t.1 - (s + 1)) (s + 1)
theorem sk_em_spec (t : sk_Tr) (p : Int32) : (sk_em t p = -1 ∧ ∀ i, i < t.1 → ¬ (t.2.2.1 i = -1 ∧ t.2.1 i = p)) ∨ ∃ i, i < t.1 ∧ sk_em t p = nI i ∧ t.2.2.1 i = -1 ∧ t.2.1 i = p := by
  rcases sk_ff_spec (fun i => decide (t.2.2.1 i = -1) && decide (t.2.1 i = p)) t.1 0 with ⟨e, q⟩ | ⟨i, h1, h2, e, hp, -⟩
  · refine Or.inl ⟨e, fun i hi hx => ?_⟩
    have := q i (Nat.zero_le i) (by omega)
    simp [hx.1, hx.2] at this
  · simp only [Bool.and_eq_true, decide_eq_true_eq] at hp
    exact Or.inr ⟨i, by omega, e, hp.1, hp.2⟩
theorem sk_wn_spec {nO : Nat} {t : sk_Tr} (h : sk_TO nO t) {s : Nat} (hs : s < t.1) (a : Int32) : (sk_wn t s a = -1 ∧ ∀ i, i < t.1 → ¬ (t.2.2.1 i = nI s ∧ t.2.2.2.1 i = a)) ∨ ∃ i m, i < t.1 ∧ s < i ∧ sk_wn t s a = nI i ∧ t.2.2.1 i = nI s ∧ t.2.2.2.1 i = a ∧ m < 12 ∧ t.2.2.2.2 s = nI m ∧ t.2.2.2.2 i = nI (m + 1) ∧ t.2.1 i = t.2.1 s ∧ sk_names t i = sk_names t s ++ [a] := by
  rcases sk_ff_spec (fun i => decide (t.2.2.1 i = nI s) && decide (t.2.2.2.1 i = a)) (t.1 - (s + 1)) (s + 1) with ⟨e, q⟩ | ⟨i, h1, h2, e, hp, -⟩
  · refine Or.inl ⟨e, fun i hi hx => ?_⟩
    rcases (h.2.2.2.2.2 i hi).2 with ⟨e9, -⟩ | ⟨j, m, b, g1, g2, g3, g4, g5, g6, g7, g8, g9⟩
    · exact sk_nm1 (sk_t31 h hs) (hx.1.symm.trans e9)
    · have hj : j = s := sk_inj (by have := sk_t31 h hi; omega) (sk_t31 h hs) (g4.symm.trans hx.1)
      have := q i (by omega) (by omega)
      simp [hx.1, hx.2] at this
  · simp only [Bool.and_eq_true, decide_eq_true_eq] at hp
    have hi : i < t.1 := by omega
    rcases (h.2.2.2.2.2 i hi).2 with ⟨e9, -⟩ | ⟨j, m, b, g1, g2, g3, g4, g5, g6, g7, g8, g9⟩
    · exact absurd (hp.1.symm.trans e9) (sk_nm1 (sk_t31 h hs))
    · have hj : j = s := sk_inj (by have := sk_t31 h hi; omega) (sk_t31 h hs) (g4.symm.trans hp.1)
      subst hj
      exact Or.inr ⟨i, m, hi, g1, e, hp.1, hp.2, g2, g5, g6, g7, sk_names_child (sk_t31 h hs) g2 g4 g5 g6 hp.2⟩
def sk_down (t : sk_Tr) : Nat → List Int32 → Nat × List Int32
  | s, [] => (s, [])
  | s, a :: r => if sk_wn t s a = -1 then (s, a :: r) else sk_down t (sk_wn t s a).toNatClampNeg r
def sk_mk : sk_Tr → Nat → List Int32 → sk_Tr × Nat
  | t, s, [] => (t, s)
  | t, s, a :: r => sk_mk (sk_grow1 t s a) t.1 r
def sk_reach (t : sk_Tr) (p : Int32) (ns : List Int32) : Option (sk_Tr × Nat) :=
  if sk_em t p = -1 then (if 200 < t.1 + (1 + ns.length) then none else some (sk_mk (sk_make t p (-1) (-1) 0) t.1 ns))
  else (if 200 < t.1 + (sk_down t (sk_em t p).toNatClampNeg ns).2.length then none else some (sk_mk t (sk_down t (sk_em t p).toNatClampNeg ns).1 (sk_down t (sk_em t p).toNatClampNeg ns).2))
theorem sk_down_spec {nO : Nat} {t : sk_Tr} (h : sk_TO nO t) : ∀ (ns : List Int32) (s : Nat), s < t.1 → ∃ done, ns = done ++ (sk_down t s ns).2 ∧ (sk_down t s ns).1 < t.1 ∧ t.2.1 (sk_down t s ns).1 = t.2.1 s ∧ sk_names t (sk_down t s ns).1 = sk_names t s ++ done
  | [], s, hs => ⟨[], rfl, hs, rfl, by rw [List.append_nil]; rfl⟩
  | a :: r, s, hs => by
    by_cases hw : sk_wn t s a = -1
    · have e : sk_down t s (a :: r) = (s, a :: r) := by rw [sk_down, if_pos hw]
      rw [e]
      exact ⟨[], rfl, hs, rfl, by rw [List.append_nil]⟩
    · rcases sk_wn_spec h hs a with ⟨e, -⟩ | ⟨i, m, hi, hsi, e, ho, hl, hm, h1, h2, hp, hn⟩
      · exact absurd e hw
      · have e2 : sk_down t s (a :: r) = sk_down t i r := by rw [sk_down, if_neg hw, e, nI_clamp (sk_t31 h hi)]
        rw [e2]
        obtain ⟨done, d1, d2, d3, d4⟩ := sk_down_spec h r i hi
        exact ⟨a :: done, by rw [List.cons_append, ← d1], d2, d3.trans hp, by rw [d4, hn, List.append_assoc]; rfl⟩
theorem sk_mk_spec {nO : Nat} : ∀ (ns : List Int32) (t : sk_Tr) (s : Nat), sk_TO nO t → s < t.1 → t.1 + ns.length ≤ 200 → (sk_names t s ++ ns).Nodup → sk_in12 (sk_names t s ++ ns) →
    sk_TO nO (sk_mk t s ns).1 ∧ sk_ext t (sk_mk t s ns).1 ∧ (sk_mk t s ns).2 < (sk_mk t s ns).1.1 ∧ (sk_mk t s ns).1.1 = t.1 + ns.length ∧ (sk_mk t s ns).1.2.1 (sk_mk t s ns).2 = t.2.1 s ∧ sk_names (sk_mk t s ns).1 (sk_mk t s ns).2 = sk_names t s ++ ns
  | [], t, s, h, hs, _, _, _ => ⟨h, sk_ext_refl t, hs, rfl, rfl, by rw [List.append_nil]; rfl⟩
  | a :: r, t, s, h, hs, hn, hd, hi => by
    have hlen : (sk_names t s ++ a :: r).length ≤ 12 := sk_len12 hd hi
    rw [List.length_append, sk_names_len, List.length_cons] at hlen
    rw [List.length_cons] at hn
    obtain ⟨m, hm, hl, hlm⟩ := sk_lenOk h hs
    obtain ⟨b, hb, eb⟩ := hi a (by simp)
    have hnot : ∀ k, k < m → ¬ sk_nm t s k = nI b := fun k hk e => by
      have h1 : a ∈ sk_names t s := sk_names_mem.mpr ⟨k, by rw [hlm]; exact hk, by rw [e, eb]⟩
      exact (List.nodup_append.mp hd).2.2 a h1 a (by simp) rfl
    have hT : sk_TO nO (sk_grow1 t s a) := by rw [eb]; exact sk_TO_child h hs (by omega) (by omega) hl hb hnot
    have he : sk_ext t (sk_grow1 t s a) := sk_ext_make t _ _ _ _
    have hnames : sk_names (sk_grow1 t s a) t.1 = sk_names t s ++ [a] := by
      rw [sk_names_child (t := sk_grow1 t s a) (i := t.1) (s := s) (m := m) (a := a) (sk_t31 h hs) (by omega) pk_us (((he.2 s hs).2.2.2).trans hl) (by rw [show (sk_grow1 t s a).2.2.2.2 t.1 = t.2.2.2.2 s + 1 from pk_us, hl]; exact nI_1 m) pk_us, sk_names_ext h he hs]
    obtain ⟨q1, q2, q3, q4, q5, q6⟩ := sk_mk_spec r (sk_grow1 t s a) t.1 hT (Nat.lt_succ_self _) (show t.1 + 1 + r.length ≤ 200 by omega) (by rw [hnames, List.append_assoc]; exact hd) (by rw [hnames, List.append_assoc]; exact hi)
    refine ⟨q1, sk_ext_trans he q2, q3, ?_, ?_, ?_⟩
    · refine q4.trans ?_
      show t.1 + 1 + r.length = t.1 + (r.length + 1)
      omega
    · exact q5.trans (show (sk_grow1 t s a).2.1 t.1 = t.2.1 s from pk_us)
    · refine q6.trans ?_
      rw [hnames, List.append_assoc]; rfl
theorem sk_reach_spec {nO : Nat} {t : sk_Tr} (h : sk_TO nO t) {p : Int32} (hp : p = -1 ∨ ∃ x, x < nO ∧ p = nI x) {ns : List Int32} (hd : ns.Nodup) (hi : sk_in12 ns) {u : sk_Tr} {r : Nat} (e : sk_reach t p ns = some (u, r)) :
    sk_TO nO u ∧ sk_ext t u ∧ r < u.1 ∧ u.2.1 r = p ∧ sk_names u r = ns := by
  unfold sk_reach at e
  by_cases hm : sk_em t p = -1
  · rw [if_pos hm] at e
    by_cases hn : 200 < t.1 + (1 + ns.length)
    · rw [if_pos hn] at e; cases e
    · rw [if_neg hn] at e
      have hT := sk_TO_empty h (by omega) hp
      have he : sk_ext t (sk_make t p (-1) (-1) 0) := sk_ext_make t _ _ _ _
      have hnames : sk_names (sk_make t p (-1) (-1) 0) t.1 = [] := by
        unfold sk_names
        rw [sk_lenE (t := sk_make t p (-1) (-1) 0) (m := 0) (by omega) pk_us]; rfl
      obtain ⟨q1, q2, q3, q4, q5, q6⟩ := sk_mk_spec ns (sk_make t p (-1) (-1) 0) t.1 hT (Nat.lt_succ_self _) (show t.1 + 1 + ns.length ≤ 200 by omega) (by rw [hnames]; exact hd) (by rw [hnames]; exact hi)
      rw [Option.some.inj e] at q1 q2 q3 q4 q5 q6
      exact ⟨q1, sk_ext_trans he q2, q3, q5.trans pk_us, by rw [q6, hnames]; rfl⟩
  · rw [if_neg hm] at e
    rcases sk_em_spec t p with ⟨e9, -⟩ | ⟨i, hit, e9, ho, hpi⟩
    · exact absurd e9 hm
    · rw [e9, nI_clamp (sk_t31 h hit)] at e
      by_cases hn : 200 < t.1 + (sk_down t i ns).2.length
      · rw [if_pos hn] at e; cases e
      · rw [if_neg hn] at e
        obtain ⟨done, d1, d2, d3, d4⟩ := sk_down_spec h ns i hit
        have hnames : sk_names t i = [] := by
          rcases (h.2.2.2.2.2 i hit).2 with ⟨-, e0⟩ | ⟨j, m, b, g1, g2, g3, g4, g5⟩
          · unfold sk_names; rw [sk_lenE (by omega) e0]; rfl
          · exact absurd (g4.symm.trans ho) (sk_nm1 (by have := sk_t31 h hit; omega))
        rw [hnames, List.nil_append] at d4
        obtain ⟨q1, q2, q3, q4, q5, q6⟩ := sk_mk_spec (sk_down t i ns).2 t (sk_down t i ns).1 h d2 (by omega) (by rw [d4, ← d1]; exact hd) (by rw [d4, ← d1]; exact hi)
        rw [Option.some.inj e] at q1 q2 q3 q4 q5 q6
        exact ⟨q1, q2, q3, (q5.trans d3).trans hpi, by rw [q6, d4, ← d1]⟩
end
section
/-! the objects above: chains of prototypes -/
def sk_v (n : Nat) (a : Int32) : Prop := a = -1 ∨ ∃ x, x < n ∧ a = nI x
def sk_vp (n : Nat) (op : sk_F) : Prop := ∀ x, x < n → sk_v n (op x)
def sk_ch (op : sk_F) : Nat → Int32 → List Nat
  | 0, _ => []
  | k + 1, a => if a = -1 then [] else a.toNatClampNeg :: sk_ch op k (op a.toNatClampNeg)
/-- the chain ends within k steps -/
def sk_dp (op : sk_F) : Nat → Int32 → Prop
  | 0, a => a = -1
  | k + 1, a => a = -1 ∨ sk_dp op k (op a.toNatClampNeg)
theorem sk_dp_m1 (op : sk_F) : ∀ k, sk_dp op k (-1)
  | 0 => rfl
  | _ + 1 => Or.inl rfl
theorem sk_ch_m1 (op : sk_F) : ∀ k, sk_ch op k (-1) = []
  | 0 => rfl
  | _ + 1 => if_pos rfl
theorem sk_dp_mono {op : sk_F} : ∀ (k : Nat) (a : Int32), sk_dp op k a → sk_dp op (k + 1) a
  | 0, _, h => Or.inl h
  | _ + 1, _, Or.inl h => Or.inl h
  | k + 1, _, Or.inr h => Or.inr (sk_dp_mono k _ h)
theorem sk_dp_add {op : sk_F} {k : Nat} {a : Int32} (h : sk_dp op k a) : ∀ d, sk_dp op (k + d) a
  | 0 => h
  | d + 1 => sk_dp_mono _ _ (sk_dp_add h d)
theorem sk_dp_le {op : sk_F} {k g : Nat} {a : Int32} (h : sk_dp op k a) (hg : k ≤ g) : sk_dp op g a := by
  have := sk_dp_add h (g - k)
  rwa [show k + (g - k) = g by omega] at this
theorem sk_ch_stable {op : sk_F} : ∀ (k : Nat) (a : Int32), sk_dp op k a → ∀ d, sk_ch op (k + d) a = sk_ch op k a
  | 0, a, h, d => by
    have h : a = -1 := h
    rw [h, sk_ch_m1, sk_ch_m1]
  | k + 1, a, h, d => by
    rw [show k + 1 + d = (k + d) + 1 by omega]
    show (if a = -1 then [] else a.toNatClampNeg :: sk_ch op (k + d) (op a.toNatClampNeg)) = (if a = -1 then [] else a.toNatClampNeg :: sk_ch op k (op a.toNatClampNeg))
    by_cases ha : a = -1
    · rw [if_pos ha, if_pos ha]
    · rcases h with h | h
      · exact absurd h ha
      · rw [if_neg ha, if_neg ha, sk_ch_stable k _ h d]
theorem sk_ch_le {op : sk_F} {k g : Nat} {a : Int32} (h : sk_dp op k a) (hg : k ≤ g) : sk_ch op g a = sk_ch op k a := by
  have := sk_ch_stable k a h (g - k)
  rwa [show k + (g - k) = g by omega] at this
theorem sk_ch_len {op : sk_F} : ∀ (k : Nat) (a : Int32), (sk_ch op k a).length ≤ k
  | 0, _ => Nat.le_refl _
  | k + 1, a => by
    show (if a = -1 then [] else a.toNatClampNeg :: sk_ch op k (op a.toNatClampNeg)).length ≤ _
    by_cases ha : a = -1
    · rw [if_pos ha]; exact Nat.zero_le _
    · rw [if_neg ha, List.length_cons]
      have := sk_ch_len (op := op) k (op a.toNatClampNeg)
      omega
theorem sk_ch_s {op : sk_F} {k : Nat} {a : Int32} (ha : ¬ a = -1) : sk_ch op (k + 1) a = a.toNatClampNeg :: sk_ch op k (op a.toNatClampNeg) := if_neg ha
theorem sk_dp_s {op : sk_F} {k : Nat} {a : Int32} (ha : ¬ a = -1) (h : sk_dp op (k + 1) a) : sk_dp op k (op a.toNatClampNeg) := h.resolve_left ha
theorem sk_ch_lt {n : Nat} {op : sk_F} (hn : n ≤ 60) (hv : sk_vp n op) : ∀ (k : Nat) (a : Int32), sk_v n a → ∀ y ∈ sk_ch op k a, y < n
  | 0, _, _, _, h => by cases h
  | k + 1, a, ha, y, hy => by
    rcases ha with e | ⟨x, hx, e⟩
    · rw [e, sk_ch_m1] at hy; cases hy
    · subst e
      rw [sk_ch_s (sk_nm1 (by omega)), nI_clamp (by omega)] at hy
      rcases List.mem_cons.mp hy with h | h
      · rw [h]; exact hx
      · exact sk_ch_lt hn hv k _ (hv x hx) y h
theorem sk_dp_len {op : sk_F} : ∀ (k : Nat) (a : Int32), sk_dp op k a → sk_dp op (sk_ch op k a).length a
  | 0, _, h => h
  | k + 1, a, h => by
    by_cases ha : a = -1
    · rw [ha]; exact sk_dp_m1 op _
    · rw [sk_ch_s ha, List.length_cons]
      exact Or.inr (sk_dp_len k _ (sk_dp_s ha h))
theorem sk_ch_in {n : Nat} {op : sk_F} (hn : n ≤ 60) (hv : sk_vp n op) : ∀ (k : Nat) (a : Int32), sk_dp op k a → sk_v n a → ∀ y ∈ sk_ch op k a, sk_dp op k (nI y) ∧ (sk_ch op k (nI y)).length ≤ (sk_ch op k a).length
  | 0, _, _, _, _, h => by cases h
  | k + 1, a, hd, ha, y, hy => by
    rcases ha with e | ⟨x, hx, e⟩
    · rw [e, sk_ch_m1] at hy; cases hy
    · subst e
      have hne := sk_nm1 (show x < 2 ^ 31 by omega)
      have hd1 := sk_dp_s hne hd
      rw [nI_clamp (by omega)] at hd1
      rw [sk_ch_s hne, nI_clamp (by omega)] at hy
      rcases List.mem_cons.mp hy with h | h
      · subst h
        exact ⟨hd, Nat.le_refl _⟩
      · obtain ⟨q1, q2⟩ := sk_ch_in hn hv k _ hd1 (hv x hx) y h
        refine ⟨sk_dp_mono _ _ q1, ?_⟩
        rw [sk_ch_le q1 (Nat.le_succ k), sk_ch_s hne, nI_clamp (by omega), List.length_cons]
        omega
theorem sk_ch_nodup {n : Nat} {op : sk_F} (hn : n ≤ 60) (hv : sk_vp n op) : ∀ (k : Nat) (a : Int32), sk_dp op k a → sk_v n a → (sk_ch op k a).Nodup
  | 0, _, _, _ => List.Pairwise.nil
  | k + 1, a, hd, ha => by
    rcases ha with e | ⟨x, hx, e⟩
    · rw [e, sk_ch_m1]; exact List.Pairwise.nil
    · subst e
      have hne := sk_nm1 (show x < 2 ^ 31 by omega)
      have hd1 := sk_dp_s hne hd
      rw [nI_clamp (by omega)] at hd1
      have e1 : sk_ch op (k + 1) (nI x) = x :: sk_ch op k (op x) := by rw [sk_ch_s hne, nI_clamp (by omega)]
      rw [e1]
      refine List.nodup_cons.mpr ⟨fun h => ?_, sk_ch_nodup hn hv k _ hd1 (hv x hx)⟩
      obtain ⟨q1, q2⟩ := sk_ch_in hn hv k _ hd1 (hv x hx) x h
      rw [← sk_ch_le q1 (Nat.le_succ k), e1, List.length_cons] at q2
      omega
theorem sk_nd_len {n : Nat} {l : List Nat} (hd : l.Nodup) (h : ∀ y ∈ l, y < n) : l.length ≤ n := by
  refine sk_pigeon n l.length (fun i => l.getD i 0) (fun i hi => ?_) (fun i j hi hj e => ?_)
  · try dsimp only
    rw [List.getD_eq_getElem?_getD, List.getElem?_eq_getElem hi, Option.getD_some]
    exact h _ (List.getElem_mem hi)
  · try dsimp only at e
    rw [List.getD_eq_getElem?_getD, List.getElem?_eq_getElem hi, Option.getD_some, List.getD_eq_getElem?_getD, List.getElem?_eq_getElem hj, Option.getD_some] at e
    rcases Nat.lt_trichotomy i j with g | g | g
    · exact absurd e (List.pairwise_iff_getElem.mp hd i j hi hj g)
    · exact g
    · exact absurd e.symm (List.pairwise_iff_getElem.mp hd j i hj hi g)
theorem sk_dp_bound {n : Nat} {op : sk_F} (hn : n ≤ 60) (hv : sk_vp n op) {k : Nat} {a : Int32} (hd : sk_dp op k a) (ha : sk_v n a) : sk_dp op n a :=
  sk_dp_le (sk_dp_len k a hd) (sk_nd_len (sk_ch_nodup hn hv k a hd ha) (sk_ch_lt hn hv k a ha))
/-- no object is above itself -/
def sk_AC (n : Nat) (op : sk_F) : Prop := n ≤ 60 ∧ sk_vp n op ∧ ∀ a, sk_v n a → sk_dp op n a
def sk_abv (op : sk_F) (a : Int32) : List Nat := sk_ch op 60 a
theorem sk_abv_m1 (op : sk_F) : sk_abv op (-1) = [] := sk_ch_m1 op 60
theorem sk_abv_s {n : Nat} {op : sk_F} (h : sk_AC n op) {x : Nat} (hx : x < n) : sk_abv op (nI x) = x :: sk_abv op (op x) := by
  obtain ⟨hn, hv, hd⟩ := h
  have hne := sk_nm1 (show x < 2 ^ 31 by omega)
  have h1 : sk_dp op (59 + 1) (nI x) := sk_dp_le (hd _ (Or.inr ⟨x, hx, rfl⟩)) hn
  have h2 := sk_dp_s hne h1
  rw [nI_clamp (by omega)] at h2
  unfold sk_abv
  rw [show (60 : Nat) = 59 + 1 from rfl, sk_ch_s hne, nI_clamp (by omega), sk_ch_le h2 (Nat.le_succ 59)]
theorem sk_abv_lt {n : Nat} {op : sk_F} (h : sk_AC n op) {a : Int32} (ha : sk_v n a) : ∀ y ∈ sk_abv op a, y < n := sk_ch_lt h.1 h.2.1 60 a ha
theorem sk_abv_nodup {n : Nat} {op : sk_F} (h : sk_AC n op) {a : Int32} (ha : sk_v n a) : (sk_abv op a).Nodup := sk_ch_nodup h.1 h.2.1 60 a (sk_dp_le (h.2.2 a ha) h.1) ha
theorem sk_abv_len (op : sk_F) (a : Int32) : (sk_abv op a).length ≤ 60 := sk_ch_len 60 a
theorem sk_ac_ind {n : Nat} {op : sk_F} (h : sk_AC n op) (P : Int32 → Prop) (h0 : P (-1)) (hs : ∀ x, x < n → P (op x) → P (nI x)) : ∀ a, sk_v n a → P a := by
  have key : ∀ (k : Nat) (a : Int32), sk_dp op k a → sk_v n a → P a := by
    intro k
    induction k with
    | zero => intro a hd _; rw [show a = -1 from hd]; exact h0
    | succ k ih =>
      intro a hd ha
      rcases ha with e | ⟨x, hx, e⟩
      · rw [e]; exact h0
      · subst e
        have h1 := sk_dp_s (sk_nm1 (show x < 2 ^ 31 by have := h.1; omega)) hd
        rw [nI_clamp (by have := h.1; omega)] at h1
        exact hs x hx (ih _ h1 (h.2.1 x hx))
  exact fun a ha => key n a (h.2.2 a ha) ha
/-- a prototype is turned; or one more object -/
theorem sk_ch_upd {op : sk_F} {o : Nat} {p : Int32} : ∀ (k : Nat) (a : Int32), o ∉ sk_ch op k a → sk_dp op k a → sk_ch (upd op o p) k a = sk_ch op k a ∧ sk_dp (upd op o p) k a
  | 0, _, _, h => ⟨rfl, h⟩
  | k + 1, a, ho, h => by
    by_cases ha : a = -1
    · rw [ha]; exact ⟨by rw [sk_ch_m1, sk_ch_m1], sk_dp_m1 _ _⟩
    · rw [sk_ch_s ha] at ho
      have hne : a.toNatClampNeg ≠ o := fun e => ho (by rw [e]; exact List.mem_cons_self)
      have hin : o ∉ sk_ch op k (op a.toNatClampNeg) := fun q => ho (List.mem_cons_of_mem _ q)
      obtain ⟨q1, q2⟩ := sk_ch_upd (p := p) k _ hin (sk_dp_s ha h)
      refine ⟨?_, Or.inr ?_⟩
      · rw [sk_ch_s ha, sk_ch_s ha, pk_un hne, q1]
      · rw [pk_un hne]; exact q2
theorem sk_AC_turn {n : Nat} {op : sk_F} (h : sk_AC n op) {o : Nat} {p : Int32} (ho : o < n) (hp : sk_v n p) (hx : o ∉ sk_abv op p) : sk_AC n (upd op o p) := by
  obtain ⟨hn, hv, hd⟩ := id h
  have hv2 : sk_vp n (upd op o p) := fun x hxn => by
    by_cases e : x = o
    · subst e; rw [pk_us]; exact hp
    · rw [pk_un e]; exact hv x hxn
  have hp2 : sk_dp (upd op o p) 60 p := (sk_ch_upd 60 p hx (sk_dp_le (hd p hp) hn)).2
  have key : ∀ (k : Nat) (a : Int32), sk_dp op k a → sk_dp (upd op o p) (k + 61) a := by
    intro k
    induction k with
    | zero => intro a q; rw [show a = -1 from q]; exact sk_dp_m1 _ _
    | succ k ih =>
      intro a q
      by_cases ha : a = -1
      · rw [ha]; exact sk_dp_m1 _ _
      · rw [show k + 1 + 61 = (k + 61) + 1 by omega]
        refine Or.inr ?_
        by_cases e : a.toNatClampNeg = o
        · rw [e, pk_us]
          exact sk_dp_le hp2 (by omega)
        · rw [pk_un e]
          exact ih _ (sk_dp_s ha q)
  exact ⟨hn, hv2, fun a ha => sk_dp_bound hn hv2 (key n a (hd a ha)) ha⟩
theorem sk_v_mono {n g : Nat} {a : Int32} (h : sk_v n a) (hg : n ≤ g) : sk_v g a := by
  rcases h with e | ⟨x, hx, e⟩
  · exact Or.inl e
  · exact Or.inr ⟨x, by omega, e⟩
theorem sk_AC_more {n : Nat} {op : sk_F} (h : sk_AC n op) (hn1 : n < 60) {p : Int32} (hp : sk_v n p) : sk_AC (n + 1) (upd op n p) := by
  obtain ⟨hn, hv, hd⟩ := id h
  have hnot : ∀ a, sk_v n a → n ∉ sk_ch op n a := fun a ha q => absurd (sk_ch_lt hn hv n a ha n q) (Nat.lt_irrefl n)
  have hv2 : sk_vp (n + 1) (upd op n p) := fun x hxn => by
    by_cases e : x = n
    · subst e; rw [pk_us]; exact sk_v_mono hp (by omega)
    · rw [pk_un e]; exact sk_v_mono (hv x (by omega)) (by omega)
  refine ⟨by omega, hv2, fun a ha => ?_⟩
  rcases ha with e | ⟨x, hx, e⟩
  · rw [e]; exact sk_dp_m1 _ _
  · by_cases hxn : x = n
    · subst hxn
      subst e
      refine Or.inr ?_
      rw [nI_clamp (by omega), pk_us]
      exact (sk_ch_upd x p (hnot p hp) (hd p hp)).2
    · have ha : sk_v n a := Or.inr ⟨x, by omega, e⟩
      exact sk_dp_mono _ _ (sk_ch_upd n a (hnot a ha) (hd a ha)).2
/-- the nearest of a list -/
def sk_nw (own : Nat → Bool) : List Nat → Int32
  | [] => -1
  | x :: r => if own x = true then nI x else sk_nw own r
/-- a list up to one of its own -/
def sk_upto (own : Nat → Bool) : List Nat → List Nat
  | [] => []
  | x :: r => if own x = true then [x] else x :: sk_upto own r
theorem sk_nw_spec (own : Nat → Bool) : ∀ l : List Nat, (sk_nw own l = -1 ∧ (∀ x ∈ l, own x = false) ∧ sk_upto own l = l) ∨ ∃ x, x ∈ l ∧ sk_nw own l = nI x ∧ own x = true ∧ x ∈ sk_upto own l
  | [] => Or.inl ⟨rfl, (fun _ h => by cases h), rfl⟩
  | y :: r => by
    by_cases h : own y = true
    · exact Or.inr ⟨y, List.mem_cons_self, if_pos h, h, by rw [sk_upto, if_pos h]; exact List.mem_cons_self⟩
    · have hf : own y = false := by cases hp : own y <;> simp_all
      have e1 : sk_nw own (y :: r) = sk_nw own r := if_neg h
      have e2 : sk_upto own (y :: r) = y :: sk_upto own r := if_neg h
      rw [e1, e2]
      rcases sk_nw_spec own r with ⟨a, b, c⟩ | ⟨x, hx, a, b, c⟩
      · refine Or.inl ⟨a, fun x hx => ?_, by rw [c]⟩
        rcases List.mem_cons.mp hx with g | g
        · rw [g]; exact hf
        · exact b x g
      · exact Or.inr ⟨x, List.mem_cons_of_mem _ hx, a, b, List.mem_cons_of_mem _ c⟩
theorem sk_upto_sub (own : Nat → Bool) : ∀ l : List Nat, ∀ x ∈ sk_upto own l, x ∈ l
  | [], _, h => h
  | y :: r, x, h => by
    by_cases ho : own y = true
    · rw [sk_upto, if_pos ho] at h
      rw [List.mem_singleton.mp h]; exact List.mem_cons_self
    · rw [sk_upto, if_neg ho] at h
      rcases List.mem_cons.mp h with g | g
      · rw [g]; exact List.mem_cons_self
      · exact List.mem_cons_of_mem _ (sk_upto_sub own r x g)
end
section
/-! ===== lN n to 2^64: shifts, and, or, masks, one bit ===== -/
theorem wb_tb (n : Nat) : (lN n).toBitVec = BitVec.ofNat 64 n := rfl
theorem wb_inj {a b : Int64} (h : a.toBitVec = b.toBitVec) : a = b := Int64.toBitVec_inj.mp h
theorem wb_tn {n : Nat} (h : n < 2 ^ 64) : (lN n).toBitVec.toNat = n := by rw [wb_tb, BitVec.toNat_ofNat, Nat.mod_eq_of_lt h]
theorem wb_of (x : Int64) : ∃ n, n < 2 ^ 64 ∧ x = lN n := ⟨x.toBitVec.toNat, x.toBitVec.isLt, wb_inj (by rw [wb_tb]; simp)⟩
theorem wb_of32 (x : Int32) : ∃ n, n < 2 ^ 32 ∧ x = nI n := ⟨x.toBitVec.toNat, x.toBitVec.isLt, Int32.toBitVec_inj.mp (by show _ = BitVec.ofNat 32 _; simp)⟩
theorem wb_c : ∀ k, k < 64 → ((nI k).toInt64 &&& 63) = lN k := by decide +kernel
theorem wb_cu : ∀ k, k < 64 → ((nI k).toInt64.toUInt64 &&& Int64.toUInt64 63) = UInt64.ofNat k := by decide +kernel
theorem wb_sm : ∀ k, k < 64 → (BitVec.ofNat 64 k).smod 64 = BitVec.ofNat 64 k := by decide +kernel
theorem wb_pw {a b : Nat} (h : a ≤ b) : 2 ^ b = 2 ^ a * 2 ^ (b - a) := by rw [← Nat.pow_add]; congr 1; omega
theorem wb_lt2 {a b : Nat} (h : a < b) : 2 ^ a < 2 ^ b := Nat.pow_lt_pow_right (by decide) h
theorem wb_mod (n : Nat) : lN n = lN (n % 2 ^ 64) := wb_inj (by rw [wb_tb, wb_tb]; apply BitVec.eq_of_toNat_eq; rw [BitVec.toNat_ofNat, BitVec.toNat_ofNat, Nat.mod_mod])
theorem wb_shr {n k : Nat} (hn : n < 2 ^ 64) (hk : k < 64) : ((lN n).toUInt64 >>> ((nI k).toInt64.toUInt64 &&& Int64.toUInt64 63)).toInt64 = lN (n / 2 ^ k) := by
  rw [wb_cu k hk]
  apply wb_inj
  apply BitVec.eq_of_toNat_eq
  show ((lN n).toUInt64 >>> UInt64.ofNat k).toNat = (BitVec.ofNat 64 _).toNat
  have h1 : (UInt64.ofNat k).toNat = k := by
    show (BitVec.ofNat 64 k).toNat = k
    rw [BitVec.toNat_ofNat, Nat.mod_eq_of_lt (by omega)]
  have h2 : (lN n).toUInt64.toNat = n := wb_tn hn
  rw [UInt64.toNat_shiftRight, h1, h2, Nat.mod_eq_of_lt hk, Nat.shiftRight_eq_div_pow, BitVec.toNat_ofNat, Nat.mod_eq_of_lt (Nat.lt_of_le_of_lt (Nat.div_le_self _ _) hn)]
theorem wb_shl (n : Nat) {k : Nat} (hk : k < 64) : lN n <<< ((nI k).toInt64 &&& 63) = lN (n * 2 ^ k) := by
  rw [wb_c k hk]
  apply wb_inj
  rw [Int64.toBitVec_shiftLeft, wb_tb, wb_tb, wb_tb, wb_sm k hk]
  apply BitVec.eq_of_toNat_eq
  rw [BitVec.shiftLeft_eq', BitVec.toNat_shiftLeft, BitVec.toNat_ofNat, BitVec.toNat_ofNat, BitVec.toNat_ofNat, Nat.mod_eq_of_lt (show k < 2 ^ 64 by omega), Nat.shiftLeft_eq, Nat.mul_mod, Nat.mod_mod, ← Nat.mul_mod]
theorem wb_and {a b : Nat} (ha : a < 2 ^ 64) (hb : b < 2 ^ 64) : lN a &&& lN b = lN (a &&& b) := by
  apply wb_inj
  rw [Int64.toBitVec_and, wb_tb, wb_tb, wb_tb]
  apply BitVec.eq_of_toNat_eq
  rw [BitVec.toNat_and, BitVec.toNat_ofNat, BitVec.toNat_ofNat, BitVec.toNat_ofNat, Nat.mod_eq_of_lt ha, Nat.mod_eq_of_lt hb, Nat.mod_eq_of_lt (Nat.and_lt_two_pow _ hb)]
theorem wb_or {a b : Nat} (ha : a < 2 ^ 64) (hb : b < 2 ^ 64) : lN a ||| lN b = lN (a ||| b) := by
  apply wb_inj
  rw [Int64.toBitVec_or, wb_tb, wb_tb, wb_tb]
  apply BitVec.eq_of_toNat_eq
  rw [BitVec.toNat_or, BitVec.toNat_ofNat, BitVec.toNat_ofNat, BitVec.toNat_ofNat, Nat.mod_eq_of_lt ha, Nat.mod_eq_of_lt hb, Nat.mod_eq_of_lt (Nat.or_lt_two_pow ha hb)]
theorem wb_mask {n k : Nat} (hn : n < 2 ^ 64) (hk : k < 64) : lN n &&& lN (2 ^ k - 1) = lN (n % 2 ^ k) := by
  rw [wb_and hn (by have := wb_lt2 hk; omega), Nat.and_two_pow_sub_one_eq_mod]
theorem wb_a1 {n : Nat} (hn : n < 2 ^ 64) : lN n &&& 1 = lN (n % 2) := wb_mask (k := 1) hn (by decide)
theorem wb_bit {n k : Nat} (hn : n < 2 ^ 64) (hk : k < 64) : ((lN n).toUInt64 >>> ((nI k).toInt64.toUInt64 &&& Int64.toUInt64 63)).toInt64 &&& 1 = lN (n / 2 ^ k % 2) := by
  rw [wb_shr hn hk, wb_a1 (Nat.lt_of_le_of_lt (Nat.div_le_self _ _) hn)]
/-! a set of numbers under 64 as bits; how many they are -/
def sk_nb : List Nat → Nat
  | [] => 0
  | x :: r => sk_nb r ||| 2 ^ x
theorem sk_nb_bit : ∀ (l : List Nat) (j : Nat), (sk_nb l).testBit j = decide (j ∈ l)
  | [], j => by simp [sk_nb]
  | x :: r, j => by
    rw [sk_nb, Nat.testBit_or, sk_nb_bit r j, Nat.testBit_two_pow]
    by_cases h1 : j ∈ r
    · simp [h1]
    · by_cases h2 : x = j
      · subst h2; simp
      · simp [h1, h2, Ne.symm h2, show ¬ j = x from fun e => h2 e.symm]
theorem sk_nb_lt : ∀ l : List Nat, (∀ x ∈ l, x < 64) → sk_nb l < 2 ^ 64
  | [], _ => by simp [sk_nb]
  | x :: r, h => by
    rw [sk_nb]
    exact Nat.or_lt_two_pow (sk_nb_lt r (fun y hy => h y (List.mem_cons_of_mem _ hy))) (wb_lt2 (h x List.mem_cons_self))
def sk_M (m : Nat) : Nat → Nat
  | 0 => 0
  | k + 1 => 2 ^ 8 * sk_M m k + m
theorem sk_Ms (m k : Nat) : sk_M m (k + 1) = 2 ^ 8 * sk_M m k + m := rfl
theorem sk_land8 {a m : Nat} (w M : Nat) (ha : a < 2 ^ 8) (hm : m < 2 ^ 8) : (2 ^ 8 * w + a) &&& (2 ^ 8 * M + m) = 2 ^ 8 * (w &&& M) + (a &&& m) := by
  apply Nat.eq_of_testBit_eq
  intro j
  rw [Nat.testBit_and, Nat.testBit_two_pow_mul_add _ ha, Nat.testBit_two_pow_mul_add _ hm, Nat.testBit_two_pow_mul_add _ (Nat.and_lt_two_pow _ hm)]
  by_cases h : j < 8
  · rw [if_pos h, if_pos h, if_pos h, Nat.testBit_and]
  · rw [if_neg h, if_neg h, if_neg h, Nat.testBit_and]
def sk_s1 (a : Nat) : Nat := a - (a / 2 &&& 85)
def sk_s2 (a : Nat) : Nat := (a &&& 51) + (a / 4 &&& 51)
def sk_s3 (a : Nat) : Nat := (a + a / 16) &&& 15
def sk_pb (a : Nat) : Nat := sk_s3 (sk_s2 (sk_s1 a))
def sk_S1 (k v : Nat) : Nat := v - (v / 2 &&& sk_M 85 k)
def sk_S2 (k v : Nat) : Nat := (v &&& sk_M 51 k) + (v / 4 &&& sk_M 51 k)
def sk_S3 (k v : Nat) : Nat := (v + v / 16) &&& sk_M 15 k
theorem sk_d1 : ∀ a, a < 256 → ∀ e, e < 2 → (128 * e + a / 2) &&& 85 = a / 2 &&& 85 := by decide +kernel
theorem sk_d2 : ∀ a, a < 256 → ∀ e, e < 4 → (64 * e + a / 4) &&& 51 = a / 4 &&& 51 := by decide +kernel
theorem sk_d3 : ∀ a, a < 69 → ∀ e, e < 5 → (a + a / 16 + 16 * e) &&& 15 = (a + a / 16) &&& 15 := by decide +kernel
theorem sk_d4 : ∀ b, b < 256 → sk_s1 b < 256 ∧ (b / 2 &&& 85) ≤ b ∧ sk_s2 (sk_s1 b) < 69 ∧ sk_s2 (sk_s1 b) % 16 < 5 ∧ sk_pb b < 9 := by decide +kernel
theorem sk_S1s (k w a : Nat) (ha : a < 256) : sk_S1 (k + 1) (2 ^ 8 * w + a) = 2 ^ 8 * sk_S1 k w + sk_s1 a := by
  unfold sk_S1 sk_s1
  rw [sk_Ms]
  have e : (2 ^ 8 * w + a) / 2 = 2 ^ 8 * (w / 2) + (128 * (w % 2) + a / 2) := by omega
  rw [e, sk_land8 _ _ (by omega) (by decide), sk_d1 a ha _ (Nat.mod_lt _ (by decide))]
  have h1 : (w / 2 &&& sk_M 85 k) ≤ w / 2 := Nat.and_le_left
  have h2 := (sk_d4 a ha).2.1
  omega
theorem sk_S2s (k w a : Nat) (ha : a < 256) : sk_S2 (k + 1) (2 ^ 8 * w + a) = 2 ^ 8 * sk_S2 k w + sk_s2 a := by
  unfold sk_S2 sk_s2
  rw [sk_Ms]
  have e : (2 ^ 8 * w + a) / 4 = 2 ^ 8 * (w / 4) + (64 * (w % 4) + a / 4) := by omega
  rw [e, sk_land8 (a := a) w _ ha (by decide), sk_land8 (w / 4) _ (by omega) (by decide), sk_d2 a ha _ (Nat.mod_lt _ (by decide))]
  omega
theorem sk_S3s (k w a : Nat) (ha : a < 69) (hw : w % 16 < 5) : sk_S3 (k + 1) (2 ^ 8 * w + a) = 2 ^ 8 * sk_S3 k w + sk_s3 a := by
  unfold sk_S3 sk_s3
  rw [sk_Ms]
  have e : (2 ^ 8 * w + a) + (2 ^ 8 * w + a) / 16 = 2 ^ 8 * (w + w / 16) + (a + a / 16 + 16 * (w % 16)) := by omega
  rw [e, sk_land8 _ _ (by omega) (by decide), sk_d3 a ha _ hw]
theorem sk_low : ∀ (k v : Nat), v < 256 ^ k → sk_S2 k (sk_S1 k v) % 16 < 5
  | 0, v, h => by
    have hv : v = 0 := by simpa using h
    subst hv
    decide
  | k + 1, v, h => by
    have hv : v = 2 ^ 8 * (v / 256) + v % 256 := by omega
    have hm : v % 256 < 256 := Nat.mod_lt _ (by decide)
    rw [hv, sk_S1s k _ _ hm, sk_S2s k _ _ (sk_d4 _ hm).1]
    have := (sk_d4 _ hm).2.2.2.1
    omega
def sk_fo : Nat → Nat → Nat
  | 0, _ => 0
  | k + 1, v => 2 ^ 8 * sk_fo k (v / 256) + sk_pb (v % 256)
def sk_pop : Nat → Nat → Nat
  | 0, _ => 0
  | k + 1, v => sk_pop k (v / 256) + sk_pb (v % 256)
theorem sk_fo_eq : ∀ (k v : Nat), v < 256 ^ k → sk_S3 k (sk_S2 k (sk_S1 k v)) = sk_fo k v
  | 0, v, h => by
    have hv : v = 0 := by simpa using h
    subst hv
    decide
  | k + 1, v, h => by
    have hv : v = 2 ^ 8 * (v / 256) + v % 256 := by omega
    have hm : v % 256 < 256 := Nat.mod_lt _ (by decide)
    have hd : v / 256 < 256 ^ k := by
      rw [Nat.pow_succ] at h
      exact Nat.div_lt_of_lt_mul (by rw [Nat.mul_comm]; exact h)
    have h4 := sk_d4 _ hm
    have e : sk_S3 (k + 1) (sk_S2 (k + 1) (sk_S1 (k + 1) (2 ^ 8 * (v / 256) + v % 256))) = 2 ^ 8 * sk_fo k (v / 256) + sk_pb (v % 256) := by
      rw [sk_S1s k _ _ hm, sk_S2s k _ _ h4.1, sk_S3s k _ _ h4.2.2.1 (sk_low k _ hd), sk_fo_eq k _ hd]
      rfl
    rw [← hv] at e
    exact e
theorem sk_pb9 (v : Nat) : sk_pb (v % 256) < 9 := (sk_d4 _ (Nat.mod_lt _ (by decide))).2.2.2.2
def sk_fin (V : Nat) : Nat := ((V + V / 256) + (V + V / 256) / 65536) + ((V + V / 256) + (V + V / 256) / 65536) / 4294967296
theorem sk_fo_s (k v : Nat) : sk_fo (k + 1) v = 2 ^ 8 * sk_fo k (v / 256) + sk_pb (v % 256) := rfl
theorem sk_pop_s (k v : Nat) : sk_pop (k + 1) v = sk_pop k (v / 256) + sk_pb (v % 256) := rfl
theorem sk_d5 : ∀ x, x < 8 → ∀ b, b < 256 → b.testBit x = false → (b ||| 2 ^ x) < 256 ∧ sk_pb (b ||| 2 ^ x) = sk_pb b + 1 := by decide +kernel
theorem sk_pop_or : ∀ (k v x : Nat), x < 8 * k → v.testBit x = false → sk_pop k (v ||| 2 ^ x) = sk_pop k v + 1
  | 0, _, _, h, _ => absurd h (by omega)
  | k + 1, v, x, h, hb => by
    show sk_pop k ((v ||| 2 ^ x) / 2 ^ 8) + sk_pb ((v ||| 2 ^ x) % 2 ^ 8) = sk_pop k (v / 2 ^ 8) + sk_pb (v % 2 ^ 8) + 1
    rw [Nat.or_mod_two_pow, Nat.or_div_two_pow]
    by_cases hx : x < 8
    · have e1 : 2 ^ x / 2 ^ 8 = 0 := Nat.div_eq_of_lt (Nat.pow_lt_pow_right (by decide) hx)
      have e2 : 2 ^ x % 2 ^ 8 = 2 ^ x := Nat.mod_eq_of_lt (Nat.pow_lt_pow_right (by decide) hx)
      have hb2 : (v % 2 ^ 8).testBit x = false := by rw [Nat.testBit_mod_two_pow, hb]; simp
      rw [e1, e2, Nat.or_zero, (sk_d5 x hx (v % 2 ^ 8) (Nat.mod_lt _ (by decide)) hb2).2]
      omega
    · have e0 : 2 ^ x = 2 ^ 8 * 2 ^ (x - 8) := by rw [← Nat.pow_add]; congr 1; omega
      have e1 : 2 ^ x / 2 ^ 8 = 2 ^ (x - 8) := by rw [e0, Nat.mul_div_cancel_left _ (by decide)]
      have e2 : 2 ^ x % 2 ^ 8 = 0 := by rw [e0, Nat.mul_mod_right]
      have hb2 : (v / 2 ^ 8).testBit (x - 8) = false := by rw [Nat.testBit_div_two_pow, show x - 8 + 8 = x by omega]; exact hb
      rw [e1, e2, Nat.or_zero, sk_pop_or k (v / 2 ^ 8) (x - 8) (by omega) hb2]
      omega
theorem sk_pop_0 : ∀ k : Nat, sk_pop k 0 = 0
  | 0 => rfl
  | k + 1 => by
    show sk_pop k (0 / 256) + sk_pb (0 % 256) = 0
    rw [Nat.zero_div, sk_pop_0 k]
    decide
theorem sk_pop_nb : ∀ l : List Nat, l.Nodup → (∀ x ∈ l, x < 64) → sk_pop 8 (sk_nb l) = l.length
  | [], _, _ => sk_pop_0 8
  | x :: r, hd, h => by
    rw [sk_nb, sk_pop_or 8 _ x (h x List.mem_cons_self) (by rw [sk_nb_bit]; exact decide_eq_false (List.nodup_cons.mp hd).1), sk_pop_nb r (List.nodup_cons.mp hd).2 (fun y hy => h y (List.mem_cons_of_mem _ hy)), List.length_cons]
end
section
/-! the whole state, and what each call answers and does -/
abbrev sk_Ob : Type := Nat × sk_F × sk_F × sk_F × (Nat → sk_F)
abbrev sk_Fi : Type := Nat × sk_F × sk_F × sk_F × sk_F × (Nat → List Nat) × (Nat → Bool)
abbrev sk_S : Type := sk_Ob × sk_Tr × sk_Fi
def sk_there (f : sk_Fi) : Nat := min f.1 100
def sk_hasB (n : Nat) (x : Int32) : Bool := decide (0 ≤ x) && decide (x < nI n)
def sk_isN (x : Int32) : Bool := decide (0 ≤ x) && decide (x < nI 12)
def sk_canP (n : Nat) (p : Int32) : Bool := decide (p = -1) || sk_hasB n p
theorem sk_hasB_iff {n : Nat} (hn : n < 2 ^ 31) {x : Int32} : sk_hasB n x = true ↔ ∃ j, j < n ∧ x = nI j := by
  unfold sk_hasB
  rw [Bool.and_eq_true, decide_eq_true_eq, decide_eq_true_eq]
  constructor
  · intro ⟨h1, h2⟩
    rcases pk_ix x hn with h | h | h
    · exact absurd h1 (by rw [Int32.le_iff_toInt_le]; rw [Int32.lt_iff_toInt_lt] at h; omega)
    · exact absurd h2 (by rw [Int32.lt_iff_toInt_lt]; rw [Int32.le_iff_toInt_le] at h; omega)
    · exact h
  · intro ⟨j, hj, e⟩
    subst e
    exact ⟨nI_pos' (by omega), nI_lt hj hn⟩
theorem sk_hasB_nI {n j : Nat} (hn : n < 2 ^ 31) (h : j < n) : sk_hasB n (nI j) = true := (sk_hasB_iff hn).mpr ⟨j, h, rfl⟩
theorem sk_isN_iff {x : Int32} : sk_isN x = true ↔ ∃ j, j < 12 ∧ x = nI j := sk_hasB_iff (n := 12) (by decide)
theorem sk_canP_iff {n : Nat} (hn : n < 2 ^ 31) {p : Int32} : sk_canP n p = true ↔ sk_v n p := by
  unfold sk_canP sk_v
  rw [Bool.or_eq_true, decide_eq_true_eq, sk_hasB_iff hn]
def sk_chg (b : sk_Ob) (o g : Nat) : sk_Ob := (b.1, b.2.1, upd b.2.2.1 o (nI g), upd b.2.2.2.1 o (b.2.2.2.1 o + 1), b.2.2.2.2)
def sk_setv (b : sk_Ob) (o k : Nat) (x : Int32) : sk_Ob := (b.1, b.2.1, b.2.2.1, b.2.2.2.1, va_up b.2.2.2.2 o (upd (b.2.2.2.2 o) k x))
def sk_shift (g : sk_F) (k : Nat) : sk_F := fun j => if k ≤ j ∧ j < 11 then g (j + 1) else g j
def sk_gap (b : sk_Ob) (o k : Nat) : sk_Ob := (b.1, b.2.1, b.2.2.1, b.2.2.2.1, va_up b.2.2.2.2 o (sk_shift (b.2.2.2.2 o) k))
def sk_brkB (f : sk_Fi) (o i : Nat) : Bool := f.2.2.2.2.2.2 i && !(decide (i < sk_there f) && decide (o ∈ f.2.2.2.2.2.1 i))
def sk_brk (f : sk_Fi) (o : Nat) : sk_Fi := (f.1, f.2.1, f.2.2.1, f.2.2.2.1, f.2.2.2.2.1, f.2.2.2.2.2.1, sk_brkB f o)
def sk_add (f : sk_Fi) (s nm h pl : Int32) (w : List Nat) : sk_Fi := (f.1 + 1, upd f.2.1 (f.1 % 100) s, upd f.2.2.1 (f.1 % 100) nm, upd f.2.2.2.1 (f.1 % 100) h, upd f.2.2.2.2.1 (f.1 % 100) pl, va_up f.2.2.2.2.2.1 (f.1 % 100) w, va_up f.2.2.2.2.2.2 (f.1 % 100) true)
def sk_sh (b : sk_Ob) (x : Nat) : Nat := (b.2.2.1 x).toNatClampNeg
def sk_own (b : sk_Ob) (t : sk_Tr) (nm : Int32) (x : Nat) : Bool := !decide (sk_place t nm (sk_sh b x) = -1)
def sk_grow (t : sk_Tr) (s : Nat) (a : Int32) : Option (sk_Tr × Nat) :=
  if sk_wn t s a = -1 then (if 200 ≤ t.1 then none else some (sk_grow1 t s a, t.1)) else some (t, (sk_wn t s a).toNatClampNeg)
def sk_object (S : sk_S) (p : Int32) : Nat × Int32 × sk_S :=
  if sk_canP S.1.1 p = false then (1, 0, S) else if 60 ≤ S.1.1 then (2, 0, S) else
  match sk_reach S.2.1 p [] with
  | none => (2, 0, S)
  | some (u, r) => (0, nI S.1.1, ((S.1.1 + 1, upd S.1.2.1 S.1.1 p, upd S.1.2.2.1 S.1.1 (nI r), S.1.2.2.2.1, S.1.2.2.2.2), u, S.2.2))
def sk_setN (S : sk_S) (x : Nat) (nm v : Int32) : Bool × sk_S :=
  if sk_place S.2.1 nm (sk_sh S.1 x) = -1 then
    (match sk_grow S.2.1 (sk_sh S.1 x) nm with
    | none => (false, S)
    | some (u, g) => (true, (sk_setv (sk_chg S.1 x g) x (sk_len S.2.1 (sk_sh S.1 x)) v, u, sk_brk S.2.2 x)))
  else (true, (sk_setv S.1 x (sk_place S.2.1 nm (sk_sh S.1 x)).toNatClampNeg v, S.2.1, S.2.2))
def sk_set (S : sk_S) (o nm v : Int32) : Bool × sk_S := if (sk_hasB S.1.1 o && sk_isN nm) = true then sk_setN S o.toNatClampNeg nm v else (false, S)
def sk_left (t : sk_Tr) (s : Nat) (nm : Int32) : List Int32 := (sk_names t s).filter (fun a => !decide (a = nm))
def sk_dropN (S : sk_S) (x : Nat) (nm : Int32) : Bool × sk_S :=
  if sk_place S.2.1 nm (sk_sh S.1 x) = -1 then (false, S) else
  match sk_reach S.2.1 (S.1.2.1 x) (sk_left S.2.1 (sk_sh S.1 x) nm) with
  | none => (false, S)
  | some (u, r) => (true, (sk_chg (sk_gap S.1 x (sk_place S.2.1 nm (sk_sh S.1 x)).toNatClampNeg) x r, u, sk_brk S.2.2 x))
def sk_drop (S : sk_S) (o nm : Int32) : Bool × sk_S := if sk_hasB S.1.1 o = true then sk_dropN S o.toNatClampNeg nm else (false, S)
def sk_turnN (S : sk_S) (x : Nat) (p : Int32) : Bool × sk_S :=
  if x ∈ sk_abv S.1.2.1 p then (false, S) else
  match sk_reach S.2.1 p (sk_names S.2.1 (sk_sh S.1 x)) with
  | none => (false, S)
  | some (u, r) => (true, (sk_chg (S.1.1, upd S.1.2.1 x p, S.1.2.2) x r, u, sk_brk S.2.2 x))
def sk_turn (S : sk_S) (o p : Int32) : Bool × sk_S := if (sk_hasB S.1.1 o && sk_canP S.1.1 p) = true then sk_turnN S o.toNatClampNeg p else (false, S)
def sk_readN (S : sk_S) (x : Nat) (nm : Int32) : Nat × Int32 :=
  if sk_nw (sk_own S.1 S.2.1 nm) (sk_abv S.1.2.1 (nI x)) = -1 then (2, 0)
  else (0, S.1.2.2.2.2 (sk_nw (sk_own S.1 S.2.1 nm) (sk_abv S.1.2.1 (nI x))).toNatClampNeg (sk_place S.2.1 nm (sk_sh S.1 (sk_nw (sk_own S.1 S.2.1 nm) (sk_abv S.1.2.1 (nI x))).toNatClampNeg)).toNatClampNeg)
def sk_read (S : sk_S) (o nm : Int32) : Nat × Int32 := if sk_hasB S.1.1 o = true then sk_readN S o.toNatClampNeg nm else (1, 0)
def sk_opl (b : sk_Ob) (t : sk_Tr) (nm h : Int32) : Int32 := if h = -1 then -1 else sk_place t nm (sk_sh b h.toNatClampNeg)
def sk_findN (S : sk_S) (x : Nat) (nm : Int32) : sk_Fi :=
  if sk_place S.2.1 nm (sk_sh S.1 x) = -1 then sk_add S.2.2 (S.1.2.2.1 x) nm (sk_nw (sk_own S.1 S.2.1 nm) (sk_abv S.1.2.1 (S.1.2.1 x))) (sk_opl S.1 S.2.1 nm (sk_nw (sk_own S.1 S.2.1 nm) (sk_abv S.1.2.1 (S.1.2.1 x)))) (sk_upto (sk_own S.1 S.2.1 nm) (sk_abv S.1.2.1 (S.1.2.1 x)))
  else sk_add S.2.2 (S.1.2.2.1 x) nm (-1) (sk_place S.2.1 nm (sk_sh S.1 x)) []
def sk_find (S : sk_S) (o nm : Int32) : Int32 × sk_S := if (sk_hasB S.1.1 o && sk_isN nm) = true then (nI (S.2.2.1 % 100), (S.1, S.2.1, sk_findN S o.toNatClampNeg nm)) else (-1, S)
def sk_holds (S : sk_S) (f o : Int32) : Bool := sk_hasB (sk_there S.2.2) f && (sk_hasB S.1.1 o && (S.2.2.2.2.2.2.2.2 f.toNatClampNeg && decide (S.2.2.2.1 f.toNatClampNeg = S.1.2.2.1 o.toNatClampNeg)))
def sk_get (S : sk_S) (f o : Int32) : Nat × Int32 :=
  if sk_hasB (sk_there S.2.2) f = false then (1, 0) else if sk_holds S f o = false then (2, 0) else
  if S.2.2.2.2.2.2.1 f.toNatClampNeg = -1 then (3, 0) else
  (0, S.1.2.2.2.2 (if S.2.2.2.2.2.1 f.toNatClampNeg = -1 then o.toNatClampNeg else (S.2.2.2.2.2.1 f.toNatClampNeg).toNatClampNeg) (S.2.2.2.2.2.2.1 f.toNatClampNeg).toNatClampNeg)
def sk_cnt (P : Nat → Bool) : Nat → Nat
  | 0 => 0
  | k + 1 => sk_cnt P k + (if P k = true then 1 else 0)
def sk_lookN (S : sk_S) (x : Nat) (w : Int32) : Int32 :=
  if w = 0 then S.1.2.2.1 x else if w = 1 then S.1.2.1 x else if w = 2 then S.2.1.2.2.2.2 (sk_sh S.1 x) else if w = 3 then S.1.2.2.2.1 x else
  if w = 4 then nI (sk_abv S.1.2.1 (S.1.2.1 x)).length else if w = 5 then nI (sk_cnt (fun y => decide (x ∈ sk_abv S.1.2.1 (S.1.2.1 y))) S.1.1) else -1
def sk_look (S : sk_S) (o w : Int32) : Int32 := if sk_hasB S.1.1 o = true then sk_lookN S o.toNatClampNeg w else -1
def sk_shapeN (S : sk_S) (s : Nat) (w : Int32) : Int32 :=
  if w = 0 then S.2.1.2.1 s else if w = 1 then S.2.1.2.2.2.2 s else if w = 2 then nI (sk_cnt (fun y => decide (S.1.2.2.1 y = nI s)) S.1.1) else if w = 3 then S.2.1.2.2.1 s else
  if sk_hasB (sk_len S.2.1 s) (w - 4) = true ∧ 4 ≤ w then sk_nm S.2.1 s (w - 4).toNatClampNeg else -1
def sk_shape (S : sk_S) (s w : Int32) : Int32 := if sk_hasB S.2.1.1 s = true then sk_shapeN S s.toNatClampNeg w else -1
def sk_where (f : sk_Fi) (i : Nat) : Int32 := if f.2.2.2.2.1 i = -1 then 0 else if f.2.2.2.1 i = -1 then 1 else 2
def sk_bI (b : Bool) : Int32 := if b = true then 1 else 0
def sk_finding (S : sk_S) (f w : Int32) : Int32 := if sk_hasB (sk_there S.2.2) f = true then
  (if w = 0 then S.2.2.2.1 f.toNatClampNeg else if w = 1 then S.2.2.2.2.1 f.toNatClampNeg else if w = 2 then sk_where S.2.2 f.toNatClampNeg else if w = 3 then S.2.2.2.2.2.1 f.toNatClampNeg else if w = 4 then S.2.2.2.2.2.2.1 f.toNatClampNeg else if w = 5 then sk_bI (S.2.2.2.2.2.2.2.2 f.toNatClampNeg) else -1) else -1
def sk_count (S : sk_S) (w : Int32) : Int32 := if w = 0 then nI S.1.1 else if w = 1 then nI S.2.1.1 else if w = 2 then nI S.2.2.1 else if w = 3 then nI (sk_cnt S.2.2.2.2.2.2.2.2 (sk_there S.2.2)) else -1
/-! what always holds, K calls on -/
def sk_FO (b : sk_Ob) (t : sk_Tr) (f : sk_Fi) (i : Nat) : Prop :=
  (∃ s, s < t.1 ∧ f.2.1 i = nI s ∧ (f.2.2.2.1 i = -1 → f.2.2.2.2.1 i = -1 ∨ ∃ k, k < sk_len t s ∧ f.2.2.2.2.1 i = nI k)) ∧ (∃ a, a < 12 ∧ f.2.2.1 i = nI a) ∧
  (f.2.2.2.1 i = -1 ∨ ∃ x k, x < b.1 ∧ f.2.2.2.1 i = nI x ∧ k < 12 ∧ f.2.2.2.2.1 i = nI k ∧ x ∈ f.2.2.2.2.2.1 i ∧ (f.2.2.2.2.2.2 i = true → k < sk_len t (sk_sh b x))) ∧ ∀ x ∈ f.2.2.2.2.2.1 i, x < b.1
def sk_OO (b : sk_Ob) (t : sk_Tr) : Prop := ∀ o, o < b.1 → ∃ s, s < t.1 ∧ b.2.2.1 o = nI s ∧ b.2.1 o = t.2.1 s
def sk_OK (K : Nat) (S : sk_S) : Prop := sk_TO S.1.1 S.2.1 ∧ sk_AC S.1.1 S.1.2.1 ∧ sk_OO S.1 S.2.1 ∧ (∀ o, ∃ c, c ≤ K ∧ S.1.2.2.2.1 o = nI c) ∧ (∀ o, S.1.1 ≤ o → S.1.2.2.2.1 o = 0) ∧ K ≤ 512 ∧ S.2.2.1 ≤ K ∧ ∀ i, i < sk_there S.2.2 → sk_FO S.1 S.2.1 S.2.2 i
end
section
/-! what always holds, is kept -/
theorem sk_shOk {b : sk_Ob} {t : sk_Tr} (ht : t.1 ≤ 200) (h : sk_OO b t) {x : Nat} (hx : x < b.1) : sk_sh b x < t.1 ∧ b.2.2.1 x = nI (sk_sh b x) ∧ b.2.1 x = t.2.1 (sk_sh b x) := by
  obtain ⟨s, hs, e, hp⟩ := h x hx
  have e2 : sk_sh b x = s := by unfold sk_sh; rw [e]; exact nI_clamp (by omega)
  rw [e2]
  exact ⟨hs, e, hp⟩
theorem sk_placeOk {nO : Nat} {t : sk_Tr} (h : sk_TO nO t) (x : Int32) {s : Nat} (hs : s < t.1) : sk_place t x s = -1 ∨ ∃ k, k < sk_len t s ∧ k < 12 ∧ sk_place t x s = nI k := by
  obtain ⟨m, hm, -, hl⟩ := sk_lenOk h hs
  rcases sk_place_spec h x s hs with ⟨e, -⟩ | ⟨k, hk, e, -⟩
  · exact Or.inl e
  · exact Or.inr ⟨k, hk, by omega, e⟩
theorem sk_notin {nO : Nat} {t : sk_Tr} (h : sk_TO nO t) {x : Int32} {s : Nat} (hs : s < t.1) (e : sk_place t x s = -1) : x ∉ sk_names t s := fun hx => by
  obtain ⟨k, hk, ek⟩ := sk_names_mem.mp hx
  rcases sk_place_spec h x s hs with ⟨-, q⟩ | ⟨g, hg, e2, -⟩
  · exact q k hk ek
  · obtain ⟨m, hm, -, hl⟩ := sk_lenOk h hs
    exact sk_nm1 (show g < 2 ^ 31 by omega) (e2.symm.trans e)
theorem sk_grow_spec {nO : Nat} {t : sk_Tr} (h : sk_TO nO t) {s a : Nat} (hs : s < t.1) (ha : a < 12) (hp : sk_place t (nI a) s = -1) {u : sk_Tr} {g : Nat} (e : sk_grow t s (nI a) = some (u, g)) :
    sk_TO nO u ∧ sk_ext t u ∧ g < u.1 ∧ u.2.1 g = t.2.1 s ∧ sk_names u g = sk_names t s ++ [nI a] := by
  unfold sk_grow at e
  by_cases hw : sk_wn t s (nI a) = -1
  · rw [if_pos hw] at e
    by_cases hn : 200 ≤ t.1
    · rw [if_pos hn] at e; cases e
    · rw [if_neg hn] at e
      have hd : (sk_names t s ++ [nI a]).Nodup := by
        refine List.nodup_append.mpr ⟨sk_names_nodup h hs, List.pairwise_singleton _ _, fun x hx y hy exy => ?_⟩
        rw [List.mem_singleton.mp hy] at exy
        exact sk_notin h hs hp (exy ▸ hx)
      have hi : sk_in12 (sk_names t s ++ [nI a]) := fun x hx => by
        rcases List.mem_append.mp hx with q | q
        · exact sk_names_in h hs x q
        · exact ⟨a, ha, List.mem_singleton.mp q⟩
      obtain ⟨q1, q2, q3, -, q5, q6⟩ := sk_mk_spec [nI a] t s h hs (show t.1 + 1 ≤ 200 by omega) hd hi
      have e2 : sk_mk t s [nI a] = (u, g) := Option.some.inj e
      rw [e2] at q1 q2 q3 q5 q6
      exact ⟨q1, q2, q3, q5, q6⟩
  · rw [if_neg hw] at e
    rcases sk_wn_spec h hs (nI a) with ⟨e9, -⟩ | ⟨i, m, hi, hsi, e9, ho, hl, hm, h1, h2, hpr, hn⟩
    · exact absurd e9 hw
    · rw [e9, nI_clamp (sk_t31 h hi)] at e
      have e2 : (t, i) = (u, g) := Option.some.inj e
      cases e2
      exact ⟨h, sk_ext_refl t, hi, hpr, hn⟩
theorem sk_FO_ext {b c : sk_Ob} {t u : sk_Tr} {f g : sk_Fi} {i : Nat} (hT : sk_TO b.1 t) (hO : sk_OO b t) (h : sk_FO b t f i) (he : sk_ext t u) (hn : b.1 ≤ c.1) (e1 : g.2.1 i = f.2.1 i) (e2 : g.2.2.1 i = f.2.2.1 i) (e3 : g.2.2.2.1 i = f.2.2.2.1 i) (e4 : g.2.2.2.2.1 i = f.2.2.2.2.1 i) (e5 : g.2.2.2.2.2.1 i = f.2.2.2.2.2.1 i)
    (hh : g.2.2.2.2.2.2 i = true → f.2.2.2.2.2.2 i = true ∧ ∀ x ∈ f.2.2.2.2.2.1 i, x < b.1 → sk_sh c x = sk_sh b x) : sk_FO c u g i := by
  obtain ⟨⟨s, hs, es, hp⟩, ha, hx, hw⟩ := h
  refine ⟨⟨s, Nat.lt_of_lt_of_le hs he.1, e1.trans es, fun q => ?_⟩, by rw [e2]; exact ha, ?_, fun x hx => by rw [e5] at hx; exact Nat.lt_of_lt_of_le (hw x hx) hn⟩
  · rw [e3] at q
    rw [e4, (sk_ext_nm hT he s hs).1]
    exact hp q
  · rcases hx with q | ⟨x, k, h1, h2, h3, h4, h5, h6⟩
    · exact Or.inl (e3.trans q)
    · refine Or.inr ⟨x, k, Nat.lt_of_lt_of_le h1 hn, e3.trans h2, h3, e4.trans h4, by rw [e5]; exact h5, fun q => ?_⟩
      obtain ⟨q1, q2⟩ := hh q
      rw [q2 x h5 h1, (sk_ext_nm hT he _ (sk_shOk hT.2.1 hO h1).1).1]
      exact h6 q1
theorem sk_OK_mono {K : Nat} {S : sk_S} (h : sk_OK K S) (hK : K + 1 ≤ 512) : sk_OK (K + 1) S := by
  obtain ⟨h1, h2, h3, h4, h5, h6, h7, h8⟩ := h
  exact ⟨h1, h2, h3, fun o => (h4 o).elim fun c hc => ⟨c, by omega, hc.2⟩, h5, hK, by omega, h8⟩
theorem sk_OO_ext {b : sk_Ob} {t u : sk_Tr} (h : sk_OO b t) (he : sk_ext t u) : sk_OO b u := fun o ho => by
  obtain ⟨s, hs, e, hp⟩ := h o ho
  exact ⟨s, Nat.lt_of_lt_of_le hs he.1, e, hp.trans (he.2 s hs).1.symm⟩
theorem sk_OK_object {K : Nat} {S : sk_S} (h : sk_OK K S) (hK : K + 1 ≤ 512) (p : Int32) : sk_OK (K + 1) (sk_object S p).2.2 := by
  unfold sk_object
  by_cases hc : sk_canP S.1.1 p = false
  · rw [if_pos hc]; exact sk_OK_mono h hK
  · rw [if_neg hc]
    by_cases hn : 60 ≤ S.1.1
    · rw [if_pos hn]; exact sk_OK_mono h hK
    · rw [if_neg hn]
      obtain ⟨h1, h2, h3, h4, h5, h6, h7, h8⟩ := id h
      have hp : sk_v S.1.1 p := (sk_canP_iff (by omega)).mp (by cases q : sk_canP S.1.1 p <;> simp_all)
      cases hr : sk_reach S.2.1 p [] with
      | none => exact sk_OK_mono h hK
      | some q =>
        obtain ⟨u, r⟩ := q
        obtain ⟨q1, q2, q3, q4, q5⟩ := sk_reach_spec h1 hp List.Pairwise.nil (fun x hx => by cases hx) hr
        show sk_OK (K + 1) ((S.1.1 + 1, upd S.1.2.1 S.1.1 p, upd S.1.2.2.1 S.1.1 (nI r), S.1.2.2.2.1, S.1.2.2.2.2), u, S.2.2)
        refine ⟨sk_TO_mono q1 (Nat.le_succ _) (show S.1.1 + 1 ≤ 60 by omega), sk_AC_more h2 (by omega) hp, fun o ho => ?_, fun o => (h4 o).elim fun c hc => ⟨c, by omega, hc.2⟩, fun o ho => h5 o (Nat.le_of_succ_le ho), hK, Nat.le_succ_of_le h7, fun i hi => ?_⟩
        · have ho : o < S.1.1 + 1 := ho
          by_cases e : o = S.1.1
          · subst e
            exact ⟨r, q3, pk_us, by rw [q4]; exact pk_us⟩
          · obtain ⟨s, hs, e1, e2⟩ := sk_OO_ext h3 q2 o (by omega)
            exact ⟨s, hs, (pk_un e).trans e1, (pk_un e).trans e2⟩
        · exact sk_FO_ext h1 h3 (h8 i hi) q2 (Nat.le_succ _) rfl rfl rfl rfl rfl (fun q => ⟨q, fun x _ hx => by show (upd S.1.2.2.1 S.1.1 (nI r) x).toNatClampNeg = (S.1.2.2.1 x).toNatClampNeg; rw [pk_un (Nat.ne_of_lt hx)]⟩)
theorem sk_brk_t {f : sk_Fi} {o i : Nat} (hi : i < sk_there f) (h : sk_brkB f o i = true) : f.2.2.2.2.2.2 i = true ∧ o ∉ f.2.2.2.2.2.1 i := by
  unfold sk_brkB at h
  rw [Bool.and_eq_true] at h
  refine ⟨h.1, fun q => ?_⟩
  have := h.2
  simp [hi, q] at this
/-- an object changes its shape -/
theorem sk_OK_chg {K : Nat} {b c : sk_Ob} {t u : sk_Tr} {f : sk_Fi} (h : sk_OK K (b, t, f)) (hK : K + 1 ≤ 512) {x r : Nat} (hx : x < b.1) (hc : c.1 = b.1) (hsh : ∀ y, y ≠ x → c.2.2.1 y = b.2.2.1 y) (hop : ∀ y, y ≠ x → c.2.1 y = b.2.1 y) (hch : c.2.2.2.1 = b.2.2.2.1) (hAC : sk_AC b.1 c.2.1) (q1 : sk_TO b.1 u) (q2 : sk_ext t u) (q3 : r < u.1) (q4 : u.2.1 r = c.2.1 x) :
    sk_OK (K + 1) (sk_chg c x r, u, sk_brk f x) := by
  obtain ⟨h1, h2, h3, h4, h5, h6, h7, h8⟩ := h
  have h1 : sk_TO b.1 t := h1
  have h3 : sk_OO b t := h3
  refine ⟨by show sk_TO c.1 u; rw [hc]; exact q1, by show sk_AC c.1 c.2.1; rw [hc]; exact hAC, fun o ho => ?_, fun o => ?_, fun o ho => ?_, hK, Nat.le_succ_of_le h7, fun i hi => ?_⟩
  · have ho : o < c.1 := ho
    rw [hc] at ho
    by_cases e : o = x
    · subst e
      exact ⟨r, q3, pk_us, q4.symm⟩
    · obtain ⟨s, hs, e1, e2⟩ := sk_OO_ext h3 q2 o ho
      exact ⟨s, hs, (pk_un e).trans ((hsh o e).trans e1), (hop o e).trans e2⟩
  · by_cases e : o = x
    · subst e
      obtain ⟨k, hk, ek⟩ := h4 o
      refine ⟨k + 1, by omega, ?_⟩
      show upd c.2.2.2.1 o (c.2.2.2.1 o + 1) o = nI (k + 1)
      rw [pk_us, hch, show b.2.2.2.1 o = nI k from ek]
      exact nI_1 k
    · obtain ⟨k, hk, ek⟩ := h4 o
      exact ⟨k, by omega, (pk_un e).trans (by rw [hch]; exact ek)⟩
  · have ho : c.1 ≤ o := ho
    refine (pk_un (by omega)).trans ?_
    rw [hch]
    exact h5 o (by rw [← hc]; exact ho)
  · refine sk_FO_ext h1 h3 (h8 i hi) q2 (show b.1 ≤ c.1 by omega) rfl rfl rfl rfl rfl (fun q => ?_)
    obtain ⟨a1, a2⟩ := sk_brk_t (f := f) hi q
    refine ⟨a1, fun y hy _ => ?_⟩
    have hne : y ≠ x := fun e => a2 (e ▸ hy)
    unfold sk_sh
    rw [show (sk_chg c x r).2.2.1 y = c.2.2.1 y from pk_un hne, hsh y hne]
theorem sk_OK_setv {K : Nat} {b : sk_Ob} {t : sk_Tr} {f : sk_Fi} (h : sk_OK K (b, t, f)) (o k : Nat) (x : Int32) : sk_OK K (sk_setv b o k x, t, f) := h
theorem sk_OK_set {K : Nat} {S : sk_S} (h : sk_OK K S) (hK : K + 1 ≤ 512) (o nm v : Int32) : sk_OK (K + 1) (sk_set S o nm v).2 := by
  obtain ⟨b, t, f⟩ := S
  unfold sk_set
  by_cases hc : (sk_hasB b.1 o && sk_isN nm) = true
  · rw [if_pos hc]
    rw [Bool.and_eq_true] at hc
    obtain ⟨h1, h2, h3, h4, h5, h6, h7, h8⟩ := id h
    have hn : b.1 < 2 ^ 31 := by have h60 : b.1 ≤ 60 := h1.2.2.1; omega
    obtain ⟨x, hx, e⟩ := (sk_hasB_iff hn).mp hc.1
    obtain ⟨a, ha, ea⟩ := sk_isN_iff.mp hc.2
    subst e; subst ea
    rw [nI_clamp (by omega)]
    obtain ⟨s1, s2, s3⟩ := sk_shOk h1.2.1 h3 hx
    unfold sk_setN
    by_cases hp : sk_place t (nI a) (sk_sh b x) = -1
    · rw [if_pos hp]
      cases hg : sk_grow t (sk_sh b x) (nI a) with
      | none => exact sk_OK_mono h hK
      | some q =>
        obtain ⟨u, g⟩ := q
        obtain ⟨q1, q2, q3, q4, q5⟩ := sk_grow_spec h1 s1 ha hp hg
        exact sk_OK_setv (sk_OK_chg (c := b) h hK hx rfl (fun _ _ => rfl) (fun _ _ => rfl) rfl h2 q1 q2 q3 (q4.trans s3.symm)) _ _ _
    · rw [if_neg hp]
      exact sk_OK_mono (sk_OK_setv h _ _ _) hK
  · rw [if_neg hc]; exact sk_OK_mono h hK
theorem sk_left_ok {nO : Nat} {t : sk_Tr} (h : sk_TO nO t) {s : Nat} (hs : s < t.1) (nm : Int32) : (sk_left t s nm).Nodup ∧ sk_in12 (sk_left t s nm) :=
  ⟨(sk_names_nodup h hs).sublist List.filter_sublist, fun x hx => sk_names_in h hs x (List.mem_filter.mp hx).1⟩
theorem sk_opv {K : Nat} {b : sk_Ob} {t : sk_Tr} {f : sk_Fi} (h : sk_OK K (b, t, f)) {x : Nat} (hx : x < b.1) : sk_v b.1 (b.2.1 x) := h.2.1.2.1 x hx
theorem sk_OK_drop {K : Nat} {S : sk_S} (h : sk_OK K S) (hK : K + 1 ≤ 512) (o nm : Int32) : sk_OK (K + 1) (sk_drop S o nm).2 := by
  obtain ⟨b, t, f⟩ := S
  unfold sk_drop
  by_cases hc : sk_hasB b.1 o = true
  · rw [if_pos hc]
    obtain ⟨h1, h2, h3, h4, h5, h6, h7, h8⟩ := id h
    have hn : b.1 < 2 ^ 31 := by have h60 : b.1 ≤ 60 := h1.2.2.1; omega
    obtain ⟨x, hx, e⟩ := (sk_hasB_iff hn).mp hc
    subst e
    rw [nI_clamp (by omega)]
    obtain ⟨s1, s2, s3⟩ := sk_shOk h1.2.1 h3 hx
    unfold sk_dropN
    by_cases hp : sk_place t nm (sk_sh b x) = -1
    · rw [if_pos hp]; exact sk_OK_mono h hK
    · rw [if_neg hp]
      cases hg : sk_reach t (b.2.1 x) (sk_left t (sk_sh b x) nm) with
      | none => exact sk_OK_mono h hK
      | some q =>
        obtain ⟨u, r⟩ := q
        obtain ⟨q1, q2, q3, q4, q5⟩ := sk_reach_spec h1 (sk_opv h hx) (sk_left_ok h1 s1 nm).1 (sk_left_ok h1 s1 nm).2 hg
        exact sk_OK_chg (c := sk_gap b x _) h hK hx rfl (fun _ _ => rfl) (fun _ _ => rfl) rfl h2 q1 q2 q3 q4
  · rw [if_neg hc]; exact sk_OK_mono h hK
theorem sk_OK_turn {K : Nat} {S : sk_S} (h : sk_OK K S) (hK : K + 1 ≤ 512) (o p : Int32) : sk_OK (K + 1) (sk_turn S o p).2 := by
  obtain ⟨b, t, f⟩ := S
  unfold sk_turn
  by_cases hc : (sk_hasB b.1 o && sk_canP b.1 p) = true
  · rw [if_pos hc]
    rw [Bool.and_eq_true] at hc
    obtain ⟨h1, h2, h3, h4, h5, h6, h7, h8⟩ := id h
    have hn : b.1 < 2 ^ 31 := by have h60 : b.1 ≤ 60 := h1.2.2.1; omega
    obtain ⟨x, hx, e⟩ := (sk_hasB_iff hn).mp hc.1
    have hp := (sk_canP_iff hn).mp hc.2
    subst e
    rw [nI_clamp (by omega)]
    obtain ⟨s1, s2, s3⟩ := sk_shOk h1.2.1 h3 hx
    unfold sk_turnN
    by_cases hm : x ∈ sk_abv b.2.1 p
    · rw [if_pos hm]; exact sk_OK_mono h hK
    · rw [if_neg hm]
      cases hg : sk_reach t p (sk_names t (sk_sh b x)) with
      | none => exact sk_OK_mono h hK
      | some q =>
        obtain ⟨u, r⟩ := q
        obtain ⟨q1, q2, q3, q4, q5⟩ := sk_reach_spec h1 hp (sk_names_nodup h1 s1) (sk_names_in h1 s1) hg
        exact sk_OK_chg (c := (b.1, upd b.2.1 x p, b.2.2)) h hK hx rfl (fun _ _ => rfl) (fun y hy => pk_un hy) rfl (sk_AC_turn h2 hx hp hm) q1 q2 q3 (q4.trans pk_us.symm)
  · rw [if_neg hc]; exact sk_OK_mono h hK
theorem sk_there_add {f : sk_Fi} {s nm h pl : Int32} {w : List Nat} {i : Nat} (hi : i < sk_there (sk_add f s nm h pl w)) (hne : i ≠ f.1 % 100) : i < sk_there f := by
  unfold sk_there at hi ⊢
  have hi : i < min (f.1 + 1) 100 := hi
  omega
theorem sk_OK_find {K : Nat} {S : sk_S} (h : sk_OK K S) (hK : K + 1 ≤ 512) (o nm : Int32) : sk_OK (K + 1) (sk_find S o nm).2 := by
  obtain ⟨b, t, f⟩ := S
  unfold sk_find
  by_cases hc : (sk_hasB b.1 o && sk_isN nm) = true
  · rw [if_pos hc]
    rw [Bool.and_eq_true] at hc
    obtain ⟨h1, h2, h3, h4, h5, h6, h7, h8⟩ := id h
    have hn : b.1 < 2 ^ 31 := by have h60 : b.1 ≤ 60 := h1.2.2.1; omega
    obtain ⟨x, hx, e⟩ := (sk_hasB_iff hn).mp hc.1
    obtain ⟨a, ha, ea⟩ := sk_isN_iff.mp hc.2
    subst e
    rw [nI_clamp (by omega)]
    obtain ⟨s1, s2, s3⟩ := sk_shOk h1.2.1 h3 hx
    have key : ∀ (hh pl : Int32) (w : List Nat), (hh = -1 → pl = -1 ∨ ∃ k, k < sk_len t (sk_sh b x) ∧ pl = nI k) → (hh = -1 ∨ ∃ y k, y < b.1 ∧ hh = nI y ∧ k < 12 ∧ pl = nI k ∧ y ∈ w ∧ k < sk_len t (sk_sh b y)) → (∀ y ∈ w, y < b.1) → sk_OK (K + 1) (b, t, sk_add f (b.2.2.1 x) nm hh pl w) := by
      intro hh pl w k1 k2 k3
      refine ⟨h1, h2, h3, fun o => (h4 o).elim fun c hc => ⟨c, by omega, hc.2⟩, h5, hK, Nat.succ_le_succ h7, fun i hi => ?_⟩
      by_cases hne : i = f.1 % 100
      · subst hne
        refine ⟨⟨sk_sh b x, s1, by rw [show (sk_add f (b.2.2.1 x) nm hh pl w).2.1 (f.1 % 100) = b.2.2.1 x from pk_us]; exact s2, ?_⟩, ⟨a, ha, by rw [show (sk_add f (b.2.2.1 x) nm hh pl w).2.2.1 (f.1 % 100) = nm from pk_us]; exact ea⟩, ?_, ?_⟩
        · rw [show (sk_add f (b.2.2.1 x) nm hh pl w).2.2.2.1 (f.1 % 100) = hh from pk_us, show (sk_add f (b.2.2.1 x) nm hh pl w).2.2.2.2.1 (f.1 % 100) = pl from pk_us]
          exact k1
        · rw [show (sk_add f (b.2.2.1 x) nm hh pl w).2.2.2.1 (f.1 % 100) = hh from pk_us, show (sk_add f (b.2.2.1 x) nm hh pl w).2.2.2.2.1 (f.1 % 100) = pl from pk_us, show (sk_add f (b.2.2.1 x) nm hh pl w).2.2.2.2.2.1 (f.1 % 100) = w from va_up_self _ _ _]
          rcases k2 with q | ⟨y, k, a1, a2, a3, a4, a5, a6⟩
          · exact Or.inl q
          · exact Or.inr ⟨y, k, a1, a2, a3, a4, a5, fun _ => a6⟩
        · rw [show (sk_add f (b.2.2.1 x) nm hh pl w).2.2.2.2.2.1 (f.1 % 100) = w from va_up_self _ _ _]
          exact k3
      · exact sk_FO_ext h1 h3 (h8 i (sk_there_add hi hne)) (sk_ext_refl t) (Nat.le_refl _) (pk_un hne) (pk_un hne) (pk_un hne) (pk_un hne) (va_up_ne _ _ hne) (fun q => ⟨by rw [show (sk_add f (b.2.2.1 x) nm hh pl w).2.2.2.2.2.2 i = f.2.2.2.2.2.2 i from va_up_ne _ _ hne] at q; exact q, fun _ _ _ => rfl⟩)
    show sk_OK (K + 1) (b, t, sk_findN (b, t, f) x nm)
    unfold sk_findN
    by_cases hp : sk_place t nm (sk_sh b x) = -1
    · rw [if_pos hp]
      have hlt := sk_abv_lt h2 (sk_opv h hx)
      refine key _ _ _ (fun q => ?_) ?_ (fun y hy => hlt y (sk_upto_sub _ _ y hy))
      · rw [q]; exact Or.inl (if_pos rfl)
      · rcases sk_nw_spec (sk_own b t nm) (sk_abv b.2.1 (b.2.1 x)) with ⟨q, -, -⟩ | ⟨y, hy, e, ho, hu⟩
        · exact Or.inl q
        · have hyn : y < b.1 := hlt y hy
          have e2 : sk_opl b t nm (nI y) = sk_place t nm (sk_sh b y) := by
            unfold sk_opl
            rw [if_neg (sk_nm1 (by omega)), nI_clamp (by omega)]
          rcases sk_placeOk h1 nm (sk_shOk h1.2.1 h3 hyn).1 with q | ⟨k, hk, hk2, ek⟩
          · unfold sk_own at ho
            rw [q] at ho
            simp at ho
          · refine Or.inr ⟨y, k, hyn, e, hk2, ?_, hu, hk⟩
            show sk_opl b t nm (sk_nw (sk_own b t nm) (sk_abv b.2.1 (b.2.1 x))) = nI k
            rw [e, e2, ek]
    · rw [if_neg hp]
      refine key _ _ _ (fun _ => ?_) (Or.inl rfl) (fun y hy => by cases hy)
      rcases sk_placeOk h1 nm s1 with q | ⟨k, hk, -, ek⟩
      · exact absurd q hp
      · exact Or.inr ⟨k, hk, ek⟩
  · rw [if_neg hc]; exact sk_OK_mono h hK
end
section
/-! the cells of the class's object: a 0 itself, a 1 .. a 3 its tables, a 4 .. a 18 their rows, a 100 .. a 159 the values' rows -/
def sk_rows (a : Nat → Nat) (k : Nat → ClassId) (va : Nat → sk_F) : va_W := (List.range 60).map (fun i => (a (100 + i), .inl (k 0, 12, .inl (va i))))
def sk_wR (a : Nat → Nat) (k : Nat → ClassId) (nO : Int32) (op sh ch : sk_F) (va : Nat → sk_F) (nS : Int32) (pr og la le : sk_F) (mk th nx : Int32) (fs fn fh fp : sk_F) (wy : Nat → Int64) (hd wt : sk_F) : va_W :=
  [(a 0, .inr (3, [.ref (a 1), .ref (a 2), .ref (a 3), .ref (a 4)])),
   (a 1, .inr (1, [.ref (a 5), .ref (a 6), .ref (a 7), .ref (a 8), .int nO])),
   (a 2, .inr (2, [.ref (a 9), .ref (a 10), .ref (a 11), .ref (a 12), .int nS])),
   (a 3, .inr (0, [.ref (a 13), .ref (a 14), .ref (a 15), .ref (a 16), .ref (a 17), .ref (a 18), .int mk, .int th, .int nx])),
   (a 4, .inl (k 0, 12, .inl wt)), (a 5, .inl (k 0, 60, .inl op)), (a 6, .inl (k 0, 60, .inl sh)), (a 7, .inl (k 0, 60, .inl ch)),
   (a 8, .inl (k 3, 60, .inr (.inr (.inr (.inr (fun i => if i < 60 then some (a (100 + i)) else none)))))),
   (a 9, .inl (k 0, 200, .inl pr)), (a 10, .inl (k 0, 200, .inl og)), (a 11, .inl (k 0, 200, .inl la)), (a 12, .inl (k 0, 200, .inl le)),
   (a 13, .inl (k 0, 100, .inl fs)), (a 14, .inl (k 0, 100, .inl fn)), (a 15, .inl (k 0, 100, .inl fh)), (a 16, .inl (k 0, 100, .inl fp)), (a 17, .inl (k 2, 100, .inr (.inl wy))), (a 18, .inl (k 1, 100, .inl hd))] ++ sk_rows a k va
theorem sk_app_get {X Y : va_W} {n : Nat} (hl : X.length = n) (i : Nat) : (X ++ Y)[n + i]? = Y[i]? := by
  subst hl
  rw [List.getElem?_append_right (Nat.le_add_right _ _), Nat.add_sub_cancel_left]
theorem sk_app_set {X Y : va_W} {n : Nat} (hl : X.length = n) (i : Nat) (x : Nat × va_E) : (X ++ Y).set (n + i) x = X ++ Y.set i x := by
  subst hl
  have h : X.length ≤ X.length + i := Nat.le_add_right _ _
  rw [List.set_append_right _ _ h, Nat.add_sub_cancel_left]
def sk_wX (a : Nat → Nat) (k : Nat → ClassId) (S : sk_S) (wt : sk_F) : va_W :=
  sk_wR a k (nI S.1.1) S.1.2.1 S.1.2.2.1 S.1.2.2.2.1 S.1.2.2.2.2 (nI S.2.1.1) S.2.1.2.1 S.2.1.2.2.1 S.2.1.2.2.2.1 S.2.1.2.2.2.2 (nI S.2.2.1) (nI (sk_there S.2.2)) (nI (S.2.2.1 % 100)) S.2.2.2.1 S.2.2.2.2.1 S.2.2.2.2.2.1 S.2.2.2.2.2.2.1 (fun i => lN (sk_nb (S.2.2.2.2.2.2.2.1 i))) (fun i => sk_bI (S.2.2.2.2.2.2.2.2 i)) wt
def sk_tys (k : Nat → ClassId) : List (ClassId × FieldType) := [(k 0, .int), (k 1, .boolean), (k 2, .long), (k 3, .array .int)]
theorem sk_row_get {a : Nat → Nat} {k : Nat → ClassId} {nO : Int32} {op sh ch : sk_F} {va : Nat → sk_F} {nS : Int32} {pr og la le : sk_F} {mk th nx : Int32} {fs fn fh fp : sk_F} {wy : Nat → Int64} {hd wt : sk_F} {i : Nat} (hi : i < 60) : (sk_wR a k nO op sh ch va nS pr og la le mk th nx fs fn fh fp wy hd wt)[19 + i]? = some (a (100 + i), .inl (k 0, 12, .inl (va i))) := by
  refine (sk_app_get (Y := sk_rows a k va) rfl i).trans ?_
  unfold sk_rows
  rw [List.getElem?_map, List.getElem?_range hi]
  rfl
theorem sk_rows_set {a : Nat → Nat} {k : Nat → ClassId} {va : Nat → sk_F} {i : Nat} {g : sk_F} (hi : i < 60) : (sk_rows a k va).set i (a (100 + i), .inl (k 0, 12, .inl g)) = sk_rows a k (va_up va i g) := by
  apply List.ext_getElem?
  intro j
  unfold sk_rows
  by_cases hj : j = i
  · subst hj
    rw [List.getElem?_set_self (by rw [List.length_map, List.length_range]; exact hi), List.getElem?_map, List.getElem?_range hi]
    show _ = some (a (100 + j), Sum.inl (k 0, 12, Sum.inl (va_up va j g j)))
    rw [va_up_self]
  · rw [List.getElem?_set_ne (Ne.symm hj), List.getElem?_map, List.getElem?_map]
    by_cases h60 : j < 60
    · rw [List.getElem?_range h60]
      show some (a (100 + j), Sum.inl (k 0, 12, Sum.inl (va j))) = some (a (100 + j), Sum.inl (k 0, 12, Sum.inl (va_up va i g j)))
      rw [va_up_ne _ _ hj]
    · rw [List.getElem?_eq_none (by rw [List.length_range]; omega)]
      rfl
theorem sk_row_set {a : Nat → Nat} {k : Nat → ClassId} {nO : Int32} {op sh ch : sk_F} {va : Nat → sk_F} {nS : Int32} {pr og la le : sk_F} {mk th nx : Int32} {fs fn fh fp : sk_F} {wy : Nat → Int64} {hd wt : sk_F} {i : Nat} {g : sk_F} (hi : i < 60) : (sk_wR a k nO op sh ch va nS pr og la le mk th nx fs fn fh fp wy hd wt).set (19 + i) (a (100 + i), .inl (k 0, 12, .inl g)) = sk_wR a k nO op sh ch (va_up va i g) nS pr og la le mk th nx fs fn fh fp wy hd wt := by
  refine (sk_app_set (Y := sk_rows a k va) rfl i _).trans ?_
  rw [sk_rows_set hi]
  rfl
/-- what a method of the class finds -/
def sk_PX (dC : Nat → ClassId) (dI : Nat → Nat → Nat) (a : Nat → Nat) (k : Nat → ClassId) (S : sk_S) (wt : sk_F) (U : State) : Prop := va_P (dC, dI) vwCl (sk_wX a k S wt) U.heap ∧ va_K (dC, dI) vwCl (sk_tys k) U ∧ sk_NW U
theorem sk_NW_warm {s U : State} (hW : s.WarmedH U.vm) (h : sk_NW s) : sk_NW U := by
  intro k w hk
  have hm := List.mem_of_getElem? hk
  have hw := h k w hk
  simp only [sk_NL, List.mem_cons, List.not_mem_nil, or_false] at hm
  rcases hm with rfl | rfl | rfl | rfl | rfl | rfl | rfl | rfl | rfl | rfl | rfl | rfl | rfl | rfl | rfl | rfl | rfl | rfl | rfl | rfl | rfl | rfl | rfl | rfl | rfl | rfl | rfl | rfl | rfl | rfl | rfl | rfl | rfl | rfl | rfl | rfl | rfl | rfl <;> first | exact va_Nw.warmF hW hw | exact va_Nw.warmM hW hw
theorem sk_NW_same {s U : State} (hv : s.vm = U.vm) (h : sk_NW s) : sk_NW U := by
  intro k w hk
  have hm := List.mem_of_getElem? hk
  have hw := h k w hk
  simp only [sk_NL, List.mem_cons, List.not_mem_nil, or_false] at hm
  rcases hm with rfl | rfl | rfl | rfl | rfl | rfl | rfl | rfl | rfl | rfl | rfl | rfl | rfl | rfl | rfl | rfl | rfl | rfl | rfl | rfl | rfl | rfl | rfl | rfl | rfl | rfl | rfl | rfl | rfl | rfl | rfl | rfl | rfl | rfl | rfl | rfl | rfl | rfl <;> exact va_Nw.same rfl hv hw
theorem sk_PX_call {dC : Nat → ClassId} {dI : Nat → Nat → Nat} {a : Nat → Nat} {k : Nat → ClassId} {S : sk_S} {wt : sk_F} {U : State} (g : JFrame) (mk : MethodId) (v : Array Value) (h : sk_PX dC dI a k S wt U) : sk_PX dC dI a k S wt (U.calling g mk v) := ⟨h.1, va_K.moved (u := U) (U := U.calling g mk v) (Vm.Alike.refl U.vm) h.2.1, sk_NW_same (s := U) rfl h.2.2⟩
theorem sk_blind (av : List Value) {dC : Nat → ClassId} {dI : Nat → Nat → Nat} {a : Nat → Nat} {k : Nat → ClassId} {S : sk_S} {wt : sk_F} : FrameBlind (va_Pc av (sk_PX dC dI a k S wt)) := fun _ _ g mk q => ⟨q.1, sk_PX_call g mk _ q.2⟩
theorem sk_blindD (av : List Value) {dC : Nat → ClassId} {dI : Nat → Nat → Nat} {a : Nat → Nat} {k : Nat → ClassId} {S : sk_S} {wt : sk_F} {P : Prop} : FrameBlind (va_Pc av (fun U => sk_PX dC dI a k S wt U ∧ P)) := fun _ _ g mk q => ⟨q.1, sk_PX_call g mk _ q.2.1, q.2.2⟩
theorem sk_inc (n : Nat) : nI n + Int32.ofInt 1 = nI (n + 1) := nI_1 n
/-- at a call: what the callee finds -/
theorem sk_at {dC : Nat → ClassId} {dI : Nat → Nat → Nat} {a : Nat → Nat} {k : Nat → ClassId} {S : sk_S} {wt : sk_F} {s : State} {H : Heap} (hP : va_P (dC, dI) vwCl (sk_wX a k S wt) H) (hK : va_K (dC, dI) vwCl (sk_tys k) s) (hN : sk_NW s) {U : State} (hU : U.heap = H) (hW : s.WarmedH U.vm) : sk_PX dC dI a k S wt U := ⟨by rw [hU]; exact hP, va_K.moved hW.alike hK, sk_NW_warm hW hN⟩
end
section
/-! small rows for the walks -/
theorem sk_nn {p : Prop} (h : ¬ ¬ p) : p := Classical.not_not.mp h
theorem sk_hasB_t {n : Nat} {x : Int32} (h1 : ¬ x < 0) (h2 : ¬ nI n ≤ x) : nI 1 = sk_bI (sk_hasB n x) := by
  have a : 0 ≤ x := by rw [Int32.le_iff_toInt_le]; rw [Int32.lt_iff_toInt_lt] at h1; omega
  have c : x < nI n := by rw [Int32.lt_iff_toInt_lt]; rw [Int32.le_iff_toInt_le] at h2; omega
  unfold sk_hasB
  rw [decide_eq_true a, decide_eq_true c]; rfl
theorem sk_hasB_f1 {n : Nat} {x : Int32} (h : x < 0) : nI 0 = sk_bI (sk_hasB n x) := by
  have a : ¬ 0 ≤ x := by rw [Int32.le_iff_toInt_le]; rw [Int32.lt_iff_toInt_lt] at h; omega
  unfold sk_hasB
  rw [decide_eq_false a]; rfl
theorem sk_hasB_f2 {n : Nat} {x : Int32} (h : nI n ≤ x) : nI 0 = sk_bI (sk_hasB n x) := by
  have c : ¬ x < nI n := by rw [Int32.lt_iff_toInt_lt]; rw [Int32.le_iff_toInt_le] at h; omega
  unfold sk_hasB
  rw [decide_eq_false c, Bool.and_false]; rfl
theorem sk_bI_or (c : Bool) : (c = true ∧ sk_bI c = nI 1) ∨ (c = false ∧ sk_bI c = nI 0) := by cases c <;> simp [sk_bI, nI] <;> decide
theorem sk_ff_hit {P : Nat → Bool} {n i : Nat} {r : Int32} (hi : i < n) (he : sk_ff P (n - i) i = r) (hp : P i = true) : nI i = r := by
  rw [show n - i = (n - i - 1) + 1 by omega, sk_ff_s, if_pos hp] at he
  exact he
theorem sk_ff_miss {P : Nat → Bool} {n i : Nat} {r : Int32} (hi : i < n) (he : sk_ff P (n - i) i = r) (hp : P i = false) : sk_ff P (n - (i + 1)) (i + 1) = r := by
  rw [show n - i = (n - (i + 1)) + 1 by omega, sk_ff_s, if_neg (by rw [hp]; decide)] at he
  exact he
theorem sk_ff_end {P : Nat → Bool} {n i : Nat} {r : Int32} (hi : n ≤ i) (he : sk_ff P (n - i) i = r) : (-1 : Int32) = r := by
  rw [show n - i = 0 by omega] at he
  exact he
theorem sk_pd1 {m : Nat} (h : ¬ nI m - nI 1 < 0) : 0 < m := by
  rcases Nat.eq_zero_or_pos m with e | e
  · subst e; exact absurd (by decide) h
  · exact e
theorem sk_pd0 {m : Nat} (hm : m ≤ 12) (h : nI m - nI 1 < 0) : m = 0 := by
  rcases Nat.eq_zero_or_pos m with e | e
  · exact e
  · rw [pk_sub e] at h
    exact absurd h (nI_pos (by omega))
theorem sk_pdec {m : Nat} (h : 0 < m) : nI m - nI 1 + Int32.ofInt (-1) = nI (m - 1) - nI 1 := by
  rw [pk_sub (show 1 ≤ m from h), show Int32.ofInt (-1) = -(nI 1) by decide, ← Int32.sub_eq_add_neg]
theorem sk_pl_hit {t : sk_Tr} {x r : Int32} {m q : Nat} (h : 0 < m) (he : sk_pl t x m q = r) (hx : t.2.2.2.1 q = x) : nI m - nI 1 = r := by
  rw [show m = (m - 1) + 1 by omega] at he
  have he : (if t.2.2.2.1 q = x then nI (m - 1) else sk_pl t x (m - 1) (t.2.2.1 q).toNatClampNeg) = r := he
  rw [if_pos hx] at he
  rw [← he]; exact pk_sub h
theorem sk_pl_miss {t : sk_Tr} {x r : Int32} {m q j : Nat} (h : 0 < m) (he : sk_pl t x m q = r) (hx : ¬ t.2.2.2.1 q = x) (hj : j < 2 ^ 31) (ho : t.2.2.1 q = nI j) : sk_pl t x (m - 1) j = r := by
  rw [show m = (m - 1) + 1 by omega] at he
  have he : (if t.2.2.2.1 q = x then nI (m - 1) else sk_pl t x (m - 1) (t.2.2.1 q).toNatClampNeg) = r := he
  rw [if_neg hx, ho, nI_clamp hj] at he
  exact he
theorem sk_parent {nO : Nat} {t : sk_Tr} (h : sk_TO nO t) {q m : Nat} (hq : q < t.1) (hl : sk_len t q = m) (hm : 0 < m) : ∃ j, j < q ∧ t.2.2.1 q = nI j ∧ sk_len t j = m - 1 := by
  rcases (h.2.2.2.2.2 q hq).2 with ⟨-, e⟩ | ⟨j, g, a, h1, h2, h3, h4, h5, h6, -⟩
  · rw [sk_lenE (by omega) e] at hl; omega
  · rw [sk_lenE (by omega) h6] at hl
    exact ⟨j, h1, h4, by rw [sk_lenE (by omega) h5]; omega⟩
theorem sk_plin {pl : Int32} {m : Nat} (hm : m ≤ 12) (h1 : ¬ pl < 0) (h2 : pl ≤ nI m - nI 1) : ∃ j, j < m ∧ pl = nI j := by
  rcases Nat.eq_zero_or_pos m with e | e
  · subst e
    exact absurd (show pl < 0 by rw [Int32.le_iff_toInt_le] at h2; rw [Int32.lt_iff_toInt_lt]; have : (nI 0 - nI 1).toInt = -1 := by decide
                                 have : (0 : Int32).toInt = 0 := by decide
                                 omega) h1
  · rw [pk_sub (show 1 ≤ m from e)] at h2
    obtain ⟨j, hj, e2⟩ := nI_of2 (n := m - 1) (nI_toInt (by omega)) h1 h2
    exact ⟨j, by omega, e2⟩
theorem sk_plout {pl : Int32} {m : Nat} (hm : m ≤ 12) (h2 : ¬ pl ≤ nI m - nI 1) : nI m ≤ pl := by
  rcases Nat.eq_zero_or_pos m with e | e
  · subst e
    rw [Int32.le_iff_toInt_le] at h2 ⊢
    have : (nI 0 - nI 1).toInt = -1 := by decide
    have : (nI 0).toInt = 0 := by decide
    omega
  · rw [pk_sub (show 1 ≤ m from e), Int32.le_iff_toInt_le, nI_toInt (by omega)] at h2
    rw [Int32.le_iff_toInt_le, nI_toInt (by omega)]
    omega
theorem sk_gS {own : String} {idx : Nat} {y : MethodName} {c : Cond} (h1 : Cond.methodLink own idx y ∈ sk_W) (h2 : Cond.static y ∈ sk_W) (h4 : Cond.initialized own ∈ sk_W) (h5 : c ∈ sk_W) : GoodIn sk_W (wsS own idx y (c :: sk_W)) := by
  intro w hw
  rcases List.mem_append.mp hw with q | q
  · simp only [List.mem_cons, List.not_mem_nil, or_false] at q
    rcases q with rfl | rfl | rfl
    · exact sk_Wgood _ h1
    · exact sk_Wgood _ h2
    · exact sk_Wgood _ h4
  · exact sk_gC h5 w q
end
section
theorem sk_grow_hit {nO : Nat} {t : sk_Tr} (h : sk_TO nO t) {s : Nat} (hs : s < t.1) {x : Int32} (hw : ¬ sk_wn t s x = -1) : ∃ g, sk_grow t s x = some (t, g) ∧ sk_wn t s x = nI g := by
  rcases sk_wn_spec h hs x with ⟨e, -⟩ | ⟨i, m, hi, hsi, e, -⟩
  · exact absurd e hw
  · exact ⟨i, by unfold sk_grow; rw [if_neg hw, e, nI_clamp (sk_t31 h hi)], e⟩
theorem sk_getD_drop {ns : List Int32} {i : Nat} (hi : i < ns.length) : ns.drop i = ns.getD i 0 :: ns.drop (i + 1) := by
  rw [List.drop_eq_getElem_cons hi, List.getD_eq_getElem?_getD, List.getElem?_eq_getElem hi, Option.getD_some]
theorem sk_down_hit {t : sk_Tr} {ns : List Int32} {i q j : Nat} (hi : i < ns.length) (hj : j < 2 ^ 31) (hw : sk_wn t q (ns.getD i 0) = nI j) : sk_down t q (ns.drop i) = sk_down t j (ns.drop (i + 1)) := by
  rw [sk_getD_drop hi, sk_down, if_neg (by rw [hw]; exact sk_nm1 hj), hw, nI_clamp hj]
theorem sk_down_miss {t : sk_Tr} {ns : List Int32} {i q : Nat} (hi : i < ns.length) (hw : sk_wn t q (ns.getD i 0) = -1) : sk_down t q (ns.drop i) = (q, ns.drop i) := by
  rw [sk_getD_drop hi, sk_down, if_pos hw]
theorem sk_down_end {t : sk_Tr} {ns : List Int32} {i q : Nat} (hi : ns.length ≤ i) : sk_down t q (ns.drop i) = (q, ns.drop i) := by
  rw [List.drop_eq_nil_of_le hi]; rfl
theorem sk_mk_step {t : sk_Tr} {ns : List Int32} {i q : Nat} (hi : i < ns.length) : sk_mk t q (ns.drop i) = sk_mk (sk_grow1 t q (ns.getD i 0)) t.1 (ns.drop (i + 1)) := by
  rw [sk_getD_drop hi]; rfl
theorem sk_mk_end {t : sk_Tr} {ns : List Int32} {i q : Nat} (hi : ns.length ≤ i) : sk_mk t q (ns.drop i) = (t, q) := by
  rw [List.drop_eq_nil_of_le hi]; rfl
theorem sk_reach_n1 {t : sk_Tr} {x : Int32} {ns : List Int32} (he : sk_em t x = -1) (h : 200 < t.1 + (1 + ns.length)) : sk_reach t x ns = none := by
  unfold sk_reach; rw [if_pos he, if_pos h]
theorem sk_reach_s1 {t : sk_Tr} {x : Int32} {ns : List Int32} (he : sk_em t x = -1) (h : ¬ 200 < t.1 + (1 + ns.length)) : sk_reach t x ns = some (sk_mk (sk_make t x (-1) (-1) 0) t.1 (ns.drop 0)) := by
  unfold sk_reach; rw [if_pos he, if_neg h]; rfl
theorem sk_reach_n2 {t : sk_Tr} {x : Int32} {ns : List Int32} {q0 q i : Nat} (h0 : q0 < 2 ^ 31) (he : sk_em t x = nI q0) (hd : sk_down t q0 ns = (q, ns.drop i)) (h : 200 < t.1 + (ns.length - i)) : sk_reach t x ns = none := by
  unfold sk_reach; rw [if_neg (by rw [he]; exact sk_nm1 h0), he, nI_clamp h0, hd, if_pos (by rw [List.length_drop]; exact h)]
theorem sk_reach_s2 {t : sk_Tr} {x : Int32} {ns : List Int32} {q0 q i : Nat} (h0 : q0 < 2 ^ 31) (he : sk_em t x = nI q0) (hd : sk_down t q0 ns = (q, ns.drop i)) (h : ¬ 200 < t.1 + (ns.length - i)) : sk_reach t x ns = some (sk_mk t q (ns.drop i)) := by
  unfold sk_reach; rw [if_neg (by rw [he]; exact sk_nm1 h0), he, nI_clamp h0, hd, if_neg (by rw [List.length_drop]; exact h)]
def sk_lft (t : sk_Tr) (s : Nat) (x : Int32) (n : Nat) : List Int32 := ((sk_names t s).take n).filter (fun a => !decide (a = x))
theorem sk_lft_s {t : sk_Tr} {s n : Nat} {x : Int32} (h : n < sk_len t s) : sk_lft t s x (n + 1) = sk_lft t s x n ++ (if sk_nm t s n = x then [] else [sk_nm t s n]) := by
  unfold sk_lft
  rw [List.take_succ, sk_names_get h, List.filter_append]
  congr 1
  by_cases e : sk_nm t s n = x
  · rw [if_pos e]; simp [e]
  · rw [if_neg e]; simp [e]
theorem sk_lft_len (t : sk_Tr) (s : Nat) (x : Int32) (n : Nat) : (sk_lft t s x n).length ≤ n := by
  unfold sk_lft
  exact Nat.le_trans (List.length_filter_le _ _) (by rw [List.length_take]; omega)
theorem sk_lft_all {t : sk_Tr} {s n : Nat} {x : Int32} (h : sk_len t s ≤ n) : sk_lft t s x n = sk_left t s x := by
  unfold sk_lft sk_left
  rw [List.take_of_length_le (by rw [sk_names_len]; exact h)]
theorem sk_row_app {w : sk_F} {l : List Int32} {v : Int32} (h : ∀ j, j < l.length → w j = l.getD j 0) : ∀ j, j < (l ++ [v]).length → upd w l.length v j = (l ++ [v]).getD j 0 := by
  intro j hj
  rw [List.length_append, List.length_singleton] at hj
  by_cases e : j = l.length
  · subst e
    rw [pk_us, List.getD_eq_getElem?_getD, List.getElem?_append_right (Nat.le_refl _), Nat.sub_self]; rfl
  · rw [pk_un e, h j (by omega), List.getD_eq_getElem?_getD, List.getD_eq_getElem?_getD, List.getElem?_append_left (by omega)]
theorem sk_left_m1 {nO : Nat} {t : sk_Tr} (h : sk_TO nO t) {s : Nat} (hs : s < t.1) : sk_left t s (-1) = sk_names t s := by
  unfold sk_left
  refine List.filter_eq_self.mpr (fun a ha => ?_)
  obtain ⟨g, hg, e⟩ := sk_names_in h hs a ha
  rw [e]
  simp [sk_nm1 (show g < 2 ^ 31 by omega)]
theorem sk_left_len {nO : Nat} {t : sk_Tr} (h : sk_TO nO t) {s : Nat} (hs : s < t.1) (x : Int32) : (sk_left t s x).length ≤ 12 := sk_len12 (sk_left_ok h hs x).1 (sk_left_ok h hs x).2
theorem sk_endw {D : va_G} {ws : va_W} {U : State} {H : Heap} {A : Nat → Prop} (ht : U.heap = H) (hP : va_P D vwCl ws H) (hD : va_D A ws) : va_P D vwCl ws U.heap ∧ va_D A ws := ⟨by rw [ht]; exact hP, hD⟩
end
section
theorem sk_canP_t1 {n : Nat} {x : Int32} (h : x = -1) : nI 1 = sk_bI (sk_canP n x) := by unfold sk_canP; rw [decide_eq_true h]; rfl
theorem sk_canP_t2 {n : Nat} {x : Int32} (h : sk_hasB n x = true) : nI 1 = sk_bI (sk_canP n x) := by unfold sk_canP; rw [h, Bool.or_true]; rfl
theorem sk_canP_f {n : Nat} {x : Int32} (h0 : ¬ x = -1) (h : sk_hasB n x = false) : nI 0 = sk_bI (sk_canP n x) := by unfold sk_canP; rw [h, decide_eq_false h0]; rfl
theorem sk_isN_eq (x : Int32) : sk_isN x = sk_hasB 12 x := rfl
def sk_shf (g : sk_F) (k i : Nat) : sk_F := fun j => if k ≤ j ∧ j < i then g (j + 1) else g j
theorem sk_shf_0 (g : sk_F) (k : Nat) : sk_shf g k k = g := by
  funext j; unfold sk_shf; rw [if_neg (by omega)]
theorem sk_shf_s {g : sk_F} {k i : Nat} (h : k ≤ i) : upd (sk_shf g k i) i (sk_shf g k i (i + 1)) = sk_shf g k (i + 1) := by
  funext j
  unfold upd sk_shf
  by_cases e : j = i
  · subst e
    rw [if_pos rfl, if_neg (by omega), if_pos (by omega)]
  · rw [if_neg e]
    by_cases q : k ≤ j ∧ j < i
    · rw [if_pos q, if_pos (by omega)]
    · rw [if_neg q, if_neg (by omega)]
theorem sk_shf_e (g : sk_F) (k : Nat) : sk_shf g k 11 = sk_shift g k := rfl
theorem sk_upup {α : Type} (f : Nat → α) (k : Nat) (v w : α) : va_up (va_up f k v) k w = va_up f k w := bx_uu f k v w
theorem sk_upsame {α : Type} (f : Nat → α) (k : Nat) : va_up f k (f k) = f := by
  funext j; unfold va_up; by_cases e : j = k
  · subst e; rw [if_pos rfl]
  · rw [if_neg e]
section SKA
variable {p : Program} {l : Launch} {e : Env} {R : Room} {s : State} {m : MethodId} {args : Array Value} {below : List Frame} {meth : Method} {c : Code} {H : Heap} {locs : List Loc} {cells slots : Nat} {Q : State → Prop}
theorem sk_aldA {cc : ByteArray} {pc : Nat} {ls : Array Slot} {rest : List Value} {D : va_G} {cl : List vw_C} {tys : List (ClassId × FieldType)} {ws : va_W} {a : Nat} (hexec : p.tables.exec = Jvm.exec) (hb : c.code = cc) (hK : va_K D cl tys s) (hP : va_P D cl ws H) (q0 t0 : Nat) {cA : ClassId} {t : FieldType} {n : Nat} {f : Nat → Option Nat} (ha : ws[q0]? = some (a, .inl (cA, n, .inr (.inr (.inr (.inr f)))))) (ht : tys[t0]? = some (cA, .array t)) {i : Int32} (hin : vp_in i n) (hdg : decode cc pc = .ok (.aaload, 1))
    (kk : W p l e R s m args below meth c H locs cells slots Q (F0 m (pc + 1) ls (va_rf (f i.toNatClampNeg) :: rest))) : W p l e R s m args below meth c H locs cells slots Q (F0 m pc ls (.int i :: .ref a :: rest)) := by
  have hlt : i.toNatClampNeg < n := Nat.not_le.mp fun q => hin (Or.inr q)
  exact W.aald (v := va_rf (f i.toNatClampNeg)) (ty := .array t) hexec hb (hP q0 _ ha) ((hK.2 t0 _ ht).1 n (fun j => va_rf (f j))) rfl (fun q => by cases q) (by show ¬ (i < 0 ∨ (arrV _ _ _).slots.size ≤ _); rw [arrV_size]; exact hin) (by show (arrV _ _ _).slots[_]? = _; rw [arrV_read _ _ hlt]) rfl rfl hdg kk
theorem sk_aald {cc : ByteArray} {pc : Nat} {ls : Array Slot} {rest : List Value} {D : va_G} {a : Nat → Nat} {k : Nat → ClassId} {nO : Int32} {op sh ch : sk_F} {va : Nat → sk_F} {nS : Int32} {pr og la le : sk_F} {mk th nx : Int32} {fs fn fh fp : sk_F} {wy : Nat → Int64} {hd wt : sk_F} (hexec : p.tables.exec = Jvm.exec) (hb : c.code = cc) (hK : va_K D vwCl (sk_tys k) s) (hP : va_P D vwCl (sk_wR a k nO op sh ch va nS pr og la le mk th nx fs fn fh fp wy hd wt) H) {o : Nat} (ho : o < 60) (hdg : decode cc pc = .ok (.aaload, 1))
    (kk : W p l e R s m args below meth c H locs cells slots Q (F0 m (pc + 1) ls (.ref (a (100 + o)) :: rest))) : W p l e R s m args below meth c H locs cells slots Q (F0 m pc ls (.int (nI o) :: .ref (a 8) :: rest)) := by
  have e9 : va_rf (if (nI o).toNatClampNeg < 60 then some (a (100 + (nI o).toNatClampNeg)) else none) = .ref (a (100 + o)) := by
    rw [nI_clamp (by omega), if_pos ho]; rfl
  refine sk_aldA (f := fun i => if i < 60 then some (a (100 + i)) else none) hexec hb hK hP 8 3 rfl rfl (vp_in_nI ho (by decide)) hdg ?_
  show W p l e R s m args below meth c H locs cells slots Q (F0 m (pc + 1) ls (va_rf (if (nI o).toNatClampNeg < 60 then some (a (100 + (nI o).toNatClampNeg)) else none) :: rest))
  rw [e9]
  exact kk
end SKA
theorem sk_uptoV {own : Nat → Bool} : ∀ l : List Nat, (∀ x ∈ l, x < 60) → sk_upto (fun y => decide (nI y = sk_nw own l)) l = sk_upto own l
  | [], _ => rfl
  | x :: r, h => by
    have hx := h x List.mem_cons_self
    by_cases ho : own x = true
    · have e1 : sk_nw own (x :: r) = nI x := if_pos ho
      rw [e1, sk_upto, sk_upto, if_pos (decide_eq_true rfl), if_pos ho]
    · have e1 : sk_nw own (x :: r) = sk_nw own r := if_neg ho
      have ih := sk_uptoV (own := own) r (fun y hy => h y (List.mem_cons_of_mem _ hy))
      have hne : ¬ nI x = sk_nw own r := fun q => by
        rcases sk_nw_spec own r with ⟨a, -, -⟩ | ⟨y, hy, a, b, -⟩
        · exact sk_nm1 (by omega) (q.trans a)
        · have hy60 := h y (List.mem_cons_of_mem _ hy)
          have := sk_inj (by omega) (by omega) (q.trans a)
          subst this
          exact ho b
      rw [e1, sk_upto, sk_upto, if_neg (by simp [hne]), if_neg ho, ih]
theorem sk_uptoM : ∀ l : List Nat, (∀ x ∈ l, x < 60) → sk_upto (fun y => decide (nI y = -1)) l = l
  | [], _ => rfl
  | x :: r, h => by
    have hx := h x List.mem_cons_self
    rw [sk_upto, if_neg (by simp [sk_nm1 (show x < 2 ^ 31 by omega)]), sk_uptoM r (fun y hy => h y (List.mem_cons_of_mem _ hy))]
theorem sk_p64 {q : Nat} (h : q < 60) : 2 ^ q < 2 ^ 64 := wb_lt2 (by omega)
theorem sk_shl {q : Nat} (h : q < 60) : lN 1 <<< ((nI q).toInt64 &&& 63) = lN (2 ^ q) := by rw [wb_shl 1 (by omega), Nat.one_mul]
theorem sk_cnt_s {P : Nat → Bool} {i : Nat} {c : Nat} (h : c = sk_cnt P i) (hp : P i = true) : c + 1 = sk_cnt P (i + 1) := by rw [h, sk_cnt, if_pos hp]
theorem sk_cnt_n {P : Nat → Bool} {i : Nat} {c : Nat} (h : c = sk_cnt P i) (hp : P i = false) : c = sk_cnt P (i + 1) := by rw [h, sk_cnt, if_neg (by rw [hp]; decide)]; rfl
theorem sk_cnt_le (P : Nat → Bool) : ∀ i, sk_cnt P i ≤ i
  | 0 => Nat.le_refl _
  | i + 1 => by
    have := sk_cnt_le P i
    rw [sk_cnt]
    split <;> omega
theorem sk_updW {wl : Nat → List Nat} {k : Nat} {w : List Nat} : vp_updL (fun i => lN (sk_nb (wl i))) k (lN (sk_nb w)) = fun i => lN (sk_nb (va_up wl k w i)) := by
  funext j; unfold vp_updL va_up; by_cases e : j = k
  · rw [if_pos e, if_pos e]
  · rw [if_neg e, if_neg e]
theorem sk_updH {hb : Nat → Bool} {k : Nat} : upd (fun i => sk_bI (hb i)) k (nI 1) = fun i => sk_bI (va_up hb k true i) := by
  funext j; unfold upd va_up; by_cases e : j = k
  · rw [if_pos e, if_pos e]; rfl
  · rw [if_neg e, if_neg e]
theorem sk_updH0 {hb : Nat → Bool} {k : Nat} : upd (fun i => sk_bI (hb i)) k (nI 0) = fun i => sk_bI (va_up hb k false i) := by
  funext j; unfold upd va_up; by_cases e : j = k
  · rw [if_pos e, if_pos e]; rfl
  · rw [if_neg e, if_neg e]
theorem sk_max {n : Nat} : (if nI (min n 100) < nI (n % 100 + 1) then nI (n % 100 + 1) else nI (min n 100)) = nI (min (n + 1) 100) := by
  by_cases h : n < 100
  · rw [Nat.mod_eq_of_lt h, Nat.min_eq_left (by omega), Nat.min_eq_left (by omega), if_pos (nI_lt (by omega) (by omega))]
  · rw [Nat.min_eq_right (by omega), Nat.min_eq_right (by omega)]
    have h2 : n % 100 < 100 := Nat.mod_lt _ (by decide)
    by_cases e : nI 100 < nI (n % 100 + 1)
    · rw [nI_ltI (by omega) (by omega)] at e; omega
    · rw [if_neg e]
theorem sk_nx1 {n : Nat} (h : ¬ 100 ≤ n % 100 + 1) : n % 100 + 1 = (n + 1) % 100 := by omega
theorem sk_nx0 {n : Nat} (h : 100 ≤ n % 100 + 1) : 0 = (n + 1) % 100 := by omega
theorem sk_bitin {l : List Nat} {o : Nat} (hl : ∀ x ∈ l, x < 60) (ho : o < 60) : lN (sk_nb l) &&& lN (2 ^ o) = lN (sk_nb l &&& 2 ^ o) := wb_and (sk_nb_lt l (fun x hx => by have := hl x hx; omega)) (sk_p64 ho)
theorem sk_bit0 {l : List Nat} {o : Nat} (ho : o < 60) : lN (sk_nb l &&& 2 ^ o) = lN 0 ↔ o ∉ l := by
  have hlt : sk_nb l &&& 2 ^ o < 2 ^ 64 := Nat.and_lt_two_pow _ (sk_p64 ho)
  constructor
  · intro h hm
    have h2 := congrArg (fun z => Int64.toBitVec z |>.toNat) h
    simp only [wb_tn hlt, wb_tn (show 0 < 2 ^ 64 by decide)] at h2
    have h3 : (sk_nb l &&& 2 ^ o).testBit o = true := by rw [Nat.testBit_and, sk_nb_bit, Nat.testBit_two_pow]; simp [hm]
    rw [h2] at h3
    simp at h3
  · intro h
    have h2 : sk_nb l &&& 2 ^ o = 0 := by
      apply Nat.eq_of_testBit_eq
      intro j
      rw [Nat.testBit_and, sk_nb_bit, Nat.testBit_two_pow, Nat.zero_testBit]
      by_cases e : o = j
      · subst e; simp [h]
      · simp [e]
    rw [h2]
end
section
abbrev wzT_has : List Cond := .code yT_has cT_has 2 (some .boolean) :: sk_W
abbrev rzT_has : Room := { frames := 0, cells := 0, slots := 0, locals := 0 }
set_option maxHeartbeats 4000000 in
set_option maxRecDepth 100000 in
theorem kT_has (l : Launch) (dC : Nat → ClassId) (dI : Nat → Nat → Nat) (a : Nat → Nat) (k : Nat → ClassId) (b : sk_Ob) (t : sk_Tr) (f : sk_Fi) (wt : sk_F) (x : Int32)  : Met l yT_has wzT_has rzT_has (va_Pc [.ref (a 2), .int x] (sk_PX dC dI a k (b, t, f) wt)) (va_Qi (fun r (_ : Unit) => r = sk_bI (sk_hasB t.1 x)) (fun _ _ => True) (fun _ => False)) 0 0 (fun _ => False) := by
  refine Met.ofW (cc := cT_has) (maxL := 2) (ret := (some .boolean)) (by decide) rfl ?_
  intro p e s m args below meth c s₁ B hml hv
  obtain ⟨rfl, hP, hK, hN⟩ := hv
  have hx := B.exec
  have hb := B.bytes
  have hr := B.returns
  have hts : ∀ w ∈ sk_W, w.before ([.ref (a 2), .int x] : List Value).toArray s = true := fun w h => atoms_spec (ws := wzT_has) B.pre w (List.mem_cons_of_mem _ h)
  have hown : s.vm.findClass RT = some m.cls := findClass_of_methodNamed B.named
  have hlocks := B.notSynchronized
  have hS : va_S (fun _ => False) s.heap s.heap [] := va_S.rf
  have hP : va_P (dC, dI) vwCl (sk_wR a k (nI b.1) b.2.1 b.2.2.1 b.2.2.2.1 b.2.2.2.2 (nI t.1) t.2.1 t.2.2.1 t.2.2.2.1 t.2.2.2.2 (nI f.1) (nI (sk_there f)) (nI (f.1 % 100)) f.2.1 f.2.2.1 f.2.2.2.1 f.2.2.2.2.1 (fun i => lN (sk_nb (f.2.2.2.2.2.1 i))) (fun i => sk_bI (f.2.2.2.2.2.2 i)) wt) s.heap := hP
  have hl := lv_entry ([.ref (a 2), .int x]) (n := 2) (Nat.le_of_ble_eq_true rfl)
  rw [lg_entry_eq]
  generalize (lg_sl ([.ref (a 2), .int x]) ++ List.replicate (2 - (lg_sl ([.ref (a 2), .int x])).length) Slot.unset).toArray = ls at hl ⊢
  have hl : lv_has ls 2 [(0, .ref (a 2)), (1, .int x)] := hl
  refine lv_iload_n hx hb dT_has_0 rfl (lv_at hl 1 rfl) ?_
  refine lv_if_lt (tgt := 16) hx hb dT_has_1 (by decide) (fun c1 => ?_) (fun c1 => ?_)
  · skip
    refine lv_iconst (v := nI 0) hx hb dT_has_16 (by decide) ?_
    exact W.zret (v := nI 0) hx hb hr (by decide) (fun U9 ht hW => ⟨⟨nI 0, (), rfl, sk_hasB_f1 c1, trivial⟩, hS.F ht⟩) hS.2.2 dT_has_17
  · skip
    refine lv_iload_n hx hb dT_has_4 rfl (lv_at hl 1 rfl) ?_
    refine lv_aload_n hx hb dT_has_5 rfl (lv_at hl 0 rfl) ?_
    refine va_get (D := (dC, dI)) (ci := 2) (v := .int (nI t.1)) (C := RT) (T := TT) (N := 5) hx hb hts inT hown hK hP 2 rfl rfl 4 (by decide) (hts _ wfT_24) (fun _ h9 => h9) rfl dT_has_6 ?_
    refine lv_icmp_ge (tgt := 16) hx hb dT_has_9 (by decide) (fun c9 => ?_) (fun c9 => ?_)
    · skip
      refine lv_iconst (v := nI 0) hx hb dT_has_16 (by decide) ?_
      exact W.zret (v := nI 0) hx hb hr (by decide) (fun U9 ht hW => ⟨⟨nI 0, (), rfl, sk_hasB_f2 c9, trivial⟩, hS.F ht⟩) hS.2.2 dT_has_17
    · skip
      refine lv_iconst (v := nI 1) hx hb dT_has_12 (by decide) ?_
      refine lv_goto (tgt := 17) hx hb dT_has_13 (by decide) ?_
      exact W.zret (v := nI 1) hx hb hr (by decide) (fun U9 ht hW => ⟨⟨nI 1, (), rfl, sk_hasB_t c1 c9, trivial⟩, hS.F ht⟩) hS.2.2 dT_has_17
abbrev wzO_has : List Cond := .code yO_has cO_has 2 (some .boolean) :: sk_W
abbrev rzO_has : Room := { frames := 0, cells := 0, slots := 0, locals := 0 }
set_option maxHeartbeats 4000000 in
set_option maxRecDepth 100000 in
theorem kO_has (l : Launch) (dC : Nat → ClassId) (dI : Nat → Nat → Nat) (a : Nat → Nat) (k : Nat → ClassId) (b : sk_Ob) (t : sk_Tr) (f : sk_Fi) (wt : sk_F) (x : Int32)  : Met l yO_has wzO_has rzO_has (va_Pc [.ref (a 1), .int x] (sk_PX dC dI a k (b, t, f) wt)) (va_Qi (fun r (_ : Unit) => r = sk_bI (sk_hasB b.1 x)) (fun _ _ => True) (fun _ => False)) 0 0 (fun _ => False) := by
  refine Met.ofW (cc := cO_has) (maxL := 2) (ret := (some .boolean)) (by decide) rfl ?_
  intro p e s m args below meth c s₁ B hml hv
  obtain ⟨rfl, hP, hK, hN⟩ := hv
  have hx := B.exec
  have hb := B.bytes
  have hr := B.returns
  have hts : ∀ w ∈ sk_W, w.before ([.ref (a 1), .int x] : List Value).toArray s = true := fun w h => atoms_spec (ws := wzO_has) B.pre w (List.mem_cons_of_mem _ h)
  have hown : s.vm.findClass RO = some m.cls := findClass_of_methodNamed B.named
  have hlocks := B.notSynchronized
  have hS : va_S (fun _ => False) s.heap s.heap [] := va_S.rf
  have hP : va_P (dC, dI) vwCl (sk_wR a k (nI b.1) b.2.1 b.2.2.1 b.2.2.2.1 b.2.2.2.2 (nI t.1) t.2.1 t.2.2.1 t.2.2.2.1 t.2.2.2.2 (nI f.1) (nI (sk_there f)) (nI (f.1 % 100)) f.2.1 f.2.2.1 f.2.2.2.1 f.2.2.2.2.1 (fun i => lN (sk_nb (f.2.2.2.2.2.1 i))) (fun i => sk_bI (f.2.2.2.2.2.2 i)) wt) s.heap := hP
  have hl := lv_entry ([.ref (a 1), .int x]) (n := 2) (Nat.le_of_ble_eq_true rfl)
  rw [lg_entry_eq]
  generalize (lg_sl ([.ref (a 1), .int x]) ++ List.replicate (2 - (lg_sl ([.ref (a 1), .int x])).length) Slot.unset).toArray = ls at hl ⊢
  have hl : lv_has ls 2 [(0, .ref (a 1)), (1, .int x)] := hl
  refine lv_iload_n hx hb dO_has_0 rfl (lv_at hl 1 rfl) ?_
  refine lv_if_lt (tgt := 16) hx hb dO_has_1 (by decide) (fun c1 => ?_) (fun c1 => ?_)
  · skip
    refine lv_iconst (v := nI 0) hx hb dO_has_16 (by decide) ?_
    exact W.zret (v := nI 0) hx hb hr (by decide) (fun U9 ht hW => ⟨⟨nI 0, (), rfl, sk_hasB_f1 c1, trivial⟩, hS.F ht⟩) hS.2.2 dO_has_17
  · skip
    refine lv_iload_n hx hb dO_has_4 rfl (lv_at hl 1 rfl) ?_
    refine lv_aload_n hx hb dO_has_5 rfl (lv_at hl 0 rfl) ?_
    refine va_get (D := (dC, dI)) (ci := 1) (v := .int (nI b.1)) (C := RO) (T := TO) (N := 5) hx hb hts inO hown hK hP 1 rfl rfl 4 (by decide) (hts _ wfO_26) (fun _ h9 => h9) rfl dO_has_6 ?_
    refine lv_icmp_ge (tgt := 16) hx hb dO_has_9 (by decide) (fun c9 => ?_) (fun c9 => ?_)
    · skip
      refine lv_iconst (v := nI 0) hx hb dO_has_16 (by decide) ?_
      exact W.zret (v := nI 0) hx hb hr (by decide) (fun U9 ht hW => ⟨⟨nI 0, (), rfl, sk_hasB_f2 c9, trivial⟩, hS.F ht⟩) hS.2.2 dO_has_17
    · skip
      refine lv_iconst (v := nI 1) hx hb dO_has_12 (by decide) ?_
      refine lv_goto (tgt := 17) hx hb dO_has_13 (by decide) ?_
      exact W.zret (v := nI 1) hx hb hr (by decide) (fun U9 ht hW => ⟨⟨nI 1, (), rfl, sk_hasB_t c1 c9, trivial⟩, hS.F ht⟩) hS.2.2 dO_has_17
abbrev wzF_has : List Cond := .code yF_has cF_has 2 (some .boolean) :: sk_W
abbrev rzF_has : Room := { frames := 0, cells := 0, slots := 0, locals := 0 }
set_option maxHeartbeats 4000000 in
set_option maxRecDepth 100000 in
theorem kF_has (l : Launch) (dC : Nat → ClassId) (dI : Nat → Nat → Nat) (a : Nat → Nat) (k : Nat → ClassId) (b : sk_Ob) (t : sk_Tr) (f : sk_Fi) (wt : sk_F) (x : Int32)  : Met l yF_has wzF_has rzF_has (va_Pc [.ref (a 3), .int x] (sk_PX dC dI a k (b, t, f) wt)) (va_Qi (fun r (_ : Unit) => r = sk_bI (sk_hasB (sk_there f) x)) (fun _ _ => True) (fun _ => False)) 0 0 (fun _ => False) := by
  refine Met.ofW (cc := cF_has) (maxL := 2) (ret := (some .boolean)) (by decide) rfl ?_
  intro p e s m args below meth c s₁ B hml hv
  obtain ⟨rfl, hP, hK, hN⟩ := hv
  have hx := B.exec
  have hb := B.bytes
  have hr := B.returns
  have hts : ∀ w ∈ sk_W, w.before ([.ref (a 3), .int x] : List Value).toArray s = true := fun w h => atoms_spec (ws := wzF_has) B.pre w (List.mem_cons_of_mem _ h)
  have hown : s.vm.findClass RF = some m.cls := findClass_of_methodNamed B.named
  have hlocks := B.notSynchronized
  have hS : va_S (fun _ => False) s.heap s.heap [] := va_S.rf
  have hP : va_P (dC, dI) vwCl (sk_wR a k (nI b.1) b.2.1 b.2.2.1 b.2.2.2.1 b.2.2.2.2 (nI t.1) t.2.1 t.2.2.1 t.2.2.2.1 t.2.2.2.2 (nI f.1) (nI (sk_there f)) (nI (f.1 % 100)) f.2.1 f.2.2.1 f.2.2.2.1 f.2.2.2.2.1 (fun i => lN (sk_nb (f.2.2.2.2.2.1 i))) (fun i => sk_bI (f.2.2.2.2.2.2 i)) wt) s.heap := hP
  have hl := lv_entry ([.ref (a 3), .int x]) (n := 2) (Nat.le_of_ble_eq_true rfl)
  rw [lg_entry_eq]
  generalize (lg_sl ([.ref (a 3), .int x]) ++ List.replicate (2 - (lg_sl ([.ref (a 3), .int x])).length) Slot.unset).toArray = ls at hl ⊢
  have hl : lv_has ls 2 [(0, .ref (a 3)), (1, .int x)] := hl
  refine lv_iload_n hx hb dF_has_0 rfl (lv_at hl 1 rfl) ?_
  refine lv_if_lt (tgt := 16) hx hb dF_has_1 (by decide) (fun c1 => ?_) (fun c1 => ?_)
  · skip
    refine lv_iconst (v := nI 0) hx hb dF_has_16 (by decide) ?_
    exact W.zret (v := nI 0) hx hb hr (by decide) (fun U9 ht hW => ⟨⟨nI 0, (), rfl, sk_hasB_f1 c1, trivial⟩, hS.F ht⟩) hS.2.2 dF_has_17
  · skip
    refine lv_iload_n hx hb dF_has_4 rfl (lv_at hl 1 rfl) ?_
    refine lv_aload_n hx hb dF_has_5 rfl (lv_at hl 0 rfl) ?_
    refine va_get (D := (dC, dI)) (ci := 0) (v := .int (nI (sk_there f))) (C := RF) (T := TF) (N := 9) hx hb hts inF hown hK hP 3 rfl rfl 7 (by decide) (hts _ wfF_36) (fun _ h9 => h9) rfl dF_has_6 ?_
    refine lv_icmp_ge (tgt := 16) hx hb dF_has_9 (by decide) (fun c9 => ?_) (fun c9 => ?_)
    · skip
      refine lv_iconst (v := nI 0) hx hb dF_has_16 (by decide) ?_
      exact W.zret (v := nI 0) hx hb hr (by decide) (fun U9 ht hW => ⟨⟨nI 0, (), rfl, sk_hasB_f2 c9, trivial⟩, hS.F ht⟩) hS.2.2 dF_has_17
    · skip
      refine lv_iconst (v := nI 1) hx hb dF_has_12 (by decide) ?_
      refine lv_goto (tgt := 17) hx hb dF_has_13 (by decide) ?_
      exact W.zret (v := nI 1) hx hb hr (by decide) (fun U9 ht hW => ⟨⟨nI 1, (), rfl, sk_hasB_t c1 c9, trivial⟩, hS.F ht⟩) hS.2.2 dF_has_17
abbrev wzT_emptyOf : List Cond := .code yT_emptyOf cT_emptyOf 3 (some .int) :: sk_W
abbrev rzT_emptyOf : Room := { frames := 0, cells := 0, slots := 0, locals := 0 }
set_option maxHeartbeats 4000000 in
set_option maxRecDepth 100000 in
theorem kT_emptyOf (l : Launch) (dC : Nat → ClassId) (dI : Nat → Nat → Nat) (a : Nat → Nat) (k : Nat → ClassId) (b : sk_Ob) (t : sk_Tr) (f : sk_Fi) (wt : sk_F) (x : Int32) (hT : sk_TO b.1 t) : Met l yT_emptyOf wzT_emptyOf rzT_emptyOf (va_Pc [.ref (a 2), .int x] (sk_PX dC dI a k (b, t, f) wt)) (va_Qi (fun r (_ : Unit) => r = sk_em t x) (fun _ _ => True) (fun _ => False)) 0 0 (fun _ => False) := by
  refine Met.ofW (cc := cT_emptyOf) (maxL := 3) (ret := (some .int)) (by decide) rfl ?_
  intro p e s m args below meth c s₁ B hml hv
  obtain ⟨rfl, hP, hK, hN⟩ := hv
  have hx := B.exec
  have hb := B.bytes
  have hr := B.returns
  have hts : ∀ w ∈ sk_W, w.before ([.ref (a 2), .int x] : List Value).toArray s = true := fun w h => atoms_spec (ws := wzT_emptyOf) B.pre w (List.mem_cons_of_mem _ h)
  have hown : s.vm.findClass RT = some m.cls := findClass_of_methodNamed B.named
  have hlocks := B.notSynchronized
  have hS : va_S (fun _ => False) s.heap s.heap [] := va_S.rf
  have hP : va_P (dC, dI) vwCl (sk_wR a k (nI b.1) b.2.1 b.2.2.1 b.2.2.2.1 b.2.2.2.2 (nI t.1) t.2.1 t.2.2.1 t.2.2.2.1 t.2.2.2.2 (nI f.1) (nI (sk_there f)) (nI (f.1 % 100)) f.2.1 f.2.2.1 f.2.2.2.1 f.2.2.2.2.1 (fun i => lN (sk_nb (f.2.2.2.2.2.1 i))) (fun i => sk_bI (f.2.2.2.2.2.2 i)) wt) s.heap := hP
  have hl := lv_entry ([.ref (a 2), .int x]) (n := 3) (Nat.le_of_ble_eq_true rfl)
  rw [lg_entry_eq]
  generalize (lg_sl ([.ref (a 2), .int x]) ++ List.replicate (3 - (lg_sl ([.ref (a 2), .int x])).length) Slot.unset).toArray = ls at hl ⊢
  have hl : lv_has ls 3 [(0, .ref (a 2)), (1, .int x)] := hl
  have h200 : t.1 ≤ 200 := hT.2.1
  have h60 : b.1 ≤ 60 := hT.2.2.1
  refine lv_iconst (v := nI 0) hx hb dT_emptyOf_0 (by decide) ?_
  refine lv_istore_n (lv' := [(2, .int (nI 0)), (0, .ref (a 2)), (1, .int x)]) hx hb dT_emptyOf_1 rfl hl (by decide) rfl (fun ls hl => ?_)
  have loop1 : ∀ (nn : Nat) (i : Nat), i ≤ t.1 → sk_ff (fun i => (decide (t.2.2.1 i = -1) && decide (t.2.1 i = x))) (t.1 - i) i = sk_em t x → t.1 - i < nn → ∀ ls : Array Slot, lv_has ls 3 [(2, .int (nI i)), (0, .ref (a 2)), (1, .int x)] → W p l e (headSpec wzT_emptyOf rzT_emptyOf).room s m ([.ref (a 2), .int x] : List Value).toArray below meth c s.heap [] 0 0 (MQ below (va_Qi (fun r (_ : Unit) => r = sk_em t x) (fun _ _ => True) (fun _ => False)) ([.ref (a 2), .int x] : List Value).toArray s 0 0 (fun _ => False)) (F0 m 2 ls []) := by
    intro nn
    induction nn with
    | zero => intro i hi he hmu; exact absurd hmu (Nat.not_lt_zero _)
    | succ nn ih1 =>
      intro i hi he hmu ls hl
      refine lv_iload_n hx hb dT_emptyOf_2 rfl (lv_at hl 0 rfl) ?_
      refine lv_aload_n hx hb dT_emptyOf_3 rfl (lv_at hl 1 rfl) ?_
      refine va_get (D := (dC, dI)) (ci := 2) (v := .int (nI t.1)) (C := RT) (T := TT) (N := 5) hx hb hts inT hown hK hP 2 rfl rfl 4 (by decide) (hts _ wfT_24) (fun _ h9 => h9) rfl dT_emptyOf_4 ?_
      refine lv_icmp_ge (tgt := 38) hx hb dT_emptyOf_7 (by decide) (fun c7 => ?_) (fun c7 => ?_)
      · skip
        have n7 : t.1 ≤ i := (nI_leI (by omega) (by omega)).mp c7
        refine lv_iconst (v := (-1)) hx hb dT_emptyOf_38 (by decide) ?_
        exact W.iret (v := (-1)) hx hb hr (fun U9 ht hW => ⟨⟨(-1), (), rfl, sk_ff_end n7 he, trivial⟩, hS.F ht⟩) hS.2.2 dT_emptyOf_39
      · skip
        have n7 : ¬ t.1 ≤ i := fun q => c7 ((nI_leI (by omega) (by omega)).mpr q)
        refine lv_aload_n hx hb dT_emptyOf_10 rfl (lv_at hl 1 rfl) ?_
        refine va_get (D := (dC, dI)) (ci := 2) (v := .ref (a 10)) (C := RT) (T := TT) (N := 5) hx hb hts inT hown hK hP 2 rfl rfl 1 (by decide) (hts _ wfT_15) (fun _ h9 => h9) rfl dT_emptyOf_11 ?_
        refine lv_iload_n hx hb dT_emptyOf_14 rfl (lv_at hl 0 rfl) ?_
        refine va_iald hx hb hK hP 10 0 rfl rfl (vp_in_nI (show i < 200 by omega) (by decide)) dT_emptyOf_15 ?_
        refine lv_topi (fun x15 e15 => ?_)
        rw [nI_clamp (show i < 2 ^ 31 by omega)] at e15
        refine lv_iconst (v := (-1)) hx hb dT_emptyOf_16 (by decide) ?_
        refine lv_icmp_ne (tgt := 32) hx hb dT_emptyOf_17 (by decide) (fun c17 => ?_) (fun c17 => ?_)
        · skip
          refine lv_iinc (v := nI (i + 1)) (lv' := [(2, .int (nI (i + 1))), (0, .ref (a 2)), (1, .int x)]) hx hb dT_emptyOf_32 hl (k := 0) rfl (sk_inc _) (by decide) rfl (fun ls hl => ?_)
          refine lv_goto (tgt := 2) hx hb dT_emptyOf_35 (by decide) ?_
          exact ih1 (i + 1) (Nat.succ_le_of_lt (Nat.lt_of_not_le n7)) (sk_ff_miss (Nat.lt_of_not_le n7) he (by show (decide (t.2.2.1 i = -1) && decide (t.2.1 i = x)) = false; rw [← e15]; simp [c17])) (by omega) ls (lv_sub hl [0, 1, 2] rfl)
        · skip
          refine lv_aload_n hx hb dT_emptyOf_20 rfl (lv_at hl 1 rfl) ?_
          refine va_get (D := (dC, dI)) (ci := 2) (v := .ref (a 9)) (C := RT) (T := TT) (N := 5) hx hb hts inT hown hK hP 2 rfl rfl 0 (by decide) (hts _ wfT_9) (fun _ h9 => h9) rfl dT_emptyOf_21 ?_
          refine lv_iload_n hx hb dT_emptyOf_24 rfl (lv_at hl 0 rfl) ?_
          refine va_iald hx hb hK hP 9 0 rfl rfl (vp_in_nI (show i < 200 by omega) (by decide)) dT_emptyOf_25 ?_
          refine lv_topi (fun x25 e25 => ?_)
          rw [nI_clamp (show i < 2 ^ 31 by omega)] at e25
          refine lv_iload_n hx hb dT_emptyOf_26 rfl (lv_at hl 2 rfl) ?_
          refine lv_icmp_ne (tgt := 32) hx hb dT_emptyOf_27 (by decide) (fun c27 => ?_) (fun c27 => ?_)
          · skip
            refine lv_iinc (v := nI (i + 1)) (lv' := [(2, .int (nI (i + 1))), (0, .ref (a 2)), (1, .int x)]) hx hb dT_emptyOf_32 hl (k := 0) rfl (sk_inc _) (by decide) rfl (fun ls hl => ?_)
            refine lv_goto (tgt := 2) hx hb dT_emptyOf_35 (by decide) ?_
            exact ih1 (i + 1) (Nat.succ_le_of_lt (Nat.lt_of_not_le n7)) (sk_ff_miss (Nat.lt_of_not_le n7) he (by show (decide (t.2.2.1 i = -1) && decide (t.2.1 i = x)) = false; rw [← e25]; simp [c27])) (by omega) ls (lv_sub hl [0, 1, 2] rfl)
          · skip
            refine lv_iload_n hx hb dT_emptyOf_30 rfl (lv_at hl 0 rfl) ?_
            exact W.iret (v := nI i) hx hb hr (fun U9 ht hW => ⟨⟨nI i, (), rfl, sk_ff_hit (Nat.lt_of_not_le n7) he (by show (decide (t.2.2.1 i = -1) && decide (t.2.1 i = x)) = true; rw [← e15, ← e25]; simp [c17, c27]), trivial⟩, hS.F ht⟩) hS.2.2 dT_emptyOf_31
  exact loop1 (t.1 - 0 + 1) 0 (Nat.zero_le _) (rfl) (Nat.lt_succ_self _) ls (lv_sub hl [0, 1, 2] rfl)
abbrev wzT_withName : List Cond := .code yT_withName cT_withName 4 (some .int) :: sk_W
abbrev rzT_withName : Room := { frames := 0, cells := 0, slots := 0, locals := 0 }
set_option maxHeartbeats 4000000 in
set_option maxRecDepth 100000 in
theorem kT_withName (l : Launch) (dC : Nat → ClassId) (dI : Nat → Nat → Nat) (a : Nat → Nat) (k : Nat → ClassId) (b : sk_Ob) (t : sk_Tr) (f : sk_Fi) (wt : sk_F) (si : Nat) (x : Int32) (hT : sk_TO b.1 t) (hs : si < t.1) : Met l yT_withName wzT_withName rzT_withName (va_Pc [.ref (a 2), .int (nI si), .int x] (sk_PX dC dI a k (b, t, f) wt)) (va_Qi (fun r (_ : Unit) => r = sk_wn t si x) (fun _ _ => True) (fun _ => False)) 0 0 (fun _ => False) := by
  refine Met.ofW (cc := cT_withName) (maxL := 4) (ret := (some .int)) (by decide) rfl ?_
  intro p e s m args below meth c s₁ B hml hv
  obtain ⟨rfl, hP, hK, hN⟩ := hv
  have hx := B.exec
  have hb := B.bytes
  have hr := B.returns
  have hts : ∀ w ∈ sk_W, w.before ([.ref (a 2), .int (nI si), .int x] : List Value).toArray s = true := fun w h => atoms_spec (ws := wzT_withName) B.pre w (List.mem_cons_of_mem _ h)
  have hown : s.vm.findClass RT = some m.cls := findClass_of_methodNamed B.named
  have hlocks := B.notSynchronized
  have hS : va_S (fun _ => False) s.heap s.heap [] := va_S.rf
  have hP : va_P (dC, dI) vwCl (sk_wR a k (nI b.1) b.2.1 b.2.2.1 b.2.2.2.1 b.2.2.2.2 (nI t.1) t.2.1 t.2.2.1 t.2.2.2.1 t.2.2.2.2 (nI f.1) (nI (sk_there f)) (nI (f.1 % 100)) f.2.1 f.2.2.1 f.2.2.2.1 f.2.2.2.2.1 (fun i => lN (sk_nb (f.2.2.2.2.2.1 i))) (fun i => sk_bI (f.2.2.2.2.2.2 i)) wt) s.heap := hP
  have hl := lv_entry ([.ref (a 2), .int (nI si), .int x]) (n := 4) (Nat.le_of_ble_eq_true rfl)
  rw [lg_entry_eq]
  generalize (lg_sl ([.ref (a 2), .int (nI si), .int x]) ++ List.replicate (4 - (lg_sl ([.ref (a 2), .int (nI si), .int x])).length) Slot.unset).toArray = ls at hl ⊢
  have hl : lv_has ls 4 [(0, .ref (a 2)), (1, .int (nI si)), (2, .int x)] := hl
  have h200 : t.1 ≤ 200 := hT.2.1
  have h60 : b.1 ≤ 60 := hT.2.2.1
  refine lv_iload_n hx hb dT_withName_0 rfl (lv_at hl 1 rfl) ?_
  refine lv_iconst (v := nI 1) hx hb dT_withName_1 (by decide) ?_
  refine lv_iadd hx hb dT_withName_2 ?_
  refine lv_topi (fun x2 e2 => ?_)
  obtain rfl : x2 = nI (si + 1) := e2.trans (nI_add _ _)
  refine lv_istore_n (lv' := [(3, .int (nI (si + 1))), (0, .ref (a 2)), (1, .int (nI si)), (2, .int x)]) hx hb dT_withName_3 rfl hl (by decide) rfl (fun ls hl => ?_)
  have loop1 : ∀ (nn : Nat) (i : Nat), si + 1 ≤ i → i ≤ t.1 → sk_ff (fun i => (decide (t.2.2.1 i = nI si) && decide (t.2.2.2.1 i = x))) (t.1 - i) i = sk_wn t si x → t.1 - i < nn → ∀ ls : Array Slot, lv_has ls 4 [(3, .int (nI i)), (0, .ref (a 2)), (1, .int (nI si)), (2, .int x)] → W p l e (headSpec wzT_withName rzT_withName).room s m ([.ref (a 2), .int (nI si), .int x] : List Value).toArray below meth c s.heap [] 0 0 (MQ below (va_Qi (fun r (_ : Unit) => r = sk_wn t si x) (fun _ _ => True) (fun _ => False)) ([.ref (a 2), .int (nI si), .int x] : List Value).toArray s 0 0 (fun _ => False)) (F0 m 4 ls []) := by
    intro nn
    induction nn with
    | zero => intro i hi0 hi he hmu; exact absurd hmu (Nat.not_lt_zero _)
    | succ nn ih1 =>
      intro i hi0 hi he hmu ls hl
      refine lv_iload_n hx hb dT_withName_4 rfl (lv_at hl 0 rfl) ?_
      refine lv_aload_n hx hb dT_withName_5 rfl (lv_at hl 1 rfl) ?_
      refine va_get (D := (dC, dI)) (ci := 2) (v := .int (nI t.1)) (C := RT) (T := TT) (N := 5) hx hb hts inT hown hK hP 2 rfl rfl 4 (by decide) (hts _ wfT_24) (fun _ h9 => h9) rfl dT_withName_6 ?_
      refine lv_icmp_ge (tgt := 40) hx hb dT_withName_9 (by decide) (fun c9 => ?_) (fun c9 => ?_)
      · skip
        have n9 : t.1 ≤ i := (nI_leI (by omega) (by omega)).mp c9
        refine lv_iconst (v := (-1)) hx hb dT_withName_40 (by decide) ?_
        exact W.iret (v := (-1)) hx hb hr (fun U9 ht hW => ⟨⟨(-1), (), rfl, sk_ff_end n9 he, trivial⟩, hS.F ht⟩) hS.2.2 dT_withName_41
      · skip
        have n9 : ¬ t.1 ≤ i := fun q => c9 ((nI_leI (by omega) (by omega)).mpr q)
        refine lv_aload_n hx hb dT_withName_12 rfl (lv_at hl 1 rfl) ?_
        refine va_get (D := (dC, dI)) (ci := 2) (v := .ref (a 10)) (C := RT) (T := TT) (N := 5) hx hb hts inT hown hK hP 2 rfl rfl 1 (by decide) (hts _ wfT_15) (fun _ h9 => h9) rfl dT_withName_13 ?_
        refine lv_iload_n hx hb dT_withName_16 rfl (lv_at hl 0 rfl) ?_
        refine va_iald hx hb hK hP 10 0 rfl rfl (vp_in_nI (show i < 200 by omega) (by decide)) dT_withName_17 ?_
        refine lv_topi (fun x17 e17 => ?_)
        rw [nI_clamp (show i < 2 ^ 31 by omega)] at e17
        refine lv_iload_n hx hb dT_withName_18 rfl (lv_at hl 2 rfl) ?_
        refine lv_icmp_ne (tgt := 34) hx hb dT_withName_19 (by decide) (fun c19 => ?_) (fun c19 => ?_)
        · skip
          refine lv_iinc (v := nI (i + 1)) (lv' := [(3, .int (nI (i + 1))), (0, .ref (a 2)), (1, .int (nI si)), (2, .int x)]) hx hb dT_withName_34 hl (k := 0) rfl (sk_inc _) (by decide) rfl (fun ls hl => ?_)
          refine lv_goto (tgt := 4) hx hb dT_withName_37 (by decide) ?_
          exact ih1 (i + 1) (by omega) (Nat.succ_le_of_lt (Nat.lt_of_not_le n9)) (sk_ff_miss (Nat.lt_of_not_le n9) he (by show (decide (t.2.2.1 i = nI si) && decide (t.2.2.2.1 i = x)) = false; rw [← e17]; simp [c19])) (by omega) ls (lv_sub hl [0, 1, 2, 3] rfl)
        · skip
          refine lv_aload_n hx hb dT_withName_22 rfl (lv_at hl 1 rfl) ?_
          refine va_get (D := (dC, dI)) (ci := 2) (v := .ref (a 11)) (C := RT) (T := TT) (N := 5) hx hb hts inT hown hK hP 2 rfl rfl 2 (by decide) (hts _ wfT_18) (fun _ h9 => h9) rfl dT_withName_23 ?_
          refine lv_iload_n hx hb dT_withName_26 rfl (lv_at hl 0 rfl) ?_
          refine va_iald hx hb hK hP 11 0 rfl rfl (vp_in_nI (show i < 200 by omega) (by decide)) dT_withName_27 ?_
          refine lv_topi (fun x27 e27 => ?_)
          rw [nI_clamp (show i < 2 ^ 31 by omega)] at e27
          refine lv_iload_n hx hb dT_withName_28 rfl (lv_at hl 3 rfl) ?_
          refine lv_icmp_ne (tgt := 34) hx hb dT_withName_29 (by decide) (fun c29 => ?_) (fun c29 => ?_)
          · skip
            refine lv_iinc (v := nI (i + 1)) (lv' := [(3, .int (nI (i + 1))), (0, .ref (a 2)), (1, .int (nI si)), (2, .int x)]) hx hb dT_withName_34 hl (k := 0) rfl (sk_inc _) (by decide) rfl (fun ls hl => ?_)
            refine lv_goto (tgt := 4) hx hb dT_withName_37 (by decide) ?_
            exact ih1 (i + 1) (by omega) (Nat.succ_le_of_lt (Nat.lt_of_not_le n9)) (sk_ff_miss (Nat.lt_of_not_le n9) he (by show (decide (t.2.2.1 i = nI si) && decide (t.2.2.2.1 i = x)) = false; rw [← e27]; simp [c29])) (by omega) ls (lv_sub hl [0, 1, 2, 3] rfl)
          · skip
            refine lv_iload_n hx hb dT_withName_32 rfl (lv_at hl 0 rfl) ?_
            exact W.iret (v := nI i) hx hb hr (fun U9 ht hW => ⟨⟨nI i, (), rfl, sk_ff_hit (Nat.lt_of_not_le n9) he (by show (decide (t.2.2.1 i = nI si) && decide (t.2.2.2.1 i = x)) = true; rw [← e17, ← e27]; simp [c19, c29]), trivial⟩, hS.F ht⟩) hS.2.2 dT_withName_33
  exact loop1 (t.1 - (si + 1) + 1) (si + 1) (Nat.le_refl _) (hs) (rfl) (Nat.lt_succ_self _) ls (lv_sub hl [0, 1, 2, 3] rfl)
abbrev wzT_placeOf : List Cond := .code yT_placeOf cT_placeOf 5 (some .int) :: sk_W
abbrev rzT_placeOf : Room := { frames := 0, cells := 0, slots := 0, locals := 0 }
set_option maxHeartbeats 4000000 in
set_option maxRecDepth 100000 in
theorem kT_placeOf (l : Launch) (dC : Nat → ClassId) (dI : Nat → Nat → Nat) (a : Nat → Nat) (k : Nat → ClassId) (b : sk_Ob) (t : sk_Tr) (f : sk_Fi) (wt : sk_F) (si : Nat) (x : Int32) (hT : sk_TO b.1 t) (hs : si < t.1) : Met l yT_placeOf wzT_placeOf rzT_placeOf (va_Pc [.ref (a 2), .int (nI si), .int x] (sk_PX dC dI a k (b, t, f) wt)) (va_Qi (fun r (_ : Unit) => r = sk_place t x si) (fun _ _ => True) (fun _ => False)) 0 0 (fun _ => False) := by
  refine Met.ofW (cc := cT_placeOf) (maxL := 5) (ret := (some .int)) (by decide) rfl ?_
  intro p e s m args below meth c s₁ B hml hv
  obtain ⟨rfl, hP, hK, hN⟩ := hv
  have hx := B.exec
  have hb := B.bytes
  have hr := B.returns
  have hts : ∀ w ∈ sk_W, w.before ([.ref (a 2), .int (nI si), .int x] : List Value).toArray s = true := fun w h => atoms_spec (ws := wzT_placeOf) B.pre w (List.mem_cons_of_mem _ h)
  have hown : s.vm.findClass RT = some m.cls := findClass_of_methodNamed B.named
  have hlocks := B.notSynchronized
  have hS : va_S (fun _ => False) s.heap s.heap [] := va_S.rf
  have hP : va_P (dC, dI) vwCl (sk_wR a k (nI b.1) b.2.1 b.2.2.1 b.2.2.2.1 b.2.2.2.2 (nI t.1) t.2.1 t.2.2.1 t.2.2.2.1 t.2.2.2.2 (nI f.1) (nI (sk_there f)) (nI (f.1 % 100)) f.2.1 f.2.2.1 f.2.2.2.1 f.2.2.2.2.1 (fun i => lN (sk_nb (f.2.2.2.2.2.1 i))) (fun i => sk_bI (f.2.2.2.2.2.2 i)) wt) s.heap := hP
  have hl := lv_entry ([.ref (a 2), .int (nI si), .int x]) (n := 5) (Nat.le_of_ble_eq_true rfl)
  rw [lg_entry_eq]
  generalize (lg_sl ([.ref (a 2), .int (nI si), .int x]) ++ List.replicate (5 - (lg_sl ([.ref (a 2), .int (nI si), .int x])).length) Slot.unset).toArray = ls at hl ⊢
  have hl : lv_has ls 5 [(0, .ref (a 2)), (1, .int (nI si)), (2, .int x)] := hl
  have h200 : t.1 ≤ 200 := hT.2.1
  have h60 : b.1 ≤ 60 := hT.2.2.1
  obtain ⟨g, hg, hle, hlen⟩ := sk_lenOk hT hs
  refine lv_iload_n hx hb dT_placeOf_0 rfl (lv_at hl 1 rfl) ?_
  refine lv_istore_n (lv' := [(3, .int (nI si)), (0, .ref (a 2)), (1, .int (nI si)), (2, .int x)]) hx hb dT_placeOf_1 rfl hl (by decide) rfl (fun ls hl => ?_)
  refine lv_aload_n hx hb dT_placeOf_2 rfl (lv_at hl 1 rfl) ?_
  refine va_get (D := (dC, dI)) (ci := 2) (v := .ref (a 12)) (C := RT) (T := TT) (N := 5) hx hb hts inT hown hK hP 2 rfl rfl 3 (by decide) (hts _ wfT_21) (fun _ h9 => h9) rfl dT_placeOf_3 ?_
  refine lv_iload_n hx hb dT_placeOf_6 rfl (lv_at hl 2 rfl) ?_
  refine va_iald hx hb hK hP 12 0 rfl rfl (vp_in_nI (show si < 200 by omega) (by decide)) dT_placeOf_7 ?_
  refine lv_topi (fun x7 e7 => ?_)
  rw [nI_clamp (show si < 2 ^ 31 by omega)] at e7
  obtain rfl : x7 = nI g := e7.trans (hle)
  refine lv_iconst (v := nI 1) hx hb dT_placeOf_8 (by decide) ?_
  refine lv_isub hx hb dT_placeOf_9 ?_
  refine lv_topi (fun x9 e9 => ?_)
  obtain rfl : x9 = nI g - nI 1 := e9.trans (rfl)
  refine lv_istore (lv' := [(4, .int (nI g - nI 1)), (3, .int (nI si)), (0, .ref (a 2)), (1, .int (nI si)), (2, .int x)]) hx hb dT_placeOf_10 hl (by decide) rfl (fun ls hl => ?_)
  have loop1 : ∀ (nn : Nat) (kk q : Nat), kk ≤ 12 → (0 < kk → q < t.1 ∧ sk_len t q = kk) → sk_pl t x kk q = sk_place t x si → kk < nn → ∀ ls : Array Slot, lv_has ls 5 [(4, .int (nI kk - nI 1)), (3, .int (nI q)), (0, .ref (a 2)), (1, .int (nI si)), (2, .int x)] → W p l e (headSpec wzT_placeOf rzT_placeOf).room s m ([.ref (a 2), .int (nI si), .int x] : List Value).toArray below meth c s.heap [] 0 0 (MQ below (va_Qi (fun r (_ : Unit) => r = sk_place t x si) (fun _ _ => True) (fun _ => False)) ([.ref (a 2), .int (nI si), .int x] : List Value).toArray s 0 0 (fun _ => False)) (F0 m 12 ls []) := by
    intro nn
    induction nn with
    | zero => intro kk q hkk hq he hmu; exact absurd hmu (Nat.not_lt_zero _)
    | succ nn ih1 =>
      intro kk q hkk hq he hmu ls hl
      refine lv_iload hx hb dT_placeOf_12 (lv_at hl 0 rfl) ?_
      refine lv_if_lt (tgt := 43) hx hb dT_placeOf_14 (by decide) (fun c14 => ?_) (fun c14 => ?_)
      · skip
        have hk0 : kk = 0 := sk_pd0 hkk c14
        refine lv_iconst (v := (-1)) hx hb dT_placeOf_43 (by decide) ?_
        exact W.iret (v := (-1)) hx hb hr (fun U9 ht hW => ⟨⟨(-1), (), rfl, by rw [← he, hk0]; rfl, trivial⟩, hS.F ht⟩) hS.2.2 dT_placeOf_44
      · skip
        have hk1 : 0 < kk := sk_pd1 c14
        obtain ⟨hq1, hq2⟩ := hq hk1
        obtain ⟨j, hj, hog, hlj⟩ := sk_parent hT hq1 hq2 hk1
        refine lv_aload_n hx hb dT_placeOf_17 rfl (lv_at hl 2 rfl) ?_
        refine va_get (D := (dC, dI)) (ci := 2) (v := .ref (a 11)) (C := RT) (T := TT) (N := 5) hx hb hts inT hown hK hP 2 rfl rfl 2 (by decide) (hts _ wfT_18) (fun _ h9 => h9) rfl dT_placeOf_18 ?_
        refine lv_iload_n hx hb dT_placeOf_21 rfl (lv_at hl 1 rfl) ?_
        refine va_iald hx hb hK hP 11 0 rfl rfl (vp_in_nI (show q < 200 by omega) (by decide)) dT_placeOf_22 ?_
        refine lv_topi (fun x22 e22 => ?_)
        rw [nI_clamp (show q < 2 ^ 31 by omega)] at e22
        refine lv_iload_n hx hb dT_placeOf_23 rfl (lv_at hl 4 rfl) ?_
        refine lv_icmp_ne (tgt := 30) hx hb dT_placeOf_24 (by decide) (fun c24 => ?_) (fun c24 => ?_)
        · skip
          refine lv_aload_n hx hb dT_placeOf_30 rfl (lv_at hl 2 rfl) ?_
          refine va_get (D := (dC, dI)) (ci := 2) (v := .ref (a 10)) (C := RT) (T := TT) (N := 5) hx hb hts inT hown hK hP 2 rfl rfl 1 (by decide) (hts _ wfT_15) (fun _ h9 => h9) rfl dT_placeOf_31 ?_
          refine lv_iload_n hx hb dT_placeOf_34 rfl (lv_at hl 1 rfl) ?_
          refine va_iald hx hb hK hP 10 0 rfl rfl (vp_in_nI (show q < 200 by omega) (by decide)) dT_placeOf_35 ?_
          refine lv_topi (fun x35 e35 => ?_)
          rw [nI_clamp (show q < 2 ^ 31 by omega)] at e35
          obtain rfl : x35 = nI j := e35.trans (hog)
          refine lv_istore_n (lv' := [(3, .int (nI j)), (4, .int (nI kk - nI 1)), (0, .ref (a 2)), (1, .int (nI si)), (2, .int x)]) hx hb dT_placeOf_36 rfl hl (by decide) rfl (fun ls hl => ?_)
          refine lv_iinc (v := nI (kk - 1) - nI 1) (lv' := [(4, .int (nI (kk - 1) - nI 1)), (3, .int (nI j)), (0, .ref (a 2)), (1, .int (nI si)), (2, .int x)]) hx hb dT_placeOf_37 hl (k := 1) rfl (sk_pdec hk1) (by decide) rfl (fun ls hl => ?_)
          refine lv_goto (tgt := 12) hx hb dT_placeOf_40 (by decide) ?_
          exact ih1 (kk - 1) j (by omega) (fun _ => ⟨by omega, hlj⟩) (sk_pl_miss hk1 he (by rw [← e22]; exact c24) (by omega) hog) (by omega) ls (lv_sub hl [0, 1, 2, 3, 4] rfl)
        · skip
          refine lv_iload hx hb dT_placeOf_27 (lv_at hl 0 rfl) ?_
          exact W.iret (v := nI kk - nI 1) hx hb hr (fun U9 ht hW => ⟨⟨nI kk - nI 1, (), rfl, sk_pl_hit hk1 he (by rw [← e22]; exact c24), trivial⟩, hS.F ht⟩) hS.2.2 dT_placeOf_29
  exact loop1 (g + 1) g si (hg) (fun _ => ⟨hs, hlen⟩) (by unfold sk_place; rw [hlen]) (Nat.lt_succ_self _) ls (lv_sub hl [0, 1, 2, 3, 4] rfl)
abbrev wzT_nameAt : List Cond := .code yT_nameAt cT_nameAt 6 (some .int) :: sk_W
abbrev rzT_nameAt : Room := { frames := 0, cells := 0, slots := 0, locals := 0 }
set_option maxHeartbeats 4000000 in
set_option maxRecDepth 100000 in
theorem kT_nameAt (l : Launch) (dC : Nat → ClassId) (dI : Nat → Nat → Nat) (a : Nat → Nat) (k : Nat → ClassId) (b : sk_Ob) (t : sk_Tr) (f : sk_Fi) (wt : sk_F) (si : Nat) (x : Int32) (hT : sk_TO b.1 t) (hs : si < t.1) : Met l yT_nameAt wzT_nameAt rzT_nameAt (va_Pc [.ref (a 2), .int (nI si), .int x] (sk_PX dC dI a k (b, t, f) wt)) (va_Qi (fun r (_ : Unit) => r = if sk_hasB (sk_len t si) x = true then sk_nm t si x.toNatClampNeg else -1) (fun _ _ => True) (fun _ => False)) 0 0 (fun _ => False) := by
  refine Met.ofW (cc := cT_nameAt) (maxL := 6) (ret := (some .int)) (by decide) rfl ?_
  intro p e s m args below meth c s₁ B hml hv
  obtain ⟨rfl, hP, hK, hN⟩ := hv
  have hx := B.exec
  have hb := B.bytes
  have hr := B.returns
  have hts : ∀ w ∈ sk_W, w.before ([.ref (a 2), .int (nI si), .int x] : List Value).toArray s = true := fun w h => atoms_spec (ws := wzT_nameAt) B.pre w (List.mem_cons_of_mem _ h)
  have hown : s.vm.findClass RT = some m.cls := findClass_of_methodNamed B.named
  have hlocks := B.notSynchronized
  have hS : va_S (fun _ => False) s.heap s.heap [] := va_S.rf
  have hP : va_P (dC, dI) vwCl (sk_wR a k (nI b.1) b.2.1 b.2.2.1 b.2.2.2.1 b.2.2.2.2 (nI t.1) t.2.1 t.2.2.1 t.2.2.2.1 t.2.2.2.2 (nI f.1) (nI (sk_there f)) (nI (f.1 % 100)) f.2.1 f.2.2.1 f.2.2.2.1 f.2.2.2.2.1 (fun i => lN (sk_nb (f.2.2.2.2.2.1 i))) (fun i => sk_bI (f.2.2.2.2.2.2 i)) wt) s.heap := hP
  have hl := lv_entry ([.ref (a 2), .int (nI si), .int x]) (n := 6) (Nat.le_of_ble_eq_true rfl)
  rw [lg_entry_eq]
  generalize (lg_sl ([.ref (a 2), .int (nI si), .int x]) ++ List.replicate (6 - (lg_sl ([.ref (a 2), .int (nI si), .int x])).length) Slot.unset).toArray = ls at hl ⊢
  have hl : lv_has ls 6 [(0, .ref (a 2)), (1, .int (nI si)), (2, .int x)] := hl
  have h200 : t.1 ≤ 200 := hT.2.1
  have h60 : b.1 ≤ 60 := hT.2.2.1
  obtain ⟨g, hg, hle, hlen⟩ := sk_lenOk hT hs
  refine lv_aload_n hx hb dT_nameAt_0 rfl (lv_at hl 0 rfl) ?_
  refine va_get (D := (dC, dI)) (ci := 2) (v := .ref (a 12)) (C := RT) (T := TT) (N := 5) hx hb hts inT hown hK hP 2 rfl rfl 3 (by decide) (hts _ wfT_21) (fun _ h9 => h9) rfl dT_nameAt_1 ?_
  refine lv_iload_n hx hb dT_nameAt_4 rfl (lv_at hl 1 rfl) ?_
  refine va_iald hx hb hK hP 12 0 rfl rfl (vp_in_nI (show si < 200 by omega) (by decide)) dT_nameAt_5 ?_
  refine lv_topi (fun x5 e5 => ?_)
  rw [nI_clamp (show si < 2 ^ 31 by omega)] at e5
  obtain rfl : x5 = nI g := e5.trans (hle)
  refine lv_iconst (v := nI 1) hx hb dT_nameAt_6 (by decide) ?_
  refine lv_isub hx hb dT_nameAt_7 ?_
  refine lv_topi (fun x7 e7 => ?_)
  obtain rfl : x7 = nI g - nI 1 := e7.trans (rfl)
  refine lv_istore_n (lv' := [(3, .int (nI g - nI 1)), (0, .ref (a 2)), (1, .int (nI si)), (2, .int x)]) hx hb dT_nameAt_8 rfl hl (by decide) rfl (fun ls hl => ?_)
  refine lv_iload_n hx hb dT_nameAt_9 rfl (lv_at hl 3 rfl) ?_
  refine lv_if_lt (tgt := 18) hx hb dT_nameAt_10 (by decide) (fun c10 => ?_) (fun c10 => ?_)
  · skip
    refine lv_iconst (v := (-1)) hx hb dT_nameAt_18 (by decide) ?_
    exact W.iret (v := (-1)) hx hb hr (fun U9 ht hW => ⟨⟨(-1), (), rfl, (if_neg (by rw [hlen]; intro q; have q2 := sk_hasB_f1 (n := g) c10; rw [q] at q2; exact absurd q2 (by decide))).symm, trivial⟩, hS.F ht⟩) hS.2.2 dT_nameAt_19
  · skip
    refine lv_iload_n hx hb dT_nameAt_13 rfl (lv_at hl 3 rfl) ?_
    refine lv_iload_n hx hb dT_nameAt_14 rfl (lv_at hl 0 rfl) ?_
    refine lv_icmp_le (tgt := 20) hx hb dT_nameAt_15 (by decide) (fun c15 => ?_) (fun c15 => ?_)
    · skip
      obtain ⟨kp, hkp, ekp⟩ := sk_plin hg c10 c15
      rw [show nI g - nI 1 = nI (g - 1) from pk_sub (by omega), ekp] at hl
      refine lv_iload_n hx hb dT_nameAt_20 rfl (lv_at hl 2 rfl) ?_
      refine lv_istore (lv' := [(4, .int (nI si)), (3, .int (nI (g - 1))), (0, .ref (a 2)), (1, .int (nI si)), (2, .int (nI kp))]) hx hb dT_nameAt_21 hl (by decide) rfl (fun ls hl => ?_)
      refine lv_iload_n hx hb dT_nameAt_23 rfl (lv_at hl 1 rfl) ?_
      refine lv_istore (lv' := [(5, .int (nI (g - 1))), (4, .int (nI si)), (3, .int (nI (g - 1))), (0, .ref (a 2)), (1, .int (nI si)), (2, .int (nI kp))]) hx hb dT_nameAt_24 hl (by decide) rfl (fun ls hl => ?_)
      have loop1 : ∀ (nn : Nat) (ii q : Nat), kp ≤ ii → ii < g → q < t.1 → sk_len t q = ii + 1 → t.2.2.2.1 (sk_up t (ii - kp) q) = sk_nm t si kp → ii - kp < nn → ∀ ls : Array Slot, lv_has ls 6 [(5, .int (nI ii)), (4, .int (nI q)), (0, .ref (a 2)), (1, .int (nI si)), (2, .int (nI kp)), (3, .int (nI (g - 1)))] → W p l e (headSpec wzT_nameAt rzT_nameAt).room s m ([.ref (a 2), .int (nI si), .int x] : List Value).toArray below meth c s.heap [] 0 0 (MQ below (va_Qi (fun r (_ : Unit) => r = if sk_hasB (sk_len t si) x = true then sk_nm t si x.toNatClampNeg else -1) (fun _ _ => True) (fun _ => False)) ([.ref (a 2), .int (nI si), .int x] : List Value).toArray s 0 0 (fun _ => False)) (F0 m 26 ls []) := by
        intro nn
        induction nn with
        | zero => intro ii q hii hig hq hlq hu hmu; exact absurd hmu (Nat.not_lt_zero _)
        | succ nn ih1 =>
          intro ii q hii hig hq hlq hu hmu ls hl
          refine lv_iload hx hb dT_nameAt_26 (lv_at hl 0 rfl) ?_
          refine lv_iload_n hx hb dT_nameAt_28 rfl (lv_at hl 4 rfl) ?_
          refine lv_icmp_le (tgt := 47) hx hb dT_nameAt_29 (by decide) (fun c29 => ?_) (fun c29 => ?_)
          · skip
            have n29 : ii ≤ kp := (nI_leI (by omega) (by omega)).mp c29
            refine lv_aload_n hx hb dT_nameAt_47 rfl (lv_at hl 2 rfl) ?_
            refine va_get (D := (dC, dI)) (ci := 2) (v := .ref (a 11)) (C := RT) (T := TT) (N := 5) hx hb hts inT hown hK hP 2 rfl rfl 2 (by decide) (hts _ wfT_18) (fun _ h9 => h9) rfl dT_nameAt_48 ?_
            refine lv_iload hx hb dT_nameAt_51 (lv_at hl 1 rfl) ?_
            refine va_iald hx hb hK hP 11 0 rfl rfl (vp_in_nI (show q < 200 by omega) (by decide)) dT_nameAt_53 ?_
            refine lv_topi (fun x53 e53 => ?_)
            rw [nI_clamp (show q < 2 ^ 31 by omega)] at e53
            exact W.iret (v := x53) hx hb hr (fun U9 ht hW => ⟨⟨x53, (), rfl, by rw [if_pos (by rw [hlen, ekp]; exact sk_hasB_nI (by omega) hkp), e53, ekp, nI_clamp (by omega), ← hu, show ii - kp = 0 by omega]; rfl, trivial⟩, hS.F ht⟩) hS.2.2 dT_nameAt_54
          · skip
            have n29 : ¬ ii ≤ kp := fun q => c29 ((nI_leI (by omega) (by omega)).mpr q)
            obtain ⟨j, hj, hog, hlj⟩ := sk_parent hT hq hlq (Nat.succ_pos ii)
            refine lv_aload_n hx hb dT_nameAt_32 rfl (lv_at hl 2 rfl) ?_
            refine va_get (D := (dC, dI)) (ci := 2) (v := .ref (a 10)) (C := RT) (T := TT) (N := 5) hx hb hts inT hown hK hP 2 rfl rfl 1 (by decide) (hts _ wfT_15) (fun _ h9 => h9) rfl dT_nameAt_33 ?_
            refine lv_iload hx hb dT_nameAt_36 (lv_at hl 1 rfl) ?_
            refine va_iald hx hb hK hP 10 0 rfl rfl (vp_in_nI (show q < 200 by omega) (by decide)) dT_nameAt_38 ?_
            refine lv_topi (fun x38 e38 => ?_)
            rw [nI_clamp (show q < 2 ^ 31 by omega)] at e38
            obtain rfl : x38 = nI j := e38.trans (hog)
            refine lv_istore (lv' := [(4, .int (nI j)), (5, .int (nI ii)), (0, .ref (a 2)), (1, .int (nI si)), (2, .int (nI kp)), (3, .int (nI (g - 1)))]) hx hb dT_nameAt_39 hl (by decide) rfl (fun ls hl => ?_)
            refine lv_iinc (v := nI (ii - 1)) (lv' := [(5, .int (nI (ii - 1))), (4, .int (nI j)), (0, .ref (a 2)), (1, .int (nI si)), (2, .int (nI kp)), (3, .int (nI (g - 1)))]) hx hb dT_nameAt_41 hl (k := 1) rfl (by rw [show ii = (ii - 1) + 1 by omega]; exact pk_m1 _) (by decide) rfl (fun ls hl => ?_)
            refine lv_goto (tgt := 26) hx hb dT_nameAt_44 (by decide) ?_
            exact ih1 (ii - 1) j (by omega) (by omega) (by omega) (by omega) (by rw [← hu, show ii - kp = (ii - 1 - kp) + 1 by omega]; show _ = t.2.2.2.1 (sk_up t (ii - 1 - kp) (t.2.2.1 q).toNatClampNeg); rw [hog, nI_clamp (by omega)]) (by omega) ls (lv_sub hl [0, 1, 2, 3, 4, 5] rfl)
      exact loop1 (g - 1 - kp + 1) (g - 1) si (by omega) (by omega) (hs) (by omega) (by unfold sk_nm; rw [hlen]) (Nat.lt_succ_self _) ls (lv_sub hl [0, 1, 3, 4, 5, 2] rfl)
    · skip
      refine lv_iconst (v := (-1)) hx hb dT_nameAt_18 (by decide) ?_
      exact W.iret (v := (-1)) hx hb hr (fun U9 ht hW => ⟨⟨(-1), (), rfl, (if_neg (by rw [hlen]; intro q; have q2 := sk_hasB_f2 (n := g) (sk_plout hg c15); rw [q] at q2; exact absurd q2 (by decide))).symm, trivial⟩, hS.F ht⟩) hS.2.2 dT_nameAt_19
end
section
abbrev wzT_make : List Cond := .code yT_make cT_make 6 (some .int) :: sk_W
abbrev rzT_make : Room := { frames := 0, cells := 0, slots := 0, locals := 0 }
set_option maxHeartbeats 4000000 in
set_option maxRecDepth 100000 in
theorem kT_make (l : Launch) (dC : Nat → ClassId) (dI : Nat → Nat → Nat) (a : Nat → Nat) (k : Nat → ClassId) (b : sk_Ob) (t : sk_Tr) (f : sk_Fi) (wt : sk_F) (A : Nat → Prop) (x1 x2 x3 x4 : Int32) (hn : t.1 < 200) : Met l yT_make wzT_make rzT_make (va_Pc [.ref (a 2), .int x1, .int x2, .int x3, .int x4] (fun U => sk_PX dC dI a k (b, t, f) wt U ∧ va_D A (sk_wX a k (b, t, f) wt))) (va_Qi (fun r (u : sk_S × sk_F) => r = nI t.1 ∧ u = ((b, sk_make t x1 x2 x3 x4, f), wt)) (fun u U => va_P (dC, dI) vwCl (sk_wX a k u.1 u.2) U.heap ∧ va_D A (sk_wX a k u.1 u.2)) A) 0 0 A := by
  refine Met.ofW (cc := cT_make) (maxL := 6) (ret := (some .int)) (by decide) rfl ?_
  intro p e s m args below meth c s₁ B hml hv
  obtain ⟨rfl, ⟨hP, hK, hN⟩, hD⟩ := hv
  have hx := B.exec
  have hb := B.bytes
  have hr := B.returns
  have hts : ∀ w ∈ sk_W, w.before ([.ref (a 2), .int x1, .int x2, .int x3, .int x4] : List Value).toArray s = true := fun w h => atoms_spec (ws := wzT_make) B.pre w (List.mem_cons_of_mem _ h)
  have hown : s.vm.findClass RT = some m.cls := findClass_of_methodNamed B.named
  have hlocks := B.notSynchronized
  have hS : va_S A s.heap s.heap [] := va_S.rf
  have hP : va_P (dC, dI) vwCl (sk_wR a k (nI b.1) b.2.1 b.2.2.1 b.2.2.2.1 b.2.2.2.2 (nI t.1) t.2.1 t.2.2.1 t.2.2.2.1 t.2.2.2.2 (nI f.1) (nI (sk_there f)) (nI (f.1 % 100)) f.2.1 f.2.2.1 f.2.2.2.1 f.2.2.2.2.1 (fun i => lN (sk_nb (f.2.2.2.2.2.1 i))) (fun i => sk_bI (f.2.2.2.2.2.2 i)) wt) s.heap := hP
  have hD : va_D A (sk_wR a k (nI b.1) b.2.1 b.2.2.1 b.2.2.2.1 b.2.2.2.2 (nI t.1) t.2.1 t.2.2.1 t.2.2.2.1 t.2.2.2.2 (nI f.1) (nI (sk_there f)) (nI (f.1 % 100)) f.2.1 f.2.2.1 f.2.2.2.1 f.2.2.2.2.1 (fun i => lN (sk_nb (f.2.2.2.2.2.1 i))) (fun i => sk_bI (f.2.2.2.2.2.2 i)) wt) := hD
  have hl := lv_entry ([.ref (a 2), .int x1, .int x2, .int x3, .int x4]) (n := 6) (Nat.le_of_ble_eq_true rfl)
  rw [lg_entry_eq]
  generalize (lg_sl ([.ref (a 2), .int x1, .int x2, .int x3, .int x4]) ++ List.replicate (6 - (lg_sl ([.ref (a 2), .int x1, .int x2, .int x3, .int x4])).length) Slot.unset).toArray = ls at hl ⊢
  have hl : lv_has ls 6 [(0, .ref (a 2)), (1, .int x1), (2, .int x2), (3, .int x3), (4, .int x4)] := hl
  refine lv_aload_n hx hb dT_make_0 rfl (lv_at hl 0 rfl) ?_
  refine va_get (D := (dC, dI)) (ci := 2) (v := .int (nI t.1)) (C := RT) (T := TT) (N := 5) hx hb hts inT hown hK hP 2 rfl rfl 4 (by decide) (hts _ wfT_24) (fun _ h9 => h9) rfl dT_make_1 ?_
  refine lv_istore (lv' := [(5, .int (nI t.1)), (0, .ref (a 2)), (1, .int x1), (2, .int x2), (3, .int x3), (4, .int x4)]) hx hb dT_make_4 hl (by decide) rfl (fun ls hl => ?_)
  refine lv_aload_n hx hb dT_make_6 rfl (lv_at hl 1 rfl) ?_
  refine va_get (D := (dC, dI)) (ci := 2) (v := .ref (a 9)) (C := RT) (T := TT) (N := 5) hx hb hts inT hown hK hP 2 rfl rfl 0 (by decide) (hts _ wfT_9) (fun _ h9 => h9) rfl dT_make_7 ?_
  refine lv_iload hx hb dT_make_10 (lv_at hl 0 rfl) ?_
  refine lv_iload_n hx hb dT_make_12 rfl (lv_at hl 2 rfl) ?_
  refine va_iast hx hb hK hP hD hS 9 0 rfl rfl (vp_in_nI (show t.1 < 200 by omega) (by decide)) dT_make_13 (fun H locs hP hD hS => ?_)
  rw [nI_clamp (show t.1 < 2 ^ 31 by omega)] at hP hD
  have hP : va_P (dC, dI) vwCl (sk_wR a k (nI b.1) b.2.1 b.2.2.1 b.2.2.2.1 b.2.2.2.2 (nI t.1) (upd t.2.1 t.1 x1) t.2.2.1 t.2.2.2.1 t.2.2.2.2 (nI f.1) (nI (sk_there f)) (nI (f.1 % 100)) f.2.1 f.2.2.1 f.2.2.2.1 f.2.2.2.2.1 (fun i => lN (sk_nb (f.2.2.2.2.2.1 i))) (fun i => sk_bI (f.2.2.2.2.2.2 i)) wt) H := hP
  have hD : va_D A (sk_wR a k (nI b.1) b.2.1 b.2.2.1 b.2.2.2.1 b.2.2.2.2 (nI t.1) (upd t.2.1 t.1 x1) t.2.2.1 t.2.2.2.1 t.2.2.2.2 (nI f.1) (nI (sk_there f)) (nI (f.1 % 100)) f.2.1 f.2.2.1 f.2.2.2.1 f.2.2.2.2.1 (fun i => lN (sk_nb (f.2.2.2.2.2.1 i))) (fun i => sk_bI (f.2.2.2.2.2.2 i)) wt) := hD
  refine lv_aload_n hx hb dT_make_14 rfl (lv_at hl 1 rfl) ?_
  refine va_get (D := (dC, dI)) (ci := 2) (v := .ref (a 10)) (C := RT) (T := TT) (N := 5) hx hb hts inT hown hK hP 2 rfl rfl 1 (by decide) (hts _ wfT_15) (fun _ h9 => h9) rfl dT_make_15 ?_
  refine lv_iload hx hb dT_make_18 (lv_at hl 0 rfl) ?_
  refine lv_iload_n hx hb dT_make_20 rfl (lv_at hl 3 rfl) ?_
  refine va_iast hx hb hK hP hD hS 10 0 rfl rfl (vp_in_nI (show t.1 < 200 by omega) (by decide)) dT_make_21 (fun H locs hP hD hS => ?_)
  rw [nI_clamp (show t.1 < 2 ^ 31 by omega)] at hP hD
  have hP : va_P (dC, dI) vwCl (sk_wR a k (nI b.1) b.2.1 b.2.2.1 b.2.2.2.1 b.2.2.2.2 (nI t.1) (upd t.2.1 t.1 x1) (upd t.2.2.1 t.1 x2) t.2.2.2.1 t.2.2.2.2 (nI f.1) (nI (sk_there f)) (nI (f.1 % 100)) f.2.1 f.2.2.1 f.2.2.2.1 f.2.2.2.2.1 (fun i => lN (sk_nb (f.2.2.2.2.2.1 i))) (fun i => sk_bI (f.2.2.2.2.2.2 i)) wt) H := hP
  have hD : va_D A (sk_wR a k (nI b.1) b.2.1 b.2.2.1 b.2.2.2.1 b.2.2.2.2 (nI t.1) (upd t.2.1 t.1 x1) (upd t.2.2.1 t.1 x2) t.2.2.2.1 t.2.2.2.2 (nI f.1) (nI (sk_there f)) (nI (f.1 % 100)) f.2.1 f.2.2.1 f.2.2.2.1 f.2.2.2.2.1 (fun i => lN (sk_nb (f.2.2.2.2.2.1 i))) (fun i => sk_bI (f.2.2.2.2.2.2 i)) wt) := hD
  refine lv_aload_n hx hb dT_make_22 rfl (lv_at hl 1 rfl) ?_
  refine va_get (D := (dC, dI)) (ci := 2) (v := .ref (a 11)) (C := RT) (T := TT) (N := 5) hx hb hts inT hown hK hP 2 rfl rfl 2 (by decide) (hts _ wfT_18) (fun _ h9 => h9) rfl dT_make_23 ?_
  refine lv_iload hx hb dT_make_26 (lv_at hl 0 rfl) ?_
  refine lv_iload_n hx hb dT_make_28 rfl (lv_at hl 4 rfl) ?_
  refine va_iast hx hb hK hP hD hS 11 0 rfl rfl (vp_in_nI (show t.1 < 200 by omega) (by decide)) dT_make_29 (fun H locs hP hD hS => ?_)
  rw [nI_clamp (show t.1 < 2 ^ 31 by omega)] at hP hD
  have hP : va_P (dC, dI) vwCl (sk_wR a k (nI b.1) b.2.1 b.2.2.1 b.2.2.2.1 b.2.2.2.2 (nI t.1) (upd t.2.1 t.1 x1) (upd t.2.2.1 t.1 x2) (upd t.2.2.2.1 t.1 x3) t.2.2.2.2 (nI f.1) (nI (sk_there f)) (nI (f.1 % 100)) f.2.1 f.2.2.1 f.2.2.2.1 f.2.2.2.2.1 (fun i => lN (sk_nb (f.2.2.2.2.2.1 i))) (fun i => sk_bI (f.2.2.2.2.2.2 i)) wt) H := hP
  have hD : va_D A (sk_wR a k (nI b.1) b.2.1 b.2.2.1 b.2.2.2.1 b.2.2.2.2 (nI t.1) (upd t.2.1 t.1 x1) (upd t.2.2.1 t.1 x2) (upd t.2.2.2.1 t.1 x3) t.2.2.2.2 (nI f.1) (nI (sk_there f)) (nI (f.1 % 100)) f.2.1 f.2.2.1 f.2.2.2.1 f.2.2.2.2.1 (fun i => lN (sk_nb (f.2.2.2.2.2.1 i))) (fun i => sk_bI (f.2.2.2.2.2.2 i)) wt) := hD
  refine lv_aload_n hx hb dT_make_30 rfl (lv_at hl 1 rfl) ?_
  refine va_get (D := (dC, dI)) (ci := 2) (v := .ref (a 12)) (C := RT) (T := TT) (N := 5) hx hb hts inT hown hK hP 2 rfl rfl 3 (by decide) (hts _ wfT_21) (fun _ h9 => h9) rfl dT_make_31 ?_
  refine lv_iload hx hb dT_make_34 (lv_at hl 0 rfl) ?_
  refine lv_iload hx hb dT_make_36 (lv_at hl 5 rfl) ?_
  refine va_iast hx hb hK hP hD hS 12 0 rfl rfl (vp_in_nI (show t.1 < 200 by omega) (by decide)) dT_make_38 (fun H locs hP hD hS => ?_)
  rw [nI_clamp (show t.1 < 2 ^ 31 by omega)] at hP hD
  have hP : va_P (dC, dI) vwCl (sk_wR a k (nI b.1) b.2.1 b.2.2.1 b.2.2.2.1 b.2.2.2.2 (nI t.1) (upd t.2.1 t.1 x1) (upd t.2.2.1 t.1 x2) (upd t.2.2.2.1 t.1 x3) (upd t.2.2.2.2 t.1 x4) (nI f.1) (nI (sk_there f)) (nI (f.1 % 100)) f.2.1 f.2.2.1 f.2.2.2.1 f.2.2.2.2.1 (fun i => lN (sk_nb (f.2.2.2.2.2.1 i))) (fun i => sk_bI (f.2.2.2.2.2.2 i)) wt) H := hP
  have hD : va_D A (sk_wR a k (nI b.1) b.2.1 b.2.2.1 b.2.2.2.1 b.2.2.2.2 (nI t.1) (upd t.2.1 t.1 x1) (upd t.2.2.1 t.1 x2) (upd t.2.2.2.1 t.1 x3) (upd t.2.2.2.2 t.1 x4) (nI f.1) (nI (sk_there f)) (nI (f.1 % 100)) f.2.1 f.2.2.1 f.2.2.2.1 f.2.2.2.2.1 (fun i => lN (sk_nb (f.2.2.2.2.2.1 i))) (fun i => sk_bI (f.2.2.2.2.2.2 i)) wt) := hD
  refine lv_aload_n hx hb dT_make_39 rfl (lv_at hl 1 rfl) ?_
  refine lv_dup hx hb dT_make_40 rfl ?_
  refine va_get (D := (dC, dI)) (ci := 2) (v := .int (nI t.1)) (C := RT) (T := TT) (N := 5) hx hb hts inT hown hK hP 2 rfl rfl 4 (by decide) (hts _ wfT_24) (fun _ h9 => h9) rfl dT_make_41 ?_
  refine lv_iconst (v := nI 1) hx hb dT_make_44 (by decide) ?_
  refine lv_iadd hx hb dT_make_45 ?_
  refine lv_topi (fun x45 e45 => ?_)
  obtain rfl : x45 = nI (t.1 + 1) := e45.trans (nI_add _ _)
  refine va_put (D := (dC, dI)) (ci := 2) (v := .int (nI (t.1 + 1))) (ty := .int) (C := RT) (T := TT) (N := 5) hx hb hts inT tyT tyT_ok nmT hown hK hP hD hS 2 rfl rfl 4 (by decide) (hts _ wfT_24) (fun _ h9 => h9) rfl (by decide +kernel) rfl rfl (Nat.le_of_ble_eq_true rfl) dT_make_46 (fun H locs hP hD hS => ?_)
  have hP : va_P (dC, dI) vwCl (sk_wR a k (nI b.1) b.2.1 b.2.2.1 b.2.2.2.1 b.2.2.2.2 (nI (t.1 + 1)) (upd t.2.1 t.1 x1) (upd t.2.2.1 t.1 x2) (upd t.2.2.2.1 t.1 x3) (upd t.2.2.2.2 t.1 x4) (nI f.1) (nI (sk_there f)) (nI (f.1 % 100)) f.2.1 f.2.2.1 f.2.2.2.1 f.2.2.2.2.1 (fun i => lN (sk_nb (f.2.2.2.2.2.1 i))) (fun i => sk_bI (f.2.2.2.2.2.2 i)) wt) H := hP
  have hD : va_D A (sk_wR a k (nI b.1) b.2.1 b.2.2.1 b.2.2.2.1 b.2.2.2.2 (nI (t.1 + 1)) (upd t.2.1 t.1 x1) (upd t.2.2.1 t.1 x2) (upd t.2.2.2.1 t.1 x3) (upd t.2.2.2.2 t.1 x4) (nI f.1) (nI (sk_there f)) (nI (f.1 % 100)) f.2.1 f.2.2.1 f.2.2.2.1 f.2.2.2.2.1 (fun i => lN (sk_nb (f.2.2.2.2.2.1 i))) (fun i => sk_bI (f.2.2.2.2.2.2 i)) wt) := hD
  refine lv_iload hx hb dT_make_49 (lv_at hl 0 rfl) ?_
  exact W.iret (v := nI t.1) hx hb hr (fun U9 ht hW => ⟨⟨nI t.1, ((b, sk_make t x1 x2 x3 x4, f), wt), rfl, ⟨rfl, rfl⟩, sk_endw ht hP hD⟩, hS.F ht⟩) hS.2.2 dT_make_51
abbrev wzT_makeEmpty : List Cond := .code yT_makeEmpty cT_makeEmpty 2 (some .int) :: sk_W
abbrev rzT_makeEmpty : Room := { frames := 1, cells := 0, slots := 0, locals := 25 }
set_option maxHeartbeats 4000000 in
set_option maxRecDepth 100000 in
theorem kT_makeEmpty (l : Launch) (dC : Nat → ClassId) (dI : Nat → Nat → Nat) (a : Nat → Nat) (k : Nat → ClassId) (b : sk_Ob) (t : sk_Tr) (f : sk_Fi) (wt : sk_F) (A : Nat → Prop) (x : Int32) (hn : t.1 < 200) : Met l yT_makeEmpty wzT_makeEmpty rzT_makeEmpty (va_Pc [.ref (a 2), .int x] (fun U => sk_PX dC dI a k (b, t, f) wt U ∧ va_D A (sk_wX a k (b, t, f) wt))) (va_Qi (fun r (u : sk_S × sk_F) => r = nI t.1 ∧ u = ((b, sk_make t x (-1) (-1) 0, f), wt)) (fun u U => va_P (dC, dI) vwCl (sk_wX a k u.1 u.2) U.heap ∧ va_D A (sk_wX a k u.1 u.2)) A) 0 0 A := by
  refine Met.ofW (cc := cT_makeEmpty) (maxL := 2) (ret := (some .int)) (by decide) rfl ?_
  intro p e s m args below meth c s₁ B hml hv
  obtain ⟨rfl, ⟨hP, hK, hN⟩, hD⟩ := hv
  have hx := B.exec
  have hb := B.bytes
  have hr := B.returns
  have hts : ∀ w ∈ sk_W, w.before ([.ref (a 2), .int x] : List Value).toArray s = true := fun w h => atoms_spec (ws := wzT_makeEmpty) B.pre w (List.mem_cons_of_mem _ h)
  have hown : s.vm.findClass RT = some m.cls := findClass_of_methodNamed B.named
  have hlocks := B.notSynchronized
  have hS : va_S A s.heap s.heap [] := va_S.rf
  have hP : va_P (dC, dI) vwCl (sk_wR a k (nI b.1) b.2.1 b.2.2.1 b.2.2.2.1 b.2.2.2.2 (nI t.1) t.2.1 t.2.2.1 t.2.2.2.1 t.2.2.2.2 (nI f.1) (nI (sk_there f)) (nI (f.1 % 100)) f.2.1 f.2.2.1 f.2.2.2.1 f.2.2.2.2.1 (fun i => lN (sk_nb (f.2.2.2.2.2.1 i))) (fun i => sk_bI (f.2.2.2.2.2.2 i)) wt) s.heap := hP
  have hD : va_D A (sk_wR a k (nI b.1) b.2.1 b.2.2.1 b.2.2.2.1 b.2.2.2.2 (nI t.1) t.2.1 t.2.2.1 t.2.2.2.1 t.2.2.2.2 (nI f.1) (nI (sk_there f)) (nI (f.1 % 100)) f.2.1 f.2.2.1 f.2.2.2.1 f.2.2.2.2.1 (fun i => lN (sk_nb (f.2.2.2.2.2.1 i))) (fun i => sk_bI (f.2.2.2.2.2.2 i)) wt) := hD
  have hl := lv_entry ([.ref (a 2), .int x]) (n := 2) (Nat.le_of_ble_eq_true rfl)
  rw [lg_entry_eq]
  generalize (lg_sl ([.ref (a 2), .int x]) ++ List.replicate (2 - (lg_sl ([.ref (a 2), .int x])).length) Slot.unset).toArray = ls at hl ⊢
  have hl : lv_has ls 2 [(0, .ref (a 2)), (1, .int x)] := hl
  refine lv_aload_n hx hb dT_makeEmpty_0 rfl (lv_at hl 0 rfl) ?_
  refine lv_iload_n hx hb dT_makeEmpty_1 rfl (lv_at hl 1 rfl) ?_
  refine lv_iconst (v := (-1)) hx hb dT_makeEmpty_2 (by decide) ?_
  refine lv_iconst (v := (-1)) hx hb dT_makeEmpty_3 (by decide) ?_
  refine lv_iconst (v := nI 0) hx hb dT_makeEmpty_4 (by decide) ?_
  refine va_calli (va_runV (As := [.int x, .int (-1), .int (-1), .int (nI 0)]) (rest := []) ⟨hx, hb, hml, hown, hts⟩ (kT_make l dC dI a k b t f wt A x (-1) (-1) (nI 0) hn) (cwV 4 hts (sk_gV wmT_42 wiT_make wsT_make wnT wcT_make) rfl rfl rfl (by decide +kernel) ⟨Nat.le_of_ble_eq_true rfl, Nat.le_of_ble_eq_true rfl⟩) ⟨sk_blindD _, va_recv hK hP (ci := 2) (q0 := 2) rfl rfl, fun U hU hW => ⟨rfl, sk_at (S := (b, t, f)) (wt := wt) hP hK hN hU hW, hD⟩⟩ rfl rfl hl.1 rfl (lv_room (Nat.le_of_ble_eq_true rfl)) dT_makeEmpty_5 ⟨Nat.le_of_ble_eq_true rfl, Nat.le_of_ble_eq_true rfl⟩) hS (fun _ _ h => h) (fun _ h => h) (fun r5 u5 U9 H locs ht hvm w5 hB hz hk hS => ?_)
  obtain ⟨hP, hD⟩ := hB
  rw [ht] at hP
  obtain ⟨rfl, rfl⟩ := w5
  have hP : va_P (dC, dI) vwCl (sk_wR a k (nI b.1) b.2.1 b.2.2.1 b.2.2.2.1 b.2.2.2.2 (nI (sk_make t x (-1) (-1) (nI 0)).1) ((sk_make t x (-1) (-1) (nI 0)).2.1) ((sk_make t x (-1) (-1) (nI 0)).2.2.1) ((sk_make t x (-1) (-1) (nI 0)).2.2.2.1) ((sk_make t x (-1) (-1) (nI 0)).2.2.2.2) (nI f.1) (nI (sk_there f)) (nI (f.1 % 100)) f.2.1 f.2.2.1 f.2.2.2.1 f.2.2.2.2.1 (fun i => lN (sk_nb (f.2.2.2.2.2.1 i))) (fun i => sk_bI (f.2.2.2.2.2.2 i)) wt) H := hP
  have hD : va_D A (sk_wR a k (nI b.1) b.2.1 b.2.2.1 b.2.2.2.1 b.2.2.2.2 (nI (sk_make t x (-1) (-1) (nI 0)).1) ((sk_make t x (-1) (-1) (nI 0)).2.1) ((sk_make t x (-1) (-1) (nI 0)).2.2.1) ((sk_make t x (-1) (-1) (nI 0)).2.2.2.1) ((sk_make t x (-1) (-1) (nI 0)).2.2.2.2) (nI f.1) (nI (sk_there f)) (nI (f.1 % 100)) f.2.1 f.2.2.1 f.2.2.2.1 f.2.2.2.2.1 (fun i => lN (sk_nb (f.2.2.2.2.2.1 i))) (fun i => sk_bI (f.2.2.2.2.2.2 i)) wt) := hD
  exact W.iret (v := nI t.1) hx hb hr (fun U9 ht hW => ⟨⟨nI t.1, ((b, sk_make t x (-1) (-1) (nI 0), f), wt), rfl, ⟨rfl, rfl⟩, sk_endw ht hP hD⟩, hS.F ht⟩) hS.2.2 dT_makeEmpty_8
abbrev wzT_makeWith : List Cond := .code yT_makeWith cT_makeWith 3 (some .int) :: sk_W
abbrev rzT_makeWith : Room := { frames := 1, cells := 0, slots := 0, locals := 25 }
set_option maxHeartbeats 4000000 in
set_option maxRecDepth 100000 in
theorem kT_makeWith (l : Launch) (dC : Nat → ClassId) (dI : Nat → Nat → Nat) (a : Nat → Nat) (k : Nat → ClassId) (b : sk_Ob) (t : sk_Tr) (f : sk_Fi) (wt : sk_F) (A : Nat → Prop) (si : Nat) (x : Int32) (hs : si < t.1) (hn : t.1 < 200) : Met l yT_makeWith wzT_makeWith rzT_makeWith (va_Pc [.ref (a 2), .int (nI si), .int x] (fun U => sk_PX dC dI a k (b, t, f) wt U ∧ va_D A (sk_wX a k (b, t, f) wt))) (va_Qi (fun r (u : sk_S × sk_F) => r = nI t.1 ∧ u = ((b, sk_grow1 t si x, f), wt)) (fun u U => va_P (dC, dI) vwCl (sk_wX a k u.1 u.2) U.heap ∧ va_D A (sk_wX a k u.1 u.2)) A) 0 0 A := by
  refine Met.ofW (cc := cT_makeWith) (maxL := 3) (ret := (some .int)) (by decide) rfl ?_
  intro p e s m args below meth c s₁ B hml hv
  obtain ⟨rfl, ⟨hP, hK, hN⟩, hD⟩ := hv
  have hx := B.exec
  have hb := B.bytes
  have hr := B.returns
  have hts : ∀ w ∈ sk_W, w.before ([.ref (a 2), .int (nI si), .int x] : List Value).toArray s = true := fun w h => atoms_spec (ws := wzT_makeWith) B.pre w (List.mem_cons_of_mem _ h)
  have hown : s.vm.findClass RT = some m.cls := findClass_of_methodNamed B.named
  have hlocks := B.notSynchronized
  have hS : va_S A s.heap s.heap [] := va_S.rf
  have hP : va_P (dC, dI) vwCl (sk_wR a k (nI b.1) b.2.1 b.2.2.1 b.2.2.2.1 b.2.2.2.2 (nI t.1) t.2.1 t.2.2.1 t.2.2.2.1 t.2.2.2.2 (nI f.1) (nI (sk_there f)) (nI (f.1 % 100)) f.2.1 f.2.2.1 f.2.2.2.1 f.2.2.2.2.1 (fun i => lN (sk_nb (f.2.2.2.2.2.1 i))) (fun i => sk_bI (f.2.2.2.2.2.2 i)) wt) s.heap := hP
  have hD : va_D A (sk_wR a k (nI b.1) b.2.1 b.2.2.1 b.2.2.2.1 b.2.2.2.2 (nI t.1) t.2.1 t.2.2.1 t.2.2.2.1 t.2.2.2.2 (nI f.1) (nI (sk_there f)) (nI (f.1 % 100)) f.2.1 f.2.2.1 f.2.2.2.1 f.2.2.2.2.1 (fun i => lN (sk_nb (f.2.2.2.2.2.1 i))) (fun i => sk_bI (f.2.2.2.2.2.2 i)) wt) := hD
  have hl := lv_entry ([.ref (a 2), .int (nI si), .int x]) (n := 3) (Nat.le_of_ble_eq_true rfl)
  rw [lg_entry_eq]
  generalize (lg_sl ([.ref (a 2), .int (nI si), .int x]) ++ List.replicate (3 - (lg_sl ([.ref (a 2), .int (nI si), .int x])).length) Slot.unset).toArray = ls at hl ⊢
  have hl : lv_has ls 3 [(0, .ref (a 2)), (1, .int (nI si)), (2, .int x)] := hl
  refine lv_aload_n hx hb dT_makeWith_0 rfl (lv_at hl 0 rfl) ?_
  refine lv_aload_n hx hb dT_makeWith_1 rfl (lv_at hl 0 rfl) ?_
  refine va_get (D := (dC, dI)) (ci := 2) (v := .ref (a 9)) (C := RT) (T := TT) (N := 5) hx hb hts inT hown hK hP 2 rfl rfl 0 (by decide) (hts _ wfT_9) (fun _ h9 => h9) rfl dT_makeWith_2 ?_
  refine lv_iload_n hx hb dT_makeWith_5 rfl (lv_at hl 1 rfl) ?_
  refine va_iald hx hb hK hP 9 0 rfl rfl (vp_in_nI (show si < 200 by omega) (by decide)) dT_makeWith_6 ?_
  refine lv_topi (fun x6 e6 => ?_)
  rw [nI_clamp (show si < 2 ^ 31 by omega)] at e6
  refine lv_iload_n hx hb dT_makeWith_7 rfl (lv_at hl 1 rfl) ?_
  refine lv_iload_n hx hb dT_makeWith_8 rfl (lv_at hl 2 rfl) ?_
  refine lv_aload_n hx hb dT_makeWith_9 rfl (lv_at hl 0 rfl) ?_
  refine va_get (D := (dC, dI)) (ci := 2) (v := .ref (a 12)) (C := RT) (T := TT) (N := 5) hx hb hts inT hown hK hP 2 rfl rfl 3 (by decide) (hts _ wfT_21) (fun _ h9 => h9) rfl dT_makeWith_10 ?_
  refine lv_iload_n hx hb dT_makeWith_13 rfl (lv_at hl 1 rfl) ?_
  refine va_iald hx hb hK hP 12 0 rfl rfl (vp_in_nI (show si < 200 by omega) (by decide)) dT_makeWith_14 ?_
  refine lv_topi (fun x14 e14 => ?_)
  rw [nI_clamp (show si < 2 ^ 31 by omega)] at e14
  refine lv_iconst (v := nI 1) hx hb dT_makeWith_15 (by decide) ?_
  refine lv_iadd hx hb dT_makeWith_16 ?_
  refine lv_topi (fun x16 e16 => ?_)
  refine va_calli (va_runV (As := [.int x6, .int (nI si), .int x, .int x16]) (rest := []) ⟨hx, hb, hml, hown, hts⟩ (kT_make l dC dI a k b t f wt A x6 (nI si) x x16 hn) (cwV 4 hts (sk_gV wmT_42 wiT_make wsT_make wnT wcT_make) rfl rfl rfl (by decide +kernel) ⟨Nat.le_of_ble_eq_true rfl, Nat.le_of_ble_eq_true rfl⟩) ⟨sk_blindD _, va_recv hK hP (ci := 2) (q0 := 2) rfl rfl, fun U hU hW => ⟨rfl, sk_at (S := (b, t, f)) (wt := wt) hP hK hN hU hW, hD⟩⟩ rfl rfl hl.1 rfl (lv_room (Nat.le_of_ble_eq_true rfl)) dT_makeWith_17 ⟨Nat.le_of_ble_eq_true rfl, Nat.le_of_ble_eq_true rfl⟩) hS (fun _ _ h => h) (fun _ h => h) (fun r17 u17 U9 H locs ht hvm w17 hB hz hk hS => ?_)
  obtain ⟨hP, hD⟩ := hB
  rw [ht] at hP
  obtain ⟨rfl, rfl⟩ := w17
  have hP : va_P (dC, dI) vwCl (sk_wR a k (nI b.1) b.2.1 b.2.2.1 b.2.2.2.1 b.2.2.2.2 (nI (sk_make t x6 (nI si) x x16).1) ((sk_make t x6 (nI si) x x16).2.1) ((sk_make t x6 (nI si) x x16).2.2.1) ((sk_make t x6 (nI si) x x16).2.2.2.1) ((sk_make t x6 (nI si) x x16).2.2.2.2) (nI f.1) (nI (sk_there f)) (nI (f.1 % 100)) f.2.1 f.2.2.1 f.2.2.2.1 f.2.2.2.2.1 (fun i => lN (sk_nb (f.2.2.2.2.2.1 i))) (fun i => sk_bI (f.2.2.2.2.2.2 i)) wt) H := hP
  have hD : va_D A (sk_wR a k (nI b.1) b.2.1 b.2.2.1 b.2.2.2.1 b.2.2.2.2 (nI (sk_make t x6 (nI si) x x16).1) ((sk_make t x6 (nI si) x x16).2.1) ((sk_make t x6 (nI si) x x16).2.2.1) ((sk_make t x6 (nI si) x x16).2.2.2.1) ((sk_make t x6 (nI si) x x16).2.2.2.2) (nI f.1) (nI (sk_there f)) (nI (f.1 % 100)) f.2.1 f.2.2.1 f.2.2.2.1 f.2.2.2.2.1 (fun i => lN (sk_nb (f.2.2.2.2.2.1 i))) (fun i => sk_bI (f.2.2.2.2.2.2 i)) wt) := hD
  exact W.iret (v := nI t.1) hx hb hr (fun U9 ht hW => ⟨⟨nI t.1, ((b, sk_make t x6 (nI si) x x16, f), wt), rfl, ⟨rfl, by rw [e16, e14, e6]; rfl⟩, sk_endw ht hP hD⟩, hS.F ht⟩) hS.2.2 dT_makeWith_20
abbrev wzT_grow : List Cond := .code yT_grow cT_grow 4 (some .int) :: sk_W
abbrev rzT_grow : Room := { frames := 2, cells := 0, slots := 0, locals := 47 }
set_option maxHeartbeats 4000000 in
set_option maxRecDepth 100000 in
theorem kT_grow (l : Launch) (dC : Nat → ClassId) (dI : Nat → Nat → Nat) (a : Nat → Nat) (k : Nat → ClassId) (b : sk_Ob) (t : sk_Tr) (f : sk_Fi) (wt : sk_F) (A : Nat → Prop) (si : Nat) (x : Int32) (hT : sk_TO b.1 t) (hs : si < t.1) : Met l yT_grow wzT_grow rzT_grow (va_Pc [.ref (a 2), .int (nI si), .int x] (fun U => sk_PX dC dI a k (b, t, f) wt U ∧ va_D A (sk_wX a k (b, t, f) wt))) (va_Qi (fun r (u : sk_S × sk_F) => (sk_grow t si x = none ∧ r = -1 ∧ u = ((b, t, f), wt)) ∨ ∃ t2 g, sk_grow t si x = some (t2, g) ∧ r = nI g ∧ u = ((b, t2, f), wt)) (fun u U => va_P (dC, dI) vwCl (sk_wX a k u.1 u.2) U.heap ∧ va_D A (sk_wX a k u.1 u.2)) A) 0 0 A := by
  refine Met.ofW (cc := cT_grow) (maxL := 4) (ret := (some .int)) (by decide) rfl ?_
  intro p e s m args below meth c s₁ B hml hv
  obtain ⟨rfl, ⟨hP, hK, hN⟩, hD⟩ := hv
  have hx := B.exec
  have hb := B.bytes
  have hr := B.returns
  have hts : ∀ w ∈ sk_W, w.before ([.ref (a 2), .int (nI si), .int x] : List Value).toArray s = true := fun w h => atoms_spec (ws := wzT_grow) B.pre w (List.mem_cons_of_mem _ h)
  have hown : s.vm.findClass RT = some m.cls := findClass_of_methodNamed B.named
  have hlocks := B.notSynchronized
  have hS : va_S A s.heap s.heap [] := va_S.rf
  have hP : va_P (dC, dI) vwCl (sk_wR a k (nI b.1) b.2.1 b.2.2.1 b.2.2.2.1 b.2.2.2.2 (nI t.1) t.2.1 t.2.2.1 t.2.2.2.1 t.2.2.2.2 (nI f.1) (nI (sk_there f)) (nI (f.1 % 100)) f.2.1 f.2.2.1 f.2.2.2.1 f.2.2.2.2.1 (fun i => lN (sk_nb (f.2.2.2.2.2.1 i))) (fun i => sk_bI (f.2.2.2.2.2.2 i)) wt) s.heap := hP
  have hD : va_D A (sk_wR a k (nI b.1) b.2.1 b.2.2.1 b.2.2.2.1 b.2.2.2.2 (nI t.1) t.2.1 t.2.2.1 t.2.2.2.1 t.2.2.2.2 (nI f.1) (nI (sk_there f)) (nI (f.1 % 100)) f.2.1 f.2.2.1 f.2.2.2.1 f.2.2.2.2.1 (fun i => lN (sk_nb (f.2.2.2.2.2.1 i))) (fun i => sk_bI (f.2.2.2.2.2.2 i)) wt) := hD
  have hl := lv_entry ([.ref (a 2), .int (nI si), .int x]) (n := 4) (Nat.le_of_ble_eq_true rfl)
  rw [lg_entry_eq]
  generalize (lg_sl ([.ref (a 2), .int (nI si), .int x]) ++ List.replicate (4 - (lg_sl ([.ref (a 2), .int (nI si), .int x])).length) Slot.unset).toArray = ls at hl ⊢
  have hl : lv_has ls 4 [(0, .ref (a 2)), (1, .int (nI si)), (2, .int x)] := hl
  have h200 : t.1 ≤ 200 := hT.2.1
  have h60 : b.1 ≤ 60 := hT.2.2.1
  refine lv_aload_n hx hb dT_grow_0 rfl (lv_at hl 0 rfl) ?_
  refine lv_iload_n hx hb dT_grow_1 rfl (lv_at hl 1 rfl) ?_
  refine lv_iload_n hx hb dT_grow_2 rfl (lv_at hl 2 rfl) ?_
  refine va_calli (va_runV (As := [.int (nI si), .int x]) (rest := []) ⟨hx, hb, hml, hown, hts⟩ (kT_withName l dC dI a k b t f wt si x hT hs) (cwV 2 hts (sk_gV wmT_28 wiT_withName wsT_withName wnT wcT_withName) rfl rfl rfl (by decide +kernel) ⟨Nat.le_of_ble_eq_true rfl, Nat.le_of_ble_eq_true rfl⟩) ⟨sk_blind _, va_recv hK hP (ci := 2) (q0 := 2) rfl rfl, fun U hU hW => ⟨rfl, sk_at (S := (b, t, f)) (wt := wt) hP hK hN hU hW⟩⟩ rfl rfl hl.1 rfl (lv_room (Nat.le_of_ble_eq_true rfl)) dT_grow_3 ⟨Nat.le_of_ble_eq_true rfl, Nat.le_of_ble_eq_true rfl⟩) hS (fun _ _ h => h.elim) (fun _ h => h.elim) (fun r3 u3 U9 H locs ht hvm w3 hB hz hk hS => ?_)
  have hP : va_P (dC, dI) vwCl (sk_wR a k (nI b.1) b.2.1 b.2.2.1 b.2.2.2.1 b.2.2.2.2 (nI t.1) t.2.1 t.2.2.1 t.2.2.2.1 t.2.2.2.2 (nI f.1) (nI (sk_there f)) (nI (f.1 % 100)) f.2.1 f.2.2.1 f.2.2.2.1 f.2.2.2.2.1 (fun i => lN (sk_nb (f.2.2.2.2.2.1 i))) (fun i => sk_bI (f.2.2.2.2.2.2 i)) wt) H := hP.kept (fun j q hq => hk q.1 ((hP j q hq).lt) (fun h => h))
  clear hk hB ht
  refine lv_istore_n (lv' := [(3, .int r3), (0, .ref (a 2)), (1, .int (nI si)), (2, .int x)]) hx hb dT_grow_6 rfl hl (by decide) rfl (fun ls hl => ?_)
  refine lv_iload_n hx hb dT_grow_7 rfl (lv_at hl 0 rfl) ?_
  refine lv_iconst (v := (-1)) hx hb dT_grow_8 (by decide) ?_
  refine lv_icmp_ne (tgt := 22) hx hb dT_grow_9 (by decide) (fun c9 => ?_) (fun c9 => ?_)
  · skip
    refine lv_iload_n hx hb dT_grow_22 rfl (lv_at hl 0 rfl) ?_
    exact W.iret (v := r3) hx hb hr (fun U9 ht hW => ⟨⟨r3, ((b, t, f), wt), rfl, (by obtain ⟨g, q1, q2⟩ := sk_grow_hit hT hs (by rw [← w3]; exact c9); exact Or.inr ⟨t, g, q1, w3.trans q2, rfl⟩), sk_endw ht hP hD⟩, hS.F ht⟩) hS.2.2 dT_grow_23
  · skip
    refine lv_aload_n hx hb dT_grow_12 rfl (lv_at hl 1 rfl) ?_
    refine va_get (D := (dC, dI)) (ci := 2) (v := .int (nI t.1)) (C := RT) (T := TT) (N := 5) hx hb hts inT hown hK hP 2 rfl rfl 4 (by decide) (hts _ wfT_24) (fun _ h9 => h9) rfl dT_grow_13 ?_
    refine lv_sipush (v := nI 200) hx hb dT_grow_16 (by decide) ?_
    refine lv_icmp_lt (tgt := 24) hx hb dT_grow_19 (by decide) (fun c19 => ?_) (fun c19 => ?_)
    · skip
      have n19 : t.1 < 200 := (nI_ltI (by omega) (by omega)).mp c19
      refine lv_aload_n hx hb dT_grow_24 rfl (lv_at hl 1 rfl) ?_
      refine lv_iload_n hx hb dT_grow_25 rfl (lv_at hl 2 rfl) ?_
      refine lv_iload_n hx hb dT_grow_26 rfl (lv_at hl 3 rfl) ?_
      refine va_calli (va_runV (As := [.int (nI si), .int x]) (rest := []) ⟨hx, hb, hml, hown, hts⟩ (kT_makeWith l dC dI a k b t f wt A si x hs (by omega)) (cwV 2 hts (sk_gV wmT_32 wiT_makeWith wsT_makeWith wnT wcT_makeWith) rfl rfl rfl (by decide +kernel) ⟨Nat.le_of_ble_eq_true rfl, Nat.le_of_ble_eq_true rfl⟩) ⟨sk_blindD _, va_recv hK hP (ci := 2) (q0 := 2) rfl rfl, fun U hU hW => ⟨rfl, sk_at (S := (b, t, f)) (wt := wt) hP hK hN hU hW, hD⟩⟩ rfl rfl hl.1 rfl (lv_room (Nat.le_of_ble_eq_true rfl)) dT_grow_27 ⟨Nat.le_of_ble_eq_true rfl, Nat.le_of_ble_eq_true rfl⟩) hS (fun _ _ h => h) (fun _ h => h) (fun r27 u27 U9 H locs ht hvm w27 hB hz hk hS => ?_)
      obtain ⟨hP, hD⟩ := hB
      rw [ht] at hP
      obtain ⟨rfl, rfl⟩ := w27
      have hP : va_P (dC, dI) vwCl (sk_wR a k (nI b.1) b.2.1 b.2.2.1 b.2.2.2.1 b.2.2.2.2 (nI (sk_grow1 t si x).1) ((sk_grow1 t si x).2.1) ((sk_grow1 t si x).2.2.1) ((sk_grow1 t si x).2.2.2.1) ((sk_grow1 t si x).2.2.2.2) (nI f.1) (nI (sk_there f)) (nI (f.1 % 100)) f.2.1 f.2.2.1 f.2.2.2.1 f.2.2.2.2.1 (fun i => lN (sk_nb (f.2.2.2.2.2.1 i))) (fun i => sk_bI (f.2.2.2.2.2.2 i)) wt) H := hP
      have hD : va_D A (sk_wR a k (nI b.1) b.2.1 b.2.2.1 b.2.2.2.1 b.2.2.2.2 (nI (sk_grow1 t si x).1) ((sk_grow1 t si x).2.1) ((sk_grow1 t si x).2.2.1) ((sk_grow1 t si x).2.2.2.1) ((sk_grow1 t si x).2.2.2.2) (nI f.1) (nI (sk_there f)) (nI (f.1 % 100)) f.2.1 f.2.2.1 f.2.2.2.1 f.2.2.2.2.1 (fun i => lN (sk_nb (f.2.2.2.2.2.1 i))) (fun i => sk_bI (f.2.2.2.2.2.2 i)) wt) := hD
      exact W.iret (v := nI t.1) hx hb hr (fun U9 ht hW => ⟨⟨nI t.1, ((b, sk_grow1 t si x, f), wt), rfl, Or.inr ⟨sk_grow1 t si x, t.1, by unfold sk_grow; rw [if_pos (w3.symm.trans c9), if_neg (by omega)], rfl, rfl⟩, sk_endw ht hP hD⟩, hS.F ht⟩) hS.2.2 dT_grow_30
    · skip
      have n19 : ¬ t.1 < 200 := fun q => c19 ((nI_ltI (by omega) (by omega)).mpr q)
      refine lv_iload_n hx hb dT_grow_22 rfl (lv_at hl 0 rfl) ?_
      exact W.iret (v := r3) hx hb hr (fun U9 ht hW => ⟨⟨r3, ((b, t, f), wt), rfl, Or.inl ⟨by unfold sk_grow; rw [if_pos (w3.symm.trans c9), if_pos (by omega)], c9, rfl⟩, sk_endw ht hP hD⟩, hS.F ht⟩) hS.2.2 dT_grow_23
abbrev wzT_listNames : List Cond := .code yT_listNames cT_listNames 7 (some .int) :: sk_W
abbrev rzT_listNames : Room := { frames := 1, cells := 0, slots := 0, locals := 25 }
set_option maxHeartbeats 4000000 in
set_option maxRecDepth 100000 in
theorem kT_listNames (l : Launch) (dC : Nat → ClassId) (dI : Nat → Nat → Nat) (a : Nat → Nat) (k : Nat → ClassId) (b : sk_Ob) (t : sk_Tr) (f : sk_Fi) (wt : sk_F) (A : Nat → Prop) (si : Nat) (x : Int32) (hT : sk_TO b.1 t) (hs : si < t.1) : Met l yT_listNames wzT_listNames rzT_listNames (va_Pc [.ref (a 2), .int (nI si), .int x, .ref (a 4)] (fun U => sk_PX dC dI a k (b, t, f) wt U ∧ va_D A (sk_wX a k (b, t, f) wt))) (va_Qi (fun r (u : sk_S × sk_F) => r = nI (sk_left t si x).length ∧ ∃ wt2 : sk_F, u = ((b, t, f), wt2) ∧ ∀ j, j < (sk_left t si x).length → wt2 j = (sk_left t si x).getD j 0) (fun u U => va_P (dC, dI) vwCl (sk_wX a k u.1 u.2) U.heap ∧ va_D A (sk_wX a k u.1 u.2)) A) 0 0 A := by
  refine Met.ofW (cc := cT_listNames) (maxL := 7) (ret := (some .int)) (by decide) rfl ?_
  intro p e s m args below meth c s₁ B hml hv
  obtain ⟨rfl, ⟨hP, hK, hN⟩, hD⟩ := hv
  have hx := B.exec
  have hb := B.bytes
  have hr := B.returns
  have hts : ∀ w ∈ sk_W, w.before ([.ref (a 2), .int (nI si), .int x, .ref (a 4)] : List Value).toArray s = true := fun w h => atoms_spec (ws := wzT_listNames) B.pre w (List.mem_cons_of_mem _ h)
  have hown : s.vm.findClass RT = some m.cls := findClass_of_methodNamed B.named
  have hlocks := B.notSynchronized
  have hS : va_S A s.heap s.heap [] := va_S.rf
  have hP : va_P (dC, dI) vwCl (sk_wR a k (nI b.1) b.2.1 b.2.2.1 b.2.2.2.1 b.2.2.2.2 (nI t.1) t.2.1 t.2.2.1 t.2.2.2.1 t.2.2.2.2 (nI f.1) (nI (sk_there f)) (nI (f.1 % 100)) f.2.1 f.2.2.1 f.2.2.2.1 f.2.2.2.2.1 (fun i => lN (sk_nb (f.2.2.2.2.2.1 i))) (fun i => sk_bI (f.2.2.2.2.2.2 i)) wt) s.heap := hP
  have hD : va_D A (sk_wR a k (nI b.1) b.2.1 b.2.2.1 b.2.2.2.1 b.2.2.2.2 (nI t.1) t.2.1 t.2.2.1 t.2.2.2.1 t.2.2.2.2 (nI f.1) (nI (sk_there f)) (nI (f.1 % 100)) f.2.1 f.2.2.1 f.2.2.2.1 f.2.2.2.2.1 (fun i => lN (sk_nb (f.2.2.2.2.2.1 i))) (fun i => sk_bI (f.2.2.2.2.2.2 i)) wt) := hD
  have hl := lv_entry ([.ref (a 2), .int (nI si), .int x, .ref (a 4)]) (n := 7) (Nat.le_of_ble_eq_true rfl)
  rw [lg_entry_eq]
  generalize (lg_sl ([.ref (a 2), .int (nI si), .int x, .ref (a 4)]) ++ List.replicate (7 - (lg_sl ([.ref (a 2), .int (nI si), .int x, .ref (a 4)])).length) Slot.unset).toArray = ls at hl ⊢
  have hl : lv_has ls 7 [(0, .ref (a 2)), (1, .int (nI si)), (2, .int x), (3, .ref (a 4))] := hl
  have h200 : t.1 ≤ 200 := hT.2.1
  have h60 : b.1 ≤ 60 := hT.2.2.1
  obtain ⟨g, hg, hle, hlen⟩ := sk_lenOk hT hs
  refine lv_iconst (v := nI 0) hx hb dT_listNames_0 (by decide) ?_
  refine lv_istore (lv' := [(4, .int (nI 0)), (0, .ref (a 2)), (1, .int (nI si)), (2, .int x), (3, .ref (a 4))]) hx hb dT_listNames_1 hl (by decide) rfl (fun ls hl => ?_)
  refine lv_iconst (v := nI 0) hx hb dT_listNames_3 (by decide) ?_
  refine lv_istore (lv' := [(5, .int (nI 0)), (4, .int (nI 0)), (0, .ref (a 2)), (1, .int (nI si)), (2, .int x), (3, .ref (a 4))]) hx hb dT_listNames_4 hl (by decide) rfl (fun ls hl => ?_)
  have loop1 : ∀ (nn : Nat) (c9 pp : Nat) (wt2 : sk_F), pp ≤ g → c9 = (sk_lft t si x pp).length → (∀ j, j < (sk_lft t si x pp).length → wt2 j = (sk_lft t si x pp).getD j 0) → g - pp < nn → ∀ (H : Heap) (locs : List Loc), va_P (dC, dI) vwCl (sk_wR a k (nI b.1) b.2.1 b.2.2.1 b.2.2.2.1 b.2.2.2.2 (nI t.1) t.2.1 t.2.2.1 t.2.2.2.1 t.2.2.2.2 (nI f.1) (nI (sk_there f)) (nI (f.1 % 100)) f.2.1 f.2.2.1 f.2.2.2.1 f.2.2.2.2.1 (fun i => lN (sk_nb (f.2.2.2.2.2.1 i))) (fun i => sk_bI (f.2.2.2.2.2.2 i)) wt2) H → va_D A (sk_wR a k (nI b.1) b.2.1 b.2.2.1 b.2.2.2.1 b.2.2.2.2 (nI t.1) t.2.1 t.2.2.1 t.2.2.2.1 t.2.2.2.2 (nI f.1) (nI (sk_there f)) (nI (f.1 % 100)) f.2.1 f.2.2.1 f.2.2.2.1 f.2.2.2.2.1 (fun i => lN (sk_nb (f.2.2.2.2.2.1 i))) (fun i => sk_bI (f.2.2.2.2.2.2 i)) wt2) → va_S A s.heap H locs → ∀ ls : Array Slot, lv_has ls 7 [(5, .int (nI pp)), (4, .int (nI c9)), (0, .ref (a 2)), (1, .int (nI si)), (2, .int x), (3, .ref (a 4))] → W p l e (headSpec wzT_listNames rzT_listNames).room s m ([.ref (a 2), .int (nI si), .int x, .ref (a 4)] : List Value).toArray below meth c H locs 0 0 (MQ below (va_Qi (fun r (u : sk_S × sk_F) => r = nI (sk_left t si x).length ∧ ∃ wt2 : sk_F, u = ((b, t, f), wt2) ∧ ∀ j, j < (sk_left t si x).length → wt2 j = (sk_left t si x).getD j 0) (fun u U => va_P (dC, dI) vwCl (sk_wX a k u.1 u.2) U.heap ∧ va_D A (sk_wX a k u.1 u.2)) A) ([.ref (a 2), .int (nI si), .int x, .ref (a 4)] : List Value).toArray s 0 0 A) (F0 m 6 ls []) := by
    intro nn
    induction nn with
    | zero => intro c9 pp wt2 hpp hc hw2 hmu; exact absurd hmu (Nat.not_lt_zero _)
    | succ nn ih1 =>
      intro c9 pp wt2 hpp hc hw2 hmu H locs hP hD hS ls hl
      refine lv_iload hx hb dT_listNames_6 (lv_at hl 0 rfl) ?_
      refine lv_aload_n hx hb dT_listNames_8 rfl (lv_at hl 2 rfl) ?_
      refine va_get (D := (dC, dI)) (ci := 2) (v := .ref (a 12)) (C := RT) (T := TT) (N := 5) hx hb hts inT hown hK hP 2 rfl rfl 3 (by decide) (hts _ wfT_21) (fun _ h9 => h9) rfl dT_listNames_9 ?_
      refine lv_iload_n hx hb dT_listNames_12 rfl (lv_at hl 3 rfl) ?_
      refine va_iald hx hb hK hP 12 0 rfl rfl (vp_in_nI (show si < 200 by omega) (by decide)) dT_listNames_13 ?_
      refine lv_topi (fun x13 e13 => ?_)
      rw [nI_clamp (show si < 2 ^ 31 by omega)] at e13
      obtain rfl : x13 = nI g := e13.trans (hle)
      refine lv_icmp_ge (tgt := 47) hx hb dT_listNames_14 (by decide) (fun c14 => ?_) (fun c14 => ?_)
      · skip
        have n14 : g ≤ pp := (nI_leI (by omega) (by omega)).mp c14
        refine lv_iload hx hb dT_listNames_47 (lv_at hl 1 rfl) ?_
        have hall : sk_lft t si x pp = sk_left t si x := sk_lft_all (by omega)
        rw [hall] at hc hw2
        exact W.iret (v := nI c9) hx hb hr (fun U9 ht hW => ⟨⟨nI c9, ((b, t, f), wt2), rfl, ⟨by rw [hc], wt2, rfl, hw2⟩, sk_endw ht hP hD⟩, hS.F ht⟩) hS.2.2 dT_listNames_49
      · skip
        have n14 : ¬ g ≤ pp := fun q => c14 ((nI_leI (by omega) (by omega)).mpr q)
        have hcl : c9 ≤ pp := by rw [hc]; exact sk_lft_len t si x pp
        refine lv_aload_n hx hb dT_listNames_17 rfl (lv_at hl 2 rfl) ?_
        refine lv_iload_n hx hb dT_listNames_18 rfl (lv_at hl 3 rfl) ?_
        refine lv_iload hx hb dT_listNames_19 (lv_at hl 0 rfl) ?_
        refine va_calli (va_runV (As := [.int (nI si), .int (nI pp)]) (rest := []) ⟨hx, hb, hml, hown, hts⟩ (kT_nameAt l dC dI a k b t f wt2 si (nI pp) hT hs) (cwV 2 hts (sk_gV wmT_46 wiT_nameAt wsT_nameAt wnT wcT_nameAt) rfl rfl rfl (by decide +kernel) ⟨Nat.le_of_ble_eq_true rfl, Nat.le_of_ble_eq_true rfl⟩) ⟨sk_blind _, va_recv hK hP (ci := 2) (q0 := 2) rfl rfl, fun U hU hW => ⟨rfl, sk_at (S := (b, t, f)) (wt := wt2) hP hK hN hU hW⟩⟩ rfl rfl hl.1 rfl (lv_room (Nat.le_of_ble_eq_true rfl)) dT_listNames_21 ⟨Nat.le_of_ble_eq_true rfl, Nat.le_of_ble_eq_true rfl⟩) hS (fun _ _ h => h.elim) (fun _ h => h.elim) (fun r21 u21 U9 H locs ht hvm w21 hB hz hk hS => ?_)
        have hP : va_P (dC, dI) vwCl (sk_wR a k (nI b.1) b.2.1 b.2.2.1 b.2.2.2.1 b.2.2.2.2 (nI t.1) t.2.1 t.2.2.1 t.2.2.2.1 t.2.2.2.2 (nI f.1) (nI (sk_there f)) (nI (f.1 % 100)) f.2.1 f.2.2.1 f.2.2.2.1 f.2.2.2.2.1 (fun i => lN (sk_nb (f.2.2.2.2.2.1 i))) (fun i => sk_bI (f.2.2.2.2.2.2 i)) wt2) H := hP.kept (fun j q hq => hk q.1 ((hP j q hq).lt) (fun h => h))
        clear hk hB ht
        obtain rfl : r21 = sk_nm t si pp := w21.trans (by rw [if_pos (by rw [hlen]; exact sk_hasB_nI (by omega) (by omega)), nI_clamp (by omega)])
        refine lv_istore (lv' := [(6, .int (sk_nm t si pp)), (5, .int (nI pp)), (4, .int (nI c9)), (0, .ref (a 2)), (1, .int (nI si)), (2, .int x), (3, .ref (a 4))]) hx hb dT_listNames_24 hl (by decide) rfl (fun ls hl => ?_)
        refine lv_iload hx hb dT_listNames_26 (lv_at hl 0 rfl) ?_
        refine lv_iload_n hx hb dT_listNames_28 rfl (lv_at hl 5 rfl) ?_
        refine lv_icmp_eq (tgt := 41) hx hb dT_listNames_29 (by decide) (fun c29 => ?_) (fun c29 => ?_)
        · skip
          refine lv_iinc (v := nI (pp + 1)) (lv' := [(5, .int (nI (pp + 1))), (6, .int (sk_nm t si pp)), (4, .int (nI c9)), (0, .ref (a 2)), (1, .int (nI si)), (2, .int x), (3, .ref (a 4))]) hx hb dT_listNames_41 hl (k := 1) rfl (sk_inc _) (by decide) rfl (fun ls hl => ?_)
          refine lv_goto (tgt := 6) hx hb dT_listNames_44 (by decide) ?_
          exact ih1 c9 (pp + 1) wt2 (by omega) (by rw [sk_lft_s (by omega), if_pos c29, List.append_nil]; exact hc) (by rw [sk_lft_s (by omega), if_pos c29, List.append_nil]; exact hw2) (by omega) _ _ hP hD hS ls (lv_sub hl [0, 2, 3, 4, 5, 6] rfl)
        · skip
          refine lv_aload_n hx hb dT_listNames_32 rfl (lv_at hl 6 rfl) ?_
          refine lv_iload hx hb dT_listNames_33 (lv_at hl 2 rfl) ?_
          refine lv_iload hx hb dT_listNames_35 (lv_at hl 0 rfl) ?_
          refine va_iast hx hb hK hP hD hS 4 0 rfl rfl (vp_in_nI (show c9 < 12 by omega) (by decide)) dT_listNames_37 (fun H locs hP hD hS => ?_)
          rw [nI_clamp (show c9 < 2 ^ 31 by omega)] at hP hD
          have hP : va_P (dC, dI) vwCl (sk_wR a k (nI b.1) b.2.1 b.2.2.1 b.2.2.2.1 b.2.2.2.2 (nI t.1) t.2.1 t.2.2.1 t.2.2.2.1 t.2.2.2.2 (nI f.1) (nI (sk_there f)) (nI (f.1 % 100)) f.2.1 f.2.2.1 f.2.2.2.1 f.2.2.2.2.1 (fun i => lN (sk_nb (f.2.2.2.2.2.1 i))) (fun i => sk_bI (f.2.2.2.2.2.2 i)) (upd wt2 c9 (sk_nm t si pp))) H := hP
          have hD : va_D A (sk_wR a k (nI b.1) b.2.1 b.2.2.1 b.2.2.2.1 b.2.2.2.2 (nI t.1) t.2.1 t.2.2.1 t.2.2.2.1 t.2.2.2.2 (nI f.1) (nI (sk_there f)) (nI (f.1 % 100)) f.2.1 f.2.2.1 f.2.2.2.1 f.2.2.2.2.1 (fun i => lN (sk_nb (f.2.2.2.2.2.1 i))) (fun i => sk_bI (f.2.2.2.2.2.2 i)) (upd wt2 c9 (sk_nm t si pp))) := hD
          refine lv_iinc (v := nI (c9 + 1)) (lv' := [(4, .int (nI (c9 + 1))), (6, .int (sk_nm t si pp)), (5, .int (nI pp)), (0, .ref (a 2)), (1, .int (nI si)), (2, .int x), (3, .ref (a 4))]) hx hb dT_listNames_38 hl (k := 2) rfl (sk_inc _) (by decide) rfl (fun ls hl => ?_)
          refine lv_iinc (v := nI (pp + 1)) (lv' := [(5, .int (nI (pp + 1))), (4, .int (nI (c9 + 1))), (6, .int (sk_nm t si pp)), (0, .ref (a 2)), (1, .int (nI si)), (2, .int x), (3, .ref (a 4))]) hx hb dT_listNames_41 hl (k := 2) rfl (sk_inc _) (by decide) rfl (fun ls hl => ?_)
          refine lv_goto (tgt := 6) hx hb dT_listNames_44 (by decide) ?_
          exact ih1 (c9 + 1) (pp + 1) (upd wt2 c9 (sk_nm t si pp)) (by omega) (by rw [sk_lft_s (by omega), if_neg c29, List.length_append, ← hc]; rfl) (by rw [sk_lft_s (by omega), if_neg c29, hc]; exact sk_row_app hw2) (by omega) _ _ hP hD hS ls (lv_sub hl [0, 1, 3, 4, 5, 6] rfl)
  exact loop1 (g - 0 + 1) 0 0 wt (Nat.zero_le _) (rfl) (fun j hj => absurd hj (Nat.not_lt_zero j)) (Nat.lt_succ_self _) _ _ hP hD hS ls (lv_sub hl [0, 1, 2, 3, 4, 5] rfl)
end
section
abbrev wzT_reach : List Cond := .code yT_reach cT_reach 8 (some .int) :: sk_W
abbrev rzT_reach : Room := { frames := 2, cells := 0, slots := 0, locals := 47 }
set_option maxHeartbeats 4000000 in
set_option maxRecDepth 100000 in
theorem kT_reach (l : Launch) (dC : Nat → ClassId) (dI : Nat → Nat → Nat) (a : Nat → Nat) (k : Nat → ClassId) (b : sk_Ob) (t : sk_Tr) (f : sk_Fi) (wt : sk_F) (A : Nat → Prop) (x : Int32) (ns : List Int32) (hT : sk_TO b.1 t) (hns : ns.length ≤ 12) (hrow : ∀ j, j < ns.length → wt j = ns.getD j 0) : Met l yT_reach wzT_reach rzT_reach (va_Pc [.ref (a 2), .int x, .ref (a 4), .int (nI ns.length)] (fun U => sk_PX dC dI a k (b, t, f) wt U ∧ va_D A (sk_wX a k (b, t, f) wt))) (va_Qi (fun r (u : sk_S × sk_F) => (sk_reach t x ns = none ∧ r = -1 ∧ u = ((b, t, f), wt)) ∨ ∃ t2 g, sk_reach t x ns = some (t2, g) ∧ r = nI g ∧ u = ((b, t2, f), wt)) (fun u U => va_P (dC, dI) vwCl (sk_wX a k u.1 u.2) U.heap ∧ va_D A (sk_wX a k u.1 u.2)) A) 0 0 A := by
  refine Met.ofW (cc := cT_reach) (maxL := 8) (ret := (some .int)) (by decide) rfl ?_
  intro p e s m args below meth c s₁ B hml hv
  obtain ⟨rfl, ⟨hP, hK, hN⟩, hD⟩ := hv
  have hx := B.exec
  have hb := B.bytes
  have hr := B.returns
  have hts : ∀ w ∈ sk_W, w.before ([.ref (a 2), .int x, .ref (a 4), .int (nI ns.length)] : List Value).toArray s = true := fun w h => atoms_spec (ws := wzT_reach) B.pre w (List.mem_cons_of_mem _ h)
  have hown : s.vm.findClass RT = some m.cls := findClass_of_methodNamed B.named
  have hlocks := B.notSynchronized
  have hS : va_S A s.heap s.heap [] := va_S.rf
  have hP : va_P (dC, dI) vwCl (sk_wR a k (nI b.1) b.2.1 b.2.2.1 b.2.2.2.1 b.2.2.2.2 (nI t.1) t.2.1 t.2.2.1 t.2.2.2.1 t.2.2.2.2 (nI f.1) (nI (sk_there f)) (nI (f.1 % 100)) f.2.1 f.2.2.1 f.2.2.2.1 f.2.2.2.2.1 (fun i => lN (sk_nb (f.2.2.2.2.2.1 i))) (fun i => sk_bI (f.2.2.2.2.2.2 i)) wt) s.heap := hP
  have hD : va_D A (sk_wR a k (nI b.1) b.2.1 b.2.2.1 b.2.2.2.1 b.2.2.2.2 (nI t.1) t.2.1 t.2.2.1 t.2.2.2.1 t.2.2.2.2 (nI f.1) (nI (sk_there f)) (nI (f.1 % 100)) f.2.1 f.2.2.1 f.2.2.2.1 f.2.2.2.2.1 (fun i => lN (sk_nb (f.2.2.2.2.2.1 i))) (fun i => sk_bI (f.2.2.2.2.2.2 i)) wt) := hD
  have hl := lv_entry ([.ref (a 2), .int x, .ref (a 4), .int (nI ns.length)]) (n := 8) (Nat.le_of_ble_eq_true rfl)
  rw [lg_entry_eq]
  generalize (lg_sl ([.ref (a 2), .int x, .ref (a 4), .int (nI ns.length)]) ++ List.replicate (8 - (lg_sl ([.ref (a 2), .int x, .ref (a 4), .int (nI ns.length)])).length) Slot.unset).toArray = ls at hl ⊢
  have hl : lv_has ls 8 [(0, .ref (a 2)), (1, .int x), (2, .ref (a 4)), (3, .int (nI ns.length))] := hl
  have h200 : t.1 ≤ 200 := hT.2.1
  have h60 : b.1 ≤ 60 := hT.2.2.1
  refine lv_aload_n hx hb dT_reach_0 rfl (lv_at hl 0 rfl) ?_
  refine lv_iload_n hx hb dT_reach_1 rfl (lv_at hl 1 rfl) ?_
  refine va_calli (va_runV (As := [.int x]) (rest := []) ⟨hx, hb, hml, hown, hts⟩ (kT_emptyOf l dC dI a k b t f wt x hT) (cwV 1 hts (sk_gV wmT_35 wiT_emptyOf wsT_emptyOf wnT wcT_emptyOf) rfl rfl rfl (by decide +kernel) ⟨Nat.le_of_ble_eq_true rfl, Nat.le_of_ble_eq_true rfl⟩) ⟨sk_blind _, va_recv hK hP (ci := 2) (q0 := 2) rfl rfl, fun U hU hW => ⟨rfl, sk_at (S := (b, t, f)) (wt := wt) hP hK hN hU hW⟩⟩ rfl rfl hl.1 rfl (lv_room (Nat.le_of_ble_eq_true rfl)) dT_reach_2 ⟨Nat.le_of_ble_eq_true rfl, Nat.le_of_ble_eq_true rfl⟩) hS (fun _ _ h => h.elim) (fun _ h => h.elim) (fun r2 u2 U9 H locs ht hvm w2 hB hz hk hS => ?_)
  have hP : va_P (dC, dI) vwCl (sk_wR a k (nI b.1) b.2.1 b.2.2.1 b.2.2.2.1 b.2.2.2.2 (nI t.1) t.2.1 t.2.2.1 t.2.2.2.1 t.2.2.2.2 (nI f.1) (nI (sk_there f)) (nI (f.1 % 100)) f.2.1 f.2.2.1 f.2.2.2.1 f.2.2.2.2.1 (fun i => lN (sk_nb (f.2.2.2.2.2.1 i))) (fun i => sk_bI (f.2.2.2.2.2.2 i)) wt) H := hP.kept (fun j q hq => hk q.1 ((hP j q hq).lt) (fun h => h))
  clear hk hB ht
  rcases sk_em_spec t x with ⟨hem, -⟩ | ⟨q0, hq0, hem, -, -⟩
  · skip
    obtain rfl : r2 = -1 := w2.trans hem
    refine lv_istore (lv' := [(4, .int (-1)), (0, .ref (a 2)), (1, .int x), (2, .ref (a 4)), (3, .int (nI ns.length))]) hx hb dT_reach_5 hl (by decide) rfl (fun ls hl => ?_)
    refine lv_iconst (v := nI 0) hx hb dT_reach_7 (by decide) ?_
    refine lv_istore (lv' := [(5, .int (nI 0)), (4, .int (-1)), (0, .ref (a 2)), (1, .int x), (2, .ref (a 4)), (3, .int (nI ns.length))]) hx hb dT_reach_8 hl (by decide) rfl (fun ls hl => ?_)
    refine lv_iconst (v := nI 0) hx hb dT_reach_10 (by decide) ?_
    refine lv_istore (lv' := [(6, .int (nI 0)), (5, .int (nI 0)), (4, .int (-1)), (0, .ref (a 2)), (1, .int x), (2, .ref (a 4)), (3, .int (nI ns.length))]) hx hb dT_reach_11 hl (by decide) rfl (fun ls hl => ?_)
    refine lv_iload hx hb dT_reach_13 (lv_at hl 2 rfl) ?_
    refine lv_iconst (v := (-1)) hx hb dT_reach_15 (by decide) ?_
    refine lv_icmp_eq (tgt := 59) hx hb dT_reach_16 (by decide) (fun _ => ?_) (fun q => absurd (by decide) q)
    refine lv_iload_n hx hb dT_reach_59 rfl (lv_at hl 6 rfl) ?_
    refine lv_iload hx hb dT_reach_60 (lv_at hl 1 rfl) ?_
    refine lv_isub hx hb dT_reach_62 ?_
    refine lv_topi (fun x62 e62 => ?_)
    obtain rfl : x62 = nI (ns.length - 0) := e62.trans (pk_sub (by omega))
    refine lv_iload hx hb dT_reach_63 (lv_at hl 2 rfl) ?_
    refine lv_iconst (v := (-1)) hx hb dT_reach_65 (by decide) ?_
    refine lv_icmp_ne (tgt := 73) hx hb dT_reach_66 (by decide) (fun q => absurd q (by decide)) (fun _ => ?_)
    refine lv_iconst (v := nI 1) hx hb dT_reach_69 (by decide) ?_
    refine lv_goto (tgt := 74) hx hb dT_reach_70 (by decide) ?_
    refine lv_iadd hx hb dT_reach_74 ?_
    refine lv_topi (fun x74 e74 => ?_)
    obtain rfl : x74 = nI ((ns.length - 0) + 1) := e74.trans (nI_add _ _)
    refine lv_istore (lv' := [(6, .int (nI ((ns.length - 0) + 1))), (5, .int (nI 0)), (4, .int (-1)), (0, .ref (a 2)), (1, .int x), (2, .ref (a 4)), (3, .int (nI ns.length))]) hx hb dT_reach_75 hl (by decide) rfl (fun ls hl => ?_)
    refine lv_iload hx hb dT_reach_77 (lv_at hl 0 rfl) ?_
    refine lv_sipush (v := nI 200) hx hb dT_reach_79 (by decide) ?_
    refine lv_aload_n hx hb dT_reach_82 rfl (lv_at hl 3 rfl) ?_
    refine va_get (D := (dC, dI)) (ci := 2) (v := .int (nI t.1)) (C := RT) (T := TT) (N := 5) hx hb hts inT hown hK hP 2 rfl rfl 4 (by decide) (hts _ wfT_24) (fun _ h9 => h9) rfl dT_reach_83 ?_
    refine lv_isub hx hb dT_reach_86 ?_
    refine lv_topi (fun x86 e86 => ?_)
    obtain rfl : x86 = nI (200 - t.1) := e86.trans (pk_sub (by omega))
    refine lv_icmp_le (tgt := 92) hx hb dT_reach_87 (by decide) (fun c87 => ?_) (fun c87 => ?_)
    · skip
      have n87 : ((ns.length - 0) + 1) ≤ (200 - t.1) := (nI_leI (by omega) (by omega)).mp c87
      refine lv_iload hx hb dT_reach_92 (lv_at hl 2 rfl) ?_
      refine lv_iconst (v := (-1)) hx hb dT_reach_94 (by decide) ?_
      refine lv_icmp_ne (tgt := 105) hx hb dT_reach_95 (by decide) (fun q => absurd q (by decide)) (fun _ => ?_)
      refine lv_aload_n hx hb dT_reach_98 rfl (lv_at hl 3 rfl) ?_
      refine lv_iload_n hx hb dT_reach_99 rfl (lv_at hl 4 rfl) ?_
      refine va_calli (va_runV (As := [.int x]) (rest := []) ⟨hx, hb, hml, hown, hts⟩ (kT_makeEmpty l dC dI a k b t f wt A x (by omega)) (cwV 1 hts (sk_gV wmT_39 wiT_makeEmpty wsT_makeEmpty wnT wcT_makeEmpty) rfl rfl rfl (by decide +kernel) ⟨Nat.le_of_ble_eq_true rfl, Nat.le_of_ble_eq_true rfl⟩) ⟨sk_blindD _, va_recv hK hP (ci := 2) (q0 := 2) rfl rfl, fun U hU hW => ⟨rfl, sk_at (S := (b, t, f)) (wt := wt) hP hK hN hU hW, hD⟩⟩ rfl rfl hl.1 rfl (lv_room (Nat.le_of_ble_eq_true rfl)) dT_reach_100 ⟨Nat.le_of_ble_eq_true rfl, Nat.le_of_ble_eq_true rfl⟩) hS (fun _ _ h => h) (fun _ h => h) (fun r100 u100 U9 H locs ht hvm w100 hB hz hk hS => ?_)
      obtain ⟨hP, hD⟩ := hB
      rw [ht] at hP
      obtain ⟨rfl, rfl⟩ := w100
      have hP : va_P (dC, dI) vwCl (sk_wR a k (nI b.1) b.2.1 b.2.2.1 b.2.2.2.1 b.2.2.2.2 (nI (sk_make t x (-1) (-1) 0).1) ((sk_make t x (-1) (-1) 0).2.1) ((sk_make t x (-1) (-1) 0).2.2.1) ((sk_make t x (-1) (-1) 0).2.2.2.1) ((sk_make t x (-1) (-1) 0).2.2.2.2) (nI f.1) (nI (sk_there f)) (nI (f.1 % 100)) f.2.1 f.2.2.1 f.2.2.2.1 f.2.2.2.2.1 (fun i => lN (sk_nb (f.2.2.2.2.2.1 i))) (fun i => sk_bI (f.2.2.2.2.2.2 i)) wt) H := hP
      have hD : va_D A (sk_wR a k (nI b.1) b.2.1 b.2.2.1 b.2.2.2.1 b.2.2.2.2 (nI (sk_make t x (-1) (-1) 0).1) ((sk_make t x (-1) (-1) 0).2.1) ((sk_make t x (-1) (-1) 0).2.2.1) ((sk_make t x (-1) (-1) 0).2.2.2.1) ((sk_make t x (-1) (-1) 0).2.2.2.2) (nI f.1) (nI (sk_there f)) (nI (f.1 % 100)) f.2.1 f.2.2.1 f.2.2.2.1 f.2.2.2.2.1 (fun i => lN (sk_nb (f.2.2.2.2.2.1 i))) (fun i => sk_bI (f.2.2.2.2.2.2 i)) wt) := hD
      refine lv_istore (lv' := [(4, .int (nI t.1)), (6, .int (nI ((ns.length - 0) + 1))), (5, .int (nI 0)), (0, .ref (a 2)), (1, .int x), (2, .ref (a 4)), (3, .int (nI ns.length))]) hx hb dT_reach_103 hl (by decide) rfl (fun ls hl => ?_)
      refine lv_iload hx hb dT_reach_105 (lv_at hl 2 rfl) ?_
      refine lv_istore (lv' := [(7, .int (nI 0)), (4, .int (nI t.1)), (6, .int (nI ((ns.length - 0) + 1))), (5, .int (nI 0)), (0, .ref (a 2)), (1, .int x), (2, .ref (a 4)), (3, .int (nI ns.length))]) hx hb dT_reach_107 hl (by decide) rfl (fun ls hl => ?_)
      have loop2 : ∀ (nn : Nat) (j q2 : Nat) (t2 : sk_Tr), j ≤ ns.length → q2 < t2.1 → t2.1 + (ns.length - j) ≤ 200 → sk_reach t x ns = some (sk_mk t2 q2 (ns.drop j)) → ns.length - j < nn → ∀ (H : Heap) (locs : List Loc), va_P (dC, dI) vwCl (sk_wR a k (nI b.1) b.2.1 b.2.2.1 b.2.2.2.1 b.2.2.2.2 (nI t2.1) t2.2.1 t2.2.2.1 t2.2.2.2.1 t2.2.2.2.2 (nI f.1) (nI (sk_there f)) (nI (f.1 % 100)) f.2.1 f.2.2.1 f.2.2.2.1 f.2.2.2.2.1 (fun i => lN (sk_nb (f.2.2.2.2.2.1 i))) (fun i => sk_bI (f.2.2.2.2.2.2 i)) wt) H → va_D A (sk_wR a k (nI b.1) b.2.1 b.2.2.1 b.2.2.2.1 b.2.2.2.2 (nI t2.1) t2.2.1 t2.2.2.1 t2.2.2.2.1 t2.2.2.2.2 (nI f.1) (nI (sk_there f)) (nI (f.1 % 100)) f.2.1 f.2.2.1 f.2.2.2.1 f.2.2.2.2.1 (fun i => lN (sk_nb (f.2.2.2.2.2.1 i))) (fun i => sk_bI (f.2.2.2.2.2.2 i)) wt) → va_S A s.heap H locs → ∀ ls : Array Slot, lv_has ls 8 [(7, .int (nI j)), (4, .int (nI q2)), (0, .ref (a 2)), (2, .ref (a 4)), (3, .int (nI ns.length))] → W p l e (headSpec wzT_reach rzT_reach).room s m ([.ref (a 2), .int x, .ref (a 4), .int (nI ns.length)] : List Value).toArray below meth c H locs 0 0 (MQ below (va_Qi (fun r (u : sk_S × sk_F) => (sk_reach t x ns = none ∧ r = -1 ∧ u = ((b, t, f), wt)) ∨ ∃ t2 g, sk_reach t x ns = some (t2, g) ∧ r = nI g ∧ u = ((b, t2, f), wt)) (fun u U => va_P (dC, dI) vwCl (sk_wX a k u.1 u.2) U.heap ∧ va_D A (sk_wX a k u.1 u.2)) A) ([.ref (a 2), .int x, .ref (a 4), .int (nI ns.length)] : List Value).toArray s 0 0 A) (F0 m 109 ls []) := by
        intro nn
        induction nn with
        | zero => intro j q2 t2 hj hq2 hcap hm hmu; exact absurd hmu (Nat.not_lt_zero _)
        | succ nn ih2 =>
          intro j q2 t2 hj hq2 hcap hm hmu H locs hP hD hS ls hl
          refine lv_iload hx hb dT_reach_109 (lv_at hl 0 rfl) ?_
          refine lv_iload_n hx hb dT_reach_111 rfl (lv_at hl 4 rfl) ?_
          refine lv_icmp_ge (tgt := 133) hx hb dT_reach_112 (by decide) (fun c112 => ?_) (fun c112 => ?_)
          · skip
            have n112 : ns.length ≤ j := (nI_leI (by omega) (by omega)).mp c112
            refine lv_iload hx hb dT_reach_133 (lv_at hl 1 rfl) ?_
            exact W.iret (v := nI q2) hx hb hr (fun U9 ht hW => ⟨⟨nI q2, ((b, t2, f), wt), rfl, Or.inr ⟨t2, q2, by rw [hm, sk_mk_end n112], rfl, rfl⟩, sk_endw ht hP hD⟩, hS.F ht⟩) hS.2.2 dT_reach_135
          · skip
            have n112 : ¬ ns.length ≤ j := fun q => c112 ((nI_leI (by omega) (by omega)).mpr q)
            refine lv_aload_n hx hb dT_reach_115 rfl (lv_at hl 2 rfl) ?_
            refine lv_iload hx hb dT_reach_116 (lv_at hl 1 rfl) ?_
            refine lv_aload_n hx hb dT_reach_118 rfl (lv_at hl 3 rfl) ?_
            refine lv_iload hx hb dT_reach_119 (lv_at hl 0 rfl) ?_
            refine va_iald hx hb hK hP 4 0 rfl rfl (vp_in_nI (show j < 12 by omega) (by decide)) dT_reach_121 ?_
            refine lv_topi (fun x121 e121 => ?_)
            rw [nI_clamp (show j < 2 ^ 31 by omega)] at e121
            obtain rfl : x121 = ns.getD j 0 := e121.trans (hrow j (by omega))
            refine va_calli (va_runV (As := [.int (nI q2), .int (ns.getD j 0)]) (rest := []) ⟨hx, hb, hml, hown, hts⟩ (kT_makeWith l dC dI a k b t2 f wt A q2 (ns.getD j 0) hq2 (by omega)) (cwV 2 hts (sk_gV wmT_32 wiT_makeWith wsT_makeWith wnT wcT_makeWith) rfl rfl rfl (by decide +kernel) ⟨Nat.le_of_ble_eq_true rfl, Nat.le_of_ble_eq_true rfl⟩) ⟨sk_blindD _, va_recv hK hP (ci := 2) (q0 := 2) rfl rfl, fun U hU hW => ⟨rfl, sk_at (S := (b, t2, f)) (wt := wt) hP hK hN hU hW, hD⟩⟩ rfl rfl hl.1 rfl (lv_room (Nat.le_of_ble_eq_true rfl)) dT_reach_122 ⟨Nat.le_of_ble_eq_true rfl, Nat.le_of_ble_eq_true rfl⟩) hS (fun _ _ h => h) (fun _ h => h) (fun r122 u122 U9 H locs ht hvm w122 hB hz hk hS => ?_)
            obtain ⟨hP, hD⟩ := hB
            rw [ht] at hP
            obtain ⟨rfl, rfl⟩ := w122
            have hP : va_P (dC, dI) vwCl (sk_wR a k (nI b.1) b.2.1 b.2.2.1 b.2.2.2.1 b.2.2.2.2 (nI (sk_grow1 t2 q2 (ns.getD j 0)).1) ((sk_grow1 t2 q2 (ns.getD j 0)).2.1) ((sk_grow1 t2 q2 (ns.getD j 0)).2.2.1) ((sk_grow1 t2 q2 (ns.getD j 0)).2.2.2.1) ((sk_grow1 t2 q2 (ns.getD j 0)).2.2.2.2) (nI f.1) (nI (sk_there f)) (nI (f.1 % 100)) f.2.1 f.2.2.1 f.2.2.2.1 f.2.2.2.2.1 (fun i => lN (sk_nb (f.2.2.2.2.2.1 i))) (fun i => sk_bI (f.2.2.2.2.2.2 i)) wt) H := hP
            have hD : va_D A (sk_wR a k (nI b.1) b.2.1 b.2.2.1 b.2.2.2.1 b.2.2.2.2 (nI (sk_grow1 t2 q2 (ns.getD j 0)).1) ((sk_grow1 t2 q2 (ns.getD j 0)).2.1) ((sk_grow1 t2 q2 (ns.getD j 0)).2.2.1) ((sk_grow1 t2 q2 (ns.getD j 0)).2.2.2.1) ((sk_grow1 t2 q2 (ns.getD j 0)).2.2.2.2) (nI f.1) (nI (sk_there f)) (nI (f.1 % 100)) f.2.1 f.2.2.1 f.2.2.2.1 f.2.2.2.2.1 (fun i => lN (sk_nb (f.2.2.2.2.2.1 i))) (fun i => sk_bI (f.2.2.2.2.2.2 i)) wt) := hD
            refine lv_istore (lv' := [(4, .int (nI t2.1)), (7, .int (nI j)), (0, .ref (a 2)), (2, .ref (a 4)), (3, .int (nI ns.length))]) hx hb dT_reach_125 hl (by decide) rfl (fun ls hl => ?_)
            refine lv_iinc (v := nI (j + 1)) (lv' := [(7, .int (nI (j + 1))), (4, .int (nI t2.1)), (0, .ref (a 2)), (2, .ref (a 4)), (3, .int (nI ns.length))]) hx hb dT_reach_127 hl (k := 1) rfl (sk_inc _) (by decide) rfl (fun ls hl => ?_)
            refine lv_goto (tgt := 109) hx hb dT_reach_130 (by decide) ?_
            exact ih2 (j + 1) t2.1 (sk_grow1 t2 q2 (ns.getD j 0)) (by omega) (Nat.lt_succ_self _) ((show t2.1 + 1 + (ns.length - (j + 1)) ≤ 200 by omega)) (by rw [hm, sk_mk_step (by omega)]) (by omega) _ _ hP hD hS ls (lv_sub hl [0, 1, 2, 3, 4] rfl)
      exact loop2 (ns.length - 0 + 1) 0 t.1 (sk_make t x (-1) (-1) 0) (by omega) (Nat.lt_succ_self _) ((show t.1 + 1 + (ns.length - 0) ≤ 200 by omega)) (sk_reach_s1 hem (by omega)) (Nat.lt_succ_self _) _ _ hP hD hS ls (lv_sub hl [0, 1, 4, 6, 7] rfl)
    · skip
      have n87 : ¬ ((ns.length - 0) + 1) ≤ (200 - t.1) := fun q => c87 ((nI_leI (by omega) (by omega)).mpr q)
      refine lv_iconst (v := (-1)) hx hb dT_reach_90 (by decide) ?_
      exact W.iret (v := (-1)) hx hb hr (fun U9 ht hW => ⟨⟨(-1), ((b, t, f), wt), rfl, Or.inl ⟨sk_reach_n1 hem (by omega), rfl, rfl⟩, sk_endw ht hP hD⟩, hS.F ht⟩) hS.2.2 dT_reach_91
  · skip
    obtain rfl : r2 = nI q0 := w2.trans hem
    refine lv_istore (lv' := [(4, .int (nI q0)), (0, .ref (a 2)), (1, .int x), (2, .ref (a 4)), (3, .int (nI ns.length))]) hx hb dT_reach_5 hl (by decide) rfl (fun ls hl => ?_)
    refine lv_iconst (v := nI 0) hx hb dT_reach_7 (by decide) ?_
    refine lv_istore (lv' := [(5, .int (nI 0)), (4, .int (nI q0)), (0, .ref (a 2)), (1, .int x), (2, .ref (a 4)), (3, .int (nI ns.length))]) hx hb dT_reach_8 hl (by decide) rfl (fun ls hl => ?_)
    refine lv_iconst (v := nI 0) hx hb dT_reach_10 (by decide) ?_
    refine lv_istore (lv' := [(6, .int (nI 0)), (5, .int (nI 0)), (4, .int (nI q0)), (0, .ref (a 2)), (1, .int x), (2, .ref (a 4)), (3, .int (nI ns.length))]) hx hb dT_reach_11 hl (by decide) rfl (fun ls hl => ?_)
    have loop1 : ∀ (nn : Nat) (i q : Nat), i ≤ ns.length → q < t.1 → sk_down t q (ns.drop i) = sk_down t q0 ns → ns.length - i < nn → ∀ (H : Heap) (locs : List Loc), va_P (dC, dI) vwCl (sk_wR a k (nI b.1) b.2.1 b.2.2.1 b.2.2.2.1 b.2.2.2.2 (nI t.1) t.2.1 t.2.2.1 t.2.2.2.1 t.2.2.2.2 (nI f.1) (nI (sk_there f)) (nI (f.1 % 100)) f.2.1 f.2.2.1 f.2.2.2.1 f.2.2.2.2.1 (fun i => lN (sk_nb (f.2.2.2.2.2.1 i))) (fun i => sk_bI (f.2.2.2.2.2.2 i)) wt) H → va_D A (sk_wR a k (nI b.1) b.2.1 b.2.2.1 b.2.2.2.1 b.2.2.2.2 (nI t.1) t.2.1 t.2.2.1 t.2.2.2.1 t.2.2.2.2 (nI f.1) (nI (sk_there f)) (nI (f.1 % 100)) f.2.1 f.2.2.1 f.2.2.2.1 f.2.2.2.2.1 (fun i => lN (sk_nb (f.2.2.2.2.2.1 i))) (fun i => sk_bI (f.2.2.2.2.2.2 i)) wt) → va_S A s.heap H locs → ∀ ls : Array Slot, lv_has ls 8 [(6, .int (nI i)), (5, .int (nI i)), (4, .int (nI q)), (0, .ref (a 2)), (1, .int x), (2, .ref (a 4)), (3, .int (nI ns.length))] → W p l e (headSpec wzT_reach rzT_reach).room s m ([.ref (a 2), .int x, .ref (a 4), .int (nI ns.length)] : List Value).toArray below meth c H locs 0 0 (MQ below (va_Qi (fun r (u : sk_S × sk_F) => (sk_reach t x ns = none ∧ r = -1 ∧ u = ((b, t, f), wt)) ∨ ∃ t2 g, sk_reach t x ns = some (t2, g) ∧ r = nI g ∧ u = ((b, t2, f), wt)) (fun u U => va_P (dC, dI) vwCl (sk_wX a k u.1 u.2) U.heap ∧ va_D A (sk_wX a k u.1 u.2)) A) ([.ref (a 2), .int x, .ref (a 4), .int (nI ns.length)] : List Value).toArray s 0 0 A) (F0 m 13 ls []) := by
      intro nn
      induction nn with
      | zero => intro i q hi hq hd hmu; exact absurd hmu (Nat.not_lt_zero _)
      | succ nn ih1 =>
        intro i q hi hq hd hmu H locs hP hD hS ls hl
        refine lv_iload hx hb dT_reach_13 (lv_at hl 2 rfl) ?_
        refine lv_iconst (v := (-1)) hx hb dT_reach_15 (by decide) ?_
        refine lv_icmp_eq (tgt := 59) hx hb dT_reach_16 (by decide) (fun c16 => ?_) (fun c16 => ?_)
        · skip
          exact absurd c16 (sk_nm1 (by omega))
        · skip
          refine lv_iload hx hb dT_reach_19 (lv_at hl 0 rfl) ?_
          refine lv_iload_n hx hb dT_reach_21 rfl (lv_at hl 6 rfl) ?_
          refine lv_icmp_ge (tgt := 59) hx hb dT_reach_22 (by decide) (fun c22 => ?_) (fun c22 => ?_)
          · skip
            have n22 : ns.length ≤ i := (nI_leI (by omega) (by omega)).mp c22
            refine lv_iload_n hx hb dT_reach_59 rfl (lv_at hl 6 rfl) ?_
            refine lv_iload hx hb dT_reach_60 (lv_at hl 1 rfl) ?_
            refine lv_isub hx hb dT_reach_62 ?_
            refine lv_topi (fun x62 e62 => ?_)
            obtain rfl : x62 = nI (ns.length - i) := e62.trans (pk_sub (by omega))
            refine lv_iload hx hb dT_reach_63 (lv_at hl 2 rfl) ?_
            refine lv_iconst (v := (-1)) hx hb dT_reach_65 (by decide) ?_
            refine lv_icmp_ne (tgt := 73) hx hb dT_reach_66 (by decide) (fun c66 => ?_) (fun c66 => ?_)
            · skip
              refine lv_iconst (v := nI 0) hx hb dT_reach_73 (by decide) ?_
              refine lv_iadd hx hb dT_reach_74 ?_
              refine lv_topi (fun x74 e74 => ?_)
              obtain rfl : x74 = nI ((ns.length - i) + 0) := e74.trans (nI_add _ _)
              refine lv_istore (lv' := [(6, .int (nI ((ns.length - i) + 0))), (5, .int (nI i)), (4, .int (nI q)), (0, .ref (a 2)), (1, .int x), (2, .ref (a 4)), (3, .int (nI ns.length))]) hx hb dT_reach_75 hl (by decide) rfl (fun ls hl => ?_)
              refine lv_iload hx hb dT_reach_77 (lv_at hl 0 rfl) ?_
              refine lv_sipush (v := nI 200) hx hb dT_reach_79 (by decide) ?_
              refine lv_aload_n hx hb dT_reach_82 rfl (lv_at hl 3 rfl) ?_
              refine va_get (D := (dC, dI)) (ci := 2) (v := .int (nI t.1)) (C := RT) (T := TT) (N := 5) hx hb hts inT hown hK hP 2 rfl rfl 4 (by decide) (hts _ wfT_24) (fun _ h9 => h9) rfl dT_reach_83 ?_
              refine lv_isub hx hb dT_reach_86 ?_
              refine lv_topi (fun x86 e86 => ?_)
              obtain rfl : x86 = nI (200 - t.1) := e86.trans (pk_sub (by omega))
              refine lv_icmp_le (tgt := 92) hx hb dT_reach_87 (by decide) (fun c87 => ?_) (fun c87 => ?_)
              · skip
                have n87 : ((ns.length - i) + 0) ≤ (200 - t.1) := (nI_leI (by omega) (by omega)).mp c87
                refine lv_iload hx hb dT_reach_92 (lv_at hl 2 rfl) ?_
                refine lv_iconst (v := (-1)) hx hb dT_reach_94 (by decide) ?_
                refine lv_icmp_ne (tgt := 105) hx hb dT_reach_95 (by decide) (fun c95 => ?_) (fun c95 => ?_)
                · skip
                  refine lv_iload hx hb dT_reach_105 (lv_at hl 1 rfl) ?_
                  refine lv_istore (lv' := [(7, .int (nI i)), (6, .int (nI ((ns.length - i) + 0))), (5, .int (nI i)), (4, .int (nI q)), (0, .ref (a 2)), (1, .int x), (2, .ref (a 4)), (3, .int (nI ns.length))]) hx hb dT_reach_107 hl (by decide) rfl (fun ls hl => ?_)
                  have loop2 : ∀ (nn : Nat) (j q2 : Nat) (t2 : sk_Tr), j ≤ ns.length → q2 < t2.1 → t2.1 + (ns.length - j) ≤ 200 → sk_reach t x ns = some (sk_mk t2 q2 (ns.drop j)) → ns.length - j < nn → ∀ (H : Heap) (locs : List Loc), va_P (dC, dI) vwCl (sk_wR a k (nI b.1) b.2.1 b.2.2.1 b.2.2.2.1 b.2.2.2.2 (nI t2.1) t2.2.1 t2.2.2.1 t2.2.2.2.1 t2.2.2.2.2 (nI f.1) (nI (sk_there f)) (nI (f.1 % 100)) f.2.1 f.2.2.1 f.2.2.2.1 f.2.2.2.2.1 (fun i => lN (sk_nb (f.2.2.2.2.2.1 i))) (fun i => sk_bI (f.2.2.2.2.2.2 i)) wt) H → va_D A (sk_wR a k (nI b.1) b.2.1 b.2.2.1 b.2.2.2.1 b.2.2.2.2 (nI t2.1) t2.2.1 t2.2.2.1 t2.2.2.2.1 t2.2.2.2.2 (nI f.1) (nI (sk_there f)) (nI (f.1 % 100)) f.2.1 f.2.2.1 f.2.2.2.1 f.2.2.2.2.1 (fun i => lN (sk_nb (f.2.2.2.2.2.1 i))) (fun i => sk_bI (f.2.2.2.2.2.2 i)) wt) → va_S A s.heap H locs → ∀ ls : Array Slot, lv_has ls 8 [(7, .int (nI j)), (4, .int (nI q2)), (0, .ref (a 2)), (2, .ref (a 4)), (3, .int (nI ns.length))] → W p l e (headSpec wzT_reach rzT_reach).room s m ([.ref (a 2), .int x, .ref (a 4), .int (nI ns.length)] : List Value).toArray below meth c H locs 0 0 (MQ below (va_Qi (fun r (u : sk_S × sk_F) => (sk_reach t x ns = none ∧ r = -1 ∧ u = ((b, t, f), wt)) ∨ ∃ t2 g, sk_reach t x ns = some (t2, g) ∧ r = nI g ∧ u = ((b, t2, f), wt)) (fun u U => va_P (dC, dI) vwCl (sk_wX a k u.1 u.2) U.heap ∧ va_D A (sk_wX a k u.1 u.2)) A) ([.ref (a 2), .int x, .ref (a 4), .int (nI ns.length)] : List Value).toArray s 0 0 A) (F0 m 109 ls []) := by
                    intro nn
                    induction nn with
                    | zero => intro j q2 t2 hj hq2 hcap hm hmu; exact absurd hmu (Nat.not_lt_zero _)
                    | succ nn ih2 =>
                      intro j q2 t2 hj hq2 hcap hm hmu H locs hP hD hS ls hl
                      refine lv_iload hx hb dT_reach_109 (lv_at hl 0 rfl) ?_
                      refine lv_iload_n hx hb dT_reach_111 rfl (lv_at hl 4 rfl) ?_
                      refine lv_icmp_ge (tgt := 133) hx hb dT_reach_112 (by decide) (fun c112 => ?_) (fun c112 => ?_)
                      · skip
                        have n112 : ns.length ≤ j := (nI_leI (by omega) (by omega)).mp c112
                        refine lv_iload hx hb dT_reach_133 (lv_at hl 1 rfl) ?_
                        exact W.iret (v := nI q2) hx hb hr (fun U9 ht hW => ⟨⟨nI q2, ((b, t2, f), wt), rfl, Or.inr ⟨t2, q2, by rw [hm, sk_mk_end n112], rfl, rfl⟩, sk_endw ht hP hD⟩, hS.F ht⟩) hS.2.2 dT_reach_135
                      · skip
                        have n112 : ¬ ns.length ≤ j := fun q => c112 ((nI_leI (by omega) (by omega)).mpr q)
                        refine lv_aload_n hx hb dT_reach_115 rfl (lv_at hl 2 rfl) ?_
                        refine lv_iload hx hb dT_reach_116 (lv_at hl 1 rfl) ?_
                        refine lv_aload_n hx hb dT_reach_118 rfl (lv_at hl 3 rfl) ?_
                        refine lv_iload hx hb dT_reach_119 (lv_at hl 0 rfl) ?_
                        refine va_iald hx hb hK hP 4 0 rfl rfl (vp_in_nI (show j < 12 by omega) (by decide)) dT_reach_121 ?_
                        refine lv_topi (fun x121 e121 => ?_)
                        rw [nI_clamp (show j < 2 ^ 31 by omega)] at e121
                        obtain rfl : x121 = ns.getD j 0 := e121.trans (hrow j (by omega))
                        refine va_calli (va_runV (As := [.int (nI q2), .int (ns.getD j 0)]) (rest := []) ⟨hx, hb, hml, hown, hts⟩ (kT_makeWith l dC dI a k b t2 f wt A q2 (ns.getD j 0) hq2 (by omega)) (cwV 2 hts (sk_gV wmT_32 wiT_makeWith wsT_makeWith wnT wcT_makeWith) rfl rfl rfl (by decide +kernel) ⟨Nat.le_of_ble_eq_true rfl, Nat.le_of_ble_eq_true rfl⟩) ⟨sk_blindD _, va_recv hK hP (ci := 2) (q0 := 2) rfl rfl, fun U hU hW => ⟨rfl, sk_at (S := (b, t2, f)) (wt := wt) hP hK hN hU hW, hD⟩⟩ rfl rfl hl.1 rfl (lv_room (Nat.le_of_ble_eq_true rfl)) dT_reach_122 ⟨Nat.le_of_ble_eq_true rfl, Nat.le_of_ble_eq_true rfl⟩) hS (fun _ _ h => h) (fun _ h => h) (fun r122 u122 U9 H locs ht hvm w122 hB hz hk hS => ?_)
                        obtain ⟨hP, hD⟩ := hB
                        rw [ht] at hP
                        obtain ⟨rfl, rfl⟩ := w122
                        have hP : va_P (dC, dI) vwCl (sk_wR a k (nI b.1) b.2.1 b.2.2.1 b.2.2.2.1 b.2.2.2.2 (nI (sk_grow1 t2 q2 (ns.getD j 0)).1) ((sk_grow1 t2 q2 (ns.getD j 0)).2.1) ((sk_grow1 t2 q2 (ns.getD j 0)).2.2.1) ((sk_grow1 t2 q2 (ns.getD j 0)).2.2.2.1) ((sk_grow1 t2 q2 (ns.getD j 0)).2.2.2.2) (nI f.1) (nI (sk_there f)) (nI (f.1 % 100)) f.2.1 f.2.2.1 f.2.2.2.1 f.2.2.2.2.1 (fun i => lN (sk_nb (f.2.2.2.2.2.1 i))) (fun i => sk_bI (f.2.2.2.2.2.2 i)) wt) H := hP
                        have hD : va_D A (sk_wR a k (nI b.1) b.2.1 b.2.2.1 b.2.2.2.1 b.2.2.2.2 (nI (sk_grow1 t2 q2 (ns.getD j 0)).1) ((sk_grow1 t2 q2 (ns.getD j 0)).2.1) ((sk_grow1 t2 q2 (ns.getD j 0)).2.2.1) ((sk_grow1 t2 q2 (ns.getD j 0)).2.2.2.1) ((sk_grow1 t2 q2 (ns.getD j 0)).2.2.2.2) (nI f.1) (nI (sk_there f)) (nI (f.1 % 100)) f.2.1 f.2.2.1 f.2.2.2.1 f.2.2.2.2.1 (fun i => lN (sk_nb (f.2.2.2.2.2.1 i))) (fun i => sk_bI (f.2.2.2.2.2.2 i)) wt) := hD
                        refine lv_istore (lv' := [(4, .int (nI t2.1)), (7, .int (nI j)), (0, .ref (a 2)), (2, .ref (a 4)), (3, .int (nI ns.length))]) hx hb dT_reach_125 hl (by decide) rfl (fun ls hl => ?_)
                        refine lv_iinc (v := nI (j + 1)) (lv' := [(7, .int (nI (j + 1))), (4, .int (nI t2.1)), (0, .ref (a 2)), (2, .ref (a 4)), (3, .int (nI ns.length))]) hx hb dT_reach_127 hl (k := 1) rfl (sk_inc _) (by decide) rfl (fun ls hl => ?_)
                        refine lv_goto (tgt := 109) hx hb dT_reach_130 (by decide) ?_
                        exact ih2 (j + 1) t2.1 (sk_grow1 t2 q2 (ns.getD j 0)) (by omega) (Nat.lt_succ_self _) ((show t2.1 + 1 + (ns.length - (j + 1)) ≤ 200 by omega)) (by rw [hm, sk_mk_step (by omega)]) (by omega) _ _ hP hD hS ls (lv_sub hl [0, 1, 2, 3, 4] rfl)
                  exact loop2 (ns.length - i + 1) i q t (by omega) (hq) (by omega) (sk_reach_s2 (by omega) hem (by rw [← hd]; exact sk_down_end n22) (by omega)) (Nat.lt_succ_self _) _ _ hP hD hS ls (lv_sub hl [0, 3, 4, 6, 7] rfl)
                · skip
                  exact absurd c95 (sk_nm1 (by omega))
              · skip
                have n87 : ¬ ((ns.length - i) + 0) ≤ (200 - t.1) := fun q => c87 ((nI_leI (by omega) (by omega)).mpr q)
                refine lv_iconst (v := (-1)) hx hb dT_reach_90 (by decide) ?_
                exact W.iret (v := (-1)) hx hb hr (fun U9 ht hW => ⟨⟨(-1), ((b, t, f), wt), rfl, Or.inl ⟨sk_reach_n2 (by omega) hem (by rw [← hd]; exact sk_down_end n22) (by omega), rfl, rfl⟩, sk_endw ht hP hD⟩, hS.F ht⟩) hS.2.2 dT_reach_91
            · skip
              exact absurd c66 (sk_nm1 (by omega))
          · skip
            have n22 : ¬ ns.length ≤ i := fun q => c22 ((nI_leI (by omega) (by omega)).mpr q)
            refine lv_aload_n hx hb dT_reach_25 rfl (lv_at hl 3 rfl) ?_
            refine lv_iload hx hb dT_reach_26 (lv_at hl 2 rfl) ?_
            refine lv_aload_n hx hb dT_reach_28 rfl (lv_at hl 5 rfl) ?_
            refine lv_iload hx hb dT_reach_29 (lv_at hl 0 rfl) ?_
            refine va_iald hx hb hK hP 4 0 rfl rfl (vp_in_nI (show i < 12 by omega) (by decide)) dT_reach_31 ?_
            refine lv_topi (fun x31 e31 => ?_)
            rw [nI_clamp (show i < 2 ^ 31 by omega)] at e31
            obtain rfl : x31 = ns.getD i 0 := e31.trans (hrow i (by omega))
            refine va_calli (va_runV (As := [.int (nI q), .int (ns.getD i 0)]) (rest := []) ⟨hx, hb, hml, hown, hts⟩ (kT_withName l dC dI a k b t f wt q (ns.getD i 0) hT hq) (cwV 2 hts (sk_gV wmT_28 wiT_withName wsT_withName wnT wcT_withName) rfl rfl rfl (by decide +kernel) ⟨Nat.le_of_ble_eq_true rfl, Nat.le_of_ble_eq_true rfl⟩) ⟨sk_blind _, va_recv hK hP (ci := 2) (q0 := 2) rfl rfl, fun U hU hW => ⟨rfl, sk_at (S := (b, t, f)) (wt := wt) hP hK hN hU hW⟩⟩ rfl rfl hl.1 rfl (lv_room (Nat.le_of_ble_eq_true rfl)) dT_reach_32 ⟨Nat.le_of_ble_eq_true rfl, Nat.le_of_ble_eq_true rfl⟩) hS (fun _ _ h => h.elim) (fun _ h => h.elim) (fun r32 u32 U9 H locs ht hvm w32 hB hz hk hS => ?_)
            have hP : va_P (dC, dI) vwCl (sk_wR a k (nI b.1) b.2.1 b.2.2.1 b.2.2.2.1 b.2.2.2.2 (nI t.1) t.2.1 t.2.2.1 t.2.2.2.1 t.2.2.2.2 (nI f.1) (nI (sk_there f)) (nI (f.1 % 100)) f.2.1 f.2.2.1 f.2.2.2.1 f.2.2.2.2.1 (fun i => lN (sk_nb (f.2.2.2.2.2.1 i))) (fun i => sk_bI (f.2.2.2.2.2.2 i)) wt) H := hP.kept (fun j q hq => hk q.1 ((hP j q hq).lt) (fun h => h))
            clear hk hB ht
            rcases sk_wn_spec hT hq (ns.getD i 0) with ⟨hwn, -⟩ | ⟨i2, m2, hi2, -, hwn, -⟩
            · skip
              obtain rfl : r32 = -1 := w32.trans hwn
              refine lv_istore (lv' := [(7, .int (-1)), (6, .int (nI i)), (5, .int (nI i)), (4, .int (nI q)), (0, .ref (a 2)), (1, .int x), (2, .ref (a 4)), (3, .int (nI ns.length))]) hx hb dT_reach_35 hl (by decide) rfl (fun ls hl => ?_)
              refine lv_iload hx hb dT_reach_37 (lv_at hl 0 rfl) ?_
              refine lv_iconst (v := (-1)) hx hb dT_reach_39 (by decide) ?_
              refine lv_icmp_ne (tgt := 46) hx hb dT_reach_40 (by decide) (fun q => absurd q (by decide)) (fun _ => ?_)
              refine lv_goto (tgt := 59) hx hb dT_reach_43 (by decide) ?_
              refine lv_iload_n hx hb dT_reach_59 rfl (lv_at hl 7 rfl) ?_
              refine lv_iload hx hb dT_reach_60 (lv_at hl 2 rfl) ?_
              refine lv_isub hx hb dT_reach_62 ?_
              refine lv_topi (fun x62 e62 => ?_)
              obtain rfl : x62 = nI (ns.length - i) := e62.trans (pk_sub (by omega))
              refine lv_iload hx hb dT_reach_63 (lv_at hl 3 rfl) ?_
              refine lv_iconst (v := (-1)) hx hb dT_reach_65 (by decide) ?_
              refine lv_icmp_ne (tgt := 73) hx hb dT_reach_66 (by decide) (fun c66 => ?_) (fun c66 => ?_)
              · skip
                refine lv_iconst (v := nI 0) hx hb dT_reach_73 (by decide) ?_
                refine lv_iadd hx hb dT_reach_74 ?_
                refine lv_topi (fun x74 e74 => ?_)
                obtain rfl : x74 = nI ((ns.length - i) + 0) := e74.trans (nI_add _ _)
                refine lv_istore (lv' := [(6, .int (nI ((ns.length - i) + 0))), (7, .int (-1)), (5, .int (nI i)), (4, .int (nI q)), (0, .ref (a 2)), (1, .int x), (2, .ref (a 4)), (3, .int (nI ns.length))]) hx hb dT_reach_75 hl (by decide) rfl (fun ls hl => ?_)
                refine lv_iload hx hb dT_reach_77 (lv_at hl 0 rfl) ?_
                refine lv_sipush (v := nI 200) hx hb dT_reach_79 (by decide) ?_
                refine lv_aload_n hx hb dT_reach_82 rfl (lv_at hl 4 rfl) ?_
                refine va_get (D := (dC, dI)) (ci := 2) (v := .int (nI t.1)) (C := RT) (T := TT) (N := 5) hx hb hts inT hown hK hP 2 rfl rfl 4 (by decide) (hts _ wfT_24) (fun _ h9 => h9) rfl dT_reach_83 ?_
                refine lv_isub hx hb dT_reach_86 ?_
                refine lv_topi (fun x86 e86 => ?_)
                obtain rfl : x86 = nI (200 - t.1) := e86.trans (pk_sub (by omega))
                refine lv_icmp_le (tgt := 92) hx hb dT_reach_87 (by decide) (fun c87 => ?_) (fun c87 => ?_)
                · skip
                  have n87 : ((ns.length - i) + 0) ≤ (200 - t.1) := (nI_leI (by omega) (by omega)).mp c87
                  refine lv_iload hx hb dT_reach_92 (lv_at hl 3 rfl) ?_
                  refine lv_iconst (v := (-1)) hx hb dT_reach_94 (by decide) ?_
                  refine lv_icmp_ne (tgt := 105) hx hb dT_reach_95 (by decide) (fun c95 => ?_) (fun c95 => ?_)
                  · skip
                    refine lv_iload hx hb dT_reach_105 (lv_at hl 2 rfl) ?_
                    refine lv_istore (lv' := [(7, .int (nI i)), (6, .int (nI ((ns.length - i) + 0))), (5, .int (nI i)), (4, .int (nI q)), (0, .ref (a 2)), (1, .int x), (2, .ref (a 4)), (3, .int (nI ns.length))]) hx hb dT_reach_107 hl (by decide) rfl (fun ls hl => ?_)
                    have loop2 : ∀ (nn : Nat) (j q2 : Nat) (t2 : sk_Tr), j ≤ ns.length → q2 < t2.1 → t2.1 + (ns.length - j) ≤ 200 → sk_reach t x ns = some (sk_mk t2 q2 (ns.drop j)) → ns.length - j < nn → ∀ (H : Heap) (locs : List Loc), va_P (dC, dI) vwCl (sk_wR a k (nI b.1) b.2.1 b.2.2.1 b.2.2.2.1 b.2.2.2.2 (nI t2.1) t2.2.1 t2.2.2.1 t2.2.2.2.1 t2.2.2.2.2 (nI f.1) (nI (sk_there f)) (nI (f.1 % 100)) f.2.1 f.2.2.1 f.2.2.2.1 f.2.2.2.2.1 (fun i => lN (sk_nb (f.2.2.2.2.2.1 i))) (fun i => sk_bI (f.2.2.2.2.2.2 i)) wt) H → va_D A (sk_wR a k (nI b.1) b.2.1 b.2.2.1 b.2.2.2.1 b.2.2.2.2 (nI t2.1) t2.2.1 t2.2.2.1 t2.2.2.2.1 t2.2.2.2.2 (nI f.1) (nI (sk_there f)) (nI (f.1 % 100)) f.2.1 f.2.2.1 f.2.2.2.1 f.2.2.2.2.1 (fun i => lN (sk_nb (f.2.2.2.2.2.1 i))) (fun i => sk_bI (f.2.2.2.2.2.2 i)) wt) → va_S A s.heap H locs → ∀ ls : Array Slot, lv_has ls 8 [(7, .int (nI j)), (4, .int (nI q2)), (0, .ref (a 2)), (2, .ref (a 4)), (3, .int (nI ns.length))] → W p l e (headSpec wzT_reach rzT_reach).room s m ([.ref (a 2), .int x, .ref (a 4), .int (nI ns.length)] : List Value).toArray below meth c H locs 0 0 (MQ below (va_Qi (fun r (u : sk_S × sk_F) => (sk_reach t x ns = none ∧ r = -1 ∧ u = ((b, t, f), wt)) ∨ ∃ t2 g, sk_reach t x ns = some (t2, g) ∧ r = nI g ∧ u = ((b, t2, f), wt)) (fun u U => va_P (dC, dI) vwCl (sk_wX a k u.1 u.2) U.heap ∧ va_D A (sk_wX a k u.1 u.2)) A) ([.ref (a 2), .int x, .ref (a 4), .int (nI ns.length)] : List Value).toArray s 0 0 A) (F0 m 109 ls []) := by
                      intro nn
                      induction nn with
                      | zero => intro j q2 t2 hj hq2 hcap hm hmu; exact absurd hmu (Nat.not_lt_zero _)
                      | succ nn ih2 =>
                        intro j q2 t2 hj hq2 hcap hm hmu H locs hP hD hS ls hl
                        refine lv_iload hx hb dT_reach_109 (lv_at hl 0 rfl) ?_
                        refine lv_iload_n hx hb dT_reach_111 rfl (lv_at hl 4 rfl) ?_
                        refine lv_icmp_ge (tgt := 133) hx hb dT_reach_112 (by decide) (fun c112 => ?_) (fun c112 => ?_)
                        · skip
                          have n112 : ns.length ≤ j := (nI_leI (by omega) (by omega)).mp c112
                          refine lv_iload hx hb dT_reach_133 (lv_at hl 1 rfl) ?_
                          exact W.iret (v := nI q2) hx hb hr (fun U9 ht hW => ⟨⟨nI q2, ((b, t2, f), wt), rfl, Or.inr ⟨t2, q2, by rw [hm, sk_mk_end n112], rfl, rfl⟩, sk_endw ht hP hD⟩, hS.F ht⟩) hS.2.2 dT_reach_135
                        · skip
                          have n112 : ¬ ns.length ≤ j := fun q => c112 ((nI_leI (by omega) (by omega)).mpr q)
                          refine lv_aload_n hx hb dT_reach_115 rfl (lv_at hl 2 rfl) ?_
                          refine lv_iload hx hb dT_reach_116 (lv_at hl 1 rfl) ?_
                          refine lv_aload_n hx hb dT_reach_118 rfl (lv_at hl 3 rfl) ?_
                          refine lv_iload hx hb dT_reach_119 (lv_at hl 0 rfl) ?_
                          refine va_iald hx hb hK hP 4 0 rfl rfl (vp_in_nI (show j < 12 by omega) (by decide)) dT_reach_121 ?_
                          refine lv_topi (fun x121 e121 => ?_)
                          rw [nI_clamp (show j < 2 ^ 31 by omega)] at e121
                          obtain rfl : x121 = ns.getD j 0 := e121.trans (hrow j (by omega))
                          refine va_calli (va_runV (As := [.int (nI q2), .int (ns.getD j 0)]) (rest := []) ⟨hx, hb, hml, hown, hts⟩ (kT_makeWith l dC dI a k b t2 f wt A q2 (ns.getD j 0) hq2 (by omega)) (cwV 2 hts (sk_gV wmT_32 wiT_makeWith wsT_makeWith wnT wcT_makeWith) rfl rfl rfl (by decide +kernel) ⟨Nat.le_of_ble_eq_true rfl, Nat.le_of_ble_eq_true rfl⟩) ⟨sk_blindD _, va_recv hK hP (ci := 2) (q0 := 2) rfl rfl, fun U hU hW => ⟨rfl, sk_at (S := (b, t2, f)) (wt := wt) hP hK hN hU hW, hD⟩⟩ rfl rfl hl.1 rfl (lv_room (Nat.le_of_ble_eq_true rfl)) dT_reach_122 ⟨Nat.le_of_ble_eq_true rfl, Nat.le_of_ble_eq_true rfl⟩) hS (fun _ _ h => h) (fun _ h => h) (fun r122 u122 U9 H locs ht hvm w122 hB hz hk hS => ?_)
                          obtain ⟨hP, hD⟩ := hB
                          rw [ht] at hP
                          obtain ⟨rfl, rfl⟩ := w122
                          have hP : va_P (dC, dI) vwCl (sk_wR a k (nI b.1) b.2.1 b.2.2.1 b.2.2.2.1 b.2.2.2.2 (nI (sk_grow1 t2 q2 (ns.getD j 0)).1) ((sk_grow1 t2 q2 (ns.getD j 0)).2.1) ((sk_grow1 t2 q2 (ns.getD j 0)).2.2.1) ((sk_grow1 t2 q2 (ns.getD j 0)).2.2.2.1) ((sk_grow1 t2 q2 (ns.getD j 0)).2.2.2.2) (nI f.1) (nI (sk_there f)) (nI (f.1 % 100)) f.2.1 f.2.2.1 f.2.2.2.1 f.2.2.2.2.1 (fun i => lN (sk_nb (f.2.2.2.2.2.1 i))) (fun i => sk_bI (f.2.2.2.2.2.2 i)) wt) H := hP
                          have hD : va_D A (sk_wR a k (nI b.1) b.2.1 b.2.2.1 b.2.2.2.1 b.2.2.2.2 (nI (sk_grow1 t2 q2 (ns.getD j 0)).1) ((sk_grow1 t2 q2 (ns.getD j 0)).2.1) ((sk_grow1 t2 q2 (ns.getD j 0)).2.2.1) ((sk_grow1 t2 q2 (ns.getD j 0)).2.2.2.1) ((sk_grow1 t2 q2 (ns.getD j 0)).2.2.2.2) (nI f.1) (nI (sk_there f)) (nI (f.1 % 100)) f.2.1 f.2.2.1 f.2.2.2.1 f.2.2.2.2.1 (fun i => lN (sk_nb (f.2.2.2.2.2.1 i))) (fun i => sk_bI (f.2.2.2.2.2.2 i)) wt) := hD
                          refine lv_istore (lv' := [(4, .int (nI t2.1)), (7, .int (nI j)), (0, .ref (a 2)), (2, .ref (a 4)), (3, .int (nI ns.length))]) hx hb dT_reach_125 hl (by decide) rfl (fun ls hl => ?_)
                          refine lv_iinc (v := nI (j + 1)) (lv' := [(7, .int (nI (j + 1))), (4, .int (nI t2.1)), (0, .ref (a 2)), (2, .ref (a 4)), (3, .int (nI ns.length))]) hx hb dT_reach_127 hl (k := 1) rfl (sk_inc _) (by decide) rfl (fun ls hl => ?_)
                          refine lv_goto (tgt := 109) hx hb dT_reach_130 (by decide) ?_
                          exact ih2 (j + 1) t2.1 (sk_grow1 t2 q2 (ns.getD j 0)) (by omega) (Nat.lt_succ_self _) ((show t2.1 + 1 + (ns.length - (j + 1)) ≤ 200 by omega)) (by rw [hm, sk_mk_step (by omega)]) (by omega) _ _ hP hD hS ls (lv_sub hl [0, 1, 2, 3, 4] rfl)
                    exact loop2 (ns.length - i + 1) i q t (by omega) (hq) (by omega) (sk_reach_s2 (by omega) hem (by rw [← hd]; exact sk_down_miss (by omega) hwn) (by omega)) (Nat.lt_succ_self _) _ _ hP hD hS ls (lv_sub hl [0, 3, 4, 6, 7] rfl)
                  · skip
                    exact absurd c95 (sk_nm1 (by omega))
                · skip
                  have n87 : ¬ ((ns.length - i) + 0) ≤ (200 - t.1) := fun q => c87 ((nI_leI (by omega) (by omega)).mpr q)
                  refine lv_iconst (v := (-1)) hx hb dT_reach_90 (by decide) ?_
                  exact W.iret (v := (-1)) hx hb hr (fun U9 ht hW => ⟨⟨(-1), ((b, t, f), wt), rfl, Or.inl ⟨sk_reach_n2 (by omega) hem (by rw [← hd]; exact sk_down_miss (by omega) hwn) (by omega), rfl, rfl⟩, sk_endw ht hP hD⟩, hS.F ht⟩) hS.2.2 dT_reach_91
              · skip
                exact absurd c66 (sk_nm1 (by omega))
            · skip
              obtain rfl : r32 = nI i2 := w32.trans hwn
              refine lv_istore (lv' := [(7, .int (nI i2)), (6, .int (nI i)), (5, .int (nI i)), (4, .int (nI q)), (0, .ref (a 2)), (1, .int x), (2, .ref (a 4)), (3, .int (nI ns.length))]) hx hb dT_reach_35 hl (by decide) rfl (fun ls hl => ?_)
              refine lv_iload hx hb dT_reach_37 (lv_at hl 0 rfl) ?_
              refine lv_iconst (v := (-1)) hx hb dT_reach_39 (by decide) ?_
              refine lv_icmp_ne (tgt := 46) hx hb dT_reach_40 (by decide) (fun c40 => ?_) (fun c40 => ?_)
              · skip
                refine lv_iload hx hb dT_reach_46 (lv_at hl 0 rfl) ?_
                refine lv_istore (lv' := [(4, .int (nI i2)), (7, .int (nI i2)), (6, .int (nI i)), (5, .int (nI i)), (0, .ref (a 2)), (1, .int x), (2, .ref (a 4)), (3, .int (nI ns.length))]) hx hb dT_reach_48 hl (by decide) rfl (fun ls hl => ?_)
                refine lv_iinc (v := nI (i + 1)) (lv' := [(5, .int (nI (i + 1))), (4, .int (nI i2)), (7, .int (nI i2)), (6, .int (nI i)), (0, .ref (a 2)), (1, .int x), (2, .ref (a 4)), (3, .int (nI ns.length))]) hx hb dT_reach_50 hl (k := 3) rfl (sk_inc _) (by decide) rfl (fun ls hl => ?_)
                refine lv_iinc (v := nI (i + 1)) (lv' := [(6, .int (nI (i + 1))), (5, .int (nI (i + 1))), (4, .int (nI i2)), (7, .int (nI i2)), (0, .ref (a 2)), (1, .int x), (2, .ref (a 4)), (3, .int (nI ns.length))]) hx hb dT_reach_53 hl (k := 3) rfl (sk_inc _) (by decide) rfl (fun ls hl => ?_)
                refine lv_goto (tgt := 13) hx hb dT_reach_56 (by decide) ?_
                exact ih1 (i + 1) i2 (by omega) (hi2) (by rw [← hd]; exact (sk_down_hit (by omega) (by omega) hwn).symm) (by omega) _ _ hP hD hS ls (lv_sub hl [0, 1, 2, 4, 5, 6, 7] rfl)
              · skip
                exact absurd c40 (sk_nm1 (by omega))
    exact loop1 (ns.length - 0 + 1) 0 q0 (Nat.zero_le _) (hq0) (rfl) (Nat.lt_succ_self _) _ _ hP hD hS ls (lv_sub hl [0, 1, 2, 3, 4, 5, 6] rfl)
end
section
abbrev wzO_canBePrototype : List Cond := .code yO_canBePrototype cO_canBePrototype 2 (some .boolean) :: sk_W
abbrev rzO_canBePrototype : Room := { frames := 1, cells := 0, slots := 0, locals := 21 }
set_option maxHeartbeats 4000000 in
set_option maxRecDepth 100000 in
theorem kO_canBePrototype (l : Launch) (dC : Nat → ClassId) (dI : Nat → Nat → Nat) (a : Nat → Nat) (k : Nat → ClassId) (b : sk_Ob) (t : sk_Tr) (f : sk_Fi) (wt : sk_F) (x : Int32)  : Met l yO_canBePrototype wzO_canBePrototype rzO_canBePrototype (va_Pc [.ref (a 1), .int x] (sk_PX dC dI a k (b, t, f) wt)) (va_Qi (fun r (_ : Unit) => r = sk_bI (sk_canP b.1 x)) (fun _ _ => True) (fun _ => False)) 0 0 (fun _ => False) := by
  refine Met.ofW (cc := cO_canBePrototype) (maxL := 2) (ret := (some .boolean)) (by decide) rfl ?_
  intro p e s m args below meth c s₁ B hml hv
  obtain ⟨rfl, hP, hK, hN⟩ := hv
  have hx := B.exec
  have hb := B.bytes
  have hr := B.returns
  have hts : ∀ w ∈ sk_W, w.before ([.ref (a 1), .int x] : List Value).toArray s = true := fun w h => atoms_spec (ws := wzO_canBePrototype) B.pre w (List.mem_cons_of_mem _ h)
  have hown : s.vm.findClass RO = some m.cls := findClass_of_methodNamed B.named
  have hlocks := B.notSynchronized
  have hS : va_S (fun _ => False) s.heap s.heap [] := va_S.rf
  have hP : va_P (dC, dI) vwCl (sk_wR a k (nI b.1) b.2.1 b.2.2.1 b.2.2.2.1 b.2.2.2.2 (nI t.1) t.2.1 t.2.2.1 t.2.2.2.1 t.2.2.2.2 (nI f.1) (nI (sk_there f)) (nI (f.1 % 100)) f.2.1 f.2.2.1 f.2.2.2.1 f.2.2.2.2.1 (fun i => lN (sk_nb (f.2.2.2.2.2.1 i))) (fun i => sk_bI (f.2.2.2.2.2.2 i)) wt) s.heap := hP
  have hl := lv_entry ([.ref (a 1), .int x]) (n := 2) (Nat.le_of_ble_eq_true rfl)
  rw [lg_entry_eq]
  generalize (lg_sl ([.ref (a 1), .int x]) ++ List.replicate (2 - (lg_sl ([.ref (a 1), .int x])).length) Slot.unset).toArray = ls at hl ⊢
  have hl : lv_has ls 2 [(0, .ref (a 1)), (1, .int x)] := hl
  refine lv_iload_n hx hb dO_canBePrototype_0 rfl (lv_at hl 1 rfl) ?_
  refine lv_iconst (v := (-1)) hx hb dO_canBePrototype_1 (by decide) ?_
  refine lv_icmp_eq (tgt := 13) hx hb dO_canBePrototype_2 (by decide) (fun c2 => ?_) (fun c2 => ?_)
  · skip
    refine lv_iconst (v := nI 1) hx hb dO_canBePrototype_13 (by decide) ?_
    refine lv_goto (tgt := 18) hx hb dO_canBePrototype_14 (by decide) ?_
    exact W.zret (v := nI 1) hx hb hr (by decide) (fun U9 ht hW => ⟨⟨nI 1, (), rfl, sk_canP_t1 c2, trivial⟩, hS.F ht⟩) hS.2.2 dO_canBePrototype_18
  · skip
    refine lv_aload_n hx hb dO_canBePrototype_5 rfl (lv_at hl 0 rfl) ?_
    refine lv_iload_n hx hb dO_canBePrototype_6 rfl (lv_at hl 1 rfl) ?_
    refine va_calli (va_runV (As := [.int x]) (rest := []) ⟨hx, hb, hml, hown, hts⟩ (kO_has l dC dI a k b t f wt x) (cwV 1 hts (sk_gV wmO_30 wiO_has wsO_has wnO wcO_has) rfl rfl rfl (by decide +kernel) ⟨Nat.le_of_ble_eq_true rfl, Nat.le_of_ble_eq_true rfl⟩) ⟨sk_blind _, va_recv hK hP (ci := 1) (q0 := 1) rfl rfl, fun U hU hW => ⟨rfl, sk_at (S := (b, t, f)) (wt := wt) hP hK hN hU hW⟩⟩ rfl rfl hl.1 rfl (lv_room (Nat.le_of_ble_eq_true rfl)) dO_canBePrototype_7 ⟨Nat.le_of_ble_eq_true rfl, Nat.le_of_ble_eq_true rfl⟩) hS (fun _ _ h => h.elim) (fun _ h => h.elim) (fun r7 u7 U9 H locs ht hvm w7 hB hz hk hS => ?_)
    have hP : va_P (dC, dI) vwCl (sk_wR a k (nI b.1) b.2.1 b.2.2.1 b.2.2.2.1 b.2.2.2.2 (nI t.1) t.2.1 t.2.2.1 t.2.2.2.1 t.2.2.2.2 (nI f.1) (nI (sk_there f)) (nI (f.1 % 100)) f.2.1 f.2.2.1 f.2.2.2.1 f.2.2.2.2.1 (fun i => lN (sk_nb (f.2.2.2.2.2.1 i))) (fun i => sk_bI (f.2.2.2.2.2.2 i)) wt) H := hP.kept (fun j q hq => hk q.1 ((hP j q hq).lt) (fun h => h))
    clear hk hB ht
    rcases sk_bI_or (sk_hasB b.1 x) with ⟨h7, hv⟩ | ⟨h7, hv⟩
    · skip
      obtain rfl : r7 = nI 1 := w7.trans hv
      refine lv_if_eq (tgt := 17) hx hb dO_canBePrototype_10 (by decide) (fun q => absurd q (by decide)) (fun _ => ?_)
      refine lv_iconst (v := nI 1) hx hb dO_canBePrototype_13 (by decide) ?_
      refine lv_goto (tgt := 18) hx hb dO_canBePrototype_14 (by decide) ?_
      exact W.zret (v := nI 1) hx hb hr (by decide) (fun U9 ht hW => ⟨⟨nI 1, (), rfl, sk_canP_t2 h7, trivial⟩, hS.F ht⟩) hS.2.2 dO_canBePrototype_18
    · skip
      obtain rfl : r7 = nI 0 := w7.trans hv
      refine lv_if_eq (tgt := 17) hx hb dO_canBePrototype_10 (by decide) (fun _ => ?_) (fun q => absurd (by decide) q)
      refine lv_iconst (v := nI 0) hx hb dO_canBePrototype_17 (by decide) ?_
      exact W.zret (v := nI 0) hx hb hr (by decide) (fun U9 ht hW => ⟨⟨nI 0, (), rfl, sk_canP_f c2 h7, trivial⟩, hS.F ht⟩) hS.2.2 dO_canBePrototype_18
abbrev wzO_add : List Cond := .code yO_add cO_add 4 (some .int) :: sk_W
abbrev rzO_add : Room := { frames := 0, cells := 0, slots := 0, locals := 0 }
set_option maxHeartbeats 4000000 in
set_option maxRecDepth 100000 in
theorem kO_add (l : Launch) (dC : Nat → ClassId) (dI : Nat → Nat → Nat) (a : Nat → Nat) (k : Nat → ClassId) (b : sk_Ob) (t : sk_Tr) (f : sk_Fi) (wt : sk_F) (A : Nat → Prop) (x y : Int32) (hn : b.1 < 60) : Met l yO_add wzO_add rzO_add (va_Pc [.ref (a 1), .int x, .int y] (fun U => sk_PX dC dI a k (b, t, f) wt U ∧ va_D A (sk_wX a k (b, t, f) wt))) (va_Qi (fun r (u : sk_S × sk_F) => r = nI b.1 ∧ u = (((b.1 + 1, upd b.2.1 b.1 x, upd b.2.2.1 b.1 y, b.2.2.2.1, b.2.2.2.2), t, f), wt)) (fun u U => va_P (dC, dI) vwCl (sk_wX a k u.1 u.2) U.heap ∧ va_D A (sk_wX a k u.1 u.2)) A) 0 0 A := by
  refine Met.ofW (cc := cO_add) (maxL := 4) (ret := (some .int)) (by decide) rfl ?_
  intro p e s m args below meth c s₁ B hml hv
  obtain ⟨rfl, ⟨hP, hK, hN⟩, hD⟩ := hv
  have hx := B.exec
  have hb := B.bytes
  have hr := B.returns
  have hts : ∀ w ∈ sk_W, w.before ([.ref (a 1), .int x, .int y] : List Value).toArray s = true := fun w h => atoms_spec (ws := wzO_add) B.pre w (List.mem_cons_of_mem _ h)
  have hown : s.vm.findClass RO = some m.cls := findClass_of_methodNamed B.named
  have hlocks := B.notSynchronized
  have hS : va_S A s.heap s.heap [] := va_S.rf
  have hP : va_P (dC, dI) vwCl (sk_wR a k (nI b.1) b.2.1 b.2.2.1 b.2.2.2.1 b.2.2.2.2 (nI t.1) t.2.1 t.2.2.1 t.2.2.2.1 t.2.2.2.2 (nI f.1) (nI (sk_there f)) (nI (f.1 % 100)) f.2.1 f.2.2.1 f.2.2.2.1 f.2.2.2.2.1 (fun i => lN (sk_nb (f.2.2.2.2.2.1 i))) (fun i => sk_bI (f.2.2.2.2.2.2 i)) wt) s.heap := hP
  have hD : va_D A (sk_wR a k (nI b.1) b.2.1 b.2.2.1 b.2.2.2.1 b.2.2.2.2 (nI t.1) t.2.1 t.2.2.1 t.2.2.2.1 t.2.2.2.2 (nI f.1) (nI (sk_there f)) (nI (f.1 % 100)) f.2.1 f.2.2.1 f.2.2.2.1 f.2.2.2.2.1 (fun i => lN (sk_nb (f.2.2.2.2.2.1 i))) (fun i => sk_bI (f.2.2.2.2.2.2 i)) wt) := hD
  have hl := lv_entry ([.ref (a 1), .int x, .int y]) (n := 4) (Nat.le_of_ble_eq_true rfl)
  rw [lg_entry_eq]
  generalize (lg_sl ([.ref (a 1), .int x, .int y]) ++ List.replicate (4 - (lg_sl ([.ref (a 1), .int x, .int y])).length) Slot.unset).toArray = ls at hl ⊢
  have hl : lv_has ls 4 [(0, .ref (a 1)), (1, .int x), (2, .int y)] := hl
  refine lv_aload_n hx hb dO_add_0 rfl (lv_at hl 0 rfl) ?_
  refine va_get (D := (dC, dI)) (ci := 1) (v := .int (nI b.1)) (C := RO) (T := TO) (N := 5) hx hb hts inO hown hK hP 1 rfl rfl 4 (by decide) (hts _ wfO_26) (fun _ h9 => h9) rfl dO_add_1 ?_
  refine lv_istore_n (lv' := [(3, .int (nI b.1)), (0, .ref (a 1)), (1, .int x), (2, .int y)]) hx hb dO_add_4 rfl hl (by decide) rfl (fun ls hl => ?_)
  refine lv_aload_n hx hb dO_add_5 rfl (lv_at hl 1 rfl) ?_
  refine va_get (D := (dC, dI)) (ci := 1) (v := .ref (a 5)) (C := RO) (T := TO) (N := 5) hx hb hts inO hown hK hP 1 rfl rfl 0 (by decide) (hts _ wfO_9) (fun _ h9 => h9) rfl dO_add_6 ?_
  refine lv_iload_n hx hb dO_add_9 rfl (lv_at hl 0 rfl) ?_
  refine lv_iload_n hx hb dO_add_10 rfl (lv_at hl 2 rfl) ?_
  refine va_iast hx hb hK hP hD hS 5 0 rfl rfl (vp_in_nI (show b.1 < 60 by omega) (by decide)) dO_add_11 (fun H locs hP hD hS => ?_)
  rw [nI_clamp (show b.1 < 2 ^ 31 by omega)] at hP hD
  have hP : va_P (dC, dI) vwCl (sk_wR a k (nI b.1) (upd b.2.1 b.1 x) b.2.2.1 b.2.2.2.1 b.2.2.2.2 (nI t.1) t.2.1 t.2.2.1 t.2.2.2.1 t.2.2.2.2 (nI f.1) (nI (sk_there f)) (nI (f.1 % 100)) f.2.1 f.2.2.1 f.2.2.2.1 f.2.2.2.2.1 (fun i => lN (sk_nb (f.2.2.2.2.2.1 i))) (fun i => sk_bI (f.2.2.2.2.2.2 i)) wt) H := hP
  have hD : va_D A (sk_wR a k (nI b.1) (upd b.2.1 b.1 x) b.2.2.1 b.2.2.2.1 b.2.2.2.2 (nI t.1) t.2.1 t.2.2.1 t.2.2.2.1 t.2.2.2.2 (nI f.1) (nI (sk_there f)) (nI (f.1 % 100)) f.2.1 f.2.2.1 f.2.2.2.1 f.2.2.2.2.1 (fun i => lN (sk_nb (f.2.2.2.2.2.1 i))) (fun i => sk_bI (f.2.2.2.2.2.2 i)) wt) := hD
  refine lv_aload_n hx hb dO_add_12 rfl (lv_at hl 1 rfl) ?_
  refine va_get (D := (dC, dI)) (ci := 1) (v := .ref (a 6)) (C := RO) (T := TO) (N := 5) hx hb hts inO hown hK hP 1 rfl rfl 1 (by decide) (hts _ wfO_15) (fun _ h9 => h9) rfl dO_add_13 ?_
  refine lv_iload_n hx hb dO_add_16 rfl (lv_at hl 0 rfl) ?_
  refine lv_iload_n hx hb dO_add_17 rfl (lv_at hl 3 rfl) ?_
  refine va_iast hx hb hK hP hD hS 6 0 rfl rfl (vp_in_nI (show b.1 < 60 by omega) (by decide)) dO_add_18 (fun H locs hP hD hS => ?_)
  rw [nI_clamp (show b.1 < 2 ^ 31 by omega)] at hP hD
  have hP : va_P (dC, dI) vwCl (sk_wR a k (nI b.1) (upd b.2.1 b.1 x) (upd b.2.2.1 b.1 y) b.2.2.2.1 b.2.2.2.2 (nI t.1) t.2.1 t.2.2.1 t.2.2.2.1 t.2.2.2.2 (nI f.1) (nI (sk_there f)) (nI (f.1 % 100)) f.2.1 f.2.2.1 f.2.2.2.1 f.2.2.2.2.1 (fun i => lN (sk_nb (f.2.2.2.2.2.1 i))) (fun i => sk_bI (f.2.2.2.2.2.2 i)) wt) H := hP
  have hD : va_D A (sk_wR a k (nI b.1) (upd b.2.1 b.1 x) (upd b.2.2.1 b.1 y) b.2.2.2.1 b.2.2.2.2 (nI t.1) t.2.1 t.2.2.1 t.2.2.2.1 t.2.2.2.2 (nI f.1) (nI (sk_there f)) (nI (f.1 % 100)) f.2.1 f.2.2.1 f.2.2.2.1 f.2.2.2.2.1 (fun i => lN (sk_nb (f.2.2.2.2.2.1 i))) (fun i => sk_bI (f.2.2.2.2.2.2 i)) wt) := hD
  refine lv_aload_n hx hb dO_add_19 rfl (lv_at hl 1 rfl) ?_
  refine lv_dup hx hb dO_add_20 rfl ?_
  refine va_get (D := (dC, dI)) (ci := 1) (v := .int (nI b.1)) (C := RO) (T := TO) (N := 5) hx hb hts inO hown hK hP 1 rfl rfl 4 (by decide) (hts _ wfO_26) (fun _ h9 => h9) rfl dO_add_21 ?_
  refine lv_iconst (v := nI 1) hx hb dO_add_24 (by decide) ?_
  refine lv_iadd hx hb dO_add_25 ?_
  refine lv_topi (fun x25 e25 => ?_)
  obtain rfl : x25 = nI (b.1 + 1) := e25.trans (nI_add _ _)
  refine va_put (D := (dC, dI)) (ci := 1) (v := .int (nI (b.1 + 1))) (ty := .int) (C := RO) (T := TO) (N := 5) hx hb hts inO tyO tyO_ok nmO hown hK hP hD hS 1 rfl rfl 4 (by decide) (hts _ wfO_26) (fun _ h9 => h9) rfl (by decide +kernel) rfl rfl (Nat.le_of_ble_eq_true rfl) dO_add_26 (fun H locs hP hD hS => ?_)
  have hP : va_P (dC, dI) vwCl (sk_wR a k (nI (b.1 + 1)) (upd b.2.1 b.1 x) (upd b.2.2.1 b.1 y) b.2.2.2.1 b.2.2.2.2 (nI t.1) t.2.1 t.2.2.1 t.2.2.2.1 t.2.2.2.2 (nI f.1) (nI (sk_there f)) (nI (f.1 % 100)) f.2.1 f.2.2.1 f.2.2.2.1 f.2.2.2.2.1 (fun i => lN (sk_nb (f.2.2.2.2.2.1 i))) (fun i => sk_bI (f.2.2.2.2.2.2 i)) wt) H := hP
  have hD : va_D A (sk_wR a k (nI (b.1 + 1)) (upd b.2.1 b.1 x) (upd b.2.2.1 b.1 y) b.2.2.2.1 b.2.2.2.2 (nI t.1) t.2.1 t.2.2.1 t.2.2.2.1 t.2.2.2.2 (nI f.1) (nI (sk_there f)) (nI (f.1 % 100)) f.2.1 f.2.2.1 f.2.2.2.1 f.2.2.2.2.1 (fun i => lN (sk_nb (f.2.2.2.2.2.1 i))) (fun i => sk_bI (f.2.2.2.2.2.2 i)) wt) := hD
  refine lv_iload_n hx hb dO_add_29 rfl (lv_at hl 0 rfl) ?_
  exact W.iret (v := nI b.1) hx hb hr (fun U9 ht hW => ⟨⟨nI b.1, (((b.1 + 1, upd b.2.1 b.1 x, upd b.2.2.1 b.1 y, b.2.2.2.1, b.2.2.2.2), t, f), wt), rfl, ⟨rfl, rfl⟩, sk_endw ht hP hD⟩, hS.F ht⟩) hS.2.2 dO_add_30
abbrev wzO_closeGap : List Cond := .code yO_closeGap cO_closeGap 4 none :: sk_W
abbrev rzO_closeGap : Room := { frames := 0, cells := 0, slots := 0, locals := 0 }
set_option maxHeartbeats 4000000 in
set_option maxRecDepth 100000 in
theorem kO_closeGap (l : Launch) (dC : Nat → ClassId) (dI : Nat → Nat → Nat) (a : Nat → Nat) (k : Nat → ClassId) (b : sk_Ob) (t : sk_Tr) (f : sk_Fi) (wt : sk_F) (A : Nat → Prop) (o g : Nat) (ho : o < 60) (hg : g < 12) : Met l yO_closeGap wzO_closeGap rzO_closeGap (va_Pc [.ref (a 1), .int (nI o), .int (nI g)] (fun U => sk_PX dC dI a k (b, t, f) wt U ∧ va_D A (sk_wX a k (b, t, f) wt))) (va_Qv (fun (u : sk_S × sk_F) => u = ((sk_gap b o g, t, f), wt)) (fun u U => va_P (dC, dI) vwCl (sk_wX a k u.1 u.2) U.heap ∧ va_D A (sk_wX a k u.1 u.2)) A) 0 0 A := by
  refine Met.ofW (cc := cO_closeGap) (maxL := 4) (ret := none) (by decide) rfl ?_
  intro p e s m args below meth c s₁ B hml hv
  obtain ⟨rfl, ⟨hP, hK, hN⟩, hD⟩ := hv
  have hx := B.exec
  have hb := B.bytes
  have hr := B.returns
  have hts : ∀ w ∈ sk_W, w.before ([.ref (a 1), .int (nI o), .int (nI g)] : List Value).toArray s = true := fun w h => atoms_spec (ws := wzO_closeGap) B.pre w (List.mem_cons_of_mem _ h)
  have hown : s.vm.findClass RO = some m.cls := findClass_of_methodNamed B.named
  have hlocks := B.notSynchronized
  have hS : va_S A s.heap s.heap [] := va_S.rf
  have hP : va_P (dC, dI) vwCl (sk_wR a k (nI b.1) b.2.1 b.2.2.1 b.2.2.2.1 b.2.2.2.2 (nI t.1) t.2.1 t.2.2.1 t.2.2.2.1 t.2.2.2.2 (nI f.1) (nI (sk_there f)) (nI (f.1 % 100)) f.2.1 f.2.2.1 f.2.2.2.1 f.2.2.2.2.1 (fun i => lN (sk_nb (f.2.2.2.2.2.1 i))) (fun i => sk_bI (f.2.2.2.2.2.2 i)) wt) s.heap := hP
  have hD : va_D A (sk_wR a k (nI b.1) b.2.1 b.2.2.1 b.2.2.2.1 b.2.2.2.2 (nI t.1) t.2.1 t.2.2.1 t.2.2.2.1 t.2.2.2.2 (nI f.1) (nI (sk_there f)) (nI (f.1 % 100)) f.2.1 f.2.2.1 f.2.2.2.1 f.2.2.2.2.1 (fun i => lN (sk_nb (f.2.2.2.2.2.1 i))) (fun i => sk_bI (f.2.2.2.2.2.2 i)) wt) := hD
  have hl := lv_entry ([.ref (a 1), .int (nI o), .int (nI g)]) (n := 4) (Nat.le_of_ble_eq_true rfl)
  rw [lg_entry_eq]
  generalize (lg_sl ([.ref (a 1), .int (nI o), .int (nI g)]) ++ List.replicate (4 - (lg_sl ([.ref (a 1), .int (nI o), .int (nI g)])).length) Slot.unset).toArray = ls at hl ⊢
  have hl : lv_has ls 4 [(0, .ref (a 1)), (1, .int (nI o)), (2, .int (nI g))] := hl
  refine lv_iload_n hx hb dO_closeGap_0 rfl (lv_at hl 2 rfl) ?_
  refine lv_istore_n (lv' := [(3, .int (nI g)), (0, .ref (a 1)), (1, .int (nI o)), (2, .int (nI g))]) hx hb dO_closeGap_1 rfl hl (by decide) rfl (fun ls hl => ?_)
  have loop1 : ∀ (nn : Nat) (i : Nat), g ≤ i → i ≤ 11 → 11 - i < nn → ∀ (H : Heap) (locs : List Loc), va_P (dC, dI) vwCl (sk_wR a k (nI (b.1, b.2.1, b.2.2.1, b.2.2.2.1, va_up b.2.2.2.2 o (sk_shf (b.2.2.2.2 o) g i)).1) ((b.1, b.2.1, b.2.2.1, b.2.2.2.1, va_up b.2.2.2.2 o (sk_shf (b.2.2.2.2 o) g i)).2.1) ((b.1, b.2.1, b.2.2.1, b.2.2.2.1, va_up b.2.2.2.2 o (sk_shf (b.2.2.2.2 o) g i)).2.2.1) ((b.1, b.2.1, b.2.2.1, b.2.2.2.1, va_up b.2.2.2.2 o (sk_shf (b.2.2.2.2 o) g i)).2.2.2.1) ((b.1, b.2.1, b.2.2.1, b.2.2.2.1, va_up b.2.2.2.2 o (sk_shf (b.2.2.2.2 o) g i)).2.2.2.2) (nI t.1) t.2.1 t.2.2.1 t.2.2.2.1 t.2.2.2.2 (nI f.1) (nI (sk_there f)) (nI (f.1 % 100)) f.2.1 f.2.2.1 f.2.2.2.1 f.2.2.2.2.1 (fun i => lN (sk_nb (f.2.2.2.2.2.1 i))) (fun i => sk_bI (f.2.2.2.2.2.2 i)) wt) H → va_D A (sk_wR a k (nI (b.1, b.2.1, b.2.2.1, b.2.2.2.1, va_up b.2.2.2.2 o (sk_shf (b.2.2.2.2 o) g i)).1) ((b.1, b.2.1, b.2.2.1, b.2.2.2.1, va_up b.2.2.2.2 o (sk_shf (b.2.2.2.2 o) g i)).2.1) ((b.1, b.2.1, b.2.2.1, b.2.2.2.1, va_up b.2.2.2.2 o (sk_shf (b.2.2.2.2 o) g i)).2.2.1) ((b.1, b.2.1, b.2.2.1, b.2.2.2.1, va_up b.2.2.2.2 o (sk_shf (b.2.2.2.2 o) g i)).2.2.2.1) ((b.1, b.2.1, b.2.2.1, b.2.2.2.1, va_up b.2.2.2.2 o (sk_shf (b.2.2.2.2 o) g i)).2.2.2.2) (nI t.1) t.2.1 t.2.2.1 t.2.2.2.1 t.2.2.2.2 (nI f.1) (nI (sk_there f)) (nI (f.1 % 100)) f.2.1 f.2.2.1 f.2.2.2.1 f.2.2.2.2.1 (fun i => lN (sk_nb (f.2.2.2.2.2.1 i))) (fun i => sk_bI (f.2.2.2.2.2.2 i)) wt) → va_S A s.heap H locs → ∀ ls : Array Slot, lv_has ls 4 [(3, .int (nI i)), (0, .ref (a 1)), (1, .int (nI o)), (2, .int (nI g))] → W p l e (headSpec wzO_closeGap rzO_closeGap).room s m ([.ref (a 1), .int (nI o), .int (nI g)] : List Value).toArray below meth c H locs 0 0 (MQ below (va_Qv (fun (u : sk_S × sk_F) => u = ((sk_gap b o g, t, f), wt)) (fun u U => va_P (dC, dI) vwCl (sk_wX a k u.1 u.2) U.heap ∧ va_D A (sk_wX a k u.1 u.2)) A) ([.ref (a 1), .int (nI o), .int (nI g)] : List Value).toArray s 0 0 A) (F0 m 2 ls []) := by
    intro nn
    induction nn with
    | zero => intro i hi hi2 hmu; exact absurd hmu (Nat.not_lt_zero _)
    | succ nn ih1 =>
      intro i hi hi2 hmu H locs hP hD hS ls hl
      refine lv_iload_n hx hb dO_closeGap_2 rfl (lv_at hl 0 rfl) ?_
      refine lv_iconst (v := nI 1) hx hb dO_closeGap_3 (by decide) ?_
      refine lv_iadd hx hb dO_closeGap_4 ?_
      refine lv_topi (fun x4 e4 => ?_)
      obtain rfl : x4 = nI (i + 1) := e4.trans (nI_add _ _)
      refine lv_bipush (v := nI 12) hx hb dO_closeGap_5 (by decide) ?_
      refine lv_icmp_ge (tgt := 34) hx hb dO_closeGap_7 (by decide) (fun c7 => ?_) (fun c7 => ?_)
      · skip
        have n7 : 12 ≤ (i + 1) := (nI_leI (by omega) (by omega)).mp c7
        have hi11 : i = 11 := by omega
        subst hi11
        exact W.vret hx hb hr (fun U9 ht hW => ⟨⟨(((b.1, b.2.1, b.2.2.1, b.2.2.2.1, va_up b.2.2.2.2 o (sk_shf (b.2.2.2.2 o) g 11)), t, f), wt), rfl, rfl, sk_endw ht hP hD⟩, hS.F ht⟩) hS.2.2 dO_closeGap_34
      · skip
        have n7 : ¬ 12 ≤ (i + 1) := fun q => c7 ((nI_leI (by omega) (by omega)).mpr q)
        refine lv_aload_n hx hb dO_closeGap_10 rfl (lv_at hl 1 rfl) ?_
        refine va_get (D := (dC, dI)) (ci := 1) (v := .ref (a 8)) (C := RO) (T := TO) (N := 5) hx hb hts inO hown hK hP 1 rfl rfl 3 (by decide) (hts _ wfO_23) (fun _ h9 => h9) rfl dO_closeGap_11 ?_
        refine lv_iload_n hx hb dO_closeGap_14 rfl (lv_at hl 2 rfl) ?_
        refine sk_aald hx hb hK hP (show o < 60 by omega) dO_closeGap_15 ?_
        refine lv_iload_n hx hb dO_closeGap_16 rfl (lv_at hl 0 rfl) ?_
        refine lv_aload_n hx hb dO_closeGap_17 rfl (lv_at hl 1 rfl) ?_
        refine va_get (D := (dC, dI)) (ci := 1) (v := .ref (a 8)) (C := RO) (T := TO) (N := 5) hx hb hts inO hown hK hP 1 rfl rfl 3 (by decide) (hts _ wfO_23) (fun _ h9 => h9) rfl dO_closeGap_18 ?_
        refine lv_iload_n hx hb dO_closeGap_21 rfl (lv_at hl 2 rfl) ?_
        refine sk_aald hx hb hK hP (show o < 60 by omega) dO_closeGap_22 ?_
        refine lv_iload_n hx hb dO_closeGap_23 rfl (lv_at hl 0 rfl) ?_
        refine lv_iconst (v := nI 1) hx hb dO_closeGap_24 (by decide) ?_
        refine lv_iadd hx hb dO_closeGap_25 ?_
        refine lv_topi (fun x25 e25 => ?_)
        obtain rfl : x25 = nI (i + 1) := e25.trans (nI_add _ _)
        refine va_iald hx hb hK hP (19 + o) 0 (sk_row_get (show o < 60 by omega)) rfl (vp_in_nI (show (i + 1) < 12 by omega) (by decide)) dO_closeGap_26 ?_
        refine lv_topi (fun x26 e26 => ?_)
        rw [nI_clamp (show (i + 1) < 2 ^ 31 by omega)] at e26
        refine va_iast hx hb hK hP hD hS (19 + o) 0 (sk_row_get (show o < 60 by omega)) rfl (vp_in_nI (show i < 12 by omega) (by decide)) dO_closeGap_27 (fun H locs hP hD hS => ?_)
        rw [nI_clamp (show i < 2 ^ 31 by omega), sk_row_set (show o < 60 by omega)] at hP hD
        have hP : va_P (dC, dI) vwCl (sk_wR a k (nI (b.1, b.2.1, b.2.2.1, b.2.2.2.1, va_up b.2.2.2.2 o (sk_shf (b.2.2.2.2 o) g i)).1) ((b.1, b.2.1, b.2.2.1, b.2.2.2.1, va_up b.2.2.2.2 o (sk_shf (b.2.2.2.2 o) g i)).2.1) ((b.1, b.2.1, b.2.2.1, b.2.2.2.1, va_up b.2.2.2.2 o (sk_shf (b.2.2.2.2 o) g i)).2.2.1) ((b.1, b.2.1, b.2.2.1, b.2.2.2.1, va_up b.2.2.2.2 o (sk_shf (b.2.2.2.2 o) g i)).2.2.2.1) (va_up ((b.1, b.2.1, b.2.2.1, b.2.2.2.1, va_up b.2.2.2.2 o (sk_shf (b.2.2.2.2 o) g i)).2.2.2.2) o (upd (((b.1, b.2.1, b.2.2.1, b.2.2.2.1, va_up b.2.2.2.2 o (sk_shf (b.2.2.2.2 o) g i)).2.2.2.2) o) i x26)) (nI t.1) t.2.1 t.2.2.1 t.2.2.2.1 t.2.2.2.2 (nI f.1) (nI (sk_there f)) (nI (f.1 % 100)) f.2.1 f.2.2.1 f.2.2.2.1 f.2.2.2.2.1 (fun i => lN (sk_nb (f.2.2.2.2.2.1 i))) (fun i => sk_bI (f.2.2.2.2.2.2 i)) wt) H := hP
        have hD : va_D A (sk_wR a k (nI (b.1, b.2.1, b.2.2.1, b.2.2.2.1, va_up b.2.2.2.2 o (sk_shf (b.2.2.2.2 o) g i)).1) ((b.1, b.2.1, b.2.2.1, b.2.2.2.1, va_up b.2.2.2.2 o (sk_shf (b.2.2.2.2 o) g i)).2.1) ((b.1, b.2.1, b.2.2.1, b.2.2.2.1, va_up b.2.2.2.2 o (sk_shf (b.2.2.2.2 o) g i)).2.2.1) ((b.1, b.2.1, b.2.2.1, b.2.2.2.1, va_up b.2.2.2.2 o (sk_shf (b.2.2.2.2 o) g i)).2.2.2.1) (va_up ((b.1, b.2.1, b.2.2.1, b.2.2.2.1, va_up b.2.2.2.2 o (sk_shf (b.2.2.2.2 o) g i)).2.2.2.2) o (upd (((b.1, b.2.1, b.2.2.1, b.2.2.2.1, va_up b.2.2.2.2 o (sk_shf (b.2.2.2.2 o) g i)).2.2.2.2) o) i x26)) (nI t.1) t.2.1 t.2.2.1 t.2.2.2.1 t.2.2.2.2 (nI f.1) (nI (sk_there f)) (nI (f.1 % 100)) f.2.1 f.2.2.1 f.2.2.2.1 f.2.2.2.2.1 (fun i => lN (sk_nb (f.2.2.2.2.2.1 i))) (fun i => sk_bI (f.2.2.2.2.2.2 i)) wt) := hD
        refine lv_iinc (v := nI (i + 1)) (lv' := [(3, .int (nI (i + 1))), (0, .ref (a 1)), (1, .int (nI o)), (2, .int (nI g))]) hx hb dO_closeGap_28 hl (k := 0) rfl (sk_inc _) (by decide) rfl (fun ls hl => ?_)
        refine lv_goto (tgt := 2) hx hb dO_closeGap_31 (by decide) ?_
        rw [sk_upup, show upd (va_up b.2.2.2.2 o (sk_shf (b.2.2.2.2 o) g i) o) i x26 = sk_shf (b.2.2.2.2 o) g (i + 1) by rw [e26]; show upd (va_up b.2.2.2.2 o (sk_shf (b.2.2.2.2 o) g i) o) i (va_up b.2.2.2.2 o (sk_shf (b.2.2.2.2 o) g i) o (i + 1)) = _; rw [va_up_self]; exact sk_shf_s hi] at hP hD
        exact ih1 (i + 1) (by omega) (by omega) (by omega) _ _ hP hD hS ls (lv_sub hl [0, 1, 2, 3] rfl)
  rw [show b.2.2.2.2 = va_up b.2.2.2.2 o (sk_shf (b.2.2.2.2 o) g g) by rw [sk_shf_0, sk_upsame]] at hP hD
  exact loop1 (11 - g + 1) g (Nat.le_refl _) (by omega) (Nat.lt_succ_self _) _ _ hP hD hS ls (lv_sub hl [0, 1, 2, 3] rfl)
abbrev wzO_leadsTo : List Cond := .code yO_leadsTo cO_leadsTo 5 (some .boolean) :: sk_W
abbrev rzO_leadsTo : Room := { frames := 0, cells := 0, slots := 0, locals := 0 }
set_option maxHeartbeats 4000000 in
set_option maxRecDepth 100000 in
theorem kO_leadsTo (l : Launch) (dC : Nat → ClassId) (dI : Nat → Nat → Nat) (a : Nat → Nat) (k : Nat → ClassId) (b : sk_Ob) (t : sk_Tr) (f : sk_Fi) (wt : sk_F) (x : Int32) (o : Nat) (hA : sk_AC b.1 b.2.1) (hx9 : sk_v b.1 x) (ho : o < b.1) : Met l yO_leadsTo wzO_leadsTo rzO_leadsTo (va_Pc [.ref (a 1), .int x, .int (nI o)] (sk_PX dC dI a k (b, t, f) wt)) (va_Qi (fun r (_ : Unit) => r = sk_bI (decide (o ∈ sk_abv b.2.1 x))) (fun _ _ => True) (fun _ => False)) 0 0 (fun _ => False) := by
  refine Met.ofW (cc := cO_leadsTo) (maxL := 5) (ret := (some .boolean)) (by decide) rfl ?_
  intro p e s m args below meth c s₁ B hml hv
  obtain ⟨rfl, hP, hK, hN⟩ := hv
  have hx := B.exec
  have hb := B.bytes
  have hr := B.returns
  have hts : ∀ w ∈ sk_W, w.before ([.ref (a 1), .int x, .int (nI o)] : List Value).toArray s = true := fun w h => atoms_spec (ws := wzO_leadsTo) B.pre w (List.mem_cons_of_mem _ h)
  have hown : s.vm.findClass RO = some m.cls := findClass_of_methodNamed B.named
  have hlocks := B.notSynchronized
  have hS : va_S (fun _ => False) s.heap s.heap [] := va_S.rf
  have hP : va_P (dC, dI) vwCl (sk_wR a k (nI b.1) b.2.1 b.2.2.1 b.2.2.2.1 b.2.2.2.2 (nI t.1) t.2.1 t.2.2.1 t.2.2.2.1 t.2.2.2.2 (nI f.1) (nI (sk_there f)) (nI (f.1 % 100)) f.2.1 f.2.2.1 f.2.2.2.1 f.2.2.2.2.1 (fun i => lN (sk_nb (f.2.2.2.2.2.1 i))) (fun i => sk_bI (f.2.2.2.2.2.2 i)) wt) s.heap := hP
  have hl := lv_entry ([.ref (a 1), .int x, .int (nI o)]) (n := 5) (Nat.le_of_ble_eq_true rfl)
  rw [lg_entry_eq]
  generalize (lg_sl ([.ref (a 1), .int x, .int (nI o)]) ++ List.replicate (5 - (lg_sl ([.ref (a 1), .int x, .int (nI o)])).length) Slot.unset).toArray = ls at hl ⊢
  have hl : lv_has ls 5 [(0, .ref (a 1)), (1, .int x), (2, .int (nI o))] := hl
  have h60 : b.1 ≤ 60 := hA.1
  refine lv_iload_n hx hb dO_leadsTo_0 rfl (lv_at hl 1 rfl) ?_
  refine lv_istore_n (lv' := [(3, .int x), (0, .ref (a 1)), (1, .int x), (2, .int (nI o))]) hx hb dO_leadsTo_1 rfl hl (by decide) rfl (fun ls hl => ?_)
  refine lv_iconst (v := nI 0) hx hb dO_leadsTo_2 (by decide) ?_
  refine lv_istore (lv' := [(4, .int (nI 0)), (3, .int x), (0, .ref (a 1)), (1, .int x), (2, .int (nI o))]) hx hb dO_leadsTo_3 hl (by decide) rfl (fun ls hl => ?_)
  have loop1 : ∀ (nn : Nat) (z : Int32) (st : Nat), sk_v b.1 z → st + (sk_abv b.2.1 z).length ≤ 60 → decide (o ∈ sk_abv b.2.1 z) = decide (o ∈ sk_abv b.2.1 x) → (sk_abv b.2.1 z).length < nn → ∀ ls : Array Slot, lv_has ls 5 [(4, .int (nI st)), (3, .int z), (0, .ref (a 1)), (1, .int x), (2, .int (nI o))] → W p l e (headSpec wzO_leadsTo rzO_leadsTo).room s m ([.ref (a 1), .int x, .int (nI o)] : List Value).toArray below meth c s.heap [] 0 0 (MQ below (va_Qi (fun r (_ : Unit) => r = sk_bI (decide (o ∈ sk_abv b.2.1 x))) (fun _ _ => True) (fun _ => False)) ([.ref (a 1), .int x, .int (nI o)] : List Value).toArray s 0 0 (fun _ => False)) (F0 m 5 ls []) := by
    intro nn
    induction nn with
    | zero => intro z st hz hst he hmu; exact absurd hmu (Nat.not_lt_zero _)
    | succ nn ih1 =>
      intro z st hz hst he hmu ls hl
      rcases hz with rfl | ⟨q, hq, rfl⟩
      · skip
        refine lv_iload_n hx hb dO_leadsTo_5 rfl (lv_at hl 1 rfl) ?_
        refine lv_iconst (v := (-1)) hx hb dO_leadsTo_6 (by decide) ?_
        refine lv_icmp_eq (tgt := 37) hx hb dO_leadsTo_7 (by decide) (fun _ => ?_) (fun q => absurd (by decide) q)
        refine lv_iconst (v := nI 0) hx hb dO_leadsTo_37 (by decide) ?_
        exact W.zret (v := nI 0) hx hb hr (by decide) (fun U9 ht hW => ⟨⟨nI 0, (), rfl, by rw [← he, sk_abv_m1, decide_eq_false List.not_mem_nil]; rfl, trivial⟩, hS.F ht⟩) hS.2.2 dO_leadsTo_38
      · skip
        have hs9 := sk_abv_s hA hq
        have hl9 : (sk_abv b.2.1 (nI q)).length = (sk_abv b.2.1 (b.2.1 q)).length + 1 := by rw [hs9]; rfl
        refine lv_iload_n hx hb dO_leadsTo_5 rfl (lv_at hl 1 rfl) ?_
        refine lv_iconst (v := (-1)) hx hb dO_leadsTo_6 (by decide) ?_
        refine lv_icmp_eq (tgt := 37) hx hb dO_leadsTo_7 (by decide) (fun c7 => ?_) (fun c7 => ?_)
        · skip
          exact absurd c7 (sk_nm1 (by omega))
        · skip
          refine lv_iload hx hb dO_leadsTo_10 (lv_at hl 0 rfl) ?_
          refine lv_bipush (v := nI 60) hx hb dO_leadsTo_12 (by decide) ?_
          refine lv_icmp_ge (tgt := 37) hx hb dO_leadsTo_14 (by decide) (fun c14 => ?_) (fun c14 => ?_)
          · skip
            have n14 : 60 ≤ st := (nI_leI (by omega) (by omega)).mp c14
            omega
          · skip
            have n14 : ¬ 60 ≤ st := fun q => c14 ((nI_leI (by omega) (by omega)).mpr q)
            refine lv_iload_n hx hb dO_leadsTo_17 rfl (lv_at hl 1 rfl) ?_
            refine lv_iload_n hx hb dO_leadsTo_18 rfl (lv_at hl 4 rfl) ?_
            refine lv_icmp_ne (tgt := 24) hx hb dO_leadsTo_19 (by decide) (fun c19 => ?_) (fun c19 => ?_)
            · skip
              have n19 : ¬ q = o := fun q => c19 ((nI_eq (by omega) (by omega)).mpr q)
              refine lv_aload_n hx hb dO_leadsTo_24 rfl (lv_at hl 2 rfl) ?_
              refine va_get (D := (dC, dI)) (ci := 1) (v := .ref (a 5)) (C := RO) (T := TO) (N := 5) hx hb hts inO hown hK hP 1 rfl rfl 0 (by decide) (hts _ wfO_9) (fun _ h9 => h9) rfl dO_leadsTo_25 ?_
              refine lv_iload_n hx hb dO_leadsTo_28 rfl (lv_at hl 1 rfl) ?_
              refine va_iald hx hb hK hP 5 0 rfl rfl (vp_in_nI (show q < 60 by omega) (by decide)) dO_leadsTo_29 ?_
              refine lv_topi (fun x29 e29 => ?_)
              rw [nI_clamp (show q < 2 ^ 31 by omega)] at e29
              refine lv_istore_n (lv' := [(3, .int x29), (4, .int (nI st)), (0, .ref (a 1)), (1, .int x), (2, .int (nI o))]) hx hb dO_leadsTo_30 rfl hl (by decide) rfl (fun ls hl => ?_)
              refine lv_iinc (v := nI (st + 1)) (lv' := [(4, .int (nI (st + 1))), (3, .int x29), (0, .ref (a 1)), (1, .int x), (2, .int (nI o))]) hx hb dO_leadsTo_31 hl (k := 1) rfl (sk_inc _) (by decide) rfl (fun ls hl => ?_)
              refine lv_goto (tgt := 5) hx hb dO_leadsTo_34 (by decide) ?_
              have hmx : (sk_abv b.2.1 x29).length < nn := by rw [e29]; omega
              exact ih1 x29 (st + 1) (by rw [e29]; exact hA.2.1 q hq) (by rw [e29]; omega) (by rw [e29, ← he, hs9]; simp [show ¬ o = q from fun z9 => n19 z9.symm]) (by omega) ls (lv_sub hl [0, 1, 2, 3, 4] rfl)
            · skip
              have n19 : q = o := (nI_eq (by omega) (by omega)).mp c19
              refine lv_iconst (v := nI 1) hx hb dO_leadsTo_22 (by decide) ?_
              exact W.zret (v := nI 1) hx hb hr (by decide) (fun U9 ht hW => ⟨⟨nI 1, (), rfl, by rw [← he, hs9, n19, decide_eq_true List.mem_cons_self]; rfl, trivial⟩, hS.F ht⟩) hS.2.2 dO_leadsTo_23
  exact loop1 ((sk_abv b.2.1 x).length + 1) x 0 (hx9) (by have := sk_abv_len b.2.1 x; omega) (rfl) (Nat.lt_succ_self _) ls (lv_sub hl [0, 1, 2, 3, 4] rfl)
abbrev wzO_way : List Cond := .code yO_way cO_way 7 (some .long) :: sk_W
abbrev rzO_way : Room := { frames := 0, cells := 0, slots := 0, locals := 0 }
set_option maxHeartbeats 4000000 in
set_option maxRecDepth 100000 in
theorem kO_way (l : Launch) (dC : Nat → ClassId) (dI : Nat → Nat → Nat) (a : Nat → Nat) (k : Nat → ClassId) (b : sk_Ob) (t : sk_Tr) (f : sk_Fi) (wt : sk_F) (x y : Int32) (hA : sk_AC b.1 b.2.1) (hx9 : sk_v b.1 x) : Met l yO_way wzO_way rzO_way (va_Pc [.ref (a 1), .int x, .int y] (sk_PX dC dI a k (b, t, f) wt)) (va_Ql (fun r (_ : Unit) => r = lN (sk_nb (sk_upto (fun y9 => decide (nI y9 = y)) (sk_abv b.2.1 x)))) (fun _ _ => True) (fun _ => False)) 0 0 (fun _ => False) := by
  refine Met.ofW (cc := cO_way) (maxL := 7) (ret := (some .long)) (by decide) rfl ?_
  intro p e s m args below meth c s₁ B hml hv
  obtain ⟨rfl, hP, hK, hN⟩ := hv
  have hx := B.exec
  have hb := B.bytes
  have hr := B.returns
  have hts : ∀ w ∈ sk_W, w.before ([.ref (a 1), .int x, .int y] : List Value).toArray s = true := fun w h => atoms_spec (ws := wzO_way) B.pre w (List.mem_cons_of_mem _ h)
  have hown : s.vm.findClass RO = some m.cls := findClass_of_methodNamed B.named
  have hlocks := B.notSynchronized
  have hS : va_S (fun _ => False) s.heap s.heap [] := va_S.rf
  have hP : va_P (dC, dI) vwCl (sk_wR a k (nI b.1) b.2.1 b.2.2.1 b.2.2.2.1 b.2.2.2.2 (nI t.1) t.2.1 t.2.2.1 t.2.2.2.1 t.2.2.2.2 (nI f.1) (nI (sk_there f)) (nI (f.1 % 100)) f.2.1 f.2.2.1 f.2.2.2.1 f.2.2.2.2.1 (fun i => lN (sk_nb (f.2.2.2.2.2.1 i))) (fun i => sk_bI (f.2.2.2.2.2.2 i)) wt) s.heap := hP
  have hl := lv_entry ([.ref (a 1), .int x, .int y]) (n := 7) (Nat.le_of_ble_eq_true rfl)
  rw [lg_entry_eq]
  generalize (lg_sl ([.ref (a 1), .int x, .int y]) ++ List.replicate (7 - (lg_sl ([.ref (a 1), .int x, .int y])).length) Slot.unset).toArray = ls at hl ⊢
  have hl : lv_has ls 7 [(0, .ref (a 1)), (1, .int x), (2, .int y)] := hl
  have h60 : b.1 ≤ 60 := hA.1
  refine lv_lconst (v := lN 0) hx hb dO_way_0 (by decide) ?_
  refine lv_lstore_n (lv' := [(3, .long (lN 0)), (0, .ref (a 1)), (1, .int x), (2, .int y)]) hx hb dO_way_1 rfl hl (by decide) rfl (fun ls hl => ?_)
  refine lv_iload_n hx hb dO_way_2 rfl (lv_at hl 2 rfl) ?_
  refine lv_istore (lv' := [(5, .int x), (3, .long (lN 0)), (0, .ref (a 1)), (1, .int x), (2, .int y)]) hx hb dO_way_3 hl (by decide) rfl (fun ls hl => ?_)
  refine lv_iconst (v := nI 0) hx hb dO_way_5 (by decide) ?_
  refine lv_istore (lv' := [(6, .int (nI 0)), (5, .int x), (3, .long (lN 0)), (0, .ref (a 1)), (1, .int x), (2, .int y)]) hx hb dO_way_6 hl (by decide) rfl (fun ls hl => ?_)
  have loop1 : ∀ (nn : Nat) (z : Int32) (st B : Nat), sk_v b.1 z → st + (sk_abv b.2.1 z).length ≤ 60 → B < 2 ^ 64 → B ||| sk_nb (sk_upto (fun y9 => decide (nI y9 = y)) (sk_abv b.2.1 z)) = sk_nb (sk_upto (fun y9 => decide (nI y9 = y)) (sk_abv b.2.1 x)) → (sk_abv b.2.1 z).length < nn → ∀ ls : Array Slot, lv_has ls 7 [(6, .int (nI st)), (5, .int z), (3, .long (lN B)), (0, .ref (a 1)), (1, .int x), (2, .int y)] → W p l e (headSpec wzO_way rzO_way).room s m ([.ref (a 1), .int x, .int y] : List Value).toArray below meth c s.heap [] 0 0 (MQ below (va_Ql (fun r (_ : Unit) => r = lN (sk_nb (sk_upto (fun y9 => decide (nI y9 = y)) (sk_abv b.2.1 x)))) (fun _ _ => True) (fun _ => False)) ([.ref (a 1), .int x, .int y] : List Value).toArray s 0 0 (fun _ => False)) (F0 m 8 ls []) := by
    intro nn
    induction nn with
    | zero => intro z st B hz hst hB he hmu; exact absurd hmu (Nat.not_lt_zero _)
    | succ nn ih1 =>
      intro z st B hz hst hB he hmu ls hl
      rcases hz with rfl | ⟨q, hq, rfl⟩
      · skip
        refine lv_iload hx hb dO_way_8 (lv_at hl 1 rfl) ?_
        refine lv_iconst (v := (-1)) hx hb dO_way_10 (by decide) ?_
        refine lv_icmp_eq (tgt := 51) hx hb dO_way_11 (by decide) (fun _ => ?_) (fun q => absurd (by decide) q)
        refine lv_lload_n hx hb dO_way_51 rfl (lv_at hl 2 rfl) ?_
        exact W.lret (v := lN B) hx hb hr (fun U9 ht hW => ⟨⟨lN B, (), rfl, by rw [← he, sk_abv_m1]; show _ = lN (B ||| 0); rw [Nat.or_zero], trivial⟩, hS.F ht⟩) hS.2.2 dO_way_52
      · skip
        have hs9 := sk_abv_s hA hq
        have hl9 : (sk_abv b.2.1 (nI q)).length = (sk_abv b.2.1 (b.2.1 q)).length + 1 := by rw [hs9]; rfl
        refine lv_iload hx hb dO_way_8 (lv_at hl 1 rfl) ?_
        refine lv_iconst (v := (-1)) hx hb dO_way_10 (by decide) ?_
        refine lv_icmp_eq (tgt := 51) hx hb dO_way_11 (by decide) (fun c11 => ?_) (fun c11 => ?_)
        · skip
          exact absurd c11 (sk_nm1 (by omega))
        · skip
          refine lv_iload hx hb dO_way_14 (lv_at hl 0 rfl) ?_
          refine lv_bipush (v := nI 60) hx hb dO_way_16 (by decide) ?_
          refine lv_icmp_ge (tgt := 51) hx hb dO_way_18 (by decide) (fun c18 => ?_) (fun c18 => ?_)
          · skip
            have n18 : 60 ≤ st := (nI_leI (by omega) (by omega)).mp c18
            omega
          · skip
            have n18 : ¬ 60 ≤ st := fun q => c18 ((nI_leI (by omega) (by omega)).mpr q)
            refine lv_lload_n hx hb dO_way_21 rfl (lv_at hl 2 rfl) ?_
            refine lv_lconst (v := lN 1) hx hb dO_way_22 (by decide) ?_
            refine lv_iload hx hb dO_way_23 (lv_at hl 1 rfl) ?_
            refine lv_lshl (v := lN (2 ^ q)) hx hb dO_way_25 (sk_shl (by omega)) ?_
            refine lv_lor hx hb dO_way_26 ?_
            refine lv_topl (fun x26 e26 => ?_)
            obtain rfl : x26 = lN (B ||| 2 ^ q) := e26.trans (wb_or hB (sk_p64 (by omega)))
            refine lv_lstore_n (lv' := [(3, .long (lN (B ||| 2 ^ q))), (6, .int (nI st)), (5, .int (nI q)), (0, .ref (a 1)), (1, .int x), (2, .int y)]) hx hb dO_way_27 rfl hl (by decide) rfl (fun ls hl => ?_)
            refine lv_iload hx hb dO_way_28 (lv_at hl 2 rfl) ?_
            refine lv_iload_n hx hb dO_way_30 rfl (lv_at hl 5 rfl) ?_
            refine lv_icmp_ne (tgt := 36) hx hb dO_way_31 (by decide) (fun c31 => ?_) (fun c31 => ?_)
            · skip
              refine lv_aload_n hx hb dO_way_36 rfl (lv_at hl 3 rfl) ?_
              refine va_get (D := (dC, dI)) (ci := 1) (v := .ref (a 5)) (C := RO) (T := TO) (N := 5) hx hb hts inO hown hK hP 1 rfl rfl 0 (by decide) (hts _ wfO_9) (fun _ h9 => h9) rfl dO_way_37 ?_
              refine lv_iload hx hb dO_way_40 (lv_at hl 2 rfl) ?_
              refine va_iald hx hb hK hP 5 0 rfl rfl (vp_in_nI (show q < 60 by omega) (by decide)) dO_way_42 ?_
              refine lv_topi (fun x42 e42 => ?_)
              rw [nI_clamp (show q < 2 ^ 31 by omega)] at e42
              refine lv_istore (lv' := [(5, .int x42), (3, .long (lN (B ||| 2 ^ q))), (6, .int (nI st)), (0, .ref (a 1)), (1, .int x), (2, .int y)]) hx hb dO_way_43 hl (by decide) rfl (fun ls hl => ?_)
              refine lv_iinc (v := nI (st + 1)) (lv' := [(6, .int (nI (st + 1))), (5, .int x42), (3, .long (lN (B ||| 2 ^ q))), (0, .ref (a 1)), (1, .int x), (2, .int y)]) hx hb dO_way_45 hl (k := 2) rfl (sk_inc _) (by decide) rfl (fun ls hl => ?_)
              refine lv_goto (tgt := 8) hx hb dO_way_48 (by decide) ?_
              have hmx : (sk_abv b.2.1 x42).length < nn := by rw [e42]; omega
              exact ih1 x42 (st + 1) (B ||| 2 ^ q) (by rw [e42]; exact hA.2.1 q hq) (by rw [e42]; omega) (Nat.or_lt_two_pow hB (sk_p64 (by omega))) (by rw [e42, ← he, hs9, sk_upto, if_neg (by simp [c31])]; show _ = B ||| (sk_nb _ ||| 2 ^ q); rw [Nat.or_assoc, Nat.or_comm (2 ^ q)]) (by omega) ls (lv_sub hl [0, 1, 2, 3, 4, 5] rfl)
            · skip
              refine lv_lload_n hx hb dO_way_34 rfl (lv_at hl 0 rfl) ?_
              exact W.lret (v := lN (B ||| 2 ^ q)) hx hb hr (fun U9 ht hW => ⟨⟨lN (B ||| 2 ^ q), (), rfl, by rw [← he, hs9, sk_upto, if_pos (decide_eq_true c31)]; show _ = lN (B ||| (0 ||| 2 ^ q)); rw [Nat.zero_or], trivial⟩, hS.F ht⟩) hS.2.2 dO_way_35
  exact loop1 ((sk_abv b.2.1 x).length + 1) x 0 0 (hx9) (by have := sk_abv_len b.2.1 x; omega) (by decide) (Nat.zero_or _) (Nat.lt_succ_self _) ls (lv_sub hl [0, 1, 2, 3, 4, 5] rfl)
abbrev wzO_countOfShape : List Cond := .code yO_countOfShape cO_countOfShape 4 (some .int) :: sk_W
abbrev rzO_countOfShape : Room := { frames := 0, cells := 0, slots := 0, locals := 0 }
set_option maxHeartbeats 4000000 in
set_option maxRecDepth 100000 in
theorem kO_countOfShape (l : Launch) (dC : Nat → ClassId) (dI : Nat → Nat → Nat) (a : Nat → Nat) (k : Nat → ClassId) (b : sk_Ob) (t : sk_Tr) (f : sk_Fi) (wt : sk_F) (x : Int32) (h60 : b.1 ≤ 60) : Met l yO_countOfShape wzO_countOfShape rzO_countOfShape (va_Pc [.ref (a 1), .int x] (sk_PX dC dI a k (b, t, f) wt)) (va_Qi (fun r (_ : Unit) => r = nI (sk_cnt (fun y9 => decide (b.2.2.1 y9 = x)) b.1)) (fun _ _ => True) (fun _ => False)) 0 0 (fun _ => False) := by
  refine Met.ofW (cc := cO_countOfShape) (maxL := 4) (ret := (some .int)) (by decide) rfl ?_
  intro p e s m args below meth c s₁ B hml hv
  obtain ⟨rfl, hP, hK, hN⟩ := hv
  have hx := B.exec
  have hb := B.bytes
  have hr := B.returns
  have hts : ∀ w ∈ sk_W, w.before ([.ref (a 1), .int x] : List Value).toArray s = true := fun w h => atoms_spec (ws := wzO_countOfShape) B.pre w (List.mem_cons_of_mem _ h)
  have hown : s.vm.findClass RO = some m.cls := findClass_of_methodNamed B.named
  have hlocks := B.notSynchronized
  have hS : va_S (fun _ => False) s.heap s.heap [] := va_S.rf
  have hP : va_P (dC, dI) vwCl (sk_wR a k (nI b.1) b.2.1 b.2.2.1 b.2.2.2.1 b.2.2.2.2 (nI t.1) t.2.1 t.2.2.1 t.2.2.2.1 t.2.2.2.2 (nI f.1) (nI (sk_there f)) (nI (f.1 % 100)) f.2.1 f.2.2.1 f.2.2.2.1 f.2.2.2.2.1 (fun i => lN (sk_nb (f.2.2.2.2.2.1 i))) (fun i => sk_bI (f.2.2.2.2.2.2 i)) wt) s.heap := hP
  have hl := lv_entry ([.ref (a 1), .int x]) (n := 4) (Nat.le_of_ble_eq_true rfl)
  rw [lg_entry_eq]
  generalize (lg_sl ([.ref (a 1), .int x]) ++ List.replicate (4 - (lg_sl ([.ref (a 1), .int x])).length) Slot.unset).toArray = ls at hl ⊢
  have hl : lv_has ls 4 [(0, .ref (a 1)), (1, .int x)] := hl
  refine lv_iconst (v := nI 0) hx hb dO_countOfShape_0 (by decide) ?_
  refine lv_istore_n (lv' := [(2, .int (nI 0)), (0, .ref (a 1)), (1, .int x)]) hx hb dO_countOfShape_1 rfl hl (by decide) rfl (fun ls hl => ?_)
  refine lv_iconst (v := nI 0) hx hb dO_countOfShape_2 (by decide) ?_
  refine lv_istore_n (lv' := [(3, .int (nI 0)), (2, .int (nI 0)), (0, .ref (a 1)), (1, .int x)]) hx hb dO_countOfShape_3 rfl hl (by decide) rfl (fun ls hl => ?_)
  have loop1 : ∀ (nn : Nat) (cn i : Nat), i ≤ b.1 → cn = sk_cnt (fun y9 => decide (b.2.2.1 y9 = x)) i → b.1 - i < nn → ∀ ls : Array Slot, lv_has ls 4 [(3, .int (nI i)), (2, .int (nI cn)), (0, .ref (a 1)), (1, .int x)] → W p l e (headSpec wzO_countOfShape rzO_countOfShape).room s m ([.ref (a 1), .int x] : List Value).toArray below meth c s.heap [] 0 0 (MQ below (va_Qi (fun r (_ : Unit) => r = nI (sk_cnt (fun y9 => decide (b.2.2.1 y9 = x)) b.1)) (fun _ _ => True) (fun _ => False)) ([.ref (a 1), .int x] : List Value).toArray s 0 0 (fun _ => False)) (F0 m 4 ls []) := by
    intro nn
    induction nn with
    | zero => intro cn i hi hc hmu; exact absurd hmu (Nat.not_lt_zero _)
    | succ nn ih1 =>
      intro cn i hi hc hmu ls hl
      refine lv_iload_n hx hb dO_countOfShape_4 rfl (lv_at hl 0 rfl) ?_
      refine lv_aload_n hx hb dO_countOfShape_5 rfl (lv_at hl 2 rfl) ?_
      refine va_get (D := (dC, dI)) (ci := 1) (v := .int (nI b.1)) (C := RO) (T := TO) (N := 5) hx hb hts inO hown hK hP 1 rfl rfl 4 (by decide) (hts _ wfO_26) (fun _ h9 => h9) rfl dO_countOfShape_6 ?_
      refine lv_icmp_ge (tgt := 31) hx hb dO_countOfShape_9 (by decide) (fun c9 => ?_) (fun c9 => ?_)
      · skip
        have n9 : b.1 ≤ i := (nI_leI (by omega) (by omega)).mp c9
        refine lv_iload_n hx hb dO_countOfShape_31 rfl (lv_at hl 1 rfl) ?_
        exact W.iret (v := nI cn) hx hb hr (fun U9 ht hW => ⟨⟨nI cn, (), rfl, by rw [hc, show i = b.1 by omega], trivial⟩, hS.F ht⟩) hS.2.2 dO_countOfShape_32
      · skip
        have n9 : ¬ b.1 ≤ i := fun q => c9 ((nI_leI (by omega) (by omega)).mpr q)
        refine lv_aload_n hx hb dO_countOfShape_12 rfl (lv_at hl 2 rfl) ?_
        refine va_get (D := (dC, dI)) (ci := 1) (v := .ref (a 6)) (C := RO) (T := TO) (N := 5) hx hb hts inO hown hK hP 1 rfl rfl 1 (by decide) (hts _ wfO_15) (fun _ h9 => h9) rfl dO_countOfShape_13 ?_
        refine lv_iload_n hx hb dO_countOfShape_16 rfl (lv_at hl 0 rfl) ?_
        refine va_iald hx hb hK hP 6 0 rfl rfl (vp_in_nI (show i < 60 by omega) (by decide)) dO_countOfShape_17 ?_
        refine lv_topi (fun x17 e17 => ?_)
        rw [nI_clamp (show i < 2 ^ 31 by omega)] at e17
        refine lv_iload_n hx hb dO_countOfShape_18 rfl (lv_at hl 3 rfl) ?_
        refine lv_icmp_ne (tgt := 25) hx hb dO_countOfShape_19 (by decide) (fun c19 => ?_) (fun c19 => ?_)
        · skip
          refine lv_iinc (v := nI (i + 1)) (lv' := [(3, .int (nI (i + 1))), (2, .int (nI cn)), (0, .ref (a 1)), (1, .int x)]) hx hb dO_countOfShape_25 hl (k := 0) rfl (sk_inc _) (by decide) rfl (fun ls hl => ?_)
          refine lv_goto (tgt := 4) hx hb dO_countOfShape_28 (by decide) ?_
          exact ih1 cn (i + 1) (by omega) (sk_cnt_n hc (by show decide (b.2.2.1 i = x) = false; rw [← e17]; exact decide_eq_false c19)) (by omega) ls (lv_sub hl [0, 1, 2, 3] rfl)
        · skip
          refine lv_iinc (v := nI (cn + 1)) (lv' := [(2, .int (nI (cn + 1))), (3, .int (nI i)), (0, .ref (a 1)), (1, .int x)]) hx hb dO_countOfShape_22 hl (k := 1) rfl (sk_inc _) (by decide) rfl (fun ls hl => ?_)
          refine lv_iinc (v := nI (i + 1)) (lv' := [(3, .int (nI (i + 1))), (2, .int (nI (cn + 1))), (0, .ref (a 1)), (1, .int x)]) hx hb dO_countOfShape_25 hl (k := 1) rfl (sk_inc _) (by decide) rfl (fun ls hl => ?_)
          refine lv_goto (tgt := 4) hx hb dO_countOfShape_28 (by decide) ?_
          exact ih1 (cn + 1) (i + 1) (by omega) (sk_cnt_s hc (by show decide (b.2.2.1 i = x) = true; rw [← e17]; exact decide_eq_true c19)) (by omega) ls (lv_sub hl [0, 1, 2, 3] rfl)
  exact loop1 (b.1 - 0 + 1) 0 0 (Nat.zero_le _) (rfl) (Nat.lt_succ_self _) ls (lv_sub hl [0, 1, 2, 3] rfl)
abbrev wzO_countBelow : List Cond := .code yO_countBelow cO_countBelow 4 (some .int) :: sk_W
abbrev rzO_countBelow : Room := { frames := 1, cells := 0, slots := 0, locals := 24 }
set_option maxHeartbeats 4000000 in
set_option maxRecDepth 100000 in
theorem kO_countBelow (l : Launch) (dC : Nat → ClassId) (dI : Nat → Nat → Nat) (a : Nat → Nat) (k : Nat → ClassId) (b : sk_Ob) (t : sk_Tr) (f : sk_Fi) (wt : sk_F) (o : Nat) (hA : sk_AC b.1 b.2.1) (ho : o < b.1) : Met l yO_countBelow wzO_countBelow rzO_countBelow (va_Pc [.ref (a 1), .int (nI o)] (sk_PX dC dI a k (b, t, f) wt)) (va_Qi (fun r (_ : Unit) => r = nI (sk_cnt (fun y9 => decide (o ∈ sk_abv b.2.1 (b.2.1 y9))) b.1)) (fun _ _ => True) (fun _ => False)) 0 0 (fun _ => False) := by
  refine Met.ofW (cc := cO_countBelow) (maxL := 4) (ret := (some .int)) (by decide) rfl ?_
  intro p e s m args below meth c s₁ B hml hv
  obtain ⟨rfl, hP, hK, hN⟩ := hv
  have hx := B.exec
  have hb := B.bytes
  have hr := B.returns
  have hts : ∀ w ∈ sk_W, w.before ([.ref (a 1), .int (nI o)] : List Value).toArray s = true := fun w h => atoms_spec (ws := wzO_countBelow) B.pre w (List.mem_cons_of_mem _ h)
  have hown : s.vm.findClass RO = some m.cls := findClass_of_methodNamed B.named
  have hlocks := B.notSynchronized
  have hS : va_S (fun _ => False) s.heap s.heap [] := va_S.rf
  have hP : va_P (dC, dI) vwCl (sk_wR a k (nI b.1) b.2.1 b.2.2.1 b.2.2.2.1 b.2.2.2.2 (nI t.1) t.2.1 t.2.2.1 t.2.2.2.1 t.2.2.2.2 (nI f.1) (nI (sk_there f)) (nI (f.1 % 100)) f.2.1 f.2.2.1 f.2.2.2.1 f.2.2.2.2.1 (fun i => lN (sk_nb (f.2.2.2.2.2.1 i))) (fun i => sk_bI (f.2.2.2.2.2.2 i)) wt) s.heap := hP
  have hl := lv_entry ([.ref (a 1), .int (nI o)]) (n := 4) (Nat.le_of_ble_eq_true rfl)
  rw [lg_entry_eq]
  generalize (lg_sl ([.ref (a 1), .int (nI o)]) ++ List.replicate (4 - (lg_sl ([.ref (a 1), .int (nI o)])).length) Slot.unset).toArray = ls at hl ⊢
  have hl : lv_has ls 4 [(0, .ref (a 1)), (1, .int (nI o))] := hl
  have h60 : b.1 ≤ 60 := hA.1
  refine lv_iconst (v := nI 0) hx hb dO_countBelow_0 (by decide) ?_
  refine lv_istore_n (lv' := [(2, .int (nI 0)), (0, .ref (a 1)), (1, .int (nI o))]) hx hb dO_countBelow_1 rfl hl (by decide) rfl (fun ls hl => ?_)
  refine lv_iconst (v := nI 0) hx hb dO_countBelow_2 (by decide) ?_
  refine lv_istore_n (lv' := [(3, .int (nI 0)), (2, .int (nI 0)), (0, .ref (a 1)), (1, .int (nI o))]) hx hb dO_countBelow_3 rfl hl (by decide) rfl (fun ls hl => ?_)
  have loop1 : ∀ (nn : Nat) (cn i : Nat), i ≤ b.1 → cn = sk_cnt (fun y9 => decide (o ∈ sk_abv b.2.1 (b.2.1 y9))) i → b.1 - i < nn → ∀ (H : Heap) (locs : List Loc), va_P (dC, dI) vwCl (sk_wR a k (nI b.1) b.2.1 b.2.2.1 b.2.2.2.1 b.2.2.2.2 (nI t.1) t.2.1 t.2.2.1 t.2.2.2.1 t.2.2.2.2 (nI f.1) (nI (sk_there f)) (nI (f.1 % 100)) f.2.1 f.2.2.1 f.2.2.2.1 f.2.2.2.2.1 (fun i => lN (sk_nb (f.2.2.2.2.2.1 i))) (fun i => sk_bI (f.2.2.2.2.2.2 i)) wt) H → va_S (fun _ => False) s.heap H locs → ∀ ls : Array Slot, lv_has ls 4 [(3, .int (nI i)), (2, .int (nI cn)), (0, .ref (a 1)), (1, .int (nI o))] → W p l e (headSpec wzO_countBelow rzO_countBelow).room s m ([.ref (a 1), .int (nI o)] : List Value).toArray below meth c H locs 0 0 (MQ below (va_Qi (fun r (_ : Unit) => r = nI (sk_cnt (fun y9 => decide (o ∈ sk_abv b.2.1 (b.2.1 y9))) b.1)) (fun _ _ => True) (fun _ => False)) ([.ref (a 1), .int (nI o)] : List Value).toArray s 0 0 (fun _ => False)) (F0 m 4 ls []) := by
    intro nn
    induction nn with
    | zero => intro cn i hi hc hmu; exact absurd hmu (Nat.not_lt_zero _)
    | succ nn ih1 =>
      intro cn i hi hc hmu H locs hP hS ls hl
      refine lv_iload_n hx hb dO_countBelow_4 rfl (lv_at hl 0 rfl) ?_
      refine lv_aload_n hx hb dO_countBelow_5 rfl (lv_at hl 2 rfl) ?_
      refine va_get (D := (dC, dI)) (ci := 1) (v := .int (nI b.1)) (C := RO) (T := TO) (N := 5) hx hb hts inO hown hK hP 1 rfl rfl 4 (by decide) (hts _ wfO_26) (fun _ h9 => h9) rfl dO_countBelow_6 ?_
      refine lv_icmp_ge (tgt := 35) hx hb dO_countBelow_9 (by decide) (fun c9 => ?_) (fun c9 => ?_)
      · skip
        have n9 : b.1 ≤ i := (nI_leI (by omega) (by omega)).mp c9
        refine lv_iload_n hx hb dO_countBelow_35 rfl (lv_at hl 1 rfl) ?_
        exact W.iret (v := nI cn) hx hb hr (fun U9 ht hW => ⟨⟨nI cn, (), rfl, by rw [hc, show i = b.1 by omega], trivial⟩, hS.F ht⟩) hS.2.2 dO_countBelow_36
      · skip
        have n9 : ¬ b.1 ≤ i := fun q => c9 ((nI_leI (by omega) (by omega)).mpr q)
        refine lv_aload_n hx hb dO_countBelow_12 rfl (lv_at hl 2 rfl) ?_
        refine lv_aload_n hx hb dO_countBelow_13 rfl (lv_at hl 2 rfl) ?_
        refine va_get (D := (dC, dI)) (ci := 1) (v := .ref (a 5)) (C := RO) (T := TO) (N := 5) hx hb hts inO hown hK hP 1 rfl rfl 0 (by decide) (hts _ wfO_9) (fun _ h9 => h9) rfl dO_countBelow_14 ?_
        refine lv_iload_n hx hb dO_countBelow_17 rfl (lv_at hl 0 rfl) ?_
        refine va_iald hx hb hK hP 5 0 rfl rfl (vp_in_nI (show i < 60 by omega) (by decide)) dO_countBelow_18 ?_
        refine lv_topi (fun x18 e18 => ?_)
        rw [nI_clamp (show i < 2 ^ 31 by omega)] at e18
        refine lv_iload_n hx hb dO_countBelow_19 rfl (lv_at hl 3 rfl) ?_
        refine va_calli (va_runV (As := [.int x18, .int (nI o)]) (rest := []) ⟨hx, hb, hml, hown, hts⟩ (kO_leadsTo l dC dI a k b t f wt x18 o hA (by rw [e18]; exact hA.2.1 i (by omega)) ho) (cwV 2 hts (sk_gV wmO_44 wiO_leadsTo wsO_leadsTo wnO wcO_leadsTo) rfl rfl rfl (by decide +kernel) ⟨Nat.le_of_ble_eq_true rfl, Nat.le_of_ble_eq_true rfl⟩) ⟨sk_blind _, va_recv hK hP (ci := 1) (q0 := 1) rfl rfl, fun U hU hW => ⟨rfl, sk_at (S := (b, t, f)) (wt := wt) hP hK hN hU hW⟩⟩ rfl rfl hl.1 rfl (lv_room (Nat.le_of_ble_eq_true rfl)) dO_countBelow_20 ⟨Nat.le_of_ble_eq_true rfl, Nat.le_of_ble_eq_true rfl⟩) hS (fun _ _ h => h.elim) (fun _ h => h.elim) (fun r20 u20 U9 H locs ht hvm w20 hB hz hk hS => ?_)
        have hP : va_P (dC, dI) vwCl (sk_wR a k (nI b.1) b.2.1 b.2.2.1 b.2.2.2.1 b.2.2.2.2 (nI t.1) t.2.1 t.2.2.1 t.2.2.2.1 t.2.2.2.2 (nI f.1) (nI (sk_there f)) (nI (f.1 % 100)) f.2.1 f.2.2.1 f.2.2.2.1 f.2.2.2.2.1 (fun i => lN (sk_nb (f.2.2.2.2.2.1 i))) (fun i => sk_bI (f.2.2.2.2.2.2 i)) wt) H := hP.kept (fun j q hq => hk q.1 ((hP j q hq).lt) (fun h => h))
        clear hk hB ht
        rcases sk_bI_or (decide (o ∈ sk_abv b.2.1 x18)) with ⟨h20, hv⟩ | ⟨h20, hv⟩
        · skip
          obtain rfl : r20 = nI 1 := w20.trans hv
          refine lv_if_eq (tgt := 29) hx hb dO_countBelow_23 (by decide) (fun q => absurd q (by decide)) (fun _ => ?_)
          refine lv_iinc (v := nI (cn + 1)) (lv' := [(2, .int (nI (cn + 1))), (3, .int (nI i)), (0, .ref (a 1)), (1, .int (nI o))]) hx hb dO_countBelow_26 hl (k := 1) rfl (sk_inc _) (by decide) rfl (fun ls hl => ?_)
          refine lv_iinc (v := nI (i + 1)) (lv' := [(3, .int (nI (i + 1))), (2, .int (nI (cn + 1))), (0, .ref (a 1)), (1, .int (nI o))]) hx hb dO_countBelow_29 hl (k := 1) rfl (sk_inc _) (by decide) rfl (fun ls hl => ?_)
          refine lv_goto (tgt := 4) hx hb dO_countBelow_32 (by decide) ?_
          exact ih1 (cn + 1) (i + 1) (by omega) (sk_cnt_s hc (by show decide (o ∈ sk_abv b.2.1 (b.2.1 i)) = true; rw [← e18]; exact h20)) (by omega) _ _ hP hS ls (lv_sub hl [0, 1, 2, 3] rfl)
        · skip
          obtain rfl : r20 = nI 0 := w20.trans hv
          refine lv_if_eq (tgt := 29) hx hb dO_countBelow_23 (by decide) (fun _ => ?_) (fun q => absurd (by decide) q)
          refine lv_iinc (v := nI (i + 1)) (lv' := [(3, .int (nI (i + 1))), (2, .int (nI cn)), (0, .ref (a 1)), (1, .int (nI o))]) hx hb dO_countBelow_29 hl (k := 0) rfl (sk_inc _) (by decide) rfl (fun ls hl => ?_)
          refine lv_goto (tgt := 4) hx hb dO_countBelow_32 (by decide) ?_
          exact ih1 cn (i + 1) (by omega) (sk_cnt_n hc (by show decide (o ∈ sk_abv b.2.1 (b.2.1 i)) = false; rw [← e18]; exact h20)) (by omega) _ _ hP hS ls (lv_sub hl [0, 1, 2, 3] rfl)
  exact loop1 (b.1 - 0 + 1) 0 0 (Nat.zero_le _) (rfl) (Nat.lt_succ_self _) _ _ hP hS ls (lv_sub hl [0, 1, 2, 3] rfl)
abbrev wzF_whereOf : List Cond := .code yF_whereOf cF_whereOf 2 (some .int) :: sk_W
abbrev rzF_whereOf : Room := { frames := 0, cells := 0, slots := 0, locals := 0 }
set_option maxHeartbeats 4000000 in
set_option maxRecDepth 100000 in
theorem kF_whereOf (l : Launch) (dC : Nat → ClassId) (dI : Nat → Nat → Nat) (a : Nat → Nat) (k : Nat → ClassId) (b : sk_Ob) (t : sk_Tr) (f : sk_Fi) (wt : sk_F) (o : Nat) (ho : o < 100) : Met l yF_whereOf wzF_whereOf rzF_whereOf (va_Pc [.ref (a 3), .int (nI o)] (sk_PX dC dI a k (b, t, f) wt)) (va_Qi (fun r (_ : Unit) => r = sk_where f o) (fun _ _ => True) (fun _ => False)) 0 0 (fun _ => False) := by
  refine Met.ofW (cc := cF_whereOf) (maxL := 2) (ret := (some .int)) (by decide) rfl ?_
  intro p e s m args below meth c s₁ B hml hv
  obtain ⟨rfl, hP, hK, hN⟩ := hv
  have hx := B.exec
  have hb := B.bytes
  have hr := B.returns
  have hts : ∀ w ∈ sk_W, w.before ([.ref (a 3), .int (nI o)] : List Value).toArray s = true := fun w h => atoms_spec (ws := wzF_whereOf) B.pre w (List.mem_cons_of_mem _ h)
  have hown : s.vm.findClass RF = some m.cls := findClass_of_methodNamed B.named
  have hlocks := B.notSynchronized
  have hS : va_S (fun _ => False) s.heap s.heap [] := va_S.rf
  have hP : va_P (dC, dI) vwCl (sk_wR a k (nI b.1) b.2.1 b.2.2.1 b.2.2.2.1 b.2.2.2.2 (nI t.1) t.2.1 t.2.2.1 t.2.2.2.1 t.2.2.2.2 (nI f.1) (nI (sk_there f)) (nI (f.1 % 100)) f.2.1 f.2.2.1 f.2.2.2.1 f.2.2.2.2.1 (fun i => lN (sk_nb (f.2.2.2.2.2.1 i))) (fun i => sk_bI (f.2.2.2.2.2.2 i)) wt) s.heap := hP
  have hl := lv_entry ([.ref (a 3), .int (nI o)]) (n := 2) (Nat.le_of_ble_eq_true rfl)
  rw [lg_entry_eq]
  generalize (lg_sl ([.ref (a 3), .int (nI o)]) ++ List.replicate (2 - (lg_sl ([.ref (a 3), .int (nI o)])).length) Slot.unset).toArray = ls at hl ⊢
  have hl : lv_has ls 2 [(0, .ref (a 3)), (1, .int (nI o))] := hl
  refine lv_aload_n hx hb dF_whereOf_0 rfl (lv_at hl 0 rfl) ?_
  refine va_get (D := (dC, dI)) (ci := 0) (v := .ref (a 16)) (C := RF) (T := TF) (N := 9) hx hb hts inF hown hK hP 3 rfl rfl 3 (by decide) (hts _ wfF_21) (fun _ h9 => h9) rfl dF_whereOf_1 ?_
  refine lv_iload_n hx hb dF_whereOf_4 rfl (lv_at hl 1 rfl) ?_
  refine va_iald hx hb hK hP 16 0 rfl rfl (vp_in_nI (show o < 100 by omega) (by decide)) dF_whereOf_5 ?_
  refine lv_topi (fun x5 e5 => ?_)
  rw [nI_clamp (show o < 2 ^ 31 by omega)] at e5
  refine lv_iconst (v := (-1)) hx hb dF_whereOf_6 (by decide) ?_
  refine lv_icmp_ne (tgt := 12) hx hb dF_whereOf_7 (by decide) (fun c7 => ?_) (fun c7 => ?_)
  · skip
    refine lv_aload_n hx hb dF_whereOf_12 rfl (lv_at hl 0 rfl) ?_
    refine va_get (D := (dC, dI)) (ci := 0) (v := .ref (a 15)) (C := RF) (T := TF) (N := 9) hx hb hts inF hown hK hP 3 rfl rfl 2 (by decide) (hts _ wfF_18) (fun _ h9 => h9) rfl dF_whereOf_13 ?_
    refine lv_iload_n hx hb dF_whereOf_16 rfl (lv_at hl 1 rfl) ?_
    refine va_iald hx hb hK hP 15 0 rfl rfl (vp_in_nI (show o < 100 by omega) (by decide)) dF_whereOf_17 ?_
    refine lv_topi (fun x17 e17 => ?_)
    rw [nI_clamp (show o < 2 ^ 31 by omega)] at e17
    refine lv_iconst (v := (-1)) hx hb dF_whereOf_18 (by decide) ?_
    refine lv_icmp_ne (tgt := 26) hx hb dF_whereOf_19 (by decide) (fun c19 => ?_) (fun c19 => ?_)
    · skip
      refine lv_iconst (v := nI 2) hx hb dF_whereOf_26 (by decide) ?_
      exact W.iret (v := nI 2) hx hb hr (fun U9 ht hW => ⟨⟨nI 2, (), rfl, by unfold sk_where; rw [if_neg (fun q => c7 (e5.trans q)), if_neg (fun q => c19 (e17.trans q))]; rfl, trivial⟩, hS.F ht⟩) hS.2.2 dF_whereOf_27
    · skip
      refine lv_iconst (v := nI 1) hx hb dF_whereOf_22 (by decide) ?_
      refine lv_goto (tgt := 27) hx hb dF_whereOf_23 (by decide) ?_
      exact W.iret (v := nI 1) hx hb hr (fun U9 ht hW => ⟨⟨nI 1, (), rfl, by unfold sk_where; rw [if_neg (fun q => c7 (e5.trans q)), if_pos (e17.symm.trans c19)]; rfl, trivial⟩, hS.F ht⟩) hS.2.2 dF_whereOf_27
  · skip
    refine lv_iconst (v := nI 0) hx hb dF_whereOf_10 (by decide) ?_
    exact W.iret (v := nI 0) hx hb hr (fun U9 ht hW => ⟨⟨nI 0, (), rfl, by unfold sk_where; rw [if_pos (e5.symm.trans c7)]; rfl, trivial⟩, hS.F ht⟩) hS.2.2 dF_whereOf_11
abbrev wzF_countHolding : List Cond := .code yF_countHolding cF_countHolding 3 (some .int) :: sk_W
abbrev rzF_countHolding : Room := { frames := 0, cells := 0, slots := 0, locals := 0 }
set_option maxHeartbeats 4000000 in
set_option maxRecDepth 100000 in
theorem kF_countHolding (l : Launch) (dC : Nat → ClassId) (dI : Nat → Nat → Nat) (a : Nat → Nat) (k : Nat → ClassId) (b : sk_Ob) (t : sk_Tr) (f : sk_Fi) (wt : sk_F)   : Met l yF_countHolding wzF_countHolding rzF_countHolding (va_Pc [.ref (a 3)] (sk_PX dC dI a k (b, t, f) wt)) (va_Qi (fun r (_ : Unit) => r = nI (sk_cnt f.2.2.2.2.2.2 (sk_there f))) (fun _ _ => True) (fun _ => False)) 0 0 (fun _ => False) := by
  refine Met.ofW (cc := cF_countHolding) (maxL := 3) (ret := (some .int)) (by decide) rfl ?_
  intro p e s m args below meth c s₁ B hml hv
  obtain ⟨rfl, hP, hK, hN⟩ := hv
  have hx := B.exec
  have hb := B.bytes
  have hr := B.returns
  have hts : ∀ w ∈ sk_W, w.before ([.ref (a 3)] : List Value).toArray s = true := fun w h => atoms_spec (ws := wzF_countHolding) B.pre w (List.mem_cons_of_mem _ h)
  have hown : s.vm.findClass RF = some m.cls := findClass_of_methodNamed B.named
  have hlocks := B.notSynchronized
  have hS : va_S (fun _ => False) s.heap s.heap [] := va_S.rf
  have hP : va_P (dC, dI) vwCl (sk_wR a k (nI b.1) b.2.1 b.2.2.1 b.2.2.2.1 b.2.2.2.2 (nI t.1) t.2.1 t.2.2.1 t.2.2.2.1 t.2.2.2.2 (nI f.1) (nI (sk_there f)) (nI (f.1 % 100)) f.2.1 f.2.2.1 f.2.2.2.1 f.2.2.2.2.1 (fun i => lN (sk_nb (f.2.2.2.2.2.1 i))) (fun i => sk_bI (f.2.2.2.2.2.2 i)) wt) s.heap := hP
  have hl := lv_entry ([.ref (a 3)]) (n := 3) (Nat.le_of_ble_eq_true rfl)
  rw [lg_entry_eq]
  generalize (lg_sl ([.ref (a 3)]) ++ List.replicate (3 - (lg_sl ([.ref (a 3)])).length) Slot.unset).toArray = ls at hl ⊢
  have hl : lv_has ls 3 [(0, .ref (a 3))] := hl
  have h100 : sk_there f ≤ 100 := Nat.min_le_right _ _
  refine lv_iconst (v := nI 0) hx hb dF_countHolding_0 (by decide) ?_
  refine lv_istore_n (lv' := [(1, .int (nI 0)), (0, .ref (a 3))]) hx hb dF_countHolding_1 rfl hl (by decide) rfl (fun ls hl => ?_)
  refine lv_iconst (v := nI 0) hx hb dF_countHolding_2 (by decide) ?_
  refine lv_istore_n (lv' := [(2, .int (nI 0)), (1, .int (nI 0)), (0, .ref (a 3))]) hx hb dF_countHolding_3 rfl hl (by decide) rfl (fun ls hl => ?_)
  have loop1 : ∀ (nn : Nat) (cn i : Nat), i ≤ sk_there f → cn = sk_cnt f.2.2.2.2.2.2 i → sk_there f - i < nn → ∀ ls : Array Slot, lv_has ls 3 [(2, .int (nI i)), (1, .int (nI cn)), (0, .ref (a 3))] → W p l e (headSpec wzF_countHolding rzF_countHolding).room s m ([.ref (a 3)] : List Value).toArray below meth c s.heap [] 0 0 (MQ below (va_Qi (fun r (_ : Unit) => r = nI (sk_cnt f.2.2.2.2.2.2 (sk_there f))) (fun _ _ => True) (fun _ => False)) ([.ref (a 3)] : List Value).toArray s 0 0 (fun _ => False)) (F0 m 4 ls []) := by
    intro nn
    induction nn with
    | zero => intro cn i hi hc hmu; exact absurd hmu (Nat.not_lt_zero _)
    | succ nn ih1 =>
      intro cn i hi hc hmu ls hl
      refine lv_iload_n hx hb dF_countHolding_4 rfl (lv_at hl 0 rfl) ?_
      refine lv_aload_n hx hb dF_countHolding_5 rfl (lv_at hl 2 rfl) ?_
      refine va_get (D := (dC, dI)) (ci := 0) (v := .int (nI (sk_there f))) (C := RF) (T := TF) (N := 9) hx hb hts inF hown hK hP 3 rfl rfl 7 (by decide) (hts _ wfF_36) (fun _ h9 => h9) rfl dF_countHolding_6 ?_
      refine lv_icmp_ge (tgt := 30) hx hb dF_countHolding_9 (by decide) (fun c9 => ?_) (fun c9 => ?_)
      · skip
        have n9 : (sk_there f) ≤ i := (nI_leI (by omega) (by omega)).mp c9
        refine lv_iload_n hx hb dF_countHolding_30 rfl (lv_at hl 1 rfl) ?_
        exact W.iret (v := nI cn) hx hb hr (fun U9 ht hW => ⟨⟨nI cn, (), rfl, by rw [hc, show i = sk_there f by omega], trivial⟩, hS.F ht⟩) hS.2.2 dF_countHolding_31
      · skip
        have n9 : ¬ (sk_there f) ≤ i := fun q => c9 ((nI_leI (by omega) (by omega)).mpr q)
        refine lv_aload_n hx hb dF_countHolding_12 rfl (lv_at hl 2 rfl) ?_
        refine va_get (D := (dC, dI)) (ci := 0) (v := .ref (a 18)) (C := RF) (T := TF) (N := 9) hx hb hts inF hown hK hP 3 rfl rfl 5 (by decide) (hts _ wfF_28) (fun _ h9 => h9) rfl dF_countHolding_13 ?_
        refine lv_iload_n hx hb dF_countHolding_16 rfl (lv_at hl 0 rfl) ?_
        refine va_zald hx hb hK hP 18 1 rfl rfl (vp_in_nI (show i < 100 by omega) (by decide)) dF_countHolding_17 ?_
        refine lv_topi (fun x17 e17 => ?_)
        rw [nI_clamp (show i < 2 ^ 31 by omega)] at e17
        refine lv_if_eq (tgt := 24) hx hb dF_countHolding_18 (by decide) (fun c18 => ?_) (fun c18 => ?_)
        · skip
          refine lv_iinc (v := nI (i + 1)) (lv' := [(2, .int (nI (i + 1))), (1, .int (nI cn)), (0, .ref (a 3))]) hx hb dF_countHolding_24 hl (k := 0) rfl (sk_inc _) (by decide) rfl (fun ls hl => ?_)
          refine lv_goto (tgt := 4) hx hb dF_countHolding_27 (by decide) ?_
          exact ih1 cn (i + 1) (by omega) (sk_cnt_n hc (by cases hq : f.2.2.2.2.2.2 i with | false => rfl | true => rw [hq] at e17; rw [e17] at c18; exact absurd c18 (by decide))) (by omega) ls (lv_sub hl [0, 1, 2] rfl)
        · skip
          refine lv_iinc (v := nI (cn + 1)) (lv' := [(1, .int (nI (cn + 1))), (2, .int (nI i)), (0, .ref (a 3))]) hx hb dF_countHolding_21 hl (k := 1) rfl (sk_inc _) (by decide) rfl (fun ls hl => ?_)
          refine lv_iinc (v := nI (i + 1)) (lv' := [(2, .int (nI (i + 1))), (1, .int (nI (cn + 1))), (0, .ref (a 3))]) hx hb dF_countHolding_24 hl (k := 1) rfl (sk_inc _) (by decide) rfl (fun ls hl => ?_)
          refine lv_goto (tgt := 4) hx hb dF_countHolding_27 (by decide) ?_
          exact ih1 (cn + 1) (i + 1) (by omega) (sk_cnt_s hc (by cases hq : f.2.2.2.2.2.2 i with | true => rfl | false => rw [hq] at e17; exact absurd (e17.trans (by decide)) c18)) (by omega) ls (lv_sub hl [0, 1, 2] rfl)
  exact loop1 (sk_there f - 0 + 1) 0 0 (Nat.zero_le _) (rfl) (Nat.lt_succ_self _) ls (lv_sub hl [0, 1, 2] rfl)
end
section
theorem wiJmax : Cond.static Lib.Math.max.name ∈ sk_W := sk_mem 261 (by decide +kernel) (by decide +kernel)
theorem wnJmath : Cond.initialized "java/lang/Math" ∈ sk_W := sk_mem 51 (by decide +kernel) (by decide +kernel)
theorem wcJmax : Cond.code Lib.Math.max.name Lib.Math.max.code 2 (some .int) ∈ sk_W := sk_mem 262 (by decide +kernel) (by decide +kernel)
theorem wmJmax : Cond.methodLink RF 42 Lib.Math.max.name ∈ sk_W := sk_mem 260 (by decide +kernel) (by decide +kernel)
theorem sk_brk_miss {f : sk_Fi} {o i : Nat} {h : Nat → Bool} (hh : ∀ j, h j = if j < i then sk_brkB f o j else f.2.2.2.2.2.2 j) (hm : o ∉ f.2.2.2.2.2.1 i) : ∀ j, h j = if j < i + 1 then sk_brkB f o j else f.2.2.2.2.2.2 j := by
  intro j
  rw [hh j]
  by_cases e : j = i
  · subst e
    rw [if_neg (Nat.lt_irrefl j), if_pos (Nat.lt_succ_self j)]
    unfold sk_brkB
    rw [decide_eq_false hm, Bool.and_false, Bool.not_false, Bool.and_true]
  · by_cases q : j < i
    · rw [if_pos q, if_pos (by omega)]
    · rw [if_neg q, if_neg (by omega)]
theorem sk_brk_hit {f : sk_Fi} {o i : Nat} {h : Nat → Bool} (hi : i < sk_there f) (hh : ∀ j, h j = if j < i then sk_brkB f o j else f.2.2.2.2.2.2 j) (hm : o ∈ f.2.2.2.2.2.1 i) : ∀ j, va_up h i false j = if j < i + 1 then sk_brkB f o j else f.2.2.2.2.2.2 j := by
  intro j
  by_cases e : j = i
  · subst e
    rw [va_up_self, if_pos (Nat.lt_succ_self j)]
    unfold sk_brkB
    rw [decide_eq_true hm, decide_eq_true hi]; simp
  · rw [va_up_ne _ _ e, hh j]
    by_cases q : j < i
    · rw [if_pos q, if_pos (by omega)]
    · rw [if_neg q, if_neg (by omega)]
theorem sk_brk_end {f : sk_Fi} {o i : Nat} {h : Nat → Bool} (hi : sk_there f ≤ i) (hh : ∀ j, h j = if j < i then sk_brkB f o j else f.2.2.2.2.2.2 j) : h = sk_brkB f o := by
  funext j
  rw [hh j]
  by_cases q : j < i
  · rw [if_pos q]
  · rw [if_neg q]
    unfold sk_brkB
    rw [decide_eq_false (show ¬ j < sk_there f by omega)]; simp
theorem sk_own_t {b : sk_Ob} {t : sk_Tr} {nm : Int32} {q : Nat} (h : ¬ sk_place t nm (sk_sh b q) = -1) : sk_own b t nm q = true := by unfold sk_own; rw [decide_eq_false h]; rfl
theorem sk_own_f {b : sk_Ob} {t : sk_Tr} {nm : Int32} {q : Nat} (h : sk_place t nm (sk_sh b q) = -1) : sk_own b t nm q = false := by unfold sk_own; rw [decide_eq_true h]; rfl
theorem sk_opl_n {b : sk_Ob} {t : sk_Tr} {nm : Int32} {q : Nat} (h : q < 60) : sk_opl b t nm (nI q) = sk_place t nm (sk_sh b q) := by unfold sk_opl; rw [if_neg (sk_nm1 (by omega)), nI_clamp (by omega)]
theorem sk_nw_v {n : Nat} {own : Nat → Bool} {l : List Nat} (h : ∀ y ∈ l, y < n) : sk_v n (sk_nw own l) := by
  rcases sk_nw_spec own l with ⟨e, -⟩ | ⟨y, hy, e, -⟩
  · exact Or.inl e
  · exact Or.inr ⟨y, h y hy, e⟩
end
section
abbrev wzF_add : List Cond := .code yF_add cF_add 8 (some .int) :: sk_W
abbrev rzF_add : Room := { frames := 1, cells := 0, slots := 0, locals := 30 }
set_option maxHeartbeats 4000000 in
set_option maxRecDepth 100000 in
theorem kF_add (l : Launch) (dC : Nat → ClassId) (dI : Nat → Nat → Nat) (a : Nat → Nat) (k : Nat → ClassId) (b : sk_Ob) (t : sk_Tr) (f : sk_Fi) (wt : sk_F) (A : Nat → Prop) (x1 x2 x3 x4 : Int32) (wl : List Nat) (hmk : f.1 < 1000) : Met l yF_add wzF_add rzF_add (va_Pc [.ref (a 3), .int x1, .int x2, .int x3, .int x4, .long (lN (sk_nb wl))] (fun U => sk_PX dC dI a k (b, t, f) wt U ∧ va_D A (sk_wX a k (b, t, f) wt))) (va_Qi (fun r (u : sk_S × sk_F) => r = nI (f.1 % 100) ∧ u = ((b, t, sk_add f x1 x2 x3 x4 wl), wt)) (fun u U => va_P (dC, dI) vwCl (sk_wX a k u.1 u.2) U.heap ∧ va_D A (sk_wX a k u.1 u.2)) A) 0 0 A := by
  refine Met.ofW (cc := cF_add) (maxL := 8) (ret := (some .int)) (by decide) rfl ?_
  intro p e s m args below meth c s₁ B hml hv
  obtain ⟨rfl, ⟨hP, hK, hN⟩, hD⟩ := hv
  have hx := B.exec
  have hb := B.bytes
  have hr := B.returns
  have hts : ∀ w ∈ sk_W, w.before ([.ref (a 3), .int x1, .int x2, .int x3, .int x4, .long (lN (sk_nb wl))] : List Value).toArray s = true := fun w h => atoms_spec (ws := wzF_add) B.pre w (List.mem_cons_of_mem _ h)
  have hown : s.vm.findClass RF = some m.cls := findClass_of_methodNamed B.named
  have hlocks := B.notSynchronized
  have hS : va_S A s.heap s.heap [] := va_S.rf
  have hP : va_P (dC, dI) vwCl (sk_wR a k (nI b.1) b.2.1 b.2.2.1 b.2.2.2.1 b.2.2.2.2 (nI t.1) t.2.1 t.2.2.1 t.2.2.2.1 t.2.2.2.2 (nI f.1) (nI (sk_there f)) (nI (f.1 % 100)) f.2.1 f.2.2.1 f.2.2.2.1 f.2.2.2.2.1 (fun i => lN (sk_nb (f.2.2.2.2.2.1 i))) (fun i => sk_bI (f.2.2.2.2.2.2 i)) wt) s.heap := hP
  have hD : va_D A (sk_wR a k (nI b.1) b.2.1 b.2.2.1 b.2.2.2.1 b.2.2.2.2 (nI t.1) t.2.1 t.2.2.1 t.2.2.2.1 t.2.2.2.2 (nI f.1) (nI (sk_there f)) (nI (f.1 % 100)) f.2.1 f.2.2.1 f.2.2.2.1 f.2.2.2.2.1 (fun i => lN (sk_nb (f.2.2.2.2.2.1 i))) (fun i => sk_bI (f.2.2.2.2.2.2 i)) wt) := hD
  have hl := lv_entry ([.ref (a 3), .int x1, .int x2, .int x3, .int x4, .long (lN (sk_nb wl))]) (n := 8) (Nat.le_of_ble_eq_true rfl)
  rw [lg_entry_eq]
  generalize (lg_sl ([.ref (a 3), .int x1, .int x2, .int x3, .int x4, .long (lN (sk_nb wl))]) ++ List.replicate (8 - (lg_sl ([.ref (a 3), .int x1, .int x2, .int x3, .int x4, .long (lN (sk_nb wl))])).length) Slot.unset).toArray = ls at hl ⊢
  have hl : lv_has ls 8 [(0, .ref (a 3)), (1, .int x1), (2, .int x2), (3, .int x3), (4, .int x4), (5, .long (lN (sk_nb wl)))] := hl
  have h100 : f.1 % 100 < 100 := Nat.mod_lt _ (by decide)
  refine lv_aload_n hx hb dF_add_0 rfl (lv_at hl 0 rfl) ?_
  refine va_get (D := (dC, dI)) (ci := 0) (v := .int (nI (f.1 % 100))) (C := RF) (T := TF) (N := 9) hx hb hts inF hown hK hP 3 rfl rfl 8 (by decide) (hts _ wfF_39) (fun _ h9 => h9) rfl dF_add_1 ?_
  refine lv_istore (lv' := [(7, .int (nI (f.1 % 100))), (0, .ref (a 3)), (1, .int x1), (2, .int x2), (3, .int x3), (4, .int x4), (5, .long (lN (sk_nb wl)))]) hx hb dF_add_4 hl (by decide) rfl (fun ls hl => ?_)
  refine lv_aload_n hx hb dF_add_6 rfl (lv_at hl 1 rfl) ?_
  refine va_get (D := (dC, dI)) (ci := 0) (v := .ref (a 13)) (C := RF) (T := TF) (N := 9) hx hb hts inF hown hK hP 3 rfl rfl 0 (by decide) (hts _ wfF_9) (fun _ h9 => h9) rfl dF_add_7 ?_
  refine lv_iload hx hb dF_add_10 (lv_at hl 0 rfl) ?_
  refine lv_iload_n hx hb dF_add_12 rfl (lv_at hl 2 rfl) ?_
  refine va_iast hx hb hK hP hD hS 13 0 rfl rfl (vp_in_nI (show (f.1 % 100) < 100 by omega) (by decide)) dF_add_13 (fun H locs hP hD hS => ?_)
  rw [nI_clamp (show (f.1 % 100) < 2 ^ 31 by omega)] at hP hD
  have hP : va_P (dC, dI) vwCl (sk_wR a k (nI b.1) b.2.1 b.2.2.1 b.2.2.2.1 b.2.2.2.2 (nI t.1) t.2.1 t.2.2.1 t.2.2.2.1 t.2.2.2.2 (nI f.1) (nI (sk_there f)) (nI (f.1 % 100)) (upd f.2.1 (f.1 % 100) x1) f.2.2.1 f.2.2.2.1 f.2.2.2.2.1 (fun i => lN (sk_nb (f.2.2.2.2.2.1 i))) (fun i => sk_bI (f.2.2.2.2.2.2 i)) wt) H := hP
  have hD : va_D A (sk_wR a k (nI b.1) b.2.1 b.2.2.1 b.2.2.2.1 b.2.2.2.2 (nI t.1) t.2.1 t.2.2.1 t.2.2.2.1 t.2.2.2.2 (nI f.1) (nI (sk_there f)) (nI (f.1 % 100)) (upd f.2.1 (f.1 % 100) x1) f.2.2.1 f.2.2.2.1 f.2.2.2.2.1 (fun i => lN (sk_nb (f.2.2.2.2.2.1 i))) (fun i => sk_bI (f.2.2.2.2.2.2 i)) wt) := hD
  refine lv_aload_n hx hb dF_add_14 rfl (lv_at hl 1 rfl) ?_
  refine va_get (D := (dC, dI)) (ci := 0) (v := .ref (a 14)) (C := RF) (T := TF) (N := 9) hx hb hts inF hown hK hP 3 rfl rfl 1 (by decide) (hts _ wfF_15) (fun _ h9 => h9) rfl dF_add_15 ?_
  refine lv_iload hx hb dF_add_18 (lv_at hl 0 rfl) ?_
  refine lv_iload_n hx hb dF_add_20 rfl (lv_at hl 3 rfl) ?_
  refine va_iast hx hb hK hP hD hS 14 0 rfl rfl (vp_in_nI (show (f.1 % 100) < 100 by omega) (by decide)) dF_add_21 (fun H locs hP hD hS => ?_)
  rw [nI_clamp (show (f.1 % 100) < 2 ^ 31 by omega)] at hP hD
  have hP : va_P (dC, dI) vwCl (sk_wR a k (nI b.1) b.2.1 b.2.2.1 b.2.2.2.1 b.2.2.2.2 (nI t.1) t.2.1 t.2.2.1 t.2.2.2.1 t.2.2.2.2 (nI f.1) (nI (sk_there f)) (nI (f.1 % 100)) (upd f.2.1 (f.1 % 100) x1) (upd f.2.2.1 (f.1 % 100) x2) f.2.2.2.1 f.2.2.2.2.1 (fun i => lN (sk_nb (f.2.2.2.2.2.1 i))) (fun i => sk_bI (f.2.2.2.2.2.2 i)) wt) H := hP
  have hD : va_D A (sk_wR a k (nI b.1) b.2.1 b.2.2.1 b.2.2.2.1 b.2.2.2.2 (nI t.1) t.2.1 t.2.2.1 t.2.2.2.1 t.2.2.2.2 (nI f.1) (nI (sk_there f)) (nI (f.1 % 100)) (upd f.2.1 (f.1 % 100) x1) (upd f.2.2.1 (f.1 % 100) x2) f.2.2.2.1 f.2.2.2.2.1 (fun i => lN (sk_nb (f.2.2.2.2.2.1 i))) (fun i => sk_bI (f.2.2.2.2.2.2 i)) wt) := hD
  refine lv_aload_n hx hb dF_add_22 rfl (lv_at hl 1 rfl) ?_
  refine va_get (D := (dC, dI)) (ci := 0) (v := .ref (a 15)) (C := RF) (T := TF) (N := 9) hx hb hts inF hown hK hP 3 rfl rfl 2 (by decide) (hts _ wfF_18) (fun _ h9 => h9) rfl dF_add_23 ?_
  refine lv_iload hx hb dF_add_26 (lv_at hl 0 rfl) ?_
  refine lv_iload_n hx hb dF_add_28 rfl (lv_at hl 4 rfl) ?_
  refine va_iast hx hb hK hP hD hS 15 0 rfl rfl (vp_in_nI (show (f.1 % 100) < 100 by omega) (by decide)) dF_add_29 (fun H locs hP hD hS => ?_)
  rw [nI_clamp (show (f.1 % 100) < 2 ^ 31 by omega)] at hP hD
  have hP : va_P (dC, dI) vwCl (sk_wR a k (nI b.1) b.2.1 b.2.2.1 b.2.2.2.1 b.2.2.2.2 (nI t.1) t.2.1 t.2.2.1 t.2.2.2.1 t.2.2.2.2 (nI f.1) (nI (sk_there f)) (nI (f.1 % 100)) (upd f.2.1 (f.1 % 100) x1) (upd f.2.2.1 (f.1 % 100) x2) (upd f.2.2.2.1 (f.1 % 100) x3) f.2.2.2.2.1 (fun i => lN (sk_nb (f.2.2.2.2.2.1 i))) (fun i => sk_bI (f.2.2.2.2.2.2 i)) wt) H := hP
  have hD : va_D A (sk_wR a k (nI b.1) b.2.1 b.2.2.1 b.2.2.2.1 b.2.2.2.2 (nI t.1) t.2.1 t.2.2.1 t.2.2.2.1 t.2.2.2.2 (nI f.1) (nI (sk_there f)) (nI (f.1 % 100)) (upd f.2.1 (f.1 % 100) x1) (upd f.2.2.1 (f.1 % 100) x2) (upd f.2.2.2.1 (f.1 % 100) x3) f.2.2.2.2.1 (fun i => lN (sk_nb (f.2.2.2.2.2.1 i))) (fun i => sk_bI (f.2.2.2.2.2.2 i)) wt) := hD
  refine lv_aload_n hx hb dF_add_30 rfl (lv_at hl 1 rfl) ?_
  refine va_get (D := (dC, dI)) (ci := 0) (v := .ref (a 16)) (C := RF) (T := TF) (N := 9) hx hb hts inF hown hK hP 3 rfl rfl 3 (by decide) (hts _ wfF_21) (fun _ h9 => h9) rfl dF_add_31 ?_
  refine lv_iload hx hb dF_add_34 (lv_at hl 0 rfl) ?_
  refine lv_iload hx hb dF_add_36 (lv_at hl 5 rfl) ?_
  refine va_iast hx hb hK hP hD hS 16 0 rfl rfl (vp_in_nI (show (f.1 % 100) < 100 by omega) (by decide)) dF_add_38 (fun H locs hP hD hS => ?_)
  rw [nI_clamp (show (f.1 % 100) < 2 ^ 31 by omega)] at hP hD
  have hP : va_P (dC, dI) vwCl (sk_wR a k (nI b.1) b.2.1 b.2.2.1 b.2.2.2.1 b.2.2.2.2 (nI t.1) t.2.1 t.2.2.1 t.2.2.2.1 t.2.2.2.2 (nI f.1) (nI (sk_there f)) (nI (f.1 % 100)) (upd f.2.1 (f.1 % 100) x1) (upd f.2.2.1 (f.1 % 100) x2) (upd f.2.2.2.1 (f.1 % 100) x3) (upd f.2.2.2.2.1 (f.1 % 100) x4) (fun i => lN (sk_nb (f.2.2.2.2.2.1 i))) (fun i => sk_bI (f.2.2.2.2.2.2 i)) wt) H := hP
  have hD : va_D A (sk_wR a k (nI b.1) b.2.1 b.2.2.1 b.2.2.2.1 b.2.2.2.2 (nI t.1) t.2.1 t.2.2.1 t.2.2.2.1 t.2.2.2.2 (nI f.1) (nI (sk_there f)) (nI (f.1 % 100)) (upd f.2.1 (f.1 % 100) x1) (upd f.2.2.1 (f.1 % 100) x2) (upd f.2.2.2.1 (f.1 % 100) x3) (upd f.2.2.2.2.1 (f.1 % 100) x4) (fun i => lN (sk_nb (f.2.2.2.2.2.1 i))) (fun i => sk_bI (f.2.2.2.2.2.2 i)) wt) := hD
  refine lv_aload_n hx hb dF_add_39 rfl (lv_at hl 1 rfl) ?_
  refine va_get (D := (dC, dI)) (ci := 0) (v := .ref (a 17)) (C := RF) (T := TF) (N := 9) hx hb hts inF hown hK hP 3 rfl rfl 4 (by decide) (hts _ wfF_24) (fun _ h9 => h9) rfl dF_add_40 ?_
  refine lv_iload hx hb dF_add_43 (lv_at hl 0 rfl) ?_
  refine lv_lload hx hb dF_add_45 (lv_at hl 6 rfl) ?_
  refine va_last hx hb hK hP hD hS 17 2 rfl rfl (vp_in_nI (show (f.1 % 100) < 100 by omega) (by decide)) dF_add_47 (fun H locs hP hD hS => ?_)
  rw [nI_clamp (show (f.1 % 100) < 2 ^ 31 by omega)] at hP hD
  have hP : va_P (dC, dI) vwCl (sk_wR a k (nI b.1) b.2.1 b.2.2.1 b.2.2.2.1 b.2.2.2.2 (nI t.1) t.2.1 t.2.2.1 t.2.2.2.1 t.2.2.2.2 (nI f.1) (nI (sk_there f)) (nI (f.1 % 100)) (upd f.2.1 (f.1 % 100) x1) (upd f.2.2.1 (f.1 % 100) x2) (upd f.2.2.2.1 (f.1 % 100) x3) (upd f.2.2.2.2.1 (f.1 % 100) x4) (vp_updL (fun i => lN (sk_nb (f.2.2.2.2.2.1 i))) (f.1 % 100) (lN (sk_nb wl))) (fun i => sk_bI (f.2.2.2.2.2.2 i)) wt) H := hP
  have hD : va_D A (sk_wR a k (nI b.1) b.2.1 b.2.2.1 b.2.2.2.1 b.2.2.2.2 (nI t.1) t.2.1 t.2.2.1 t.2.2.2.1 t.2.2.2.2 (nI f.1) (nI (sk_there f)) (nI (f.1 % 100)) (upd f.2.1 (f.1 % 100) x1) (upd f.2.2.1 (f.1 % 100) x2) (upd f.2.2.2.1 (f.1 % 100) x3) (upd f.2.2.2.2.1 (f.1 % 100) x4) (vp_updL (fun i => lN (sk_nb (f.2.2.2.2.2.1 i))) (f.1 % 100) (lN (sk_nb wl))) (fun i => sk_bI (f.2.2.2.2.2.2 i)) wt) := hD
  refine lv_aload_n hx hb dF_add_48 rfl (lv_at hl 1 rfl) ?_
  refine va_get (D := (dC, dI)) (ci := 0) (v := .ref (a 18)) (C := RF) (T := TF) (N := 9) hx hb hts inF hown hK hP 3 rfl rfl 5 (by decide) (hts _ wfF_28) (fun _ h9 => h9) rfl dF_add_49 ?_
  refine lv_iload hx hb dF_add_52 (lv_at hl 0 rfl) ?_
  refine lv_iconst (v := nI 1) hx hb dF_add_54 (by decide) ?_
  refine va_zast hx hb hK hP hD hS 18 1 rfl rfl (vp_in_nI (show (f.1 % 100) < 100 by omega) (by decide)) dF_add_55 (fun H locs hP hD hS => ?_)
  rw [nI_clamp (show (f.1 % 100) < 2 ^ 31 by omega)] at hP hD
  rw [show vp_nar .boolean (nI 1) = (nI 1) by decide] at hP hD
  have hP : va_P (dC, dI) vwCl (sk_wR a k (nI b.1) b.2.1 b.2.2.1 b.2.2.2.1 b.2.2.2.2 (nI t.1) t.2.1 t.2.2.1 t.2.2.2.1 t.2.2.2.2 (nI f.1) (nI (sk_there f)) (nI (f.1 % 100)) (upd f.2.1 (f.1 % 100) x1) (upd f.2.2.1 (f.1 % 100) x2) (upd f.2.2.2.1 (f.1 % 100) x3) (upd f.2.2.2.2.1 (f.1 % 100) x4) (vp_updL (fun i => lN (sk_nb (f.2.2.2.2.2.1 i))) (f.1 % 100) (lN (sk_nb wl))) (upd (fun i => sk_bI (f.2.2.2.2.2.2 i)) (f.1 % 100) (nI 1)) wt) H := hP
  have hD : va_D A (sk_wR a k (nI b.1) b.2.1 b.2.2.1 b.2.2.2.1 b.2.2.2.2 (nI t.1) t.2.1 t.2.2.1 t.2.2.2.1 t.2.2.2.2 (nI f.1) (nI (sk_there f)) (nI (f.1 % 100)) (upd f.2.1 (f.1 % 100) x1) (upd f.2.2.1 (f.1 % 100) x2) (upd f.2.2.2.1 (f.1 % 100) x3) (upd f.2.2.2.2.1 (f.1 % 100) x4) (vp_updL (fun i => lN (sk_nb (f.2.2.2.2.2.1 i))) (f.1 % 100) (lN (sk_nb wl))) (upd (fun i => sk_bI (f.2.2.2.2.2.2 i)) (f.1 % 100) (nI 1)) wt) := hD
  refine lv_aload_n hx hb dF_add_56 rfl (lv_at hl 1 rfl) ?_
  refine lv_dup hx hb dF_add_57 rfl ?_
  refine va_get (D := (dC, dI)) (ci := 0) (v := .int (nI f.1)) (C := RF) (T := TF) (N := 9) hx hb hts inF hown hK hP 3 rfl rfl 6 (by decide) (hts _ wfF_32) (fun _ h9 => h9) rfl dF_add_58 ?_
  refine lv_iconst (v := nI 1) hx hb dF_add_61 (by decide) ?_
  refine lv_iadd hx hb dF_add_62 ?_
  refine lv_topi (fun x62 e62 => ?_)
  obtain rfl : x62 = nI (f.1 + 1) := e62.trans (nI_add _ _)
  refine va_put (D := (dC, dI)) (ci := 0) (v := .int (nI (f.1 + 1))) (ty := .int) (C := RF) (T := TF) (N := 9) hx hb hts inF tyF tyF_ok nmF hown hK hP hD hS 3 rfl rfl 6 (by decide) (hts _ wfF_32) (fun _ h9 => h9) rfl (by decide +kernel) rfl rfl (Nat.le_of_ble_eq_true rfl) dF_add_63 (fun H locs hP hD hS => ?_)
  have hP : va_P (dC, dI) vwCl (sk_wR a k (nI b.1) b.2.1 b.2.2.1 b.2.2.2.1 b.2.2.2.2 (nI t.1) t.2.1 t.2.2.1 t.2.2.2.1 t.2.2.2.2 (nI (f.1 + 1)) (nI (sk_there f)) (nI (f.1 % 100)) (upd f.2.1 (f.1 % 100) x1) (upd f.2.2.1 (f.1 % 100) x2) (upd f.2.2.2.1 (f.1 % 100) x3) (upd f.2.2.2.2.1 (f.1 % 100) x4) (vp_updL (fun i => lN (sk_nb (f.2.2.2.2.2.1 i))) (f.1 % 100) (lN (sk_nb wl))) (upd (fun i => sk_bI (f.2.2.2.2.2.2 i)) (f.1 % 100) (nI 1)) wt) H := hP
  have hD : va_D A (sk_wR a k (nI b.1) b.2.1 b.2.2.1 b.2.2.2.1 b.2.2.2.2 (nI t.1) t.2.1 t.2.2.1 t.2.2.2.1 t.2.2.2.2 (nI (f.1 + 1)) (nI (sk_there f)) (nI (f.1 % 100)) (upd f.2.1 (f.1 % 100) x1) (upd f.2.2.1 (f.1 % 100) x2) (upd f.2.2.2.1 (f.1 % 100) x3) (upd f.2.2.2.2.1 (f.1 % 100) x4) (vp_updL (fun i => lN (sk_nb (f.2.2.2.2.2.1 i))) (f.1 % 100) (lN (sk_nb wl))) (upd (fun i => sk_bI (f.2.2.2.2.2.2 i)) (f.1 % 100) (nI 1)) wt) := hD
  refine lv_aload_n hx hb dF_add_66 rfl (lv_at hl 1 rfl) ?_
  refine lv_aload_n hx hb dF_add_67 rfl (lv_at hl 1 rfl) ?_
  refine va_get (D := (dC, dI)) (ci := 0) (v := .int (nI (sk_there f))) (C := RF) (T := TF) (N := 9) hx hb hts inF hown hK hP 3 rfl rfl 7 (by decide) (hts _ wfF_36) (fun _ h9 => h9) rfl dF_add_68 ?_
  refine lv_iload hx hb dF_add_71 (lv_at hl 0 rfl) ?_
  refine lv_iconst (v := nI 1) hx hb dF_add_73 (by decide) ?_
  refine lv_iadd hx hb dF_add_74 ?_
  refine lv_topi (fun x74 e74 => ?_)
  obtain rfl : x74 = nI ((f.1 % 100) + 1) := e74.trans (nI_add _ _)
  refine va_mmax hx hb (hml.trans hl.1.symm) hown (hts _ wmJmax) (hts _ wiJmax) (hts _ wnJmath) (hts _ wcJmax) (Nat.le_of_ble_eq_true rfl) (Nat.le_of_ble_eq_true rfl) (Nat.le_refl _) (Nat.le_refl _) dF_add_75 ?_
  refine lv_topi (fun x75 e75 => ?_)
  obtain rfl : x75 = nI (min (f.1 + 1) 100) := e75.trans sk_max
  refine va_put (D := (dC, dI)) (ci := 0) (v := .int (nI (min (f.1 + 1) 100))) (ty := .int) (C := RF) (T := TF) (N := 9) hx hb hts inF tyF tyF_ok nmF hown hK hP hD hS 3 rfl rfl 7 (by decide) (hts _ wfF_36) (fun _ h9 => h9) rfl (by decide +kernel) rfl rfl (Nat.le_of_ble_eq_true rfl) dF_add_78 (fun H locs hP hD hS => ?_)
  have hP : va_P (dC, dI) vwCl (sk_wR a k (nI b.1) b.2.1 b.2.2.1 b.2.2.2.1 b.2.2.2.2 (nI t.1) t.2.1 t.2.2.1 t.2.2.2.1 t.2.2.2.2 (nI (f.1 + 1)) (nI (min (f.1 + 1) 100)) (nI (f.1 % 100)) (upd f.2.1 (f.1 % 100) x1) (upd f.2.2.1 (f.1 % 100) x2) (upd f.2.2.2.1 (f.1 % 100) x3) (upd f.2.2.2.2.1 (f.1 % 100) x4) (vp_updL (fun i => lN (sk_nb (f.2.2.2.2.2.1 i))) (f.1 % 100) (lN (sk_nb wl))) (upd (fun i => sk_bI (f.2.2.2.2.2.2 i)) (f.1 % 100) (nI 1)) wt) H := hP
  have hD : va_D A (sk_wR a k (nI b.1) b.2.1 b.2.2.1 b.2.2.2.1 b.2.2.2.2 (nI t.1) t.2.1 t.2.2.1 t.2.2.2.1 t.2.2.2.2 (nI (f.1 + 1)) (nI (min (f.1 + 1) 100)) (nI (f.1 % 100)) (upd f.2.1 (f.1 % 100) x1) (upd f.2.2.1 (f.1 % 100) x2) (upd f.2.2.2.1 (f.1 % 100) x3) (upd f.2.2.2.2.1 (f.1 % 100) x4) (vp_updL (fun i => lN (sk_nb (f.2.2.2.2.2.1 i))) (f.1 % 100) (lN (sk_nb wl))) (upd (fun i => sk_bI (f.2.2.2.2.2.2 i)) (f.1 % 100) (nI 1)) wt) := hD
  refine lv_aload_n hx hb dF_add_81 rfl (lv_at hl 1 rfl) ?_
  refine lv_iload hx hb dF_add_82 (lv_at hl 0 rfl) ?_
  refine lv_iconst (v := nI 1) hx hb dF_add_84 (by decide) ?_
  refine lv_iadd hx hb dF_add_85 ?_
  refine lv_topi (fun x85 e85 => ?_)
  obtain rfl : x85 = nI ((f.1 % 100) + 1) := e85.trans (nI_add _ _)
  refine lv_bipush (v := nI 100) hx hb dF_add_86 (by decide) ?_
  refine lv_icmp_ge (tgt := 98) hx hb dF_add_88 (by decide) (fun c88 => ?_) (fun c88 => ?_)
  · skip
    have n88 : 100 ≤ ((f.1 % 100) + 1) := (nI_leI (by omega) (by omega)).mp c88
    refine lv_iconst (v := nI 0) hx hb dF_add_98 (by decide) ?_
    refine lv_topi (fun x99 e99 => ?_)
    obtain rfl : x99 = nI ((f.1 + 1) % 100) := e99.trans (congrArg nI (sk_nx0 n88))
    refine va_put (D := (dC, dI)) (ci := 0) (v := .int (nI ((f.1 + 1) % 100))) (ty := .int) (C := RF) (T := TF) (N := 9) hx hb hts inF tyF tyF_ok nmF hown hK hP hD hS 3 rfl rfl 8 (by decide) (hts _ wfF_39) (fun _ h9 => h9) rfl (by decide +kernel) rfl rfl (Nat.le_of_ble_eq_true rfl) dF_add_99 (fun H locs hP hD hS => ?_)
    have hP : va_P (dC, dI) vwCl (sk_wR a k (nI b.1) b.2.1 b.2.2.1 b.2.2.2.1 b.2.2.2.2 (nI t.1) t.2.1 t.2.2.1 t.2.2.2.1 t.2.2.2.2 (nI (f.1 + 1)) (nI (min (f.1 + 1) 100)) (nI ((f.1 + 1) % 100)) (upd f.2.1 (f.1 % 100) x1) (upd f.2.2.1 (f.1 % 100) x2) (upd f.2.2.2.1 (f.1 % 100) x3) (upd f.2.2.2.2.1 (f.1 % 100) x4) (vp_updL (fun i => lN (sk_nb (f.2.2.2.2.2.1 i))) (f.1 % 100) (lN (sk_nb wl))) (upd (fun i => sk_bI (f.2.2.2.2.2.2 i)) (f.1 % 100) (nI 1)) wt) H := hP
    have hD : va_D A (sk_wR a k (nI b.1) b.2.1 b.2.2.1 b.2.2.2.1 b.2.2.2.2 (nI t.1) t.2.1 t.2.2.1 t.2.2.2.1 t.2.2.2.2 (nI (f.1 + 1)) (nI (min (f.1 + 1) 100)) (nI ((f.1 + 1) % 100)) (upd f.2.1 (f.1 % 100) x1) (upd f.2.2.1 (f.1 % 100) x2) (upd f.2.2.2.1 (f.1 % 100) x3) (upd f.2.2.2.2.1 (f.1 % 100) x4) (vp_updL (fun i => lN (sk_nb (f.2.2.2.2.2.1 i))) (f.1 % 100) (lN (sk_nb wl))) (upd (fun i => sk_bI (f.2.2.2.2.2.2 i)) (f.1 % 100) (nI 1)) wt) := hD
    refine lv_iload hx hb dF_add_102 (lv_at hl 0 rfl) ?_
    rw [sk_updW, sk_updH] at hP hD
    exact W.iret (v := nI (f.1 % 100)) hx hb hr (fun U9 ht hW => ⟨⟨nI (f.1 % 100), ((b, t, sk_add f x1 x2 x3 x4 wl), wt), rfl, ⟨rfl, rfl⟩, sk_endw ht hP hD⟩, hS.F ht⟩) hS.2.2 dF_add_104
  · skip
    have n88 : ¬ 100 ≤ ((f.1 % 100) + 1) := fun q => c88 ((nI_leI (by omega) (by omega)).mpr q)
    refine lv_iload hx hb dF_add_91 (lv_at hl 0 rfl) ?_
    refine lv_iconst (v := nI 1) hx hb dF_add_93 (by decide) ?_
    refine lv_iadd hx hb dF_add_94 ?_
    refine lv_topi (fun x94 e94 => ?_)
    obtain rfl : x94 = nI ((f.1 % 100) + 1) := e94.trans (nI_add _ _)
    refine lv_goto (tgt := 99) hx hb dF_add_95 (by decide) ?_
    refine lv_topi (fun x99 e99 => ?_)
    obtain rfl : x99 = nI ((f.1 + 1) % 100) := e99.trans (congrArg nI (sk_nx1 n88))
    refine va_put (D := (dC, dI)) (ci := 0) (v := .int (nI ((f.1 + 1) % 100))) (ty := .int) (C := RF) (T := TF) (N := 9) hx hb hts inF tyF tyF_ok nmF hown hK hP hD hS 3 rfl rfl 8 (by decide) (hts _ wfF_39) (fun _ h9 => h9) rfl (by decide +kernel) rfl rfl (Nat.le_of_ble_eq_true rfl) dF_add_99 (fun H locs hP hD hS => ?_)
    have hP : va_P (dC, dI) vwCl (sk_wR a k (nI b.1) b.2.1 b.2.2.1 b.2.2.2.1 b.2.2.2.2 (nI t.1) t.2.1 t.2.2.1 t.2.2.2.1 t.2.2.2.2 (nI (f.1 + 1)) (nI (min (f.1 + 1) 100)) (nI ((f.1 + 1) % 100)) (upd f.2.1 (f.1 % 100) x1) (upd f.2.2.1 (f.1 % 100) x2) (upd f.2.2.2.1 (f.1 % 100) x3) (upd f.2.2.2.2.1 (f.1 % 100) x4) (vp_updL (fun i => lN (sk_nb (f.2.2.2.2.2.1 i))) (f.1 % 100) (lN (sk_nb wl))) (upd (fun i => sk_bI (f.2.2.2.2.2.2 i)) (f.1 % 100) (nI 1)) wt) H := hP
    have hD : va_D A (sk_wR a k (nI b.1) b.2.1 b.2.2.1 b.2.2.2.1 b.2.2.2.2 (nI t.1) t.2.1 t.2.2.1 t.2.2.2.1 t.2.2.2.2 (nI (f.1 + 1)) (nI (min (f.1 + 1) 100)) (nI ((f.1 + 1) % 100)) (upd f.2.1 (f.1 % 100) x1) (upd f.2.2.1 (f.1 % 100) x2) (upd f.2.2.2.1 (f.1 % 100) x3) (upd f.2.2.2.2.1 (f.1 % 100) x4) (vp_updL (fun i => lN (sk_nb (f.2.2.2.2.2.1 i))) (f.1 % 100) (lN (sk_nb wl))) (upd (fun i => sk_bI (f.2.2.2.2.2.2 i)) (f.1 % 100) (nI 1)) wt) := hD
    refine lv_iload hx hb dF_add_102 (lv_at hl 0 rfl) ?_
    rw [sk_updW, sk_updH] at hP hD
    exact W.iret (v := nI (f.1 % 100)) hx hb hr (fun U9 ht hW => ⟨⟨nI (f.1 % 100), ((b, t, sk_add f x1 x2 x3 x4 wl), wt), rfl, ⟨rfl, rfl⟩, sk_endw ht hP hD⟩, hS.F ht⟩) hS.2.2 dF_add_104
abbrev wzF_breakThrough : List Cond := .code yF_breakThrough cF_breakThrough 5 none :: sk_W
abbrev rzF_breakThrough : Room := { frames := 0, cells := 0, slots := 0, locals := 0 }
set_option maxHeartbeats 4000000 in
set_option maxRecDepth 100000 in
theorem kF_breakThrough (l : Launch) (dC : Nat → ClassId) (dI : Nat → Nat → Nat) (a : Nat → Nat) (k : Nat → ClassId) (b : sk_Ob) (t : sk_Tr) (f : sk_Fi) (wt : sk_F) (A : Nat → Prop) (o : Nat) (ho : o < 60) (hfl : ∀ i, i < sk_there f → ∀ x ∈ f.2.2.2.2.2.1 i, x < 60) : Met l yF_breakThrough wzF_breakThrough rzF_breakThrough (va_Pc [.ref (a 3), .int (nI o)] (fun U => sk_PX dC dI a k (b, t, f) wt U ∧ va_D A (sk_wX a k (b, t, f) wt))) (va_Qv (fun (u : sk_S × sk_F) => u = ((b, t, sk_brk f o), wt)) (fun u U => va_P (dC, dI) vwCl (sk_wX a k u.1 u.2) U.heap ∧ va_D A (sk_wX a k u.1 u.2)) A) 0 0 A := by
  refine Met.ofW (cc := cF_breakThrough) (maxL := 5) (ret := none) (by decide) rfl ?_
  intro p e s m args below meth c s₁ B hml hv
  obtain ⟨rfl, ⟨hP, hK, hN⟩, hD⟩ := hv
  have hx := B.exec
  have hb := B.bytes
  have hr := B.returns
  have hts : ∀ w ∈ sk_W, w.before ([.ref (a 3), .int (nI o)] : List Value).toArray s = true := fun w h => atoms_spec (ws := wzF_breakThrough) B.pre w (List.mem_cons_of_mem _ h)
  have hown : s.vm.findClass RF = some m.cls := findClass_of_methodNamed B.named
  have hlocks := B.notSynchronized
  have hS : va_S A s.heap s.heap [] := va_S.rf
  have hP : va_P (dC, dI) vwCl (sk_wR a k (nI b.1) b.2.1 b.2.2.1 b.2.2.2.1 b.2.2.2.2 (nI t.1) t.2.1 t.2.2.1 t.2.2.2.1 t.2.2.2.2 (nI f.1) (nI (sk_there f)) (nI (f.1 % 100)) f.2.1 f.2.2.1 f.2.2.2.1 f.2.2.2.2.1 (fun i => lN (sk_nb (f.2.2.2.2.2.1 i))) (fun i => sk_bI (f.2.2.2.2.2.2 i)) wt) s.heap := hP
  have hD : va_D A (sk_wR a k (nI b.1) b.2.1 b.2.2.1 b.2.2.2.1 b.2.2.2.2 (nI t.1) t.2.1 t.2.2.1 t.2.2.2.1 t.2.2.2.2 (nI f.1) (nI (sk_there f)) (nI (f.1 % 100)) f.2.1 f.2.2.1 f.2.2.2.1 f.2.2.2.2.1 (fun i => lN (sk_nb (f.2.2.2.2.2.1 i))) (fun i => sk_bI (f.2.2.2.2.2.2 i)) wt) := hD
  have hl := lv_entry ([.ref (a 3), .int (nI o)]) (n := 5) (Nat.le_of_ble_eq_true rfl)
  rw [lg_entry_eq]
  generalize (lg_sl ([.ref (a 3), .int (nI o)]) ++ List.replicate (5 - (lg_sl ([.ref (a 3), .int (nI o)])).length) Slot.unset).toArray = ls at hl ⊢
  have hl : lv_has ls 5 [(0, .ref (a 3)), (1, .int (nI o))] := hl
  have h100 : sk_there f ≤ 100 := Nat.min_le_right _ _
  refine lv_lconst (v := lN 1) hx hb dF_breakThrough_0 (by decide) ?_
  refine lv_iload_n hx hb dF_breakThrough_1 rfl (lv_at hl 1 rfl) ?_
  refine lv_lshl (v := lN (2 ^ o)) hx hb dF_breakThrough_2 (sk_shl ho) ?_
  refine lv_lstore_n (lv' := [(2, .long (lN (2 ^ o))), (0, .ref (a 3)), (1, .int (nI o))]) hx hb dF_breakThrough_3 rfl hl (by decide) rfl (fun ls hl => ?_)
  refine lv_iconst (v := nI 0) hx hb dF_breakThrough_4 (by decide) ?_
  refine lv_istore (lv' := [(4, .int (nI 0)), (2, .long (lN (2 ^ o))), (0, .ref (a 3)), (1, .int (nI o))]) hx hb dF_breakThrough_5 hl (by decide) rfl (fun ls hl => ?_)
  have loop1 : ∀ (nn : Nat) (i : Nat) (hv9 : Nat → Bool), i ≤ sk_there f → (∀ j, hv9 j = if j < i then sk_brkB f o j else f.2.2.2.2.2.2 j) → sk_there f - i < nn → ∀ (H : Heap) (locs : List Loc), va_P (dC, dI) vwCl (sk_wR a k (nI b.1) b.2.1 b.2.2.1 b.2.2.2.1 b.2.2.2.2 (nI t.1) t.2.1 t.2.2.1 t.2.2.2.1 t.2.2.2.2 (nI f.1) (nI (sk_there f)) (nI (f.1 % 100)) f.2.1 f.2.2.1 f.2.2.2.1 f.2.2.2.2.1 (fun i => lN (sk_nb (f.2.2.2.2.2.1 i))) (fun i9 => sk_bI (hv9 i9)) wt) H → va_D A (sk_wR a k (nI b.1) b.2.1 b.2.2.1 b.2.2.2.1 b.2.2.2.2 (nI t.1) t.2.1 t.2.2.1 t.2.2.2.1 t.2.2.2.2 (nI f.1) (nI (sk_there f)) (nI (f.1 % 100)) f.2.1 f.2.2.1 f.2.2.2.1 f.2.2.2.2.1 (fun i => lN (sk_nb (f.2.2.2.2.2.1 i))) (fun i9 => sk_bI (hv9 i9)) wt) → va_S A s.heap H locs → ∀ ls : Array Slot, lv_has ls 5 [(4, .int (nI i)), (2, .long (lN (2 ^ o))), (0, .ref (a 3)), (1, .int (nI o))] → W p l e (headSpec wzF_breakThrough rzF_breakThrough).room s m ([.ref (a 3), .int (nI o)] : List Value).toArray below meth c H locs 0 0 (MQ below (va_Qv (fun (u : sk_S × sk_F) => u = ((b, t, sk_brk f o), wt)) (fun u U => va_P (dC, dI) vwCl (sk_wX a k u.1 u.2) U.heap ∧ va_D A (sk_wX a k u.1 u.2)) A) ([.ref (a 3), .int (nI o)] : List Value).toArray s 0 0 A) (F0 m 7 ls []) := by
    intro nn
    induction nn with
    | zero => intro i hv9 hi hh hmu; exact absurd hmu (Nat.not_lt_zero _)
    | succ nn ih1 =>
      intro i hv9 hi hh hmu H locs hP hD hS ls hl
      refine lv_iload hx hb dF_breakThrough_7 (lv_at hl 0 rfl) ?_
      refine lv_aload_n hx hb dF_breakThrough_9 rfl (lv_at hl 2 rfl) ?_
      refine va_get (D := (dC, dI)) (ci := 0) (v := .int (nI (sk_there f))) (C := RF) (T := TF) (N := 9) hx hb hts inF hown hK hP 3 rfl rfl 7 (by decide) (hts _ wfF_36) (fun _ h9 => h9) rfl dF_breakThrough_10 ?_
      refine lv_icmp_ge (tgt := 44) hx hb dF_breakThrough_13 (by decide) (fun c13 => ?_) (fun c13 => ?_)
      · skip
        have n13 : (sk_there f) ≤ i := (nI_leI (by omega) (by omega)).mp c13
        obtain rfl : hv9 = sk_brkB f o := sk_brk_end (by omega) hh
        exact W.vret hx hb hr (fun U9 ht hW => ⟨⟨((b, t, sk_brk f o), wt), rfl, rfl, sk_endw ht hP hD⟩, hS.F ht⟩) hS.2.2 dF_breakThrough_44
      · skip
        have n13 : ¬ (sk_there f) ≤ i := fun q => c13 ((nI_leI (by omega) (by omega)).mpr q)
        refine lv_aload_n hx hb dF_breakThrough_16 rfl (lv_at hl 2 rfl) ?_
        refine va_get (D := (dC, dI)) (ci := 0) (v := .ref (a 17)) (C := RF) (T := TF) (N := 9) hx hb hts inF hown hK hP 3 rfl rfl 4 (by decide) (hts _ wfF_24) (fun _ h9 => h9) rfl dF_breakThrough_17 ?_
        refine lv_iload hx hb dF_breakThrough_20 (lv_at hl 0 rfl) ?_
        refine va_lald hx hb hK hP 17 2 rfl rfl (vp_in_nI (show i < 100 by omega) (by decide)) dF_breakThrough_22 ?_
        refine lv_topl (fun x22 e22 => ?_)
        rw [nI_clamp (show i < 2 ^ 31 by omega)] at e22
        obtain rfl : x22 = lN (sk_nb (f.2.2.2.2.2.1 i)) := e22.trans (rfl)
        refine lv_lload_n hx hb dF_breakThrough_23 rfl (lv_at hl 1 rfl) ?_
        refine lv_land hx hb dF_breakThrough_24 ?_
        refine lv_topl (fun x24 e24 => ?_)
        obtain rfl : x24 = lN (sk_nb (f.2.2.2.2.2.1 i) &&& 2 ^ o) := e24.trans (sk_bitin (hfl i (by omega)) ho)
        refine lv_lconst (v := lN 0) hx hb dF_breakThrough_25 (by decide) ?_
        refine W.lcmp hx hb dF_breakThrough_26 ?_
        refine lv_topi (fun x26 e26 => ?_)
        refine lv_if_eq (tgt := 38) hx hb dF_breakThrough_27 (by decide) (fun c27 => ?_) (fun c27 => ?_)
        · skip
          refine lv_iinc (v := nI (i + 1)) (lv' := [(4, .int (nI (i + 1))), (2, .long (lN (2 ^ o))), (0, .ref (a 3)), (1, .int (nI o))]) hx hb dF_breakThrough_38 hl (k := 0) rfl (sk_inc _) (by decide) rfl (fun ls hl => ?_)
          refine lv_goto (tgt := 7) hx hb dF_breakThrough_41 (by decide) ?_
          exact ih1 (i + 1) hv9 (by omega) (sk_brk_miss hh ((sk_bit0 ho).mp ((lg_cmp_eq _ _).mp (e26.symm.trans c27)))) (by omega) _ _ hP hD hS ls (lv_sub hl [0, 1, 2, 3] rfl)
        · skip
          refine lv_aload_n hx hb dF_breakThrough_30 rfl (lv_at hl 2 rfl) ?_
          refine va_get (D := (dC, dI)) (ci := 0) (v := .ref (a 18)) (C := RF) (T := TF) (N := 9) hx hb hts inF hown hK hP 3 rfl rfl 5 (by decide) (hts _ wfF_28) (fun _ h9 => h9) rfl dF_breakThrough_31 ?_
          refine lv_iload hx hb dF_breakThrough_34 (lv_at hl 0 rfl) ?_
          refine lv_iconst (v := nI 0) hx hb dF_breakThrough_36 (by decide) ?_
          refine va_zast hx hb hK hP hD hS 18 1 rfl rfl (vp_in_nI (show i < 100 by omega) (by decide)) dF_breakThrough_37 (fun H locs hP hD hS => ?_)
          rw [nI_clamp (show i < 2 ^ 31 by omega)] at hP hD
          rw [show vp_nar .boolean (nI 0) = (nI 0) by decide] at hP hD
          have hP : va_P (dC, dI) vwCl (sk_wR a k (nI b.1) b.2.1 b.2.2.1 b.2.2.2.1 b.2.2.2.2 (nI t.1) t.2.1 t.2.2.1 t.2.2.2.1 t.2.2.2.2 (nI f.1) (nI (sk_there f)) (nI (f.1 % 100)) f.2.1 f.2.2.1 f.2.2.2.1 f.2.2.2.2.1 (fun i => lN (sk_nb (f.2.2.2.2.2.1 i))) (upd (fun i9 => sk_bI (hv9 i9)) i (nI 0)) wt) H := hP
          have hD : va_D A (sk_wR a k (nI b.1) b.2.1 b.2.2.1 b.2.2.2.1 b.2.2.2.2 (nI t.1) t.2.1 t.2.2.1 t.2.2.2.1 t.2.2.2.2 (nI f.1) (nI (sk_there f)) (nI (f.1 % 100)) f.2.1 f.2.2.1 f.2.2.2.1 f.2.2.2.2.1 (fun i => lN (sk_nb (f.2.2.2.2.2.1 i))) (upd (fun i9 => sk_bI (hv9 i9)) i (nI 0)) wt) := hD
          refine lv_iinc (v := nI (i + 1)) (lv' := [(4, .int (nI (i + 1))), (2, .long (lN (2 ^ o))), (0, .ref (a 3)), (1, .int (nI o))]) hx hb dF_breakThrough_38 hl (k := 0) rfl (sk_inc _) (by decide) rfl (fun ls hl => ?_)
          refine lv_goto (tgt := 7) hx hb dF_breakThrough_41 (by decide) ?_
          rw [sk_updH0] at hP hD
          exact ih1 (i + 1) (va_up hv9 i false) (by omega) (sk_brk_hit (by omega) hh (Classical.not_not.mp (fun q => c27 (e26.trans ((lg_cmp_eq _ _).mpr ((sk_bit0 ho).mpr q)))))) (by omega) _ _ hP hD hS ls (lv_sub hl [0, 1, 2, 3] rfl)
  exact loop1 (sk_there f - 0 + 1) 0 f.2.2.2.2.2.2 (Nat.zero_le _) (fun j => (if_neg (Nat.not_lt_zero j)).symm) (Nat.lt_succ_self _) _ _ hP hD hS ls (lv_sub hl [0, 1, 2, 3] rfl)
abbrev wzK_isName : List Cond := .code yK_isName cK_isName 1 (some .boolean) :: sk_W
abbrev rzK_isName : Room := { frames := 0, cells := 0, slots := 0, locals := 0 }
set_option maxHeartbeats 4000000 in
set_option maxRecDepth 100000 in
theorem kK_isName (l : Launch) (dC : Nat → ClassId) (dI : Nat → Nat → Nat) (a : Nat → Nat) (k : Nat → ClassId) (b : sk_Ob) (t : sk_Tr) (f : sk_Fi) (wt : sk_F) (x : Int32)  : Met l yK_isName wzK_isName rzK_isName (va_Pc [.int x] (sk_PX dC dI a k (b, t, f) wt)) (va_Qi (fun r (_ : Unit) => r = sk_bI (sk_isN x)) (fun _ _ => True) (fun _ => False)) 0 0 (fun _ => False) := by
  refine Met.ofW (cc := cK_isName) (maxL := 1) (ret := (some .boolean)) (by decide) rfl ?_
  intro p e s m args below meth c s₁ B hml hv
  obtain ⟨rfl, hP, hK, hN⟩ := hv
  have hx := B.exec
  have hb := B.bytes
  have hr := B.returns
  have hts : ∀ w ∈ sk_W, w.before ([.int x] : List Value).toArray s = true := fun w h => atoms_spec (ws := wzK_isName) B.pre w (List.mem_cons_of_mem _ h)
  have hown : s.vm.findClass RK = some m.cls := findClass_of_methodNamed B.named
  have hlocks := B.notSynchronized
  have hS : va_S (fun _ => False) s.heap s.heap [] := va_S.rf
  have hP : va_P (dC, dI) vwCl (sk_wR a k (nI b.1) b.2.1 b.2.2.1 b.2.2.2.1 b.2.2.2.2 (nI t.1) t.2.1 t.2.2.1 t.2.2.2.1 t.2.2.2.2 (nI f.1) (nI (sk_there f)) (nI (f.1 % 100)) f.2.1 f.2.2.1 f.2.2.2.1 f.2.2.2.2.1 (fun i => lN (sk_nb (f.2.2.2.2.2.1 i))) (fun i => sk_bI (f.2.2.2.2.2.2 i)) wt) s.heap := hP
  have hl := lv_entry ([.int x]) (n := 1) (Nat.le_of_ble_eq_true rfl)
  rw [lg_entry_eq]
  generalize (lg_sl ([.int x]) ++ List.replicate (1 - (lg_sl ([.int x])).length) Slot.unset).toArray = ls at hl ⊢
  have hl : lv_has ls 1 [(0, .int x)] := hl
  refine lv_iload_n hx hb dK_isName_0 rfl (lv_at hl 0 rfl) ?_
  refine lv_if_lt (tgt := 14) hx hb dK_isName_1 (by decide) (fun c1 => ?_) (fun c1 => ?_)
  · skip
    refine lv_iconst (v := nI 0) hx hb dK_isName_14 (by decide) ?_
    exact W.zret (v := nI 0) hx hb hr (by decide) (fun U9 ht hW => ⟨⟨nI 0, (), rfl, sk_hasB_f1 c1, trivial⟩, hS.F ht⟩) hS.2.2 dK_isName_15
  · skip
    refine lv_iload_n hx hb dK_isName_4 rfl (lv_at hl 0 rfl) ?_
    refine lv_bipush (v := nI 12) hx hb dK_isName_5 (by decide) ?_
    refine lv_icmp_ge (tgt := 14) hx hb dK_isName_7 (by decide) (fun c7 => ?_) (fun c7 => ?_)
    · skip
      refine lv_iconst (v := nI 0) hx hb dK_isName_14 (by decide) ?_
      exact W.zret (v := nI 0) hx hb hr (by decide) (fun U9 ht hW => ⟨⟨nI 0, (), rfl, sk_hasB_f2 c7, trivial⟩, hS.F ht⟩) hS.2.2 dK_isName_15
    · skip
      refine lv_iconst (v := nI 1) hx hb dK_isName_10 (by decide) ?_
      refine lv_goto (tgt := 15) hx hb dK_isName_11 (by decide) ?_
      exact W.zret (v := nI 1) hx hb hr (by decide) (fun U9 ht hW => ⟨⟨nI 1, (), rfl, sk_hasB_t c1 c7, trivial⟩, hS.F ht⟩) hS.2.2 dK_isName_15
abbrev wzK_change : List Cond := .code yK_change cK_change 3 none :: sk_W
abbrev rzK_change : Room := { frames := 1, cells := 0, slots := 0, locals := 24 }
set_option maxHeartbeats 4000000 in
set_option maxRecDepth 100000 in
theorem kK_change (l : Launch) (dC : Nat → ClassId) (dI : Nat → Nat → Nat) (a : Nat → Nat) (k : Nat → ClassId) (b : sk_Ob) (t : sk_Tr) (f : sk_Fi) (wt : sk_F) (A : Nat → Prop) (o g : Nat) (ho : o < 60) (hfl : ∀ i, i < sk_there f → ∀ x ∈ f.2.2.2.2.2.1 i, x < 60) : Met l yK_change wzK_change rzK_change (va_Pc [.ref (a 0), .int (nI o), .int (nI g)] (fun U => sk_PX dC dI a k (b, t, f) wt U ∧ va_D A (sk_wX a k (b, t, f) wt))) (va_Qv (fun (u : sk_S × sk_F) => u = ((sk_chg b o g, t, sk_brk f o), wt)) (fun u U => va_P (dC, dI) vwCl (sk_wX a k u.1 u.2) U.heap ∧ va_D A (sk_wX a k u.1 u.2)) A) 0 0 A := by
  refine Met.ofW (cc := cK_change) (maxL := 3) (ret := none) (by decide) rfl ?_
  intro p e s m args below meth c s₁ B hml hv
  obtain ⟨rfl, ⟨hP, hK, hN⟩, hD⟩ := hv
  have hx := B.exec
  have hb := B.bytes
  have hr := B.returns
  have hts : ∀ w ∈ sk_W, w.before ([.ref (a 0), .int (nI o), .int (nI g)] : List Value).toArray s = true := fun w h => atoms_spec (ws := wzK_change) B.pre w (List.mem_cons_of_mem _ h)
  have hown : s.vm.findClass RK = some m.cls := findClass_of_methodNamed B.named
  have hlocks := B.notSynchronized
  have hS : va_S A s.heap s.heap [] := va_S.rf
  have hP : va_P (dC, dI) vwCl (sk_wR a k (nI b.1) b.2.1 b.2.2.1 b.2.2.2.1 b.2.2.2.2 (nI t.1) t.2.1 t.2.2.1 t.2.2.2.1 t.2.2.2.2 (nI f.1) (nI (sk_there f)) (nI (f.1 % 100)) f.2.1 f.2.2.1 f.2.2.2.1 f.2.2.2.2.1 (fun i => lN (sk_nb (f.2.2.2.2.2.1 i))) (fun i => sk_bI (f.2.2.2.2.2.2 i)) wt) s.heap := hP
  have hD : va_D A (sk_wR a k (nI b.1) b.2.1 b.2.2.1 b.2.2.2.1 b.2.2.2.2 (nI t.1) t.2.1 t.2.2.1 t.2.2.2.1 t.2.2.2.2 (nI f.1) (nI (sk_there f)) (nI (f.1 % 100)) f.2.1 f.2.2.1 f.2.2.2.1 f.2.2.2.2.1 (fun i => lN (sk_nb (f.2.2.2.2.2.1 i))) (fun i => sk_bI (f.2.2.2.2.2.2 i)) wt) := hD
  have hl := lv_entry ([.ref (a 0), .int (nI o), .int (nI g)]) (n := 3) (Nat.le_of_ble_eq_true rfl)
  rw [lg_entry_eq]
  generalize (lg_sl ([.ref (a 0), .int (nI o), .int (nI g)]) ++ List.replicate (3 - (lg_sl ([.ref (a 0), .int (nI o), .int (nI g)])).length) Slot.unset).toArray = ls at hl ⊢
  have hl : lv_has ls 3 [(0, .ref (a 0)), (1, .int (nI o)), (2, .int (nI g))] := hl
  refine lv_aload_n hx hb dK_change_0 rfl (lv_at hl 0 rfl) ?_
  refine va_get (D := (dC, dI)) (ci := 3) (v := .ref (a 1)) (C := RK) (T := TK) (N := 4) hx hb hts inK hown hK hP 0 rfl rfl 0 (by decide) (hts _ wfK_10) (fun _ h9 => h9) rfl dK_change_1 ?_
  refine va_getN (D := (dC, dI)) (ci := 1) (v := .ref (a 6)) (C := RO) (T := TO) (N := 5) hx hb hts inO hown hK hP 1 rfl rfl 1 (by decide) (va_Nw.use rfl (nlfK_70 hN)) (fun _ h9 => h9) rfl dK_change_4 ?_
  refine lv_iload_n hx hb dK_change_7 rfl (lv_at hl 1 rfl) ?_
  refine lv_iload_n hx hb dK_change_8 rfl (lv_at hl 2 rfl) ?_
  refine va_iast hx hb hK hP hD hS 6 0 rfl rfl (vp_in_nI (show o < 60 by omega) (by decide)) dK_change_9 (fun H locs hP hD hS => ?_)
  rw [nI_clamp (show o < 2 ^ 31 by omega)] at hP hD
  have hP : va_P (dC, dI) vwCl (sk_wR a k (nI b.1) b.2.1 (upd b.2.2.1 o (nI g)) b.2.2.2.1 b.2.2.2.2 (nI t.1) t.2.1 t.2.2.1 t.2.2.2.1 t.2.2.2.2 (nI f.1) (nI (sk_there f)) (nI (f.1 % 100)) f.2.1 f.2.2.1 f.2.2.2.1 f.2.2.2.2.1 (fun i => lN (sk_nb (f.2.2.2.2.2.1 i))) (fun i => sk_bI (f.2.2.2.2.2.2 i)) wt) H := hP
  have hD : va_D A (sk_wR a k (nI b.1) b.2.1 (upd b.2.2.1 o (nI g)) b.2.2.2.1 b.2.2.2.2 (nI t.1) t.2.1 t.2.2.1 t.2.2.2.1 t.2.2.2.2 (nI f.1) (nI (sk_there f)) (nI (f.1 % 100)) f.2.1 f.2.2.1 f.2.2.2.1 f.2.2.2.2.1 (fun i => lN (sk_nb (f.2.2.2.2.2.1 i))) (fun i => sk_bI (f.2.2.2.2.2.2 i)) wt) := hD
  refine lv_aload_n hx hb dK_change_10 rfl (lv_at hl 0 rfl) ?_
  refine va_get (D := (dC, dI)) (ci := 3) (v := .ref (a 1)) (C := RK) (T := TK) (N := 4) hx hb hts inK hown hK hP 0 rfl rfl 0 (by decide) (hts _ wfK_10) (fun _ h9 => h9) rfl dK_change_11 ?_
  refine va_getN (D := (dC, dI)) (ci := 1) (v := .ref (a 7)) (C := RO) (T := TO) (N := 5) hx hb hts inO hown hK hP 1 rfl rfl 2 (by decide) (va_Nw.use rfl (nlfK_142 hN)) (fun _ h9 => h9) rfl dK_change_14 ?_
  refine lv_iload_n hx hb dK_change_17 rfl (lv_at hl 1 rfl) ?_
  refine lv_dup2_11 hx hb dK_change_18 rfl rfl ?_
  refine va_iald hx hb hK hP 7 0 rfl rfl (vp_in_nI (show o < 60 by omega) (by decide)) dK_change_19 ?_
  refine lv_topi (fun x19 e19 => ?_)
  rw [nI_clamp (show o < 2 ^ 31 by omega)] at e19
  refine lv_iconst (v := nI 1) hx hb dK_change_20 (by decide) ?_
  refine lv_iadd hx hb dK_change_21 ?_
  refine lv_topi (fun x21 e21 => ?_)
  obtain rfl : x21 = b.2.2.2.1 o + 1 := e21.trans (by rw [e19]; rfl)
  refine va_iast hx hb hK hP hD hS 7 0 rfl rfl (vp_in_nI (show o < 60 by omega) (by decide)) dK_change_22 (fun H locs hP hD hS => ?_)
  rw [nI_clamp (show o < 2 ^ 31 by omega)] at hP hD
  have hP : va_P (dC, dI) vwCl (sk_wR a k (nI b.1) b.2.1 (upd b.2.2.1 o (nI g)) (upd b.2.2.2.1 o (b.2.2.2.1 o + 1)) b.2.2.2.2 (nI t.1) t.2.1 t.2.2.1 t.2.2.2.1 t.2.2.2.2 (nI f.1) (nI (sk_there f)) (nI (f.1 % 100)) f.2.1 f.2.2.1 f.2.2.2.1 f.2.2.2.2.1 (fun i => lN (sk_nb (f.2.2.2.2.2.1 i))) (fun i => sk_bI (f.2.2.2.2.2.2 i)) wt) H := hP
  have hD : va_D A (sk_wR a k (nI b.1) b.2.1 (upd b.2.2.1 o (nI g)) (upd b.2.2.2.1 o (b.2.2.2.1 o + 1)) b.2.2.2.2 (nI t.1) t.2.1 t.2.2.1 t.2.2.2.1 t.2.2.2.2 (nI f.1) (nI (sk_there f)) (nI (f.1 % 100)) f.2.1 f.2.2.1 f.2.2.2.1 f.2.2.2.2.1 (fun i => lN (sk_nb (f.2.2.2.2.2.1 i))) (fun i => sk_bI (f.2.2.2.2.2.2 i)) wt) := hD
  have hP : va_P (dC, dI) vwCl (sk_wR a k (nI (sk_chg b o g).1) ((sk_chg b o g).2.1) ((sk_chg b o g).2.2.1) ((sk_chg b o g).2.2.2.1) ((sk_chg b o g).2.2.2.2) (nI t.1) t.2.1 t.2.2.1 t.2.2.2.1 t.2.2.2.2 (nI f.1) (nI (sk_there f)) (nI (f.1 % 100)) f.2.1 f.2.2.1 f.2.2.2.1 f.2.2.2.2.1 (fun i => lN (sk_nb (f.2.2.2.2.2.1 i))) (fun i => sk_bI (f.2.2.2.2.2.2 i)) wt) H := hP
  have hD : va_D A (sk_wR a k (nI (sk_chg b o g).1) ((sk_chg b o g).2.1) ((sk_chg b o g).2.2.1) ((sk_chg b o g).2.2.2.1) ((sk_chg b o g).2.2.2.2) (nI t.1) t.2.1 t.2.2.1 t.2.2.2.1 t.2.2.2.2 (nI f.1) (nI (sk_there f)) (nI (f.1 % 100)) f.2.1 f.2.2.1 f.2.2.2.1 f.2.2.2.2.1 (fun i => lN (sk_nb (f.2.2.2.2.2.1 i))) (fun i => sk_bI (f.2.2.2.2.2.2 i)) wt) := hD
  refine lv_aload_n hx hb dK_change_23 rfl (lv_at hl 0 rfl) ?_
  refine va_get (D := (dC, dI)) (ci := 3) (v := .ref (a 3)) (C := RK) (T := TK) (N := 4) hx hb hts inK hown hK hP 0 rfl rfl 2 (by decide) (hts _ wfK_26) (fun _ h9 => h9) rfl dK_change_24 ?_
  refine lv_iload_n hx hb dK_change_27 rfl (lv_at hl 1 rfl) ?_
  refine va_callv (va_runVN (As := [.int (nI o)]) (rest := []) ⟨hx, hb, hml, hown, hts⟩ (kF_breakThrough l dC dI a k (sk_chg b o g) t f wt A o ho hfl) ⟨va_cnB 1 hts (sk_gC wcF_breakThrough) rfl rfl rfl (nlmK_177 hN) (hts _ wnF) (by decide +kernel) ⟨Nat.le_of_ble_eq_true rfl, Nat.le_of_ble_eq_true rfl⟩, hts _ wiF_breakThrough, hts _ wsF_breakThrough⟩ ⟨sk_blindD _, va_recv hK hP (ci := 0) (q0 := 3) rfl rfl, fun U hU hW => ⟨rfl, sk_at (S := (sk_chg b o g, t, f)) (wt := wt) hP hK hN hU hW, hD⟩⟩ rfl rfl hl.1 rfl (lv_room (Nat.le_of_ble_eq_true rfl)) dK_change_28 ⟨Nat.le_of_ble_eq_true rfl, Nat.le_of_ble_eq_true rfl⟩) hS (fun _ _ h => h) (fun _ h => h) (fun u28 U9 H locs ht hvm w28 hB hz hk hS => ?_)
  obtain ⟨hP, hD⟩ := hB
  rw [ht] at hP
  obtain rfl := w28
  have hP : va_P (dC, dI) vwCl (sk_wR a k (nI (sk_chg b o g).1) ((sk_chg b o g).2.1) ((sk_chg b o g).2.2.1) ((sk_chg b o g).2.2.2.1) ((sk_chg b o g).2.2.2.2) (nI t.1) t.2.1 t.2.2.1 t.2.2.2.1 t.2.2.2.2 (nI (sk_brk f o).1) (nI (sk_there (sk_brk f o))) (nI ((sk_brk f o).1 % 100)) ((sk_brk f o).2.1) ((sk_brk f o).2.2.1) ((sk_brk f o).2.2.2.1) ((sk_brk f o).2.2.2.2.1) (fun i => lN (sk_nb ((sk_brk f o).2.2.2.2.2.1 i))) (fun i => sk_bI ((sk_brk f o).2.2.2.2.2.2 i)) wt) H := hP
  have hD : va_D A (sk_wR a k (nI (sk_chg b o g).1) ((sk_chg b o g).2.1) ((sk_chg b o g).2.2.1) ((sk_chg b o g).2.2.2.1) ((sk_chg b o g).2.2.2.2) (nI t.1) t.2.1 t.2.2.1 t.2.2.2.1 t.2.2.2.2 (nI (sk_brk f o).1) (nI (sk_there (sk_brk f o))) (nI ((sk_brk f o).1 % 100)) ((sk_brk f o).2.1) ((sk_brk f o).2.2.1) ((sk_brk f o).2.2.2.1) ((sk_brk f o).2.2.2.2.1) (fun i => lN (sk_nb ((sk_brk f o).2.2.2.2.2.1 i))) (fun i => sk_bI ((sk_brk f o).2.2.2.2.2.2 i)) wt) := hD
  exact W.vret hx hb hr (fun U9 ht hW => ⟨⟨((sk_chg b o g, t, sk_brk f o), wt), rfl, rfl, sk_endw ht hP hD⟩, hS.F ht⟩) hS.2.2 dK_change_31
end
section
/-! how many bits, as the JDK counts them -/
theorem sk_dv {q r m : Nat} (h : r < m) : (m * q + r) / m = q := by
  rw [Nat.mul_add_div (by omega), Nat.div_eq_of_lt h, Nat.add_zero]
theorem sk_bd {R Q c B C : Nat} (e : R = 2 ^ 8 * Q + c) (hq : Q ≤ B) (hc : c < 9) (hC : 256 * B + 8 ≤ C) : R ≤ C := by omega
theorem sk_L1 {R0 R1 R2 R3 c0 c1 c2 : Nat} (e0 : R0 = 2 ^ 8 * R1 + c0) (e1 : R1 = 2 ^ 8 * R2 + c1) (e2 : R2 = 2 ^ 8 * R3 + c2) : R0 + R1 = 65536 * (R2 + R3) + (256 * (c1 + c2) + (c0 + c1)) := by
  subst e0; subst e1; subst e2; omega
theorem sk_L2 {R0 R1 R2 R3 R4 R5 R6 R7 c0 c1 c2 c3 c4 c5 c6 : Nat} (e0 : R0 = 2 ^ 8 * R1 + c0) (e1 : R1 = 2 ^ 8 * R2 + c1) (e2 : R2 = 2 ^ 8 * R3 + c2) (e3 : R3 = 2 ^ 8 * R4 + c3) (e4 : R4 = 2 ^ 8 * R5 + c4) (e5 : R5 = 2 ^ 8 * R6 + c5) (e6 : R6 = 2 ^ 8 * R7 + c6) : R0 + R1 + (R2 + R3) = 4294967296 * (R4 + R5 + R6 + R7) + (16777216 * (c3 + c4 + c5 + c6) + 65536 * (c2 + c3 + c4 + c5) + 256 * (c1 + c2 + c3 + c4) + (c0 + c1 + c2 + c3)) := by
  subst e0; subst e1; subst e2; subst e3; subst e4; subst e5; subst e6; omega
theorem sk_L3 {R0 R1 R2 R3 R4 R5 R6 R7 c0 c1 c2 c3 c4 c5 c6 c7 : Nat} (e0 : R0 = 2 ^ 8 * R1 + c0) (e1 : R1 = 2 ^ 8 * R2 + c1) (e2 : R2 = 2 ^ 8 * R3 + c2) (e3 : R3 = 2 ^ 8 * R4 + c3) (e4 : R4 = 2 ^ 8 * R5 + c4) (e5 : R5 = 2 ^ 8 * R6 + c5) (e6 : R6 = 2 ^ 8 * R7 + c6) (e7 : R7 = c7) : R0 + R1 + (R2 + R3) + (R4 + R5 + R6 + R7) = 128 * (2 * (R1 + R2 + R3 + R4 + R5 + R6 + R7)) + (c0 + c1 + c2 + c3 + c4 + c5 + c6 + c7) := by
  subst e7; subst e0; subst e1; subst e2; subst e3; subst e4; subst e5; subst e6; omega
theorem sk_B2 {c0 c1 c2 : Nat} (h0 : c0 < 9) (h1 : c1 < 9) (h2 : c2 < 9) : 256 * (c1 + c2) + (c0 + c1) < 65536 := by omega
theorem sk_B3 {c0 c1 c2 c3 c4 c5 c6 : Nat} (h0 : c0 < 9) (h1 : c1 < 9) (h2 : c2 < 9) (h3 : c3 < 9) (h4 : c4 < 9) (h5 : c5 < 9) (h6 : c6 < 9) : 16777216 * (c3 + c4 + c5 + c6) + 65536 * (c2 + c3 + c4 + c5) + 256 * (c1 + c2 + c3 + c4) + (c0 + c1 + c2 + c3) < 4294967296 := by omega
theorem sk_B4 {c0 c1 c2 c3 c4 c5 c6 c7 : Nat} (h0 : c0 < 9) (h1 : c1 < 9) (h2 : c2 < 9) (h3 : c3 < 9) (h4 : c4 < 9) (h5 : c5 < 9) (h6 : c6 < 9) (h7 : c7 < 9) : c0 + c1 + c2 + c3 + c4 + c5 + c6 + c7 ≤ 64 := by omega
theorem sk_B5 {R0 R1 R2 R3 R4 R5 R6 R7 : Nat} (h0 : R0 ≤ 651061555542690056) (h1 : R1 ≤ 2543209201338632) (h2 : R2 ≤ 9934410942728) (h3 : R3 ≤ 38806292744) (h4 : R4 ≤ 151587080) (h5 : R5 ≤ 592136) (h6 : R6 ≤ 2312) (h7 : R7 ≤ 8) : R0 + R1 + (R2 + R3) + (R4 + R5 + R6 + R7) < 4611686018427387904 := by omega
theorem sk_fin_eq0 {c0 c1 c2 c3 c4 c5 c6 c7 R0 R1 R2 R3 R4 R5 R6 R7 : Nat} (h0 : c0 < 9) (h1 : c1 < 9) (h2 : c2 < 9) (h3 : c3 < 9) (h4 : c4 < 9) (h5 : c5 < 9) (h6 : c6 < 9) (h7 : c7 < 9)
    (e0 : R0 = 2 ^ 8 * R1 + c0) (e1 : R1 = 2 ^ 8 * R2 + c1) (e2 : R2 = 2 ^ 8 * R3 + c2) (e3 : R3 = 2 ^ 8 * R4 + c3) (e4 : R4 = 2 ^ 8 * R5 + c4) (e5 : R5 = 2 ^ 8 * R6 + c5) (e6 : R6 = 2 ^ 8 * R7 + c6) (e7 : R7 = c7) :
    R0 ≤ 651061555542690056 ∧ R0 / 256 = R1 ∧ (R0 + R1) / 65536 = R2 + R3 ∧ (R0 + R1 + (R2 + R3)) / 4294967296 = R4 + R5 + R6 + R7 ∧ R0 + R1 + (R2 + R3) + (R4 + R5 + R6 + R7) < 4611686018427387904 ∧ (R0 + R1 + (R2 + R3) + (R4 + R5 + R6 + R7)) % 128 = c0 + c1 + c2 + c3 + c4 + c5 + c6 + c7 := by
  have b7 : R7 ≤ 8 := by rw [e7]; exact Nat.le_of_lt_succ h7
  have b6 := sk_bd (C := 2312) e6 b7 h6 (by decide)
  have b5 := sk_bd (C := 592136) e5 b6 h5 (by decide)
  have b4 := sk_bd (C := 151587080) e4 b5 h4 (by decide)
  have b3 := sk_bd (C := 38806292744) e3 b4 h3 (by decide)
  have b2 := sk_bd (C := 9934410942728) e2 b3 h2 (by decide)
  have b1 := sk_bd (C := 2543209201338632) e1 b2 h1 (by decide)
  have b0 := sk_bd (C := 651061555542690056) e0 b1 h0 (by decide)
  refine ⟨b0, ?_, ?_, ?_, sk_B5 b0 b1 b2 b3 b4 b5 b6 b7, ?_⟩
  · rw [e0]; exact sk_dv (m := 2 ^ 8) (Nat.lt_of_lt_of_le h0 (by decide))
  · rw [sk_L1 e0 e1 e2]; exact sk_dv (sk_B2 h0 h1 h2)
  · rw [sk_L2 e0 e1 e2 e3 e4 e5 e6]; exact sk_dv (sk_B3 h0 h1 h2 h3 h4 h5 h6)
  · rw [sk_L3 e0 e1 e2 e3 e4 e5 e6 e7, Nat.mul_add_mod, Nat.mod_eq_of_lt (Nat.lt_of_le_of_lt (sk_B4 h0 h1 h2 h3 h4 h5 h6 h7) (by decide))]
theorem sk_fo_0 (v : Nat) : sk_fo 0 v = 0 := rfl
theorem sk_pop_00 (v : Nat) : sk_pop 0 v = 0 := rfl
theorem sk_fin_eq (v : Nat) : ∃ R1 R2 R4 : Nat, sk_fo 8 v ≤ 651061555542690056 ∧ sk_fo 8 v / 256 = R1 ∧ (sk_fo 8 v + R1) / 65536 = R2 ∧ (sk_fo 8 v + R1 + R2) / 4294967296 = R4 ∧ sk_fo 8 v + R1 + R2 + R4 < 4611686018427387904 ∧ (sk_fo 8 v + R1 + R2 + R4) % 128 = sk_pop 8 v := by
  have key := sk_fin_eq0 (sk_pb9 v) (sk_pb9 (v / 256)) (sk_pb9 (v / 256 / 256)) (sk_pb9 (v / 256 / 256 / 256)) (sk_pb9 (v / 256 / 256 / 256 / 256)) (sk_pb9 (v / 256 / 256 / 256 / 256 / 256)) (sk_pb9 (v / 256 / 256 / 256 / 256 / 256 / 256)) (sk_pb9 (v / 256 / 256 / 256 / 256 / 256 / 256 / 256)) (sk_fo_s 7 v) (sk_fo_s 6 _) (sk_fo_s 5 _) (sk_fo_s 4 _) (sk_fo_s 3 _) (sk_fo_s 2 _) (sk_fo_s 1 _) (by rw [sk_fo_s 0, sk_fo_0, Nat.mul_zero, Nat.zero_add])
  obtain ⟨k1, k2, k3, k4, k5, k6⟩ := key
  refine ⟨_, _, _, k1, k2, k3, k4, k5, k6.trans ?_⟩
  rw [sk_pop_s 7, sk_pop_s 6, sk_pop_s 5, sk_pop_s 4, sk_pop_s 3, sk_pop_s 2, sk_pop_s 1, sk_pop_s 0, sk_pop_00]
  generalize sk_pb (v % 256) = c0
  generalize sk_pb (v / 256 % 256) = c1
  generalize sk_pb (v / 256 / 256 % 256) = c2
  generalize sk_pb (v / 256 / 256 / 256 % 256) = c3
  generalize sk_pb (v / 256 / 256 / 256 / 256 % 256) = c4
  generalize sk_pb (v / 256 / 256 / 256 / 256 / 256 % 256) = c5
  generalize sk_pb (v / 256 / 256 / 256 / 256 / 256 / 256 % 256) = c6
  generalize sk_pb (v / 256 / 256 / 256 / 256 / 256 / 256 / 256 % 256) = c7
  clear k1 k2 k3 k4 k5 k6
  omega
end
section
abbrev cJ_bitCount : ByteArray := prog_11_method_50_code
def RJ : String := "java/lang/Long"
def yJ_bitCount : MethodName := ⟨RJ, "bitCount", "(J)I"⟩
theorem dJ_bitCount_0 : decode cJ_bitCount 0 = .ok (.lload_n 0, 1) := by decide +kernel
theorem dJ_bitCount_1 : decode cJ_bitCount 1 = .ok (.lload_n 0, 1) := by decide +kernel
theorem dJ_bitCount_2 : decode cJ_bitCount 2 = .ok (.iconst 1, 1) := by decide +kernel
theorem dJ_bitCount_3 : decode cJ_bitCount 3 = .ok (.lushr, 1) := by decide +kernel
theorem dJ_bitCount_4 : decode cJ_bitCount 4 = .ok (.ldc2_w 314, 3) := by decide +kernel
theorem dJ_bitCount_7 : decode cJ_bitCount 7 = .ok (.land, 1) := by decide +kernel
theorem dJ_bitCount_8 : decode cJ_bitCount 8 = .ok (.lsub, 1) := by decide +kernel
theorem dJ_bitCount_9 : decode cJ_bitCount 9 = .ok (.lstore_n 0, 1) := by decide +kernel
theorem dJ_bitCount_10 : decode cJ_bitCount 10 = .ok (.lload_n 0, 1) := by decide +kernel
theorem dJ_bitCount_11 : decode cJ_bitCount 11 = .ok (.ldc2_w 316, 3) := by decide +kernel
theorem dJ_bitCount_14 : decode cJ_bitCount 14 = .ok (.land, 1) := by decide +kernel
theorem dJ_bitCount_15 : decode cJ_bitCount 15 = .ok (.lload_n 0, 1) := by decide +kernel
theorem dJ_bitCount_16 : decode cJ_bitCount 16 = .ok (.iconst 2, 1) := by decide +kernel
theorem dJ_bitCount_17 : decode cJ_bitCount 17 = .ok (.lushr, 1) := by decide +kernel
theorem dJ_bitCount_18 : decode cJ_bitCount 18 = .ok (.ldc2_w 316, 3) := by decide +kernel
theorem dJ_bitCount_21 : decode cJ_bitCount 21 = .ok (.land, 1) := by decide +kernel
theorem dJ_bitCount_22 : decode cJ_bitCount 22 = .ok (.ladd, 1) := by decide +kernel
theorem dJ_bitCount_23 : decode cJ_bitCount 23 = .ok (.lstore_n 0, 1) := by decide +kernel
theorem dJ_bitCount_24 : decode cJ_bitCount 24 = .ok (.lload_n 0, 1) := by decide +kernel
theorem dJ_bitCount_25 : decode cJ_bitCount 25 = .ok (.lload_n 0, 1) := by decide +kernel
theorem dJ_bitCount_26 : decode cJ_bitCount 26 = .ok (.iconst 4, 1) := by decide +kernel
theorem dJ_bitCount_27 : decode cJ_bitCount 27 = .ok (.lushr, 1) := by decide +kernel
theorem dJ_bitCount_28 : decode cJ_bitCount 28 = .ok (.ladd, 1) := by decide +kernel
theorem dJ_bitCount_29 : decode cJ_bitCount 29 = .ok (.ldc2_w 318, 3) := by decide +kernel
theorem dJ_bitCount_32 : decode cJ_bitCount 32 = .ok (.land, 1) := by decide +kernel
theorem dJ_bitCount_33 : decode cJ_bitCount 33 = .ok (.lstore_n 0, 1) := by decide +kernel
theorem dJ_bitCount_34 : decode cJ_bitCount 34 = .ok (.lload_n 0, 1) := by decide +kernel
theorem dJ_bitCount_35 : decode cJ_bitCount 35 = .ok (.lload_n 0, 1) := by decide +kernel
theorem dJ_bitCount_36 : decode cJ_bitCount 36 = .ok (.bipush 8, 2) := by decide +kernel
theorem dJ_bitCount_38 : decode cJ_bitCount 38 = .ok (.lushr, 1) := by decide +kernel
theorem dJ_bitCount_39 : decode cJ_bitCount 39 = .ok (.ladd, 1) := by decide +kernel
theorem dJ_bitCount_40 : decode cJ_bitCount 40 = .ok (.lstore_n 0, 1) := by decide +kernel
theorem dJ_bitCount_41 : decode cJ_bitCount 41 = .ok (.lload_n 0, 1) := by decide +kernel
theorem dJ_bitCount_42 : decode cJ_bitCount 42 = .ok (.lload_n 0, 1) := by decide +kernel
theorem dJ_bitCount_43 : decode cJ_bitCount 43 = .ok (.bipush 16, 2) := by decide +kernel
theorem dJ_bitCount_45 : decode cJ_bitCount 45 = .ok (.lushr, 1) := by decide +kernel
theorem dJ_bitCount_46 : decode cJ_bitCount 46 = .ok (.ladd, 1) := by decide +kernel
theorem dJ_bitCount_47 : decode cJ_bitCount 47 = .ok (.lstore_n 0, 1) := by decide +kernel
theorem dJ_bitCount_48 : decode cJ_bitCount 48 = .ok (.lload_n 0, 1) := by decide +kernel
theorem dJ_bitCount_49 : decode cJ_bitCount 49 = .ok (.lload_n 0, 1) := by decide +kernel
theorem dJ_bitCount_50 : decode cJ_bitCount 50 = .ok (.bipush 32, 2) := by decide +kernel
theorem dJ_bitCount_52 : decode cJ_bitCount 52 = .ok (.lushr, 1) := by decide +kernel
theorem dJ_bitCount_53 : decode cJ_bitCount 53 = .ok (.ladd, 1) := by decide +kernel
theorem dJ_bitCount_54 : decode cJ_bitCount 54 = .ok (.lstore_n 0, 1) := by decide +kernel
theorem dJ_bitCount_55 : decode cJ_bitCount 55 = .ok (.lload_n 0, 1) := by decide +kernel
theorem dJ_bitCount_56 : decode cJ_bitCount 56 = .ok (.l2i, 1) := by decide +kernel
theorem dJ_bitCount_57 : decode cJ_bitCount 57 = .ok (.bipush 127, 2) := by decide +kernel
theorem dJ_bitCount_59 : decode cJ_bitCount 59 = .ok (.iand, 1) := by decide +kernel
theorem dJ_bitCount_60 : decode cJ_bitCount 60 = .ok (.ireturn, 1) := by decide +kernel
theorem wmO_38b : Cond.methodLink RO 38 yJ_bitCount ∈ sk_W := sk_mem 292 (by decide +kernel) (by decide +kernel)
theorem wiJ_bitCount : Cond.static yJ_bitCount ∈ sk_W := sk_mem 293 (by decide +kernel) (by decide +kernel)
theorem wcJ_bitCount : Cond.code yJ_bitCount cJ_bitCount 2 (some .int) ∈ sk_W := sk_mem 294 (by decide +kernel) (by decide +kernel)
theorem wvJ_314 : Cond.constantLong RJ 314 (lN (sk_M 85 8)) ∈ sk_W := sk_mem 295 (by decide +kernel) (by decide +kernel)
theorem wvJ_316 : Cond.constantLong RJ 316 (lN (sk_M 51 8)) ∈ sk_W := sk_mem 296 (by decide +kernel) (by decide +kernel)
theorem wvJ_318 : Cond.constantLong RJ 318 (lN (sk_M 15 8)) ∈ sk_W := sk_mem 297 (by decide +kernel) (by decide +kernel)
theorem wnJ : Cond.initialized RJ ∈ sk_W := sk_mem 52 (by decide +kernel) (by decide +kernel)
theorem sk_and127 (n : Nat) : nI n &&& nI 127 = nI (n % 128) := by
  rw [pk_and (nI n) 7 (by decide), show (nI n).toBitVec.toNat = n % 2 ^ 32 from BitVec.toNat_ofNat n 32]
  congr 1
  omega
theorem sk_i64 {n : Nat} (h : n < 2 ^ 64) (k : Nat) : n / 2 ^ k < 2 ^ 64 := Nat.lt_of_le_of_lt (Nat.div_le_self _ _) h
abbrev wzJ_bitCount : List Cond := .code yJ_bitCount cJ_bitCount 2 (some .int) :: sk_W
abbrev rzJ_bitCount : Room := { frames := 0, cells := 0, slots := 0, locals := 0 }
theorem sk_gS2 {own : String} {idx : Nat} {y : MethodName} {c : Cond} (h1 : Cond.methodLink own idx y ∈ sk_W) (h2 : Cond.static y ∈ sk_W) (h4 : Cond.initialized y.cls ∈ sk_W) (h5 : c ∈ sk_W) : GoodIn sk_W (va_wsS own idx y (c :: sk_W)) := by
  intro w hw
  rcases List.mem_append.mp hw with q | q
  · simp only [List.mem_cons, List.not_mem_nil, or_false] at q
    rcases q with rfl | rfl | rfl
    · exact sk_Wgood _ h1
    · exact sk_Wgood _ h2
    · exact sk_Wgood _ h4
  · exact sk_gC h5 w q
set_option maxHeartbeats 4000000 in
set_option maxRecDepth 100000 in
theorem kJ_bitCount (l : Launch) (v : Nat) (hv : v < 2 ^ 64) : Met l yJ_bitCount wzJ_bitCount rzJ_bitCount (va_Pc [.long (lN v)] (fun _ => True)) (va_Qi (fun r (_ : Unit) => r = nI (sk_pop 8 v)) (fun _ _ => True) (fun _ => False)) 0 0 (fun _ => False) := by
  refine Met.ofW (cc := cJ_bitCount) (maxL := 2) (ret := (some .int)) (by decide) rfl ?_
  intro p e s m args below meth c s₁ B hml hv9
  obtain ⟨rfl, -⟩ := hv9
  have hx := B.exec
  have hb := B.bytes
  have hr := B.returns
  have hts : ∀ w ∈ sk_W, w.before ([.long (lN v)] : List Value).toArray s = true := fun w h => atoms_spec (ws := wzJ_bitCount) B.pre w (List.mem_cons_of_mem _ h)
  have hown : s.vm.findClass RJ = some m.cls := findClass_of_methodNamed B.named
  have hlocks := B.notSynchronized
  have hS : va_S (fun _ => False) s.heap s.heap [] := va_S.rf
  have hl := lv_entry ([.long (lN v)]) (n := 2) (Nat.le_of_ble_eq_true rfl)
  rw [lg_entry_eq]
  generalize (lg_sl ([.long (lN v)]) ++ List.replicate (2 - (lg_sl ([.long (lN v)])).length) Slot.unset).toArray = ls at hl ⊢
  have hl : lv_has ls 2 [(0, .long (lN v))] := hl
  have hv1 : sk_S1 8 v < 2 ^ 64 := Nat.lt_of_le_of_lt (Nat.sub_le _ _) hv
  have hm3 : sk_M 51 8 = 3689348814741910323 := by decide +kernel
  have hv2 : sk_S2 8 (sk_S1 8 v) ≤ 7378697629483820646 := by
    have z1 : (sk_S1 8 v &&& sk_M 51 8) ≤ sk_M 51 8 := Nat.and_le_right
    have z2 : (sk_S1 8 v / 4 &&& sk_M 51 8) ≤ sk_M 51 8 := Nat.and_le_right
    unfold sk_S2
    rw [hm3] at z1 z2 ⊢
    omega
  have hv3 : sk_S2 8 (sk_S1 8 v) + sk_S2 8 (sk_S1 8 v) / 16 < 2 ^ 64 := by
    have z1 : sk_S2 8 (sk_S1 8 v) / 16 ≤ 461168601842738790 := by
      have := Nat.div_le_div_right (c := 16) hv2
      exact Nat.le_trans this (by decide)
    have z2 : (18446744073709551616 : Nat) = 2 ^ 64 := by decide
    omega
  have hv4 : sk_S2 8 (sk_S1 8 v) < 2 ^ 64 := Nat.lt_of_le_of_lt (Nat.le_add_right _ _) hv3
  have hfo := sk_fo_eq 8 v (by rw [show (256 : Nat) ^ 8 = 2 ^ 64 by decide]; exact hv)
  obtain ⟨R1, R2, R4, g0, g1, g2, g3, g4, g5⟩ := sk_fin_eq v
  have z64 : (18446744073709551616 : Nat) = 2 ^ 64 := by decide
  have y1 : sk_fo 8 v < 2 ^ 64 := by omega
  have y2 : sk_fo 8 v + R1 < 2 ^ 64 := by omega
  have y3 : sk_fo 8 v + R1 + R2 < 2 ^ 64 := by omega
  refine lv_lload_n hx hb dJ_bitCount_0 rfl (lv_at hl 0 rfl) ?_
  refine lv_lload_n hx hb dJ_bitCount_1 rfl (lv_at hl 0 rfl) ?_
  refine lv_iconst (v := nI 1) hx hb dJ_bitCount_2 (by decide) ?_
  refine lv_lushr (v := lN (v / 2)) hx hb dJ_bitCount_3 (wb_shr (k := 1) hv (by decide)) ?_
  refine lv_ldc2 (v := lN (sk_M 85 8)) hx hb hown (hts _ wvJ_314) dJ_bitCount_4 ?_
  refine lv_land hx hb dJ_bitCount_7 ?_
  refine lv_topl (fun x7 e7 => ?_)
  obtain rfl : x7 = lN (v / 2 &&& sk_M 85 8) := e7.trans (wb_and (sk_i64 hv 1) (by decide))
  refine lv_lsub hx hb dJ_bitCount_8 ?_
  refine lv_topl (fun x8 e8 => ?_)
  obtain rfl : x8 = lN (sk_S1 8 v) := e8.trans (lN_sub (Nat.le_trans Nat.and_le_left (Nat.div_le_self v 2)))
  refine lv_lstore_n (lv' := [(0, .long (lN (sk_S1 8 v)))]) hx hb dJ_bitCount_9 rfl hl (by decide) rfl (fun ls hl => ?_)
  refine lv_lload_n hx hb dJ_bitCount_10 rfl (lv_at hl 0 rfl) ?_
  refine lv_ldc2 (v := lN (sk_M 51 8)) hx hb hown (hts _ wvJ_316) dJ_bitCount_11 ?_
  refine lv_land hx hb dJ_bitCount_14 ?_
  refine lv_topl (fun x14 e14 => ?_)
  obtain rfl : x14 = lN (sk_S1 8 v &&& sk_M 51 8) := e14.trans (wb_and hv1 (by decide))
  refine lv_lload_n hx hb dJ_bitCount_15 rfl (lv_at hl 0 rfl) ?_
  refine lv_iconst (v := nI 2) hx hb dJ_bitCount_16 (by decide) ?_
  refine lv_lushr (v := lN (sk_S1 8 v / 4)) hx hb dJ_bitCount_17 (wb_shr (k := 2) hv1 (by decide)) ?_
  refine lv_ldc2 (v := lN (sk_M 51 8)) hx hb hown (hts _ wvJ_316) dJ_bitCount_18 ?_
  refine lv_land hx hb dJ_bitCount_21 ?_
  refine lv_topl (fun x21 e21 => ?_)
  obtain rfl : x21 = lN (sk_S1 8 v / 4 &&& sk_M 51 8) := e21.trans (wb_and (sk_i64 hv1 2) (by decide))
  refine lv_ladd hx hb dJ_bitCount_22 ?_
  refine lv_topl (fun x22 e22 => ?_)
  obtain rfl : x22 = lN (sk_S2 8 (sk_S1 8 v)) := e22.trans (lN_add _ _)
  refine lv_lstore_n (lv' := [(0, .long (lN (sk_S2 8 (sk_S1 8 v))))]) hx hb dJ_bitCount_23 rfl hl (by decide) rfl (fun ls hl => ?_)
  refine lv_lload_n hx hb dJ_bitCount_24 rfl (lv_at hl 0 rfl) ?_
  refine lv_lload_n hx hb dJ_bitCount_25 rfl (lv_at hl 0 rfl) ?_
  refine lv_iconst (v := nI 4) hx hb dJ_bitCount_26 (by decide) ?_
  refine lv_lushr (v := lN (sk_S2 8 (sk_S1 8 v) / 16)) hx hb dJ_bitCount_27 (wb_shr (k := 4) hv4 (by decide)) ?_
  refine lv_ladd hx hb dJ_bitCount_28 ?_
  refine lv_topl (fun x28 e28 => ?_)
  obtain rfl : x28 = lN (sk_S2 8 (sk_S1 8 v) + sk_S2 8 (sk_S1 8 v) / 16) := e28.trans (lN_add _ _)
  refine lv_ldc2 (v := lN (sk_M 15 8)) hx hb hown (hts _ wvJ_318) dJ_bitCount_29 ?_
  refine lv_land hx hb dJ_bitCount_32 ?_
  refine lv_topl (fun x32 e32 => ?_)
  obtain rfl : x32 = lN (sk_fo 8 v) := e32.trans ((wb_and hv3 (by decide)).trans (congrArg lN hfo))
  refine lv_lstore_n (lv' := [(0, .long (lN (sk_fo 8 v)))]) hx hb dJ_bitCount_33 rfl hl (by decide) rfl (fun ls hl => ?_)
  refine lv_lload_n hx hb dJ_bitCount_34 rfl (lv_at hl 0 rfl) ?_
  refine lv_lload_n hx hb dJ_bitCount_35 rfl (lv_at hl 0 rfl) ?_
  refine lv_bipush (v := nI 8) hx hb dJ_bitCount_36 (by decide) ?_
  refine lv_lushr (v := lN R1) hx hb dJ_bitCount_38 ((wb_shr (k := 8) y1 (by decide)).trans (congrArg lN g1)) ?_
  refine lv_ladd hx hb dJ_bitCount_39 ?_
  refine lv_topl (fun x39 e39 => ?_)
  obtain rfl : x39 = lN (sk_fo 8 v + R1) := e39.trans (lN_add _ _)
  refine lv_lstore_n (lv' := [(0, .long (lN (sk_fo 8 v + R1)))]) hx hb dJ_bitCount_40 rfl hl (by decide) rfl (fun ls hl => ?_)
  refine lv_lload_n hx hb dJ_bitCount_41 rfl (lv_at hl 0 rfl) ?_
  refine lv_lload_n hx hb dJ_bitCount_42 rfl (lv_at hl 0 rfl) ?_
  refine lv_bipush (v := nI 16) hx hb dJ_bitCount_43 (by decide) ?_
  refine lv_lushr (v := lN R2) hx hb dJ_bitCount_45 ((wb_shr (k := 16) y2 (by decide)).trans (congrArg lN g2)) ?_
  refine lv_ladd hx hb dJ_bitCount_46 ?_
  refine lv_topl (fun x46 e46 => ?_)
  obtain rfl : x46 = lN (sk_fo 8 v + R1 + R2) := e46.trans (lN_add _ _)
  refine lv_lstore_n (lv' := [(0, .long (lN (sk_fo 8 v + R1 + R2)))]) hx hb dJ_bitCount_47 rfl hl (by decide) rfl (fun ls hl => ?_)
  refine lv_lload_n hx hb dJ_bitCount_48 rfl (lv_at hl 0 rfl) ?_
  refine lv_lload_n hx hb dJ_bitCount_49 rfl (lv_at hl 0 rfl) ?_
  refine lv_bipush (v := nI 32) hx hb dJ_bitCount_50 (by decide) ?_
  refine lv_lushr (v := lN R4) hx hb dJ_bitCount_52 ((wb_shr (k := 32) y3 (by decide)).trans (congrArg lN g3)) ?_
  refine lv_ladd hx hb dJ_bitCount_53 ?_
  refine lv_topl (fun x53 e53 => ?_)
  obtain rfl : x53 = lN (sk_fo 8 v + R1 + R2 + R4) := e53.trans (lN_add _ _)
  refine lv_lstore_n (lv' := [(0, .long (lN (sk_fo 8 v + R1 + R2 + R4)))]) hx hb dJ_bitCount_54 rfl hl (by decide) rfl (fun ls hl => ?_)
  refine lv_lload_n hx hb dJ_bitCount_55 rfl (lv_at hl 0 rfl) ?_
  refine lv_l2i (v := nI (sk_fo 8 v + R1 + R2 + R4)) hx hb dJ_bitCount_56 (lN_i _) ?_
  refine lv_bipush (v := nI 127) hx hb dJ_bitCount_57 (by decide) ?_
  refine lv_iand hx hb dJ_bitCount_59 ?_
  refine lv_topi (fun x59 e59 => ?_)
  obtain rfl : x59 = nI (sk_pop 8 v) := e59.trans ((sk_and127 _).trans (congrArg nI g5))
  exact W.iret (v := nI (sk_pop 8 v)) hx hb hr (fun U9 ht hW => ⟨⟨nI (sk_pop 8 v), (), rfl, rfl, trivial⟩, hS.F ht⟩) hS.2.2 dJ_bitCount_60
abbrev wzO_countAbove : List Cond := .code yO_countAbove cO_countAbove 2 (some .int) :: sk_W
abbrev rzO_countAbove : Room := { frames := 1, cells := 0, slots := 0, locals := 26 }
set_option maxHeartbeats 4000000 in
set_option maxRecDepth 100000 in
theorem kO_countAbove (l : Launch) (dC : Nat → ClassId) (dI : Nat → Nat → Nat) (a : Nat → Nat) (k : Nat → ClassId) (b : sk_Ob) (t : sk_Tr) (f : sk_Fi) (wt : sk_F) (o : Nat) (hA : sk_AC b.1 b.2.1) (ho : o < b.1) : Met l yO_countAbove wzO_countAbove rzO_countAbove (va_Pc [.ref (a 1), .int (nI o)] (sk_PX dC dI a k (b, t, f) wt)) (va_Qi (fun r (_ : Unit) => r = nI (sk_abv b.2.1 (b.2.1 o)).length) (fun _ _ => True) (fun _ => False)) 0 0 (fun _ => False) := by
  refine Met.ofW (cc := cO_countAbove) (maxL := 2) (ret := (some .int)) (by decide) rfl ?_
  intro p e s m args below meth c s₁ B hml hv
  obtain ⟨rfl, hP, hK, hN⟩ := hv
  have hx := B.exec
  have hb := B.bytes
  have hr := B.returns
  have hts : ∀ w ∈ sk_W, w.before ([.ref (a 1), .int (nI o)] : List Value).toArray s = true := fun w h => atoms_spec (ws := wzO_countAbove) B.pre w (List.mem_cons_of_mem _ h)
  have hown : s.vm.findClass RO = some m.cls := findClass_of_methodNamed B.named
  have hlocks := B.notSynchronized
  have hS : va_S (fun _ => False) s.heap s.heap [] := va_S.rf
  have hP : va_P (dC, dI) vwCl (sk_wR a k (nI b.1) b.2.1 b.2.2.1 b.2.2.2.1 b.2.2.2.2 (nI t.1) t.2.1 t.2.2.1 t.2.2.2.1 t.2.2.2.2 (nI f.1) (nI (sk_there f)) (nI (f.1 % 100)) f.2.1 f.2.2.1 f.2.2.2.1 f.2.2.2.2.1 (fun i => lN (sk_nb (f.2.2.2.2.2.1 i))) (fun i => sk_bI (f.2.2.2.2.2.2 i)) wt) s.heap := hP
  have hl := lv_entry ([.ref (a 1), .int (nI o)]) (n := 2) (Nat.le_of_ble_eq_true rfl)
  rw [lg_entry_eq]
  generalize (lg_sl ([.ref (a 1), .int (nI o)]) ++ List.replicate (2 - (lg_sl ([.ref (a 1), .int (nI o)])).length) Slot.unset).toArray = ls at hl ⊢
  have hl : lv_has ls 2 [(0, .ref (a 1)), (1, .int (nI o))] := hl
  have h60 : b.1 ≤ 60 := hA.1
  have hlt := sk_abv_lt hA (hA.2.1 o ho)
  have h6 : ∀ x ∈ sk_abv b.2.1 (b.2.1 o), x < 60 := fun x hx => Nat.lt_of_lt_of_le (hlt x hx) h60
  have hn64 := sk_nb_lt (sk_abv b.2.1 (b.2.1 o)) (fun x hx => Nat.lt_trans (h6 x hx) (by decide))
  refine lv_aload_n hx hb dO_countAbove_0 rfl (lv_at hl 0 rfl) ?_
  refine lv_aload_n hx hb dO_countAbove_1 rfl (lv_at hl 0 rfl) ?_
  refine va_get (D := (dC, dI)) (ci := 1) (v := .ref (a 5)) (C := RO) (T := TO) (N := 5) hx hb hts inO hown hK hP 1 rfl rfl 0 (by decide) (hts _ wfO_9) (fun _ h9 => h9) rfl dO_countAbove_2 ?_
  refine lv_iload_n hx hb dO_countAbove_5 rfl (lv_at hl 1 rfl) ?_
  refine va_iald hx hb hK hP 5 0 rfl rfl (vp_in_nI (show o < 60 by omega) (by decide)) dO_countAbove_6 ?_
  refine lv_topi (fun x6 e6 => ?_)
  rw [nI_clamp (show o < 2 ^ 31 by omega)] at e6
  refine lv_iconst (v := (-1)) hx hb dO_countAbove_7 (by decide) ?_
  refine va_calll (va_runV (As := [.int x6, .int (-1)]) (rest := []) ⟨hx, hb, hml, hown, hts⟩ (kO_way l dC dI a k b t f wt x6 (-1) hA (by rw [e6]; exact hA.2.1 o ho)) (cwV 2 hts (sk_gV wmO_34 wiO_way wsO_way wnO wcO_way) rfl rfl rfl (by decide +kernel) ⟨Nat.le_of_ble_eq_true rfl, Nat.le_of_ble_eq_true rfl⟩) ⟨sk_blind _, va_recv hK hP (ci := 1) (q0 := 1) rfl rfl, fun U hU hW => ⟨rfl, sk_at (S := (b, t, f)) (wt := wt) hP hK hN hU hW⟩⟩ rfl rfl hl.1 rfl (lv_room (Nat.le_of_ble_eq_true rfl)) dO_countAbove_8 ⟨Nat.le_of_ble_eq_true rfl, Nat.le_of_ble_eq_true rfl⟩) hS (fun _ _ h => h.elim) (fun _ h => h.elim) (fun r8 u8 U9 H locs ht hvm w8 hB hz hk hS => ?_)
  have hP : va_P (dC, dI) vwCl (sk_wR a k (nI b.1) b.2.1 b.2.2.1 b.2.2.2.1 b.2.2.2.2 (nI t.1) t.2.1 t.2.2.1 t.2.2.2.1 t.2.2.2.2 (nI f.1) (nI (sk_there f)) (nI (f.1 % 100)) f.2.1 f.2.2.1 f.2.2.2.1 f.2.2.2.2.1 (fun i => lN (sk_nb (f.2.2.2.2.2.1 i))) (fun i => sk_bI (f.2.2.2.2.2.2 i)) wt) H := hP.kept (fun j q hq => hk q.1 ((hP j q hq).lt) (fun h => h))
  clear hk hB ht
  obtain rfl : r8 = lN (sk_nb (sk_abv b.2.1 (b.2.1 o))) := w8.trans (by rw [e6, sk_uptoM _ h6])
  refine va_calli (va_runS (As := [.long (lN (sk_nb (sk_abv b.2.1 (b.2.1 o))))]) (rest := []) ⟨hx, hb, hml, hown, hts⟩ (kJ_bitCount l (sk_nb (sk_abv b.2.1 (b.2.1 o))) hn64) (va_cwS 1 hts (sk_gS2 wmO_38b wiJ_bitCount wnJ wcJ_bitCount) rfl rfl rfl (by decide +kernel) ⟨Nat.le_of_ble_eq_true rfl, Nat.le_of_ble_eq_true rfl⟩) ⟨fun _ _ _ _ q => q, fun U hU hW => ⟨rfl, trivial⟩⟩ rfl rfl hl.1 rfl (lv_room (Nat.le_of_ble_eq_true rfl)) dO_countAbove_11 ⟨Nat.le_of_ble_eq_true rfl, Nat.le_of_ble_eq_true rfl⟩) hS (fun _ _ h => h.elim) (fun _ h => h.elim) (fun r11 u11 U9 H locs ht hvm w11 hB hz hk hS => ?_)
  exact W.iret (v := r11) hx hb hr (fun U9 ht hW => ⟨⟨r11, (), rfl, w11.trans (congrArg nI (sk_pop_nb _ (sk_abv_nodup hA (hA.2.1 o ho)) (fun x hx => Nat.lt_trans (h6 x hx) (by decide)))), trivial⟩, hS.F ht⟩) hS.2.2 dO_countAbove_14
end
section
theorem sk_set_n {S : sk_S} {x y v : Int32} (h : (sk_hasB S.1.1 x && sk_isN y) = false) : sk_set S x y v = (false, S) := by unfold sk_set; rw [if_neg (by rw [h]; decide)]
theorem sk_set_y {S : sk_S} {o : Nat} {y v : Int32} (h60 : S.1.1 ≤ 60) (ho : o < S.1.1) (hy : sk_isN y = true) : sk_set S (nI o) y v = sk_setN S o y v := by unfold sk_set; rw [if_pos (by rw [sk_hasB_nI (by omega) ho, hy]; rfl), nI_clamp (by omega)]
theorem sk_set_1 {b : sk_Ob} {t : sk_Tr} {f : sk_Fi} {o kk : Nat} {y v : Int32} (hk : kk < 12) (hp : sk_place t y (sk_sh b o) = nI kk) : sk_setN (b, t, f) o y v = (true, (sk_setv b o kk v, t, f)) := by
  unfold sk_setN
  show (if sk_place t y (sk_sh b o) = -1 then _ else (true, (sk_setv b o (sk_place t y (sk_sh b o)).toNatClampNeg v, t, f))) = _
  rw [hp, if_neg (sk_nm1 (by omega)), nI_clamp (by omega)]
theorem sk_set_2 {b : sk_Ob} {t : sk_Tr} {f : sk_Fi} {o : Nat} {y v : Int32} (hp : sk_place t y (sk_sh b o) = -1) (hg : sk_grow t (sk_sh b o) y = none) : sk_setN (b, t, f) o y v = (false, (b, t, f)) := by
  unfold sk_setN
  rw [if_pos hp]
  show (match sk_grow t (sk_sh b o) y with | none => _ | some (u, g) => _) = _
  rw [hg]
theorem sk_set_3 {b : sk_Ob} {t t2 : sk_Tr} {f : sk_Fi} {o g : Nat} {y v : Int32} (hp : sk_place t y (sk_sh b o) = -1) (hg : sk_grow t (sk_sh b o) y = some (t2, g)) : sk_setN (b, t, f) o y v = (true, (sk_setv (sk_chg b o g) o (sk_len t (sk_sh b o)) v, t2, sk_brk f o)) := by
  unfold sk_setN
  rw [if_pos hp]
  show (match sk_grow t (sk_sh b o) y with | none => _ | some (u, g) => _) = _
  rw [hg]
theorem sk_drop_n {S : sk_S} {x y : Int32} (h : sk_hasB S.1.1 x = false) : sk_drop S x y = (false, S) := by unfold sk_drop; rw [if_neg (by rw [h]; decide)]
theorem sk_drop_y {S : sk_S} {o : Nat} {y : Int32} (h60 : S.1.1 ≤ 60) (ho : o < S.1.1) : sk_drop S (nI o) y = sk_dropN S o y := by unfold sk_drop; rw [if_pos (sk_hasB_nI (by omega) ho), nI_clamp (by omega)]
theorem sk_drop_1 {b : sk_Ob} {t : sk_Tr} {f : sk_Fi} {o : Nat} {y : Int32} (hp : sk_place t y (sk_sh b o) = -1) : sk_dropN (b, t, f) o y = (false, (b, t, f)) := by unfold sk_dropN; rw [if_pos hp]
theorem sk_drop_2 {b : sk_Ob} {t : sk_Tr} {f : sk_Fi} {o kk : Nat} {y : Int32} (hk : kk < 12) (hp : sk_place t y (sk_sh b o) = nI kk) (hr : sk_reach t (b.2.1 o) (sk_left t (sk_sh b o) y) = none) : sk_dropN (b, t, f) o y = (false, (b, t, f)) := by
  unfold sk_dropN
  rw [if_neg (by show ¬ sk_place t y (sk_sh b o) = -1; rw [hp]; exact sk_nm1 (by omega))]
  show (match sk_reach t (b.2.1 o) (sk_left t (sk_sh b o) y) with | none => _ | some (u, g) => _) = _
  rw [hr]
theorem sk_drop_3 {b : sk_Ob} {t t2 : sk_Tr} {f : sk_Fi} {o kk g : Nat} {y : Int32} (hk : kk < 12) (hp : sk_place t y (sk_sh b o) = nI kk) (hr : sk_reach t (b.2.1 o) (sk_left t (sk_sh b o) y) = some (t2, g)) : sk_dropN (b, t, f) o y = (true, (sk_chg (sk_gap b o kk) o g, t2, sk_brk f o)) := by
  unfold sk_dropN
  rw [if_neg (by show ¬ sk_place t y (sk_sh b o) = -1; rw [hp]; exact sk_nm1 (by omega))]
  show (match sk_reach t (b.2.1 o) (sk_left t (sk_sh b o) y) with | none => _ | some (u, g) => (true, (sk_chg (sk_gap b o (sk_place t y (sk_sh b o)).toNatClampNeg) o g, u, sk_brk f o))) = _
  rw [hr, hp, nI_clamp (by omega)]
theorem sk_turn_n {S : sk_S} {x y : Int32} (h : (sk_hasB S.1.1 x && sk_canP S.1.1 y) = false) : sk_turn S x y = (false, S) := by unfold sk_turn; rw [if_neg (by rw [h]; decide)]
theorem sk_turn_y {S : sk_S} {o : Nat} {y : Int32} (h60 : S.1.1 ≤ 60) (ho : o < S.1.1) (hy : sk_canP S.1.1 y = true) : sk_turn S (nI o) y = sk_turnN S o y := by unfold sk_turn; rw [if_pos (by rw [sk_hasB_nI (by omega) ho, hy]; rfl), nI_clamp (by omega)]
theorem sk_turn_1 {b : sk_Ob} {t : sk_Tr} {f : sk_Fi} {o : Nat} {y : Int32} (h : decide (o ∈ sk_abv b.2.1 y) = true) : sk_turnN (b, t, f) o y = (false, (b, t, f)) := by unfold sk_turnN; rw [if_pos (of_decide_eq_true h)]
theorem sk_turn_2 {b : sk_Ob} {t : sk_Tr} {f : sk_Fi} {o : Nat} {y : Int32} (h : decide (o ∈ sk_abv b.2.1 y) = false) (hr : sk_reach t y (sk_names t (sk_sh b o)) = none) : sk_turnN (b, t, f) o y = (false, (b, t, f)) := by
  unfold sk_turnN
  rw [if_neg (of_decide_eq_false h)]
  show (match sk_reach t y (sk_names t (sk_sh b o)) with | none => _ | some (u, g) => _) = _
  rw [hr]
theorem sk_turn_3 {b : sk_Ob} {t t2 : sk_Tr} {f : sk_Fi} {o g : Nat} {y : Int32} (h : decide (o ∈ sk_abv b.2.1 y) = false) (hr : sk_reach t y (sk_names t (sk_sh b o)) = some (t2, g)) : sk_turnN (b, t, f) o y = (true, (sk_chg (b.1, upd b.2.1 o y, b.2.2) o g, t2, sk_brk f o)) := by
  unfold sk_turnN
  rw [if_neg (of_decide_eq_false h)]
  show (match sk_reach t y (sk_names t (sk_sh b o)) with | none => _ | some (u, g) => _) = _
  rw [hr]
theorem sk_find_n {S : sk_S} {x y : Int32} (h : (sk_hasB S.1.1 x && sk_isN y) = false) : sk_find S x y = (-1, S) := by unfold sk_find; rw [if_neg (by rw [h]; decide)]
theorem sk_find_y {b : sk_Ob} {t : sk_Tr} {f : sk_Fi} {o : Nat} {y : Int32} (h60 : b.1 ≤ 60) (ho : o < b.1) (hy : sk_isN y = true) : sk_find (b, t, f) (nI o) y = (nI (f.1 % 100), (b, t, sk_findN (b, t, f) o y)) := by unfold sk_find; rw [if_pos (by show (sk_hasB b.1 (nI o) && sk_isN y) = true; rw [sk_hasB_nI (by omega) ho, hy]; rfl), nI_clamp (by omega)]
theorem sk_find_1 {b : sk_Ob} {t : sk_Tr} {f : sk_Fi} {o kk : Nat} {y : Int32} (hk : kk < 12) (hs : b.2.2.1 o = nI (sk_sh b o)) (hp : sk_place t y (sk_sh b o) = nI kk) : sk_findN (b, t, f) o y = sk_add f (nI (sk_sh b o)) y (-1) (nI kk) [] := by
  unfold sk_findN
  show (if sk_place t y (sk_sh b o) = -1 then _ else sk_add f (b.2.2.1 o) y (-1) (sk_place t y (sk_sh b o)) []) = _
  rw [hp, if_neg (sk_nm1 (by omega)), hs]
theorem sk_find_2 {b : sk_Ob} {t : sk_Tr} {f : sk_Fi} {o : Nat} {y r z : Int32} (hs : b.2.2.1 o = nI (sk_sh b o)) (hp : sk_place t y (sk_sh b o) = -1) (hr : r = sk_nw (sk_own b t y) (sk_abv b.2.1 (b.2.1 o))) (hz : z = sk_opl b t y r) : sk_findN (b, t, f) o y = sk_add f (nI (sk_sh b o)) y r z (sk_upto (sk_own b t y) (sk_abv b.2.1 (b.2.1 o))) := by
  subst hz; subst hr
  unfold sk_findN
  rw [if_pos hp]
  show sk_add f (b.2.2.1 o) y _ _ _ = _
  rw [hs]
theorem sk_hold_f1 {b : sk_Ob} {t : sk_Tr} {f : sk_Fi} {x y : Int32} (h : sk_hasB (sk_there f) x = false) : nI 0 = sk_bI (sk_holds (b, t, f) x y) := by
  show nI 0 = sk_bI (sk_hasB (sk_there f) x && _); rw [h]; rfl
theorem sk_hold_f2 {b : sk_Ob} {t : sk_Tr} {f : sk_Fi} {x y : Int32} (h : sk_hasB b.1 y = false) : nI 0 = sk_bI (sk_holds (b, t, f) x y) := by
  show nI 0 = sk_bI (sk_hasB (sk_there f) x && (sk_hasB b.1 y && _)); rw [h, Bool.false_and, Bool.and_false]; rfl
theorem sk_hold_f3 {b : sk_Ob} {t : sk_Tr} {f : sk_Fi} {g : Nat} {y : Int32} (hg : g < 2 ^ 31) (h : f.2.2.2.2.2.2 g = false) : nI 0 = sk_bI (sk_holds (b, t, f) (nI g) y) := by
  show nI 0 = sk_bI (sk_hasB (sk_there f) (nI g) && (sk_hasB b.1 y && (f.2.2.2.2.2.2 (nI g).toNatClampNeg && _))); rw [nI_clamp hg, h, Bool.false_and, Bool.and_false, Bool.and_false]; rfl
theorem sk_hold_f4 {b : sk_Ob} {t : sk_Tr} {f : sk_Fi} {g o : Nat} (hg : g < 2 ^ 31) (ho : o < 2 ^ 31) (h : ¬ f.2.1 g = b.2.2.1 o) : nI 0 = sk_bI (sk_holds (b, t, f) (nI g) (nI o)) := by
  show nI 0 = sk_bI (sk_hasB (sk_there f) (nI g) && (sk_hasB b.1 (nI o) && (f.2.2.2.2.2.2 (nI g).toNatClampNeg && decide (f.2.1 (nI g).toNatClampNeg = b.2.2.1 (nI o).toNatClampNeg)))); rw [nI_clamp hg, nI_clamp ho, decide_eq_false h, Bool.and_false, Bool.and_false, Bool.and_false]; rfl
theorem sk_hold_t {b : sk_Ob} {t : sk_Tr} {f : sk_Fi} {g o : Nat} (hg : g < 2 ^ 31) (ho : o < 2 ^ 31) (h1 : sk_hasB (sk_there f) (nI g) = true) (h2 : sk_hasB b.1 (nI o) = true) (h3 : f.2.2.2.2.2.2 g = true) (h : f.2.1 g = b.2.2.1 o) : nI 1 = sk_bI (sk_holds (b, t, f) (nI g) (nI o)) := by
  show nI 1 = sk_bI (sk_hasB (sk_there f) (nI g) && (sk_hasB b.1 (nI o) && (f.2.2.2.2.2.2 (nI g).toNatClampNeg && decide (f.2.1 (nI g).toNatClampNeg = b.2.2.1 (nI o).toNatClampNeg)))); rw [nI_clamp hg, nI_clamp ho, decide_eq_true h, h1, h2, h3]; rfl
end
section
abbrev wzK_ownPlace : List Cond := .code yK_ownPlace cK_ownPlace 3 (some .int) :: sk_W
abbrev rzK_ownPlace : Room := { frames := 1, cells := 0, slots := 0, locals := 24 }
set_option maxHeartbeats 4000000 in
set_option maxRecDepth 100000 in
theorem kK_ownPlace (l : Launch) (dC : Nat → ClassId) (dI : Nat → Nat → Nat) (a : Nat → Nat) (k : Nat → ClassId) (b : sk_Ob) (t : sk_Tr) (f : sk_Fi) (wt : sk_F) (x y : Int32) (hT : sk_TO b.1 t) (hO : sk_OO b t) (hx9 : sk_v b.1 x) : Met l yK_ownPlace wzK_ownPlace rzK_ownPlace (va_Pc [.ref (a 0), .int x, .int y] (sk_PX dC dI a k (b, t, f) wt)) (va_Qi (fun r (_ : Unit) => r = sk_opl b t y x) (fun _ _ => True) (fun _ => False)) 0 0 (fun _ => False) := by
  refine Met.ofW (cc := cK_ownPlace) (maxL := 3) (ret := (some .int)) (by decide) rfl ?_
  intro p e s m args below meth c s₁ B hml hv
  obtain ⟨rfl, hP, hK, hN⟩ := hv
  have hx := B.exec
  have hb := B.bytes
  have hr := B.returns
  have hts : ∀ w ∈ sk_W, w.before ([.ref (a 0), .int x, .int y] : List Value).toArray s = true := fun w h => atoms_spec (ws := wzK_ownPlace) B.pre w (List.mem_cons_of_mem _ h)
  have hown : s.vm.findClass RK = some m.cls := findClass_of_methodNamed B.named
  have hlocks := B.notSynchronized
  have hS : va_S (fun _ => False) s.heap s.heap [] := va_S.rf
  have hP : va_P (dC, dI) vwCl (sk_wR a k (nI b.1) b.2.1 b.2.2.1 b.2.2.2.1 b.2.2.2.2 (nI t.1) t.2.1 t.2.2.1 t.2.2.2.1 t.2.2.2.2 (nI f.1) (nI (sk_there f)) (nI (f.1 % 100)) f.2.1 f.2.2.1 f.2.2.2.1 f.2.2.2.2.1 (fun i => lN (sk_nb (f.2.2.2.2.2.1 i))) (fun i => sk_bI (f.2.2.2.2.2.2 i)) wt) s.heap := hP
  have hl := lv_entry ([.ref (a 0), .int x, .int y]) (n := 3) (Nat.le_of_ble_eq_true rfl)
  rw [lg_entry_eq]
  generalize (lg_sl ([.ref (a 0), .int x, .int y]) ++ List.replicate (3 - (lg_sl ([.ref (a 0), .int x, .int y])).length) Slot.unset).toArray = ls at hl ⊢
  have hl : lv_has ls 3 [(0, .ref (a 0)), (1, .int x), (2, .int y)] := hl
  have h200 : t.1 ≤ 200 := hT.2.1
  have h60 : b.1 ≤ 60 := hT.2.2.1
  refine lv_iload_n hx hb dK_ownPlace_0 rfl (lv_at hl 1 rfl) ?_
  refine lv_iconst (v := (-1)) hx hb dK_ownPlace_1 (by decide) ?_
  refine lv_icmp_ne (tgt := 9) hx hb dK_ownPlace_2 (by decide) (fun c2 => ?_) (fun c2 => ?_)
  · skip
    obtain ⟨q, hq, eq9⟩ := hx9.resolve_left c2
    subst eq9
    obtain ⟨hs1, hs2, hs3⟩ := sk_shOk h200 hO hq
    refine lv_aload_n hx hb dK_ownPlace_9 rfl (lv_at hl 0 rfl) ?_
    refine va_get (D := (dC, dI)) (ci := 3) (v := .ref (a 2)) (C := RK) (T := TK) (N := 4) hx hb hts inK hown hK hP 0 rfl rfl 1 (by decide) (hts _ wfK_19) (fun _ h9 => h9) rfl dK_ownPlace_10 ?_
    refine lv_aload_n hx hb dK_ownPlace_13 rfl (lv_at hl 0 rfl) ?_
    refine va_get (D := (dC, dI)) (ci := 3) (v := .ref (a 1)) (C := RK) (T := TK) (N := 4) hx hb hts inK hown hK hP 0 rfl rfl 0 (by decide) (hts _ wfK_10) (fun _ h9 => h9) rfl dK_ownPlace_14 ?_
    refine va_getN (D := (dC, dI)) (ci := 1) (v := .ref (a 6)) (C := RO) (T := TO) (N := 5) hx hb hts inO hown hK hP 1 rfl rfl 1 (by decide) (va_Nw.use rfl (nlfK_70 hN)) (fun _ h9 => h9) rfl dK_ownPlace_17 ?_
    refine lv_iload_n hx hb dK_ownPlace_20 rfl (lv_at hl 1 rfl) ?_
    refine va_iald hx hb hK hP 6 0 rfl rfl (vp_in_nI (show q < 60 by omega) (by decide)) dK_ownPlace_21 ?_
    refine lv_topi (fun x21 e21 => ?_)
    rw [nI_clamp (show q < 2 ^ 31 by omega)] at e21
    obtain rfl : x21 = nI (sk_sh b q) := e21.trans (hs2)
    refine lv_iload_n hx hb dK_ownPlace_22 rfl (lv_at hl 2 rfl) ?_
    refine va_calli (va_runVN (As := [.int (nI (sk_sh b q)), .int y]) (rest := []) ⟨hx, hb, hml, hown, hts⟩ (kT_placeOf l dC dI a k b t f wt (sk_sh b q) y hT hs1) ⟨va_cnB 2 hts (sk_gC wcT_placeOf) rfl rfl rfl (nlmK_72 hN) (hts _ wnT) (by decide +kernel) ⟨Nat.le_of_ble_eq_true rfl, Nat.le_of_ble_eq_true rfl⟩, hts _ wiT_placeOf, hts _ wsT_placeOf⟩ ⟨sk_blind _, va_recv hK hP (ci := 2) (q0 := 2) rfl rfl, fun U hU hW => ⟨rfl, sk_at (S := (b, t, f)) (wt := wt) hP hK hN hU hW⟩⟩ rfl rfl hl.1 rfl (lv_room (Nat.le_of_ble_eq_true rfl)) dK_ownPlace_23 ⟨Nat.le_of_ble_eq_true rfl, Nat.le_of_ble_eq_true rfl⟩) hS (fun _ _ h => h.elim) (fun _ h => h.elim) (fun r23 u23 U9 H locs ht hvm w23 hB hz hk hS => ?_)
    have hP : va_P (dC, dI) vwCl (sk_wR a k (nI b.1) b.2.1 b.2.2.1 b.2.2.2.1 b.2.2.2.2 (nI t.1) t.2.1 t.2.2.1 t.2.2.2.1 t.2.2.2.2 (nI f.1) (nI (sk_there f)) (nI (f.1 % 100)) f.2.1 f.2.2.1 f.2.2.2.1 f.2.2.2.2.1 (fun i => lN (sk_nb (f.2.2.2.2.2.1 i))) (fun i => sk_bI (f.2.2.2.2.2.2 i)) wt) H := hP.kept (fun j q hq => hk q.1 ((hP j q hq).lt) (fun h => h))
    clear hk hB ht
    exact W.iret (v := r23) hx hb hr (fun U9 ht hW => ⟨⟨r23, (), rfl, w23.trans (sk_opl_n (by omega)).symm, trivial⟩, hS.F ht⟩) hS.2.2 dK_ownPlace_26
  · skip
    refine lv_iconst (v := (-1)) hx hb dK_ownPlace_5 (by decide) ?_
    refine lv_goto (tgt := 26) hx hb dK_ownPlace_6 (by decide) ?_
    exact W.iret (v := (-1)) hx hb hr (fun U9 ht hW => ⟨⟨(-1), (), rfl, (if_pos c2).symm, trivial⟩, hS.F ht⟩) hS.2.2 dK_ownPlace_26
abbrev wzK_nearestWith : List Cond := .code yK_nearestWith cK_nearestWith 5 (some .int) :: sk_W
abbrev rzK_nearestWith : Room := { frames := 2, cells := 0, slots := 0, locals := 46 }
set_option maxHeartbeats 4000000 in
set_option maxRecDepth 100000 in
theorem kK_nearestWith (l : Launch) (dC : Nat → ClassId) (dI : Nat → Nat → Nat) (a : Nat → Nat) (k : Nat → ClassId) (b : sk_Ob) (t : sk_Tr) (f : sk_Fi) (wt : sk_F) (x y : Int32) (hT : sk_TO b.1 t) (hO : sk_OO b t) (hA : sk_AC b.1 b.2.1) (hx9 : sk_v b.1 x) : Met l yK_nearestWith wzK_nearestWith rzK_nearestWith (va_Pc [.ref (a 0), .int x, .int y] (sk_PX dC dI a k (b, t, f) wt)) (va_Qi (fun r (_ : Unit) => r = sk_nw (sk_own b t y) (sk_abv b.2.1 x)) (fun _ _ => True) (fun _ => False)) 0 0 (fun _ => False) := by
  refine Met.ofW (cc := cK_nearestWith) (maxL := 5) (ret := (some .int)) (by decide) rfl ?_
  intro p e s m args below meth c s₁ B hml hv
  obtain ⟨rfl, hP, hK, hN⟩ := hv
  have hx := B.exec
  have hb := B.bytes
  have hr := B.returns
  have hts : ∀ w ∈ sk_W, w.before ([.ref (a 0), .int x, .int y] : List Value).toArray s = true := fun w h => atoms_spec (ws := wzK_nearestWith) B.pre w (List.mem_cons_of_mem _ h)
  have hown : s.vm.findClass RK = some m.cls := findClass_of_methodNamed B.named
  have hlocks := B.notSynchronized
  have hS : va_S (fun _ => False) s.heap s.heap [] := va_S.rf
  have hP : va_P (dC, dI) vwCl (sk_wR a k (nI b.1) b.2.1 b.2.2.1 b.2.2.2.1 b.2.2.2.2 (nI t.1) t.2.1 t.2.2.1 t.2.2.2.1 t.2.2.2.2 (nI f.1) (nI (sk_there f)) (nI (f.1 % 100)) f.2.1 f.2.2.1 f.2.2.2.1 f.2.2.2.2.1 (fun i => lN (sk_nb (f.2.2.2.2.2.1 i))) (fun i => sk_bI (f.2.2.2.2.2.2 i)) wt) s.heap := hP
  have hl := lv_entry ([.ref (a 0), .int x, .int y]) (n := 5) (Nat.le_of_ble_eq_true rfl)
  rw [lg_entry_eq]
  generalize (lg_sl ([.ref (a 0), .int x, .int y]) ++ List.replicate (5 - (lg_sl ([.ref (a 0), .int x, .int y])).length) Slot.unset).toArray = ls at hl ⊢
  have hl : lv_has ls 5 [(0, .ref (a 0)), (1, .int x), (2, .int y)] := hl
  have h200 : t.1 ≤ 200 := hT.2.1
  have h60 : b.1 ≤ 60 := hT.2.2.1
  refine lv_iload_n hx hb dK_nearestWith_0 rfl (lv_at hl 1 rfl) ?_
  refine lv_istore_n (lv' := [(3, .int x), (0, .ref (a 0)), (1, .int x), (2, .int y)]) hx hb dK_nearestWith_1 rfl hl (by decide) rfl (fun ls hl => ?_)
  refine lv_iconst (v := nI 0) hx hb dK_nearestWith_2 (by decide) ?_
  refine lv_istore (lv' := [(4, .int (nI 0)), (3, .int x), (0, .ref (a 0)), (1, .int x), (2, .int y)]) hx hb dK_nearestWith_3 hl (by decide) rfl (fun ls hl => ?_)
  have loop1 : ∀ (nn : Nat) (z : Int32) (st : Nat), sk_v b.1 z → st + (sk_abv b.2.1 z).length ≤ 60 → sk_nw (sk_own b t y) (sk_abv b.2.1 z) = sk_nw (sk_own b t y) (sk_abv b.2.1 x) → (sk_abv b.2.1 z).length < nn → ∀ (H : Heap) (locs : List Loc), va_P (dC, dI) vwCl (sk_wR a k (nI b.1) b.2.1 b.2.2.1 b.2.2.2.1 b.2.2.2.2 (nI t.1) t.2.1 t.2.2.1 t.2.2.2.1 t.2.2.2.2 (nI f.1) (nI (sk_there f)) (nI (f.1 % 100)) f.2.1 f.2.2.1 f.2.2.2.1 f.2.2.2.2.1 (fun i => lN (sk_nb (f.2.2.2.2.2.1 i))) (fun i => sk_bI (f.2.2.2.2.2.2 i)) wt) H → va_S (fun _ => False) s.heap H locs → ∀ ls : Array Slot, lv_has ls 5 [(4, .int (nI st)), (3, .int z), (0, .ref (a 0)), (1, .int x), (2, .int y)] → W p l e (headSpec wzK_nearestWith rzK_nearestWith).room s m ([.ref (a 0), .int x, .int y] : List Value).toArray below meth c H locs 0 0 (MQ below (va_Qi (fun r (_ : Unit) => r = sk_nw (sk_own b t y) (sk_abv b.2.1 x)) (fun _ _ => True) (fun _ => False)) ([.ref (a 0), .int x, .int y] : List Value).toArray s 0 0 (fun _ => False)) (F0 m 5 ls []) := by
    intro nn
    induction nn with
    | zero => intro z st hz hst he hmu; exact absurd hmu (Nat.not_lt_zero _)
    | succ nn ih1 =>
      intro z st hz hst he hmu H locs hP hS ls hl
      rcases hz with rfl | ⟨q, hq, rfl⟩
      · skip
        refine lv_iload_n hx hb dK_nearestWith_5 rfl (lv_at hl 1 rfl) ?_
        refine lv_iconst (v := (-1)) hx hb dK_nearestWith_6 (by decide) ?_
        refine lv_icmp_eq (tgt := 45) hx hb dK_nearestWith_7 (by decide) (fun _ => ?_) (fun q => absurd (by decide) q)
        refine lv_iconst (v := (-1)) hx hb dK_nearestWith_45 (by decide) ?_
        exact W.iret (v := (-1)) hx hb hr (fun U9 ht hW => ⟨⟨(-1), (), rfl, by rw [← he, sk_abv_m1]; rfl, trivial⟩, hS.F ht⟩) hS.2.2 dK_nearestWith_46
      · skip
        have hs9 := sk_abv_s hA hq
        have hl9 : (sk_abv b.2.1 (nI q)).length = (sk_abv b.2.1 (b.2.1 q)).length + 1 := by rw [hs9]; rfl
        refine lv_iload_n hx hb dK_nearestWith_5 rfl (lv_at hl 1 rfl) ?_
        refine lv_iconst (v := (-1)) hx hb dK_nearestWith_6 (by decide) ?_
        refine lv_icmp_eq (tgt := 45) hx hb dK_nearestWith_7 (by decide) (fun c7 => ?_) (fun c7 => ?_)
        · skip
          exact absurd c7 (sk_nm1 (by omega))
        · skip
          refine lv_iload hx hb dK_nearestWith_10 (lv_at hl 0 rfl) ?_
          refine lv_bipush (v := nI 60) hx hb dK_nearestWith_12 (by decide) ?_
          refine lv_icmp_ge (tgt := 45) hx hb dK_nearestWith_14 (by decide) (fun c14 => ?_) (fun c14 => ?_)
          · skip
            have n14 : 60 ≤ st := (nI_leI (by omega) (by omega)).mp c14
            omega
          · skip
            have n14 : ¬ 60 ≤ st := fun q => c14 ((nI_leI (by omega) (by omega)).mpr q)
            refine lv_aload_n hx hb dK_nearestWith_17 rfl (lv_at hl 2 rfl) ?_
            refine lv_iload_n hx hb dK_nearestWith_18 rfl (lv_at hl 1 rfl) ?_
            refine lv_iload_n hx hb dK_nearestWith_19 rfl (lv_at hl 4 rfl) ?_
            refine va_calli (va_runV (As := [.int (nI q), .int y]) (rest := []) ⟨hx, hb, hml, hown, hts⟩ (kK_ownPlace l dC dI a k b t f wt (nI q) y hT hO (Or.inr ⟨q, hq, rfl⟩)) (cwV 2 hts (sk_gV wmK_108 wiK_ownPlace wsK_ownPlace wnK wcK_ownPlace) rfl rfl rfl (by decide +kernel) ⟨Nat.le_of_ble_eq_true rfl, Nat.le_of_ble_eq_true rfl⟩) ⟨sk_blind _, va_recv hK hP (ci := 3) (q0 := 0) rfl rfl, fun U hU hW => ⟨rfl, sk_at (S := (b, t, f)) (wt := wt) hP hK hN hU hW⟩⟩ rfl rfl hl.1 rfl (lv_room (Nat.le_of_ble_eq_true rfl)) dK_nearestWith_20 ⟨Nat.le_of_ble_eq_true rfl, Nat.le_of_ble_eq_true rfl⟩) hS (fun _ _ h => h.elim) (fun _ h => h.elim) (fun r20 u20 U9 H locs ht hvm w20 hB hz hk hS => ?_)
            have hP : va_P (dC, dI) vwCl (sk_wR a k (nI b.1) b.2.1 b.2.2.1 b.2.2.2.1 b.2.2.2.2 (nI t.1) t.2.1 t.2.2.1 t.2.2.2.1 t.2.2.2.2 (nI f.1) (nI (sk_there f)) (nI (f.1 % 100)) f.2.1 f.2.2.1 f.2.2.2.1 f.2.2.2.2.1 (fun i => lN (sk_nb (f.2.2.2.2.2.1 i))) (fun i => sk_bI (f.2.2.2.2.2.2 i)) wt) H := hP.kept (fun j q hq => hk q.1 ((hP j q hq).lt) (fun h => h))
            clear hk hB ht
            have hr9 : r20 = sk_place t y (sk_sh b q) := w20.trans (sk_opl_n (by omega))
            refine lv_iconst (v := (-1)) hx hb dK_nearestWith_23 (by decide) ?_
            refine lv_icmp_eq (tgt := 29) hx hb dK_nearestWith_24 (by decide) (fun c24 => ?_) (fun c24 => ?_)
            · skip
              refine lv_aload_n hx hb dK_nearestWith_29 rfl (lv_at hl 2 rfl) ?_
              refine va_get (D := (dC, dI)) (ci := 3) (v := .ref (a 1)) (C := RK) (T := TK) (N := 4) hx hb hts inK hown hK hP 0 rfl rfl 0 (by decide) (hts _ wfK_10) (fun _ h9 => h9) rfl dK_nearestWith_30 ?_
              refine va_getN (D := (dC, dI)) (ci := 1) (v := .ref (a 5)) (C := RO) (T := TO) (N := 5) hx hb hts inO hown hK hP 1 rfl rfl 0 (by decide) (va_Nw.use rfl (nlfK_93 hN)) (fun _ h9 => h9) rfl dK_nearestWith_33 ?_
              refine lv_iload_n hx hb dK_nearestWith_36 rfl (lv_at hl 1 rfl) ?_
              refine va_iald hx hb hK hP 5 0 rfl rfl (vp_in_nI (show q < 60 by omega) (by decide)) dK_nearestWith_37 ?_
              refine lv_topi (fun x37 e37 => ?_)
              rw [nI_clamp (show q < 2 ^ 31 by omega)] at e37
              refine lv_istore_n (lv' := [(3, .int x37), (4, .int (nI st)), (0, .ref (a 0)), (1, .int x), (2, .int y)]) hx hb dK_nearestWith_38 rfl hl (by decide) rfl (fun ls hl => ?_)
              refine lv_iinc (v := nI (st + 1)) (lv' := [(4, .int (nI (st + 1))), (3, .int x37), (0, .ref (a 0)), (1, .int x), (2, .int y)]) hx hb dK_nearestWith_39 hl (k := 1) rfl (sk_inc _) (by decide) rfl (fun ls hl => ?_)
              refine lv_goto (tgt := 5) hx hb dK_nearestWith_42 (by decide) ?_
              have hmx : (sk_abv b.2.1 x37).length < nn := by rw [e37]; omega
              exact ih1 x37 (st + 1) (by rw [e37]; exact hA.2.1 q hq) (by rw [e37]; omega) (by rw [e37, ← he, hs9]; exact (if_neg (by rw [sk_own_f (hr9.symm.trans c24)]; decide)).symm) (by omega) _ _ hP hS ls (lv_sub hl [0, 1, 2, 3, 4] rfl)
            · skip
              refine lv_iload_n hx hb dK_nearestWith_27 rfl (lv_at hl 1 rfl) ?_
              exact W.iret (v := nI q) hx hb hr (fun U9 ht hW => ⟨⟨nI q, (), rfl, by rw [← he, hs9]; exact (if_pos (sk_own_t (fun z9 => c24 (hr9.trans z9)))).symm, trivial⟩, hS.F ht⟩) hS.2.2 dK_nearestWith_28
  exact loop1 ((sk_abv b.2.1 x).length + 1) x 0 (hx9) (by have := sk_abv_len b.2.1 x; omega) (rfl) (Nat.lt_succ_self _) _ _ hP hS ls (lv_sub hl [0, 1, 2, 3, 4] rfl)
abbrev wzK_set : List Cond := .code yK_set cK_set 7 (some .boolean) :: sk_W
abbrev rzK_set : Room := { frames := 3, cells := 0, slots := 0, locals := 70 }
set_option maxHeartbeats 4000000 in
set_option maxRecDepth 100000 in
theorem kK_set (l : Launch) (dC : Nat → ClassId) (dI : Nat → Nat → Nat) (a : Nat → Nat) (k : Nat → ClassId) (b : sk_Ob) (t : sk_Tr) (f : sk_Fi) (wt : sk_F) (A : Nat → Prop) (x y v : Int32) (K : Nat) (hOK : sk_OK K (b, t, f)) : Met l yK_set wzK_set rzK_set (va_Pc [.ref (a 0), .int x, .int y, .int v] (fun U => sk_PX dC dI a k (b, t, f) wt U ∧ va_D A (sk_wX a k (b, t, f) wt))) (va_Qi (fun r (u : sk_S × sk_F) => r = sk_bI (sk_set (b, t, f) x y v).1 ∧ ∃ wt2, u = ((sk_set (b, t, f) x y v).2, wt2)) (fun u U => va_P (dC, dI) vwCl (sk_wX a k u.1 u.2) U.heap ∧ va_D A (sk_wX a k u.1 u.2)) A) 0 0 A := by
  refine Met.ofW (cc := cK_set) (maxL := 7) (ret := (some .boolean)) (by decide) rfl ?_
  intro p e s m args below meth c s₁ B hml hv
  obtain ⟨rfl, ⟨hP, hK, hN⟩, hD⟩ := hv
  have hx := B.exec
  have hb := B.bytes
  have hr := B.returns
  have hts : ∀ w ∈ sk_W, w.before ([.ref (a 0), .int x, .int y, .int v] : List Value).toArray s = true := fun w h => atoms_spec (ws := wzK_set) B.pre w (List.mem_cons_of_mem _ h)
  have hown : s.vm.findClass RK = some m.cls := findClass_of_methodNamed B.named
  have hlocks := B.notSynchronized
  have hS : va_S A s.heap s.heap [] := va_S.rf
  have hP : va_P (dC, dI) vwCl (sk_wR a k (nI b.1) b.2.1 b.2.2.1 b.2.2.2.1 b.2.2.2.2 (nI t.1) t.2.1 t.2.2.1 t.2.2.2.1 t.2.2.2.2 (nI f.1) (nI (sk_there f)) (nI (f.1 % 100)) f.2.1 f.2.2.1 f.2.2.2.1 f.2.2.2.2.1 (fun i => lN (sk_nb (f.2.2.2.2.2.1 i))) (fun i => sk_bI (f.2.2.2.2.2.2 i)) wt) s.heap := hP
  have hD : va_D A (sk_wR a k (nI b.1) b.2.1 b.2.2.1 b.2.2.2.1 b.2.2.2.2 (nI t.1) t.2.1 t.2.2.1 t.2.2.2.1 t.2.2.2.2 (nI f.1) (nI (sk_there f)) (nI (f.1 % 100)) f.2.1 f.2.2.1 f.2.2.2.1 f.2.2.2.2.1 (fun i => lN (sk_nb (f.2.2.2.2.2.1 i))) (fun i => sk_bI (f.2.2.2.2.2.2 i)) wt) := hD
  have hl := lv_entry ([.ref (a 0), .int x, .int y, .int v]) (n := 7) (Nat.le_of_ble_eq_true rfl)
  rw [lg_entry_eq]
  generalize (lg_sl ([.ref (a 0), .int x, .int y, .int v]) ++ List.replicate (7 - (lg_sl ([.ref (a 0), .int x, .int y, .int v])).length) Slot.unset).toArray = ls at hl ⊢
  have hl : lv_has ls 7 [(0, .ref (a 0)), (1, .int x), (2, .int y), (3, .int v)] := hl
  have hT : sk_TO b.1 t := hOK.1
  have hA : sk_AC b.1 b.2.1 := hOK.2.1
  have hO : sk_OO b t := hOK.2.2.1
  have hmk : f.1 ≤ K := hOK.2.2.2.2.2.2.1
  have hK5 : K ≤ 512 := hOK.2.2.2.2.2.1
  have h200 : t.1 ≤ 200 := hT.2.1
  have h60 : b.1 ≤ 60 := hT.2.2.1
  have hfl : ∀ i, i < sk_there f → ∀ x ∈ f.2.2.2.2.2.1 i, x < 60 := fun i hi x hx => Nat.lt_of_lt_of_le ((hOK.2.2.2.2.2.2.2 i hi).2.2.2 x hx) h60
  refine lv_aload_n hx hb dK_set_0 rfl (lv_at hl 0 rfl) ?_
  refine va_get (D := (dC, dI)) (ci := 3) (v := .ref (a 1)) (C := RK) (T := TK) (N := 4) hx hb hts inK hown hK hP 0 rfl rfl 0 (by decide) (hts _ wfK_10) (fun _ h9 => h9) rfl dK_set_1 ?_
  refine lv_iload_n hx hb dK_set_4 rfl (lv_at hl 1 rfl) ?_
  refine va_calli (va_runVN (As := [.int x]) (rest := []) ⟨hx, hb, hml, hown, hts⟩ (kO_has l dC dI a k b t f wt x) ⟨va_cnB 1 hts (sk_gC wcO_has) rfl rfl rfl (nlmK_64 hN) (hts _ wnO) (by decide +kernel) ⟨Nat.le_of_ble_eq_true rfl, Nat.le_of_ble_eq_true rfl⟩, hts _ wiO_has, hts _ wsO_has⟩ ⟨sk_blind _, va_recv hK hP (ci := 1) (q0 := 1) rfl rfl, fun U hU hW => ⟨rfl, sk_at (S := (b, t, f)) (wt := wt) hP hK hN hU hW⟩⟩ rfl rfl hl.1 rfl (lv_room (Nat.le_of_ble_eq_true rfl)) dK_set_5 ⟨Nat.le_of_ble_eq_true rfl, Nat.le_of_ble_eq_true rfl⟩) hS (fun _ _ h => h.elim) (fun _ h => h.elim) (fun r5 u5 U9 H locs ht hvm w5 hB hz hk hS => ?_)
  have hP : va_P (dC, dI) vwCl (sk_wR a k (nI b.1) b.2.1 b.2.2.1 b.2.2.2.1 b.2.2.2.2 (nI t.1) t.2.1 t.2.2.1 t.2.2.2.1 t.2.2.2.2 (nI f.1) (nI (sk_there f)) (nI (f.1 % 100)) f.2.1 f.2.2.1 f.2.2.2.1 f.2.2.2.2.1 (fun i => lN (sk_nb (f.2.2.2.2.2.1 i))) (fun i => sk_bI (f.2.2.2.2.2.2 i)) wt) H := hP.kept (fun j q hq => hk q.1 ((hP j q hq).lt) (fun h => h))
  clear hk hB ht
  rcases sk_bI_or (sk_hasB b.1 x) with ⟨h5, hv⟩ | ⟨h5, hv⟩
  · skip
    obtain rfl : r5 = nI 1 := w5.trans hv
    obtain ⟨o, ho, eo9⟩ := (sk_hasB_iff (by omega)).mp h5
    subst eo9
    obtain ⟨hs1, hs2, hs3⟩ := sk_shOk h200 hO ho
    refine lv_if_eq (tgt := 18) hx hb dK_set_8 (by decide) (fun q => absurd q (by decide)) (fun _ => ?_)
    refine lv_iload_n hx hb dK_set_11 rfl (lv_at hl 2 rfl) ?_
    refine va_calli (va_runS (As := [.int y]) (rest := []) ⟨hx, hb, hml, hown, hts⟩ (kK_isName l dC dI a k b t f wt y) (cwS 1 hts (sk_gS wmK_67 wiK_isName wnK wcK_isName) rfl rfl rfl (by decide +kernel) ⟨Nat.le_of_ble_eq_true rfl, Nat.le_of_ble_eq_true rfl⟩) ⟨sk_blind _, fun U hU hW => ⟨rfl, sk_at (S := (b, t, f)) (wt := wt) hP hK hN hU hW⟩⟩ rfl rfl hl.1 rfl (lv_room (Nat.le_of_ble_eq_true rfl)) dK_set_12 ⟨Nat.le_of_ble_eq_true rfl, Nat.le_of_ble_eq_true rfl⟩) hS (fun _ _ h => h.elim) (fun _ h => h.elim) (fun r12 u12 U9 H locs ht hvm w12 hB hz hk hS => ?_)
    have hP : va_P (dC, dI) vwCl (sk_wR a k (nI b.1) b.2.1 b.2.2.1 b.2.2.2.1 b.2.2.2.2 (nI t.1) t.2.1 t.2.2.1 t.2.2.2.1 t.2.2.2.2 (nI f.1) (nI (sk_there f)) (nI (f.1 % 100)) f.2.1 f.2.2.1 f.2.2.2.1 f.2.2.2.2.1 (fun i => lN (sk_nb (f.2.2.2.2.2.1 i))) (fun i => sk_bI (f.2.2.2.2.2.2 i)) wt) H := hP.kept (fun j q hq => hk q.1 ((hP j q hq).lt) (fun h => h))
    clear hk hB ht
    rcases sk_bI_or (sk_isN y) with ⟨h12, hv⟩ | ⟨h12, hv⟩
    · skip
      obtain rfl : r12 = nI 1 := w12.trans hv
      refine lv_if_ne (tgt := 20) hx hb dK_set_15 (by decide) (fun _ => ?_) (fun q => absurd q (by decide))
      refine lv_aload_n hx hb dK_set_20 rfl (lv_at hl 0 rfl) ?_
      refine va_get (D := (dC, dI)) (ci := 3) (v := .ref (a 1)) (C := RK) (T := TK) (N := 4) hx hb hts inK hown hK hP 0 rfl rfl 0 (by decide) (hts _ wfK_10) (fun _ h9 => h9) rfl dK_set_21 ?_
      refine va_getN (D := (dC, dI)) (ci := 1) (v := .ref (a 6)) (C := RO) (T := TO) (N := 5) hx hb hts inO hown hK hP 1 rfl rfl 1 (by decide) (va_Nw.use rfl (nlfK_70 hN)) (fun _ h9 => h9) rfl dK_set_24 ?_
      refine lv_iload_n hx hb dK_set_27 rfl (lv_at hl 1 rfl) ?_
      refine va_iald hx hb hK hP 6 0 rfl rfl (vp_in_nI (show o < 60 by omega) (by decide)) dK_set_28 ?_
      refine lv_topi (fun x28 e28 => ?_)
      rw [nI_clamp (show o < 2 ^ 31 by omega)] at e28
      obtain rfl : x28 = nI (sk_sh b o) := e28.trans (hs2)
      refine lv_istore (lv' := [(4, .int (nI (sk_sh b o))), (0, .ref (a 0)), (1, .int (nI o)), (2, .int y), (3, .int v)]) hx hb dK_set_29 hl (by decide) rfl (fun ls hl => ?_)
      refine lv_aload_n hx hb dK_set_31 rfl (lv_at hl 1 rfl) ?_
      refine va_get (D := (dC, dI)) (ci := 3) (v := .ref (a 2)) (C := RK) (T := TK) (N := 4) hx hb hts inK hown hK hP 0 rfl rfl 1 (by decide) (hts _ wfK_19) (fun _ h9 => h9) rfl dK_set_32 ?_
      refine lv_iload hx hb dK_set_35 (lv_at hl 0 rfl) ?_
      refine lv_iload_n hx hb dK_set_37 rfl (lv_at hl 3 rfl) ?_
      refine va_calli (va_runVN (As := [.int (nI (sk_sh b o)), .int y]) (rest := []) ⟨hx, hb, hml, hown, hts⟩ (kT_placeOf l dC dI a k b t f wt (sk_sh b o) y hT hs1) ⟨va_cnB 2 hts (sk_gC wcT_placeOf) rfl rfl rfl (nlmK_72 hN) (hts _ wnT) (by decide +kernel) ⟨Nat.le_of_ble_eq_true rfl, Nat.le_of_ble_eq_true rfl⟩, hts _ wiT_placeOf, hts _ wsT_placeOf⟩ ⟨sk_blind _, va_recv hK hP (ci := 2) (q0 := 2) rfl rfl, fun U hU hW => ⟨rfl, sk_at (S := (b, t, f)) (wt := wt) hP hK hN hU hW⟩⟩ rfl rfl hl.1 rfl (lv_room (Nat.le_of_ble_eq_true rfl)) dK_set_38 ⟨Nat.le_of_ble_eq_true rfl, Nat.le_of_ble_eq_true rfl⟩) hS (fun _ _ h => h.elim) (fun _ h => h.elim) (fun r38 u38 U9 H locs ht hvm w38 hB hz hk hS => ?_)
      have hP : va_P (dC, dI) vwCl (sk_wR a k (nI b.1) b.2.1 b.2.2.1 b.2.2.2.1 b.2.2.2.2 (nI t.1) t.2.1 t.2.2.1 t.2.2.2.1 t.2.2.2.2 (nI f.1) (nI (sk_there f)) (nI (f.1 % 100)) f.2.1 f.2.2.1 f.2.2.2.1 f.2.2.2.2.1 (fun i => lN (sk_nb (f.2.2.2.2.2.1 i))) (fun i => sk_bI (f.2.2.2.2.2.2 i)) wt) H := hP.kept (fun j q hq => hk q.1 ((hP j q hq).lt) (fun h => h))
      clear hk hB ht
      rcases sk_placeOk hT y hs1 with hp | ⟨kk, hk1, hk2, hp⟩
      · skip
        obtain rfl : r38 = -1 := w38.trans hp
        refine lv_istore (lv' := [(5, .int (-1)), (4, .int (nI (sk_sh b o))), (0, .ref (a 0)), (1, .int (nI o)), (2, .int y), (3, .int v)]) hx hb dK_set_41 hl (by decide) rfl (fun ls hl => ?_)
        refine lv_iload hx hb dK_set_43 (lv_at hl 0 rfl) ?_
        refine lv_iconst (v := (-1)) hx hb dK_set_45 (by decide) ?_
        refine lv_icmp_ne (tgt := 88) hx hb dK_set_46 (by decide) (fun q => absurd q (by decide)) (fun _ => ?_)
        refine lv_aload_n hx hb dK_set_49 rfl (lv_at hl 2 rfl) ?_
        refine va_get (D := (dC, dI)) (ci := 3) (v := .ref (a 2)) (C := RK) (T := TK) (N := 4) hx hb hts inK hown hK hP 0 rfl rfl 1 (by decide) (hts _ wfK_19) (fun _ h9 => h9) rfl dK_set_50 ?_
        refine lv_iload hx hb dK_set_53 (lv_at hl 1 rfl) ?_
        refine lv_iload_n hx hb dK_set_55 rfl (lv_at hl 4 rfl) ?_
        refine va_calli (va_runVN (As := [.int (nI (sk_sh b o)), .int y]) (rest := []) ⟨hx, hb, hml, hown, hts⟩ (kT_grow l dC dI a k b t f wt A (sk_sh b o) y hT hs1) ⟨va_cnB 2 hts (sk_gC wcT_grow) rfl rfl rfl (nlmK_75 hN) (hts _ wnT) (by decide +kernel) ⟨Nat.le_of_ble_eq_true rfl, Nat.le_of_ble_eq_true rfl⟩, hts _ wiT_grow, hts _ wsT_grow⟩ ⟨sk_blindD _, va_recv hK hP (ci := 2) (q0 := 2) rfl rfl, fun U hU hW => ⟨rfl, sk_at (S := (b, t, f)) (wt := wt) hP hK hN hU hW, hD⟩⟩ rfl rfl hl.1 rfl (lv_room (Nat.le_of_ble_eq_true rfl)) dK_set_56 ⟨Nat.le_of_ble_eq_true rfl, Nat.le_of_ble_eq_true rfl⟩) hS (fun _ _ h => h) (fun _ h => h) (fun r56 u56 U9 H locs ht hvm w56 hB hz hk hS => ?_)
        obtain ⟨hP, hD⟩ := hB
        rw [ht] at hP
        rcases w56 with ⟨hg, rfl, rfl⟩ | ⟨t2, g2, hg, rfl, rfl⟩
        · skip
          have hP : va_P (dC, dI) vwCl (sk_wR a k (nI b.1) b.2.1 b.2.2.1 b.2.2.2.1 b.2.2.2.2 (nI t.1) t.2.1 t.2.2.1 t.2.2.2.1 t.2.2.2.2 (nI f.1) (nI (sk_there f)) (nI (f.1 % 100)) f.2.1 f.2.2.1 f.2.2.2.1 f.2.2.2.2.1 (fun i => lN (sk_nb (f.2.2.2.2.2.1 i))) (fun i => sk_bI (f.2.2.2.2.2.2 i)) wt) H := hP
          have hD : va_D A (sk_wR a k (nI b.1) b.2.1 b.2.2.1 b.2.2.2.1 b.2.2.2.2 (nI t.1) t.2.1 t.2.2.1 t.2.2.2.1 t.2.2.2.2 (nI f.1) (nI (sk_there f)) (nI (f.1 % 100)) f.2.1 f.2.2.1 f.2.2.2.1 f.2.2.2.2.1 (fun i => lN (sk_nb (f.2.2.2.2.2.1 i))) (fun i => sk_bI (f.2.2.2.2.2.2 i)) wt) := hD
          refine lv_istore (lv' := [(6, .int (-1)), (5, .int (-1)), (4, .int (nI (sk_sh b o))), (0, .ref (a 0)), (1, .int (nI o)), (2, .int y), (3, .int v)]) hx hb dK_set_59 hl (by decide) rfl (fun ls hl => ?_)
          refine lv_iload hx hb dK_set_61 (lv_at hl 0 rfl) ?_
          refine lv_iconst (v := (-1)) hx hb dK_set_63 (by decide) ?_
          refine lv_icmp_ne (tgt := 69) hx hb dK_set_64 (by decide) (fun q => absurd q (by decide)) (fun _ => ?_)
          refine lv_iconst (v := nI 0) hx hb dK_set_67 (by decide) ?_
          have hset : sk_set (b, t, f) (nI o) y v = _ := (sk_set_y (S := (b, t, f)) h60 ho h12).trans (sk_set_2 hp hg)
          exact W.zret (v := nI 0) hx hb hr (by decide) (fun U9 ht hW => ⟨⟨nI 0, ((b, t, f), wt), rfl, ⟨by rw [hset]; rfl, wt, by rw [hset]⟩, sk_endw ht hP hD⟩, hS.F ht⟩) hS.2.2 dK_set_68
        · skip
          have hP : va_P (dC, dI) vwCl (sk_wR a k (nI b.1) b.2.1 b.2.2.1 b.2.2.2.1 b.2.2.2.2 (nI t2.1) t2.2.1 t2.2.2.1 t2.2.2.2.1 t2.2.2.2.2 (nI f.1) (nI (sk_there f)) (nI (f.1 % 100)) f.2.1 f.2.2.1 f.2.2.2.1 f.2.2.2.2.1 (fun i => lN (sk_nb (f.2.2.2.2.2.1 i))) (fun i => sk_bI (f.2.2.2.2.2.2 i)) wt) H := hP
          have hD : va_D A (sk_wR a k (nI b.1) b.2.1 b.2.2.1 b.2.2.2.1 b.2.2.2.2 (nI t2.1) t2.2.1 t2.2.2.1 t2.2.2.2.1 t2.2.2.2.2 (nI f.1) (nI (sk_there f)) (nI (f.1 % 100)) f.2.1 f.2.2.1 f.2.2.2.1 f.2.2.2.2.1 (fun i => lN (sk_nb (f.2.2.2.2.2.1 i))) (fun i => sk_bI (f.2.2.2.2.2.2 i)) wt) := hD
          obtain ⟨a9, ha9, ea9⟩ := sk_isN_iff.mp h12
          obtain ⟨q1, q2, q3, q4, q5⟩ := sk_grow_spec hT hs1 ha9 (by rw [← ea9]; exact hp) (by rw [← ea9]; exact hg)
          obtain ⟨m9, hm9, hle9, hlen9⟩ := sk_lenOk hT hs1
          have hle2 : t2.2.2.2.2 (sk_sh b o) = nI (sk_len t (sk_sh b o)) := by rw [(q2.2 _ hs1).2.2.2, hle9, hlen9]
          have hl12 : sk_len t (sk_sh b o) < 12 := by have z1 := sk_len12 (sk_names_nodup q1 q3) (sk_names_in q1 q3); rw [q5, List.length_append, sk_names_len] at z1; exact z1
          have h200b : t2.1 ≤ 200 := q1.2.1
          refine lv_istore (lv' := [(6, .int (nI g2)), (5, .int (-1)), (4, .int (nI (sk_sh b o))), (0, .ref (a 0)), (1, .int (nI o)), (2, .int y), (3, .int v)]) hx hb dK_set_59 hl (by decide) rfl (fun ls hl => ?_)
          refine lv_iload hx hb dK_set_61 (lv_at hl 0 rfl) ?_
          refine lv_iconst (v := (-1)) hx hb dK_set_63 (by decide) ?_
          refine lv_icmp_ne (tgt := 69) hx hb dK_set_64 (by decide) (fun c64 => ?_) (fun c64 => ?_)
          · skip
            refine lv_aload_n hx hb dK_set_69 rfl (lv_at hl 3 rfl) ?_
            refine va_get (D := (dC, dI)) (ci := 3) (v := .ref (a 2)) (C := RK) (T := TK) (N := 4) hx hb hts inK hown hK hP 0 rfl rfl 1 (by decide) (hts _ wfK_19) (fun _ h9 => h9) rfl dK_set_70 ?_
            refine va_getN (D := (dC, dI)) (ci := 2) (v := .ref (a 12)) (C := RT) (T := TT) (N := 5) hx hb hts inT hown hK hP 2 rfl rfl 3 (by decide) (va_Nw.use rfl (nlfK_78 hN)) (fun _ h9 => h9) rfl dK_set_73 ?_
            refine lv_iload hx hb dK_set_76 (lv_at hl 2 rfl) ?_
            refine va_iald hx hb hK hP 12 0 rfl rfl (vp_in_nI (show (sk_sh b o) < 200 by omega) (by decide)) dK_set_78 ?_
            refine lv_topi (fun x78 e78 => ?_)
            rw [nI_clamp (show (sk_sh b o) < 2 ^ 31 by omega)] at e78
            obtain rfl : x78 = nI (sk_len t (sk_sh b o)) := e78.trans (hle2)
            refine lv_istore (lv' := [(5, .int (nI (sk_len t (sk_sh b o)))), (6, .int (nI g2)), (4, .int (nI (sk_sh b o))), (0, .ref (a 0)), (1, .int (nI o)), (2, .int y), (3, .int v)]) hx hb dK_set_79 hl (by decide) rfl (fun ls hl => ?_)
            refine lv_aload_n hx hb dK_set_81 rfl (lv_at hl 3 rfl) ?_
            refine lv_iload_n hx hb dK_set_82 rfl (lv_at hl 4 rfl) ?_
            refine lv_iload hx hb dK_set_83 (lv_at hl 1 rfl) ?_
            refine va_callv (va_runV (As := [.int (nI o), .int (nI g2)]) (rest := []) ⟨hx, hb, hml, hown, hts⟩ (kK_change l dC dI a k b t2 f wt A o g2 (by omega) hfl) (cwV 2 hts (sk_gV wmK_81 wiK_change wsK_change wnK wcK_change) rfl rfl rfl (by decide +kernel) ⟨Nat.le_of_ble_eq_true rfl, Nat.le_of_ble_eq_true rfl⟩) ⟨sk_blindD _, va_recv hK hP (ci := 3) (q0 := 0) rfl rfl, fun U hU hW => ⟨rfl, sk_at (S := (b, t2, f)) (wt := wt) hP hK hN hU hW, hD⟩⟩ rfl rfl hl.1 rfl (lv_room (Nat.le_of_ble_eq_true rfl)) dK_set_85 ⟨Nat.le_of_ble_eq_true rfl, Nat.le_of_ble_eq_true rfl⟩) hS (fun _ _ h => h) (fun _ h => h) (fun u85 U9 H locs ht hvm w85 hB hz hk hS => ?_)
            obtain ⟨hP, hD⟩ := hB
            rw [ht] at hP
            obtain rfl := w85
            have hP : va_P (dC, dI) vwCl (sk_wR a k (nI (sk_chg b o g2).1) ((sk_chg b o g2).2.1) ((sk_chg b o g2).2.2.1) ((sk_chg b o g2).2.2.2.1) ((sk_chg b o g2).2.2.2.2) (nI t2.1) t2.2.1 t2.2.2.1 t2.2.2.2.1 t2.2.2.2.2 (nI (sk_brk f o).1) (nI (sk_there (sk_brk f o))) (nI ((sk_brk f o).1 % 100)) ((sk_brk f o).2.1) ((sk_brk f o).2.2.1) ((sk_brk f o).2.2.2.1) ((sk_brk f o).2.2.2.2.1) (fun i => lN (sk_nb ((sk_brk f o).2.2.2.2.2.1 i))) (fun i => sk_bI ((sk_brk f o).2.2.2.2.2.2 i)) wt) H := hP
            have hD : va_D A (sk_wR a k (nI (sk_chg b o g2).1) ((sk_chg b o g2).2.1) ((sk_chg b o g2).2.2.1) ((sk_chg b o g2).2.2.2.1) ((sk_chg b o g2).2.2.2.2) (nI t2.1) t2.2.1 t2.2.2.1 t2.2.2.2.1 t2.2.2.2.2 (nI (sk_brk f o).1) (nI (sk_there (sk_brk f o))) (nI ((sk_brk f o).1 % 100)) ((sk_brk f o).2.1) ((sk_brk f o).2.2.1) ((sk_brk f o).2.2.2.1) ((sk_brk f o).2.2.2.2.1) (fun i => lN (sk_nb ((sk_brk f o).2.2.2.2.2.1 i))) (fun i => sk_bI ((sk_brk f o).2.2.2.2.2.2 i)) wt) := hD
            refine lv_aload_n hx hb dK_set_88 rfl (lv_at hl 3 rfl) ?_
            refine va_get (D := (dC, dI)) (ci := 3) (v := .ref (a 1)) (C := RK) (T := TK) (N := 4) hx hb hts inK hown hK hP 0 rfl rfl 0 (by decide) (hts _ wfK_10) (fun _ h9 => h9) rfl dK_set_89 ?_
            refine va_getN (D := (dC, dI)) (ci := 1) (v := .ref (a 8)) (C := RO) (T := TO) (N := 5) hx hb hts inO hown hK hP 1 rfl rfl 3 (by decide) (va_Nw.use rfl (nlfK_85 hN)) (fun _ h9 => h9) rfl dK_set_92 ?_
            refine lv_iload_n hx hb dK_set_95 rfl (lv_at hl 4 rfl) ?_
            refine sk_aald hx hb hK hP (show o < 60 by omega) dK_set_96 ?_
            refine lv_iload hx hb dK_set_97 (lv_at hl 0 rfl) ?_
            refine lv_iload_n hx hb dK_set_99 rfl (lv_at hl 6 rfl) ?_
            refine va_iast hx hb hK hP hD hS (19 + o) 0 (sk_row_get (show o < 60 by omega)) rfl (vp_in_nI (show (sk_len t (sk_sh b o)) < 12 by omega) (by decide)) dK_set_100 (fun H locs hP hD hS => ?_)
            rw [nI_clamp (show (sk_len t (sk_sh b o)) < 2 ^ 31 by omega), sk_row_set (show o < 60 by omega)] at hP hD
            have hP : va_P (dC, dI) vwCl (sk_wR a k (nI (sk_chg b o g2).1) ((sk_chg b o g2).2.1) ((sk_chg b o g2).2.2.1) ((sk_chg b o g2).2.2.2.1) (va_up ((sk_chg b o g2).2.2.2.2) o (upd (((sk_chg b o g2).2.2.2.2) o) (sk_len t (sk_sh b o)) v)) (nI t2.1) t2.2.1 t2.2.2.1 t2.2.2.2.1 t2.2.2.2.2 (nI (sk_brk f o).1) (nI (sk_there (sk_brk f o))) (nI ((sk_brk f o).1 % 100)) ((sk_brk f o).2.1) ((sk_brk f o).2.2.1) ((sk_brk f o).2.2.2.1) ((sk_brk f o).2.2.2.2.1) (fun i => lN (sk_nb ((sk_brk f o).2.2.2.2.2.1 i))) (fun i => sk_bI ((sk_brk f o).2.2.2.2.2.2 i)) wt) H := hP
            have hD : va_D A (sk_wR a k (nI (sk_chg b o g2).1) ((sk_chg b o g2).2.1) ((sk_chg b o g2).2.2.1) ((sk_chg b o g2).2.2.2.1) (va_up ((sk_chg b o g2).2.2.2.2) o (upd (((sk_chg b o g2).2.2.2.2) o) (sk_len t (sk_sh b o)) v)) (nI t2.1) t2.2.1 t2.2.2.1 t2.2.2.2.1 t2.2.2.2.2 (nI (sk_brk f o).1) (nI (sk_there (sk_brk f o))) (nI ((sk_brk f o).1 % 100)) ((sk_brk f o).2.1) ((sk_brk f o).2.2.1) ((sk_brk f o).2.2.2.1) ((sk_brk f o).2.2.2.2.1) (fun i => lN (sk_nb ((sk_brk f o).2.2.2.2.2.1 i))) (fun i => sk_bI ((sk_brk f o).2.2.2.2.2.2 i)) wt) := hD
            refine lv_iconst (v := nI 1) hx hb dK_set_101 (by decide) ?_
            have hset : sk_set (b, t, f) (nI o) y v = _ := (sk_set_y (S := (b, t, f)) h60 ho h12).trans (sk_set_3 hp hg)
            exact W.zret (v := nI 1) hx hb hr (by decide) (fun U9 ht hW => ⟨⟨nI 1, ((sk_setv (sk_chg b o g2) o (sk_len t (sk_sh b o)) v, t2, sk_brk f o), wt), rfl, ⟨by rw [hset]; rfl, wt, by rw [hset]⟩, sk_endw ht hP hD⟩, hS.F ht⟩) hS.2.2 dK_set_102
          · skip
            exact absurd c64 (sk_nm1 (by omega))
      · skip
        obtain rfl : r38 = nI kk := w38.trans hp
        refine lv_istore (lv' := [(5, .int (nI kk)), (4, .int (nI (sk_sh b o))), (0, .ref (a 0)), (1, .int (nI o)), (2, .int y), (3, .int v)]) hx hb dK_set_41 hl (by decide) rfl (fun ls hl => ?_)
        refine lv_iload hx hb dK_set_43 (lv_at hl 0 rfl) ?_
        refine lv_iconst (v := (-1)) hx hb dK_set_45 (by decide) ?_
        refine lv_icmp_ne (tgt := 88) hx hb dK_set_46 (by decide) (fun c46 => ?_) (fun c46 => ?_)
        · skip
          refine lv_aload_n hx hb dK_set_88 rfl (lv_at hl 2 rfl) ?_
          refine va_get (D := (dC, dI)) (ci := 3) (v := .ref (a 1)) (C := RK) (T := TK) (N := 4) hx hb hts inK hown hK hP 0 rfl rfl 0 (by decide) (hts _ wfK_10) (fun _ h9 => h9) rfl dK_set_89 ?_
          refine va_getN (D := (dC, dI)) (ci := 1) (v := .ref (a 8)) (C := RO) (T := TO) (N := 5) hx hb hts inO hown hK hP 1 rfl rfl 3 (by decide) (va_Nw.use rfl (nlfK_85 hN)) (fun _ h9 => h9) rfl dK_set_92 ?_
          refine lv_iload_n hx hb dK_set_95 rfl (lv_at hl 3 rfl) ?_
          refine sk_aald hx hb hK hP (show o < 60 by omega) dK_set_96 ?_
          refine lv_iload hx hb dK_set_97 (lv_at hl 0 rfl) ?_
          refine lv_iload_n hx hb dK_set_99 rfl (lv_at hl 5 rfl) ?_
          refine va_iast hx hb hK hP hD hS (19 + o) 0 (sk_row_get (show o < 60 by omega)) rfl (vp_in_nI (show kk < 12 by omega) (by decide)) dK_set_100 (fun H locs hP hD hS => ?_)
          rw [nI_clamp (show kk < 2 ^ 31 by omega), sk_row_set (show o < 60 by omega)] at hP hD
          have hP : va_P (dC, dI) vwCl (sk_wR a k (nI b.1) b.2.1 b.2.2.1 b.2.2.2.1 (va_up b.2.2.2.2 o (upd (b.2.2.2.2 o) kk v)) (nI t.1) t.2.1 t.2.2.1 t.2.2.2.1 t.2.2.2.2 (nI f.1) (nI (sk_there f)) (nI (f.1 % 100)) f.2.1 f.2.2.1 f.2.2.2.1 f.2.2.2.2.1 (fun i => lN (sk_nb (f.2.2.2.2.2.1 i))) (fun i => sk_bI (f.2.2.2.2.2.2 i)) wt) H := hP
          have hD : va_D A (sk_wR a k (nI b.1) b.2.1 b.2.2.1 b.2.2.2.1 (va_up b.2.2.2.2 o (upd (b.2.2.2.2 o) kk v)) (nI t.1) t.2.1 t.2.2.1 t.2.2.2.1 t.2.2.2.2 (nI f.1) (nI (sk_there f)) (nI (f.1 % 100)) f.2.1 f.2.2.1 f.2.2.2.1 f.2.2.2.2.1 (fun i => lN (sk_nb (f.2.2.2.2.2.1 i))) (fun i => sk_bI (f.2.2.2.2.2.2 i)) wt) := hD
          refine lv_iconst (v := nI 1) hx hb dK_set_101 (by decide) ?_
          have hset : sk_set (b, t, f) (nI o) y v = _ := (sk_set_y (S := (b, t, f)) h60 ho h12).trans (sk_set_1 hk2 hp)
          exact W.zret (v := nI 1) hx hb hr (by decide) (fun U9 ht hW => ⟨⟨nI 1, ((sk_setv b o kk v, t, f), wt), rfl, ⟨by rw [hset]; rfl, wt, by rw [hset]⟩, sk_endw ht hP hD⟩, hS.F ht⟩) hS.2.2 dK_set_102
        · skip
          exact absurd c46 (sk_nm1 (by omega))
    · skip
      obtain rfl : r12 = nI 0 := w12.trans hv
      refine lv_if_ne (tgt := 20) hx hb dK_set_15 (by decide) (fun q => absurd q (by decide)) (fun _ => ?_)
      refine lv_iconst (v := nI 0) hx hb dK_set_18 (by decide) ?_
      exact W.zret (v := nI 0) hx hb hr (by decide) (fun U9 ht hW => ⟨⟨nI 0, ((b, t, f), wt), rfl, ⟨by rw [sk_set_n (by show (sk_hasB b.1 _ && sk_isN y) = false; rw [h12, Bool.and_false])]; rfl, wt, by rw [sk_set_n (by show (sk_hasB b.1 _ && sk_isN y) = false; rw [h12, Bool.and_false])]⟩, sk_endw ht hP hD⟩, hS.F ht⟩) hS.2.2 dK_set_19
  · skip
    obtain rfl : r5 = nI 0 := w5.trans hv
    refine lv_if_eq (tgt := 18) hx hb dK_set_8 (by decide) (fun _ => ?_) (fun q => absurd (by decide) q)
    refine lv_iconst (v := nI 0) hx hb dK_set_18 (by decide) ?_
    exact W.zret (v := nI 0) hx hb hr (by decide) (fun U9 ht hW => ⟨⟨nI 0, ((b, t, f), wt), rfl, ⟨by rw [sk_set_n (by show (sk_hasB b.1 _ && sk_isN y) = false; rw [h5, Bool.false_and])]; rfl, wt, by rw [sk_set_n (by show (sk_hasB b.1 _ && sk_isN y) = false; rw [h5, Bool.false_and])]⟩, sk_endw ht hP hD⟩, hS.F ht⟩) hS.2.2 dK_set_19
abbrev wzK_drop : List Cond := .code yK_drop cK_drop 7 (some .boolean) :: sk_W
abbrev rzK_drop : Room := { frames := 3, cells := 0, slots := 0, locals := 74 }
set_option maxHeartbeats 4000000 in
set_option maxRecDepth 100000 in
theorem kK_drop (l : Launch) (dC : Nat → ClassId) (dI : Nat → Nat → Nat) (a : Nat → Nat) (k : Nat → ClassId) (b : sk_Ob) (t : sk_Tr) (f : sk_Fi) (wt : sk_F) (A : Nat → Prop) (x y : Int32) (K : Nat) (hOK : sk_OK K (b, t, f)) : Met l yK_drop wzK_drop rzK_drop (va_Pc [.ref (a 0), .int x, .int y] (fun U => sk_PX dC dI a k (b, t, f) wt U ∧ va_D A (sk_wX a k (b, t, f) wt))) (va_Qi (fun r (u : sk_S × sk_F) => r = sk_bI (sk_drop (b, t, f) x y).1 ∧ ∃ wt2, u = ((sk_drop (b, t, f) x y).2, wt2)) (fun u U => va_P (dC, dI) vwCl (sk_wX a k u.1 u.2) U.heap ∧ va_D A (sk_wX a k u.1 u.2)) A) 0 0 A := by
  refine Met.ofW (cc := cK_drop) (maxL := 7) (ret := (some .boolean)) (by decide) rfl ?_
  intro p e s m args below meth c s₁ B hml hv
  obtain ⟨rfl, ⟨hP, hK, hN⟩, hD⟩ := hv
  have hx := B.exec
  have hb := B.bytes
  have hr := B.returns
  have hts : ∀ w ∈ sk_W, w.before ([.ref (a 0), .int x, .int y] : List Value).toArray s = true := fun w h => atoms_spec (ws := wzK_drop) B.pre w (List.mem_cons_of_mem _ h)
  have hown : s.vm.findClass RK = some m.cls := findClass_of_methodNamed B.named
  have hlocks := B.notSynchronized
  have hS : va_S A s.heap s.heap [] := va_S.rf
  have hP : va_P (dC, dI) vwCl (sk_wR a k (nI b.1) b.2.1 b.2.2.1 b.2.2.2.1 b.2.2.2.2 (nI t.1) t.2.1 t.2.2.1 t.2.2.2.1 t.2.2.2.2 (nI f.1) (nI (sk_there f)) (nI (f.1 % 100)) f.2.1 f.2.2.1 f.2.2.2.1 f.2.2.2.2.1 (fun i => lN (sk_nb (f.2.2.2.2.2.1 i))) (fun i => sk_bI (f.2.2.2.2.2.2 i)) wt) s.heap := hP
  have hD : va_D A (sk_wR a k (nI b.1) b.2.1 b.2.2.1 b.2.2.2.1 b.2.2.2.2 (nI t.1) t.2.1 t.2.2.1 t.2.2.2.1 t.2.2.2.2 (nI f.1) (nI (sk_there f)) (nI (f.1 % 100)) f.2.1 f.2.2.1 f.2.2.2.1 f.2.2.2.2.1 (fun i => lN (sk_nb (f.2.2.2.2.2.1 i))) (fun i => sk_bI (f.2.2.2.2.2.2 i)) wt) := hD
  have hl := lv_entry ([.ref (a 0), .int x, .int y]) (n := 7) (Nat.le_of_ble_eq_true rfl)
  rw [lg_entry_eq]
  generalize (lg_sl ([.ref (a 0), .int x, .int y]) ++ List.replicate (7 - (lg_sl ([.ref (a 0), .int x, .int y])).length) Slot.unset).toArray = ls at hl ⊢
  have hl : lv_has ls 7 [(0, .ref (a 0)), (1, .int x), (2, .int y)] := hl
  have hT : sk_TO b.1 t := hOK.1
  have hA : sk_AC b.1 b.2.1 := hOK.2.1
  have hO : sk_OO b t := hOK.2.2.1
  have hmk : f.1 ≤ K := hOK.2.2.2.2.2.2.1
  have hK5 : K ≤ 512 := hOK.2.2.2.2.2.1
  have h200 : t.1 ≤ 200 := hT.2.1
  have h60 : b.1 ≤ 60 := hT.2.2.1
  have hfl : ∀ i, i < sk_there f → ∀ x ∈ f.2.2.2.2.2.1 i, x < 60 := fun i hi x hx => Nat.lt_of_lt_of_le ((hOK.2.2.2.2.2.2.2 i hi).2.2.2 x hx) h60
  refine lv_aload_n hx hb dK_drop_0 rfl (lv_at hl 0 rfl) ?_
  refine va_get (D := (dC, dI)) (ci := 3) (v := .ref (a 1)) (C := RK) (T := TK) (N := 4) hx hb hts inK hown hK hP 0 rfl rfl 0 (by decide) (hts _ wfK_10) (fun _ h9 => h9) rfl dK_drop_1 ?_
  refine lv_iload_n hx hb dK_drop_4 rfl (lv_at hl 1 rfl) ?_
  refine va_calli (va_runVN (As := [.int x]) (rest := []) ⟨hx, hb, hml, hown, hts⟩ (kO_has l dC dI a k b t f wt x) ⟨va_cnB 1 hts (sk_gC wcO_has) rfl rfl rfl (nlmK_64 hN) (hts _ wnO) (by decide +kernel) ⟨Nat.le_of_ble_eq_true rfl, Nat.le_of_ble_eq_true rfl⟩, hts _ wiO_has, hts _ wsO_has⟩ ⟨sk_blind _, va_recv hK hP (ci := 1) (q0 := 1) rfl rfl, fun U hU hW => ⟨rfl, sk_at (S := (b, t, f)) (wt := wt) hP hK hN hU hW⟩⟩ rfl rfl hl.1 rfl (lv_room (Nat.le_of_ble_eq_true rfl)) dK_drop_5 ⟨Nat.le_of_ble_eq_true rfl, Nat.le_of_ble_eq_true rfl⟩) hS (fun _ _ h => h.elim) (fun _ h => h.elim) (fun r5 u5 U9 H locs ht hvm w5 hB hz hk hS => ?_)
  have hP : va_P (dC, dI) vwCl (sk_wR a k (nI b.1) b.2.1 b.2.2.1 b.2.2.2.1 b.2.2.2.2 (nI t.1) t.2.1 t.2.2.1 t.2.2.2.1 t.2.2.2.2 (nI f.1) (nI (sk_there f)) (nI (f.1 % 100)) f.2.1 f.2.2.1 f.2.2.2.1 f.2.2.2.2.1 (fun i => lN (sk_nb (f.2.2.2.2.2.1 i))) (fun i => sk_bI (f.2.2.2.2.2.2 i)) wt) H := hP.kept (fun j q hq => hk q.1 ((hP j q hq).lt) (fun h => h))
  clear hk hB ht
  rcases sk_bI_or (sk_hasB b.1 x) with ⟨h5, hv⟩ | ⟨h5, hv⟩
  · skip
    obtain rfl : r5 = nI 1 := w5.trans hv
    obtain ⟨o, ho, eo9⟩ := (sk_hasB_iff (by omega)).mp h5
    subst eo9
    obtain ⟨hs1, hs2, hs3⟩ := sk_shOk h200 hO ho
    refine lv_if_ne (tgt := 13) hx hb dK_drop_8 (by decide) (fun _ => ?_) (fun q => absurd q (by decide))
    refine lv_aload_n hx hb dK_drop_13 rfl (lv_at hl 0 rfl) ?_
    refine va_get (D := (dC, dI)) (ci := 3) (v := .ref (a 1)) (C := RK) (T := TK) (N := 4) hx hb hts inK hown hK hP 0 rfl rfl 0 (by decide) (hts _ wfK_10) (fun _ h9 => h9) rfl dK_drop_14 ?_
    refine va_getN (D := (dC, dI)) (ci := 1) (v := .ref (a 6)) (C := RO) (T := TO) (N := 5) hx hb hts inO hown hK hP 1 rfl rfl 1 (by decide) (va_Nw.use rfl (nlfK_70 hN)) (fun _ h9 => h9) rfl dK_drop_17 ?_
    refine lv_iload_n hx hb dK_drop_20 rfl (lv_at hl 1 rfl) ?_
    refine va_iald hx hb hK hP 6 0 rfl rfl (vp_in_nI (show o < 60 by omega) (by decide)) dK_drop_21 ?_
    refine lv_topi (fun x21 e21 => ?_)
    rw [nI_clamp (show o < 2 ^ 31 by omega)] at e21
    obtain rfl : x21 = nI (sk_sh b o) := e21.trans (hs2)
    refine lv_istore_n (lv' := [(3, .int (nI (sk_sh b o))), (0, .ref (a 0)), (1, .int (nI o)), (2, .int y)]) hx hb dK_drop_22 rfl hl (by decide) rfl (fun ls hl => ?_)
    refine lv_aload_n hx hb dK_drop_23 rfl (lv_at hl 1 rfl) ?_
    refine va_get (D := (dC, dI)) (ci := 3) (v := .ref (a 2)) (C := RK) (T := TK) (N := 4) hx hb hts inK hown hK hP 0 rfl rfl 1 (by decide) (hts _ wfK_19) (fun _ h9 => h9) rfl dK_drop_24 ?_
    refine lv_iload_n hx hb dK_drop_27 rfl (lv_at hl 0 rfl) ?_
    refine lv_iload_n hx hb dK_drop_28 rfl (lv_at hl 3 rfl) ?_
    refine va_calli (va_runVN (As := [.int (nI (sk_sh b o)), .int y]) (rest := []) ⟨hx, hb, hml, hown, hts⟩ (kT_placeOf l dC dI a k b t f wt (sk_sh b o) y hT hs1) ⟨va_cnB 2 hts (sk_gC wcT_placeOf) rfl rfl rfl (nlmK_72 hN) (hts _ wnT) (by decide +kernel) ⟨Nat.le_of_ble_eq_true rfl, Nat.le_of_ble_eq_true rfl⟩, hts _ wiT_placeOf, hts _ wsT_placeOf⟩ ⟨sk_blind _, va_recv hK hP (ci := 2) (q0 := 2) rfl rfl, fun U hU hW => ⟨rfl, sk_at (S := (b, t, f)) (wt := wt) hP hK hN hU hW⟩⟩ rfl rfl hl.1 rfl (lv_room (Nat.le_of_ble_eq_true rfl)) dK_drop_29 ⟨Nat.le_of_ble_eq_true rfl, Nat.le_of_ble_eq_true rfl⟩) hS (fun _ _ h => h.elim) (fun _ h => h.elim) (fun r29 u29 U9 H locs ht hvm w29 hB hz hk hS => ?_)
    have hP : va_P (dC, dI) vwCl (sk_wR a k (nI b.1) b.2.1 b.2.2.1 b.2.2.2.1 b.2.2.2.2 (nI t.1) t.2.1 t.2.2.1 t.2.2.2.1 t.2.2.2.2 (nI f.1) (nI (sk_there f)) (nI (f.1 % 100)) f.2.1 f.2.2.1 f.2.2.2.1 f.2.2.2.2.1 (fun i => lN (sk_nb (f.2.2.2.2.2.1 i))) (fun i => sk_bI (f.2.2.2.2.2.2 i)) wt) H := hP.kept (fun j q hq => hk q.1 ((hP j q hq).lt) (fun h => h))
    clear hk hB ht
    rcases sk_placeOk hT y hs1 with hp | ⟨kk, hk1, hk2, hp⟩
    · skip
      obtain rfl : r29 = -1 := w29.trans hp
      refine lv_istore (lv' := [(4, .int (-1)), (3, .int (nI (sk_sh b o))), (0, .ref (a 0)), (1, .int (nI o)), (2, .int y)]) hx hb dK_drop_32 hl (by decide) rfl (fun ls hl => ?_)
      refine lv_iload hx hb dK_drop_34 (lv_at hl 0 rfl) ?_
      refine lv_iconst (v := (-1)) hx hb dK_drop_36 (by decide) ?_
      refine lv_icmp_ne (tgt := 42) hx hb dK_drop_37 (by decide) (fun q => absurd q (by decide)) (fun _ => ?_)
      refine lv_iconst (v := nI 0) hx hb dK_drop_40 (by decide) ?_
      have hset : sk_drop (b, t, f) (nI o) y = _ := (sk_drop_y (S := (b, t, f)) h60 ho).trans (sk_drop_1 hp)
      exact W.zret (v := nI 0) hx hb hr (by decide) (fun U9 ht hW => ⟨⟨nI 0, ((b, t, f), wt), rfl, ⟨by rw [hset]; rfl, wt, by rw [hset]⟩, sk_endw ht hP hD⟩, hS.F ht⟩) hS.2.2 dK_drop_41
    · skip
      obtain rfl : r29 = nI kk := w29.trans hp
      refine lv_istore (lv' := [(4, .int (nI kk)), (3, .int (nI (sk_sh b o))), (0, .ref (a 0)), (1, .int (nI o)), (2, .int y)]) hx hb dK_drop_32 hl (by decide) rfl (fun ls hl => ?_)
      refine lv_iload hx hb dK_drop_34 (lv_at hl 0 rfl) ?_
      refine lv_iconst (v := (-1)) hx hb dK_drop_36 (by decide) ?_
      refine lv_icmp_ne (tgt := 42) hx hb dK_drop_37 (by decide) (fun c37 => ?_) (fun c37 => ?_)
      · skip
        refine lv_aload_n hx hb dK_drop_42 rfl (lv_at hl 2 rfl) ?_
        refine va_get (D := (dC, dI)) (ci := 3) (v := .ref (a 2)) (C := RK) (T := TK) (N := 4) hx hb hts inK hown hK hP 0 rfl rfl 1 (by decide) (hts _ wfK_19) (fun _ h9 => h9) rfl dK_drop_43 ?_
        refine lv_iload_n hx hb dK_drop_46 rfl (lv_at hl 1 rfl) ?_
        refine lv_iload_n hx hb dK_drop_47 rfl (lv_at hl 4 rfl) ?_
        refine lv_aload_n hx hb dK_drop_48 rfl (lv_at hl 2 rfl) ?_
        refine va_get (D := (dC, dI)) (ci := 3) (v := .ref (a 4)) (C := RK) (T := TK) (N := 4) hx hb hts inK hown hK hP 0 rfl rfl 3 (by decide) (hts _ wfK_30) (fun _ h9 => h9) rfl dK_drop_49 ?_
        refine va_calli (va_runVN (As := [.int (nI (sk_sh b o)), .int y, .ref (a 4)]) (rest := []) ⟨hx, hb, hml, hown, hts⟩ (kT_listNames l dC dI a k b t f wt A (sk_sh b o) y hT hs1) ⟨va_cnB 3 hts (sk_gC wcT_listNames) rfl rfl rfl (nlmK_89 hN) (hts _ wnT) (by decide +kernel) ⟨Nat.le_of_ble_eq_true rfl, Nat.le_of_ble_eq_true rfl⟩, hts _ wiT_listNames, hts _ wsT_listNames⟩ ⟨sk_blindD _, va_recv hK hP (ci := 2) (q0 := 2) rfl rfl, fun U hU hW => ⟨rfl, sk_at (S := (b, t, f)) (wt := wt) hP hK hN hU hW, hD⟩⟩ rfl rfl hl.1 rfl (lv_room (Nat.le_of_ble_eq_true rfl)) dK_drop_52 ⟨Nat.le_of_ble_eq_true rfl, Nat.le_of_ble_eq_true rfl⟩) hS (fun _ _ h => h) (fun _ h => h) (fun r52 u52 U9 H locs ht hvm w52 hB hz hk hS => ?_)
        obtain ⟨hP, hD⟩ := hB
        rw [ht] at hP
        obtain ⟨rfl, wt2, rfl, hrow⟩ := w52
        have hP : va_P (dC, dI) vwCl (sk_wR a k (nI b.1) b.2.1 b.2.2.1 b.2.2.2.1 b.2.2.2.2 (nI t.1) t.2.1 t.2.2.1 t.2.2.2.1 t.2.2.2.2 (nI f.1) (nI (sk_there f)) (nI (f.1 % 100)) f.2.1 f.2.2.1 f.2.2.2.1 f.2.2.2.2.1 (fun i => lN (sk_nb (f.2.2.2.2.2.1 i))) (fun i => sk_bI (f.2.2.2.2.2.2 i)) wt2) H := hP
        have hD : va_D A (sk_wR a k (nI b.1) b.2.1 b.2.2.1 b.2.2.2.1 b.2.2.2.2 (nI t.1) t.2.1 t.2.2.1 t.2.2.2.1 t.2.2.2.2 (nI f.1) (nI (sk_there f)) (nI (f.1 % 100)) f.2.1 f.2.2.1 f.2.2.2.1 f.2.2.2.2.1 (fun i => lN (sk_nb (f.2.2.2.2.2.1 i))) (fun i => sk_bI (f.2.2.2.2.2.2 i)) wt2) := hD
        refine lv_istore (lv' := [(5, .int (nI (sk_left t (sk_sh b o) y).length)), (4, .int (nI kk)), (3, .int (nI (sk_sh b o))), (0, .ref (a 0)), (1, .int (nI o)), (2, .int y)]) hx hb dK_drop_55 hl (by decide) rfl (fun ls hl => ?_)
        refine lv_aload_n hx hb dK_drop_57 rfl (lv_at hl 3 rfl) ?_
        refine va_get (D := (dC, dI)) (ci := 3) (v := .ref (a 2)) (C := RK) (T := TK) (N := 4) hx hb hts inK hown hK hP 0 rfl rfl 1 (by decide) (hts _ wfK_19) (fun _ h9 => h9) rfl dK_drop_58 ?_
        refine lv_aload_n hx hb dK_drop_61 rfl (lv_at hl 3 rfl) ?_
        refine va_get (D := (dC, dI)) (ci := 3) (v := .ref (a 1)) (C := RK) (T := TK) (N := 4) hx hb hts inK hown hK hP 0 rfl rfl 0 (by decide) (hts _ wfK_10) (fun _ h9 => h9) rfl dK_drop_62 ?_
        refine va_getN (D := (dC, dI)) (ci := 1) (v := .ref (a 5)) (C := RO) (T := TO) (N := 5) hx hb hts inO hown hK hP 1 rfl rfl 0 (by decide) (va_Nw.use rfl (nlfK_93 hN)) (fun _ h9 => h9) rfl dK_drop_65 ?_
        refine lv_iload_n hx hb dK_drop_68 rfl (lv_at hl 4 rfl) ?_
        refine va_iald hx hb hK hP 5 0 rfl rfl (vp_in_nI (show o < 60 by omega) (by decide)) dK_drop_69 ?_
        refine lv_topi (fun x69 e69 => ?_)
        rw [nI_clamp (show o < 2 ^ 31 by omega)] at e69
        refine lv_aload_n hx hb dK_drop_70 rfl (lv_at hl 3 rfl) ?_
        refine va_get (D := (dC, dI)) (ci := 3) (v := .ref (a 4)) (C := RK) (T := TK) (N := 4) hx hb hts inK hown hK hP 0 rfl rfl 3 (by decide) (hts _ wfK_30) (fun _ h9 => h9) rfl dK_drop_71 ?_
        refine lv_iload hx hb dK_drop_74 (lv_at hl 0 rfl) ?_
        refine va_calli (va_runVN (As := [.int x69, .ref (a 4), .int (nI (sk_left t (sk_sh b o) y).length)]) (rest := []) ⟨hx, hb, hml, hown, hts⟩ (kT_reach l dC dI a k b t f wt2 A x69 (sk_left t (sk_sh b o) y) hT (sk_left_len hT hs1 y) hrow) ⟨va_cnB 3 hts (sk_gC wcT_reach) rfl rfl rfl (nlmK_54 hN) (hts _ wnT) (by decide +kernel) ⟨Nat.le_of_ble_eq_true rfl, Nat.le_of_ble_eq_true rfl⟩, hts _ wiT_reach, hts _ wsT_reach⟩ ⟨sk_blindD _, va_recv hK hP (ci := 2) (q0 := 2) rfl rfl, fun U hU hW => ⟨rfl, sk_at (S := (b, t, f)) (wt := wt2) hP hK hN hU hW, hD⟩⟩ rfl rfl hl.1 rfl (lv_room (Nat.le_of_ble_eq_true rfl)) dK_drop_76 ⟨Nat.le_of_ble_eq_true rfl, Nat.le_of_ble_eq_true rfl⟩) hS (fun _ _ h => h) (fun _ h => h) (fun r76 u76 U9 H locs ht hvm w76 hB hz hk hS => ?_)
        obtain ⟨hP, hD⟩ := hB
        rw [ht] at hP
        rcases w76 with ⟨hg, rfl, rfl⟩ | ⟨t2, g2, hg, rfl, rfl⟩
        · skip
          have hP : va_P (dC, dI) vwCl (sk_wR a k (nI b.1) b.2.1 b.2.2.1 b.2.2.2.1 b.2.2.2.2 (nI t.1) t.2.1 t.2.2.1 t.2.2.2.1 t.2.2.2.2 (nI f.1) (nI (sk_there f)) (nI (f.1 % 100)) f.2.1 f.2.2.1 f.2.2.2.1 f.2.2.2.2.1 (fun i => lN (sk_nb (f.2.2.2.2.2.1 i))) (fun i => sk_bI (f.2.2.2.2.2.2 i)) wt2) H := hP
          have hD : va_D A (sk_wR a k (nI b.1) b.2.1 b.2.2.1 b.2.2.2.1 b.2.2.2.2 (nI t.1) t.2.1 t.2.2.1 t.2.2.2.1 t.2.2.2.2 (nI f.1) (nI (sk_there f)) (nI (f.1 % 100)) f.2.1 f.2.2.1 f.2.2.2.1 f.2.2.2.2.1 (fun i => lN (sk_nb (f.2.2.2.2.2.1 i))) (fun i => sk_bI (f.2.2.2.2.2.2 i)) wt2) := hD
          refine lv_istore (lv' := [(6, .int (-1)), (5, .int (nI (sk_left t (sk_sh b o) y).length)), (4, .int (nI kk)), (3, .int (nI (sk_sh b o))), (0, .ref (a 0)), (1, .int (nI o)), (2, .int y)]) hx hb dK_drop_79 hl (by decide) rfl (fun ls hl => ?_)
          refine lv_iload hx hb dK_drop_81 (lv_at hl 0 rfl) ?_
          refine lv_iconst (v := (-1)) hx hb dK_drop_83 (by decide) ?_
          refine lv_icmp_ne (tgt := 89) hx hb dK_drop_84 (by decide) (fun q => absurd q (by decide)) (fun _ => ?_)
          refine lv_iconst (v := nI 0) hx hb dK_drop_87 (by decide) ?_
          have hset : sk_drop (b, t, f) (nI o) y = _ := (sk_drop_y (S := (b, t, f)) h60 ho).trans (sk_drop_2 hk2 hp (by rw [← e69]; exact hg))
          exact W.zret (v := nI 0) hx hb hr (by decide) (fun U9 ht hW => ⟨⟨nI 0, ((b, t, f), wt2), rfl, ⟨by rw [hset]; rfl, wt2, by rw [hset]⟩, sk_endw ht hP hD⟩, hS.F ht⟩) hS.2.2 dK_drop_88
        · skip
          have hP : va_P (dC, dI) vwCl (sk_wR a k (nI b.1) b.2.1 b.2.2.1 b.2.2.2.1 b.2.2.2.2 (nI t2.1) t2.2.1 t2.2.2.1 t2.2.2.2.1 t2.2.2.2.2 (nI f.1) (nI (sk_there f)) (nI (f.1 % 100)) f.2.1 f.2.2.1 f.2.2.2.1 f.2.2.2.2.1 (fun i => lN (sk_nb (f.2.2.2.2.2.1 i))) (fun i => sk_bI (f.2.2.2.2.2.2 i)) wt2) H := hP
          have hD : va_D A (sk_wR a k (nI b.1) b.2.1 b.2.2.1 b.2.2.2.1 b.2.2.2.2 (nI t2.1) t2.2.1 t2.2.2.1 t2.2.2.2.1 t2.2.2.2.2 (nI f.1) (nI (sk_there f)) (nI (f.1 % 100)) f.2.1 f.2.2.1 f.2.2.2.1 f.2.2.2.2.1 (fun i => lN (sk_nb (f.2.2.2.2.2.1 i))) (fun i => sk_bI (f.2.2.2.2.2.2 i)) wt2) := hD
          refine lv_istore (lv' := [(6, .int (nI g2)), (5, .int (nI (sk_left t (sk_sh b o) y).length)), (4, .int (nI kk)), (3, .int (nI (sk_sh b o))), (0, .ref (a 0)), (1, .int (nI o)), (2, .int y)]) hx hb dK_drop_79 hl (by decide) rfl (fun ls hl => ?_)
          refine lv_iload hx hb dK_drop_81 (lv_at hl 0 rfl) ?_
          refine lv_iconst (v := (-1)) hx hb dK_drop_83 (by decide) ?_
          refine lv_icmp_ne (tgt := 89) hx hb dK_drop_84 (by decide) (fun c84 => ?_) (fun c84 => ?_)
          · skip
            refine lv_aload_n hx hb dK_drop_89 rfl (lv_at hl 4 rfl) ?_
            refine va_get (D := (dC, dI)) (ci := 3) (v := .ref (a 1)) (C := RK) (T := TK) (N := 4) hx hb hts inK hown hK hP 0 rfl rfl 0 (by decide) (hts _ wfK_10) (fun _ h9 => h9) rfl dK_drop_90 ?_
            refine lv_iload_n hx hb dK_drop_93 rfl (lv_at hl 5 rfl) ?_
            refine lv_iload hx hb dK_drop_94 (lv_at hl 2 rfl) ?_
            refine va_callv (va_runVN (As := [.int (nI o), .int (nI kk)]) (rest := []) ⟨hx, hb, hml, hown, hts⟩ (kO_closeGap l dC dI a k b t2 f wt2 A o kk (by omega) hk2) ⟨va_cnB 2 hts (sk_gC wcO_closeGap) rfl rfl rfl (nlmK_96 hN) (hts _ wnO) (by decide +kernel) ⟨Nat.le_of_ble_eq_true rfl, Nat.le_of_ble_eq_true rfl⟩, hts _ wiO_closeGap, hts _ wsO_closeGap⟩ ⟨sk_blindD _, va_recv hK hP (ci := 1) (q0 := 1) rfl rfl, fun U hU hW => ⟨rfl, sk_at (S := (b, t2, f)) (wt := wt2) hP hK hN hU hW, hD⟩⟩ rfl rfl hl.1 rfl (lv_room (Nat.le_of_ble_eq_true rfl)) dK_drop_96 ⟨Nat.le_of_ble_eq_true rfl, Nat.le_of_ble_eq_true rfl⟩) hS (fun _ _ h => h) (fun _ h => h) (fun u96 U9 H locs ht hvm w96 hB hz hk hS => ?_)
            obtain ⟨hP, hD⟩ := hB
            rw [ht] at hP
            obtain rfl := w96
            have hP : va_P (dC, dI) vwCl (sk_wR a k (nI (sk_gap b o kk).1) ((sk_gap b o kk).2.1) ((sk_gap b o kk).2.2.1) ((sk_gap b o kk).2.2.2.1) ((sk_gap b o kk).2.2.2.2) (nI t2.1) t2.2.1 t2.2.2.1 t2.2.2.2.1 t2.2.2.2.2 (nI f.1) (nI (sk_there f)) (nI (f.1 % 100)) f.2.1 f.2.2.1 f.2.2.2.1 f.2.2.2.2.1 (fun i => lN (sk_nb (f.2.2.2.2.2.1 i))) (fun i => sk_bI (f.2.2.2.2.2.2 i)) wt2) H := hP
            have hD : va_D A (sk_wR a k (nI (sk_gap b o kk).1) ((sk_gap b o kk).2.1) ((sk_gap b o kk).2.2.1) ((sk_gap b o kk).2.2.2.1) ((sk_gap b o kk).2.2.2.2) (nI t2.1) t2.2.1 t2.2.2.1 t2.2.2.2.1 t2.2.2.2.2 (nI f.1) (nI (sk_there f)) (nI (f.1 % 100)) f.2.1 f.2.2.1 f.2.2.2.1 f.2.2.2.2.1 (fun i => lN (sk_nb (f.2.2.2.2.2.1 i))) (fun i => sk_bI (f.2.2.2.2.2.2 i)) wt2) := hD
            refine lv_aload_n hx hb dK_drop_99 rfl (lv_at hl 4 rfl) ?_
            refine lv_iload_n hx hb dK_drop_100 rfl (lv_at hl 5 rfl) ?_
            refine lv_iload hx hb dK_drop_101 (lv_at hl 0 rfl) ?_
            refine va_callv (va_runV (As := [.int (nI o), .int (nI g2)]) (rest := []) ⟨hx, hb, hml, hown, hts⟩ (kK_change l dC dI a k (sk_gap b o kk) t2 f wt2 A o g2 (by omega) hfl) (cwV 2 hts (sk_gV wmK_81 wiK_change wsK_change wnK wcK_change) rfl rfl rfl (by decide +kernel) ⟨Nat.le_of_ble_eq_true rfl, Nat.le_of_ble_eq_true rfl⟩) ⟨sk_blindD _, va_recv hK hP (ci := 3) (q0 := 0) rfl rfl, fun U hU hW => ⟨rfl, sk_at (S := (sk_gap b o kk, t2, f)) (wt := wt2) hP hK hN hU hW, hD⟩⟩ rfl rfl hl.1 rfl (lv_room (Nat.le_of_ble_eq_true rfl)) dK_drop_103 ⟨Nat.le_of_ble_eq_true rfl, Nat.le_of_ble_eq_true rfl⟩) hS (fun _ _ h => h) (fun _ h => h) (fun u103 U9 H locs ht hvm w103 hB hz hk hS => ?_)
            obtain ⟨hP, hD⟩ := hB
            rw [ht] at hP
            obtain rfl := w103
            have hP : va_P (dC, dI) vwCl (sk_wR a k (nI (sk_chg (sk_gap b o kk) o g2).1) ((sk_chg (sk_gap b o kk) o g2).2.1) ((sk_chg (sk_gap b o kk) o g2).2.2.1) ((sk_chg (sk_gap b o kk) o g2).2.2.2.1) ((sk_chg (sk_gap b o kk) o g2).2.2.2.2) (nI t2.1) t2.2.1 t2.2.2.1 t2.2.2.2.1 t2.2.2.2.2 (nI (sk_brk f o).1) (nI (sk_there (sk_brk f o))) (nI ((sk_brk f o).1 % 100)) ((sk_brk f o).2.1) ((sk_brk f o).2.2.1) ((sk_brk f o).2.2.2.1) ((sk_brk f o).2.2.2.2.1) (fun i => lN (sk_nb ((sk_brk f o).2.2.2.2.2.1 i))) (fun i => sk_bI ((sk_brk f o).2.2.2.2.2.2 i)) wt2) H := hP
            have hD : va_D A (sk_wR a k (nI (sk_chg (sk_gap b o kk) o g2).1) ((sk_chg (sk_gap b o kk) o g2).2.1) ((sk_chg (sk_gap b o kk) o g2).2.2.1) ((sk_chg (sk_gap b o kk) o g2).2.2.2.1) ((sk_chg (sk_gap b o kk) o g2).2.2.2.2) (nI t2.1) t2.2.1 t2.2.2.1 t2.2.2.2.1 t2.2.2.2.2 (nI (sk_brk f o).1) (nI (sk_there (sk_brk f o))) (nI ((sk_brk f o).1 % 100)) ((sk_brk f o).2.1) ((sk_brk f o).2.2.1) ((sk_brk f o).2.2.2.1) ((sk_brk f o).2.2.2.2.1) (fun i => lN (sk_nb ((sk_brk f o).2.2.2.2.2.1 i))) (fun i => sk_bI ((sk_brk f o).2.2.2.2.2.2 i)) wt2) := hD
            refine lv_iconst (v := nI 1) hx hb dK_drop_106 (by decide) ?_
            have hset : sk_drop (b, t, f) (nI o) y = _ := (sk_drop_y (S := (b, t, f)) h60 ho).trans (sk_drop_3 hk2 hp (by rw [← e69]; exact hg))
            exact W.zret (v := nI 1) hx hb hr (by decide) (fun U9 ht hW => ⟨⟨nI 1, ((sk_chg (sk_gap b o kk) o g2, t2, sk_brk f o), wt2), rfl, ⟨by rw [hset]; rfl, wt2, by rw [hset]⟩, sk_endw ht hP hD⟩, hS.F ht⟩) hS.2.2 dK_drop_107
          · skip
            exact absurd c84 (sk_nm1 (by have z1 := (sk_reach_spec hT (sk_opv hOK ho) (sk_left_ok hT hs1 y).1 (sk_left_ok hT hs1 y).2 (by rw [← e69]; exact hg)); have z2 := z1.1.2.1; have z3 := z1.2.2.1; omega))
      · skip
        exact absurd c37 (sk_nm1 (by omega))
  · skip
    obtain rfl : r5 = nI 0 := w5.trans hv
    refine lv_if_ne (tgt := 13) hx hb dK_drop_8 (by decide) (fun q => absurd q (by decide)) (fun _ => ?_)
    refine lv_iconst (v := nI 0) hx hb dK_drop_11 (by decide) ?_
    exact W.zret (v := nI 0) hx hb hr (by decide) (fun U9 ht hW => ⟨⟨nI 0, ((b, t, f), wt), rfl, ⟨by rw [sk_drop_n (S := (b, t, f)) h5]; rfl, wt, by rw [sk_drop_n (S := (b, t, f)) h5]⟩, sk_endw ht hP hD⟩, hS.F ht⟩) hS.2.2 dK_drop_12
abbrev wzK_turn : List Cond := .code yK_turn cK_turn 5 (some .boolean) :: sk_W
abbrev rzK_turn : Room := { frames := 3, cells := 0, slots := 0, locals := 74 }
set_option maxHeartbeats 4000000 in
set_option maxRecDepth 100000 in
theorem kK_turn (l : Launch) (dC : Nat → ClassId) (dI : Nat → Nat → Nat) (a : Nat → Nat) (k : Nat → ClassId) (b : sk_Ob) (t : sk_Tr) (f : sk_Fi) (wt : sk_F) (A : Nat → Prop) (x y : Int32) (K : Nat) (hOK : sk_OK K (b, t, f)) : Met l yK_turn wzK_turn rzK_turn (va_Pc [.ref (a 0), .int x, .int y] (fun U => sk_PX dC dI a k (b, t, f) wt U ∧ va_D A (sk_wX a k (b, t, f) wt))) (va_Qi (fun r (u : sk_S × sk_F) => r = sk_bI (sk_turn (b, t, f) x y).1 ∧ ∃ wt2, u = ((sk_turn (b, t, f) x y).2, wt2)) (fun u U => va_P (dC, dI) vwCl (sk_wX a k u.1 u.2) U.heap ∧ va_D A (sk_wX a k u.1 u.2)) A) 0 0 A := by
  refine Met.ofW (cc := cK_turn) (maxL := 5) (ret := (some .boolean)) (by decide) rfl ?_
  intro p e s m args below meth c s₁ B hml hv
  obtain ⟨rfl, ⟨hP, hK, hN⟩, hD⟩ := hv
  have hx := B.exec
  have hb := B.bytes
  have hr := B.returns
  have hts : ∀ w ∈ sk_W, w.before ([.ref (a 0), .int x, .int y] : List Value).toArray s = true := fun w h => atoms_spec (ws := wzK_turn) B.pre w (List.mem_cons_of_mem _ h)
  have hown : s.vm.findClass RK = some m.cls := findClass_of_methodNamed B.named
  have hlocks := B.notSynchronized
  have hS : va_S A s.heap s.heap [] := va_S.rf
  have hP : va_P (dC, dI) vwCl (sk_wR a k (nI b.1) b.2.1 b.2.2.1 b.2.2.2.1 b.2.2.2.2 (nI t.1) t.2.1 t.2.2.1 t.2.2.2.1 t.2.2.2.2 (nI f.1) (nI (sk_there f)) (nI (f.1 % 100)) f.2.1 f.2.2.1 f.2.2.2.1 f.2.2.2.2.1 (fun i => lN (sk_nb (f.2.2.2.2.2.1 i))) (fun i => sk_bI (f.2.2.2.2.2.2 i)) wt) s.heap := hP
  have hD : va_D A (sk_wR a k (nI b.1) b.2.1 b.2.2.1 b.2.2.2.1 b.2.2.2.2 (nI t.1) t.2.1 t.2.2.1 t.2.2.2.1 t.2.2.2.2 (nI f.1) (nI (sk_there f)) (nI (f.1 % 100)) f.2.1 f.2.2.1 f.2.2.2.1 f.2.2.2.2.1 (fun i => lN (sk_nb (f.2.2.2.2.2.1 i))) (fun i => sk_bI (f.2.2.2.2.2.2 i)) wt) := hD
  have hl := lv_entry ([.ref (a 0), .int x, .int y]) (n := 5) (Nat.le_of_ble_eq_true rfl)
  rw [lg_entry_eq]
  generalize (lg_sl ([.ref (a 0), .int x, .int y]) ++ List.replicate (5 - (lg_sl ([.ref (a 0), .int x, .int y])).length) Slot.unset).toArray = ls at hl ⊢
  have hl : lv_has ls 5 [(0, .ref (a 0)), (1, .int x), (2, .int y)] := hl
  have hT : sk_TO b.1 t := hOK.1
  have hA : sk_AC b.1 b.2.1 := hOK.2.1
  have hO : sk_OO b t := hOK.2.2.1
  have hmk : f.1 ≤ K := hOK.2.2.2.2.2.2.1
  have hK5 : K ≤ 512 := hOK.2.2.2.2.2.1
  have h200 : t.1 ≤ 200 := hT.2.1
  have h60 : b.1 ≤ 60 := hT.2.2.1
  have hfl : ∀ i, i < sk_there f → ∀ x ∈ f.2.2.2.2.2.1 i, x < 60 := fun i hi x hx => Nat.lt_of_lt_of_le ((hOK.2.2.2.2.2.2.2 i hi).2.2.2 x hx) h60
  refine lv_aload_n hx hb dK_turn_0 rfl (lv_at hl 0 rfl) ?_
  refine va_get (D := (dC, dI)) (ci := 3) (v := .ref (a 1)) (C := RK) (T := TK) (N := 4) hx hb hts inK hown hK hP 0 rfl rfl 0 (by decide) (hts _ wfK_10) (fun _ h9 => h9) rfl dK_turn_1 ?_
  refine lv_iload_n hx hb dK_turn_4 rfl (lv_at hl 1 rfl) ?_
  refine va_calli (va_runVN (As := [.int x]) (rest := []) ⟨hx, hb, hml, hown, hts⟩ (kO_has l dC dI a k b t f wt x) ⟨va_cnB 1 hts (sk_gC wcO_has) rfl rfl rfl (nlmK_64 hN) (hts _ wnO) (by decide +kernel) ⟨Nat.le_of_ble_eq_true rfl, Nat.le_of_ble_eq_true rfl⟩, hts _ wiO_has, hts _ wsO_has⟩ ⟨sk_blind _, va_recv hK hP (ci := 1) (q0 := 1) rfl rfl, fun U hU hW => ⟨rfl, sk_at (S := (b, t, f)) (wt := wt) hP hK hN hU hW⟩⟩ rfl rfl hl.1 rfl (lv_room (Nat.le_of_ble_eq_true rfl)) dK_turn_5 ⟨Nat.le_of_ble_eq_true rfl, Nat.le_of_ble_eq_true rfl⟩) hS (fun _ _ h => h.elim) (fun _ h => h.elim) (fun r5 u5 U9 H locs ht hvm w5 hB hz hk hS => ?_)
  have hP : va_P (dC, dI) vwCl (sk_wR a k (nI b.1) b.2.1 b.2.2.1 b.2.2.2.1 b.2.2.2.2 (nI t.1) t.2.1 t.2.2.1 t.2.2.2.1 t.2.2.2.2 (nI f.1) (nI (sk_there f)) (nI (f.1 % 100)) f.2.1 f.2.2.1 f.2.2.2.1 f.2.2.2.2.1 (fun i => lN (sk_nb (f.2.2.2.2.2.1 i))) (fun i => sk_bI (f.2.2.2.2.2.2 i)) wt) H := hP.kept (fun j q hq => hk q.1 ((hP j q hq).lt) (fun h => h))
  clear hk hB ht
  rcases sk_bI_or (sk_hasB b.1 x) with ⟨h5, hv⟩ | ⟨h5, hv⟩
  · skip
    obtain rfl : r5 = nI 1 := w5.trans hv
    obtain ⟨o, ho, eo9⟩ := (sk_hasB_iff (by omega)).mp h5
    subst eo9
    obtain ⟨hs1, hs2, hs3⟩ := sk_shOk h200 hO ho
    refine lv_if_eq (tgt := 22) hx hb dK_turn_8 (by decide) (fun q => absurd q (by decide)) (fun _ => ?_)
    refine lv_aload_n hx hb dK_turn_11 rfl (lv_at hl 0 rfl) ?_
    refine va_get (D := (dC, dI)) (ci := 3) (v := .ref (a 1)) (C := RK) (T := TK) (N := 4) hx hb hts inK hown hK hP 0 rfl rfl 0 (by decide) (hts _ wfK_10) (fun _ h9 => h9) rfl dK_turn_12 ?_
    refine lv_iload_n hx hb dK_turn_15 rfl (lv_at hl 2 rfl) ?_
    refine va_calli (va_runVN (As := [.int y]) (rest := []) ⟨hx, hb, hml, hown, hts⟩ (kO_canBePrototype l dC dI a k b t f wt y) ⟨va_cnB 1 hts (sk_gC wcO_canBePrototype) rfl rfl rfl (nlmK_34 hN) (hts _ wnO) (by decide +kernel) ⟨Nat.le_of_ble_eq_true rfl, Nat.le_of_ble_eq_true rfl⟩, hts _ wiO_canBePrototype, hts _ wsO_canBePrototype⟩ ⟨sk_blind _, va_recv hK hP (ci := 1) (q0 := 1) rfl rfl, fun U hU hW => ⟨rfl, sk_at (S := (b, t, f)) (wt := wt) hP hK hN hU hW⟩⟩ rfl rfl hl.1 rfl (lv_room (Nat.le_of_ble_eq_true rfl)) dK_turn_16 ⟨Nat.le_of_ble_eq_true rfl, Nat.le_of_ble_eq_true rfl⟩) hS (fun _ _ h => h.elim) (fun _ h => h.elim) (fun r16 u16 U9 H locs ht hvm w16 hB hz hk hS => ?_)
    have hP : va_P (dC, dI) vwCl (sk_wR a k (nI b.1) b.2.1 b.2.2.1 b.2.2.2.1 b.2.2.2.2 (nI t.1) t.2.1 t.2.2.1 t.2.2.2.1 t.2.2.2.2 (nI f.1) (nI (sk_there f)) (nI (f.1 % 100)) f.2.1 f.2.2.1 f.2.2.2.1 f.2.2.2.2.1 (fun i => lN (sk_nb (f.2.2.2.2.2.1 i))) (fun i => sk_bI (f.2.2.2.2.2.2 i)) wt) H := hP.kept (fun j q hq => hk q.1 ((hP j q hq).lt) (fun h => h))
    clear hk hB ht
    rcases sk_bI_or (sk_canP b.1 y) with ⟨h16, hv⟩ | ⟨h16, hv⟩
    · skip
      obtain rfl : r16 = nI 1 := w16.trans hv
      refine lv_if_ne (tgt := 24) hx hb dK_turn_19 (by decide) (fun _ => ?_) (fun q => absurd q (by decide))
      refine lv_aload_n hx hb dK_turn_24 rfl (lv_at hl 0 rfl) ?_
      refine va_get (D := (dC, dI)) (ci := 3) (v := .ref (a 1)) (C := RK) (T := TK) (N := 4) hx hb hts inK hown hK hP 0 rfl rfl 0 (by decide) (hts _ wfK_10) (fun _ h9 => h9) rfl dK_turn_25 ?_
      refine lv_iload_n hx hb dK_turn_28 rfl (lv_at hl 2 rfl) ?_
      refine lv_iload_n hx hb dK_turn_29 rfl (lv_at hl 1 rfl) ?_
      refine va_calli (va_runVN (As := [.int y, .int (nI o)]) (rest := []) ⟨hx, hb, hml, hown, hts⟩ (kO_leadsTo l dC dI a k b t f wt y o hA ((sk_canP_iff (by omega)).mp h16) ho) ⟨va_cnB 2 hts (sk_gC wcO_leadsTo) rfl rfl rfl (nlmK_99 hN) (hts _ wnO) (by decide +kernel) ⟨Nat.le_of_ble_eq_true rfl, Nat.le_of_ble_eq_true rfl⟩, hts _ wiO_leadsTo, hts _ wsO_leadsTo⟩ ⟨sk_blind _, va_recv hK hP (ci := 1) (q0 := 1) rfl rfl, fun U hU hW => ⟨rfl, sk_at (S := (b, t, f)) (wt := wt) hP hK hN hU hW⟩⟩ rfl rfl hl.1 rfl (lv_room (Nat.le_of_ble_eq_true rfl)) dK_turn_30 ⟨Nat.le_of_ble_eq_true rfl, Nat.le_of_ble_eq_true rfl⟩) hS (fun _ _ h => h.elim) (fun _ h => h.elim) (fun r30 u30 U9 H locs ht hvm w30 hB hz hk hS => ?_)
      have hP : va_P (dC, dI) vwCl (sk_wR a k (nI b.1) b.2.1 b.2.2.1 b.2.2.2.1 b.2.2.2.2 (nI t.1) t.2.1 t.2.2.1 t.2.2.2.1 t.2.2.2.2 (nI f.1) (nI (sk_there f)) (nI (f.1 % 100)) f.2.1 f.2.2.1 f.2.2.2.1 f.2.2.2.2.1 (fun i => lN (sk_nb (f.2.2.2.2.2.1 i))) (fun i => sk_bI (f.2.2.2.2.2.2 i)) wt) H := hP.kept (fun j q hq => hk q.1 ((hP j q hq).lt) (fun h => h))
      clear hk hB ht
      rcases sk_bI_or (decide (o ∈ sk_abv b.2.1 y)) with ⟨h30, hv⟩ | ⟨h30, hv⟩
      · skip
        obtain rfl : r30 = nI 1 := w30.trans hv
        refine lv_if_eq (tgt := 38) hx hb dK_turn_33 (by decide) (fun q => absurd q (by decide)) (fun _ => ?_)
        refine lv_iconst (v := nI 0) hx hb dK_turn_36 (by decide) ?_
        have hset : sk_turn (b, t, f) (nI o) y = _ := (sk_turn_y (S := (b, t, f)) h60 ho h16).trans (sk_turn_1 h30)
        exact W.zret (v := nI 0) hx hb hr (by decide) (fun U9 ht hW => ⟨⟨nI 0, ((b, t, f), wt), rfl, ⟨by rw [hset]; rfl, wt, by rw [hset]⟩, sk_endw ht hP hD⟩, hS.F ht⟩) hS.2.2 dK_turn_37
      · skip
        obtain rfl : r30 = nI 0 := w30.trans hv
        refine lv_if_eq (tgt := 38) hx hb dK_turn_33 (by decide) (fun _ => ?_) (fun q => absurd (by decide) q)
        refine lv_aload_n hx hb dK_turn_38 rfl (lv_at hl 0 rfl) ?_
        refine va_get (D := (dC, dI)) (ci := 3) (v := .ref (a 2)) (C := RK) (T := TK) (N := 4) hx hb hts inK hown hK hP 0 rfl rfl 1 (by decide) (hts _ wfK_19) (fun _ h9 => h9) rfl dK_turn_39 ?_
        refine lv_aload_n hx hb dK_turn_42 rfl (lv_at hl 0 rfl) ?_
        refine va_get (D := (dC, dI)) (ci := 3) (v := .ref (a 1)) (C := RK) (T := TK) (N := 4) hx hb hts inK hown hK hP 0 rfl rfl 0 (by decide) (hts _ wfK_10) (fun _ h9 => h9) rfl dK_turn_43 ?_
        refine va_getN (D := (dC, dI)) (ci := 1) (v := .ref (a 6)) (C := RO) (T := TO) (N := 5) hx hb hts inO hown hK hP 1 rfl rfl 1 (by decide) (va_Nw.use rfl (nlfK_70 hN)) (fun _ h9 => h9) rfl dK_turn_46 ?_
        refine lv_iload_n hx hb dK_turn_49 rfl (lv_at hl 1 rfl) ?_
        refine va_iald hx hb hK hP 6 0 rfl rfl (vp_in_nI (show o < 60 by omega) (by decide)) dK_turn_50 ?_
        refine lv_topi (fun x50 e50 => ?_)
        rw [nI_clamp (show o < 2 ^ 31 by omega)] at e50
        obtain rfl : x50 = nI (sk_sh b o) := e50.trans (hs2)
        refine lv_iconst (v := (-1)) hx hb dK_turn_51 (by decide) ?_
        refine lv_aload_n hx hb dK_turn_52 rfl (lv_at hl 0 rfl) ?_
        refine va_get (D := (dC, dI)) (ci := 3) (v := .ref (a 4)) (C := RK) (T := TK) (N := 4) hx hb hts inK hown hK hP 0 rfl rfl 3 (by decide) (hts _ wfK_30) (fun _ h9 => h9) rfl dK_turn_53 ?_
        refine va_calli (va_runVN (As := [.int (nI (sk_sh b o)), .int (-1), .ref (a 4)]) (rest := []) ⟨hx, hb, hml, hown, hts⟩ (kT_listNames l dC dI a k b t f wt A (sk_sh b o) (-1) hT hs1) ⟨va_cnB 3 hts (sk_gC wcT_listNames) rfl rfl rfl (nlmK_89 hN) (hts _ wnT) (by decide +kernel) ⟨Nat.le_of_ble_eq_true rfl, Nat.le_of_ble_eq_true rfl⟩, hts _ wiT_listNames, hts _ wsT_listNames⟩ ⟨sk_blindD _, va_recv hK hP (ci := 2) (q0 := 2) rfl rfl, fun U hU hW => ⟨rfl, sk_at (S := (b, t, f)) (wt := wt) hP hK hN hU hW, hD⟩⟩ rfl rfl hl.1 rfl (lv_room (Nat.le_of_ble_eq_true rfl)) dK_turn_56 ⟨Nat.le_of_ble_eq_true rfl, Nat.le_of_ble_eq_true rfl⟩) hS (fun _ _ h => h) (fun _ h => h) (fun r56 u56 U9 H locs ht hvm w56 hB hz hk hS => ?_)
        obtain ⟨hP, hD⟩ := hB
        rw [ht] at hP
        obtain ⟨rfl, wt2, rfl, hrow⟩ := w56
        have hP : va_P (dC, dI) vwCl (sk_wR a k (nI b.1) b.2.1 b.2.2.1 b.2.2.2.1 b.2.2.2.2 (nI t.1) t.2.1 t.2.2.1 t.2.2.2.1 t.2.2.2.2 (nI f.1) (nI (sk_there f)) (nI (f.1 % 100)) f.2.1 f.2.2.1 f.2.2.2.1 f.2.2.2.2.1 (fun i => lN (sk_nb (f.2.2.2.2.2.1 i))) (fun i => sk_bI (f.2.2.2.2.2.2 i)) wt2) H := hP
        have hD : va_D A (sk_wR a k (nI b.1) b.2.1 b.2.2.1 b.2.2.2.1 b.2.2.2.2 (nI t.1) t.2.1 t.2.2.1 t.2.2.2.1 t.2.2.2.2 (nI f.1) (nI (sk_there f)) (nI (f.1 % 100)) f.2.1 f.2.2.1 f.2.2.2.1 f.2.2.2.2.1 (fun i => lN (sk_nb (f.2.2.2.2.2.1 i))) (fun i => sk_bI (f.2.2.2.2.2.2 i)) wt2) := hD
        refine lv_istore_n (lv' := [(3, .int (nI (sk_left t (sk_sh b o) (-1)).length)), (0, .ref (a 0)), (1, .int (nI o)), (2, .int y)]) hx hb dK_turn_59 rfl hl (by decide) rfl (fun ls hl => ?_)
        refine lv_aload_n hx hb dK_turn_60 rfl (lv_at hl 1 rfl) ?_
        refine va_get (D := (dC, dI)) (ci := 3) (v := .ref (a 2)) (C := RK) (T := TK) (N := 4) hx hb hts inK hown hK hP 0 rfl rfl 1 (by decide) (hts _ wfK_19) (fun _ h9 => h9) rfl dK_turn_61 ?_
        refine lv_iload_n hx hb dK_turn_64 rfl (lv_at hl 3 rfl) ?_
        refine lv_aload_n hx hb dK_turn_65 rfl (lv_at hl 1 rfl) ?_
        refine va_get (D := (dC, dI)) (ci := 3) (v := .ref (a 4)) (C := RK) (T := TK) (N := 4) hx hb hts inK hown hK hP 0 rfl rfl 3 (by decide) (hts _ wfK_30) (fun _ h9 => h9) rfl dK_turn_66 ?_
        refine lv_iload_n hx hb dK_turn_69 rfl (lv_at hl 0 rfl) ?_
        refine va_calli (va_runVN (As := [.int y, .ref (a 4), .int (nI (sk_left t (sk_sh b o) (-1)).length)]) (rest := []) ⟨hx, hb, hml, hown, hts⟩ (kT_reach l dC dI a k b t f wt2 A y (sk_left t (sk_sh b o) (-1)) hT (sk_left_len hT hs1 (-1)) hrow) ⟨va_cnB 3 hts (sk_gC wcT_reach) rfl rfl rfl (nlmK_54 hN) (hts _ wnT) (by decide +kernel) ⟨Nat.le_of_ble_eq_true rfl, Nat.le_of_ble_eq_true rfl⟩, hts _ wiT_reach, hts _ wsT_reach⟩ ⟨sk_blindD _, va_recv hK hP (ci := 2) (q0 := 2) rfl rfl, fun U hU hW => ⟨rfl, sk_at (S := (b, t, f)) (wt := wt2) hP hK hN hU hW, hD⟩⟩ rfl rfl hl.1 rfl (lv_room (Nat.le_of_ble_eq_true rfl)) dK_turn_70 ⟨Nat.le_of_ble_eq_true rfl, Nat.le_of_ble_eq_true rfl⟩) hS (fun _ _ h => h) (fun _ h => h) (fun r70 u70 U9 H locs ht hvm w70 hB hz hk hS => ?_)
        obtain ⟨hP, hD⟩ := hB
        rw [ht] at hP
        rcases w70 with ⟨hg, rfl, rfl⟩ | ⟨t2, g2, hg, rfl, rfl⟩
        · skip
          have hP : va_P (dC, dI) vwCl (sk_wR a k (nI b.1) b.2.1 b.2.2.1 b.2.2.2.1 b.2.2.2.2 (nI t.1) t.2.1 t.2.2.1 t.2.2.2.1 t.2.2.2.2 (nI f.1) (nI (sk_there f)) (nI (f.1 % 100)) f.2.1 f.2.2.1 f.2.2.2.1 f.2.2.2.2.1 (fun i => lN (sk_nb (f.2.2.2.2.2.1 i))) (fun i => sk_bI (f.2.2.2.2.2.2 i)) wt2) H := hP
          have hD : va_D A (sk_wR a k (nI b.1) b.2.1 b.2.2.1 b.2.2.2.1 b.2.2.2.2 (nI t.1) t.2.1 t.2.2.1 t.2.2.2.1 t.2.2.2.2 (nI f.1) (nI (sk_there f)) (nI (f.1 % 100)) f.2.1 f.2.2.1 f.2.2.2.1 f.2.2.2.2.1 (fun i => lN (sk_nb (f.2.2.2.2.2.1 i))) (fun i => sk_bI (f.2.2.2.2.2.2 i)) wt2) := hD
          refine lv_istore (lv' := [(4, .int (-1)), (3, .int (nI (sk_left t (sk_sh b o) (-1)).length)), (0, .ref (a 0)), (1, .int (nI o)), (2, .int y)]) hx hb dK_turn_73 hl (by decide) rfl (fun ls hl => ?_)
          refine lv_iload hx hb dK_turn_75 (lv_at hl 0 rfl) ?_
          refine lv_iconst (v := (-1)) hx hb dK_turn_77 (by decide) ?_
          refine lv_icmp_ne (tgt := 83) hx hb dK_turn_78 (by decide) (fun q => absurd q (by decide)) (fun _ => ?_)
          refine lv_iconst (v := nI 0) hx hb dK_turn_81 (by decide) ?_
          have hset : sk_turn (b, t, f) (nI o) y = _ := (sk_turn_y (S := (b, t, f)) h60 ho h16).trans (sk_turn_2 h30 (by rw [← sk_left_m1 hT hs1]; exact hg))
          exact W.zret (v := nI 0) hx hb hr (by decide) (fun U9 ht hW => ⟨⟨nI 0, ((b, t, f), wt2), rfl, ⟨by rw [hset]; rfl, wt2, by rw [hset]⟩, sk_endw ht hP hD⟩, hS.F ht⟩) hS.2.2 dK_turn_82
        · skip
          have hP : va_P (dC, dI) vwCl (sk_wR a k (nI b.1) b.2.1 b.2.2.1 b.2.2.2.1 b.2.2.2.2 (nI t2.1) t2.2.1 t2.2.2.1 t2.2.2.2.1 t2.2.2.2.2 (nI f.1) (nI (sk_there f)) (nI (f.1 % 100)) f.2.1 f.2.2.1 f.2.2.2.1 f.2.2.2.2.1 (fun i => lN (sk_nb (f.2.2.2.2.2.1 i))) (fun i => sk_bI (f.2.2.2.2.2.2 i)) wt2) H := hP
          have hD : va_D A (sk_wR a k (nI b.1) b.2.1 b.2.2.1 b.2.2.2.1 b.2.2.2.2 (nI t2.1) t2.2.1 t2.2.2.1 t2.2.2.2.1 t2.2.2.2.2 (nI f.1) (nI (sk_there f)) (nI (f.1 % 100)) f.2.1 f.2.2.1 f.2.2.2.1 f.2.2.2.2.1 (fun i => lN (sk_nb (f.2.2.2.2.2.1 i))) (fun i => sk_bI (f.2.2.2.2.2.2 i)) wt2) := hD
          refine lv_istore (lv' := [(4, .int (nI g2)), (3, .int (nI (sk_left t (sk_sh b o) (-1)).length)), (0, .ref (a 0)), (1, .int (nI o)), (2, .int y)]) hx hb dK_turn_73 hl (by decide) rfl (fun ls hl => ?_)
          refine lv_iload hx hb dK_turn_75 (lv_at hl 0 rfl) ?_
          refine lv_iconst (v := (-1)) hx hb dK_turn_77 (by decide) ?_
          refine lv_icmp_ne (tgt := 83) hx hb dK_turn_78 (by decide) (fun c78 => ?_) (fun c78 => ?_)
          · skip
            refine lv_aload_n hx hb dK_turn_83 rfl (lv_at hl 2 rfl) ?_
            refine va_get (D := (dC, dI)) (ci := 3) (v := .ref (a 1)) (C := RK) (T := TK) (N := 4) hx hb hts inK hown hK hP 0 rfl rfl 0 (by decide) (hts _ wfK_10) (fun _ h9 => h9) rfl dK_turn_84 ?_
            refine va_getN (D := (dC, dI)) (ci := 1) (v := .ref (a 5)) (C := RO) (T := TO) (N := 5) hx hb hts inO hown hK hP 1 rfl rfl 0 (by decide) (va_Nw.use rfl (nlfK_93 hN)) (fun _ h9 => h9) rfl dK_turn_87 ?_
            refine lv_iload_n hx hb dK_turn_90 rfl (lv_at hl 3 rfl) ?_
            refine lv_iload_n hx hb dK_turn_91 rfl (lv_at hl 4 rfl) ?_
            refine va_iast hx hb hK hP hD hS 5 0 rfl rfl (vp_in_nI (show o < 60 by omega) (by decide)) dK_turn_92 (fun H locs hP hD hS => ?_)
            rw [nI_clamp (show o < 2 ^ 31 by omega)] at hP hD
            have hP : va_P (dC, dI) vwCl (sk_wR a k (nI b.1) (upd b.2.1 o y) b.2.2.1 b.2.2.2.1 b.2.2.2.2 (nI t2.1) t2.2.1 t2.2.2.1 t2.2.2.2.1 t2.2.2.2.2 (nI f.1) (nI (sk_there f)) (nI (f.1 % 100)) f.2.1 f.2.2.1 f.2.2.2.1 f.2.2.2.2.1 (fun i => lN (sk_nb (f.2.2.2.2.2.1 i))) (fun i => sk_bI (f.2.2.2.2.2.2 i)) wt2) H := hP
            have hD : va_D A (sk_wR a k (nI b.1) (upd b.2.1 o y) b.2.2.1 b.2.2.2.1 b.2.2.2.2 (nI t2.1) t2.2.1 t2.2.2.1 t2.2.2.2.1 t2.2.2.2.2 (nI f.1) (nI (sk_there f)) (nI (f.1 % 100)) f.2.1 f.2.2.1 f.2.2.2.1 f.2.2.2.2.1 (fun i => lN (sk_nb (f.2.2.2.2.2.1 i))) (fun i => sk_bI (f.2.2.2.2.2.2 i)) wt2) := hD
            have hP : va_P (dC, dI) vwCl (sk_wR a k (nI (b.1, upd b.2.1 o y, b.2.2).1) ((b.1, upd b.2.1 o y, b.2.2).2.1) ((b.1, upd b.2.1 o y, b.2.2).2.2.1) ((b.1, upd b.2.1 o y, b.2.2).2.2.2.1) ((b.1, upd b.2.1 o y, b.2.2).2.2.2.2) (nI t2.1) t2.2.1 t2.2.2.1 t2.2.2.2.1 t2.2.2.2.2 (nI f.1) (nI (sk_there f)) (nI (f.1 % 100)) f.2.1 f.2.2.1 f.2.2.2.1 f.2.2.2.2.1 (fun i => lN (sk_nb (f.2.2.2.2.2.1 i))) (fun i => sk_bI (f.2.2.2.2.2.2 i)) wt2) H := hP
            have hD : va_D A (sk_wR a k (nI (b.1, upd b.2.1 o y, b.2.2).1) ((b.1, upd b.2.1 o y, b.2.2).2.1) ((b.1, upd b.2.1 o y, b.2.2).2.2.1) ((b.1, upd b.2.1 o y, b.2.2).2.2.2.1) ((b.1, upd b.2.1 o y, b.2.2).2.2.2.2) (nI t2.1) t2.2.1 t2.2.2.1 t2.2.2.2.1 t2.2.2.2.2 (nI f.1) (nI (sk_there f)) (nI (f.1 % 100)) f.2.1 f.2.2.1 f.2.2.2.1 f.2.2.2.2.1 (fun i => lN (sk_nb (f.2.2.2.2.2.1 i))) (fun i => sk_bI (f.2.2.2.2.2.2 i)) wt2) := hD
            refine lv_aload_n hx hb dK_turn_93 rfl (lv_at hl 2 rfl) ?_
            refine lv_iload_n hx hb dK_turn_94 rfl (lv_at hl 3 rfl) ?_
            refine lv_iload hx hb dK_turn_95 (lv_at hl 0 rfl) ?_
            refine va_callv (va_runV (As := [.int (nI o), .int (nI g2)]) (rest := []) ⟨hx, hb, hml, hown, hts⟩ (kK_change l dC dI a k (b.1, upd b.2.1 o y, b.2.2) t2 f wt2 A o g2 (by omega) hfl) (cwV 2 hts (sk_gV wmK_81 wiK_change wsK_change wnK wcK_change) rfl rfl rfl (by decide +kernel) ⟨Nat.le_of_ble_eq_true rfl, Nat.le_of_ble_eq_true rfl⟩) ⟨sk_blindD _, va_recv hK hP (ci := 3) (q0 := 0) rfl rfl, fun U hU hW => ⟨rfl, sk_at (S := ((b.1, upd b.2.1 o y, b.2.2), t2, f)) (wt := wt2) hP hK hN hU hW, hD⟩⟩ rfl rfl hl.1 rfl (lv_room (Nat.le_of_ble_eq_true rfl)) dK_turn_97 ⟨Nat.le_of_ble_eq_true rfl, Nat.le_of_ble_eq_true rfl⟩) hS (fun _ _ h => h) (fun _ h => h) (fun u97 U9 H locs ht hvm w97 hB hz hk hS => ?_)
            obtain ⟨hP, hD⟩ := hB
            rw [ht] at hP
            obtain rfl := w97
            have hP : va_P (dC, dI) vwCl (sk_wR a k (nI (sk_chg (b.1, upd b.2.1 o y, b.2.2) o g2).1) ((sk_chg (b.1, upd b.2.1 o y, b.2.2) o g2).2.1) ((sk_chg (b.1, upd b.2.1 o y, b.2.2) o g2).2.2.1) ((sk_chg (b.1, upd b.2.1 o y, b.2.2) o g2).2.2.2.1) ((sk_chg (b.1, upd b.2.1 o y, b.2.2) o g2).2.2.2.2) (nI t2.1) t2.2.1 t2.2.2.1 t2.2.2.2.1 t2.2.2.2.2 (nI (sk_brk f o).1) (nI (sk_there (sk_brk f o))) (nI ((sk_brk f o).1 % 100)) ((sk_brk f o).2.1) ((sk_brk f o).2.2.1) ((sk_brk f o).2.2.2.1) ((sk_brk f o).2.2.2.2.1) (fun i => lN (sk_nb ((sk_brk f o).2.2.2.2.2.1 i))) (fun i => sk_bI ((sk_brk f o).2.2.2.2.2.2 i)) wt2) H := hP
            have hD : va_D A (sk_wR a k (nI (sk_chg (b.1, upd b.2.1 o y, b.2.2) o g2).1) ((sk_chg (b.1, upd b.2.1 o y, b.2.2) o g2).2.1) ((sk_chg (b.1, upd b.2.1 o y, b.2.2) o g2).2.2.1) ((sk_chg (b.1, upd b.2.1 o y, b.2.2) o g2).2.2.2.1) ((sk_chg (b.1, upd b.2.1 o y, b.2.2) o g2).2.2.2.2) (nI t2.1) t2.2.1 t2.2.2.1 t2.2.2.2.1 t2.2.2.2.2 (nI (sk_brk f o).1) (nI (sk_there (sk_brk f o))) (nI ((sk_brk f o).1 % 100)) ((sk_brk f o).2.1) ((sk_brk f o).2.2.1) ((sk_brk f o).2.2.2.1) ((sk_brk f o).2.2.2.2.1) (fun i => lN (sk_nb ((sk_brk f o).2.2.2.2.2.1 i))) (fun i => sk_bI ((sk_brk f o).2.2.2.2.2.2 i)) wt2) := hD
            refine lv_iconst (v := nI 1) hx hb dK_turn_100 (by decide) ?_
            have hset : sk_turn (b, t, f) (nI o) y = _ := (sk_turn_y (S := (b, t, f)) h60 ho h16).trans (sk_turn_3 h30 (by rw [← sk_left_m1 hT hs1]; exact hg))
            exact W.zret (v := nI 1) hx hb hr (by decide) (fun U9 ht hW => ⟨⟨nI 1, ((sk_chg (b.1, upd b.2.1 o y, b.2.2) o g2, t2, sk_brk f o), wt2), rfl, ⟨by rw [hset]; rfl, wt2, by rw [hset]⟩, sk_endw ht hP hD⟩, hS.F ht⟩) hS.2.2 dK_turn_101
          · skip
            exact absurd c78 (sk_nm1 (by have z1 := (sk_reach_spec hT ((sk_canP_iff (by omega)).mp h16) (sk_left_ok hT hs1 (-1)).1 (sk_left_ok hT hs1 (-1)).2 hg); have z2 := z1.1.2.1; have z3 := z1.2.2.1; omega))
    · skip
      obtain rfl : r16 = nI 0 := w16.trans hv
      refine lv_if_ne (tgt := 24) hx hb dK_turn_19 (by decide) (fun q => absurd q (by decide)) (fun _ => ?_)
      refine lv_iconst (v := nI 0) hx hb dK_turn_22 (by decide) ?_
      exact W.zret (v := nI 0) hx hb hr (by decide) (fun U9 ht hW => ⟨⟨nI 0, ((b, t, f), wt), rfl, ⟨by rw [sk_turn_n (by show (sk_hasB b.1 _ && sk_canP b.1 y) = false; rw [h16, Bool.and_false])]; rfl, wt, by rw [sk_turn_n (by show (sk_hasB b.1 _ && sk_canP b.1 y) = false; rw [h16, Bool.and_false])]⟩, sk_endw ht hP hD⟩, hS.F ht⟩) hS.2.2 dK_turn_23
  · skip
    obtain rfl : r5 = nI 0 := w5.trans hv
    refine lv_if_eq (tgt := 22) hx hb dK_turn_8 (by decide) (fun _ => ?_) (fun q => absurd (by decide) q)
    refine lv_iconst (v := nI 0) hx hb dK_turn_22 (by decide) ?_
    exact W.zret (v := nI 0) hx hb hr (by decide) (fun U9 ht hW => ⟨⟨nI 0, ((b, t, f), wt), rfl, ⟨by rw [sk_turn_n (by show (sk_hasB b.1 _ && sk_canP b.1 y) = false; rw [h5, Bool.false_and])]; rfl, wt, by rw [sk_turn_n (by show (sk_hasB b.1 _ && sk_canP b.1 y) = false; rw [h5, Bool.false_and])]⟩, sk_endw ht hP hD⟩, hS.F ht⟩) hS.2.2 dK_turn_23
end
section
theorem sk_swn (y : Int32) (n : Nat) (hn : n < 1000) : (∃ j, j ≤ n ∧ y = nI j) ∨ (y.toInt < 0 ∨ (n : Int) < y.toInt) := by
  by_cases h : y.toInt < 0 ∨ (n : Int) < y.toInt
  · exact Or.inr h
  · refine Or.inl ?_
    have h1 : ¬ y < 0 := fun q => h (Or.inl (by rw [Int32.lt_iff_toInt_lt] at q; exact q))
    have h2 : y ≤ nI n := by rw [Int32.le_iff_toInt_le, nI_toInt (by omega)]; omega
    obtain ⟨j, hj, e⟩ := nI_of2 (nI_toInt (by omega)) h1 h2
    exact ⟨j, hj, e⟩
theorem sk_sw5 (y : Int32) : y = nI 0 ∨ y = nI 1 ∨ y = nI 2 ∨ y = nI 3 ∨ y = nI 4 ∨ y = nI 5 ∨ (y.toInt < 0 ∨ 5 < y.toInt) := by
  rcases sk_swn y 5 (by decide) with ⟨j, hj, e⟩ | h
  · rcases (show j = 0 ∨ j = 1 ∨ j = 2 ∨ j = 3 ∨ j = 4 ∨ j = 5 by omega) with rfl | rfl | rfl | rfl | rfl | rfl
    · exact Or.inl e
    · exact Or.inr (Or.inl e)
    · exact Or.inr (Or.inr (Or.inl e))
    · exact Or.inr (Or.inr (Or.inr (Or.inl e)))
    · exact Or.inr (Or.inr (Or.inr (Or.inr (Or.inl e))))
    · exact Or.inr (Or.inr (Or.inr (Or.inr (Or.inr (Or.inl e)))))
  · exact Or.inr (Or.inr (Or.inr (Or.inr (Or.inr (Or.inr h)))))
theorem sk_sw3 (y : Int32) : y = nI 0 ∨ y = nI 1 ∨ y = nI 2 ∨ y = nI 3 ∨ (y.toInt < 0 ∨ 3 < y.toInt) := by
  rcases sk_swn y 3 (by decide) with ⟨j, hj, e⟩ | h
  · rcases (show j = 0 ∨ j = 1 ∨ j = 2 ∨ j = 3 by omega) with rfl | rfl | rfl | rfl
    · exact Or.inl e
    · exact Or.inr (Or.inl e)
    · exact Or.inr (Or.inr (Or.inl e))
    · exact Or.inr (Or.inr (Or.inr (Or.inl e)))
  · exact Or.inr (Or.inr (Or.inr (Or.inr h)))
theorem sk_ne_of5 {y : Int32} (h : y.toInt < 0 ∨ 5 < y.toInt) : ¬ y = 0 ∧ ¬ y = 1 ∧ ¬ y = 2 ∧ ¬ y = 3 ∧ ¬ y = 4 ∧ ¬ y = 5 := by
  refine ⟨?_, ?_, ?_, ?_, ?_, ?_⟩ <;> intro e <;> subst e <;> exact absurd h (by decide)
theorem sk_ne_of3 {y : Int32} (h : y.toInt < 0 ∨ 3 < y.toInt) : ¬ y = 0 ∧ ¬ y = 1 ∧ ¬ y = 2 ∧ ¬ y = 3 := by
  refine ⟨?_, ?_, ?_, ?_⟩ <;> intro e <;> subst e <;> exact absurd h (by decide)
theorem sk_look_y {b : sk_Ob} {t : sk_Tr} {f : sk_Fi} {o : Nat} {w : Int32} (h60 : b.1 ≤ 60) (ho : o < b.1) : sk_look (b, t, f) (nI o) w = sk_lookN (b, t, f) o w := by
  unfold sk_look; rw [if_pos (by show sk_hasB b.1 (nI o) = true; exact sk_hasB_nI (by omega) ho), nI_clamp (by omega)]
theorem sk_look_n {S : sk_S} {x w : Int32} (h : sk_hasB S.1.1 x = false) : sk_look S x w = -1 := by unfold sk_look; rw [if_neg (by rw [h]; decide)]
theorem sk_shape_y {b : sk_Ob} {t : sk_Tr} {f : sk_Fi} {o : Nat} {w : Int32} (h60 : t.1 ≤ 200) (ho : o < t.1) : sk_shape (b, t, f) (nI o) w = sk_shapeN (b, t, f) o w := by
  unfold sk_shape; rw [if_pos (by show sk_hasB t.1 (nI o) = true; exact sk_hasB_nI (by omega) ho), nI_clamp (by omega)]
theorem sk_shape_n {S : sk_S} {x w : Int32} (h : sk_hasB S.2.1.1 x = false) : sk_shape S x w = -1 := by unfold sk_shape; rw [if_neg (by rw [h]; decide)]
theorem sk_finding_n {S : sk_S} {x w : Int32} (h : sk_hasB (sk_there S.2.2) x = false) : sk_finding S x w = -1 := by unfold sk_finding; rw [if_neg (by rw [h]; decide)]
theorem sk_sub4 {y : Int32} (h : nI 4 ≤ y) : 4 ≤ y := h
end
section
abbrev wzK_find : List Cond := .code yK_find cK_find 9 (some .int) :: sk_W
abbrev rzK_find : Room := { frames := 3, cells := 0, slots := 0, locals := 70 }
set_option maxHeartbeats 4000000 in
set_option maxRecDepth 100000 in
theorem kK_find (l : Launch) (dC : Nat → ClassId) (dI : Nat → Nat → Nat) (a : Nat → Nat) (k : Nat → ClassId) (b : sk_Ob) (t : sk_Tr) (f : sk_Fi) (wt : sk_F) (A : Nat → Prop) (x y : Int32) (K : Nat) (hOK : sk_OK K (b, t, f)) : Met l yK_find wzK_find rzK_find (va_Pc [.ref (a 0), .int x, .int y] (fun U => sk_PX dC dI a k (b, t, f) wt U ∧ va_D A (sk_wX a k (b, t, f) wt))) (va_Qi (fun r (u : sk_S × sk_F) => r = (sk_find (b, t, f) x y).1 ∧ ∃ wt2, u = ((sk_find (b, t, f) x y).2, wt2)) (fun u U => va_P (dC, dI) vwCl (sk_wX a k u.1 u.2) U.heap ∧ va_D A (sk_wX a k u.1 u.2)) A) 0 0 A := by
  refine Met.ofW (cc := cK_find) (maxL := 9) (ret := (some .int)) (by decide) rfl ?_
  intro p e s m args below meth c s₁ B hml hv
  obtain ⟨rfl, ⟨hP, hK, hN⟩, hD⟩ := hv
  have hx := B.exec
  have hb := B.bytes
  have hr := B.returns
  have hts : ∀ w ∈ sk_W, w.before ([.ref (a 0), .int x, .int y] : List Value).toArray s = true := fun w h => atoms_spec (ws := wzK_find) B.pre w (List.mem_cons_of_mem _ h)
  have hown : s.vm.findClass RK = some m.cls := findClass_of_methodNamed B.named
  have hlocks := B.notSynchronized
  have hS : va_S A s.heap s.heap [] := va_S.rf
  have hP : va_P (dC, dI) vwCl (sk_wR a k (nI b.1) b.2.1 b.2.2.1 b.2.2.2.1 b.2.2.2.2 (nI t.1) t.2.1 t.2.2.1 t.2.2.2.1 t.2.2.2.2 (nI f.1) (nI (sk_there f)) (nI (f.1 % 100)) f.2.1 f.2.2.1 f.2.2.2.1 f.2.2.2.2.1 (fun i => lN (sk_nb (f.2.2.2.2.2.1 i))) (fun i => sk_bI (f.2.2.2.2.2.2 i)) wt) s.heap := hP
  have hD : va_D A (sk_wR a k (nI b.1) b.2.1 b.2.2.1 b.2.2.2.1 b.2.2.2.2 (nI t.1) t.2.1 t.2.2.1 t.2.2.2.1 t.2.2.2.2 (nI f.1) (nI (sk_there f)) (nI (f.1 % 100)) f.2.1 f.2.2.1 f.2.2.2.1 f.2.2.2.2.1 (fun i => lN (sk_nb (f.2.2.2.2.2.1 i))) (fun i => sk_bI (f.2.2.2.2.2.2 i)) wt) := hD
  have hl := lv_entry ([.ref (a 0), .int x, .int y]) (n := 9) (Nat.le_of_ble_eq_true rfl)
  rw [lg_entry_eq]
  generalize (lg_sl ([.ref (a 0), .int x, .int y]) ++ List.replicate (9 - (lg_sl ([.ref (a 0), .int x, .int y])).length) Slot.unset).toArray = ls at hl ⊢
  have hl : lv_has ls 9 [(0, .ref (a 0)), (1, .int x), (2, .int y)] := hl
  have hT : sk_TO b.1 t := hOK.1
  have hA : sk_AC b.1 b.2.1 := hOK.2.1
  have hO : sk_OO b t := hOK.2.2.1
  have hmk : f.1 ≤ K := hOK.2.2.2.2.2.2.1
  have hK5 : K ≤ 512 := hOK.2.2.2.2.2.1
  have h200 : t.1 ≤ 200 := hT.2.1
  have h60 : b.1 ≤ 60 := hT.2.2.1
  have hfl : ∀ i, i < sk_there f → ∀ x ∈ f.2.2.2.2.2.1 i, x < 60 := fun i hi x hx => Nat.lt_of_lt_of_le ((hOK.2.2.2.2.2.2.2 i hi).2.2.2 x hx) h60
  refine lv_aload_n hx hb dK_find_0 rfl (lv_at hl 0 rfl) ?_
  refine va_get (D := (dC, dI)) (ci := 3) (v := .ref (a 1)) (C := RK) (T := TK) (N := 4) hx hb hts inK hown hK hP 0 rfl rfl 0 (by decide) (hts _ wfK_10) (fun _ h9 => h9) rfl dK_find_1 ?_
  refine lv_iload_n hx hb dK_find_4 rfl (lv_at hl 1 rfl) ?_
  refine va_calli (va_runVN (As := [.int x]) (rest := []) ⟨hx, hb, hml, hown, hts⟩ (kO_has l dC dI a k b t f wt x) ⟨va_cnB 1 hts (sk_gC wcO_has) rfl rfl rfl (nlmK_64 hN) (hts _ wnO) (by decide +kernel) ⟨Nat.le_of_ble_eq_true rfl, Nat.le_of_ble_eq_true rfl⟩, hts _ wiO_has, hts _ wsO_has⟩ ⟨sk_blind _, va_recv hK hP (ci := 1) (q0 := 1) rfl rfl, fun U hU hW => ⟨rfl, sk_at (S := (b, t, f)) (wt := wt) hP hK hN hU hW⟩⟩ rfl rfl hl.1 rfl (lv_room (Nat.le_of_ble_eq_true rfl)) dK_find_5 ⟨Nat.le_of_ble_eq_true rfl, Nat.le_of_ble_eq_true rfl⟩) hS (fun _ _ h => h.elim) (fun _ h => h.elim) (fun r5 u5 U9 H locs ht hvm w5 hB hz hk hS => ?_)
  have hP : va_P (dC, dI) vwCl (sk_wR a k (nI b.1) b.2.1 b.2.2.1 b.2.2.2.1 b.2.2.2.2 (nI t.1) t.2.1 t.2.2.1 t.2.2.2.1 t.2.2.2.2 (nI f.1) (nI (sk_there f)) (nI (f.1 % 100)) f.2.1 f.2.2.1 f.2.2.2.1 f.2.2.2.2.1 (fun i => lN (sk_nb (f.2.2.2.2.2.1 i))) (fun i => sk_bI (f.2.2.2.2.2.2 i)) wt) H := hP.kept (fun j q hq => hk q.1 ((hP j q hq).lt) (fun h => h))
  clear hk hB ht
  rcases sk_bI_or (sk_hasB b.1 x) with ⟨h5, hv⟩ | ⟨h5, hv⟩
  · skip
    obtain rfl : r5 = nI 1 := w5.trans hv
    obtain ⟨o, ho, eo9⟩ := (sk_hasB_iff (by omega)).mp h5
    subst eo9
    obtain ⟨hs1, hs2, hs3⟩ := sk_shOk h200 hO ho
    refine lv_if_eq (tgt := 18) hx hb dK_find_8 (by decide) (fun q => absurd q (by decide)) (fun _ => ?_)
    refine lv_iload_n hx hb dK_find_11 rfl (lv_at hl 2 rfl) ?_
    refine va_calli (va_runS (As := [.int y]) (rest := []) ⟨hx, hb, hml, hown, hts⟩ (kK_isName l dC dI a k b t f wt y) (cwS 1 hts (sk_gS wmK_67 wiK_isName wnK wcK_isName) rfl rfl rfl (by decide +kernel) ⟨Nat.le_of_ble_eq_true rfl, Nat.le_of_ble_eq_true rfl⟩) ⟨sk_blind _, fun U hU hW => ⟨rfl, sk_at (S := (b, t, f)) (wt := wt) hP hK hN hU hW⟩⟩ rfl rfl hl.1 rfl (lv_room (Nat.le_of_ble_eq_true rfl)) dK_find_12 ⟨Nat.le_of_ble_eq_true rfl, Nat.le_of_ble_eq_true rfl⟩) hS (fun _ _ h => h.elim) (fun _ h => h.elim) (fun r12 u12 U9 H locs ht hvm w12 hB hz hk hS => ?_)
    have hP : va_P (dC, dI) vwCl (sk_wR a k (nI b.1) b.2.1 b.2.2.1 b.2.2.2.1 b.2.2.2.2 (nI t.1) t.2.1 t.2.2.1 t.2.2.2.1 t.2.2.2.2 (nI f.1) (nI (sk_there f)) (nI (f.1 % 100)) f.2.1 f.2.2.1 f.2.2.2.1 f.2.2.2.2.1 (fun i => lN (sk_nb (f.2.2.2.2.2.1 i))) (fun i => sk_bI (f.2.2.2.2.2.2 i)) wt) H := hP.kept (fun j q hq => hk q.1 ((hP j q hq).lt) (fun h => h))
    clear hk hB ht
    rcases sk_bI_or (sk_isN y) with ⟨h12, hv⟩ | ⟨h12, hv⟩
    · skip
      obtain rfl : r12 = nI 1 := w12.trans hv
      refine lv_if_ne (tgt := 20) hx hb dK_find_15 (by decide) (fun _ => ?_) (fun q => absurd q (by decide))
      refine lv_aload_n hx hb dK_find_20 rfl (lv_at hl 0 rfl) ?_
      refine va_get (D := (dC, dI)) (ci := 3) (v := .ref (a 1)) (C := RK) (T := TK) (N := 4) hx hb hts inK hown hK hP 0 rfl rfl 0 (by decide) (hts _ wfK_10) (fun _ h9 => h9) rfl dK_find_21 ?_
      refine va_getN (D := (dC, dI)) (ci := 1) (v := .ref (a 6)) (C := RO) (T := TO) (N := 5) hx hb hts inO hown hK hP 1 rfl rfl 1 (by decide) (va_Nw.use rfl (nlfK_70 hN)) (fun _ h9 => h9) rfl dK_find_24 ?_
      refine lv_iload_n hx hb dK_find_27 rfl (lv_at hl 1 rfl) ?_
      refine va_iald hx hb hK hP 6 0 rfl rfl (vp_in_nI (show o < 60 by omega) (by decide)) dK_find_28 ?_
      refine lv_topi (fun x28 e28 => ?_)
      rw [nI_clamp (show o < 2 ^ 31 by omega)] at e28
      obtain rfl : x28 = nI (sk_sh b o) := e28.trans (hs2)
      refine lv_istore_n (lv' := [(3, .int (nI (sk_sh b o))), (0, .ref (a 0)), (1, .int (nI o)), (2, .int y)]) hx hb dK_find_29 rfl hl (by decide) rfl (fun ls hl => ?_)
      refine lv_aload_n hx hb dK_find_30 rfl (lv_at hl 1 rfl) ?_
      refine va_get (D := (dC, dI)) (ci := 3) (v := .ref (a 2)) (C := RK) (T := TK) (N := 4) hx hb hts inK hown hK hP 0 rfl rfl 1 (by decide) (hts _ wfK_19) (fun _ h9 => h9) rfl dK_find_31 ?_
      refine lv_iload_n hx hb dK_find_34 rfl (lv_at hl 0 rfl) ?_
      refine lv_iload_n hx hb dK_find_35 rfl (lv_at hl 3 rfl) ?_
      refine va_calli (va_runVN (As := [.int (nI (sk_sh b o)), .int y]) (rest := []) ⟨hx, hb, hml, hown, hts⟩ (kT_placeOf l dC dI a k b t f wt (sk_sh b o) y hT hs1) ⟨va_cnB 2 hts (sk_gC wcT_placeOf) rfl rfl rfl (nlmK_72 hN) (hts _ wnT) (by decide +kernel) ⟨Nat.le_of_ble_eq_true rfl, Nat.le_of_ble_eq_true rfl⟩, hts _ wiT_placeOf, hts _ wsT_placeOf⟩ ⟨sk_blind _, va_recv hK hP (ci := 2) (q0 := 2) rfl rfl, fun U hU hW => ⟨rfl, sk_at (S := (b, t, f)) (wt := wt) hP hK hN hU hW⟩⟩ rfl rfl hl.1 rfl (lv_room (Nat.le_of_ble_eq_true rfl)) dK_find_36 ⟨Nat.le_of_ble_eq_true rfl, Nat.le_of_ble_eq_true rfl⟩) hS (fun _ _ h => h.elim) (fun _ h => h.elim) (fun r36 u36 U9 H locs ht hvm w36 hB hz hk hS => ?_)
      have hP : va_P (dC, dI) vwCl (sk_wR a k (nI b.1) b.2.1 b.2.2.1 b.2.2.2.1 b.2.2.2.2 (nI t.1) t.2.1 t.2.2.1 t.2.2.2.1 t.2.2.2.2 (nI f.1) (nI (sk_there f)) (nI (f.1 % 100)) f.2.1 f.2.2.1 f.2.2.2.1 f.2.2.2.2.1 (fun i => lN (sk_nb (f.2.2.2.2.2.1 i))) (fun i => sk_bI (f.2.2.2.2.2.2 i)) wt) H := hP.kept (fun j q hq => hk q.1 ((hP j q hq).lt) (fun h => h))
      clear hk hB ht
      rcases sk_placeOk hT y hs1 with hp | ⟨kk, hk1, hk2, hp⟩
      · skip
        obtain rfl : r36 = -1 := w36.trans hp
        refine lv_istore (lv' := [(4, .int (-1)), (3, .int (nI (sk_sh b o))), (0, .ref (a 0)), (1, .int (nI o)), (2, .int y)]) hx hb dK_find_39 hl (by decide) rfl (fun ls hl => ?_)
        refine lv_iload hx hb dK_find_41 (lv_at hl 0 rfl) ?_
        refine lv_iconst (v := (-1)) hx hb dK_find_43 (by decide) ?_
        refine lv_icmp_eq (tgt := 61) hx hb dK_find_44 (by decide) (fun _ => ?_) (fun q => absurd (by decide) q)
        refine lv_aload_n hx hb dK_find_61 rfl (lv_at hl 2 rfl) ?_
        refine va_get (D := (dC, dI)) (ci := 3) (v := .ref (a 1)) (C := RK) (T := TK) (N := 4) hx hb hts inK hown hK hP 0 rfl rfl 0 (by decide) (hts _ wfK_10) (fun _ h9 => h9) rfl dK_find_62 ?_
        refine va_getN (D := (dC, dI)) (ci := 1) (v := .ref (a 5)) (C := RO) (T := TO) (N := 5) hx hb hts inO hown hK hP 1 rfl rfl 0 (by decide) (va_Nw.use rfl (nlfK_93 hN)) (fun _ h9 => h9) rfl dK_find_65 ?_
        refine lv_iload_n hx hb dK_find_68 rfl (lv_at hl 3 rfl) ?_
        refine va_iald hx hb hK hP 5 0 rfl rfl (vp_in_nI (show o < 60 by omega) (by decide)) dK_find_69 ?_
        refine lv_topi (fun x69 e69 => ?_)
        rw [nI_clamp (show o < 2 ^ 31 by omega)] at e69
        refine lv_istore (lv' := [(5, .int x69), (4, .int (-1)), (3, .int (nI (sk_sh b o))), (0, .ref (a 0)), (1, .int (nI o)), (2, .int y)]) hx hb dK_find_70 hl (by decide) rfl (fun ls hl => ?_)
        refine lv_aload_n hx hb dK_find_72 rfl (lv_at hl 3 rfl) ?_
        refine lv_iload hx hb dK_find_73 (lv_at hl 0 rfl) ?_
        refine lv_iload_n hx hb dK_find_75 rfl (lv_at hl 5 rfl) ?_
        refine va_calli (va_runV (As := [.int x69, .int y]) (rest := []) ⟨hx, hb, hml, hown, hts⟩ (kK_nearestWith l dC dI a k b t f wt x69 y hT hO hA (by rw [e69]; exact hA.2.1 o ho)) (cwV 2 hts (sk_gV wmK_105 wiK_nearestWith wsK_nearestWith wnK wcK_nearestWith) rfl rfl rfl (by decide +kernel) ⟨Nat.le_of_ble_eq_true rfl, Nat.le_of_ble_eq_true rfl⟩) ⟨sk_blind _, va_recv hK hP (ci := 3) (q0 := 0) rfl rfl, fun U hU hW => ⟨rfl, sk_at (S := (b, t, f)) (wt := wt) hP hK hN hU hW⟩⟩ rfl rfl hl.1 rfl (lv_room (Nat.le_of_ble_eq_true rfl)) dK_find_76 ⟨Nat.le_of_ble_eq_true rfl, Nat.le_of_ble_eq_true rfl⟩) hS (fun _ _ h => h.elim) (fun _ h => h.elim) (fun r76 u76 U9 H locs ht hvm w76 hB hz hk hS => ?_)
        have hP : va_P (dC, dI) vwCl (sk_wR a k (nI b.1) b.2.1 b.2.2.1 b.2.2.2.1 b.2.2.2.2 (nI t.1) t.2.1 t.2.2.1 t.2.2.2.1 t.2.2.2.2 (nI f.1) (nI (sk_there f)) (nI (f.1 % 100)) f.2.1 f.2.2.1 f.2.2.2.1 f.2.2.2.2.1 (fun i => lN (sk_nb (f.2.2.2.2.2.1 i))) (fun i => sk_bI (f.2.2.2.2.2.2 i)) wt) H := hP.kept (fun j q hq => hk q.1 ((hP j q hq).lt) (fun h => h))
        clear hk hB ht
        refine lv_istore (lv' := [(6, .int r76), (5, .int x69), (4, .int (-1)), (3, .int (nI (sk_sh b o))), (0, .ref (a 0)), (1, .int (nI o)), (2, .int y)]) hx hb dK_find_79 hl (by decide) rfl (fun ls hl => ?_)
        refine lv_aload_n hx hb dK_find_81 rfl (lv_at hl 4 rfl) ?_
        refine va_get (D := (dC, dI)) (ci := 3) (v := .ref (a 1)) (C := RK) (T := TK) (N := 4) hx hb hts inK hown hK hP 0 rfl rfl 0 (by decide) (hts _ wfK_10) (fun _ h9 => h9) rfl dK_find_82 ?_
        refine lv_iload hx hb dK_find_85 (lv_at hl 1 rfl) ?_
        refine lv_iload hx hb dK_find_87 (lv_at hl 0 rfl) ?_
        refine va_calll (va_runVN (As := [.int x69, .int r76]) (rest := []) ⟨hx, hb, hml, hown, hts⟩ (kO_way l dC dI a k b t f wt x69 r76 hA (by rw [e69]; exact hA.2.1 o ho)) ⟨va_cnB 2 hts (sk_gC wcO_way) rfl rfl rfl (nlmK_119 hN) (hts _ wnO) (by decide +kernel) ⟨Nat.le_of_ble_eq_true rfl, Nat.le_of_ble_eq_true rfl⟩, hts _ wiO_way, hts _ wsO_way⟩ ⟨sk_blind _, va_recv hK hP (ci := 1) (q0 := 1) rfl rfl, fun U hU hW => ⟨rfl, sk_at (S := (b, t, f)) (wt := wt) hP hK hN hU hW⟩⟩ rfl rfl hl.1 rfl (lv_room (Nat.le_of_ble_eq_true rfl)) dK_find_89 ⟨Nat.le_of_ble_eq_true rfl, Nat.le_of_ble_eq_true rfl⟩) hS (fun _ _ h => h.elim) (fun _ h => h.elim) (fun r89 u89 U9 H locs ht hvm w89 hB hz hk hS => ?_)
        have hP : va_P (dC, dI) vwCl (sk_wR a k (nI b.1) b.2.1 b.2.2.1 b.2.2.2.1 b.2.2.2.2 (nI t.1) t.2.1 t.2.2.1 t.2.2.2.1 t.2.2.2.2 (nI f.1) (nI (sk_there f)) (nI (f.1 % 100)) f.2.1 f.2.2.1 f.2.2.2.1 f.2.2.2.2.1 (fun i => lN (sk_nb (f.2.2.2.2.2.1 i))) (fun i => sk_bI (f.2.2.2.2.2.2 i)) wt) H := hP.kept (fun j q hq => hk q.1 ((hP j q hq).lt) (fun h => h))
        clear hk hB ht
        have hlt9 := sk_abv_lt hA (hA.2.1 o ho)
        obtain rfl : r89 = lN (sk_nb (sk_upto (sk_own b t y) (sk_abv b.2.1 (b.2.1 o)))) := w89.trans (by rw [w76, e69, sk_uptoV _ (fun x hx => Nat.lt_of_lt_of_le (hlt9 x hx) h60)])
        refine lv_lstore (lv' := [(7, .long (lN (sk_nb (sk_upto (sk_own b t y) (sk_abv b.2.1 (b.2.1 o)))))), (6, .int r76), (5, .int x69), (4, .int (-1)), (3, .int (nI (sk_sh b o))), (0, .ref (a 0)), (1, .int (nI o)), (2, .int y)]) hx hb dK_find_92 hl (by decide) rfl (fun ls hl => ?_)
        refine lv_aload_n hx hb dK_find_94 rfl (lv_at hl 5 rfl) ?_
        refine va_get (D := (dC, dI)) (ci := 3) (v := .ref (a 3)) (C := RK) (T := TK) (N := 4) hx hb hts inK hown hK hP 0 rfl rfl 2 (by decide) (hts _ wfK_26) (fun _ h9 => h9) rfl dK_find_95 ?_
        refine lv_iload_n hx hb dK_find_98 rfl (lv_at hl 4 rfl) ?_
        refine lv_iload_n hx hb dK_find_99 rfl (lv_at hl 7 rfl) ?_
        refine lv_iload hx hb dK_find_100 (lv_at hl 1 rfl) ?_
        refine lv_aload_n hx hb dK_find_102 rfl (lv_at hl 5 rfl) ?_
        refine lv_iload hx hb dK_find_103 (lv_at hl 1 rfl) ?_
        refine lv_iload_n hx hb dK_find_105 rfl (lv_at hl 7 rfl) ?_
        refine va_calli (va_runV (As := [.int r76, .int y]) (rest := [.int r76, .int y, .int (nI (sk_sh b o)), .ref (a 3)]) ⟨hx, hb, hml, hown, hts⟩ (kK_ownPlace l dC dI a k b t f wt r76 y hT hO (by rw [w76, e69]; exact sk_nw_v hlt9)) (cwV 2 hts (sk_gV wmK_108 wiK_ownPlace wsK_ownPlace wnK wcK_ownPlace) rfl rfl rfl (by decide +kernel) ⟨Nat.le_of_ble_eq_true rfl, Nat.le_of_ble_eq_true rfl⟩) ⟨sk_blind _, va_recv hK hP (ci := 3) (q0 := 0) rfl rfl, fun U hU hW => ⟨rfl, sk_at (S := (b, t, f)) (wt := wt) hP hK hN hU hW⟩⟩ rfl rfl hl.1 rfl (lv_room (Nat.le_of_ble_eq_true rfl)) dK_find_106 ⟨Nat.le_of_ble_eq_true rfl, Nat.le_of_ble_eq_true rfl⟩) hS (fun _ _ h => h.elim) (fun _ h => h.elim) (fun r106 u106 U9 H locs ht hvm w106 hB hz hk hS => ?_)
        have hP : va_P (dC, dI) vwCl (sk_wR a k (nI b.1) b.2.1 b.2.2.1 b.2.2.2.1 b.2.2.2.2 (nI t.1) t.2.1 t.2.2.1 t.2.2.2.1 t.2.2.2.2 (nI f.1) (nI (sk_there f)) (nI (f.1 % 100)) f.2.1 f.2.2.1 f.2.2.2.1 f.2.2.2.2.1 (fun i => lN (sk_nb (f.2.2.2.2.2.1 i))) (fun i => sk_bI (f.2.2.2.2.2.2 i)) wt) H := hP.kept (fun j q hq => hk q.1 ((hP j q hq).lt) (fun h => h))
        clear hk hB ht
        refine lv_lload hx hb dK_find_109 (lv_at hl 0 rfl) ?_
        refine va_calli (va_runVN (As := [.int (nI (sk_sh b o)), .int y, .int r76, .int r106, .long (lN (sk_nb (sk_upto (sk_own b t y) (sk_abv b.2.1 (b.2.1 o)))))]) (rest := []) ⟨hx, hb, hml, hown, hts⟩ (kF_add l dC dI a k b t f wt A (nI (sk_sh b o)) y r76 r106 (sk_upto (sk_own b t y) (sk_abv b.2.1 (b.2.1 o))) (by omega)) ⟨va_cnB 5 hts (sk_gC wcF_add) rfl rfl rfl (nlmK_116 hN) (hts _ wnF) (by decide +kernel) ⟨Nat.le_of_ble_eq_true rfl, Nat.le_of_ble_eq_true rfl⟩, hts _ wiF_add, hts _ wsF_add⟩ ⟨sk_blindD _, va_recv hK hP (ci := 0) (q0 := 3) rfl rfl, fun U hU hW => ⟨rfl, sk_at (S := (b, t, f)) (wt := wt) hP hK hN hU hW, hD⟩⟩ rfl rfl hl.1 rfl (lv_room (Nat.le_of_ble_eq_true rfl)) dK_find_111 ⟨Nat.le_of_ble_eq_true rfl, Nat.le_of_ble_eq_true rfl⟩) hS (fun _ _ h => h) (fun _ h => h) (fun r111 u111 U9 H locs ht hvm w111 hB hz hk hS => ?_)
        obtain ⟨hP, hD⟩ := hB
        rw [ht] at hP
        obtain ⟨rfl, rfl⟩ := w111
        have hP : va_P (dC, dI) vwCl (sk_wR a k (nI b.1) b.2.1 b.2.2.1 b.2.2.2.1 b.2.2.2.2 (nI t.1) t.2.1 t.2.2.1 t.2.2.2.1 t.2.2.2.2 (nI (sk_add f (nI (sk_sh b o)) y r76 r106 (sk_upto (sk_own b t y) (sk_abv b.2.1 (b.2.1 o)))).1) (nI (sk_there (sk_add f (nI (sk_sh b o)) y r76 r106 (sk_upto (sk_own b t y) (sk_abv b.2.1 (b.2.1 o)))))) (nI ((sk_add f (nI (sk_sh b o)) y r76 r106 (sk_upto (sk_own b t y) (sk_abv b.2.1 (b.2.1 o)))).1 % 100)) ((sk_add f (nI (sk_sh b o)) y r76 r106 (sk_upto (sk_own b t y) (sk_abv b.2.1 (b.2.1 o)))).2.1) ((sk_add f (nI (sk_sh b o)) y r76 r106 (sk_upto (sk_own b t y) (sk_abv b.2.1 (b.2.1 o)))).2.2.1) ((sk_add f (nI (sk_sh b o)) y r76 r106 (sk_upto (sk_own b t y) (sk_abv b.2.1 (b.2.1 o)))).2.2.2.1) ((sk_add f (nI (sk_sh b o)) y r76 r106 (sk_upto (sk_own b t y) (sk_abv b.2.1 (b.2.1 o)))).2.2.2.2.1) (fun i => lN (sk_nb ((sk_add f (nI (sk_sh b o)) y r76 r106 (sk_upto (sk_own b t y) (sk_abv b.2.1 (b.2.1 o)))).2.2.2.2.2.1 i))) (fun i => sk_bI ((sk_add f (nI (sk_sh b o)) y r76 r106 (sk_upto (sk_own b t y) (sk_abv b.2.1 (b.2.1 o)))).2.2.2.2.2.2 i)) wt) H := hP
        have hD : va_D A (sk_wR a k (nI b.1) b.2.1 b.2.2.1 b.2.2.2.1 b.2.2.2.2 (nI t.1) t.2.1 t.2.2.1 t.2.2.2.1 t.2.2.2.2 (nI (sk_add f (nI (sk_sh b o)) y r76 r106 (sk_upto (sk_own b t y) (sk_abv b.2.1 (b.2.1 o)))).1) (nI (sk_there (sk_add f (nI (sk_sh b o)) y r76 r106 (sk_upto (sk_own b t y) (sk_abv b.2.1 (b.2.1 o)))))) (nI ((sk_add f (nI (sk_sh b o)) y r76 r106 (sk_upto (sk_own b t y) (sk_abv b.2.1 (b.2.1 o)))).1 % 100)) ((sk_add f (nI (sk_sh b o)) y r76 r106 (sk_upto (sk_own b t y) (sk_abv b.2.1 (b.2.1 o)))).2.1) ((sk_add f (nI (sk_sh b o)) y r76 r106 (sk_upto (sk_own b t y) (sk_abv b.2.1 (b.2.1 o)))).2.2.1) ((sk_add f (nI (sk_sh b o)) y r76 r106 (sk_upto (sk_own b t y) (sk_abv b.2.1 (b.2.1 o)))).2.2.2.1) ((sk_add f (nI (sk_sh b o)) y r76 r106 (sk_upto (sk_own b t y) (sk_abv b.2.1 (b.2.1 o)))).2.2.2.2.1) (fun i => lN (sk_nb ((sk_add f (nI (sk_sh b o)) y r76 r106 (sk_upto (sk_own b t y) (sk_abv b.2.1 (b.2.1 o)))).2.2.2.2.2.1 i))) (fun i => sk_bI ((sk_add f (nI (sk_sh b o)) y r76 r106 (sk_upto (sk_own b t y) (sk_abv b.2.1 (b.2.1 o)))).2.2.2.2.2.2 i)) wt) := hD
        have hset := sk_find_y (t := t) (f := f) h60 ho h12
        rw [sk_find_2 hs2 hp (by rw [w76, e69]) w106] at hset
        exact W.iret (v := nI (f.1 % 100)) hx hb hr (fun U9 ht hW => ⟨⟨nI (f.1 % 100), ((b, t, sk_add f (nI (sk_sh b o)) y r76 r106 (sk_upto (sk_own b t y) (sk_abv b.2.1 (b.2.1 o)))), wt), rfl, ⟨by rw [hset], wt, by rw [hset]⟩, sk_endw ht hP hD⟩, hS.F ht⟩) hS.2.2 dK_find_114
      · skip
        obtain rfl : r36 = nI kk := w36.trans hp
        refine lv_istore (lv' := [(4, .int (nI kk)), (3, .int (nI (sk_sh b o))), (0, .ref (a 0)), (1, .int (nI o)), (2, .int y)]) hx hb dK_find_39 hl (by decide) rfl (fun ls hl => ?_)
        refine lv_iload hx hb dK_find_41 (lv_at hl 0 rfl) ?_
        refine lv_iconst (v := (-1)) hx hb dK_find_43 (by decide) ?_
        refine lv_icmp_eq (tgt := 61) hx hb dK_find_44 (by decide) (fun c44 => ?_) (fun c44 => ?_)
        · skip
          exact absurd c44 (sk_nm1 (by omega))
        · skip
          refine lv_aload_n hx hb dK_find_47 rfl (lv_at hl 2 rfl) ?_
          refine va_get (D := (dC, dI)) (ci := 3) (v := .ref (a 3)) (C := RK) (T := TK) (N := 4) hx hb hts inK hown hK hP 0 rfl rfl 2 (by decide) (hts _ wfK_26) (fun _ h9 => h9) rfl dK_find_48 ?_
          refine lv_iload_n hx hb dK_find_51 rfl (lv_at hl 1 rfl) ?_
          refine lv_iload_n hx hb dK_find_52 rfl (lv_at hl 4 rfl) ?_
          refine lv_iconst (v := (-1)) hx hb dK_find_53 (by decide) ?_
          refine lv_iload hx hb dK_find_54 (lv_at hl 0 rfl) ?_
          refine lv_lconst (v := lN 0) hx hb dK_find_56 (by decide) ?_
          refine va_calli (va_runVN (As := [.int (nI (sk_sh b o)), .int y, .int (-1), .int (nI kk), .long (lN 0)]) (rest := []) ⟨hx, hb, hml, hown, hts⟩ (kF_add l dC dI a k b t f wt A (nI (sk_sh b o)) y (-1) (nI kk) [] (by omega)) ⟨va_cnB 5 hts (sk_gC wcF_add) rfl rfl rfl (nlmK_116 hN) (hts _ wnF) (by decide +kernel) ⟨Nat.le_of_ble_eq_true rfl, Nat.le_of_ble_eq_true rfl⟩, hts _ wiF_add, hts _ wsF_add⟩ ⟨sk_blindD _, va_recv hK hP (ci := 0) (q0 := 3) rfl rfl, fun U hU hW => ⟨rfl, sk_at (S := (b, t, f)) (wt := wt) hP hK hN hU hW, hD⟩⟩ rfl rfl hl.1 rfl (lv_room (Nat.le_of_ble_eq_true rfl)) dK_find_57 ⟨Nat.le_of_ble_eq_true rfl, Nat.le_of_ble_eq_true rfl⟩) hS (fun _ _ h => h) (fun _ h => h) (fun r57 u57 U9 H locs ht hvm w57 hB hz hk hS => ?_)
          obtain ⟨hP, hD⟩ := hB
          rw [ht] at hP
          obtain ⟨rfl, rfl⟩ := w57
          have hP : va_P (dC, dI) vwCl (sk_wR a k (nI b.1) b.2.1 b.2.2.1 b.2.2.2.1 b.2.2.2.2 (nI t.1) t.2.1 t.2.2.1 t.2.2.2.1 t.2.2.2.2 (nI (sk_add f (nI (sk_sh b o)) y (-1) (nI kk) []).1) (nI (sk_there (sk_add f (nI (sk_sh b o)) y (-1) (nI kk) []))) (nI ((sk_add f (nI (sk_sh b o)) y (-1) (nI kk) []).1 % 100)) ((sk_add f (nI (sk_sh b o)) y (-1) (nI kk) []).2.1) ((sk_add f (nI (sk_sh b o)) y (-1) (nI kk) []).2.2.1) ((sk_add f (nI (sk_sh b o)) y (-1) (nI kk) []).2.2.2.1) ((sk_add f (nI (sk_sh b o)) y (-1) (nI kk) []).2.2.2.2.1) (fun i => lN (sk_nb ((sk_add f (nI (sk_sh b o)) y (-1) (nI kk) []).2.2.2.2.2.1 i))) (fun i => sk_bI ((sk_add f (nI (sk_sh b o)) y (-1) (nI kk) []).2.2.2.2.2.2 i)) wt) H := hP
          have hD : va_D A (sk_wR a k (nI b.1) b.2.1 b.2.2.1 b.2.2.2.1 b.2.2.2.2 (nI t.1) t.2.1 t.2.2.1 t.2.2.2.1 t.2.2.2.2 (nI (sk_add f (nI (sk_sh b o)) y (-1) (nI kk) []).1) (nI (sk_there (sk_add f (nI (sk_sh b o)) y (-1) (nI kk) []))) (nI ((sk_add f (nI (sk_sh b o)) y (-1) (nI kk) []).1 % 100)) ((sk_add f (nI (sk_sh b o)) y (-1) (nI kk) []).2.1) ((sk_add f (nI (sk_sh b o)) y (-1) (nI kk) []).2.2.1) ((sk_add f (nI (sk_sh b o)) y (-1) (nI kk) []).2.2.2.1) ((sk_add f (nI (sk_sh b o)) y (-1) (nI kk) []).2.2.2.2.1) (fun i => lN (sk_nb ((sk_add f (nI (sk_sh b o)) y (-1) (nI kk) []).2.2.2.2.2.1 i))) (fun i => sk_bI ((sk_add f (nI (sk_sh b o)) y (-1) (nI kk) []).2.2.2.2.2.2 i)) wt) := hD
          have hset := sk_find_y (t := t) (f := f) h60 ho h12
          rw [sk_find_1 hk2 hs2 hp] at hset
          exact W.iret (v := nI (f.1 % 100)) hx hb hr (fun U9 ht hW => ⟨⟨nI (f.1 % 100), ((b, t, sk_add f (nI (sk_sh b o)) y (-1) (nI kk) []), wt), rfl, ⟨by rw [hset], wt, by rw [hset]⟩, sk_endw ht hP hD⟩, hS.F ht⟩) hS.2.2 dK_find_60
    · skip
      obtain rfl : r12 = nI 0 := w12.trans hv
      refine lv_if_ne (tgt := 20) hx hb dK_find_15 (by decide) (fun q => absurd q (by decide)) (fun _ => ?_)
      refine lv_iconst (v := (-1)) hx hb dK_find_18 (by decide) ?_
      exact W.iret (v := (-1)) hx hb hr (fun U9 ht hW => ⟨⟨(-1), ((b, t, f), wt), rfl, ⟨by rw [sk_find_n (by show (sk_hasB b.1 _ && sk_isN y) = false; rw [h12, Bool.and_false])], wt, by rw [sk_find_n (by show (sk_hasB b.1 _ && sk_isN y) = false; rw [h12, Bool.and_false])]⟩, sk_endw ht hP hD⟩, hS.F ht⟩) hS.2.2 dK_find_19
  · skip
    obtain rfl : r5 = nI 0 := w5.trans hv
    refine lv_if_eq (tgt := 18) hx hb dK_find_8 (by decide) (fun _ => ?_) (fun q => absurd (by decide) q)
    refine lv_iconst (v := (-1)) hx hb dK_find_18 (by decide) ?_
    exact W.iret (v := (-1)) hx hb hr (fun U9 ht hW => ⟨⟨(-1), ((b, t, f), wt), rfl, ⟨by rw [sk_find_n (by show (sk_hasB b.1 _ && sk_isN y) = false; rw [h5, Bool.false_and])], wt, by rw [sk_find_n (by show (sk_hasB b.1 _ && sk_isN y) = false; rw [h5, Bool.false_and])]⟩, sk_endw ht hP hD⟩, hS.F ht⟩) hS.2.2 dK_find_19
abbrev wzK_holds : List Cond := .code yK_holds cK_holds 3 (some .boolean) :: sk_W
abbrev rzK_holds : Room := { frames := 1, cells := 0, slots := 0, locals := 21 }
set_option maxHeartbeats 4000000 in
set_option maxRecDepth 100000 in
theorem kK_holds (l : Launch) (dC : Nat → ClassId) (dI : Nat → Nat → Nat) (a : Nat → Nat) (k : Nat → ClassId) (b : sk_Ob) (t : sk_Tr) (f : sk_Fi) (wt : sk_F) (x y : Int32) (K : Nat) (hOK : sk_OK K (b, t, f)) : Met l yK_holds wzK_holds rzK_holds (va_Pc [.ref (a 0), .int x, .int y] (sk_PX dC dI a k (b, t, f) wt)) (va_Qi (fun r (_ : Unit) => r = sk_bI (sk_holds (b, t, f) x y)) (fun _ _ => True) (fun _ => False)) 0 0 (fun _ => False) := by
  refine Met.ofW (cc := cK_holds) (maxL := 3) (ret := (some .boolean)) (by decide) rfl ?_
  intro p e s m args below meth c s₁ B hml hv
  obtain ⟨rfl, hP, hK, hN⟩ := hv
  have hx := B.exec
  have hb := B.bytes
  have hr := B.returns
  have hts : ∀ w ∈ sk_W, w.before ([.ref (a 0), .int x, .int y] : List Value).toArray s = true := fun w h => atoms_spec (ws := wzK_holds) B.pre w (List.mem_cons_of_mem _ h)
  have hown : s.vm.findClass RK = some m.cls := findClass_of_methodNamed B.named
  have hlocks := B.notSynchronized
  have hS : va_S (fun _ => False) s.heap s.heap [] := va_S.rf
  have hP : va_P (dC, dI) vwCl (sk_wR a k (nI b.1) b.2.1 b.2.2.1 b.2.2.2.1 b.2.2.2.2 (nI t.1) t.2.1 t.2.2.1 t.2.2.2.1 t.2.2.2.2 (nI f.1) (nI (sk_there f)) (nI (f.1 % 100)) f.2.1 f.2.2.1 f.2.2.2.1 f.2.2.2.2.1 (fun i => lN (sk_nb (f.2.2.2.2.2.1 i))) (fun i => sk_bI (f.2.2.2.2.2.2 i)) wt) s.heap := hP
  have hl := lv_entry ([.ref (a 0), .int x, .int y]) (n := 3) (Nat.le_of_ble_eq_true rfl)
  rw [lg_entry_eq]
  generalize (lg_sl ([.ref (a 0), .int x, .int y]) ++ List.replicate (3 - (lg_sl ([.ref (a 0), .int x, .int y])).length) Slot.unset).toArray = ls at hl ⊢
  have hl : lv_has ls 3 [(0, .ref (a 0)), (1, .int x), (2, .int y)] := hl
  have hT : sk_TO b.1 t := hOK.1
  have hA : sk_AC b.1 b.2.1 := hOK.2.1
  have hO : sk_OO b t := hOK.2.2.1
  have hmk : f.1 ≤ K := hOK.2.2.2.2.2.2.1
  have hK5 : K ≤ 512 := hOK.2.2.2.2.2.1
  have h200 : t.1 ≤ 200 := hT.2.1
  have h60 : b.1 ≤ 60 := hT.2.2.1
  have hfl : ∀ i, i < sk_there f → ∀ x ∈ f.2.2.2.2.2.1 i, x < 60 := fun i hi x hx => Nat.lt_of_lt_of_le ((hOK.2.2.2.2.2.2.2 i hi).2.2.2 x hx) h60
  have h100 : sk_there f ≤ 100 := Nat.min_le_right _ _
  refine lv_aload_n hx hb dK_holds_0 rfl (lv_at hl 0 rfl) ?_
  refine va_get (D := (dC, dI)) (ci := 3) (v := .ref (a 3)) (C := RK) (T := TK) (N := 4) hx hb hts inK hown hK hP 0 rfl rfl 2 (by decide) (hts _ wfK_26) (fun _ h9 => h9) rfl dK_holds_1 ?_
  refine lv_iload_n hx hb dK_holds_4 rfl (lv_at hl 1 rfl) ?_
  refine va_calli (va_runVN (As := [.int x]) (rest := []) ⟨hx, hb, hml, hown, hts⟩ (kF_has l dC dI a k b t f wt x) ⟨va_cnB 1 hts (sk_gC wcF_has) rfl rfl rfl (nlmK_123 hN) (hts _ wnF) (by decide +kernel) ⟨Nat.le_of_ble_eq_true rfl, Nat.le_of_ble_eq_true rfl⟩, hts _ wiF_has, hts _ wsF_has⟩ ⟨sk_blind _, va_recv hK hP (ci := 0) (q0 := 3) rfl rfl, fun U hU hW => ⟨rfl, sk_at (S := (b, t, f)) (wt := wt) hP hK hN hU hW⟩⟩ rfl rfl hl.1 rfl (lv_room (Nat.le_of_ble_eq_true rfl)) dK_holds_5 ⟨Nat.le_of_ble_eq_true rfl, Nat.le_of_ble_eq_true rfl⟩) hS (fun _ _ h => h.elim) (fun _ h => h.elim) (fun r5 u5 U9 H locs ht hvm w5 hB hz hk hS => ?_)
  have hP : va_P (dC, dI) vwCl (sk_wR a k (nI b.1) b.2.1 b.2.2.1 b.2.2.2.1 b.2.2.2.2 (nI t.1) t.2.1 t.2.2.1 t.2.2.2.1 t.2.2.2.2 (nI f.1) (nI (sk_there f)) (nI (f.1 % 100)) f.2.1 f.2.2.1 f.2.2.2.1 f.2.2.2.2.1 (fun i => lN (sk_nb (f.2.2.2.2.2.1 i))) (fun i => sk_bI (f.2.2.2.2.2.2 i)) wt) H := hP.kept (fun j q hq => hk q.1 ((hP j q hq).lt) (fun h => h))
  clear hk hB ht
  rcases sk_bI_or (sk_hasB (sk_there f) x) with ⟨h5, hv⟩ | ⟨h5, hv⟩
  · skip
    obtain rfl : r5 = nI 1 := w5.trans hv
    obtain ⟨fi, hfi, efi9⟩ := (sk_hasB_iff (by omega)).mp h5
    subst efi9
    refine lv_if_eq (tgt := 59) hx hb dK_holds_8 (by decide) (fun q => absurd q (by decide)) (fun _ => ?_)
    refine lv_aload_n hx hb dK_holds_11 rfl (lv_at hl 0 rfl) ?_
    refine va_get (D := (dC, dI)) (ci := 3) (v := .ref (a 1)) (C := RK) (T := TK) (N := 4) hx hb hts inK hown hK hP 0 rfl rfl 0 (by decide) (hts _ wfK_10) (fun _ h9 => h9) rfl dK_holds_12 ?_
    refine lv_iload_n hx hb dK_holds_15 rfl (lv_at hl 2 rfl) ?_
    refine va_calli (va_runVN (As := [.int y]) (rest := []) ⟨hx, hb, hml, hown, hts⟩ (kO_has l dC dI a k b t f wt y) ⟨va_cnB 1 hts (sk_gC wcO_has) rfl rfl rfl (nlmK_64 hN) (hts _ wnO) (by decide +kernel) ⟨Nat.le_of_ble_eq_true rfl, Nat.le_of_ble_eq_true rfl⟩, hts _ wiO_has, hts _ wsO_has⟩ ⟨sk_blind _, va_recv hK hP (ci := 1) (q0 := 1) rfl rfl, fun U hU hW => ⟨rfl, sk_at (S := (b, t, f)) (wt := wt) hP hK hN hU hW⟩⟩ rfl rfl hl.1 rfl (lv_room (Nat.le_of_ble_eq_true rfl)) dK_holds_16 ⟨Nat.le_of_ble_eq_true rfl, Nat.le_of_ble_eq_true rfl⟩) hS (fun _ _ h => h.elim) (fun _ h => h.elim) (fun r16 u16 U9 H locs ht hvm w16 hB hz hk hS => ?_)
    have hP : va_P (dC, dI) vwCl (sk_wR a k (nI b.1) b.2.1 b.2.2.1 b.2.2.2.1 b.2.2.2.2 (nI t.1) t.2.1 t.2.2.1 t.2.2.2.1 t.2.2.2.2 (nI f.1) (nI (sk_there f)) (nI (f.1 % 100)) f.2.1 f.2.2.1 f.2.2.2.1 f.2.2.2.2.1 (fun i => lN (sk_nb (f.2.2.2.2.2.1 i))) (fun i => sk_bI (f.2.2.2.2.2.2 i)) wt) H := hP.kept (fun j q hq => hk q.1 ((hP j q hq).lt) (fun h => h))
    clear hk hB ht
    rcases sk_bI_or (sk_hasB b.1 y) with ⟨h16, hv⟩ | ⟨h16, hv⟩
    · skip
      obtain rfl : r16 = nI 1 := w16.trans hv
      obtain ⟨o, ho, eo9⟩ := (sk_hasB_iff (by omega)).mp h16
      subst eo9
      refine lv_if_eq (tgt := 59) hx hb dK_holds_19 (by decide) (fun q => absurd q (by decide)) (fun _ => ?_)
      refine lv_aload_n hx hb dK_holds_22 rfl (lv_at hl 0 rfl) ?_
      refine va_get (D := (dC, dI)) (ci := 3) (v := .ref (a 3)) (C := RK) (T := TK) (N := 4) hx hb hts inK hown hK hP 0 rfl rfl 2 (by decide) (hts _ wfK_26) (fun _ h9 => h9) rfl dK_holds_23 ?_
      refine va_getN (D := (dC, dI)) (ci := 0) (v := .ref (a 18)) (C := RF) (T := TF) (N := 9) hx hb hts inF hown hK hP 3 rfl rfl 5 (by decide) (va_Nw.use rfl (nlfK_124 hN)) (fun _ h9 => h9) rfl dK_holds_26 ?_
      refine lv_iload_n hx hb dK_holds_29 rfl (lv_at hl 1 rfl) ?_
      refine va_zald hx hb hK hP 18 1 rfl rfl (vp_in_nI (show fi < 100 by omega) (by decide)) dK_holds_30 ?_
      refine lv_topi (fun x30 e30 => ?_)
      rw [nI_clamp (show fi < 2 ^ 31 by omega)] at e30
      rcases sk_bI_or (f.2.2.2.2.2.2 fi) with ⟨h30, hv⟩ | ⟨h30, hv⟩
      · skip
        obtain rfl : x30 = nI 1 := e30.trans hv
        refine lv_if_eq (tgt := 59) hx hb dK_holds_31 (by decide) (fun q => absurd q (by decide)) (fun _ => ?_)
        refine lv_aload_n hx hb dK_holds_34 rfl (lv_at hl 0 rfl) ?_
        refine va_get (D := (dC, dI)) (ci := 3) (v := .ref (a 3)) (C := RK) (T := TK) (N := 4) hx hb hts inK hown hK hP 0 rfl rfl 2 (by decide) (hts _ wfK_26) (fun _ h9 => h9) rfl dK_holds_35 ?_
        refine va_getN (D := (dC, dI)) (ci := 0) (v := .ref (a 13)) (C := RF) (T := TF) (N := 9) hx hb hts inF hown hK hP 3 rfl rfl 0 (by decide) (va_Nw.use rfl (nlfK_128 hN)) (fun _ h9 => h9) rfl dK_holds_38 ?_
        refine lv_iload_n hx hb dK_holds_41 rfl (lv_at hl 1 rfl) ?_
        refine va_iald hx hb hK hP 13 0 rfl rfl (vp_in_nI (show fi < 100 by omega) (by decide)) dK_holds_42 ?_
        refine lv_topi (fun x42 e42 => ?_)
        rw [nI_clamp (show fi < 2 ^ 31 by omega)] at e42
        refine lv_aload_n hx hb dK_holds_43 rfl (lv_at hl 0 rfl) ?_
        refine va_get (D := (dC, dI)) (ci := 3) (v := .ref (a 1)) (C := RK) (T := TK) (N := 4) hx hb hts inK hown hK hP 0 rfl rfl 0 (by decide) (hts _ wfK_10) (fun _ h9 => h9) rfl dK_holds_44 ?_
        refine va_getN (D := (dC, dI)) (ci := 1) (v := .ref (a 6)) (C := RO) (T := TO) (N := 5) hx hb hts inO hown hK hP 1 rfl rfl 1 (by decide) (va_Nw.use rfl (nlfK_70 hN)) (fun _ h9 => h9) rfl dK_holds_47 ?_
        refine lv_iload_n hx hb dK_holds_50 rfl (lv_at hl 2 rfl) ?_
        refine va_iald hx hb hK hP 6 0 rfl rfl (vp_in_nI (show o < 60 by omega) (by decide)) dK_holds_51 ?_
        refine lv_topi (fun x51 e51 => ?_)
        rw [nI_clamp (show o < 2 ^ 31 by omega)] at e51
        refine lv_icmp_ne (tgt := 59) hx hb dK_holds_52 (by decide) (fun c52 => ?_) (fun c52 => ?_)
        · skip
          refine lv_iconst (v := nI 0) hx hb dK_holds_59 (by decide) ?_
          exact W.zret (v := nI 0) hx hb hr (by decide) (fun U9 ht hW => ⟨⟨nI 0, (), rfl, sk_hold_f4 (by omega) (by omega) (fun q => c52 (by rw [e42, e51]; exact q)), trivial⟩, hS.F ht⟩) hS.2.2 dK_holds_60
        · skip
          refine lv_iconst (v := nI 1) hx hb dK_holds_55 (by decide) ?_
          refine lv_goto (tgt := 60) hx hb dK_holds_56 (by decide) ?_
          exact W.zret (v := nI 1) hx hb hr (by decide) (fun U9 ht hW => ⟨⟨nI 1, (), rfl, sk_hold_t (by omega) (by omega) h5 h16 h30 (by rw [← e42, ← e51]; exact c52), trivial⟩, hS.F ht⟩) hS.2.2 dK_holds_60
      · skip
        obtain rfl : x30 = nI 0 := e30.trans hv
        refine lv_if_eq (tgt := 59) hx hb dK_holds_31 (by decide) (fun _ => ?_) (fun q => absurd (by decide) q)
        refine lv_iconst (v := nI 0) hx hb dK_holds_59 (by decide) ?_
        exact W.zret (v := nI 0) hx hb hr (by decide) (fun U9 ht hW => ⟨⟨nI 0, (), rfl, sk_hold_f3 (by omega) h30, trivial⟩, hS.F ht⟩) hS.2.2 dK_holds_60
    · skip
      obtain rfl : r16 = nI 0 := w16.trans hv
      refine lv_if_eq (tgt := 59) hx hb dK_holds_19 (by decide) (fun _ => ?_) (fun q => absurd (by decide) q)
      refine lv_iconst (v := nI 0) hx hb dK_holds_59 (by decide) ?_
      exact W.zret (v := nI 0) hx hb hr (by decide) (fun U9 ht hW => ⟨⟨nI 0, (), rfl, sk_hold_f2 h16, trivial⟩, hS.F ht⟩) hS.2.2 dK_holds_60
  · skip
    obtain rfl : r5 = nI 0 := w5.trans hv
    refine lv_if_eq (tgt := 59) hx hb dK_holds_8 (by decide) (fun _ => ?_) (fun q => absurd (by decide) q)
    refine lv_iconst (v := nI 0) hx hb dK_holds_59 (by decide) ?_
    exact W.zret (v := nI 0) hx hb hr (by decide) (fun U9 ht hW => ⟨⟨nI 0, (), rfl, sk_hold_f1 h5, trivial⟩, hS.F ht⟩) hS.2.2 dK_holds_60
abbrev wzK_finding : List Cond := .code yK_finding cK_finding 3 (some .int) :: sk_W
abbrev rzK_finding : Room := { frames := 1, cells := 0, slots := 0, locals := 21 }
set_option maxHeartbeats 4000000 in
set_option maxRecDepth 100000 in
theorem kK_finding (l : Launch) (dC : Nat → ClassId) (dI : Nat → Nat → Nat) (a : Nat → Nat) (k : Nat → ClassId) (b : sk_Ob) (t : sk_Tr) (f : sk_Fi) (wt : sk_F) (x y : Int32) (K : Nat) (hOK : sk_OK K (b, t, f)) : Met l yK_finding wzK_finding rzK_finding (va_Pc [.ref (a 0), .int x, .int y] (sk_PX dC dI a k (b, t, f) wt)) (va_Qi (fun r (_ : Unit) => r = sk_finding (b, t, f) x y) (fun _ _ => True) (fun _ => False)) 0 0 (fun _ => False) := by
  refine Met.ofW (cc := cK_finding) (maxL := 3) (ret := (some .int)) (by decide) rfl ?_
  intro p e s m args below meth c s₁ B hml hv
  obtain ⟨rfl, hP, hK, hN⟩ := hv
  have hx := B.exec
  have hb := B.bytes
  have hr := B.returns
  have hts : ∀ w ∈ sk_W, w.before ([.ref (a 0), .int x, .int y] : List Value).toArray s = true := fun w h => atoms_spec (ws := wzK_finding) B.pre w (List.mem_cons_of_mem _ h)
  have hown : s.vm.findClass RK = some m.cls := findClass_of_methodNamed B.named
  have hlocks := B.notSynchronized
  have hS : va_S (fun _ => False) s.heap s.heap [] := va_S.rf
  have hP : va_P (dC, dI) vwCl (sk_wR a k (nI b.1) b.2.1 b.2.2.1 b.2.2.2.1 b.2.2.2.2 (nI t.1) t.2.1 t.2.2.1 t.2.2.2.1 t.2.2.2.2 (nI f.1) (nI (sk_there f)) (nI (f.1 % 100)) f.2.1 f.2.2.1 f.2.2.2.1 f.2.2.2.2.1 (fun i => lN (sk_nb (f.2.2.2.2.2.1 i))) (fun i => sk_bI (f.2.2.2.2.2.2 i)) wt) s.heap := hP
  have hl := lv_entry ([.ref (a 0), .int x, .int y]) (n := 3) (Nat.le_of_ble_eq_true rfl)
  rw [lg_entry_eq]
  generalize (lg_sl ([.ref (a 0), .int x, .int y]) ++ List.replicate (3 - (lg_sl ([.ref (a 0), .int x, .int y])).length) Slot.unset).toArray = ls at hl ⊢
  have hl : lv_has ls 3 [(0, .ref (a 0)), (1, .int x), (2, .int y)] := hl
  have hT : sk_TO b.1 t := hOK.1
  have hA : sk_AC b.1 b.2.1 := hOK.2.1
  have hO : sk_OO b t := hOK.2.2.1
  have hmk : f.1 ≤ K := hOK.2.2.2.2.2.2.1
  have hK5 : K ≤ 512 := hOK.2.2.2.2.2.1
  have h200 : t.1 ≤ 200 := hT.2.1
  have h60 : b.1 ≤ 60 := hT.2.2.1
  have hfl : ∀ i, i < sk_there f → ∀ x ∈ f.2.2.2.2.2.1 i, x < 60 := fun i hi x hx => Nat.lt_of_lt_of_le ((hOK.2.2.2.2.2.2.2 i hi).2.2.2 x hx) h60
  have h100 : sk_there f ≤ 100 := Nat.min_le_right _ _
  refine lv_aload_n hx hb dK_finding_0 rfl (lv_at hl 0 rfl) ?_
  refine va_get (D := (dC, dI)) (ci := 3) (v := .ref (a 3)) (C := RK) (T := TK) (N := 4) hx hb hts inK hown hK hP 0 rfl rfl 2 (by decide) (hts _ wfK_26) (fun _ h9 => h9) rfl dK_finding_1 ?_
  refine lv_iload_n hx hb dK_finding_4 rfl (lv_at hl 1 rfl) ?_
  refine va_calli (va_runVN (As := [.int x]) (rest := []) ⟨hx, hb, hml, hown, hts⟩ (kF_has l dC dI a k b t f wt x) ⟨va_cnB 1 hts (sk_gC wcF_has) rfl rfl rfl (nlmK_123 hN) (hts _ wnF) (by decide +kernel) ⟨Nat.le_of_ble_eq_true rfl, Nat.le_of_ble_eq_true rfl⟩, hts _ wiF_has, hts _ wsF_has⟩ ⟨sk_blind _, va_recv hK hP (ci := 0) (q0 := 3) rfl rfl, fun U hU hW => ⟨rfl, sk_at (S := (b, t, f)) (wt := wt) hP hK hN hU hW⟩⟩ rfl rfl hl.1 rfl (lv_room (Nat.le_of_ble_eq_true rfl)) dK_finding_5 ⟨Nat.le_of_ble_eq_true rfl, Nat.le_of_ble_eq_true rfl⟩) hS (fun _ _ h => h.elim) (fun _ h => h.elim) (fun r5 u5 U9 H locs ht hvm w5 hB hz hk hS => ?_)
  have hP : va_P (dC, dI) vwCl (sk_wR a k (nI b.1) b.2.1 b.2.2.1 b.2.2.2.1 b.2.2.2.2 (nI t.1) t.2.1 t.2.2.1 t.2.2.2.1 t.2.2.2.2 (nI f.1) (nI (sk_there f)) (nI (f.1 % 100)) f.2.1 f.2.2.1 f.2.2.2.1 f.2.2.2.2.1 (fun i => lN (sk_nb (f.2.2.2.2.2.1 i))) (fun i => sk_bI (f.2.2.2.2.2.2 i)) wt) H := hP.kept (fun j q hq => hk q.1 ((hP j q hq).lt) (fun h => h))
  clear hk hB ht
  rcases sk_bI_or (sk_hasB (sk_there f) x) with ⟨h5, hv⟩ | ⟨h5, hv⟩
  · skip
    obtain rfl : r5 = nI 1 := w5.trans hv
    obtain ⟨fi, hfi, efi9⟩ := (sk_hasB_iff (by omega)).mp h5
    subst efi9
    refine lv_if_ne (tgt := 13) hx hb dK_finding_8 (by decide) (fun _ => ?_) (fun q => absurd q (by decide))
    refine lv_iload_n hx hb dK_finding_13 rfl (lv_at hl 2 rfl) ?_
    rcases sk_sw5 y with rfl | rfl | rfl | rfl | rfl | rfl | hsw
    · skip
      refine lv_tableIn (off := 38) (tgt := 52) hx hb dK_finding_14 (by decide) (by decide) (by decide +kernel) (by decide) ?_
      refine lv_aload_n hx hb dK_finding_52 rfl (lv_at hl 0 rfl) ?_
      refine va_get (D := (dC, dI)) (ci := 3) (v := .ref (a 3)) (C := RK) (T := TK) (N := 4) hx hb hts inK hown hK hP 0 rfl rfl 2 (by decide) (hts _ wfK_26) (fun _ h9 => h9) rfl dK_finding_53 ?_
      refine va_getN (D := (dC, dI)) (ci := 0) (v := .ref (a 13)) (C := RF) (T := TF) (N := 9) hx hb hts inF hown hK hP 3 rfl rfl 0 (by decide) (va_Nw.use rfl (nlfK_128 hN)) (fun _ h9 => h9) rfl dK_finding_56 ?_
      refine lv_iload_n hx hb dK_finding_59 rfl (lv_at hl 1 rfl) ?_
      refine va_iald hx hb hK hP 13 0 rfl rfl (vp_in_nI (show fi < 100 by omega) (by decide)) dK_finding_60 ?_
      refine lv_topi (fun x60 e60 => ?_)
      rw [nI_clamp (show fi < 2 ^ 31 by omega)] at e60
      exact W.iret (v := x60) hx hb hr (fun U9 ht hW => ⟨⟨x60, (), rfl, by unfold sk_finding; rw [if_pos h5, nI_clamp (by omega), if_pos (by decide)]; exact e60, trivial⟩, hS.F ht⟩) hS.2.2 dK_finding_61
    · skip
      refine lv_tableIn (off := 48) (tgt := 62) hx hb dK_finding_14 (by decide) (by decide) (by decide +kernel) (by decide) ?_
      refine lv_aload_n hx hb dK_finding_62 rfl (lv_at hl 0 rfl) ?_
      refine va_get (D := (dC, dI)) (ci := 3) (v := .ref (a 3)) (C := RK) (T := TK) (N := 4) hx hb hts inK hown hK hP 0 rfl rfl 2 (by decide) (hts _ wfK_26) (fun _ h9 => h9) rfl dK_finding_63 ?_
      refine va_getN (D := (dC, dI)) (ci := 0) (v := .ref (a 14)) (C := RF) (T := TF) (N := 9) hx hb hts inF hown hK hP 3 rfl rfl 1 (by decide) (va_Nw.use rfl (nlfK_163 hN)) (fun _ h9 => h9) rfl dK_finding_66 ?_
      refine lv_iload_n hx hb dK_finding_69 rfl (lv_at hl 1 rfl) ?_
      refine va_iald hx hb hK hP 14 0 rfl rfl (vp_in_nI (show fi < 100 by omega) (by decide)) dK_finding_70 ?_
      refine lv_topi (fun x70 e70 => ?_)
      rw [nI_clamp (show fi < 2 ^ 31 by omega)] at e70
      exact W.iret (v := x70) hx hb hr (fun U9 ht hW => ⟨⟨x70, (), rfl, by unfold sk_finding; rw [if_pos h5, nI_clamp (by omega), if_neg (by decide), if_pos (by decide)]; exact e70, trivial⟩, hS.F ht⟩) hS.2.2 dK_finding_71
    · skip
      refine lv_tableIn (off := 58) (tgt := 72) hx hb dK_finding_14 (by decide) (by decide) (by decide +kernel) (by decide) ?_
      refine lv_aload_n hx hb dK_finding_72 rfl (lv_at hl 0 rfl) ?_
      refine va_get (D := (dC, dI)) (ci := 3) (v := .ref (a 3)) (C := RK) (T := TK) (N := 4) hx hb hts inK hown hK hP 0 rfl rfl 2 (by decide) (hts _ wfK_26) (fun _ h9 => h9) rfl dK_finding_73 ?_
      refine lv_iload_n hx hb dK_finding_76 rfl (lv_at hl 1 rfl) ?_
      refine va_calli (va_runVN (As := [.int (nI fi)]) (rest := []) ⟨hx, hb, hml, hown, hts⟩ (kF_whereOf l dC dI a k b t f wt fi (by omega)) ⟨va_cnB 1 hts (sk_gC wcF_whereOf) rfl rfl rfl (nlmK_166 hN) (hts _ wnF) (by decide +kernel) ⟨Nat.le_of_ble_eq_true rfl, Nat.le_of_ble_eq_true rfl⟩, hts _ wiF_whereOf, hts _ wsF_whereOf⟩ ⟨sk_blind _, va_recv hK hP (ci := 0) (q0 := 3) rfl rfl, fun U hU hW => ⟨rfl, sk_at (S := (b, t, f)) (wt := wt) hP hK hN hU hW⟩⟩ rfl rfl hl.1 rfl (lv_room (Nat.le_of_ble_eq_true rfl)) dK_finding_77 ⟨Nat.le_of_ble_eq_true rfl, Nat.le_of_ble_eq_true rfl⟩) hS (fun _ _ h => h.elim) (fun _ h => h.elim) (fun r77 u77 U9 H locs ht hvm w77 hB hz hk hS => ?_)
      have hP : va_P (dC, dI) vwCl (sk_wR a k (nI b.1) b.2.1 b.2.2.1 b.2.2.2.1 b.2.2.2.2 (nI t.1) t.2.1 t.2.2.1 t.2.2.2.1 t.2.2.2.2 (nI f.1) (nI (sk_there f)) (nI (f.1 % 100)) f.2.1 f.2.2.1 f.2.2.2.1 f.2.2.2.2.1 (fun i => lN (sk_nb (f.2.2.2.2.2.1 i))) (fun i => sk_bI (f.2.2.2.2.2.2 i)) wt) H := hP.kept (fun j q hq => hk q.1 ((hP j q hq).lt) (fun h => h))
      clear hk hB ht
      exact W.iret (v := r77) hx hb hr (fun U9 ht hW => ⟨⟨r77, (), rfl, by unfold sk_finding; rw [if_pos h5, nI_clamp (by omega), if_neg (by decide), if_neg (by decide), if_pos (by decide)]; exact w77, trivial⟩, hS.F ht⟩) hS.2.2 dK_finding_80
    · skip
      refine lv_tableIn (off := 67) (tgt := 81) hx hb dK_finding_14 (by decide) (by decide) (by decide +kernel) (by decide) ?_
      refine lv_aload_n hx hb dK_finding_81 rfl (lv_at hl 0 rfl) ?_
      refine va_get (D := (dC, dI)) (ci := 3) (v := .ref (a 3)) (C := RK) (T := TK) (N := 4) hx hb hts inK hown hK hP 0 rfl rfl 2 (by decide) (hts _ wfK_26) (fun _ h9 => h9) rfl dK_finding_82 ?_
      refine va_getN (D := (dC, dI)) (ci := 0) (v := .ref (a 15)) (C := RF) (T := TF) (N := 9) hx hb hts inF hown hK hP 3 rfl rfl 2 (by decide) (va_Nw.use rfl (nlfK_139 hN)) (fun _ h9 => h9) rfl dK_finding_85 ?_
      refine lv_iload_n hx hb dK_finding_88 rfl (lv_at hl 1 rfl) ?_
      refine va_iald hx hb hK hP 15 0 rfl rfl (vp_in_nI (show fi < 100 by omega) (by decide)) dK_finding_89 ?_
      refine lv_topi (fun x89 e89 => ?_)
      rw [nI_clamp (show fi < 2 ^ 31 by omega)] at e89
      exact W.iret (v := x89) hx hb hr (fun U9 ht hW => ⟨⟨x89, (), rfl, by unfold sk_finding; rw [if_pos h5, nI_clamp (by omega), if_neg (by decide), if_neg (by decide), if_neg (by decide), if_pos (by decide)]; exact e89, trivial⟩, hS.F ht⟩) hS.2.2 dK_finding_90
    · skip
      refine lv_tableIn (off := 77) (tgt := 91) hx hb dK_finding_14 (by decide) (by decide) (by decide +kernel) (by decide) ?_
      refine lv_aload_n hx hb dK_finding_91 rfl (lv_at hl 0 rfl) ?_
      refine va_get (D := (dC, dI)) (ci := 3) (v := .ref (a 3)) (C := RK) (T := TK) (N := 4) hx hb hts inK hown hK hP 0 rfl rfl 2 (by decide) (hts _ wfK_26) (fun _ h9 => h9) rfl dK_finding_92 ?_
      refine va_getN (D := (dC, dI)) (ci := 0) (v := .ref (a 16)) (C := RF) (T := TF) (N := 9) hx hb hts inF hown hK hP 3 rfl rfl 3 (by decide) (va_Nw.use rfl (nlfK_136 hN)) (fun _ h9 => h9) rfl dK_finding_95 ?_
      refine lv_iload_n hx hb dK_finding_98 rfl (lv_at hl 1 rfl) ?_
      refine va_iald hx hb hK hP 16 0 rfl rfl (vp_in_nI (show fi < 100 by omega) (by decide)) dK_finding_99 ?_
      refine lv_topi (fun x99 e99 => ?_)
      rw [nI_clamp (show fi < 2 ^ 31 by omega)] at e99
      exact W.iret (v := x99) hx hb hr (fun U9 ht hW => ⟨⟨x99, (), rfl, by unfold sk_finding; rw [if_pos h5, nI_clamp (by omega), if_neg (by decide), if_neg (by decide), if_neg (by decide), if_neg (by decide), if_pos (by decide)]; exact e99, trivial⟩, hS.F ht⟩) hS.2.2 dK_finding_100
    · skip
      refine lv_tableIn (off := 87) (tgt := 101) hx hb dK_finding_14 (by decide) (by decide) (by decide +kernel) (by decide) ?_
      refine lv_aload_n hx hb dK_finding_101 rfl (lv_at hl 0 rfl) ?_
      refine va_get (D := (dC, dI)) (ci := 3) (v := .ref (a 3)) (C := RK) (T := TK) (N := 4) hx hb hts inK hown hK hP 0 rfl rfl 2 (by decide) (hts _ wfK_26) (fun _ h9 => h9) rfl dK_finding_102 ?_
      refine va_getN (D := (dC, dI)) (ci := 0) (v := .ref (a 18)) (C := RF) (T := TF) (N := 9) hx hb hts inF hown hK hP 3 rfl rfl 5 (by decide) (va_Nw.use rfl (nlfK_124 hN)) (fun _ h9 => h9) rfl dK_finding_105 ?_
      refine lv_iload_n hx hb dK_finding_108 rfl (lv_at hl 1 rfl) ?_
      refine va_zald hx hb hK hP 18 1 rfl rfl (vp_in_nI (show fi < 100 by omega) (by decide)) dK_finding_109 ?_
      refine lv_topi (fun x109 e109 => ?_)
      rw [nI_clamp (show fi < 2 ^ 31 by omega)] at e109
      rcases sk_bI_or (f.2.2.2.2.2.2 fi) with ⟨h109, hv⟩ | ⟨h109, hv⟩
      · skip
        obtain rfl : x109 = nI 1 := e109.trans hv
        refine lv_if_eq (tgt := 117) hx hb dK_finding_110 (by decide) (fun q => absurd q (by decide)) (fun _ => ?_)
        refine lv_iconst (v := nI 1) hx hb dK_finding_113 (by decide) ?_
        refine lv_goto (tgt := 118) hx hb dK_finding_114 (by decide) ?_
        exact W.iret (v := nI 1) hx hb hr (fun U9 ht hW => ⟨⟨nI 1, (), rfl, by unfold sk_finding; rw [if_pos h5, nI_clamp (by omega), if_neg (by decide), if_neg (by decide), if_neg (by decide), if_neg (by decide), if_neg (by decide), if_pos (by decide)]; show _ = sk_bI (f.2.2.2.2.2.2 fi); rw [h109]; rfl, trivial⟩, hS.F ht⟩) hS.2.2 dK_finding_118
      · skip
        obtain rfl : x109 = nI 0 := e109.trans hv
        refine lv_if_eq (tgt := 117) hx hb dK_finding_110 (by decide) (fun _ => ?_) (fun q => absurd (by decide) q)
        refine lv_iconst (v := nI 0) hx hb dK_finding_117 (by decide) ?_
        exact W.iret (v := nI 0) hx hb hr (fun U9 ht hW => ⟨⟨nI 0, (), rfl, by unfold sk_finding; rw [if_pos h5, nI_clamp (by omega), if_neg (by decide), if_neg (by decide), if_neg (by decide), if_neg (by decide), if_neg (by decide), if_pos (by decide)]; show _ = sk_bI (f.2.2.2.2.2.2 fi); rw [h109]; rfl, trivial⟩, hS.F ht⟩) hS.2.2 dK_finding_118
    · skip
      refine lv_tableOut (tgt := 119) hx hb dK_finding_14 hsw (by decide) ?_
      refine lv_iconst (v := (-1)) hx hb dK_finding_119 (by decide) ?_
      exact W.iret (v := (-1)) hx hb hr (fun U9 ht hW => ⟨⟨(-1), (), rfl, by obtain ⟨z0, z1, z2, z3, z4, z5⟩ := sk_ne_of5 hsw; unfold sk_finding; rw [if_pos h5, if_neg z0, if_neg z1, if_neg z2, if_neg z3, if_neg z4, if_neg z5], trivial⟩, hS.F ht⟩) hS.2.2 dK_finding_120
  · skip
    obtain rfl : r5 = nI 0 := w5.trans hv
    refine lv_if_ne (tgt := 13) hx hb dK_finding_8 (by decide) (fun q => absurd q (by decide)) (fun _ => ?_)
    refine lv_iconst (v := (-1)) hx hb dK_finding_11 (by decide) ?_
    exact W.iret (v := (-1)) hx hb hr (fun U9 ht hW => ⟨⟨(-1), (), rfl, (sk_finding_n (S := (b, t, f)) h5).symm, trivial⟩, hS.F ht⟩) hS.2.2 dK_finding_12
abbrev wzK_count : List Cond := .code yK_count cK_count 2 (some .int) :: sk_W
abbrev rzK_count : Room := { frames := 1, cells := 0, slots := 0, locals := 22 }
set_option maxHeartbeats 4000000 in
set_option maxRecDepth 100000 in
theorem kK_count (l : Launch) (dC : Nat → ClassId) (dI : Nat → Nat → Nat) (a : Nat → Nat) (k : Nat → ClassId) (b : sk_Ob) (t : sk_Tr) (f : sk_Fi) (wt : sk_F) (y : Int32) (K : Nat) (hOK : sk_OK K (b, t, f)) : Met l yK_count wzK_count rzK_count (va_Pc [.ref (a 0), .int y] (sk_PX dC dI a k (b, t, f) wt)) (va_Qi (fun r (_ : Unit) => r = sk_count (b, t, f) y) (fun _ _ => True) (fun _ => False)) 0 0 (fun _ => False) := by
  refine Met.ofW (cc := cK_count) (maxL := 2) (ret := (some .int)) (by decide) rfl ?_
  intro p e s m args below meth c s₁ B hml hv
  obtain ⟨rfl, hP, hK, hN⟩ := hv
  have hx := B.exec
  have hb := B.bytes
  have hr := B.returns
  have hts : ∀ w ∈ sk_W, w.before ([.ref (a 0), .int y] : List Value).toArray s = true := fun w h => atoms_spec (ws := wzK_count) B.pre w (List.mem_cons_of_mem _ h)
  have hown : s.vm.findClass RK = some m.cls := findClass_of_methodNamed B.named
  have hlocks := B.notSynchronized
  have hS : va_S (fun _ => False) s.heap s.heap [] := va_S.rf
  have hP : va_P (dC, dI) vwCl (sk_wR a k (nI b.1) b.2.1 b.2.2.1 b.2.2.2.1 b.2.2.2.2 (nI t.1) t.2.1 t.2.2.1 t.2.2.2.1 t.2.2.2.2 (nI f.1) (nI (sk_there f)) (nI (f.1 % 100)) f.2.1 f.2.2.1 f.2.2.2.1 f.2.2.2.2.1 (fun i => lN (sk_nb (f.2.2.2.2.2.1 i))) (fun i => sk_bI (f.2.2.2.2.2.2 i)) wt) s.heap := hP
  have hl := lv_entry ([.ref (a 0), .int y]) (n := 2) (Nat.le_of_ble_eq_true rfl)
  rw [lg_entry_eq]
  generalize (lg_sl ([.ref (a 0), .int y]) ++ List.replicate (2 - (lg_sl ([.ref (a 0), .int y])).length) Slot.unset).toArray = ls at hl ⊢
  have hl : lv_has ls 2 [(0, .ref (a 0)), (1, .int y)] := hl
  have hT : sk_TO b.1 t := hOK.1
  have hA : sk_AC b.1 b.2.1 := hOK.2.1
  have hO : sk_OO b t := hOK.2.2.1
  have hmk : f.1 ≤ K := hOK.2.2.2.2.2.2.1
  have hK5 : K ≤ 512 := hOK.2.2.2.2.2.1
  have h200 : t.1 ≤ 200 := hT.2.1
  have h60 : b.1 ≤ 60 := hT.2.2.1
  have hfl : ∀ i, i < sk_there f → ∀ x ∈ f.2.2.2.2.2.1 i, x < 60 := fun i hi x hx => Nat.lt_of_lt_of_le ((hOK.2.2.2.2.2.2.2 i hi).2.2.2 x hx) h60
  refine lv_iload_n hx hb dK_count_0 rfl (lv_at hl 1 rfl) ?_
  rcases sk_sw3 y with rfl | rfl | rfl | rfl | hsw
  · skip
    refine lv_tableIn (off := 31) (tgt := 32) hx hb dK_count_1 (by decide) (by decide) (by decide +kernel) (by decide) ?_
    refine lv_aload_n hx hb dK_count_32 rfl (lv_at hl 0 rfl) ?_
    refine va_get (D := (dC, dI)) (ci := 3) (v := .ref (a 1)) (C := RK) (T := TK) (N := 4) hx hb hts inK hown hK hP 0 rfl rfl 0 (by decide) (hts _ wfK_10) (fun _ h9 => h9) rfl dK_count_33 ?_
    refine va_getN (D := (dC, dI)) (ci := 1) (v := .int (nI b.1)) (C := RO) (T := TO) (N := 5) hx hb hts inO hown hK hP 1 rfl rfl 4 (by decide) (va_Nw.use rfl (nlfK_45 hN)) (fun _ h9 => h9) rfl dK_count_36 ?_
    exact W.iret (v := nI b.1) hx hb hr (fun U9 ht hW => ⟨⟨nI b.1, (), rfl, by unfold sk_count; rw [if_pos (by decide)], trivial⟩, hS.F ht⟩) hS.2.2 dK_count_39
  · skip
    refine lv_tableIn (off := 39) (tgt := 40) hx hb dK_count_1 (by decide) (by decide) (by decide +kernel) (by decide) ?_
    refine lv_aload_n hx hb dK_count_40 rfl (lv_at hl 0 rfl) ?_
    refine va_get (D := (dC, dI)) (ci := 3) (v := .ref (a 2)) (C := RK) (T := TK) (N := 4) hx hb hts inK hown hK hP 0 rfl rfl 1 (by decide) (hts _ wfK_19) (fun _ h9 => h9) rfl dK_count_41 ?_
    refine va_getN (D := (dC, dI)) (ci := 2) (v := .int (nI t.1)) (C := RT) (T := TT) (N := 5) hx hb hts inT hown hK hP 2 rfl rfl 4 (by decide) (va_Nw.use rfl (nlfK_169 hN)) (fun _ h9 => h9) rfl dK_count_44 ?_
    exact W.iret (v := nI t.1) hx hb hr (fun U9 ht hW => ⟨⟨nI t.1, (), rfl, by unfold sk_count; rw [if_neg (by decide), if_pos (by decide)], trivial⟩, hS.F ht⟩) hS.2.2 dK_count_47
  · skip
    refine lv_tableIn (off := 47) (tgt := 48) hx hb dK_count_1 (by decide) (by decide) (by decide +kernel) (by decide) ?_
    refine lv_aload_n hx hb dK_count_48 rfl (lv_at hl 0 rfl) ?_
    refine va_get (D := (dC, dI)) (ci := 3) (v := .ref (a 3)) (C := RK) (T := TK) (N := 4) hx hb hts inK hown hK hP 0 rfl rfl 2 (by decide) (hts _ wfK_26) (fun _ h9 => h9) rfl dK_count_49 ?_
    refine va_getN (D := (dC, dI)) (ci := 0) (v := .int (nI f.1)) (C := RF) (T := TF) (N := 9) hx hb hts inF hown hK hP 3 rfl rfl 6 (by decide) (va_Nw.use rfl (nlfK_170 hN)) (fun _ h9 => h9) rfl dK_count_52 ?_
    exact W.iret (v := nI f.1) hx hb hr (fun U9 ht hW => ⟨⟨nI f.1, (), rfl, by unfold sk_count; rw [if_neg (by decide), if_neg (by decide), if_pos (by decide)], trivial⟩, hS.F ht⟩) hS.2.2 dK_count_55
  · skip
    refine lv_tableIn (off := 55) (tgt := 56) hx hb dK_count_1 (by decide) (by decide) (by decide +kernel) (by decide) ?_
    refine lv_aload_n hx hb dK_count_56 rfl (lv_at hl 0 rfl) ?_
    refine va_get (D := (dC, dI)) (ci := 3) (v := .ref (a 3)) (C := RK) (T := TK) (N := 4) hx hb hts inK hown hK hP 0 rfl rfl 2 (by decide) (hts _ wfK_26) (fun _ h9 => h9) rfl dK_count_57 ?_
    refine va_calli (va_runVN (As := []) (rest := []) ⟨hx, hb, hml, hown, hts⟩ (kF_countHolding l dC dI a k b t f wt ) ⟨va_cnB 0 hts (sk_gC wcF_countHolding) rfl rfl rfl (nlmK_173 hN) (hts _ wnF) (by decide +kernel) ⟨Nat.le_of_ble_eq_true rfl, Nat.le_of_ble_eq_true rfl⟩, hts _ wiF_countHolding, hts _ wsF_countHolding⟩ ⟨sk_blind _, va_recv hK hP (ci := 0) (q0 := 3) rfl rfl, fun U hU hW => ⟨rfl, sk_at (S := (b, t, f)) (wt := wt) hP hK hN hU hW⟩⟩ rfl rfl hl.1 rfl (lv_room (Nat.le_of_ble_eq_true rfl)) dK_count_60 ⟨Nat.le_of_ble_eq_true rfl, Nat.le_of_ble_eq_true rfl⟩) hS (fun _ _ h => h.elim) (fun _ h => h.elim) (fun r60 u60 U9 H locs ht hvm w60 hB hz hk hS => ?_)
    have hP : va_P (dC, dI) vwCl (sk_wR a k (nI b.1) b.2.1 b.2.2.1 b.2.2.2.1 b.2.2.2.2 (nI t.1) t.2.1 t.2.2.1 t.2.2.2.1 t.2.2.2.2 (nI f.1) (nI (sk_there f)) (nI (f.1 % 100)) f.2.1 f.2.2.1 f.2.2.2.1 f.2.2.2.2.1 (fun i => lN (sk_nb (f.2.2.2.2.2.1 i))) (fun i => sk_bI (f.2.2.2.2.2.2 i)) wt) H := hP.kept (fun j q hq => hk q.1 ((hP j q hq).lt) (fun h => h))
    clear hk hB ht
    exact W.iret (v := r60) hx hb hr (fun U9 ht hW => ⟨⟨r60, (), rfl, by unfold sk_count; rw [if_neg (by decide), if_neg (by decide), if_neg (by decide), if_pos (by decide)]; exact w60, trivial⟩, hS.F ht⟩) hS.2.2 dK_count_63
  · skip
    refine lv_tableOut (tgt := 64) hx hb dK_count_1 hsw (by decide) ?_
    refine lv_iconst (v := (-1)) hx hb dK_count_64 (by decide) ?_
    exact W.iret (v := (-1)) hx hb hr (fun U9 ht hW => ⟨⟨(-1), (), rfl, by obtain ⟨z0, z1, z2, z3⟩ := sk_ne_of3 hsw; unfold sk_count; rw [if_neg z0, if_neg z1, if_neg z2, if_neg z3], trivial⟩, hS.F ht⟩) hS.2.2 dK_count_65
abbrev wzK_look : List Cond := .code yK_look cK_look 3 (some .int) :: sk_W
abbrev rzK_look : Room := { frames := 2, cells := 0, slots := 0, locals := 47 }
set_option maxHeartbeats 4000000 in
set_option maxRecDepth 100000 in
theorem kK_look (l : Launch) (dC : Nat → ClassId) (dI : Nat → Nat → Nat) (a : Nat → Nat) (k : Nat → ClassId) (b : sk_Ob) (t : sk_Tr) (f : sk_Fi) (wt : sk_F) (x y : Int32) (K : Nat) (hOK : sk_OK K (b, t, f)) : Met l yK_look wzK_look rzK_look (va_Pc [.ref (a 0), .int x, .int y] (sk_PX dC dI a k (b, t, f) wt)) (va_Qi (fun r (_ : Unit) => r = sk_look (b, t, f) x y) (fun _ _ => True) (fun _ => False)) 0 0 (fun _ => False) := by
  refine Met.ofW (cc := cK_look) (maxL := 3) (ret := (some .int)) (by decide) rfl ?_
  intro p e s m args below meth c s₁ B hml hv
  obtain ⟨rfl, hP, hK, hN⟩ := hv
  have hx := B.exec
  have hb := B.bytes
  have hr := B.returns
  have hts : ∀ w ∈ sk_W, w.before ([.ref (a 0), .int x, .int y] : List Value).toArray s = true := fun w h => atoms_spec (ws := wzK_look) B.pre w (List.mem_cons_of_mem _ h)
  have hown : s.vm.findClass RK = some m.cls := findClass_of_methodNamed B.named
  have hlocks := B.notSynchronized
  have hS : va_S (fun _ => False) s.heap s.heap [] := va_S.rf
  have hP : va_P (dC, dI) vwCl (sk_wR a k (nI b.1) b.2.1 b.2.2.1 b.2.2.2.1 b.2.2.2.2 (nI t.1) t.2.1 t.2.2.1 t.2.2.2.1 t.2.2.2.2 (nI f.1) (nI (sk_there f)) (nI (f.1 % 100)) f.2.1 f.2.2.1 f.2.2.2.1 f.2.2.2.2.1 (fun i => lN (sk_nb (f.2.2.2.2.2.1 i))) (fun i => sk_bI (f.2.2.2.2.2.2 i)) wt) s.heap := hP
  have hl := lv_entry ([.ref (a 0), .int x, .int y]) (n := 3) (Nat.le_of_ble_eq_true rfl)
  rw [lg_entry_eq]
  generalize (lg_sl ([.ref (a 0), .int x, .int y]) ++ List.replicate (3 - (lg_sl ([.ref (a 0), .int x, .int y])).length) Slot.unset).toArray = ls at hl ⊢
  have hl : lv_has ls 3 [(0, .ref (a 0)), (1, .int x), (2, .int y)] := hl
  have hT : sk_TO b.1 t := hOK.1
  have hA : sk_AC b.1 b.2.1 := hOK.2.1
  have hO : sk_OO b t := hOK.2.2.1
  have hmk : f.1 ≤ K := hOK.2.2.2.2.2.2.1
  have hK5 : K ≤ 512 := hOK.2.2.2.2.2.1
  have h200 : t.1 ≤ 200 := hT.2.1
  have h60 : b.1 ≤ 60 := hT.2.2.1
  have hfl : ∀ i, i < sk_there f → ∀ x ∈ f.2.2.2.2.2.1 i, x < 60 := fun i hi x hx => Nat.lt_of_lt_of_le ((hOK.2.2.2.2.2.2.2 i hi).2.2.2 x hx) h60
  refine lv_aload_n hx hb dK_look_0 rfl (lv_at hl 0 rfl) ?_
  refine va_get (D := (dC, dI)) (ci := 3) (v := .ref (a 1)) (C := RK) (T := TK) (N := 4) hx hb hts inK hown hK hP 0 rfl rfl 0 (by decide) (hts _ wfK_10) (fun _ h9 => h9) rfl dK_look_1 ?_
  refine lv_iload_n hx hb dK_look_4 rfl (lv_at hl 1 rfl) ?_
  refine va_calli (va_runVN (As := [.int x]) (rest := []) ⟨hx, hb, hml, hown, hts⟩ (kO_has l dC dI a k b t f wt x) ⟨va_cnB 1 hts (sk_gC wcO_has) rfl rfl rfl (nlmK_64 hN) (hts _ wnO) (by decide +kernel) ⟨Nat.le_of_ble_eq_true rfl, Nat.le_of_ble_eq_true rfl⟩, hts _ wiO_has, hts _ wsO_has⟩ ⟨sk_blind _, va_recv hK hP (ci := 1) (q0 := 1) rfl rfl, fun U hU hW => ⟨rfl, sk_at (S := (b, t, f)) (wt := wt) hP hK hN hU hW⟩⟩ rfl rfl hl.1 rfl (lv_room (Nat.le_of_ble_eq_true rfl)) dK_look_5 ⟨Nat.le_of_ble_eq_true rfl, Nat.le_of_ble_eq_true rfl⟩) hS (fun _ _ h => h.elim) (fun _ h => h.elim) (fun r5 u5 U9 H locs ht hvm w5 hB hz hk hS => ?_)
  have hP : va_P (dC, dI) vwCl (sk_wR a k (nI b.1) b.2.1 b.2.2.1 b.2.2.2.1 b.2.2.2.2 (nI t.1) t.2.1 t.2.2.1 t.2.2.2.1 t.2.2.2.2 (nI f.1) (nI (sk_there f)) (nI (f.1 % 100)) f.2.1 f.2.2.1 f.2.2.2.1 f.2.2.2.2.1 (fun i => lN (sk_nb (f.2.2.2.2.2.1 i))) (fun i => sk_bI (f.2.2.2.2.2.2 i)) wt) H := hP.kept (fun j q hq => hk q.1 ((hP j q hq).lt) (fun h => h))
  clear hk hB ht
  rcases sk_bI_or (sk_hasB b.1 x) with ⟨h5, hv⟩ | ⟨h5, hv⟩
  · skip
    obtain rfl : r5 = nI 1 := w5.trans hv
    obtain ⟨o, ho, eo9⟩ := (sk_hasB_iff (by omega)).mp h5
    subst eo9
    obtain ⟨hs1, hs2, hs3⟩ := sk_shOk h200 hO ho
    refine lv_if_ne (tgt := 13) hx hb dK_look_8 (by decide) (fun _ => ?_) (fun q => absurd q (by decide))
    refine lv_iload_n hx hb dK_look_13 rfl (lv_at hl 2 rfl) ?_
    rcases sk_sw5 y with rfl | rfl | rfl | rfl | rfl | rfl | hsw
    · skip
      refine lv_tableIn (off := 38) (tgt := 52) hx hb dK_look_14 (by decide) (by decide) (by decide +kernel) (by decide) ?_
      refine lv_aload_n hx hb dK_look_52 rfl (lv_at hl 0 rfl) ?_
      refine va_get (D := (dC, dI)) (ci := 3) (v := .ref (a 1)) (C := RK) (T := TK) (N := 4) hx hb hts inK hown hK hP 0 rfl rfl 0 (by decide) (hts _ wfK_10) (fun _ h9 => h9) rfl dK_look_53 ?_
      refine va_getN (D := (dC, dI)) (ci := 1) (v := .ref (a 6)) (C := RO) (T := TO) (N := 5) hx hb hts inO hown hK hP 1 rfl rfl 1 (by decide) (va_Nw.use rfl (nlfK_70 hN)) (fun _ h9 => h9) rfl dK_look_56 ?_
      refine lv_iload_n hx hb dK_look_59 rfl (lv_at hl 1 rfl) ?_
      refine va_iald hx hb hK hP 6 0 rfl rfl (vp_in_nI (show o < 60 by omega) (by decide)) dK_look_60 ?_
      refine lv_topi (fun x60 e60 => ?_)
      rw [nI_clamp (show o < 2 ^ 31 by omega)] at e60
      obtain rfl : x60 = nI (sk_sh b o) := e60.trans (hs2)
      exact W.iret (v := nI (sk_sh b o)) hx hb hr (fun U9 ht hW => ⟨⟨nI (sk_sh b o), (), rfl, by rw [sk_look_y h60 ho]; unfold sk_lookN; rw [if_pos (by decide)]; exact hs2.symm, trivial⟩, hS.F ht⟩) hS.2.2 dK_look_61
    · skip
      refine lv_tableIn (off := 48) (tgt := 62) hx hb dK_look_14 (by decide) (by decide) (by decide +kernel) (by decide) ?_
      refine lv_aload_n hx hb dK_look_62 rfl (lv_at hl 0 rfl) ?_
      refine va_get (D := (dC, dI)) (ci := 3) (v := .ref (a 1)) (C := RK) (T := TK) (N := 4) hx hb hts inK hown hK hP 0 rfl rfl 0 (by decide) (hts _ wfK_10) (fun _ h9 => h9) rfl dK_look_63 ?_
      refine va_getN (D := (dC, dI)) (ci := 1) (v := .ref (a 5)) (C := RO) (T := TO) (N := 5) hx hb hts inO hown hK hP 1 rfl rfl 0 (by decide) (va_Nw.use rfl (nlfK_93 hN)) (fun _ h9 => h9) rfl dK_look_66 ?_
      refine lv_iload_n hx hb dK_look_69 rfl (lv_at hl 1 rfl) ?_
      refine va_iald hx hb hK hP 5 0 rfl rfl (vp_in_nI (show o < 60 by omega) (by decide)) dK_look_70 ?_
      refine lv_topi (fun x70 e70 => ?_)
      rw [nI_clamp (show o < 2 ^ 31 by omega)] at e70
      exact W.iret (v := x70) hx hb hr (fun U9 ht hW => ⟨⟨x70, (), rfl, by rw [sk_look_y h60 ho]; unfold sk_lookN; rw [if_neg (by decide), if_pos (by decide)]; exact e70, trivial⟩, hS.F ht⟩) hS.2.2 dK_look_71
    · skip
      refine lv_tableIn (off := 58) (tgt := 72) hx hb dK_look_14 (by decide) (by decide) (by decide +kernel) (by decide) ?_
      refine lv_aload_n hx hb dK_look_72 rfl (lv_at hl 0 rfl) ?_
      refine va_get (D := (dC, dI)) (ci := 3) (v := .ref (a 2)) (C := RK) (T := TK) (N := 4) hx hb hts inK hown hK hP 0 rfl rfl 1 (by decide) (hts _ wfK_19) (fun _ h9 => h9) rfl dK_look_73 ?_
      refine va_getN (D := (dC, dI)) (ci := 2) (v := .ref (a 12)) (C := RT) (T := TT) (N := 5) hx hb hts inT hown hK hP 2 rfl rfl 3 (by decide) (va_Nw.use rfl (nlfK_78 hN)) (fun _ h9 => h9) rfl dK_look_76 ?_
      refine lv_aload_n hx hb dK_look_79 rfl (lv_at hl 0 rfl) ?_
      refine va_get (D := (dC, dI)) (ci := 3) (v := .ref (a 1)) (C := RK) (T := TK) (N := 4) hx hb hts inK hown hK hP 0 rfl rfl 0 (by decide) (hts _ wfK_10) (fun _ h9 => h9) rfl dK_look_80 ?_
      refine va_getN (D := (dC, dI)) (ci := 1) (v := .ref (a 6)) (C := RO) (T := TO) (N := 5) hx hb hts inO hown hK hP 1 rfl rfl 1 (by decide) (va_Nw.use rfl (nlfK_70 hN)) (fun _ h9 => h9) rfl dK_look_83 ?_
      refine lv_iload_n hx hb dK_look_86 rfl (lv_at hl 1 rfl) ?_
      refine va_iald hx hb hK hP 6 0 rfl rfl (vp_in_nI (show o < 60 by omega) (by decide)) dK_look_87 ?_
      refine lv_topi (fun x87 e87 => ?_)
      rw [nI_clamp (show o < 2 ^ 31 by omega)] at e87
      obtain rfl : x87 = nI (sk_sh b o) := e87.trans (hs2)
      refine va_iald hx hb hK hP 12 0 rfl rfl (vp_in_nI (show (sk_sh b o) < 200 by omega) (by decide)) dK_look_88 ?_
      refine lv_topi (fun x88 e88 => ?_)
      rw [nI_clamp (show (sk_sh b o) < 2 ^ 31 by omega)] at e88
      exact W.iret (v := x88) hx hb hr (fun U9 ht hW => ⟨⟨x88, (), rfl, by rw [sk_look_y h60 ho]; unfold sk_lookN; rw [if_neg (by decide), if_neg (by decide), if_pos (by decide)]; exact e88, trivial⟩, hS.F ht⟩) hS.2.2 dK_look_89
    · skip
      refine lv_tableIn (off := 76) (tgt := 90) hx hb dK_look_14 (by decide) (by decide) (by decide +kernel) (by decide) ?_
      refine lv_aload_n hx hb dK_look_90 rfl (lv_at hl 0 rfl) ?_
      refine va_get (D := (dC, dI)) (ci := 3) (v := .ref (a 1)) (C := RK) (T := TK) (N := 4) hx hb hts inK hown hK hP 0 rfl rfl 0 (by decide) (hts _ wfK_10) (fun _ h9 => h9) rfl dK_look_91 ?_
      refine va_getN (D := (dC, dI)) (ci := 1) (v := .ref (a 7)) (C := RO) (T := TO) (N := 5) hx hb hts inO hown hK hP 1 rfl rfl 2 (by decide) (va_Nw.use rfl (nlfK_142 hN)) (fun _ h9 => h9) rfl dK_look_94 ?_
      refine lv_iload_n hx hb dK_look_97 rfl (lv_at hl 1 rfl) ?_
      refine va_iald hx hb hK hP 7 0 rfl rfl (vp_in_nI (show o < 60 by omega) (by decide)) dK_look_98 ?_
      refine lv_topi (fun x98 e98 => ?_)
      rw [nI_clamp (show o < 2 ^ 31 by omega)] at e98
      exact W.iret (v := x98) hx hb hr (fun U9 ht hW => ⟨⟨x98, (), rfl, by rw [sk_look_y h60 ho]; unfold sk_lookN; rw [if_neg (by decide), if_neg (by decide), if_neg (by decide), if_pos (by decide)]; exact e98, trivial⟩, hS.F ht⟩) hS.2.2 dK_look_99
    · skip
      refine lv_tableIn (off := 86) (tgt := 100) hx hb dK_look_14 (by decide) (by decide) (by decide +kernel) (by decide) ?_
      refine lv_aload_n hx hb dK_look_100 rfl (lv_at hl 0 rfl) ?_
      refine va_get (D := (dC, dI)) (ci := 3) (v := .ref (a 1)) (C := RK) (T := TK) (N := 4) hx hb hts inK hown hK hP 0 rfl rfl 0 (by decide) (hts _ wfK_10) (fun _ h9 => h9) rfl dK_look_101 ?_
      refine lv_iload_n hx hb dK_look_104 rfl (lv_at hl 1 rfl) ?_
      refine va_calli (va_runVN (As := [.int (nI o)]) (rest := []) ⟨hx, hb, hml, hown, hts⟩ (kO_countAbove l dC dI a k b t f wt o hA ho) ⟨va_cnB 1 hts (sk_gC wcO_countAbove) rfl rfl rfl (nlmK_145 hN) (hts _ wnO) (by decide +kernel) ⟨Nat.le_of_ble_eq_true rfl, Nat.le_of_ble_eq_true rfl⟩, hts _ wiO_countAbove, hts _ wsO_countAbove⟩ ⟨sk_blind _, va_recv hK hP (ci := 1) (q0 := 1) rfl rfl, fun U hU hW => ⟨rfl, sk_at (S := (b, t, f)) (wt := wt) hP hK hN hU hW⟩⟩ rfl rfl hl.1 rfl (lv_room (Nat.le_of_ble_eq_true rfl)) dK_look_105 ⟨Nat.le_of_ble_eq_true rfl, Nat.le_of_ble_eq_true rfl⟩) hS (fun _ _ h => h.elim) (fun _ h => h.elim) (fun r105 u105 U9 H locs ht hvm w105 hB hz hk hS => ?_)
      have hP : va_P (dC, dI) vwCl (sk_wR a k (nI b.1) b.2.1 b.2.2.1 b.2.2.2.1 b.2.2.2.2 (nI t.1) t.2.1 t.2.2.1 t.2.2.2.1 t.2.2.2.2 (nI f.1) (nI (sk_there f)) (nI (f.1 % 100)) f.2.1 f.2.2.1 f.2.2.2.1 f.2.2.2.2.1 (fun i => lN (sk_nb (f.2.2.2.2.2.1 i))) (fun i => sk_bI (f.2.2.2.2.2.2 i)) wt) H := hP.kept (fun j q hq => hk q.1 ((hP j q hq).lt) (fun h => h))
      clear hk hB ht
      exact W.iret (v := r105) hx hb hr (fun U9 ht hW => ⟨⟨r105, (), rfl, by rw [sk_look_y h60 ho]; unfold sk_lookN; rw [if_neg (by decide), if_neg (by decide), if_neg (by decide), if_neg (by decide), if_pos (by decide)]; exact w105, trivial⟩, hS.F ht⟩) hS.2.2 dK_look_108
    · skip
      refine lv_tableIn (off := 95) (tgt := 109) hx hb dK_look_14 (by decide) (by decide) (by decide +kernel) (by decide) ?_
      refine lv_aload_n hx hb dK_look_109 rfl (lv_at hl 0 rfl) ?_
      refine va_get (D := (dC, dI)) (ci := 3) (v := .ref (a 1)) (C := RK) (T := TK) (N := 4) hx hb hts inK hown hK hP 0 rfl rfl 0 (by decide) (hts _ wfK_10) (fun _ h9 => h9) rfl dK_look_110 ?_
      refine lv_iload_n hx hb dK_look_113 rfl (lv_at hl 1 rfl) ?_
      refine va_calli (va_runVN (As := [.int (nI o)]) (rest := []) ⟨hx, hb, hml, hown, hts⟩ (kO_countBelow l dC dI a k b t f wt o hA ho) ⟨va_cnB 1 hts (sk_gC wcO_countBelow) rfl rfl rfl (nlmK_149 hN) (hts _ wnO) (by decide +kernel) ⟨Nat.le_of_ble_eq_true rfl, Nat.le_of_ble_eq_true rfl⟩, hts _ wiO_countBelow, hts _ wsO_countBelow⟩ ⟨sk_blind _, va_recv hK hP (ci := 1) (q0 := 1) rfl rfl, fun U hU hW => ⟨rfl, sk_at (S := (b, t, f)) (wt := wt) hP hK hN hU hW⟩⟩ rfl rfl hl.1 rfl (lv_room (Nat.le_of_ble_eq_true rfl)) dK_look_114 ⟨Nat.le_of_ble_eq_true rfl, Nat.le_of_ble_eq_true rfl⟩) hS (fun _ _ h => h.elim) (fun _ h => h.elim) (fun r114 u114 U9 H locs ht hvm w114 hB hz hk hS => ?_)
      have hP : va_P (dC, dI) vwCl (sk_wR a k (nI b.1) b.2.1 b.2.2.1 b.2.2.2.1 b.2.2.2.2 (nI t.1) t.2.1 t.2.2.1 t.2.2.2.1 t.2.2.2.2 (nI f.1) (nI (sk_there f)) (nI (f.1 % 100)) f.2.1 f.2.2.1 f.2.2.2.1 f.2.2.2.2.1 (fun i => lN (sk_nb (f.2.2.2.2.2.1 i))) (fun i => sk_bI (f.2.2.2.2.2.2 i)) wt) H := hP.kept (fun j q hq => hk q.1 ((hP j q hq).lt) (fun h => h))
      clear hk hB ht
      exact W.iret (v := r114) hx hb hr (fun U9 ht hW => ⟨⟨r114, (), rfl, by rw [sk_look_y h60 ho]; unfold sk_lookN; rw [if_neg (by decide), if_neg (by decide), if_neg (by decide), if_neg (by decide), if_neg (by decide), if_pos (by decide)]; exact w114, trivial⟩, hS.F ht⟩) hS.2.2 dK_look_117
    · skip
      refine lv_tableOut (tgt := 118) hx hb dK_look_14 hsw (by decide) ?_
      refine lv_iconst (v := (-1)) hx hb dK_look_118 (by decide) ?_
      exact W.iret (v := (-1)) hx hb hr (fun U9 ht hW => ⟨⟨(-1), (), rfl, by rw [sk_look_y h60 ho]; unfold sk_lookN; obtain ⟨z0, z1, z2, z3, z4, z5⟩ := sk_ne_of5 hsw; rw [if_neg z0, if_neg z1, if_neg z2, if_neg z3, if_neg z4, if_neg z5], trivial⟩, hS.F ht⟩) hS.2.2 dK_look_119
  · skip
    obtain rfl : r5 = nI 0 := w5.trans hv
    refine lv_if_ne (tgt := 13) hx hb dK_look_8 (by decide) (fun q => absurd q (by decide)) (fun _ => ?_)
    refine lv_iconst (v := (-1)) hx hb dK_look_11 (by decide) ?_
    exact W.iret (v := (-1)) hx hb hr (fun U9 ht hW => ⟨⟨(-1), (), rfl, (sk_look_n (S := (b, t, f)) h5).symm, trivial⟩, hS.F ht⟩) hS.2.2 dK_look_12
abbrev wzK_shape : List Cond := .code yK_shape cK_shape 3 (some .int) :: sk_W
abbrev rzK_shape : Room := { frames := 1, cells := 0, slots := 0, locals := 25 }
set_option maxHeartbeats 4000000 in
set_option maxRecDepth 100000 in
theorem kK_shape (l : Launch) (dC : Nat → ClassId) (dI : Nat → Nat → Nat) (a : Nat → Nat) (k : Nat → ClassId) (b : sk_Ob) (t : sk_Tr) (f : sk_Fi) (wt : sk_F) (x y : Int32) (K : Nat) (hOK : sk_OK K (b, t, f)) : Met l yK_shape wzK_shape rzK_shape (va_Pc [.ref (a 0), .int x, .int y] (sk_PX dC dI a k (b, t, f) wt)) (va_Qi (fun r (_ : Unit) => r = sk_shape (b, t, f) x y) (fun _ _ => True) (fun _ => False)) 0 0 (fun _ => False) := by
  refine Met.ofW (cc := cK_shape) (maxL := 3) (ret := (some .int)) (by decide) rfl ?_
  intro p e s m args below meth c s₁ B hml hv
  obtain ⟨rfl, hP, hK, hN⟩ := hv
  have hx := B.exec
  have hb := B.bytes
  have hr := B.returns
  have hts : ∀ w ∈ sk_W, w.before ([.ref (a 0), .int x, .int y] : List Value).toArray s = true := fun w h => atoms_spec (ws := wzK_shape) B.pre w (List.mem_cons_of_mem _ h)
  have hown : s.vm.findClass RK = some m.cls := findClass_of_methodNamed B.named
  have hlocks := B.notSynchronized
  have hS : va_S (fun _ => False) s.heap s.heap [] := va_S.rf
  have hP : va_P (dC, dI) vwCl (sk_wR a k (nI b.1) b.2.1 b.2.2.1 b.2.2.2.1 b.2.2.2.2 (nI t.1) t.2.1 t.2.2.1 t.2.2.2.1 t.2.2.2.2 (nI f.1) (nI (sk_there f)) (nI (f.1 % 100)) f.2.1 f.2.2.1 f.2.2.2.1 f.2.2.2.2.1 (fun i => lN (sk_nb (f.2.2.2.2.2.1 i))) (fun i => sk_bI (f.2.2.2.2.2.2 i)) wt) s.heap := hP
  have hl := lv_entry ([.ref (a 0), .int x, .int y]) (n := 3) (Nat.le_of_ble_eq_true rfl)
  rw [lg_entry_eq]
  generalize (lg_sl ([.ref (a 0), .int x, .int y]) ++ List.replicate (3 - (lg_sl ([.ref (a 0), .int x, .int y])).length) Slot.unset).toArray = ls at hl ⊢
  have hl : lv_has ls 3 [(0, .ref (a 0)), (1, .int x), (2, .int y)] := hl
  have hT : sk_TO b.1 t := hOK.1
  have hA : sk_AC b.1 b.2.1 := hOK.2.1
  have hO : sk_OO b t := hOK.2.2.1
  have hmk : f.1 ≤ K := hOK.2.2.2.2.2.2.1
  have hK5 : K ≤ 512 := hOK.2.2.2.2.2.1
  have h200 : t.1 ≤ 200 := hT.2.1
  have h60 : b.1 ≤ 60 := hT.2.2.1
  have hfl : ∀ i, i < sk_there f → ∀ x ∈ f.2.2.2.2.2.1 i, x < 60 := fun i hi x hx => Nat.lt_of_lt_of_le ((hOK.2.2.2.2.2.2.2 i hi).2.2.2 x hx) h60
  refine lv_aload_n hx hb dK_shape_0 rfl (lv_at hl 0 rfl) ?_
  refine va_get (D := (dC, dI)) (ci := 3) (v := .ref (a 2)) (C := RK) (T := TK) (N := 4) hx hb hts inK hown hK hP 0 rfl rfl 1 (by decide) (hts _ wfK_19) (fun _ h9 => h9) rfl dK_shape_1 ?_
  refine lv_iload_n hx hb dK_shape_4 rfl (lv_at hl 1 rfl) ?_
  refine va_calli (va_runVN (As := [.int x]) (rest := []) ⟨hx, hb, hml, hown, hts⟩ (kT_has l dC dI a k b t f wt x) ⟨va_cnB 1 hts (sk_gC wcT_has) rfl rfl rfl (nlmK_152 hN) (hts _ wnT) (by decide +kernel) ⟨Nat.le_of_ble_eq_true rfl, Nat.le_of_ble_eq_true rfl⟩, hts _ wiT_has, hts _ wsT_has⟩ ⟨sk_blind _, va_recv hK hP (ci := 2) (q0 := 2) rfl rfl, fun U hU hW => ⟨rfl, sk_at (S := (b, t, f)) (wt := wt) hP hK hN hU hW⟩⟩ rfl rfl hl.1 rfl (lv_room (Nat.le_of_ble_eq_true rfl)) dK_shape_5 ⟨Nat.le_of_ble_eq_true rfl, Nat.le_of_ble_eq_true rfl⟩) hS (fun _ _ h => h.elim) (fun _ h => h.elim) (fun r5 u5 U9 H locs ht hvm w5 hB hz hk hS => ?_)
  have hP : va_P (dC, dI) vwCl (sk_wR a k (nI b.1) b.2.1 b.2.2.1 b.2.2.2.1 b.2.2.2.2 (nI t.1) t.2.1 t.2.2.1 t.2.2.2.1 t.2.2.2.2 (nI f.1) (nI (sk_there f)) (nI (f.1 % 100)) f.2.1 f.2.2.1 f.2.2.2.1 f.2.2.2.2.1 (fun i => lN (sk_nb (f.2.2.2.2.2.1 i))) (fun i => sk_bI (f.2.2.2.2.2.2 i)) wt) H := hP.kept (fun j q hq => hk q.1 ((hP j q hq).lt) (fun h => h))
  clear hk hB ht
  rcases sk_bI_or (sk_hasB t.1 x) with ⟨h5, hv⟩ | ⟨h5, hv⟩
  · skip
    obtain rfl : r5 = nI 1 := w5.trans hv
    obtain ⟨o, ho, eo9⟩ := (sk_hasB_iff (by omega)).mp h5
    subst eo9
    refine lv_if_ne (tgt := 13) hx hb dK_shape_8 (by decide) (fun _ => ?_) (fun q => absurd q (by decide))
    refine lv_iload_n hx hb dK_shape_13 rfl (lv_at hl 2 rfl) ?_
    rcases sk_sw3 y with rfl | rfl | rfl | rfl | hsw
    · skip
      refine lv_tableIn (off := 30) (tgt := 44) hx hb dK_shape_14 (by decide) (by decide) (by decide +kernel) (by decide) ?_
      refine lv_aload_n hx hb dK_shape_44 rfl (lv_at hl 0 rfl) ?_
      refine va_get (D := (dC, dI)) (ci := 3) (v := .ref (a 2)) (C := RK) (T := TK) (N := 4) hx hb hts inK hown hK hP 0 rfl rfl 1 (by decide) (hts _ wfK_19) (fun _ h9 => h9) rfl dK_shape_45 ?_
      refine va_getN (D := (dC, dI)) (ci := 2) (v := .ref (a 9)) (C := RT) (T := TT) (N := 5) hx hb hts inT hown hK hP 2 rfl rfl 0 (by decide) (va_Nw.use rfl (nlfK_153 hN)) (fun _ h9 => h9) rfl dK_shape_48 ?_
      refine lv_iload_n hx hb dK_shape_51 rfl (lv_at hl 1 rfl) ?_
      refine va_iald hx hb hK hP 9 0 rfl rfl (vp_in_nI (show o < 200 by omega) (by decide)) dK_shape_52 ?_
      refine lv_topi (fun x52 e52 => ?_)
      rw [nI_clamp (show o < 2 ^ 31 by omega)] at e52
      exact W.iret (v := x52) hx hb hr (fun U9 ht hW => ⟨⟨x52, (), rfl, by rw [sk_shape_y h200 ho]; unfold sk_shapeN; rw [if_pos (by decide)]; exact e52, trivial⟩, hS.F ht⟩) hS.2.2 dK_shape_53
    · skip
      refine lv_tableIn (off := 40) (tgt := 54) hx hb dK_shape_14 (by decide) (by decide) (by decide +kernel) (by decide) ?_
      refine lv_aload_n hx hb dK_shape_54 rfl (lv_at hl 0 rfl) ?_
      refine va_get (D := (dC, dI)) (ci := 3) (v := .ref (a 2)) (C := RK) (T := TK) (N := 4) hx hb hts inK hown hK hP 0 rfl rfl 1 (by decide) (hts _ wfK_19) (fun _ h9 => h9) rfl dK_shape_55 ?_
      refine va_getN (D := (dC, dI)) (ci := 2) (v := .ref (a 12)) (C := RT) (T := TT) (N := 5) hx hb hts inT hown hK hP 2 rfl rfl 3 (by decide) (va_Nw.use rfl (nlfK_78 hN)) (fun _ h9 => h9) rfl dK_shape_58 ?_
      refine lv_iload_n hx hb dK_shape_61 rfl (lv_at hl 1 rfl) ?_
      refine va_iald hx hb hK hP 12 0 rfl rfl (vp_in_nI (show o < 200 by omega) (by decide)) dK_shape_62 ?_
      refine lv_topi (fun x62 e62 => ?_)
      rw [nI_clamp (show o < 2 ^ 31 by omega)] at e62
      exact W.iret (v := x62) hx hb hr (fun U9 ht hW => ⟨⟨x62, (), rfl, by rw [sk_shape_y h200 ho]; unfold sk_shapeN; rw [if_neg (by decide), if_pos (by decide)]; exact e62, trivial⟩, hS.F ht⟩) hS.2.2 dK_shape_63
    · skip
      refine lv_tableIn (off := 50) (tgt := 64) hx hb dK_shape_14 (by decide) (by decide) (by decide +kernel) (by decide) ?_
      refine lv_aload_n hx hb dK_shape_64 rfl (lv_at hl 0 rfl) ?_
      refine va_get (D := (dC, dI)) (ci := 3) (v := .ref (a 1)) (C := RK) (T := TK) (N := 4) hx hb hts inK hown hK hP 0 rfl rfl 0 (by decide) (hts _ wfK_10) (fun _ h9 => h9) rfl dK_shape_65 ?_
      refine lv_iload_n hx hb dK_shape_68 rfl (lv_at hl 1 rfl) ?_
      refine va_calli (va_runVN (As := [.int (nI o)]) (rest := []) ⟨hx, hb, hml, hown, hts⟩ (kO_countOfShape l dC dI a k b t f wt (nI o) h60) ⟨va_cnB 1 hts (sk_gC wcO_countOfShape) rfl rfl rfl (nlmK_154 hN) (hts _ wnO) (by decide +kernel) ⟨Nat.le_of_ble_eq_true rfl, Nat.le_of_ble_eq_true rfl⟩, hts _ wiO_countOfShape, hts _ wsO_countOfShape⟩ ⟨sk_blind _, va_recv hK hP (ci := 1) (q0 := 1) rfl rfl, fun U hU hW => ⟨rfl, sk_at (S := (b, t, f)) (wt := wt) hP hK hN hU hW⟩⟩ rfl rfl hl.1 rfl (lv_room (Nat.le_of_ble_eq_true rfl)) dK_shape_69 ⟨Nat.le_of_ble_eq_true rfl, Nat.le_of_ble_eq_true rfl⟩) hS (fun _ _ h => h.elim) (fun _ h => h.elim) (fun r69 u69 U9 H locs ht hvm w69 hB hz hk hS => ?_)
      have hP : va_P (dC, dI) vwCl (sk_wR a k (nI b.1) b.2.1 b.2.2.1 b.2.2.2.1 b.2.2.2.2 (nI t.1) t.2.1 t.2.2.1 t.2.2.2.1 t.2.2.2.2 (nI f.1) (nI (sk_there f)) (nI (f.1 % 100)) f.2.1 f.2.2.1 f.2.2.2.1 f.2.2.2.2.1 (fun i => lN (sk_nb (f.2.2.2.2.2.1 i))) (fun i => sk_bI (f.2.2.2.2.2.2 i)) wt) H := hP.kept (fun j q hq => hk q.1 ((hP j q hq).lt) (fun h => h))
      clear hk hB ht
      exact W.iret (v := r69) hx hb hr (fun U9 ht hW => ⟨⟨r69, (), rfl, by rw [sk_shape_y h200 ho]; unfold sk_shapeN; rw [if_neg (by decide), if_neg (by decide), if_pos (by decide)]; exact w69, trivial⟩, hS.F ht⟩) hS.2.2 dK_shape_72
    · skip
      refine lv_tableIn (off := 59) (tgt := 73) hx hb dK_shape_14 (by decide) (by decide) (by decide +kernel) (by decide) ?_
      refine lv_aload_n hx hb dK_shape_73 rfl (lv_at hl 0 rfl) ?_
      refine va_get (D := (dC, dI)) (ci := 3) (v := .ref (a 2)) (C := RK) (T := TK) (N := 4) hx hb hts inK hown hK hP 0 rfl rfl 1 (by decide) (hts _ wfK_19) (fun _ h9 => h9) rfl dK_shape_74 ?_
      refine va_getN (D := (dC, dI)) (ci := 2) (v := .ref (a 10)) (C := RT) (T := TT) (N := 5) hx hb hts inT hown hK hP 2 rfl rfl 1 (by decide) (va_Nw.use rfl (nlfK_157 hN)) (fun _ h9 => h9) rfl dK_shape_77 ?_
      refine lv_iload_n hx hb dK_shape_80 rfl (lv_at hl 1 rfl) ?_
      refine va_iald hx hb hK hP 10 0 rfl rfl (vp_in_nI (show o < 200 by omega) (by decide)) dK_shape_81 ?_
      refine lv_topi (fun x81 e81 => ?_)
      rw [nI_clamp (show o < 2 ^ 31 by omega)] at e81
      exact W.iret (v := x81) hx hb hr (fun U9 ht hW => ⟨⟨x81, (), rfl, by rw [sk_shape_y h200 ho]; unfold sk_shapeN; rw [if_neg (by decide), if_neg (by decide), if_neg (by decide), if_pos (by decide)]; exact e81, trivial⟩, hS.F ht⟩) hS.2.2 dK_shape_82
    · skip
      refine lv_tableOut (tgt := 83) hx hb dK_shape_14 hsw (by decide) ?_
      refine lv_iload_n hx hb dK_shape_83 rfl (lv_at hl 2 rfl) ?_
      refine lv_iconst (v := nI 4) hx hb dK_shape_84 (by decide) ?_
      refine lv_icmp_ge (tgt := 92) hx hb dK_shape_85 (by decide) (fun c85 => ?_) (fun c85 => ?_)
      · skip
        refine lv_aload_n hx hb dK_shape_92 rfl (lv_at hl 0 rfl) ?_
        refine va_get (D := (dC, dI)) (ci := 3) (v := .ref (a 2)) (C := RK) (T := TK) (N := 4) hx hb hts inK hown hK hP 0 rfl rfl 1 (by decide) (hts _ wfK_19) (fun _ h9 => h9) rfl dK_shape_93 ?_
        refine lv_iload_n hx hb dK_shape_96 rfl (lv_at hl 1 rfl) ?_
        refine lv_iload_n hx hb dK_shape_97 rfl (lv_at hl 2 rfl) ?_
        refine lv_iconst (v := nI 4) hx hb dK_shape_98 (by decide) ?_
        refine lv_isub hx hb dK_shape_99 ?_
        refine lv_topi (fun x99 e99 => ?_)
        refine va_calli (va_runVN (As := [.int (nI o), .int x99]) (rest := []) ⟨hx, hb, hml, hown, hts⟩ (kT_nameAt l dC dI a k b t f wt o x99 hT ho) ⟨va_cnB 2 hts (sk_gC wcT_nameAt) rfl rfl rfl (nlmK_160 hN) (hts _ wnT) (by decide +kernel) ⟨Nat.le_of_ble_eq_true rfl, Nat.le_of_ble_eq_true rfl⟩, hts _ wiT_nameAt, hts _ wsT_nameAt⟩ ⟨sk_blind _, va_recv hK hP (ci := 2) (q0 := 2) rfl rfl, fun U hU hW => ⟨rfl, sk_at (S := (b, t, f)) (wt := wt) hP hK hN hU hW⟩⟩ rfl rfl hl.1 rfl (lv_room (Nat.le_of_ble_eq_true rfl)) dK_shape_100 ⟨Nat.le_of_ble_eq_true rfl, Nat.le_of_ble_eq_true rfl⟩) hS (fun _ _ h => h.elim) (fun _ h => h.elim) (fun r100 u100 U9 H locs ht hvm w100 hB hz hk hS => ?_)
        have hP : va_P (dC, dI) vwCl (sk_wR a k (nI b.1) b.2.1 b.2.2.1 b.2.2.2.1 b.2.2.2.2 (nI t.1) t.2.1 t.2.2.1 t.2.2.2.1 t.2.2.2.2 (nI f.1) (nI (sk_there f)) (nI (f.1 % 100)) f.2.1 f.2.2.1 f.2.2.2.1 f.2.2.2.2.1 (fun i => lN (sk_nb (f.2.2.2.2.2.1 i))) (fun i => sk_bI (f.2.2.2.2.2.2 i)) wt) H := hP.kept (fun j q hq => hk q.1 ((hP j q hq).lt) (fun h => h))
        clear hk hB ht
        exact W.iret (v := r100) hx hb hr (fun U9 ht hW => ⟨⟨r100, (), rfl, by rw [sk_shape_y h200 ho]; unfold sk_shapeN; obtain ⟨z0, z1, z2, z3⟩ := sk_ne_of3 hsw; rw [if_neg z0, if_neg z1, if_neg z2, if_neg z3]; rw [w100, e99]; by_cases q9 : sk_hasB (sk_len t o) (y - nI 4) = true; exact (if_pos q9).trans (if_pos (c := sk_hasB (sk_len t o) (y - 4) = true ∧ 4 ≤ y) ⟨q9, c85⟩).symm; exact (if_neg q9).trans (if_neg (c := sk_hasB (sk_len t o) (y - 4) = true ∧ 4 ≤ y) (fun q => q9 q.1)).symm, trivial⟩, hS.F ht⟩) hS.2.2 dK_shape_103
      · skip
        refine lv_iconst (v := (-1)) hx hb dK_shape_88 (by decide) ?_
        refine lv_goto (tgt := 103) hx hb dK_shape_89 (by decide) ?_
        exact W.iret (v := (-1)) hx hb hr (fun U9 ht hW => ⟨⟨(-1), (), rfl, by rw [sk_shape_y h200 ho]; unfold sk_shapeN; obtain ⟨z0, z1, z2, z3⟩ := sk_ne_of3 hsw; rw [if_neg z0, if_neg z1, if_neg z2, if_neg z3, if_neg (fun q => c85 q.2)], trivial⟩, hS.F ht⟩) hS.2.2 dK_shape_103
  · skip
    obtain rfl : r5 = nI 0 := w5.trans hv
    refine lv_if_ne (tgt := 13) hx hb dK_shape_8 (by decide) (fun q => absurd q (by decide)) (fun _ => ?_)
    refine lv_iconst (v := (-1)) hx hb dK_shape_11 (by decide) ?_
    exact W.iret (v := (-1)) hx hb hr (fun U9 ht hW => ⟨⟨(-1), (), rfl, (sk_shape_n (S := (b, t, f)) h5).symm, trivial⟩, hS.F ht⟩) hS.2.2 dK_shape_12
end
section
/-! the cells of the reference's object -/
abbrev sk_Ex : Type := sk_F × sk_F × sk_F × sk_F × sk_F × sk_F
def sk_wMR (a : Nat → Nat) (k : Nat → ClassId) (th n : Int32) (sh ch vv : sk_F) (nS : Int32) (pr og le na : sk_F) (mk : Int32) (fs fn fw fh fp fy fo fc lf : sk_F) : va_W :=
  [(a 0, .inr (4, [.int th, .int n, .ref (a 1), .ref (a 2), .ref (a 3), .int nS, .ref (a 4), .ref (a 5), .ref (a 6), .ref (a 7), .int mk, .ref (a 8), .ref (a 9), .ref (a 10), .ref (a 11), .ref (a 12), .ref (a 13), .ref (a 14), .ref (a 15), .ref (a 16)])),
   (a 1, .inl (k 0, 60, .inl sh)), (a 2, .inl (k 0, 60, .inl ch)), (a 3, .inl (k 0, 720, .inl vv)), (a 4, .inl (k 0, 200, .inl pr)), (a 5, .inl (k 0, 200, .inl og)), (a 6, .inl (k 0, 200, .inl le)), (a 7, .inl (k 0, 2400, .inl na)),
   (a 8, .inl (k 0, 100, .inl fs)), (a 9, .inl (k 0, 100, .inl fn)), (a 10, .inl (k 0, 100, .inl fw)), (a 11, .inl (k 0, 100, .inl fh)), (a 12, .inl (k 0, 100, .inl fp)), (a 13, .inl (k 0, 100, .inl fy)), (a 14, .inl (k 0, 6000, .inl fo)), (a 15, .inl (k 0, 6000, .inl fc)), (a 16, .inl (k 0, 12, .inl lf))]
def sk_wM (a : Nat → Nat) (k : Nat → ClassId) (S : sk_S) (ex : sk_Ex) (lf : sk_F) (th : Int32) : va_W :=
  sk_wMR a k th (nI S.1.1) S.1.2.2.1 S.1.2.2.2.1 ex.1 (nI S.2.1.1) S.2.1.2.1 S.2.1.2.2.1 S.2.1.2.2.2.2 ex.2.1 (nI S.2.2.1) S.2.2.2.1 S.2.2.2.2.1 ex.2.2.1 S.2.2.2.2.2.1 S.2.2.2.2.2.2.1 ex.2.2.2.1 ex.2.2.2.2.1 ex.2.2.2.2.2 lf
def sk_PM (dC : Nat → ClassId) (dI : Nat → Nat → Nat) (a : Nat → Nat) (k : Nat → ClassId) (S : sk_S) (ex : sk_Ex) (lf : sk_F) (th : Int32) (U : State) : Prop := va_P (dC, dI) vwCl (sk_wM a k S ex lf th) U.heap ∧ va_K (dC, dI) vwCl (sk_tys k) U
theorem sk_PM_call {dC : Nat → ClassId} {dI : Nat → Nat → Nat} {a : Nat → Nat} {k : Nat → ClassId} {S : sk_S} {ex : sk_Ex} {lf : sk_F} {th : Int32} {U : State} (g : JFrame) (mk : MethodId) (v : Array Value) (h : sk_PM dC dI a k S ex lf th U) : sk_PM dC dI a k S ex lf th (U.calling g mk v) := ⟨h.1, va_K.moved (u := U) (U := U.calling g mk v) (Vm.Alike.refl U.vm) h.2⟩
theorem sk_blindM (av : List Value) {dC : Nat → ClassId} {dI : Nat → Nat → Nat} {a : Nat → Nat} {k : Nat → ClassId} {S : sk_S} {ex : sk_Ex} {lf : sk_F} {th : Int32} : FrameBlind (va_Pc av (sk_PM dC dI a k S ex lf th)) := fun _ _ g mk q => ⟨q.1, sk_PM_call g mk _ q.2⟩
theorem sk_blindMD (av : List Value) {dC : Nat → ClassId} {dI : Nat → Nat → Nat} {a : Nat → Nat} {k : Nat → ClassId} {S : sk_S} {ex : sk_Ex} {lf : sk_F} {th : Int32} {P : Prop} : FrameBlind (va_Pc av (fun U => sk_PM dC dI a k S ex lf th U ∧ P)) := fun _ _ g mk q => ⟨q.1, sk_PM_call g mk _ q.2.1, q.2.2⟩
theorem sk_atM {dC : Nat → ClassId} {dI : Nat → Nat → Nat} {a : Nat → Nat} {k : Nat → ClassId} {S : sk_S} {ex : sk_Ex} {lf : sk_F} {th : Int32} {s : State} {H : Heap} (hP : va_P (dC, dI) vwCl (sk_wM a k S ex lf th) H) (hK : va_K (dC, dI) vwCl (sk_tys k) s) {U : State} (hU : U.heap = H) (hW : s.WarmedH U.vm) : sk_PM dC dI a k S ex lf th U := ⟨by rw [hU]; exact hP, va_K.moved hW.alike hK⟩
/-! how the reference's rows stand to the state -/
def sk_RN (t : sk_Tr) (na : sk_F) : Prop := ∀ s, s < t.1 → ∀ j, j < sk_len t s → na (12 * s + j) = sk_nm t s j
def sk_RV (b : sk_Ob) (t : sk_Tr) (vv : sk_F) : Prop := ∀ o, o < b.1 → ∀ j, j < sk_len t (sk_sh b o) → vv (12 * o + j) = b.2.2.2.2 o j
def sk_RF (b : sk_Ob) (f : sk_Fi) (ex : sk_Ex) (i : Nat) : Prop := ex.2.2.1 i = sk_where f i ∧ ex.2.2.2.1 i = nI (f.2.2.2.2.2.1 i).length ∧ (f.2.2.2.2.2.1 i).length ≤ 60 ∧ (∀ j, j < (f.2.2.2.2.2.1 i).length → ex.2.2.2.2.1 (60 * i + j) = nI ((f.2.2.2.2.2.1 i).getD j 0)) ∧
  (∀ j, j < (f.2.2.2.2.2.1 i).length → ∃ c g, ex.2.2.2.2.2 (60 * i + j) = nI c ∧ b.2.2.2.1 ((f.2.2.2.2.2.1 i).getD j 0) = nI g ∧ c ≤ g ∧ g ≤ 512) ∧ (f.2.2.2.2.2.2 i = true ↔ ∀ j, j < (f.2.2.2.2.2.1 i).length → b.2.2.2.1 ((f.2.2.2.2.2.1 i).getD j 0) = ex.2.2.2.2.2 (60 * i + j))
def sk_RM (S : sk_S) (ex : sk_Ex) : Prop := sk_RN S.2.1 ex.2.1 ∧ sk_RV S.1 S.2.1 ex.1 ∧ ∀ i, i < sk_there S.2.2 → sk_RF S.1 S.2.2 ex i
theorem sk_RN_ext {nO : Nat} {t u : sk_Tr} {na nb : sk_F} (h : sk_TO nO t) (he : sk_ext t u) (hr : sk_RN t na) (hn : ∀ j, j < 12 * t.1 → nb j = na j) (hnew : ∀ s, t.1 ≤ s → s < u.1 → ∀ j, j < sk_len u s → nb (12 * s + j) = sk_nm u s j) : sk_RN u nb := by
  intro s hs j hj
  by_cases c : s < t.1
  · obtain ⟨e1, e2⟩ := sk_ext_nm h he s c
    rw [e1] at hj
    obtain ⟨m, hm, -, hl⟩ := sk_lenOk h c
    rw [hn _ (by omega), e2 j hj]
    exact hr s c j hj
  · exact hnew s (by omega) hs j hj
theorem sk_RN_empty {nO : Nat} {t : sk_Tr} {na : sk_F} {x : Int32} (h : sk_TO nO t) (hr : sk_RN t na) : sk_RN (sk_make t x (-1) (-1) 0) na := by
  refine sk_RN_ext h (sk_ext_make t _ _ _ _) hr (fun _ _ => rfl) (fun s h1 h2 j hj => ?_)
  have h2 : s < t.1 + 1 := h2
  have e : s = t.1 := by omega
  subst e
  rw [sk_lenE (t := sk_make t x (-1) (-1) 0) (m := 0) (by omega) pk_us] at hj
  omega
/-- a child's names: those of its origin copied, its own behind them -/
theorem sk_RN_child {nO : Nat} {t : sk_Tr} {na nb : sk_F} {s m : Nat} {x : Int32} (h : sk_TO nO t) (hr : sk_RN t na) (hs : s < t.1) (hm : m < 12) (hl : t.2.2.2.2 s = nI m) (hn : ∀ j, j < 12 * t.1 → nb j = na j) (hc : ∀ j, j < m → nb (12 * t.1 + j) = na (12 * s + j)) (hx : nb (12 * t.1 + m) = x) : sk_RN (sk_grow1 t s x) nb := by
  have he : sk_ext t (sk_grow1 t s x) := sk_ext_make t _ _ _ _
  refine sk_RN_ext h he hr hn (fun q h1 h2 j hj => ?_)
  have h2 : q < t.1 + 1 := h2
  have e : q = t.1 := by omega
  subst e
  have hle : (sk_grow1 t s x).2.2.2.2 t.1 = nI (m + 1) := by rw [show (sk_grow1 t s x).2.2.2.2 t.1 = t.2.2.2.2 s + 1 from pk_us, hl]; exact nI_1 m
  rw [sk_lenE (by omega) hle] at hj
  by_cases c : j < m
  · rw [hc j c, sk_nm_par (t := sk_grow1 t s x) (i := t.1) (j := s) (sk_t31 h hs) hm pk_us (((he.2 s hs).2.2.2).trans hl) hle c, (sk_ext_nm h he s hs).2 j (by rw [sk_lenE (by omega) hl]; exact c)]
    exact hr s hs j (by rw [sk_lenE (by omega) hl]; exact c)
  · have e : j = m := by omega
    subst e
    rw [hx, sk_nm_top hm hle]
    exact (show (sk_grow1 t s x).2.2.2.1 t.1 = x from pk_us).symm
theorem sk_top_na {nO : Nat} {t : sk_Tr} {na : sk_F} (h : sk_TO nO t) (hr : sk_RN t na) {i s : Nat} (hi : i < t.1) (hs : s < 2 ^ 31) (ho : t.2.2.1 i = nI s) : ∃ m, m < 12 ∧ t.2.2.2.2 i = nI (m + 1) ∧ s < i ∧ na (12 * i + m) = t.2.2.2.1 i := by
  rcases (h.2.2.2.2.2 i hi).2 with ⟨e, -⟩ | ⟨j, m, a, h1, h2, h3, h4, h5, h6, -⟩
  · exact absurd (ho.symm.trans e) (sk_nm1 hs)
  · have hj : j = s := sk_inj (by have := sk_t31 h hi; omega) hs (h4.symm.trans ho)
    exact ⟨m, h2, h6, by omega, by rw [hr i hi m (by rw [sk_lenE (by omega) h6]; omega), sk_nm_top h2 h6]⟩
theorem sk_wn_0 {nO : Nat} {t : sk_Tr} (h : sk_TO nO t) {s : Nat} (hs : s < t.1) (x : Int32) : sk_ff (fun i => decide (t.2.2.1 i = nI s) && decide (t.2.2.2.1 i = x)) (t.1 - 0) 0 = sk_wn t s x := by
  unfold sk_wn
  rw [show t.1 - 0 = (s + 1) + (t.1 - (s + 1)) by omega, sk_ff_skip (s + 1) _ 0 (fun i _ hi => ?_), Nat.zero_add]
  have hit : i < t.1 := by omega
  rcases (h.2.2.2.2.2 i hit).2 with ⟨e, -⟩ | ⟨j, m, a, h1, h2, h3, h4, -⟩
  · rw [e, decide_eq_false (sk_m1n (sk_t31 h hs))]; rfl
  · rw [h4, decide_eq_false (fun q => by have := sk_inj (by have := sk_t31 h hit; omega) (sk_t31 h hs) q; omega)]; rfl
end
section
theorem sk_step {nO : Nat} {t : sk_Tr} {q j : Nat} {ns : List Int32} (h : sk_TO nO t) (hq : q < t.1) (hcap : t.1 < 200) (hj : j < ns.length) (hd : (sk_names t q ++ ns.drop j).Nodup) (hi : sk_in12 (sk_names t q ++ ns.drop j)) :
    sk_TO nO (sk_grow1 t q (ns.getD j 0)) ∧ (sk_names (sk_grow1 t q (ns.getD j 0)) t.1 ++ ns.drop (j + 1)).Nodup ∧ sk_in12 (sk_names (sk_grow1 t q (ns.getD j 0)) t.1 ++ ns.drop (j + 1)) ∧ sk_len t q < 12 := by
  have e : sk_names t q ++ ns.drop j = (sk_names t q ++ [ns.getD j 0]) ++ ns.drop (j + 1) := by rw [sk_getD_drop hj, List.append_assoc]; rfl
  have hl := sk_len12 hd hi
  rw [e] at hd hi
  have hd1 : (sk_names t q ++ [ns.getD j 0]).Nodup := (List.nodup_append.mp hd).1
  have hi1 : sk_in12 (sk_names t q ++ [ns.getD j 0]) := fun x hx => hi x (List.mem_append_left _ hx)
  obtain ⟨q1, q2, q3, q4, q5, q6⟩ := sk_mk_spec [ns.getD j 0] t q h hq (show t.1 + 1 ≤ 200 by omega) hd1 hi1
  have q6 : sk_names (sk_grow1 t q (ns.getD j 0)) t.1 = sk_names t q ++ [ns.getD j 0] := q6
  refine ⟨q1, by rw [q6]; exact hd, by rw [q6]; exact hi, ?_⟩
  rw [List.length_append, sk_names_len, List.length_drop] at hl
  omega
theorem sk_names_e {nO : Nat} {t : sk_Tr} (h : sk_TO nO t) {i : Nat} (hi : i < t.1) (ho : t.2.2.1 i = -1) : sk_names t i = [] := by
  rcases (h.2.2.2.2.2 i hi).2 with ⟨-, e⟩ | ⟨j, m, a, h1, h2, h3, h4, -⟩
  · unfold sk_names; rw [sk_lenE (by omega) e]; rfl
  · exact absurd (h4.symm.trans ho) (sk_nm1 (by have := sk_t31 h hi; omega))
theorem sk_names_m {t : sk_Tr} {x : Int32} : sk_names (sk_make t x (-1) (-1) 0) t.1 = [] := by
  unfold sk_names
  rw [sk_lenE (t := sk_make t x (-1) (-1) 0) (m := 0) (by omega) pk_us]; rfl
theorem sk_app_d {ns l : List Int32} {i : Nat} (hi : i < ns.length) (h : l ++ ns.drop i = ns) : (l ++ [ns.getD i 0]) ++ ns.drop (i + 1) = ns := by
  rw [List.append_assoc, List.singleton_append, ← sk_getD_drop hi]; exact h
end
section
abbrev wzM_thrown : List Cond := .code yM_thrown cM_thrown 1 (some .int) :: sk_W
abbrev rzM_thrown : Room := { frames := 0, cells := 0, slots := 0, locals := 0 }
set_option maxHeartbeats 4000000 in
set_option maxRecDepth 100000 in
theorem kM_thrown (l : Launch) (dC : Nat → ClassId) (dI : Nat → Nat → Nat) (a : Nat → Nat) (k : Nat → ClassId) (b : sk_Ob) (t : sk_Tr) (f : sk_Fi) (ex : sk_Ex) (lf : sk_F) (th : Int32)   : Met l yM_thrown wzM_thrown rzM_thrown (va_Pc [.ref (a 0)] (sk_PM dC dI a k (b, t, f) ex lf th)) (va_Qi (fun r (_ : Unit) => r = th) (fun _ _ => True) (fun _ => False)) 0 0 (fun _ => False) := by
  refine Met.ofW (cc := cM_thrown) (maxL := 1) (ret := (some .int)) (by decide) rfl ?_
  intro p e s m args below meth c s₁ B hml hv
  obtain ⟨rfl, hP, hK⟩ := hv
  have hx := B.exec
  have hb := B.bytes
  have hr := B.returns
  have hts : ∀ w ∈ sk_W, w.before ([.ref (a 0)] : List Value).toArray s = true := fun w h => atoms_spec (ws := wzM_thrown) B.pre w (List.mem_cons_of_mem _ h)
  have hown : s.vm.findClass RM = some m.cls := findClass_of_methodNamed B.named
  have hlocks := B.notSynchronized
  have hS : va_S (fun _ => False) s.heap s.heap [] := va_S.rf
  have hP : va_P (dC, dI) vwCl (sk_wMR a k th (nI b.1) b.2.2.1 b.2.2.2.1 ex.1 (nI t.1) t.2.1 t.2.2.1 t.2.2.2.2 ex.2.1 (nI f.1) f.2.1 f.2.2.1 ex.2.2.1 f.2.2.2.1 f.2.2.2.2.1 ex.2.2.2.1 ex.2.2.2.2.1 ex.2.2.2.2.2 lf) s.heap := hP
  have hl := lv_entry ([.ref (a 0)]) (n := 1) (Nat.le_of_ble_eq_true rfl)
  rw [lg_entry_eq]
  generalize (lg_sl ([.ref (a 0)]) ++ List.replicate (1 - (lg_sl ([.ref (a 0)])).length) Slot.unset).toArray = ls at hl ⊢
  have hl : lv_has ls 1 [(0, .ref (a 0))] := hl
  refine lv_aload_n hx hb dM_thrown_0 rfl (lv_at hl 0 rfl) ?_
  refine va_get (D := (dC, dI)) (ci := 4) (v := .int th) (C := RM) (T := TM) (N := 20) hx hb hts inM hown hK hP 0 rfl rfl 0 (by decide) (hts _ wfM_62) (fun _ h9 => h9) rfl dM_thrown_1 ?_
  exact W.iret (v := th) hx hb hr (fun U9 ht hW => ⟨⟨th, (), rfl, rfl, trivial⟩, hS.F ht⟩) hS.2.2 dM_thrown_4
abbrev wzM_isObject : List Cond := .code yM_isObject cM_isObject 2 (some .boolean) :: sk_W
abbrev rzM_isObject : Room := { frames := 0, cells := 0, slots := 0, locals := 0 }
set_option maxHeartbeats 4000000 in
set_option maxRecDepth 100000 in
theorem kM_isObject (l : Launch) (dC : Nat → ClassId) (dI : Nat → Nat → Nat) (a : Nat → Nat) (k : Nat → ClassId) (b : sk_Ob) (t : sk_Tr) (f : sk_Fi) (ex : sk_Ex) (lf : sk_F) (th : Int32) (x : Int32)  : Met l yM_isObject wzM_isObject rzM_isObject (va_Pc [.ref (a 0), .int x] (sk_PM dC dI a k (b, t, f) ex lf th)) (va_Qi (fun r (_ : Unit) => r = sk_bI (sk_hasB b.1 x)) (fun _ _ => True) (fun _ => False)) 0 0 (fun _ => False) := by
  refine Met.ofW (cc := cM_isObject) (maxL := 2) (ret := (some .boolean)) (by decide) rfl ?_
  intro p e s m args below meth c s₁ B hml hv
  obtain ⟨rfl, hP, hK⟩ := hv
  have hx := B.exec
  have hb := B.bytes
  have hr := B.returns
  have hts : ∀ w ∈ sk_W, w.before ([.ref (a 0), .int x] : List Value).toArray s = true := fun w h => atoms_spec (ws := wzM_isObject) B.pre w (List.mem_cons_of_mem _ h)
  have hown : s.vm.findClass RM = some m.cls := findClass_of_methodNamed B.named
  have hlocks := B.notSynchronized
  have hS : va_S (fun _ => False) s.heap s.heap [] := va_S.rf
  have hP : va_P (dC, dI) vwCl (sk_wMR a k th (nI b.1) b.2.2.1 b.2.2.2.1 ex.1 (nI t.1) t.2.1 t.2.2.1 t.2.2.2.2 ex.2.1 (nI f.1) f.2.1 f.2.2.1 ex.2.2.1 f.2.2.2.1 f.2.2.2.2.1 ex.2.2.2.1 ex.2.2.2.2.1 ex.2.2.2.2.2 lf) s.heap := hP
  have hl := lv_entry ([.ref (a 0), .int x]) (n := 2) (Nat.le_of_ble_eq_true rfl)
  rw [lg_entry_eq]
  generalize (lg_sl ([.ref (a 0), .int x]) ++ List.replicate (2 - (lg_sl ([.ref (a 0), .int x])).length) Slot.unset).toArray = ls at hl ⊢
  have hl : lv_has ls 2 [(0, .ref (a 0)), (1, .int x)] := hl
  refine lv_iload_n hx hb dM_isObject_0 rfl (lv_at hl 1 rfl) ?_
  refine lv_if_lt (tgt := 16) hx hb dM_isObject_1 (by decide) (fun c1 => ?_) (fun c1 => ?_)
  · skip
    refine lv_iconst (v := nI 0) hx hb dM_isObject_16 (by decide) ?_
    exact W.zret (v := nI 0) hx hb hr (by decide) (fun U9 ht hW => ⟨⟨nI 0, (), rfl, sk_hasB_f1 c1, trivial⟩, hS.F ht⟩) hS.2.2 dM_isObject_17
  · skip
    refine lv_iload_n hx hb dM_isObject_4 rfl (lv_at hl 1 rfl) ?_
    refine lv_aload_n hx hb dM_isObject_5 rfl (lv_at hl 0 rfl) ?_
    refine va_get (D := (dC, dI)) (ci := 4) (v := .int (nI b.1)) (C := RM) (T := TM) (N := 20) hx hb hts inM hown hK hP 0 rfl rfl 1 (by decide) (hts _ wfM_65) (fun _ h9 => h9) rfl dM_isObject_6 ?_
    refine lv_icmp_ge (tgt := 16) hx hb dM_isObject_9 (by decide) (fun c9 => ?_) (fun c9 => ?_)
    · skip
      refine lv_iconst (v := nI 0) hx hb dM_isObject_16 (by decide) ?_
      exact W.zret (v := nI 0) hx hb hr (by decide) (fun U9 ht hW => ⟨⟨nI 0, (), rfl, sk_hasB_f2 c9, trivial⟩, hS.F ht⟩) hS.2.2 dM_isObject_17
    · skip
      refine lv_iconst (v := nI 1) hx hb dM_isObject_12 (by decide) ?_
      refine lv_goto (tgt := 17) hx hb dM_isObject_13 (by decide) ?_
      exact W.zret (v := nI 1) hx hb hr (by decide) (fun U9 ht hW => ⟨⟨nI 1, (), rfl, sk_hasB_t c1 c9, trivial⟩, hS.F ht⟩) hS.2.2 dM_isObject_17
abbrev wzM_isName : List Cond := .code yM_isName cM_isName 1 (some .boolean) :: sk_W
abbrev rzM_isName : Room := { frames := 0, cells := 0, slots := 0, locals := 0 }
set_option maxHeartbeats 4000000 in
set_option maxRecDepth 100000 in
theorem kM_isName (l : Launch) (dC : Nat → ClassId) (dI : Nat → Nat → Nat) (a : Nat → Nat) (k : Nat → ClassId) (b : sk_Ob) (t : sk_Tr) (f : sk_Fi) (ex : sk_Ex) (lf : sk_F) (th : Int32) (x : Int32)  : Met l yM_isName wzM_isName rzM_isName (va_Pc [.int x] (sk_PM dC dI a k (b, t, f) ex lf th)) (va_Qi (fun r (_ : Unit) => r = sk_bI (sk_isN x)) (fun _ _ => True) (fun _ => False)) 0 0 (fun _ => False) := by
  refine Met.ofW (cc := cM_isName) (maxL := 1) (ret := (some .boolean)) (by decide) rfl ?_
  intro p e s m args below meth c s₁ B hml hv
  obtain ⟨rfl, hP, hK⟩ := hv
  have hx := B.exec
  have hb := B.bytes
  have hr := B.returns
  have hts : ∀ w ∈ sk_W, w.before ([.int x] : List Value).toArray s = true := fun w h => atoms_spec (ws := wzM_isName) B.pre w (List.mem_cons_of_mem _ h)
  have hown : s.vm.findClass RM = some m.cls := findClass_of_methodNamed B.named
  have hlocks := B.notSynchronized
  have hS : va_S (fun _ => False) s.heap s.heap [] := va_S.rf
  have hP : va_P (dC, dI) vwCl (sk_wMR a k th (nI b.1) b.2.2.1 b.2.2.2.1 ex.1 (nI t.1) t.2.1 t.2.2.1 t.2.2.2.2 ex.2.1 (nI f.1) f.2.1 f.2.2.1 ex.2.2.1 f.2.2.2.1 f.2.2.2.2.1 ex.2.2.2.1 ex.2.2.2.2.1 ex.2.2.2.2.2 lf) s.heap := hP
  have hl := lv_entry ([.int x]) (n := 1) (Nat.le_of_ble_eq_true rfl)
  rw [lg_entry_eq]
  generalize (lg_sl ([.int x]) ++ List.replicate (1 - (lg_sl ([.int x])).length) Slot.unset).toArray = ls at hl ⊢
  have hl : lv_has ls 1 [(0, .int x)] := hl
  refine lv_iload_n hx hb dM_isName_0 rfl (lv_at hl 0 rfl) ?_
  refine lv_if_lt (tgt := 14) hx hb dM_isName_1 (by decide) (fun c1 => ?_) (fun c1 => ?_)
  · skip
    refine lv_iconst (v := nI 0) hx hb dM_isName_14 (by decide) ?_
    exact W.zret (v := nI 0) hx hb hr (by decide) (fun U9 ht hW => ⟨⟨nI 0, (), rfl, sk_hasB_f1 c1, trivial⟩, hS.F ht⟩) hS.2.2 dM_isName_15
  · skip
    refine lv_iload_n hx hb dM_isName_4 rfl (lv_at hl 0 rfl) ?_
    refine lv_bipush (v := nI 12) hx hb dM_isName_5 (by decide) ?_
    refine lv_icmp_ge (tgt := 14) hx hb dM_isName_7 (by decide) (fun c7 => ?_) (fun c7 => ?_)
    · skip
      refine lv_iconst (v := nI 0) hx hb dM_isName_14 (by decide) ?_
      exact W.zret (v := nI 0) hx hb hr (by decide) (fun U9 ht hW => ⟨⟨nI 0, (), rfl, sk_hasB_f2 c7, trivial⟩, hS.F ht⟩) hS.2.2 dM_isName_15
    · skip
      refine lv_iconst (v := nI 1) hx hb dM_isName_10 (by decide) ?_
      refine lv_goto (tgt := 15) hx hb dM_isName_11 (by decide) ?_
      exact W.zret (v := nI 1) hx hb hr (by decide) (fun U9 ht hW => ⟨⟨nI 1, (), rfl, sk_hasB_t c1 c7, trivial⟩, hS.F ht⟩) hS.2.2 dM_isName_15
abbrev wzM_above : List Cond := .code yM_above cM_above 2 (some .int) :: sk_W
abbrev rzM_above : Room := { frames := 0, cells := 0, slots := 0, locals := 0 }
set_option maxHeartbeats 4000000 in
set_option maxRecDepth 100000 in
theorem kM_above (l : Launch) (dC : Nat → ClassId) (dI : Nat → Nat → Nat) (a : Nat → Nat) (k : Nat → ClassId) (b : sk_Ob) (t : sk_Tr) (f : sk_Fi) (ex : sk_Ex) (lf : sk_F) (th : Int32) (o : Nat) (hT : sk_TO b.1 t) (hO : sk_OO b t) (ho : o < b.1) : Met l yM_above wzM_above rzM_above (va_Pc [.ref (a 0), .int (nI o)] (sk_PM dC dI a k (b, t, f) ex lf th)) (va_Qi (fun r (_ : Unit) => r = b.2.1 o) (fun _ _ => True) (fun _ => False)) 0 0 (fun _ => False) := by
  refine Met.ofW (cc := cM_above) (maxL := 2) (ret := (some .int)) (by decide) rfl ?_
  intro p e s m args below meth c s₁ B hml hv
  obtain ⟨rfl, hP, hK⟩ := hv
  have hx := B.exec
  have hb := B.bytes
  have hr := B.returns
  have hts : ∀ w ∈ sk_W, w.before ([.ref (a 0), .int (nI o)] : List Value).toArray s = true := fun w h => atoms_spec (ws := wzM_above) B.pre w (List.mem_cons_of_mem _ h)
  have hown : s.vm.findClass RM = some m.cls := findClass_of_methodNamed B.named
  have hlocks := B.notSynchronized
  have hS : va_S (fun _ => False) s.heap s.heap [] := va_S.rf
  have hP : va_P (dC, dI) vwCl (sk_wMR a k th (nI b.1) b.2.2.1 b.2.2.2.1 ex.1 (nI t.1) t.2.1 t.2.2.1 t.2.2.2.2 ex.2.1 (nI f.1) f.2.1 f.2.2.1 ex.2.2.1 f.2.2.2.1 f.2.2.2.2.1 ex.2.2.2.1 ex.2.2.2.2.1 ex.2.2.2.2.2 lf) s.heap := hP
  have hl := lv_entry ([.ref (a 0), .int (nI o)]) (n := 2) (Nat.le_of_ble_eq_true rfl)
  rw [lg_entry_eq]
  generalize (lg_sl ([.ref (a 0), .int (nI o)]) ++ List.replicate (2 - (lg_sl ([.ref (a 0), .int (nI o)])).length) Slot.unset).toArray = ls at hl ⊢
  have hl : lv_has ls 2 [(0, .ref (a 0)), (1, .int (nI o))] := hl
  have h200 : t.1 ≤ 200 := hT.2.1
  have h60 : b.1 ≤ 60 := hT.2.2.1
  obtain ⟨hs1, hs2, hs3⟩ := sk_shOk h200 hO ho
  refine lv_aload_n hx hb dM_above_0 rfl (lv_at hl 0 rfl) ?_
  refine va_get (D := (dC, dI)) (ci := 4) (v := .ref (a 4)) (C := RM) (T := TM) (N := 20) hx hb hts inM hown hK hP 0 rfl rfl 6 (by decide) (hts _ wfM_23) (fun _ h9 => h9) rfl dM_above_1 ?_
  refine lv_aload_n hx hb dM_above_4 rfl (lv_at hl 0 rfl) ?_
  refine va_get (D := (dC, dI)) (ci := 4) (v := .ref (a 1)) (C := RM) (T := TM) (N := 20) hx hb hts inM hown hK hP 0 rfl rfl 2 (by decide) (hts _ wfM_7) (fun _ h9 => h9) rfl dM_above_5 ?_
  refine lv_iload_n hx hb dM_above_8 rfl (lv_at hl 1 rfl) ?_
  refine va_iald hx hb hK hP 1 0 rfl rfl (vp_in_nI (show o < 60 by omega) (by decide)) dM_above_9 ?_
  refine lv_topi (fun x9 e9 => ?_)
  rw [nI_clamp (show o < 2 ^ 31 by omega)] at e9
  obtain rfl : x9 = nI (sk_sh b o) := e9.trans (hs2)
  refine va_iald hx hb hK hP 4 0 rfl rfl (vp_in_nI (show (sk_sh b o) < 200 by omega) (by decide)) dM_above_10 ?_
  refine lv_topi (fun x10 e10 => ?_)
  rw [nI_clamp (show (sk_sh b o) < 2 ^ 31 by omega)] at e10
  exact W.iret (v := x10) hx hb hr (fun U9 ht hW => ⟨⟨x10, (), rfl, e10.trans hs3.symm, trivial⟩, hS.F ht⟩) hS.2.2 dM_above_11
abbrev wzM_empty : List Cond := .code yM_empty cM_empty 3 (some .int) :: sk_W
abbrev rzM_empty : Room := { frames := 0, cells := 0, slots := 0, locals := 0 }
set_option maxHeartbeats 4000000 in
set_option maxRecDepth 100000 in
theorem kM_empty (l : Launch) (dC : Nat → ClassId) (dI : Nat → Nat → Nat) (a : Nat → Nat) (k : Nat → ClassId) (b : sk_Ob) (t : sk_Tr) (f : sk_Fi) (ex : sk_Ex) (lf : sk_F) (th : Int32) (x : Int32) (hT : sk_TO b.1 t) : Met l yM_empty wzM_empty rzM_empty (va_Pc [.ref (a 0), .int x] (sk_PM dC dI a k (b, t, f) ex lf th)) (va_Qi (fun r (_ : Unit) => r = sk_em t x) (fun _ _ => True) (fun _ => False)) 0 0 (fun _ => False) := by
  refine Met.ofW (cc := cM_empty) (maxL := 3) (ret := (some .int)) (by decide) rfl ?_
  intro p e s m args below meth c s₁ B hml hv
  obtain ⟨rfl, hP, hK⟩ := hv
  have hx := B.exec
  have hb := B.bytes
  have hr := B.returns
  have hts : ∀ w ∈ sk_W, w.before ([.ref (a 0), .int x] : List Value).toArray s = true := fun w h => atoms_spec (ws := wzM_empty) B.pre w (List.mem_cons_of_mem _ h)
  have hown : s.vm.findClass RM = some m.cls := findClass_of_methodNamed B.named
  have hlocks := B.notSynchronized
  have hS : va_S (fun _ => False) s.heap s.heap [] := va_S.rf
  have hP : va_P (dC, dI) vwCl (sk_wMR a k th (nI b.1) b.2.2.1 b.2.2.2.1 ex.1 (nI t.1) t.2.1 t.2.2.1 t.2.2.2.2 ex.2.1 (nI f.1) f.2.1 f.2.2.1 ex.2.2.1 f.2.2.2.1 f.2.2.2.2.1 ex.2.2.2.1 ex.2.2.2.2.1 ex.2.2.2.2.2 lf) s.heap := hP
  have hl := lv_entry ([.ref (a 0), .int x]) (n := 3) (Nat.le_of_ble_eq_true rfl)
  rw [lg_entry_eq]
  generalize (lg_sl ([.ref (a 0), .int x]) ++ List.replicate (3 - (lg_sl ([.ref (a 0), .int x])).length) Slot.unset).toArray = ls at hl ⊢
  have hl : lv_has ls 3 [(0, .ref (a 0)), (1, .int x)] := hl
  have h200 : t.1 ≤ 200 := hT.2.1
  have h60 : b.1 ≤ 60 := hT.2.2.1
  refine lv_iconst (v := nI 0) hx hb dM_empty_0 (by decide) ?_
  refine lv_istore_n (lv' := [(2, .int (nI 0)), (0, .ref (a 0)), (1, .int x)]) hx hb dM_empty_1 rfl hl (by decide) rfl (fun ls hl => ?_)
  have loop1 : ∀ (nn : Nat) (i : Nat), i ≤ t.1 → sk_ff (fun i => (decide (t.2.2.1 i = -1) && decide (t.2.1 i = x))) (t.1 - i) i = sk_em t x → t.1 - i < nn → ∀ ls : Array Slot, lv_has ls 3 [(2, .int (nI i)), (0, .ref (a 0)), (1, .int x)] → W p l e (headSpec wzM_empty rzM_empty).room s m ([.ref (a 0), .int x] : List Value).toArray below meth c s.heap [] 0 0 (MQ below (va_Qi (fun r (_ : Unit) => r = sk_em t x) (fun _ _ => True) (fun _ => False)) ([.ref (a 0), .int x] : List Value).toArray s 0 0 (fun _ => False)) (F0 m 2 ls []) := by
    intro nn
    induction nn with
    | zero => intro i hi he hmu; exact absurd hmu (Nat.not_lt_zero _)
    | succ nn ih1 =>
      intro i hi he hmu ls hl
      refine lv_iload_n hx hb dM_empty_2 rfl (lv_at hl 0 rfl) ?_
      refine lv_aload_n hx hb dM_empty_3 rfl (lv_at hl 1 rfl) ?_
      refine va_get (D := (dC, dI)) (ci := 4) (v := .int (nI t.1)) (C := RM) (T := TM) (N := 20) hx hb hts inM hown hK hP 0 rfl rfl 5 (by decide) (hts _ wfM_19) (fun _ h9 => h9) rfl dM_empty_4 ?_
      refine lv_icmp_ge (tgt := 38) hx hb dM_empty_7 (by decide) (fun c7 => ?_) (fun c7 => ?_)
      · skip
        have n7 : t.1 ≤ i := (nI_leI (a := t.1) (b := i) (by omega) (by omega)).mp c7
        refine lv_iconst (v := (-1)) hx hb dM_empty_38 (by decide) ?_
        exact W.iret (v := (-1)) hx hb hr (fun U9 ht hW => ⟨⟨(-1), (), rfl, sk_ff_end n7 he, trivial⟩, hS.F ht⟩) hS.2.2 dM_empty_39
      · skip
        have n7 : ¬ t.1 ≤ i := fun z9 => c7 ((nI_leI (a := t.1) (b := i) (by omega) (by omega)).mpr z9)
        refine lv_aload_n hx hb dM_empty_10 rfl (lv_at hl 1 rfl) ?_
        refine va_get (D := (dC, dI)) (ci := 4) (v := .ref (a 5)) (C := RM) (T := TM) (N := 20) hx hb hts inM hown hK hP 0 rfl rfl 7 (by decide) (hts _ wfM_26) (fun _ h9 => h9) rfl dM_empty_11 ?_
        refine lv_iload_n hx hb dM_empty_14 rfl (lv_at hl 0 rfl) ?_
        refine va_iald hx hb hK hP 5 0 rfl rfl (vp_in_nI (show i < 200 by omega) (by decide)) dM_empty_15 ?_
        refine lv_topi (fun x15 e15 => ?_)
        rw [nI_clamp (show i < 2 ^ 31 by omega)] at e15
        refine lv_iconst (v := (-1)) hx hb dM_empty_16 (by decide) ?_
        refine lv_icmp_ne (tgt := 32) hx hb dM_empty_17 (by decide) (fun c17 => ?_) (fun c17 => ?_)
        · skip
          refine lv_iinc (v := nI (i + 1)) (lv' := [(2, .int (nI (i + 1))), (0, .ref (a 0)), (1, .int x)]) hx hb dM_empty_32 hl (k := 0) rfl (sk_inc _) (by decide) rfl (fun ls hl => ?_)
          refine lv_goto (tgt := 2) hx hb dM_empty_35 (by decide) ?_
          exact ih1 (i + 1) (Nat.succ_le_of_lt (Nat.lt_of_not_le n7)) (sk_ff_miss (Nat.lt_of_not_le n7) he (by show (decide (t.2.2.1 i = -1) && decide (t.2.1 i = x)) = false; rw [← e15]; simp [c17])) (by omega) ls (lv_sub hl [0, 1, 2] rfl)
        · skip
          refine lv_aload_n hx hb dM_empty_20 rfl (lv_at hl 1 rfl) ?_
          refine va_get (D := (dC, dI)) (ci := 4) (v := .ref (a 4)) (C := RM) (T := TM) (N := 20) hx hb hts inM hown hK hP 0 rfl rfl 6 (by decide) (hts _ wfM_23) (fun _ h9 => h9) rfl dM_empty_21 ?_
          refine lv_iload_n hx hb dM_empty_24 rfl (lv_at hl 0 rfl) ?_
          refine va_iald hx hb hK hP 4 0 rfl rfl (vp_in_nI (show i < 200 by omega) (by decide)) dM_empty_25 ?_
          refine lv_topi (fun x25 e25 => ?_)
          rw [nI_clamp (show i < 2 ^ 31 by omega)] at e25
          refine lv_iload_n hx hb dM_empty_26 rfl (lv_at hl 2 rfl) ?_
          refine lv_icmp_ne (tgt := 32) hx hb dM_empty_27 (by decide) (fun c27 => ?_) (fun c27 => ?_)
          · skip
            refine lv_iinc (v := nI (i + 1)) (lv' := [(2, .int (nI (i + 1))), (0, .ref (a 0)), (1, .int x)]) hx hb dM_empty_32 hl (k := 0) rfl (sk_inc _) (by decide) rfl (fun ls hl => ?_)
            refine lv_goto (tgt := 2) hx hb dM_empty_35 (by decide) ?_
            exact ih1 (i + 1) (Nat.succ_le_of_lt (Nat.lt_of_not_le n7)) (sk_ff_miss (Nat.lt_of_not_le n7) he (by show (decide (t.2.2.1 i = -1) && decide (t.2.1 i = x)) = false; rw [← e25]; simp [c27])) (by omega) ls (lv_sub hl [0, 1, 2] rfl)
          · skip
            refine lv_iload_n hx hb dM_empty_30 rfl (lv_at hl 0 rfl) ?_
            exact W.iret (v := nI i) hx hb hr (fun U9 ht hW => ⟨⟨nI i, (), rfl, sk_ff_hit (Nat.lt_of_not_le n7) he (by show (decide (t.2.2.1 i = -1) && decide (t.2.1 i = x)) = true; rw [← e15, ← e25]; simp [c17, c27]), trivial⟩, hS.F ht⟩) hS.2.2 dM_empty_31
  exact loop1 (t.1 - 0 + 1) 0 (Nat.zero_le _) (rfl) (Nat.lt_succ_self _) ls (lv_sub hl [0, 1, 2] rfl)
abbrev wzM_child : List Cond := .code yM_child cM_child 4 (some .int) :: sk_W
abbrev rzM_child : Room := { frames := 0, cells := 0, slots := 0, locals := 0 }
set_option maxHeartbeats 4000000 in
set_option maxRecDepth 100000 in
theorem kM_child (l : Launch) (dC : Nat → ClassId) (dI : Nat → Nat → Nat) (a : Nat → Nat) (k : Nat → ClassId) (b : sk_Ob) (t : sk_Tr) (f : sk_Fi) (ex : sk_Ex) (lf : sk_F) (th : Int32) (si : Nat) (x : Int32) (hT : sk_TO b.1 t) (hN : sk_RN t ex.2.1) (hs : si < t.1) : Met l yM_child wzM_child rzM_child (va_Pc [.ref (a 0), .int (nI si), .int x] (sk_PM dC dI a k (b, t, f) ex lf th)) (va_Qi (fun r (_ : Unit) => r = sk_wn t si x) (fun _ _ => True) (fun _ => False)) 0 0 (fun _ => False) := by
  refine Met.ofW (cc := cM_child) (maxL := 4) (ret := (some .int)) (by decide) rfl ?_
  intro p e s m args below meth c s₁ B hml hv
  obtain ⟨rfl, hP, hK⟩ := hv
  have hx := B.exec
  have hb := B.bytes
  have hr := B.returns
  have hts : ∀ w ∈ sk_W, w.before ([.ref (a 0), .int (nI si), .int x] : List Value).toArray s = true := fun w h => atoms_spec (ws := wzM_child) B.pre w (List.mem_cons_of_mem _ h)
  have hown : s.vm.findClass RM = some m.cls := findClass_of_methodNamed B.named
  have hlocks := B.notSynchronized
  have hS : va_S (fun _ => False) s.heap s.heap [] := va_S.rf
  have hP : va_P (dC, dI) vwCl (sk_wMR a k th (nI b.1) b.2.2.1 b.2.2.2.1 ex.1 (nI t.1) t.2.1 t.2.2.1 t.2.2.2.2 ex.2.1 (nI f.1) f.2.1 f.2.2.1 ex.2.2.1 f.2.2.2.1 f.2.2.2.2.1 ex.2.2.2.1 ex.2.2.2.2.1 ex.2.2.2.2.2 lf) s.heap := hP
  have hl := lv_entry ([.ref (a 0), .int (nI si), .int x]) (n := 4) (Nat.le_of_ble_eq_true rfl)
  rw [lg_entry_eq]
  generalize (lg_sl ([.ref (a 0), .int (nI si), .int x]) ++ List.replicate (4 - (lg_sl ([.ref (a 0), .int (nI si), .int x])).length) Slot.unset).toArray = ls at hl ⊢
  have hl : lv_has ls 4 [(0, .ref (a 0)), (1, .int (nI si)), (2, .int x)] := hl
  have h200 : t.1 ≤ 200 := hT.2.1
  have h60 : b.1 ≤ 60 := hT.2.2.1
  refine lv_iconst (v := nI 0) hx hb dM_child_0 (by decide) ?_
  refine lv_istore_n (lv' := [(3, .int (nI 0)), (0, .ref (a 0)), (1, .int (nI si)), (2, .int x)]) hx hb dM_child_1 rfl hl (by decide) rfl (fun ls hl => ?_)
  have loop1 : ∀ (nn : Nat) (i : Nat), i ≤ t.1 → sk_ff (fun i => (decide (t.2.2.1 i = nI si) && decide (t.2.2.2.1 i = x))) (t.1 - i) i = sk_wn t si x → t.1 - i < nn → ∀ ls : Array Slot, lv_has ls 4 [(3, .int (nI i)), (0, .ref (a 0)), (1, .int (nI si)), (2, .int x)] → W p l e (headSpec wzM_child rzM_child).room s m ([.ref (a 0), .int (nI si), .int x] : List Value).toArray below meth c s.heap [] 0 0 (MQ below (va_Qi (fun r (_ : Unit) => r = sk_wn t si x) (fun _ _ => True) (fun _ => False)) ([.ref (a 0), .int (nI si), .int x] : List Value).toArray s 0 0 (fun _ => False)) (F0 m 2 ls []) := by
    intro nn
    induction nn with
    | zero => intro i hi he hmu; exact absurd hmu (Nat.not_lt_zero _)
    | succ nn ih1 =>
      intro i hi he hmu ls hl
      refine lv_iload_n hx hb dM_child_2 rfl (lv_at hl 0 rfl) ?_
      refine lv_aload_n hx hb dM_child_3 rfl (lv_at hl 1 rfl) ?_
      refine va_get (D := (dC, dI)) (ci := 4) (v := .int (nI t.1)) (C := RM) (T := TM) (N := 20) hx hb hts inM hown hK hP 0 rfl rfl 5 (by decide) (hts _ wfM_19) (fun _ h9 => h9) rfl dM_child_4 ?_
      refine lv_icmp_ge (tgt := 50) hx hb dM_child_7 (by decide) (fun c7 => ?_) (fun c7 => ?_)
      · skip
        have n7 : t.1 ≤ i := (nI_leI (a := t.1) (b := i) (by omega) (by omega)).mp c7
        refine lv_iconst (v := (-1)) hx hb dM_child_50 (by decide) ?_
        exact W.iret (v := (-1)) hx hb hr (fun U9 ht hW => ⟨⟨(-1), (), rfl, sk_ff_end n7 he, trivial⟩, hS.F ht⟩) hS.2.2 dM_child_51
      · skip
        have n7 : ¬ t.1 ≤ i := fun z9 => c7 ((nI_leI (a := t.1) (b := i) (by omega) (by omega)).mpr z9)
        refine lv_aload_n hx hb dM_child_10 rfl (lv_at hl 1 rfl) ?_
        refine va_get (D := (dC, dI)) (ci := 4) (v := .ref (a 5)) (C := RM) (T := TM) (N := 20) hx hb hts inM hown hK hP 0 rfl rfl 7 (by decide) (hts _ wfM_26) (fun _ h9 => h9) rfl dM_child_11 ?_
        refine lv_iload_n hx hb dM_child_14 rfl (lv_at hl 0 rfl) ?_
        refine va_iald hx hb hK hP 5 0 rfl rfl (vp_in_nI (show i < 200 by omega) (by decide)) dM_child_15 ?_
        refine lv_topi (fun x15 e15 => ?_)
        rw [nI_clamp (show i < 2 ^ 31 by omega)] at e15
        refine lv_iload_n hx hb dM_child_16 rfl (lv_at hl 2 rfl) ?_
        refine lv_icmp_ne (tgt := 44) hx hb dM_child_17 (by decide) (fun c17 => ?_) (fun c17 => ?_)
        · skip
          refine lv_iinc (v := nI (i + 1)) (lv' := [(3, .int (nI (i + 1))), (0, .ref (a 0)), (1, .int (nI si)), (2, .int x)]) hx hb dM_child_44 hl (k := 0) rfl (sk_inc _) (by decide) rfl (fun ls hl => ?_)
          refine lv_goto (tgt := 2) hx hb dM_child_47 (by decide) ?_
          exact ih1 (i + 1) (Nat.succ_le_of_lt (Nat.lt_of_not_le n7)) (sk_ff_miss (Nat.lt_of_not_le n7) he (by show (decide (t.2.2.1 i = nI si) && decide (t.2.2.2.1 i = x)) = false; rw [← e15]; simp [c17])) (by omega) ls (lv_sub hl [0, 1, 2, 3] rfl)
        · skip
          obtain ⟨m9, hm9, hl9, hsi9, hna9⟩ := sk_top_na hT hN (Nat.lt_of_not_le n7) (by omega) (e15.symm.trans c17)
          refine lv_aload_n hx hb dM_child_20 rfl (lv_at hl 1 rfl) ?_
          refine va_get (D := (dC, dI)) (ci := 4) (v := .ref (a 7)) (C := RM) (T := TM) (N := 20) hx hb hts inM hown hK hP 0 rfl rfl 9 (by decide) (hts _ wfM_32) (fun _ h9 => h9) rfl dM_child_21 ?_
          refine lv_bipush (v := nI 12) hx hb dM_child_24 (by decide) ?_
          refine lv_iload_n hx hb dM_child_26 rfl (lv_at hl 0 rfl) ?_
          refine lv_imul hx hb dM_child_27 ?_
          refine lv_topi (fun x27 e27 => ?_)
          obtain rfl : x27 = nI (12 * i) := e27.trans (pk_mul _ _)
          refine lv_aload_n hx hb dM_child_28 rfl (lv_at hl 1 rfl) ?_
          refine va_get (D := (dC, dI)) (ci := 4) (v := .ref (a 6)) (C := RM) (T := TM) (N := 20) hx hb hts inM hown hK hP 0 rfl rfl 8 (by decide) (hts _ wfM_29) (fun _ h9 => h9) rfl dM_child_29 ?_
          refine lv_iload_n hx hb dM_child_32 rfl (lv_at hl 0 rfl) ?_
          refine va_iald hx hb hK hP 6 0 rfl rfl (vp_in_nI (show i < 200 by omega) (by decide)) dM_child_33 ?_
          refine lv_topi (fun x33 e33 => ?_)
          rw [nI_clamp (show i < 2 ^ 31 by omega)] at e33
          obtain rfl : x33 = nI (m9 + 1) := e33.trans (hl9)
          refine lv_iadd hx hb dM_child_34 ?_
          refine lv_topi (fun x34 e34 => ?_)
          obtain rfl : x34 = nI ((12 * i) + (m9 + 1)) := e34.trans (nI_add _ _)
          refine lv_iconst (v := nI 1) hx hb dM_child_35 (by decide) ?_
          refine lv_isub hx hb dM_child_36 ?_
          refine lv_topi (fun x36 e36 => ?_)
          obtain rfl : x36 = nI (((12 * i) + (m9 + 1)) - 1) := e36.trans (pk_sub (by omega))
          refine va_iald hx hb hK hP 7 0 rfl rfl (vp_in_nI (show (((12 * i) + (m9 + 1)) - 1) < 2400 by omega) (by decide)) dM_child_37 ?_
          refine lv_topi (fun x37 e37 => ?_)
          rw [nI_clamp (show (((12 * i) + (m9 + 1)) - 1) < 2 ^ 31 by omega)] at e37
          obtain rfl : x37 = t.2.2.2.1 i := e37.trans (by rw [show (12 * i) + (m9 + 1) - 1 = 12 * i + m9 by omega]; exact hna9)
          refine lv_iload_n hx hb dM_child_38 rfl (lv_at hl 3 rfl) ?_
          refine lv_icmp_ne (tgt := 44) hx hb dM_child_39 (by decide) (fun c39 => ?_) (fun c39 => ?_)
          · skip
            refine lv_iinc (v := nI (i + 1)) (lv' := [(3, .int (nI (i + 1))), (0, .ref (a 0)), (1, .int (nI si)), (2, .int x)]) hx hb dM_child_44 hl (k := 0) rfl (sk_inc _) (by decide) rfl (fun ls hl => ?_)
            refine lv_goto (tgt := 2) hx hb dM_child_47 (by decide) ?_
            exact ih1 (i + 1) (Nat.succ_le_of_lt (Nat.lt_of_not_le n7)) (sk_ff_miss (Nat.lt_of_not_le n7) he (by show (decide (t.2.2.1 i = nI si) && decide (t.2.2.2.1 i = x)) = false; simp [c39])) (by omega) ls (lv_sub hl [0, 1, 2, 3] rfl)
          · skip
            refine lv_iload_n hx hb dM_child_42 rfl (lv_at hl 0 rfl) ?_
            exact W.iret (v := nI i) hx hb hr (fun U9 ht hW => ⟨⟨nI i, (), rfl, sk_ff_hit (Nat.lt_of_not_le n7) he (by show (decide (t.2.2.1 i = nI si) && decide (t.2.2.2.1 i = x)) = true; rw [← e15]; simp [c17, c39]), trivial⟩, hS.F ht⟩) hS.2.2 dM_child_43
  exact loop1 (t.1 - 0 + 1) 0 (Nat.zero_le _) (sk_wn_0 hT hs x) (Nat.lt_succ_self _) ls (lv_sub hl [0, 1, 2, 3] rfl)
abbrev wzM_makeEmpty : List Cond := .code yM_makeEmpty cM_makeEmpty 3 (some .int) :: sk_W
abbrev rzM_makeEmpty : Room := { frames := 0, cells := 0, slots := 0, locals := 0 }
set_option maxHeartbeats 4000000 in
set_option maxRecDepth 100000 in
theorem kM_makeEmpty (l : Launch) (dC : Nat → ClassId) (dI : Nat → Nat → Nat) (a : Nat → Nat) (k : Nat → ClassId) (b : sk_Ob) (t : sk_Tr) (f : sk_Fi) (ex : sk_Ex) (lf : sk_F) (th : Int32) (A : Nat → Prop) (x : Int32) (hn : t.1 < 200) : Met l yM_makeEmpty wzM_makeEmpty rzM_makeEmpty (va_Pc [.ref (a 0), .int x] (fun U => sk_PM dC dI a k (b, t, f) ex lf th U ∧ va_D A (sk_wM a k (b, t, f) ex lf th))) (va_Qi (fun r (u : sk_S × sk_Ex × sk_F × Int32) => r = nI t.1 ∧ u = ((b, sk_make t x (-1) (-1) 0, f), ex, lf, th)) (fun u U => va_P (dC, dI) vwCl (sk_wM a k u.1 u.2.1 u.2.2.1 u.2.2.2) U.heap ∧ va_D A (sk_wM a k u.1 u.2.1 u.2.2.1 u.2.2.2)) A) 0 0 A := by
  refine Met.ofW (cc := cM_makeEmpty) (maxL := 3) (ret := (some .int)) (by decide) rfl ?_
  intro p e s m args below meth c s₁ B hml hv
  obtain ⟨rfl, ⟨hP, hK⟩, hD⟩ := hv
  have hx := B.exec
  have hb := B.bytes
  have hr := B.returns
  have hts : ∀ w ∈ sk_W, w.before ([.ref (a 0), .int x] : List Value).toArray s = true := fun w h => atoms_spec (ws := wzM_makeEmpty) B.pre w (List.mem_cons_of_mem _ h)
  have hown : s.vm.findClass RM = some m.cls := findClass_of_methodNamed B.named
  have hlocks := B.notSynchronized
  have hS : va_S A s.heap s.heap [] := va_S.rf
  have hP : va_P (dC, dI) vwCl (sk_wMR a k th (nI b.1) b.2.2.1 b.2.2.2.1 ex.1 (nI t.1) t.2.1 t.2.2.1 t.2.2.2.2 ex.2.1 (nI f.1) f.2.1 f.2.2.1 ex.2.2.1 f.2.2.2.1 f.2.2.2.2.1 ex.2.2.2.1 ex.2.2.2.2.1 ex.2.2.2.2.2 lf) s.heap := hP
  have hD : va_D A (sk_wMR a k th (nI b.1) b.2.2.1 b.2.2.2.1 ex.1 (nI t.1) t.2.1 t.2.2.1 t.2.2.2.2 ex.2.1 (nI f.1) f.2.1 f.2.2.1 ex.2.2.1 f.2.2.2.1 f.2.2.2.2.1 ex.2.2.2.1 ex.2.2.2.2.1 ex.2.2.2.2.2 lf) := hD
  have hl := lv_entry ([.ref (a 0), .int x]) (n := 3) (Nat.le_of_ble_eq_true rfl)
  rw [lg_entry_eq]
  generalize (lg_sl ([.ref (a 0), .int x]) ++ List.replicate (3 - (lg_sl ([.ref (a 0), .int x])).length) Slot.unset).toArray = ls at hl ⊢
  have hl : lv_has ls 3 [(0, .ref (a 0)), (1, .int x)] := hl
  refine lv_aload_n hx hb dM_makeEmpty_0 rfl (lv_at hl 0 rfl) ?_
  refine va_get (D := (dC, dI)) (ci := 4) (v := .int (nI t.1)) (C := RM) (T := TM) (N := 20) hx hb hts inM hown hK hP 0 rfl rfl 5 (by decide) (hts _ wfM_19) (fun _ h9 => h9) rfl dM_makeEmpty_1 ?_
  refine lv_istore_n (lv' := [(2, .int (nI t.1)), (0, .ref (a 0)), (1, .int x)]) hx hb dM_makeEmpty_4 rfl hl (by decide) rfl (fun ls hl => ?_)
  refine lv_aload_n hx hb dM_makeEmpty_5 rfl (lv_at hl 1 rfl) ?_
  refine va_get (D := (dC, dI)) (ci := 4) (v := .ref (a 4)) (C := RM) (T := TM) (N := 20) hx hb hts inM hown hK hP 0 rfl rfl 6 (by decide) (hts _ wfM_23) (fun _ h9 => h9) rfl dM_makeEmpty_6 ?_
  refine lv_iload_n hx hb dM_makeEmpty_9 rfl (lv_at hl 0 rfl) ?_
  refine lv_iload_n hx hb dM_makeEmpty_10 rfl (lv_at hl 2 rfl) ?_
  refine va_iast hx hb hK hP hD hS 4 0 rfl rfl (vp_in_nI (show t.1 < 200 by omega) (by decide)) dM_makeEmpty_11 (fun H locs hP hD hS => ?_)
  rw [nI_clamp (show t.1 < 2 ^ 31 by omega)] at hP hD
  have hP : va_P (dC, dI) vwCl (sk_wMR a k th (nI b.1) b.2.2.1 b.2.2.2.1 ex.1 (nI t.1) (upd t.2.1 t.1 x) t.2.2.1 t.2.2.2.2 ex.2.1 (nI f.1) f.2.1 f.2.2.1 ex.2.2.1 f.2.2.2.1 f.2.2.2.2.1 ex.2.2.2.1 ex.2.2.2.2.1 ex.2.2.2.2.2 lf) H := hP
  have hD : va_D A (sk_wMR a k th (nI b.1) b.2.2.1 b.2.2.2.1 ex.1 (nI t.1) (upd t.2.1 t.1 x) t.2.2.1 t.2.2.2.2 ex.2.1 (nI f.1) f.2.1 f.2.2.1 ex.2.2.1 f.2.2.2.1 f.2.2.2.2.1 ex.2.2.2.1 ex.2.2.2.2.1 ex.2.2.2.2.2 lf) := hD
  refine lv_aload_n hx hb dM_makeEmpty_12 rfl (lv_at hl 1 rfl) ?_
  refine va_get (D := (dC, dI)) (ci := 4) (v := .ref (a 5)) (C := RM) (T := TM) (N := 20) hx hb hts inM hown hK hP 0 rfl rfl 7 (by decide) (hts _ wfM_26) (fun _ h9 => h9) rfl dM_makeEmpty_13 ?_
  refine lv_iload_n hx hb dM_makeEmpty_16 rfl (lv_at hl 0 rfl) ?_
  refine lv_iconst (v := (-1)) hx hb dM_makeEmpty_17 (by decide) ?_
  refine va_iast hx hb hK hP hD hS 5 0 rfl rfl (vp_in_nI (show t.1 < 200 by omega) (by decide)) dM_makeEmpty_18 (fun H locs hP hD hS => ?_)
  rw [nI_clamp (show t.1 < 2 ^ 31 by omega)] at hP hD
  have hP : va_P (dC, dI) vwCl (sk_wMR a k th (nI b.1) b.2.2.1 b.2.2.2.1 ex.1 (nI t.1) (upd t.2.1 t.1 x) (upd t.2.2.1 t.1 (-1)) t.2.2.2.2 ex.2.1 (nI f.1) f.2.1 f.2.2.1 ex.2.2.1 f.2.2.2.1 f.2.2.2.2.1 ex.2.2.2.1 ex.2.2.2.2.1 ex.2.2.2.2.2 lf) H := hP
  have hD : va_D A (sk_wMR a k th (nI b.1) b.2.2.1 b.2.2.2.1 ex.1 (nI t.1) (upd t.2.1 t.1 x) (upd t.2.2.1 t.1 (-1)) t.2.2.2.2 ex.2.1 (nI f.1) f.2.1 f.2.2.1 ex.2.2.1 f.2.2.2.1 f.2.2.2.2.1 ex.2.2.2.1 ex.2.2.2.2.1 ex.2.2.2.2.2 lf) := hD
  refine lv_aload_n hx hb dM_makeEmpty_19 rfl (lv_at hl 1 rfl) ?_
  refine va_get (D := (dC, dI)) (ci := 4) (v := .ref (a 6)) (C := RM) (T := TM) (N := 20) hx hb hts inM hown hK hP 0 rfl rfl 8 (by decide) (hts _ wfM_29) (fun _ h9 => h9) rfl dM_makeEmpty_20 ?_
  refine lv_iload_n hx hb dM_makeEmpty_23 rfl (lv_at hl 0 rfl) ?_
  refine lv_iconst (v := nI 0) hx hb dM_makeEmpty_24 (by decide) ?_
  refine va_iast hx hb hK hP hD hS 6 0 rfl rfl (vp_in_nI (show t.1 < 200 by omega) (by decide)) dM_makeEmpty_25 (fun H locs hP hD hS => ?_)
  rw [nI_clamp (show t.1 < 2 ^ 31 by omega)] at hP hD
  have hP : va_P (dC, dI) vwCl (sk_wMR a k th (nI b.1) b.2.2.1 b.2.2.2.1 ex.1 (nI t.1) (upd t.2.1 t.1 x) (upd t.2.2.1 t.1 (-1)) (upd t.2.2.2.2 t.1 (nI 0)) ex.2.1 (nI f.1) f.2.1 f.2.2.1 ex.2.2.1 f.2.2.2.1 f.2.2.2.2.1 ex.2.2.2.1 ex.2.2.2.2.1 ex.2.2.2.2.2 lf) H := hP
  have hD : va_D A (sk_wMR a k th (nI b.1) b.2.2.1 b.2.2.2.1 ex.1 (nI t.1) (upd t.2.1 t.1 x) (upd t.2.2.1 t.1 (-1)) (upd t.2.2.2.2 t.1 (nI 0)) ex.2.1 (nI f.1) f.2.1 f.2.2.1 ex.2.2.1 f.2.2.2.1 f.2.2.2.2.1 ex.2.2.2.1 ex.2.2.2.2.1 ex.2.2.2.2.2 lf) := hD
  refine lv_aload_n hx hb dM_makeEmpty_26 rfl (lv_at hl 1 rfl) ?_
  refine lv_dup hx hb dM_makeEmpty_27 rfl ?_
  refine va_get (D := (dC, dI)) (ci := 4) (v := .int (nI t.1)) (C := RM) (T := TM) (N := 20) hx hb hts inM hown hK hP 0 rfl rfl 5 (by decide) (hts _ wfM_19) (fun _ h9 => h9) rfl dM_makeEmpty_28 ?_
  refine lv_iconst (v := nI 1) hx hb dM_makeEmpty_31 (by decide) ?_
  refine lv_iadd hx hb dM_makeEmpty_32 ?_
  refine lv_topi (fun x32 e32 => ?_)
  obtain rfl : x32 = nI (t.1 + 1) := e32.trans (nI_add _ _)
  refine va_put (D := (dC, dI)) (ci := 4) (v := .int (nI (t.1 + 1))) (ty := .int) (C := RM) (T := TM) (N := 20) hx hb hts inM tyM tyM_ok nmM hown hK hP hD hS 0 rfl rfl 5 (by decide) (hts _ wfM_19) (fun _ h9 => h9) rfl (by decide +kernel) rfl rfl (Nat.le_of_ble_eq_true rfl) dM_makeEmpty_33 (fun H locs hP hD hS => ?_)
  have hP : va_P (dC, dI) vwCl (sk_wMR a k th (nI b.1) b.2.2.1 b.2.2.2.1 ex.1 (nI (t.1 + 1)) (upd t.2.1 t.1 x) (upd t.2.2.1 t.1 (-1)) (upd t.2.2.2.2 t.1 (nI 0)) ex.2.1 (nI f.1) f.2.1 f.2.2.1 ex.2.2.1 f.2.2.2.1 f.2.2.2.2.1 ex.2.2.2.1 ex.2.2.2.2.1 ex.2.2.2.2.2 lf) H := hP
  have hD : va_D A (sk_wMR a k th (nI b.1) b.2.2.1 b.2.2.2.1 ex.1 (nI (t.1 + 1)) (upd t.2.1 t.1 x) (upd t.2.2.1 t.1 (-1)) (upd t.2.2.2.2 t.1 (nI 0)) ex.2.1 (nI f.1) f.2.1 f.2.2.1 ex.2.2.1 f.2.2.2.1 f.2.2.2.2.1 ex.2.2.2.1 ex.2.2.2.2.1 ex.2.2.2.2.2 lf) := hD
  refine lv_iload_n hx hb dM_makeEmpty_36 rfl (lv_at hl 0 rfl) ?_
  exact W.iret (v := nI t.1) hx hb hr (fun U9 ht hW => ⟨⟨nI t.1, ((b, sk_make t x (-1) (-1) 0, f), ex, lf, th), rfl, ⟨rfl, rfl⟩, sk_endw ht hP hD⟩, hS.F ht⟩) hS.2.2 dM_makeEmpty_37
abbrev wzM_makeChild : List Cond := .code yM_makeChild cM_makeChild 5 (some .int) :: sk_W
abbrev rzM_makeChild : Room := { frames := 0, cells := 0, slots := 0, locals := 0 }
set_option maxHeartbeats 4000000 in
set_option maxRecDepth 100000 in
theorem kM_makeChild (l : Launch) (dC : Nat → ClassId) (dI : Nat → Nat → Nat) (a : Nat → Nat) (k : Nat → ClassId) (b : sk_Ob) (t : sk_Tr) (f : sk_Fi) (ex : sk_Ex) (lf : sk_F) (th : Int32) (A : Nat → Prop) (si : Nat) (x : Int32) (hT : sk_TO b.1 t) (hN : sk_RN t ex.2.1) (hs : si < t.1) (hn : t.1 < 200) (hm : sk_len t si < 12) : Met l yM_makeChild wzM_makeChild rzM_makeChild (va_Pc [.ref (a 0), .int (nI si), .int x] (fun U => sk_PM dC dI a k (b, t, f) ex lf th U ∧ va_D A (sk_wM a k (b, t, f) ex lf th))) (va_Qi (fun r (u : sk_S × sk_Ex × sk_F × Int32) => r = nI t.1 ∧ ∃ na2, u = ((b, sk_grow1 t si x, f), (ex.1, na2, ex.2.2), lf, th) ∧ sk_RN (sk_grow1 t si x) na2) (fun u U => va_P (dC, dI) vwCl (sk_wM a k u.1 u.2.1 u.2.2.1 u.2.2.2) U.heap ∧ va_D A (sk_wM a k u.1 u.2.1 u.2.2.1 u.2.2.2)) A) 0 0 A := by
  refine Met.ofW (cc := cM_makeChild) (maxL := 5) (ret := (some .int)) (by decide) rfl ?_
  intro p e s m args below meth c s₁ B hml hv
  obtain ⟨rfl, ⟨hP, hK⟩, hD⟩ := hv
  have hx := B.exec
  have hb := B.bytes
  have hr := B.returns
  have hts : ∀ w ∈ sk_W, w.before ([.ref (a 0), .int (nI si), .int x] : List Value).toArray s = true := fun w h => atoms_spec (ws := wzM_makeChild) B.pre w (List.mem_cons_of_mem _ h)
  have hown : s.vm.findClass RM = some m.cls := findClass_of_methodNamed B.named
  have hlocks := B.notSynchronized
  have hS : va_S A s.heap s.heap [] := va_S.rf
  have hP : va_P (dC, dI) vwCl (sk_wMR a k th (nI b.1) b.2.2.1 b.2.2.2.1 ex.1 (nI t.1) t.2.1 t.2.2.1 t.2.2.2.2 ex.2.1 (nI f.1) f.2.1 f.2.2.1 ex.2.2.1 f.2.2.2.1 f.2.2.2.2.1 ex.2.2.2.1 ex.2.2.2.2.1 ex.2.2.2.2.2 lf) s.heap := hP
  have hD : va_D A (sk_wMR a k th (nI b.1) b.2.2.1 b.2.2.2.1 ex.1 (nI t.1) t.2.1 t.2.2.1 t.2.2.2.2 ex.2.1 (nI f.1) f.2.1 f.2.2.1 ex.2.2.1 f.2.2.2.1 f.2.2.2.2.1 ex.2.2.2.1 ex.2.2.2.2.1 ex.2.2.2.2.2 lf) := hD
  have hl := lv_entry ([.ref (a 0), .int (nI si), .int x]) (n := 5) (Nat.le_of_ble_eq_true rfl)
  rw [lg_entry_eq]
  generalize (lg_sl ([.ref (a 0), .int (nI si), .int x]) ++ List.replicate (5 - (lg_sl ([.ref (a 0), .int (nI si), .int x])).length) Slot.unset).toArray = ls at hl ⊢
  have hl : lv_has ls 5 [(0, .ref (a 0)), (1, .int (nI si)), (2, .int x)] := hl
  have h200 : t.1 ≤ 200 := hT.2.1
  have h60 : b.1 ≤ 60 := hT.2.2.1
  obtain ⟨g, hg, hle, hlen⟩ := sk_lenOk hT hs
  refine lv_aload_n hx hb dM_makeChild_0 rfl (lv_at hl 0 rfl) ?_
  refine va_get (D := (dC, dI)) (ci := 4) (v := .int (nI t.1)) (C := RM) (T := TM) (N := 20) hx hb hts inM hown hK hP 0 rfl rfl 5 (by decide) (hts _ wfM_19) (fun _ h9 => h9) rfl dM_makeChild_1 ?_
  refine lv_istore_n (lv' := [(3, .int (nI t.1)), (0, .ref (a 0)), (1, .int (nI si)), (2, .int x)]) hx hb dM_makeChild_4 rfl hl (by decide) rfl (fun ls hl => ?_)
  refine lv_aload_n hx hb dM_makeChild_5 rfl (lv_at hl 1 rfl) ?_
  refine va_get (D := (dC, dI)) (ci := 4) (v := .ref (a 4)) (C := RM) (T := TM) (N := 20) hx hb hts inM hown hK hP 0 rfl rfl 6 (by decide) (hts _ wfM_23) (fun _ h9 => h9) rfl dM_makeChild_6 ?_
  refine lv_iload_n hx hb dM_makeChild_9 rfl (lv_at hl 0 rfl) ?_
  refine lv_aload_n hx hb dM_makeChild_10 rfl (lv_at hl 1 rfl) ?_
  refine va_get (D := (dC, dI)) (ci := 4) (v := .ref (a 4)) (C := RM) (T := TM) (N := 20) hx hb hts inM hown hK hP 0 rfl rfl 6 (by decide) (hts _ wfM_23) (fun _ h9 => h9) rfl dM_makeChild_11 ?_
  refine lv_iload_n hx hb dM_makeChild_14 rfl (lv_at hl 2 rfl) ?_
  refine va_iald hx hb hK hP 4 0 rfl rfl (vp_in_nI (show si < 200 by omega) (by decide)) dM_makeChild_15 ?_
  refine lv_topi (fun x15 e15 => ?_)
  rw [nI_clamp (show si < 2 ^ 31 by omega)] at e15
  obtain rfl : x15 = t.2.1 si := e15.trans (rfl)
  refine va_iast hx hb hK hP hD hS 4 0 rfl rfl (vp_in_nI (show t.1 < 200 by omega) (by decide)) dM_makeChild_16 (fun H locs hP hD hS => ?_)
  rw [nI_clamp (show t.1 < 2 ^ 31 by omega)] at hP hD
  have hP : va_P (dC, dI) vwCl (sk_wMR a k th (nI b.1) b.2.2.1 b.2.2.2.1 ex.1 (nI t.1) (upd t.2.1 t.1 (t.2.1 si)) t.2.2.1 t.2.2.2.2 ex.2.1 (nI f.1) f.2.1 f.2.2.1 ex.2.2.1 f.2.2.2.1 f.2.2.2.2.1 ex.2.2.2.1 ex.2.2.2.2.1 ex.2.2.2.2.2 lf) H := hP
  have hD : va_D A (sk_wMR a k th (nI b.1) b.2.2.1 b.2.2.2.1 ex.1 (nI t.1) (upd t.2.1 t.1 (t.2.1 si)) t.2.2.1 t.2.2.2.2 ex.2.1 (nI f.1) f.2.1 f.2.2.1 ex.2.2.1 f.2.2.2.1 f.2.2.2.2.1 ex.2.2.2.1 ex.2.2.2.2.1 ex.2.2.2.2.2 lf) := hD
  refine lv_aload_n hx hb dM_makeChild_17 rfl (lv_at hl 1 rfl) ?_
  refine va_get (D := (dC, dI)) (ci := 4) (v := .ref (a 5)) (C := RM) (T := TM) (N := 20) hx hb hts inM hown hK hP 0 rfl rfl 7 (by decide) (hts _ wfM_26) (fun _ h9 => h9) rfl dM_makeChild_18 ?_
  refine lv_iload_n hx hb dM_makeChild_21 rfl (lv_at hl 0 rfl) ?_
  refine lv_iload_n hx hb dM_makeChild_22 rfl (lv_at hl 2 rfl) ?_
  refine va_iast hx hb hK hP hD hS 5 0 rfl rfl (vp_in_nI (show t.1 < 200 by omega) (by decide)) dM_makeChild_23 (fun H locs hP hD hS => ?_)
  rw [nI_clamp (show t.1 < 2 ^ 31 by omega)] at hP hD
  have hP : va_P (dC, dI) vwCl (sk_wMR a k th (nI b.1) b.2.2.1 b.2.2.2.1 ex.1 (nI t.1) (upd t.2.1 t.1 (t.2.1 si)) (upd t.2.2.1 t.1 (nI si)) t.2.2.2.2 ex.2.1 (nI f.1) f.2.1 f.2.2.1 ex.2.2.1 f.2.2.2.1 f.2.2.2.2.1 ex.2.2.2.1 ex.2.2.2.2.1 ex.2.2.2.2.2 lf) H := hP
  have hD : va_D A (sk_wMR a k th (nI b.1) b.2.2.1 b.2.2.2.1 ex.1 (nI t.1) (upd t.2.1 t.1 (t.2.1 si)) (upd t.2.2.1 t.1 (nI si)) t.2.2.2.2 ex.2.1 (nI f.1) f.2.1 f.2.2.1 ex.2.2.1 f.2.2.2.1 f.2.2.2.2.1 ex.2.2.2.1 ex.2.2.2.2.1 ex.2.2.2.2.2 lf) := hD
  refine lv_aload_n hx hb dM_makeChild_24 rfl (lv_at hl 1 rfl) ?_
  refine va_get (D := (dC, dI)) (ci := 4) (v := .ref (a 6)) (C := RM) (T := TM) (N := 20) hx hb hts inM hown hK hP 0 rfl rfl 8 (by decide) (hts _ wfM_29) (fun _ h9 => h9) rfl dM_makeChild_25 ?_
  refine lv_iload_n hx hb dM_makeChild_28 rfl (lv_at hl 0 rfl) ?_
  refine lv_aload_n hx hb dM_makeChild_29 rfl (lv_at hl 1 rfl) ?_
  refine va_get (D := (dC, dI)) (ci := 4) (v := .ref (a 6)) (C := RM) (T := TM) (N := 20) hx hb hts inM hown hK hP 0 rfl rfl 8 (by decide) (hts _ wfM_29) (fun _ h9 => h9) rfl dM_makeChild_30 ?_
  refine lv_iload_n hx hb dM_makeChild_33 rfl (lv_at hl 2 rfl) ?_
  refine va_iald hx hb hK hP 6 0 rfl rfl (vp_in_nI (show si < 200 by omega) (by decide)) dM_makeChild_34 ?_
  refine lv_topi (fun x34 e34 => ?_)
  rw [nI_clamp (show si < 2 ^ 31 by omega)] at e34
  obtain rfl : x34 = nI g := e34.trans (hle)
  refine lv_iconst (v := nI 1) hx hb dM_makeChild_35 (by decide) ?_
  refine lv_iadd hx hb dM_makeChild_36 ?_
  refine lv_topi (fun x36 e36 => ?_)
  obtain rfl : x36 = nI (g + 1) := e36.trans (nI_add _ _)
  refine va_iast hx hb hK hP hD hS 6 0 rfl rfl (vp_in_nI (show t.1 < 200 by omega) (by decide)) dM_makeChild_37 (fun H locs hP hD hS => ?_)
  rw [nI_clamp (show t.1 < 2 ^ 31 by omega)] at hP hD
  have hP : va_P (dC, dI) vwCl (sk_wMR a k th (nI b.1) b.2.2.1 b.2.2.2.1 ex.1 (nI t.1) (upd t.2.1 t.1 (t.2.1 si)) (upd t.2.2.1 t.1 (nI si)) (upd t.2.2.2.2 t.1 (nI (g + 1))) ex.2.1 (nI f.1) f.2.1 f.2.2.1 ex.2.2.1 f.2.2.2.1 f.2.2.2.2.1 ex.2.2.2.1 ex.2.2.2.2.1 ex.2.2.2.2.2 lf) H := hP
  have hD : va_D A (sk_wMR a k th (nI b.1) b.2.2.1 b.2.2.2.1 ex.1 (nI t.1) (upd t.2.1 t.1 (t.2.1 si)) (upd t.2.2.1 t.1 (nI si)) (upd t.2.2.2.2 t.1 (nI (g + 1))) ex.2.1 (nI f.1) f.2.1 f.2.2.1 ex.2.2.1 f.2.2.2.1 f.2.2.2.2.1 ex.2.2.2.1 ex.2.2.2.2.1 ex.2.2.2.2.2 lf) := hD
  refine lv_iconst (v := nI 0) hx hb dM_makeChild_38 (by decide) ?_
  refine lv_istore (lv' := [(4, .int (nI 0)), (3, .int (nI t.1)), (0, .ref (a 0)), (1, .int (nI si)), (2, .int x)]) hx hb dM_makeChild_39 hl (by decide) rfl (fun ls hl => ?_)
  have loop1 : ∀ (nn : Nat) (j : Nat) (n2 : sk_F), j ≤ g → (∀ q, q < 12 * t.1 → n2 q = ex.2.1 q) → (∀ q, q < j → n2 (12 * t.1 + q) = ex.2.1 (12 * si + q)) → g - j < nn → ∀ (H : Heap) (locs : List Loc), va_P (dC, dI) vwCl (sk_wMR a k th (nI b.1) b.2.2.1 b.2.2.2.1 ex.1 (nI t.1) (upd t.2.1 t.1 (t.2.1 si)) (upd t.2.2.1 t.1 (nI si)) (upd t.2.2.2.2 t.1 (nI (g + 1))) n2 (nI f.1) f.2.1 f.2.2.1 ex.2.2.1 f.2.2.2.1 f.2.2.2.2.1 ex.2.2.2.1 ex.2.2.2.2.1 ex.2.2.2.2.2 lf) H → va_D A (sk_wMR a k th (nI b.1) b.2.2.1 b.2.2.2.1 ex.1 (nI t.1) (upd t.2.1 t.1 (t.2.1 si)) (upd t.2.2.1 t.1 (nI si)) (upd t.2.2.2.2 t.1 (nI (g + 1))) n2 (nI f.1) f.2.1 f.2.2.1 ex.2.2.1 f.2.2.2.1 f.2.2.2.2.1 ex.2.2.2.1 ex.2.2.2.2.1 ex.2.2.2.2.2 lf) → va_S A s.heap H locs → ∀ ls : Array Slot, lv_has ls 5 [(4, .int (nI j)), (3, .int (nI t.1)), (0, .ref (a 0)), (1, .int (nI si)), (2, .int x)] → W p l e (headSpec wzM_makeChild rzM_makeChild).room s m ([.ref (a 0), .int (nI si), .int x] : List Value).toArray below meth c H locs 0 0 (MQ below (va_Qi (fun r (u : sk_S × sk_Ex × sk_F × Int32) => r = nI t.1 ∧ ∃ na2, u = ((b, sk_grow1 t si x, f), (ex.1, na2, ex.2.2), lf, th) ∧ sk_RN (sk_grow1 t si x) na2) (fun u U => va_P (dC, dI) vwCl (sk_wM a k u.1 u.2.1 u.2.2.1 u.2.2.2) U.heap ∧ va_D A (sk_wM a k u.1 u.2.1 u.2.2.1 u.2.2.2)) A) ([.ref (a 0), .int (nI si), .int x] : List Value).toArray s 0 0 A) (F0 m 41 ls []) := by
    intro nn
    induction nn with
    | zero => intro j n2 hj hA9 hB9 hmu; exact absurd hmu (Nat.not_lt_zero _)
    | succ nn ih1 =>
      intro j n2 hj hA9 hB9 hmu H locs hP hD hS ls hl
      refine lv_iload hx hb dM_makeChild_41 (lv_at hl 0 rfl) ?_
      refine lv_aload_n hx hb dM_makeChild_43 rfl (lv_at hl 2 rfl) ?_
      refine va_get (D := (dC, dI)) (ci := 4) (v := .ref (a 6)) (C := RM) (T := TM) (N := 20) hx hb hts inM hown hK hP 0 rfl rfl 8 (by decide) (hts _ wfM_29) (fun _ h9 => h9) rfl dM_makeChild_44 ?_
      refine lv_iload_n hx hb dM_makeChild_47 rfl (lv_at hl 3 rfl) ?_
      refine va_iald hx hb hK hP 6 0 rfl rfl (vp_in_nI (show si < 200 by omega) (by decide)) dM_makeChild_48 ?_
      refine lv_topi (fun x48 e48 => ?_)
      rw [nI_clamp (show si < 2 ^ 31 by omega)] at e48
      obtain rfl : x48 = nI g := e48.trans ((pk_un (by omega)).trans hle)
      refine lv_icmp_ge (tgt := 82) hx hb dM_makeChild_49 (by decide) (fun c49 => ?_) (fun c49 => ?_)
      · skip
        have n49 : g ≤ j := (nI_leI (a := g) (b := j) (by omega) (by omega)).mp c49
        refine lv_aload_n hx hb dM_makeChild_82 rfl (lv_at hl 2 rfl) ?_
        refine va_get (D := (dC, dI)) (ci := 4) (v := .ref (a 7)) (C := RM) (T := TM) (N := 20) hx hb hts inM hown hK hP 0 rfl rfl 9 (by decide) (hts _ wfM_32) (fun _ h9 => h9) rfl dM_makeChild_83 ?_
        refine lv_bipush (v := nI 12) hx hb dM_makeChild_86 (by decide) ?_
        refine lv_iload_n hx hb dM_makeChild_88 rfl (lv_at hl 1 rfl) ?_
        refine lv_imul hx hb dM_makeChild_89 ?_
        refine lv_topi (fun x89 e89 => ?_)
        obtain rfl : x89 = nI (12 * t.1) := e89.trans (pk_mul _ _)
        refine lv_aload_n hx hb dM_makeChild_90 rfl (lv_at hl 2 rfl) ?_
        refine va_get (D := (dC, dI)) (ci := 4) (v := .ref (a 6)) (C := RM) (T := TM) (N := 20) hx hb hts inM hown hK hP 0 rfl rfl 8 (by decide) (hts _ wfM_29) (fun _ h9 => h9) rfl dM_makeChild_91 ?_
        refine lv_iload_n hx hb dM_makeChild_94 rfl (lv_at hl 3 rfl) ?_
        refine va_iald hx hb hK hP 6 0 rfl rfl (vp_in_nI (show si < 200 by omega) (by decide)) dM_makeChild_95 ?_
        refine lv_topi (fun x95 e95 => ?_)
        rw [nI_clamp (show si < 2 ^ 31 by omega)] at e95
        obtain rfl : x95 = nI g := e95.trans ((pk_un (by omega)).trans hle)
        refine lv_iadd hx hb dM_makeChild_96 ?_
        refine lv_topi (fun x96 e96 => ?_)
        obtain rfl : x96 = nI ((12 * t.1) + g) := e96.trans (nI_add _ _)
        refine lv_iload_n hx hb dM_makeChild_97 rfl (lv_at hl 4 rfl) ?_
        refine va_iast hx hb hK hP hD hS 7 0 rfl rfl (vp_in_nI (show ((12 * t.1) + g) < 2400 by omega) (by decide)) dM_makeChild_98 (fun H locs hP hD hS => ?_)
        rw [nI_clamp (show ((12 * t.1) + g) < 2 ^ 31 by omega)] at hP hD
        have hP : va_P (dC, dI) vwCl (sk_wMR a k th (nI b.1) b.2.2.1 b.2.2.2.1 ex.1 (nI t.1) (upd t.2.1 t.1 (t.2.1 si)) (upd t.2.2.1 t.1 (nI si)) (upd t.2.2.2.2 t.1 (nI (g + 1))) (upd n2 ((12 * t.1) + g) x) (nI f.1) f.2.1 f.2.2.1 ex.2.2.1 f.2.2.2.1 f.2.2.2.2.1 ex.2.2.2.1 ex.2.2.2.2.1 ex.2.2.2.2.2 lf) H := hP
        have hD : va_D A (sk_wMR a k th (nI b.1) b.2.2.1 b.2.2.2.1 ex.1 (nI t.1) (upd t.2.1 t.1 (t.2.1 si)) (upd t.2.2.1 t.1 (nI si)) (upd t.2.2.2.2 t.1 (nI (g + 1))) (upd n2 ((12 * t.1) + g) x) (nI f.1) f.2.1 f.2.2.1 ex.2.2.1 f.2.2.2.1 f.2.2.2.2.1 ex.2.2.2.1 ex.2.2.2.2.1 ex.2.2.2.2.2 lf) := hD
        refine lv_aload_n hx hb dM_makeChild_99 rfl (lv_at hl 2 rfl) ?_
        refine lv_dup hx hb dM_makeChild_100 rfl ?_
        refine va_get (D := (dC, dI)) (ci := 4) (v := .int (nI t.1)) (C := RM) (T := TM) (N := 20) hx hb hts inM hown hK hP 0 rfl rfl 5 (by decide) (hts _ wfM_19) (fun _ h9 => h9) rfl dM_makeChild_101 ?_
        refine lv_iconst (v := nI 1) hx hb dM_makeChild_104 (by decide) ?_
        refine lv_iadd hx hb dM_makeChild_105 ?_
        refine lv_topi (fun x105 e105 => ?_)
        obtain rfl : x105 = nI (t.1 + 1) := e105.trans (nI_add _ _)
        refine va_put (D := (dC, dI)) (ci := 4) (v := .int (nI (t.1 + 1))) (ty := .int) (C := RM) (T := TM) (N := 20) hx hb hts inM tyM tyM_ok nmM hown hK hP hD hS 0 rfl rfl 5 (by decide) (hts _ wfM_19) (fun _ h9 => h9) rfl (by decide +kernel) rfl rfl (Nat.le_of_ble_eq_true rfl) dM_makeChild_106 (fun H locs hP hD hS => ?_)
        have hP : va_P (dC, dI) vwCl (sk_wMR a k th (nI b.1) b.2.2.1 b.2.2.2.1 ex.1 (nI (t.1 + 1)) (upd t.2.1 t.1 (t.2.1 si)) (upd t.2.2.1 t.1 (nI si)) (upd t.2.2.2.2 t.1 (nI (g + 1))) (upd n2 ((12 * t.1) + g) x) (nI f.1) f.2.1 f.2.2.1 ex.2.2.1 f.2.2.2.1 f.2.2.2.2.1 ex.2.2.2.1 ex.2.2.2.2.1 ex.2.2.2.2.2 lf) H := hP
        have hD : va_D A (sk_wMR a k th (nI b.1) b.2.2.1 b.2.2.2.1 ex.1 (nI (t.1 + 1)) (upd t.2.1 t.1 (t.2.1 si)) (upd t.2.2.1 t.1 (nI si)) (upd t.2.2.2.2 t.1 (nI (g + 1))) (upd n2 ((12 * t.1) + g) x) (nI f.1) f.2.1 f.2.2.1 ex.2.2.1 f.2.2.2.1 f.2.2.2.2.1 ex.2.2.2.1 ex.2.2.2.2.1 ex.2.2.2.2.2 lf) := hD
        refine lv_iload_n hx hb dM_makeChild_109 rfl (lv_at hl 1 rfl) ?_
        rw [show nI (g + 1) = t.2.2.2.2 si + 1 by rw [hle]; exact (nI_1 g).symm] at hP hD
        exact W.iret (v := nI t.1) hx hb hr (fun U9 ht hW => ⟨⟨nI t.1, ((b, sk_grow1 t si x, f), (ex.1, upd n2 (12 * t.1 + g) x, ex.2.2), lf, th), rfl, ⟨rfl, _, rfl, sk_RN_child hT hN hs (by omega) hle (fun q hq => (pk_un (by omega)).trans (hA9 q hq)) (fun q hq => (pk_un (by omega)).trans (hB9 q (by omega))) pk_us⟩, sk_endw ht hP hD⟩, hS.F ht⟩) hS.2.2 dM_makeChild_110
      · skip
        have n49 : ¬ g ≤ j := fun z9 => c49 ((nI_leI (a := g) (b := j) (by omega) (by omega)).mpr z9)
        refine lv_aload_n hx hb dM_makeChild_52 rfl (lv_at hl 2 rfl) ?_
        refine va_get (D := (dC, dI)) (ci := 4) (v := .ref (a 7)) (C := RM) (T := TM) (N := 20) hx hb hts inM hown hK hP 0 rfl rfl 9 (by decide) (hts _ wfM_32) (fun _ h9 => h9) rfl dM_makeChild_53 ?_
        refine lv_bipush (v := nI 12) hx hb dM_makeChild_56 (by decide) ?_
        refine lv_iload_n hx hb dM_makeChild_58 rfl (lv_at hl 1 rfl) ?_
        refine lv_imul hx hb dM_makeChild_59 ?_
        refine lv_topi (fun x59 e59 => ?_)
        obtain rfl : x59 = nI (12 * t.1) := e59.trans (pk_mul _ _)
        refine lv_iload hx hb dM_makeChild_60 (lv_at hl 0 rfl) ?_
        refine lv_iadd hx hb dM_makeChild_62 ?_
        refine lv_topi (fun x62 e62 => ?_)
        obtain rfl : x62 = nI ((12 * t.1) + j) := e62.trans (nI_add _ _)
        refine lv_aload_n hx hb dM_makeChild_63 rfl (lv_at hl 2 rfl) ?_
        refine va_get (D := (dC, dI)) (ci := 4) (v := .ref (a 7)) (C := RM) (T := TM) (N := 20) hx hb hts inM hown hK hP 0 rfl rfl 9 (by decide) (hts _ wfM_32) (fun _ h9 => h9) rfl dM_makeChild_64 ?_
        refine lv_bipush (v := nI 12) hx hb dM_makeChild_67 (by decide) ?_
        refine lv_iload_n hx hb dM_makeChild_69 rfl (lv_at hl 3 rfl) ?_
        refine lv_imul hx hb dM_makeChild_70 ?_
        refine lv_topi (fun x70 e70 => ?_)
        obtain rfl : x70 = nI (12 * si) := e70.trans (pk_mul _ _)
        refine lv_iload hx hb dM_makeChild_71 (lv_at hl 0 rfl) ?_
        refine lv_iadd hx hb dM_makeChild_73 ?_
        refine lv_topi (fun x73 e73 => ?_)
        obtain rfl : x73 = nI ((12 * si) + j) := e73.trans (nI_add _ _)
        refine va_iald hx hb hK hP 7 0 rfl rfl (vp_in_nI (show ((12 * si) + j) < 2400 by omega) (by decide)) dM_makeChild_74 ?_
        refine lv_topi (fun x74 e74 => ?_)
        rw [nI_clamp (show ((12 * si) + j) < 2 ^ 31 by omega)] at e74
        refine va_iast hx hb hK hP hD hS 7 0 rfl rfl (vp_in_nI (show ((12 * t.1) + j) < 2400 by omega) (by decide)) dM_makeChild_75 (fun H locs hP hD hS => ?_)
        rw [nI_clamp (show ((12 * t.1) + j) < 2 ^ 31 by omega)] at hP hD
        have hP : va_P (dC, dI) vwCl (sk_wMR a k th (nI b.1) b.2.2.1 b.2.2.2.1 ex.1 (nI t.1) (upd t.2.1 t.1 (t.2.1 si)) (upd t.2.2.1 t.1 (nI si)) (upd t.2.2.2.2 t.1 (nI (g + 1))) (upd n2 ((12 * t.1) + j) x74) (nI f.1) f.2.1 f.2.2.1 ex.2.2.1 f.2.2.2.1 f.2.2.2.2.1 ex.2.2.2.1 ex.2.2.2.2.1 ex.2.2.2.2.2 lf) H := hP
        have hD : va_D A (sk_wMR a k th (nI b.1) b.2.2.1 b.2.2.2.1 ex.1 (nI t.1) (upd t.2.1 t.1 (t.2.1 si)) (upd t.2.2.1 t.1 (nI si)) (upd t.2.2.2.2 t.1 (nI (g + 1))) (upd n2 ((12 * t.1) + j) x74) (nI f.1) f.2.1 f.2.2.1 ex.2.2.1 f.2.2.2.1 f.2.2.2.2.1 ex.2.2.2.1 ex.2.2.2.2.1 ex.2.2.2.2.2 lf) := hD
        refine lv_iinc (v := nI (j + 1)) (lv' := [(4, .int (nI (j + 1))), (3, .int (nI t.1)), (0, .ref (a 0)), (1, .int (nI si)), (2, .int x)]) hx hb dM_makeChild_76 hl (k := 0) rfl (sk_inc _) (by decide) rfl (fun ls hl => ?_)
        refine lv_goto (tgt := 41) hx hb dM_makeChild_79 (by decide) ?_
        exact ih1 (j + 1) (upd n2 (12 * t.1 + j) x74) (by omega) (fun q hq => (pk_un (by omega)).trans (hA9 q hq)) (fun q hq => (Nat.lt_or_eq_of_le (Nat.le_of_lt_succ hq)).elim (fun z9 => (pk_un (by omega)).trans (hB9 q z9)) (fun z9 => by subst z9; rw [pk_us, e74]; exact hA9 _ (by omega))) (by omega) _ _ hP hD hS ls (lv_sub hl [0, 1, 2, 3, 4] rfl)
  exact loop1 (g - 0 + 1) 0 ex.2.1 (Nat.zero_le _) (fun _ _ => rfl) (fun q hq => absurd hq (Nat.not_lt_zero q)) (Nat.lt_succ_self _) _ _ hP hD hS ls (lv_sub hl [0, 1, 2, 3, 4] rfl)
abbrev wzM_placeOf : List Cond := .code yM_placeOf cM_placeOf 4 (some .int) :: sk_W
abbrev rzM_placeOf : Room := { frames := 0, cells := 0, slots := 0, locals := 0 }
set_option maxHeartbeats 4000000 in
set_option maxRecDepth 100000 in
theorem kM_placeOf (l : Launch) (dC : Nat → ClassId) (dI : Nat → Nat → Nat) (a : Nat → Nat) (k : Nat → ClassId) (b : sk_Ob) (t : sk_Tr) (f : sk_Fi) (ex : sk_Ex) (lf : sk_F) (th : Int32) (si : Nat) (x : Int32) (hT : sk_TO b.1 t) (hN : sk_RN t ex.2.1) (hs : si < t.1) : Met l yM_placeOf wzM_placeOf rzM_placeOf (va_Pc [.ref (a 0), .int (nI si), .int x] (sk_PM dC dI a k (b, t, f) ex lf th)) (va_Qi (fun r (_ : Unit) => r = sk_place t x si) (fun _ _ => True) (fun _ => False)) 0 0 (fun _ => False) := by
  refine Met.ofW (cc := cM_placeOf) (maxL := 4) (ret := (some .int)) (by decide) rfl ?_
  intro p e s m args below meth c s₁ B hml hv
  obtain ⟨rfl, hP, hK⟩ := hv
  have hx := B.exec
  have hb := B.bytes
  have hr := B.returns
  have hts : ∀ w ∈ sk_W, w.before ([.ref (a 0), .int (nI si), .int x] : List Value).toArray s = true := fun w h => atoms_spec (ws := wzM_placeOf) B.pre w (List.mem_cons_of_mem _ h)
  have hown : s.vm.findClass RM = some m.cls := findClass_of_methodNamed B.named
  have hlocks := B.notSynchronized
  have hS : va_S (fun _ => False) s.heap s.heap [] := va_S.rf
  have hP : va_P (dC, dI) vwCl (sk_wMR a k th (nI b.1) b.2.2.1 b.2.2.2.1 ex.1 (nI t.1) t.2.1 t.2.2.1 t.2.2.2.2 ex.2.1 (nI f.1) f.2.1 f.2.2.1 ex.2.2.1 f.2.2.2.1 f.2.2.2.2.1 ex.2.2.2.1 ex.2.2.2.2.1 ex.2.2.2.2.2 lf) s.heap := hP
  have hl := lv_entry ([.ref (a 0), .int (nI si), .int x]) (n := 4) (Nat.le_of_ble_eq_true rfl)
  rw [lg_entry_eq]
  generalize (lg_sl ([.ref (a 0), .int (nI si), .int x]) ++ List.replicate (4 - (lg_sl ([.ref (a 0), .int (nI si), .int x])).length) Slot.unset).toArray = ls at hl ⊢
  have hl : lv_has ls 4 [(0, .ref (a 0)), (1, .int (nI si)), (2, .int x)] := hl
  have h200 : t.1 ≤ 200 := hT.2.1
  have h60 : b.1 ≤ 60 := hT.2.2.1
  obtain ⟨g, hg, hle, hlen⟩ := sk_lenOk hT hs
  refine lv_iconst (v := nI 0) hx hb dM_placeOf_0 (by decide) ?_
  refine lv_istore_n (lv' := [(3, .int (nI 0)), (0, .ref (a 0)), (1, .int (nI si)), (2, .int x)]) hx hb dM_placeOf_1 rfl hl (by decide) rfl (fun ls hl => ?_)
  have loop1 : ∀ (nn : Nat) (i : Nat), i ≤ g → (∀ j, j < i → ¬ sk_nm t si j = x) → g - i < nn → ∀ ls : Array Slot, lv_has ls 4 [(3, .int (nI i)), (0, .ref (a 0)), (1, .int (nI si)), (2, .int x)] → W p l e (headSpec wzM_placeOf rzM_placeOf).room s m ([.ref (a 0), .int (nI si), .int x] : List Value).toArray below meth c s.heap [] 0 0 (MQ below (va_Qi (fun r (_ : Unit) => r = sk_place t x si) (fun _ _ => True) (fun _ => False)) ([.ref (a 0), .int (nI si), .int x] : List Value).toArray s 0 0 (fun _ => False)) (F0 m 2 ls []) := by
    intro nn
    induction nn with
    | zero => intro i hi hno hmu; exact absurd hmu (Nat.not_lt_zero _)
    | succ nn ih1 =>
      intro i hi hno hmu ls hl
      refine lv_iload_n hx hb dM_placeOf_2 rfl (lv_at hl 0 rfl) ?_
      refine lv_aload_n hx hb dM_placeOf_3 rfl (lv_at hl 1 rfl) ?_
      refine va_get (D := (dC, dI)) (ci := 4) (v := .ref (a 6)) (C := RM) (T := TM) (N := 20) hx hb hts inM hown hK hP 0 rfl rfl 8 (by decide) (hts _ wfM_29) (fun _ h9 => h9) rfl dM_placeOf_4 ?_
      refine lv_iload_n hx hb dM_placeOf_7 rfl (lv_at hl 2 rfl) ?_
      refine va_iald hx hb hK hP 6 0 rfl rfl (vp_in_nI (show si < 200 by omega) (by decide)) dM_placeOf_8 ?_
      refine lv_topi (fun x8 e8 => ?_)
      rw [nI_clamp (show si < 2 ^ 31 by omega)] at e8
      obtain rfl : x8 = nI g := e8.trans (hle)
      refine lv_icmp_ge (tgt := 35) hx hb dM_placeOf_9 (by decide) (fun c9 => ?_) (fun c9 => ?_)
      · skip
        have n9 : g ≤ i := (nI_leI (a := g) (b := i) (by omega) (by omega)).mp c9
        refine lv_iconst (v := (-1)) hx hb dM_placeOf_35 (by decide) ?_
        exact W.iret (v := (-1)) hx hb hr (fun U9 ht hW => ⟨⟨(-1), (), rfl, sk_place_uniq hT hs (Or.inl ⟨rfl, fun j hj => hno j (by omega)⟩), trivial⟩, hS.F ht⟩) hS.2.2 dM_placeOf_36
      · skip
        have n9 : ¬ g ≤ i := fun z9 => c9 ((nI_leI (a := g) (b := i) (by omega) (by omega)).mpr z9)
        refine lv_aload_n hx hb dM_placeOf_12 rfl (lv_at hl 1 rfl) ?_
        refine va_get (D := (dC, dI)) (ci := 4) (v := .ref (a 7)) (C := RM) (T := TM) (N := 20) hx hb hts inM hown hK hP 0 rfl rfl 9 (by decide) (hts _ wfM_32) (fun _ h9 => h9) rfl dM_placeOf_13 ?_
        refine lv_bipush (v := nI 12) hx hb dM_placeOf_16 (by decide) ?_
        refine lv_iload_n hx hb dM_placeOf_18 rfl (lv_at hl 2 rfl) ?_
        refine lv_imul hx hb dM_placeOf_19 ?_
        refine lv_topi (fun x19 e19 => ?_)
        obtain rfl : x19 = nI (12 * si) := e19.trans (pk_mul _ _)
        refine lv_iload_n hx hb dM_placeOf_20 rfl (lv_at hl 0 rfl) ?_
        refine lv_iadd hx hb dM_placeOf_21 ?_
        refine lv_topi (fun x21 e21 => ?_)
        obtain rfl : x21 = nI ((12 * si) + i) := e21.trans (nI_add _ _)
        refine va_iald hx hb hK hP 7 0 rfl rfl (vp_in_nI (show ((12 * si) + i) < 2400 by omega) (by decide)) dM_placeOf_22 ?_
        refine lv_topi (fun x22 e22 => ?_)
        rw [nI_clamp (show ((12 * si) + i) < 2 ^ 31 by omega)] at e22
        obtain rfl : x22 = sk_nm t si i := e22.trans (hN si hs i (by omega))
        refine lv_iload_n hx hb dM_placeOf_23 rfl (lv_at hl 3 rfl) ?_
        refine lv_icmp_ne (tgt := 29) hx hb dM_placeOf_24 (by decide) (fun c24 => ?_) (fun c24 => ?_)
        · skip
          refine lv_iinc (v := nI (i + 1)) (lv' := [(3, .int (nI (i + 1))), (0, .ref (a 0)), (1, .int (nI si)), (2, .int x)]) hx hb dM_placeOf_29 hl (k := 0) rfl (sk_inc _) (by decide) rfl (fun ls hl => ?_)
          refine lv_goto (tgt := 2) hx hb dM_placeOf_32 (by decide) ?_
          exact ih1 (i + 1) (by omega) (fun j hj => (Nat.lt_or_eq_of_le (Nat.le_of_lt_succ hj)).elim (fun z9 => hno j z9) (fun z9 => by subst z9; exact c24)) (by omega) ls (lv_sub hl [0, 1, 2, 3] rfl)
        · skip
          refine lv_iload_n hx hb dM_placeOf_27 rfl (lv_at hl 0 rfl) ?_
          exact W.iret (v := nI i) hx hb hr (fun U9 ht hW => ⟨⟨nI i, (), rfl, sk_place_uniq hT hs (Or.inr ⟨i, by omega, rfl, c24⟩), trivial⟩, hS.F ht⟩) hS.2.2 dM_placeOf_28
  exact loop1 (g - 0 + 1) 0 (Nat.zero_le _) (fun j hj => absurd hj (Nat.not_lt_zero j)) (Nat.lt_succ_self _) ls (lv_sub hl [0, 1, 2, 3] rfl)
abbrev wzM_shapeFor : List Cond := .code yM_shapeFor cM_shapeFor 7 (some .int) :: sk_W
abbrev rzM_shapeFor : Room := { frames := 1, cells := 0, slots := 0, locals := 24 }
set_option maxHeartbeats 4000000 in
set_option maxRecDepth 100000 in
theorem kM_shapeFor (l : Launch) (dC : Nat → ClassId) (dI : Nat → Nat → Nat) (a : Nat → Nat) (k : Nat → ClassId) (b : sk_Ob) (t : sk_Tr) (f : sk_Fi) (ex : sk_Ex) (lf : sk_F) (th : Int32) (A : Nat → Prop) (x : Int32) (ns : List Int32) (hT : sk_TO b.1 t) (hN : sk_RN t ex.2.1) (hx9 : sk_v b.1 x) (hns : ns.length ≤ 12) (hnd : ns.Nodup) (hin : sk_in12 ns) (hrow : ∀ j, j < ns.length → lf j = ns.getD j 0) : Met l yM_shapeFor wzM_shapeFor rzM_shapeFor (va_Pc [.ref (a 0), .int x, .int (nI ns.length)] (fun U => sk_PM dC dI a k (b, t, f) ex lf th U ∧ va_D A (sk_wM a k (b, t, f) ex lf th))) (va_Qi (fun r (u : sk_S × sk_Ex × sk_F × Int32) => (sk_reach t x ns = none ∧ r = -1 ∧ u = ((b, t, f), ex, lf, th)) ∨ ∃ t2 g na2, sk_reach t x ns = some (t2, g) ∧ r = nI g ∧ u = ((b, t2, f), (ex.1, na2, ex.2.2), lf, th) ∧ sk_RN t2 na2) (fun u U => va_P (dC, dI) vwCl (sk_wM a k u.1 u.2.1 u.2.2.1 u.2.2.2) U.heap ∧ va_D A (sk_wM a k u.1 u.2.1 u.2.2.1 u.2.2.2)) A) 0 0 A := by
  refine Met.ofW (cc := cM_shapeFor) (maxL := 7) (ret := (some .int)) (by decide) rfl ?_
  intro p e s m args below meth c s₁ B hml hv
  obtain ⟨rfl, ⟨hP, hK⟩, hD⟩ := hv
  have hx := B.exec
  have hb := B.bytes
  have hr := B.returns
  have hts : ∀ w ∈ sk_W, w.before ([.ref (a 0), .int x, .int (nI ns.length)] : List Value).toArray s = true := fun w h => atoms_spec (ws := wzM_shapeFor) B.pre w (List.mem_cons_of_mem _ h)
  have hown : s.vm.findClass RM = some m.cls := findClass_of_methodNamed B.named
  have hlocks := B.notSynchronized
  have hS : va_S A s.heap s.heap [] := va_S.rf
  have hP : va_P (dC, dI) vwCl (sk_wMR a k th (nI b.1) b.2.2.1 b.2.2.2.1 ex.1 (nI t.1) t.2.1 t.2.2.1 t.2.2.2.2 ex.2.1 (nI f.1) f.2.1 f.2.2.1 ex.2.2.1 f.2.2.2.1 f.2.2.2.2.1 ex.2.2.2.1 ex.2.2.2.2.1 ex.2.2.2.2.2 lf) s.heap := hP
  have hD : va_D A (sk_wMR a k th (nI b.1) b.2.2.1 b.2.2.2.1 ex.1 (nI t.1) t.2.1 t.2.2.1 t.2.2.2.2 ex.2.1 (nI f.1) f.2.1 f.2.2.1 ex.2.2.1 f.2.2.2.1 f.2.2.2.2.1 ex.2.2.2.1 ex.2.2.2.2.1 ex.2.2.2.2.2 lf) := hD
  have hl := lv_entry ([.ref (a 0), .int x, .int (nI ns.length)]) (n := 7) (Nat.le_of_ble_eq_true rfl)
  rw [lg_entry_eq]
  generalize (lg_sl ([.ref (a 0), .int x, .int (nI ns.length)]) ++ List.replicate (7 - (lg_sl ([.ref (a 0), .int x, .int (nI ns.length)])).length) Slot.unset).toArray = ls at hl ⊢
  have hl : lv_has ls 7 [(0, .ref (a 0)), (1, .int x), (2, .int (nI ns.length))] := hl
  have h200 : t.1 ≤ 200 := hT.2.1
  have h60 : b.1 ≤ 60 := hT.2.2.1
  refine lv_aload_n hx hb dM_shapeFor_0 rfl (lv_at hl 0 rfl) ?_
  refine lv_iload_n hx hb dM_shapeFor_1 rfl (lv_at hl 1 rfl) ?_
  refine va_calli (va_runV (As := [.int x]) (rest := []) ⟨hx, hb, hml, hown, hts⟩ (kM_empty l dC dI a k b t f ex lf th x hT) (cwV 1 hts (sk_gV wmM_68 wiM_empty wsM_empty wnM wcM_empty) rfl rfl rfl (by decide +kernel) ⟨Nat.le_of_ble_eq_true rfl, Nat.le_of_ble_eq_true rfl⟩) ⟨sk_blindM _, va_recv hK hP (ci := 4) (q0 := 0) rfl rfl, fun U hU hW => ⟨rfl, sk_atM (S := (b, t, f)) (ex := ex) (lf := lf) (th := th) hP hK hU hW⟩⟩ rfl rfl hl.1 rfl (lv_room (Nat.le_of_ble_eq_true rfl)) dM_shapeFor_2 ⟨Nat.le_of_ble_eq_true rfl, Nat.le_of_ble_eq_true rfl⟩) hS (fun _ _ h => h.elim) (fun _ h => h.elim) (fun r2 u2 U9 H locs ht hvm w2 hB hz hk hS => ?_)
  have hP : va_P (dC, dI) vwCl (sk_wMR a k th (nI b.1) b.2.2.1 b.2.2.2.1 ex.1 (nI t.1) t.2.1 t.2.2.1 t.2.2.2.2 ex.2.1 (nI f.1) f.2.1 f.2.2.1 ex.2.2.1 f.2.2.2.1 f.2.2.2.2.1 ex.2.2.2.1 ex.2.2.2.2.1 ex.2.2.2.2.2 lf) H := hP.kept (fun j q hq => hk q.1 ((hP j q hq).lt) (fun h => h))
  clear hk hB ht
  rcases sk_em_spec t x with ⟨hem, -⟩ | ⟨q0, hq0, hem, ho0, -⟩
  · skip
    obtain rfl : r2 = -1 := w2.trans hem
    refine lv_istore_n (lv' := [(3, .int (-1)), (0, .ref (a 0)), (1, .int x), (2, .int (nI ns.length))]) hx hb dM_shapeFor_5 rfl hl (by decide) rfl (fun ls hl => ?_)
    refine lv_iconst (v := nI 0) hx hb dM_shapeFor_6 (by decide) ?_
    refine lv_istore (lv' := [(4, .int (nI 0)), (3, .int (-1)), (0, .ref (a 0)), (1, .int x), (2, .int (nI ns.length))]) hx hb dM_shapeFor_7 hl (by decide) rfl (fun ls hl => ?_)
    refine lv_iload_n hx hb dM_shapeFor_9 rfl (lv_at hl 1 rfl) ?_
    refine lv_istore (lv' := [(5, .int (-1)), (4, .int (nI 0)), (3, .int (-1)), (0, .ref (a 0)), (1, .int x), (2, .int (nI ns.length))]) hx hb dM_shapeFor_10 hl (by decide) rfl (fun ls hl => ?_)
    refine lv_iload hx hb dM_shapeFor_12 (lv_at hl 0 rfl) ?_
    refine lv_if_lt (tgt := 52) hx hb dM_shapeFor_14 (by decide) (fun _ => ?_) (fun q => absurd (by decide) q)
    refine lv_iload_n hx hb dM_shapeFor_52 rfl (lv_at hl 5 rfl) ?_
    refine lv_iload hx hb dM_shapeFor_53 (lv_at hl 1 rfl) ?_
    refine lv_isub hx hb dM_shapeFor_55 ?_
    refine lv_topi (fun x55 e55 => ?_)
    obtain rfl : x55 = nI (ns.length - 0) := e55.trans (pk_sub (by omega))
    refine lv_iload_n hx hb dM_shapeFor_56 rfl (lv_at hl 2 rfl) ?_
    refine lv_if_ge (tgt := 64) hx hb dM_shapeFor_57 (by decide) (fun q => absurd q (by decide)) (fun _ => ?_)
    refine lv_iconst (v := nI 1) hx hb dM_shapeFor_60 (by decide) ?_
    refine lv_goto (tgt := 65) hx hb dM_shapeFor_61 (by decide) ?_
    refine lv_iadd hx hb dM_shapeFor_65 ?_
    refine lv_topi (fun x65 e65 => ?_)
    obtain rfl : x65 = nI ((ns.length - 0) + 1) := e65.trans (nI_add _ _)
    refine lv_istore (lv' := [(6, .int (nI ((ns.length - 0) + 1))), (5, .int (-1)), (4, .int (nI 0)), (3, .int (-1)), (0, .ref (a 0)), (1, .int x), (2, .int (nI ns.length))]) hx hb dM_shapeFor_66 hl (by decide) rfl (fun ls hl => ?_)
    refine lv_aload_n hx hb dM_shapeFor_68 rfl (lv_at hl 4 rfl) ?_
    refine va_get (D := (dC, dI)) (ci := 4) (v := .int (nI t.1)) (C := RM) (T := TM) (N := 20) hx hb hts inM hown hK hP 0 rfl rfl 5 (by decide) (hts _ wfM_19) (fun _ h9 => h9) rfl dM_shapeFor_69 ?_
    refine lv_iload hx hb dM_shapeFor_72 (lv_at hl 0 rfl) ?_
    refine lv_iadd hx hb dM_shapeFor_74 ?_
    refine lv_topi (fun x74 e74 => ?_)
    obtain rfl : x74 = nI (t.1 + ((ns.length - 0) + 1)) := e74.trans (nI_add _ _)
    refine lv_sipush (v := nI 200) hx hb dM_shapeFor_75 (by decide) ?_
    refine lv_icmp_le (tgt := 83) hx hb dM_shapeFor_78 (by decide) (fun c78 => ?_) (fun c78 => ?_)
    · skip
      have n78 : (t.1 + ((ns.length - 0) + 1)) ≤ 200 := (nI_leI (a := (t.1 + ((ns.length - 0) + 1))) (b := 200) (by omega) (by omega)).mp c78
      refine lv_iload_n hx hb dM_shapeFor_83 rfl (lv_at hl 3 rfl) ?_
      refine lv_if_ge (tgt := 93) hx hb dM_shapeFor_84 (by decide) (fun q => absurd q (by decide)) (fun _ => ?_)
      refine lv_aload_n hx hb dM_shapeFor_87 rfl (lv_at hl 4 rfl) ?_
      refine lv_iload_n hx hb dM_shapeFor_88 rfl (lv_at hl 5 rfl) ?_
      refine va_calli (va_runV (As := [.int x]) (rest := []) ⟨hx, hb, hml, hown, hts⟩ (kM_makeEmpty l dC dI a k b t f ex lf th A x (by omega)) (cwV 1 hts (sk_gV wmM_76 wiM_makeEmpty wsM_makeEmpty wnM wcM_makeEmpty) rfl rfl rfl (by decide +kernel) ⟨Nat.le_of_ble_eq_true rfl, Nat.le_of_ble_eq_true rfl⟩) ⟨sk_blindMD _, va_recv hK hP (ci := 4) (q0 := 0) rfl rfl, fun U hU hW => ⟨rfl, sk_atM (S := (b, t, f)) (ex := ex) (lf := lf) (th := th) hP hK hU hW, hD⟩⟩ rfl rfl hl.1 rfl (lv_room (Nat.le_of_ble_eq_true rfl)) dM_shapeFor_89 ⟨Nat.le_of_ble_eq_true rfl, Nat.le_of_ble_eq_true rfl⟩) hS (fun _ _ h => h) (fun _ h => h) (fun r89 u89 U9 H locs ht hvm w89 hB hz hk hS => ?_)
      obtain ⟨hP, hD⟩ := hB
      rw [ht] at hP
      obtain ⟨rfl, rfl⟩ := w89
      have hP : va_P (dC, dI) vwCl (sk_wMR a k th (nI b.1) b.2.2.1 b.2.2.2.1 ex.1 (nI (sk_make t x (-1) (-1) 0).1) ((sk_make t x (-1) (-1) 0).2.1) ((sk_make t x (-1) (-1) 0).2.2.1) ((sk_make t x (-1) (-1) 0).2.2.2.2) ex.2.1 (nI f.1) f.2.1 f.2.2.1 ex.2.2.1 f.2.2.2.1 f.2.2.2.2.1 ex.2.2.2.1 ex.2.2.2.2.1 ex.2.2.2.2.2 lf) H := hP
      have hD : va_D A (sk_wMR a k th (nI b.1) b.2.2.1 b.2.2.2.1 ex.1 (nI (sk_make t x (-1) (-1) 0).1) ((sk_make t x (-1) (-1) 0).2.1) ((sk_make t x (-1) (-1) 0).2.2.1) ((sk_make t x (-1) (-1) 0).2.2.2.2) ex.2.1 (nI f.1) f.2.1 f.2.2.1 ex.2.2.1 f.2.2.2.1 f.2.2.2.2.1 ex.2.2.2.1 ex.2.2.2.2.1 ex.2.2.2.2.2 lf) := hD
      refine lv_istore_n (lv' := [(3, .int (nI t.1)), (6, .int (nI ((ns.length - 0) + 1))), (5, .int (-1)), (4, .int (nI 0)), (0, .ref (a 0)), (1, .int x), (2, .int (nI ns.length))]) hx hb dM_shapeFor_92 rfl hl (by decide) rfl (fun ls hl => ?_)
      have loop2 : ∀ (nn : Nat) (j q2 : Nat) (t2 : sk_Tr) (n2 : sk_F), j ≤ ns.length → q2 < t2.1 → t2.1 + (ns.length - j) ≤ 200 → sk_reach t x ns = some (sk_mk t2 q2 (ns.drop j)) → sk_TO b.1 t2 → sk_RN t2 n2 → (sk_names t2 q2 ++ ns.drop j).Nodup → sk_in12 (sk_names t2 q2 ++ ns.drop j) → ns.length - j < nn → ∀ (H : Heap) (locs : List Loc), va_P (dC, dI) vwCl (sk_wMR a k th (nI b.1) b.2.2.1 b.2.2.2.1 ((ex.1, n2, ex.2.2).1) (nI t2.1) t2.2.1 t2.2.2.1 t2.2.2.2.2 ((ex.1, n2, ex.2.2).2.1) (nI f.1) f.2.1 f.2.2.1 ((ex.1, n2, ex.2.2).2.2.1) f.2.2.2.1 f.2.2.2.2.1 ((ex.1, n2, ex.2.2).2.2.2.1) ((ex.1, n2, ex.2.2).2.2.2.2.1) ((ex.1, n2, ex.2.2).2.2.2.2.2) lf) H → va_D A (sk_wMR a k th (nI b.1) b.2.2.1 b.2.2.2.1 ((ex.1, n2, ex.2.2).1) (nI t2.1) t2.2.1 t2.2.2.1 t2.2.2.2.2 ((ex.1, n2, ex.2.2).2.1) (nI f.1) f.2.1 f.2.2.1 ((ex.1, n2, ex.2.2).2.2.1) f.2.2.2.1 f.2.2.2.2.1 ((ex.1, n2, ex.2.2).2.2.2.1) ((ex.1, n2, ex.2.2).2.2.2.2.1) ((ex.1, n2, ex.2.2).2.2.2.2.2) lf) → va_S A s.heap H locs → ∀ ls : Array Slot, lv_has ls 7 [(4, .int (nI j)), (3, .int (nI q2)), (0, .ref (a 0)), (2, .int (nI ns.length))] → W p l e (headSpec wzM_shapeFor rzM_shapeFor).room s m ([.ref (a 0), .int x, .int (nI ns.length)] : List Value).toArray below meth c H locs 0 0 (MQ below (va_Qi (fun r (u : sk_S × sk_Ex × sk_F × Int32) => (sk_reach t x ns = none ∧ r = -1 ∧ u = ((b, t, f), ex, lf, th)) ∨ ∃ t2 g na2, sk_reach t x ns = some (t2, g) ∧ r = nI g ∧ u = ((b, t2, f), (ex.1, na2, ex.2.2), lf, th) ∧ sk_RN t2 na2) (fun u U => va_P (dC, dI) vwCl (sk_wM a k u.1 u.2.1 u.2.2.1 u.2.2.2) U.heap ∧ va_D A (sk_wM a k u.1 u.2.1 u.2.2.1 u.2.2.2)) A) ([.ref (a 0), .int x, .int (nI ns.length)] : List Value).toArray s 0 0 A) (F0 m 93 ls []) := by
        intro nn
        induction nn with
        | zero => intro j q2 t2 n2 hj hq2 hcap hm hT2 hN2 hnd2 hin2 hmu; exact absurd hmu (Nat.not_lt_zero _)
        | succ nn ih2 =>
          intro j q2 t2 n2 hj hq2 hcap hm hT2 hN2 hnd2 hin2 hmu H locs hP hD hS ls hl
          refine lv_iload hx hb dM_shapeFor_93 (lv_at hl 0 rfl) ?_
          refine lv_iload_n hx hb dM_shapeFor_95 rfl (lv_at hl 3 rfl) ?_
          refine lv_icmp_ge (tgt := 118) hx hb dM_shapeFor_96 (by decide) (fun c96 => ?_) (fun c96 => ?_)
          · skip
            have n96 : ns.length ≤ j := (nI_leI (a := ns.length) (b := j) (by omega) (by omega)).mp c96
            refine lv_iload_n hx hb dM_shapeFor_118 rfl (lv_at hl 1 rfl) ?_
            exact W.iret (v := nI q2) hx hb hr (fun U9 ht hW => ⟨⟨nI q2, ((b, t2, f), (ex.1, n2, ex.2.2), lf, th), rfl, Or.inr ⟨t2, q2, n2, by rw [hm, sk_mk_end n96], rfl, rfl, hN2⟩, sk_endw ht hP hD⟩, hS.F ht⟩) hS.2.2 dM_shapeFor_119
          · skip
            have n96 : ¬ ns.length ≤ j := fun z9 => c96 ((nI_leI (a := ns.length) (b := j) (by omega) (by omega)).mpr z9)
            refine lv_aload_n hx hb dM_shapeFor_99 rfl (lv_at hl 2 rfl) ?_
            refine lv_iload_n hx hb dM_shapeFor_100 rfl (lv_at hl 1 rfl) ?_
            refine lv_aload_n hx hb dM_shapeFor_101 rfl (lv_at hl 2 rfl) ?_
            refine va_get (D := (dC, dI)) (ci := 4) (v := .ref (a 16)) (C := RM) (T := TM) (N := 20) hx hb hts inM hown hK hP 0 rfl rfl 19 (by decide) (hts _ wfM_59) (fun _ h9 => h9) rfl dM_shapeFor_102 ?_
            refine lv_iload hx hb dM_shapeFor_105 (lv_at hl 0 rfl) ?_
            refine va_iald hx hb hK hP 16 0 rfl rfl (vp_in_nI (show j < 12 by omega) (by decide)) dM_shapeFor_107 ?_
            refine lv_topi (fun x107 e107 => ?_)
            rw [nI_clamp (show j < 2 ^ 31 by omega)] at e107
            obtain rfl : x107 = ns.getD j 0 := e107.trans (hrow j (by omega))
            obtain ⟨z1, z2, z3, z4⟩ := sk_step hT2 hq2 (by omega) (by omega) hnd2 hin2
            refine va_calli (va_runV (As := [.int (nI q2), .int (ns.getD j 0)]) (rest := []) ⟨hx, hb, hml, hown, hts⟩ (kM_makeChild l dC dI a k b t2 f (ex.1, n2, ex.2.2) lf th A q2 (ns.getD j 0) hT2 hN2 hq2 (by omega) z4) (cwV 2 hts (sk_gV wmM_79 wiM_makeChild wsM_makeChild wnM wcM_makeChild) rfl rfl rfl (by decide +kernel) ⟨Nat.le_of_ble_eq_true rfl, Nat.le_of_ble_eq_true rfl⟩) ⟨sk_blindMD _, va_recv hK hP (ci := 4) (q0 := 0) rfl rfl, fun U hU hW => ⟨rfl, sk_atM (S := (b, t2, f)) (ex := (ex.1, n2, ex.2.2)) (lf := lf) (th := th) hP hK hU hW, hD⟩⟩ rfl rfl hl.1 rfl (lv_room (Nat.le_of_ble_eq_true rfl)) dM_shapeFor_108 ⟨Nat.le_of_ble_eq_true rfl, Nat.le_of_ble_eq_true rfl⟩) hS (fun _ _ h => h) (fun _ h => h) (fun r108 u108 U9 H locs ht hvm w108 hB hz hk hS => ?_)
            obtain ⟨hP, hD⟩ := hB
            rw [ht] at hP
            obtain ⟨rfl, na3, rfl, hN3⟩ := w108
            have hP : va_P (dC, dI) vwCl (sk_wMR a k th (nI b.1) b.2.2.1 b.2.2.2.1 ((ex.1, na3, ex.2.2).1) (nI (sk_grow1 t2 q2 (ns.getD j 0)).1) ((sk_grow1 t2 q2 (ns.getD j 0)).2.1) ((sk_grow1 t2 q2 (ns.getD j 0)).2.2.1) ((sk_grow1 t2 q2 (ns.getD j 0)).2.2.2.2) ((ex.1, na3, ex.2.2).2.1) (nI f.1) f.2.1 f.2.2.1 ((ex.1, na3, ex.2.2).2.2.1) f.2.2.2.1 f.2.2.2.2.1 ((ex.1, na3, ex.2.2).2.2.2.1) ((ex.1, na3, ex.2.2).2.2.2.2.1) ((ex.1, na3, ex.2.2).2.2.2.2.2) lf) H := hP
            have hD : va_D A (sk_wMR a k th (nI b.1) b.2.2.1 b.2.2.2.1 ((ex.1, na3, ex.2.2).1) (nI (sk_grow1 t2 q2 (ns.getD j 0)).1) ((sk_grow1 t2 q2 (ns.getD j 0)).2.1) ((sk_grow1 t2 q2 (ns.getD j 0)).2.2.1) ((sk_grow1 t2 q2 (ns.getD j 0)).2.2.2.2) ((ex.1, na3, ex.2.2).2.1) (nI f.1) f.2.1 f.2.2.1 ((ex.1, na3, ex.2.2).2.2.1) f.2.2.2.1 f.2.2.2.2.1 ((ex.1, na3, ex.2.2).2.2.2.1) ((ex.1, na3, ex.2.2).2.2.2.2.1) ((ex.1, na3, ex.2.2).2.2.2.2.2) lf) := hD
            refine lv_istore_n (lv' := [(3, .int (nI t2.1)), (4, .int (nI j)), (0, .ref (a 0)), (2, .int (nI ns.length))]) hx hb dM_shapeFor_111 rfl hl (by decide) rfl (fun ls hl => ?_)
            refine lv_iinc (v := nI (j + 1)) (lv' := [(4, .int (nI (j + 1))), (3, .int (nI t2.1)), (0, .ref (a 0)), (2, .int (nI ns.length))]) hx hb dM_shapeFor_112 hl (k := 1) rfl (sk_inc _) (by decide) rfl (fun ls hl => ?_)
            refine lv_goto (tgt := 93) hx hb dM_shapeFor_115 (by decide) ?_
            exact ih2 (j + 1) t2.1 (sk_grow1 t2 q2 (ns.getD j 0)) na3 (by omega) (Nat.lt_succ_self _) ((show t2.1 + 1 + (ns.length - (j + 1)) ≤ 200 by omega)) (by rw [hm, sk_mk_step (by omega)]) (z1) (hN3) (z2) (z3) (by omega) _ _ hP hD hS ls (lv_sub hl [0, 1, 2, 3] rfl)
      exact loop2 (ns.length - 0 + 1) 0 t.1 (sk_make t x (-1) (-1) 0) ex.2.1 (by omega) (Nat.lt_succ_self _) ((show t.1 + 1 + (ns.length - 0) ≤ 200 by omega)) (sk_reach_s1 hem (by omega)) (sk_TO_empty hT (by omega) hx9) (sk_RN_empty hT hN) (by rw [sk_names_m]; exact hnd) (by rw [sk_names_m]; exact hin) (Nat.lt_succ_self _) _ _ hP hD hS ls (lv_sub hl [3, 0, 4, 6] rfl)
    · skip
      have n78 : ¬ (t.1 + ((ns.length - 0) + 1)) ≤ 200 := fun z9 => c78 ((nI_leI (a := (t.1 + ((ns.length - 0) + 1))) (b := 200) (by omega) (by omega)).mpr z9)
      refine lv_iconst (v := (-1)) hx hb dM_shapeFor_81 (by decide) ?_
      exact W.iret (v := (-1)) hx hb hr (fun U9 ht hW => ⟨⟨(-1), ((b, t, f), ex, lf, th), rfl, Or.inl ⟨sk_reach_n1 hem (by omega), rfl, rfl⟩, sk_endw ht hP hD⟩, hS.F ht⟩) hS.2.2 dM_shapeFor_82
  · skip
    obtain rfl : r2 = nI q0 := w2.trans hem
    refine lv_istore_n (lv' := [(3, .int (nI q0)), (0, .ref (a 0)), (1, .int x), (2, .int (nI ns.length))]) hx hb dM_shapeFor_5 rfl hl (by decide) rfl (fun ls hl => ?_)
    refine lv_iconst (v := nI 0) hx hb dM_shapeFor_6 (by decide) ?_
    refine lv_istore (lv' := [(4, .int (nI 0)), (3, .int (nI q0)), (0, .ref (a 0)), (1, .int x), (2, .int (nI ns.length))]) hx hb dM_shapeFor_7 hl (by decide) rfl (fun ls hl => ?_)
    refine lv_iload_n hx hb dM_shapeFor_9 rfl (lv_at hl 1 rfl) ?_
    refine lv_istore (lv' := [(5, .int (nI q0)), (4, .int (nI 0)), (3, .int (nI q0)), (0, .ref (a 0)), (1, .int x), (2, .int (nI ns.length))]) hx hb dM_shapeFor_10 hl (by decide) rfl (fun ls hl => ?_)
    have loop1 : ∀ (nn : Nat) (i q : Nat), i ≤ ns.length → q < t.1 → sk_down t q (ns.drop i) = sk_down t q0 ns → sk_names t q ++ ns.drop i = ns → ns.length - i < nn → ∀ (H : Heap) (locs : List Loc), va_P (dC, dI) vwCl (sk_wMR a k th (nI b.1) b.2.2.1 b.2.2.2.1 ex.1 (nI t.1) t.2.1 t.2.2.1 t.2.2.2.2 ex.2.1 (nI f.1) f.2.1 f.2.2.1 ex.2.2.1 f.2.2.2.1 f.2.2.2.2.1 ex.2.2.2.1 ex.2.2.2.2.1 ex.2.2.2.2.2 lf) H → va_D A (sk_wMR a k th (nI b.1) b.2.2.1 b.2.2.2.1 ex.1 (nI t.1) t.2.1 t.2.2.1 t.2.2.2.2 ex.2.1 (nI f.1) f.2.1 f.2.2.1 ex.2.2.1 f.2.2.2.1 f.2.2.2.2.1 ex.2.2.2.1 ex.2.2.2.2.1 ex.2.2.2.2.2 lf) → va_S A s.heap H locs → ∀ ls : Array Slot, lv_has ls 7 [(5, .int (nI q)), (4, .int (nI i)), (3, .int (nI q)), (0, .ref (a 0)), (1, .int x), (2, .int (nI ns.length))] → W p l e (headSpec wzM_shapeFor rzM_shapeFor).room s m ([.ref (a 0), .int x, .int (nI ns.length)] : List Value).toArray below meth c H locs 0 0 (MQ below (va_Qi (fun r (u : sk_S × sk_Ex × sk_F × Int32) => (sk_reach t x ns = none ∧ r = -1 ∧ u = ((b, t, f), ex, lf, th)) ∨ ∃ t2 g na2, sk_reach t x ns = some (t2, g) ∧ r = nI g ∧ u = ((b, t2, f), (ex.1, na2, ex.2.2), lf, th) ∧ sk_RN t2 na2) (fun u U => va_P (dC, dI) vwCl (sk_wM a k u.1 u.2.1 u.2.2.1 u.2.2.2) U.heap ∧ va_D A (sk_wM a k u.1 u.2.1 u.2.2.1 u.2.2.2)) A) ([.ref (a 0), .int x, .int (nI ns.length)] : List Value).toArray s 0 0 A) (F0 m 12 ls []) := by
      intro nn
      induction nn with
      | zero => intro i q hi hq hd hnm hmu; exact absurd hmu (Nat.not_lt_zero _)
      | succ nn ih1 =>
        intro i q hi hq hd hnm hmu H locs hP hD hS ls hl
        refine lv_iload hx hb dM_shapeFor_12 (lv_at hl 0 rfl) ?_
        refine lv_if_lt (tgt := 52) hx hb dM_shapeFor_14 (by decide) (fun c14 => ?_) (fun c14 => ?_)
        · skip
          have n14 : q < 0 := (nI_ltI (a := q) (b := 0) (by omega) (by omega)).mp c14
          omega
        · skip
          have n14 : ¬ q < 0 := fun z9 => c14 ((nI_ltI (a := q) (b := 0) (by omega) (by omega)).mpr z9)
          refine lv_iload hx hb dM_shapeFor_17 (lv_at hl 1 rfl) ?_
          refine lv_iload_n hx hb dM_shapeFor_19 rfl (lv_at hl 5 rfl) ?_
          refine lv_icmp_ge (tgt := 52) hx hb dM_shapeFor_20 (by decide) (fun c20 => ?_) (fun c20 => ?_)
          · skip
            have n20 : ns.length ≤ i := (nI_leI (a := ns.length) (b := i) (by omega) (by omega)).mp c20
            refine lv_iload_n hx hb dM_shapeFor_52 rfl (lv_at hl 5 rfl) ?_
            refine lv_iload hx hb dM_shapeFor_53 (lv_at hl 1 rfl) ?_
            refine lv_isub hx hb dM_shapeFor_55 ?_
            refine lv_topi (fun x55 e55 => ?_)
            obtain rfl : x55 = nI (ns.length - i) := e55.trans (pk_sub (by omega))
            refine lv_iload_n hx hb dM_shapeFor_56 rfl (lv_at hl 2 rfl) ?_
            refine lv_if_ge (tgt := 64) hx hb dM_shapeFor_57 (by decide) (fun c57 => ?_) (fun c57 => ?_)
            · skip
              have n57 : 0 ≤ q := (nI_leI (a := 0) (b := q) (by omega) (by omega)).mp c57
              refine lv_iconst (v := nI 0) hx hb dM_shapeFor_64 (by decide) ?_
              refine lv_iadd hx hb dM_shapeFor_65 ?_
              refine lv_topi (fun x65 e65 => ?_)
              obtain rfl : x65 = nI ((ns.length - i) + 0) := e65.trans (nI_add _ _)
              refine lv_istore (lv' := [(6, .int (nI ((ns.length - i) + 0))), (5, .int (nI q)), (4, .int (nI i)), (3, .int (nI q)), (0, .ref (a 0)), (1, .int x), (2, .int (nI ns.length))]) hx hb dM_shapeFor_66 hl (by decide) rfl (fun ls hl => ?_)
              refine lv_aload_n hx hb dM_shapeFor_68 rfl (lv_at hl 4 rfl) ?_
              refine va_get (D := (dC, dI)) (ci := 4) (v := .int (nI t.1)) (C := RM) (T := TM) (N := 20) hx hb hts inM hown hK hP 0 rfl rfl 5 (by decide) (hts _ wfM_19) (fun _ h9 => h9) rfl dM_shapeFor_69 ?_
              refine lv_iload hx hb dM_shapeFor_72 (lv_at hl 0 rfl) ?_
              refine lv_iadd hx hb dM_shapeFor_74 ?_
              refine lv_topi (fun x74 e74 => ?_)
              obtain rfl : x74 = nI (t.1 + ((ns.length - i) + 0)) := e74.trans (nI_add _ _)
              refine lv_sipush (v := nI 200) hx hb dM_shapeFor_75 (by decide) ?_
              refine lv_icmp_le (tgt := 83) hx hb dM_shapeFor_78 (by decide) (fun c78 => ?_) (fun c78 => ?_)
              · skip
                have n78 : (t.1 + ((ns.length - i) + 0)) ≤ 200 := (nI_leI (a := (t.1 + ((ns.length - i) + 0))) (b := 200) (by omega) (by omega)).mp c78
                refine lv_iload_n hx hb dM_shapeFor_83 rfl (lv_at hl 3 rfl) ?_
                refine lv_if_ge (tgt := 93) hx hb dM_shapeFor_84 (by decide) (fun c84 => ?_) (fun c84 => ?_)
                · skip
                  have n84 : 0 ≤ q := (nI_leI (a := 0) (b := q) (by omega) (by omega)).mp c84
                  have loop2 : ∀ (nn : Nat) (j q2 : Nat) (t2 : sk_Tr) (n2 : sk_F), j ≤ ns.length → q2 < t2.1 → t2.1 + (ns.length - j) ≤ 200 → sk_reach t x ns = some (sk_mk t2 q2 (ns.drop j)) → sk_TO b.1 t2 → sk_RN t2 n2 → (sk_names t2 q2 ++ ns.drop j).Nodup → sk_in12 (sk_names t2 q2 ++ ns.drop j) → ns.length - j < nn → ∀ (H : Heap) (locs : List Loc), va_P (dC, dI) vwCl (sk_wMR a k th (nI b.1) b.2.2.1 b.2.2.2.1 ((ex.1, n2, ex.2.2).1) (nI t2.1) t2.2.1 t2.2.2.1 t2.2.2.2.2 ((ex.1, n2, ex.2.2).2.1) (nI f.1) f.2.1 f.2.2.1 ((ex.1, n2, ex.2.2).2.2.1) f.2.2.2.1 f.2.2.2.2.1 ((ex.1, n2, ex.2.2).2.2.2.1) ((ex.1, n2, ex.2.2).2.2.2.2.1) ((ex.1, n2, ex.2.2).2.2.2.2.2) lf) H → va_D A (sk_wMR a k th (nI b.1) b.2.2.1 b.2.2.2.1 ((ex.1, n2, ex.2.2).1) (nI t2.1) t2.2.1 t2.2.2.1 t2.2.2.2.2 ((ex.1, n2, ex.2.2).2.1) (nI f.1) f.2.1 f.2.2.1 ((ex.1, n2, ex.2.2).2.2.1) f.2.2.2.1 f.2.2.2.2.1 ((ex.1, n2, ex.2.2).2.2.2.1) ((ex.1, n2, ex.2.2).2.2.2.2.1) ((ex.1, n2, ex.2.2).2.2.2.2.2) lf) → va_S A s.heap H locs → ∀ ls : Array Slot, lv_has ls 7 [(4, .int (nI j)), (3, .int (nI q2)), (0, .ref (a 0)), (2, .int (nI ns.length))] → W p l e (headSpec wzM_shapeFor rzM_shapeFor).room s m ([.ref (a 0), .int x, .int (nI ns.length)] : List Value).toArray below meth c H locs 0 0 (MQ below (va_Qi (fun r (u : sk_S × sk_Ex × sk_F × Int32) => (sk_reach t x ns = none ∧ r = -1 ∧ u = ((b, t, f), ex, lf, th)) ∨ ∃ t2 g na2, sk_reach t x ns = some (t2, g) ∧ r = nI g ∧ u = ((b, t2, f), (ex.1, na2, ex.2.2), lf, th) ∧ sk_RN t2 na2) (fun u U => va_P (dC, dI) vwCl (sk_wM a k u.1 u.2.1 u.2.2.1 u.2.2.2) U.heap ∧ va_D A (sk_wM a k u.1 u.2.1 u.2.2.1 u.2.2.2)) A) ([.ref (a 0), .int x, .int (nI ns.length)] : List Value).toArray s 0 0 A) (F0 m 93 ls []) := by
                    intro nn
                    induction nn with
                    | zero => intro j q2 t2 n2 hj hq2 hcap hm hT2 hN2 hnd2 hin2 hmu; exact absurd hmu (Nat.not_lt_zero _)
                    | succ nn ih2 =>
                      intro j q2 t2 n2 hj hq2 hcap hm hT2 hN2 hnd2 hin2 hmu H locs hP hD hS ls hl
                      refine lv_iload hx hb dM_shapeFor_93 (lv_at hl 0 rfl) ?_
                      refine lv_iload_n hx hb dM_shapeFor_95 rfl (lv_at hl 3 rfl) ?_
                      refine lv_icmp_ge (tgt := 118) hx hb dM_shapeFor_96 (by decide) (fun c96 => ?_) (fun c96 => ?_)
                      · skip
                        have n96 : ns.length ≤ j := (nI_leI (a := ns.length) (b := j) (by omega) (by omega)).mp c96
                        refine lv_iload_n hx hb dM_shapeFor_118 rfl (lv_at hl 1 rfl) ?_
                        exact W.iret (v := nI q2) hx hb hr (fun U9 ht hW => ⟨⟨nI q2, ((b, t2, f), (ex.1, n2, ex.2.2), lf, th), rfl, Or.inr ⟨t2, q2, n2, by rw [hm, sk_mk_end n96], rfl, rfl, hN2⟩, sk_endw ht hP hD⟩, hS.F ht⟩) hS.2.2 dM_shapeFor_119
                      · skip
                        have n96 : ¬ ns.length ≤ j := fun z9 => c96 ((nI_leI (a := ns.length) (b := j) (by omega) (by omega)).mpr z9)
                        refine lv_aload_n hx hb dM_shapeFor_99 rfl (lv_at hl 2 rfl) ?_
                        refine lv_iload_n hx hb dM_shapeFor_100 rfl (lv_at hl 1 rfl) ?_
                        refine lv_aload_n hx hb dM_shapeFor_101 rfl (lv_at hl 2 rfl) ?_
                        refine va_get (D := (dC, dI)) (ci := 4) (v := .ref (a 16)) (C := RM) (T := TM) (N := 20) hx hb hts inM hown hK hP 0 rfl rfl 19 (by decide) (hts _ wfM_59) (fun _ h9 => h9) rfl dM_shapeFor_102 ?_
                        refine lv_iload hx hb dM_shapeFor_105 (lv_at hl 0 rfl) ?_
                        refine va_iald hx hb hK hP 16 0 rfl rfl (vp_in_nI (show j < 12 by omega) (by decide)) dM_shapeFor_107 ?_
                        refine lv_topi (fun x107 e107 => ?_)
                        rw [nI_clamp (show j < 2 ^ 31 by omega)] at e107
                        obtain rfl : x107 = ns.getD j 0 := e107.trans (hrow j (by omega))
                        obtain ⟨z1, z2, z3, z4⟩ := sk_step hT2 hq2 (by omega) (by omega) hnd2 hin2
                        refine va_calli (va_runV (As := [.int (nI q2), .int (ns.getD j 0)]) (rest := []) ⟨hx, hb, hml, hown, hts⟩ (kM_makeChild l dC dI a k b t2 f (ex.1, n2, ex.2.2) lf th A q2 (ns.getD j 0) hT2 hN2 hq2 (by omega) z4) (cwV 2 hts (sk_gV wmM_79 wiM_makeChild wsM_makeChild wnM wcM_makeChild) rfl rfl rfl (by decide +kernel) ⟨Nat.le_of_ble_eq_true rfl, Nat.le_of_ble_eq_true rfl⟩) ⟨sk_blindMD _, va_recv hK hP (ci := 4) (q0 := 0) rfl rfl, fun U hU hW => ⟨rfl, sk_atM (S := (b, t2, f)) (ex := (ex.1, n2, ex.2.2)) (lf := lf) (th := th) hP hK hU hW, hD⟩⟩ rfl rfl hl.1 rfl (lv_room (Nat.le_of_ble_eq_true rfl)) dM_shapeFor_108 ⟨Nat.le_of_ble_eq_true rfl, Nat.le_of_ble_eq_true rfl⟩) hS (fun _ _ h => h) (fun _ h => h) (fun r108 u108 U9 H locs ht hvm w108 hB hz hk hS => ?_)
                        obtain ⟨hP, hD⟩ := hB
                        rw [ht] at hP
                        obtain ⟨rfl, na3, rfl, hN3⟩ := w108
                        have hP : va_P (dC, dI) vwCl (sk_wMR a k th (nI b.1) b.2.2.1 b.2.2.2.1 ((ex.1, na3, ex.2.2).1) (nI (sk_grow1 t2 q2 (ns.getD j 0)).1) ((sk_grow1 t2 q2 (ns.getD j 0)).2.1) ((sk_grow1 t2 q2 (ns.getD j 0)).2.2.1) ((sk_grow1 t2 q2 (ns.getD j 0)).2.2.2.2) ((ex.1, na3, ex.2.2).2.1) (nI f.1) f.2.1 f.2.2.1 ((ex.1, na3, ex.2.2).2.2.1) f.2.2.2.1 f.2.2.2.2.1 ((ex.1, na3, ex.2.2).2.2.2.1) ((ex.1, na3, ex.2.2).2.2.2.2.1) ((ex.1, na3, ex.2.2).2.2.2.2.2) lf) H := hP
                        have hD : va_D A (sk_wMR a k th (nI b.1) b.2.2.1 b.2.2.2.1 ((ex.1, na3, ex.2.2).1) (nI (sk_grow1 t2 q2 (ns.getD j 0)).1) ((sk_grow1 t2 q2 (ns.getD j 0)).2.1) ((sk_grow1 t2 q2 (ns.getD j 0)).2.2.1) ((sk_grow1 t2 q2 (ns.getD j 0)).2.2.2.2) ((ex.1, na3, ex.2.2).2.1) (nI f.1) f.2.1 f.2.2.1 ((ex.1, na3, ex.2.2).2.2.1) f.2.2.2.1 f.2.2.2.2.1 ((ex.1, na3, ex.2.2).2.2.2.1) ((ex.1, na3, ex.2.2).2.2.2.2.1) ((ex.1, na3, ex.2.2).2.2.2.2.2) lf) := hD
                        refine lv_istore_n (lv' := [(3, .int (nI t2.1)), (4, .int (nI j)), (0, .ref (a 0)), (2, .int (nI ns.length))]) hx hb dM_shapeFor_111 rfl hl (by decide) rfl (fun ls hl => ?_)
                        refine lv_iinc (v := nI (j + 1)) (lv' := [(4, .int (nI (j + 1))), (3, .int (nI t2.1)), (0, .ref (a 0)), (2, .int (nI ns.length))]) hx hb dM_shapeFor_112 hl (k := 1) rfl (sk_inc _) (by decide) rfl (fun ls hl => ?_)
                        refine lv_goto (tgt := 93) hx hb dM_shapeFor_115 (by decide) ?_
                        exact ih2 (j + 1) t2.1 (sk_grow1 t2 q2 (ns.getD j 0)) na3 (by omega) (Nat.lt_succ_self _) ((show t2.1 + 1 + (ns.length - (j + 1)) ≤ 200 by omega)) (by rw [hm, sk_mk_step (by omega)]) (z1) (hN3) (z2) (z3) (by omega) _ _ hP hD hS ls (lv_sub hl [0, 1, 2, 3] rfl)
                  exact loop2 (ns.length - i + 1) i q t ex.2.1 (by omega) (hq) (by omega) (sk_reach_s2 (by omega) hem (by rw [← hd]; exact sk_down_end n20) (by omega)) (hT) (hN) (by rw [hnm]; exact hnd) (by rw [hnm]; exact hin) (Nat.lt_succ_self _) _ _ hP hD hS ls (lv_sub hl [2, 3, 4, 6] rfl)
                · skip
                  have n84 : ¬ 0 ≤ q := fun z9 => c84 ((nI_leI (a := 0) (b := q) (by omega) (by omega)).mpr z9)
                  omega
              · skip
                have n78 : ¬ (t.1 + ((ns.length - i) + 0)) ≤ 200 := fun z9 => c78 ((nI_leI (a := (t.1 + ((ns.length - i) + 0))) (b := 200) (by omega) (by omega)).mpr z9)
                refine lv_iconst (v := (-1)) hx hb dM_shapeFor_81 (by decide) ?_
                exact W.iret (v := (-1)) hx hb hr (fun U9 ht hW => ⟨⟨(-1), ((b, t, f), ex, lf, th), rfl, Or.inl ⟨sk_reach_n2 (by omega) hem (by rw [← hd]; exact sk_down_end n20) (by omega), rfl, rfl⟩, sk_endw ht hP hD⟩, hS.F ht⟩) hS.2.2 dM_shapeFor_82
            · skip
              have n57 : ¬ 0 ≤ q := fun z9 => c57 ((nI_leI (a := 0) (b := q) (by omega) (by omega)).mpr z9)
              omega
          · skip
            have n20 : ¬ ns.length ≤ i := fun z9 => c20 ((nI_leI (a := ns.length) (b := i) (by omega) (by omega)).mpr z9)
            refine lv_aload_n hx hb dM_shapeFor_23 rfl (lv_at hl 3 rfl) ?_
            refine lv_iload hx hb dM_shapeFor_24 (lv_at hl 0 rfl) ?_
            refine lv_aload_n hx hb dM_shapeFor_26 rfl (lv_at hl 3 rfl) ?_
            refine va_get (D := (dC, dI)) (ci := 4) (v := .ref (a 16)) (C := RM) (T := TM) (N := 20) hx hb hts inM hown hK hP 0 rfl rfl 19 (by decide) (hts _ wfM_59) (fun _ h9 => h9) rfl dM_shapeFor_27 ?_
            refine lv_iload hx hb dM_shapeFor_30 (lv_at hl 1 rfl) ?_
            refine va_iald hx hb hK hP 16 0 rfl rfl (vp_in_nI (show i < 12 by omega) (by decide)) dM_shapeFor_32 ?_
            refine lv_topi (fun x32 e32 => ?_)
            rw [nI_clamp (show i < 2 ^ 31 by omega)] at e32
            obtain rfl : x32 = ns.getD i 0 := e32.trans (hrow i (by omega))
            refine va_calli (va_runV (As := [.int (nI q), .int (ns.getD i 0)]) (rest := []) ⟨hx, hb, hml, hown, hts⟩ (kM_child l dC dI a k b t f ex lf th q (ns.getD i 0) hT hN hq) (cwV 2 hts (sk_gV wmM_72 wiM_child wsM_child wnM wcM_child) rfl rfl rfl (by decide +kernel) ⟨Nat.le_of_ble_eq_true rfl, Nat.le_of_ble_eq_true rfl⟩) ⟨sk_blindM _, va_recv hK hP (ci := 4) (q0 := 0) rfl rfl, fun U hU hW => ⟨rfl, sk_atM (S := (b, t, f)) (ex := ex) (lf := lf) (th := th) hP hK hU hW⟩⟩ rfl rfl hl.1 rfl (lv_room (Nat.le_of_ble_eq_true rfl)) dM_shapeFor_33 ⟨Nat.le_of_ble_eq_true rfl, Nat.le_of_ble_eq_true rfl⟩) hS (fun _ _ h => h.elim) (fun _ h => h.elim) (fun r33 u33 U9 H locs ht hvm w33 hB hz hk hS => ?_)
            have hP : va_P (dC, dI) vwCl (sk_wMR a k th (nI b.1) b.2.2.1 b.2.2.2.1 ex.1 (nI t.1) t.2.1 t.2.2.1 t.2.2.2.2 ex.2.1 (nI f.1) f.2.1 f.2.2.1 ex.2.2.1 f.2.2.2.1 f.2.2.2.2.1 ex.2.2.2.1 ex.2.2.2.2.1 ex.2.2.2.2.2 lf) H := hP.kept (fun j q hq => hk q.1 ((hP j q hq).lt) (fun h => h))
            clear hk hB ht
            rcases sk_wn_spec hT hq (ns.getD i 0) with ⟨hwn, -⟩ | ⟨i2, m2, hi2, -, hwn, -, -, -, -, -, -, hnm2⟩
            · skip
              obtain rfl : r33 = -1 := w33.trans hwn
              refine lv_istore (lv' := [(5, .int (-1)), (4, .int (nI i)), (3, .int (nI q)), (0, .ref (a 0)), (1, .int x), (2, .int (nI ns.length))]) hx hb dM_shapeFor_36 hl (by decide) rfl (fun ls hl => ?_)
              refine lv_iload hx hb dM_shapeFor_38 (lv_at hl 0 rfl) ?_
              refine lv_if_lt (tgt := 12) hx hb dM_shapeFor_40 (by decide) (fun _ => ?_) (fun q => absurd (by decide) q)
              refine lv_iload hx hb dM_shapeFor_12 (lv_at hl 0 rfl) ?_
              refine lv_if_lt (tgt := 52) hx hb dM_shapeFor_14 (by decide) (fun _ => ?_) (fun q => absurd (by decide) q)
              refine lv_iload_n hx hb dM_shapeFor_52 rfl (lv_at hl 5 rfl) ?_
              refine lv_iload hx hb dM_shapeFor_53 (lv_at hl 1 rfl) ?_
              refine lv_isub hx hb dM_shapeFor_55 ?_
              refine lv_topi (fun x55 e55 => ?_)
              obtain rfl : x55 = nI (ns.length - i) := e55.trans (pk_sub (by omega))
              refine lv_iload_n hx hb dM_shapeFor_56 rfl (lv_at hl 2 rfl) ?_
              refine lv_if_ge (tgt := 64) hx hb dM_shapeFor_57 (by decide) (fun c57 => ?_) (fun c57 => ?_)
              · skip
                have n57 : 0 ≤ q := (nI_leI (a := 0) (b := q) (by omega) (by omega)).mp c57
                refine lv_iconst (v := nI 0) hx hb dM_shapeFor_64 (by decide) ?_
                refine lv_iadd hx hb dM_shapeFor_65 ?_
                refine lv_topi (fun x65 e65 => ?_)
                obtain rfl : x65 = nI ((ns.length - i) + 0) := e65.trans (nI_add _ _)
                refine lv_istore (lv' := [(6, .int (nI ((ns.length - i) + 0))), (5, .int (-1)), (4, .int (nI i)), (3, .int (nI q)), (0, .ref (a 0)), (1, .int x), (2, .int (nI ns.length))]) hx hb dM_shapeFor_66 hl (by decide) rfl (fun ls hl => ?_)
                refine lv_aload_n hx hb dM_shapeFor_68 rfl (lv_at hl 4 rfl) ?_
                refine va_get (D := (dC, dI)) (ci := 4) (v := .int (nI t.1)) (C := RM) (T := TM) (N := 20) hx hb hts inM hown hK hP 0 rfl rfl 5 (by decide) (hts _ wfM_19) (fun _ h9 => h9) rfl dM_shapeFor_69 ?_
                refine lv_iload hx hb dM_shapeFor_72 (lv_at hl 0 rfl) ?_
                refine lv_iadd hx hb dM_shapeFor_74 ?_
                refine lv_topi (fun x74 e74 => ?_)
                obtain rfl : x74 = nI (t.1 + ((ns.length - i) + 0)) := e74.trans (nI_add _ _)
                refine lv_sipush (v := nI 200) hx hb dM_shapeFor_75 (by decide) ?_
                refine lv_icmp_le (tgt := 83) hx hb dM_shapeFor_78 (by decide) (fun c78 => ?_) (fun c78 => ?_)
                · skip
                  have n78 : (t.1 + ((ns.length - i) + 0)) ≤ 200 := (nI_leI (a := (t.1 + ((ns.length - i) + 0))) (b := 200) (by omega) (by omega)).mp c78
                  refine lv_iload_n hx hb dM_shapeFor_83 rfl (lv_at hl 3 rfl) ?_
                  refine lv_if_ge (tgt := 93) hx hb dM_shapeFor_84 (by decide) (fun c84 => ?_) (fun c84 => ?_)
                  · skip
                    have n84 : 0 ≤ q := (nI_leI (a := 0) (b := q) (by omega) (by omega)).mp c84
                    have loop2 : ∀ (nn : Nat) (j q2 : Nat) (t2 : sk_Tr) (n2 : sk_F), j ≤ ns.length → q2 < t2.1 → t2.1 + (ns.length - j) ≤ 200 → sk_reach t x ns = some (sk_mk t2 q2 (ns.drop j)) → sk_TO b.1 t2 → sk_RN t2 n2 → (sk_names t2 q2 ++ ns.drop j).Nodup → sk_in12 (sk_names t2 q2 ++ ns.drop j) → ns.length - j < nn → ∀ (H : Heap) (locs : List Loc), va_P (dC, dI) vwCl (sk_wMR a k th (nI b.1) b.2.2.1 b.2.2.2.1 ((ex.1, n2, ex.2.2).1) (nI t2.1) t2.2.1 t2.2.2.1 t2.2.2.2.2 ((ex.1, n2, ex.2.2).2.1) (nI f.1) f.2.1 f.2.2.1 ((ex.1, n2, ex.2.2).2.2.1) f.2.2.2.1 f.2.2.2.2.1 ((ex.1, n2, ex.2.2).2.2.2.1) ((ex.1, n2, ex.2.2).2.2.2.2.1) ((ex.1, n2, ex.2.2).2.2.2.2.2) lf) H → va_D A (sk_wMR a k th (nI b.1) b.2.2.1 b.2.2.2.1 ((ex.1, n2, ex.2.2).1) (nI t2.1) t2.2.1 t2.2.2.1 t2.2.2.2.2 ((ex.1, n2, ex.2.2).2.1) (nI f.1) f.2.1 f.2.2.1 ((ex.1, n2, ex.2.2).2.2.1) f.2.2.2.1 f.2.2.2.2.1 ((ex.1, n2, ex.2.2).2.2.2.1) ((ex.1, n2, ex.2.2).2.2.2.2.1) ((ex.1, n2, ex.2.2).2.2.2.2.2) lf) → va_S A s.heap H locs → ∀ ls : Array Slot, lv_has ls 7 [(4, .int (nI j)), (3, .int (nI q2)), (0, .ref (a 0)), (2, .int (nI ns.length))] → W p l e (headSpec wzM_shapeFor rzM_shapeFor).room s m ([.ref (a 0), .int x, .int (nI ns.length)] : List Value).toArray below meth c H locs 0 0 (MQ below (va_Qi (fun r (u : sk_S × sk_Ex × sk_F × Int32) => (sk_reach t x ns = none ∧ r = -1 ∧ u = ((b, t, f), ex, lf, th)) ∨ ∃ t2 g na2, sk_reach t x ns = some (t2, g) ∧ r = nI g ∧ u = ((b, t2, f), (ex.1, na2, ex.2.2), lf, th) ∧ sk_RN t2 na2) (fun u U => va_P (dC, dI) vwCl (sk_wM a k u.1 u.2.1 u.2.2.1 u.2.2.2) U.heap ∧ va_D A (sk_wM a k u.1 u.2.1 u.2.2.1 u.2.2.2)) A) ([.ref (a 0), .int x, .int (nI ns.length)] : List Value).toArray s 0 0 A) (F0 m 93 ls []) := by
                      intro nn
                      induction nn with
                      | zero => intro j q2 t2 n2 hj hq2 hcap hm hT2 hN2 hnd2 hin2 hmu; exact absurd hmu (Nat.not_lt_zero _)
                      | succ nn ih2 =>
                        intro j q2 t2 n2 hj hq2 hcap hm hT2 hN2 hnd2 hin2 hmu H locs hP hD hS ls hl
                        refine lv_iload hx hb dM_shapeFor_93 (lv_at hl 0 rfl) ?_
                        refine lv_iload_n hx hb dM_shapeFor_95 rfl (lv_at hl 3 rfl) ?_
                        refine lv_icmp_ge (tgt := 118) hx hb dM_shapeFor_96 (by decide) (fun c96 => ?_) (fun c96 => ?_)
                        · skip
                          have n96 : ns.length ≤ j := (nI_leI (a := ns.length) (b := j) (by omega) (by omega)).mp c96
                          refine lv_iload_n hx hb dM_shapeFor_118 rfl (lv_at hl 1 rfl) ?_
                          exact W.iret (v := nI q2) hx hb hr (fun U9 ht hW => ⟨⟨nI q2, ((b, t2, f), (ex.1, n2, ex.2.2), lf, th), rfl, Or.inr ⟨t2, q2, n2, by rw [hm, sk_mk_end n96], rfl, rfl, hN2⟩, sk_endw ht hP hD⟩, hS.F ht⟩) hS.2.2 dM_shapeFor_119
                        · skip
                          have n96 : ¬ ns.length ≤ j := fun z9 => c96 ((nI_leI (a := ns.length) (b := j) (by omega) (by omega)).mpr z9)
                          refine lv_aload_n hx hb dM_shapeFor_99 rfl (lv_at hl 2 rfl) ?_
                          refine lv_iload_n hx hb dM_shapeFor_100 rfl (lv_at hl 1 rfl) ?_
                          refine lv_aload_n hx hb dM_shapeFor_101 rfl (lv_at hl 2 rfl) ?_
                          refine va_get (D := (dC, dI)) (ci := 4) (v := .ref (a 16)) (C := RM) (T := TM) (N := 20) hx hb hts inM hown hK hP 0 rfl rfl 19 (by decide) (hts _ wfM_59) (fun _ h9 => h9) rfl dM_shapeFor_102 ?_
                          refine lv_iload hx hb dM_shapeFor_105 (lv_at hl 0 rfl) ?_
                          refine va_iald hx hb hK hP 16 0 rfl rfl (vp_in_nI (show j < 12 by omega) (by decide)) dM_shapeFor_107 ?_
                          refine lv_topi (fun x107 e107 => ?_)
                          rw [nI_clamp (show j < 2 ^ 31 by omega)] at e107
                          obtain rfl : x107 = ns.getD j 0 := e107.trans (hrow j (by omega))
                          obtain ⟨z1, z2, z3, z4⟩ := sk_step hT2 hq2 (by omega) (by omega) hnd2 hin2
                          refine va_calli (va_runV (As := [.int (nI q2), .int (ns.getD j 0)]) (rest := []) ⟨hx, hb, hml, hown, hts⟩ (kM_makeChild l dC dI a k b t2 f (ex.1, n2, ex.2.2) lf th A q2 (ns.getD j 0) hT2 hN2 hq2 (by omega) z4) (cwV 2 hts (sk_gV wmM_79 wiM_makeChild wsM_makeChild wnM wcM_makeChild) rfl rfl rfl (by decide +kernel) ⟨Nat.le_of_ble_eq_true rfl, Nat.le_of_ble_eq_true rfl⟩) ⟨sk_blindMD _, va_recv hK hP (ci := 4) (q0 := 0) rfl rfl, fun U hU hW => ⟨rfl, sk_atM (S := (b, t2, f)) (ex := (ex.1, n2, ex.2.2)) (lf := lf) (th := th) hP hK hU hW, hD⟩⟩ rfl rfl hl.1 rfl (lv_room (Nat.le_of_ble_eq_true rfl)) dM_shapeFor_108 ⟨Nat.le_of_ble_eq_true rfl, Nat.le_of_ble_eq_true rfl⟩) hS (fun _ _ h => h) (fun _ h => h) (fun r108 u108 U9 H locs ht hvm w108 hB hz hk hS => ?_)
                          obtain ⟨hP, hD⟩ := hB
                          rw [ht] at hP
                          obtain ⟨rfl, na3, rfl, hN3⟩ := w108
                          have hP : va_P (dC, dI) vwCl (sk_wMR a k th (nI b.1) b.2.2.1 b.2.2.2.1 ((ex.1, na3, ex.2.2).1) (nI (sk_grow1 t2 q2 (ns.getD j 0)).1) ((sk_grow1 t2 q2 (ns.getD j 0)).2.1) ((sk_grow1 t2 q2 (ns.getD j 0)).2.2.1) ((sk_grow1 t2 q2 (ns.getD j 0)).2.2.2.2) ((ex.1, na3, ex.2.2).2.1) (nI f.1) f.2.1 f.2.2.1 ((ex.1, na3, ex.2.2).2.2.1) f.2.2.2.1 f.2.2.2.2.1 ((ex.1, na3, ex.2.2).2.2.2.1) ((ex.1, na3, ex.2.2).2.2.2.2.1) ((ex.1, na3, ex.2.2).2.2.2.2.2) lf) H := hP
                          have hD : va_D A (sk_wMR a k th (nI b.1) b.2.2.1 b.2.2.2.1 ((ex.1, na3, ex.2.2).1) (nI (sk_grow1 t2 q2 (ns.getD j 0)).1) ((sk_grow1 t2 q2 (ns.getD j 0)).2.1) ((sk_grow1 t2 q2 (ns.getD j 0)).2.2.1) ((sk_grow1 t2 q2 (ns.getD j 0)).2.2.2.2) ((ex.1, na3, ex.2.2).2.1) (nI f.1) f.2.1 f.2.2.1 ((ex.1, na3, ex.2.2).2.2.1) f.2.2.2.1 f.2.2.2.2.1 ((ex.1, na3, ex.2.2).2.2.2.1) ((ex.1, na3, ex.2.2).2.2.2.2.1) ((ex.1, na3, ex.2.2).2.2.2.2.2) lf) := hD
                          refine lv_istore_n (lv' := [(3, .int (nI t2.1)), (4, .int (nI j)), (0, .ref (a 0)), (2, .int (nI ns.length))]) hx hb dM_shapeFor_111 rfl hl (by decide) rfl (fun ls hl => ?_)
                          refine lv_iinc (v := nI (j + 1)) (lv' := [(4, .int (nI (j + 1))), (3, .int (nI t2.1)), (0, .ref (a 0)), (2, .int (nI ns.length))]) hx hb dM_shapeFor_112 hl (k := 1) rfl (sk_inc _) (by decide) rfl (fun ls hl => ?_)
                          refine lv_goto (tgt := 93) hx hb dM_shapeFor_115 (by decide) ?_
                          exact ih2 (j + 1) t2.1 (sk_grow1 t2 q2 (ns.getD j 0)) na3 (by omega) (Nat.lt_succ_self _) ((show t2.1 + 1 + (ns.length - (j + 1)) ≤ 200 by omega)) (by rw [hm, sk_mk_step (by omega)]) (z1) (hN3) (z2) (z3) (by omega) _ _ hP hD hS ls (lv_sub hl [0, 1, 2, 3] rfl)
                    exact loop2 (ns.length - i + 1) i q t ex.2.1 (by omega) (hq) (by omega) (sk_reach_s2 (by omega) hem (by rw [← hd]; exact sk_down_miss (by omega) hwn) (by omega)) (hT) (hN) (by rw [hnm]; exact hnd) (by rw [hnm]; exact hin) (Nat.lt_succ_self _) _ _ hP hD hS ls (lv_sub hl [2, 3, 4, 6] rfl)
                  · skip
                    have n84 : ¬ 0 ≤ q := fun z9 => c84 ((nI_leI (a := 0) (b := q) (by omega) (by omega)).mpr z9)
                    omega
                · skip
                  have n78 : ¬ (t.1 + ((ns.length - i) + 0)) ≤ 200 := fun z9 => c78 ((nI_leI (a := (t.1 + ((ns.length - i) + 0))) (b := 200) (by omega) (by omega)).mpr z9)
                  refine lv_iconst (v := (-1)) hx hb dM_shapeFor_81 (by decide) ?_
                  exact W.iret (v := (-1)) hx hb hr (fun U9 ht hW => ⟨⟨(-1), ((b, t, f), ex, lf, th), rfl, Or.inl ⟨sk_reach_n2 (by omega) hem (by rw [← hd]; exact sk_down_miss (by omega) hwn) (by omega), rfl, rfl⟩, sk_endw ht hP hD⟩, hS.F ht⟩) hS.2.2 dM_shapeFor_82
              · skip
                have n57 : ¬ 0 ≤ q := fun z9 => c57 ((nI_leI (a := 0) (b := q) (by omega) (by omega)).mpr z9)
                omega
            · skip
              obtain rfl : r33 = nI i2 := w33.trans hwn
              refine lv_istore (lv' := [(5, .int (nI i2)), (4, .int (nI i)), (3, .int (nI q)), (0, .ref (a 0)), (1, .int x), (2, .int (nI ns.length))]) hx hb dM_shapeFor_36 hl (by decide) rfl (fun ls hl => ?_)
              refine lv_iload hx hb dM_shapeFor_38 (lv_at hl 0 rfl) ?_
              refine lv_if_lt (tgt := 12) hx hb dM_shapeFor_40 (by decide) (fun c40 => ?_) (fun c40 => ?_)
              · skip
                have n40 : i2 < 0 := (nI_ltI (a := i2) (b := 0) (by omega) (by omega)).mp c40
                omega
              · skip
                have n40 : ¬ i2 < 0 := fun z9 => c40 ((nI_ltI (a := i2) (b := 0) (by omega) (by omega)).mpr z9)
                refine lv_iload hx hb dM_shapeFor_43 (lv_at hl 0 rfl) ?_
                refine lv_istore_n (lv' := [(3, .int (nI i2)), (5, .int (nI i2)), (4, .int (nI i)), (0, .ref (a 0)), (1, .int x), (2, .int (nI ns.length))]) hx hb dM_shapeFor_45 rfl hl (by decide) rfl (fun ls hl => ?_)
                refine lv_iinc (v := nI (i + 1)) (lv' := [(4, .int (nI (i + 1))), (3, .int (nI i2)), (5, .int (nI i2)), (0, .ref (a 0)), (1, .int x), (2, .int (nI ns.length))]) hx hb dM_shapeFor_46 hl (k := 2) rfl (sk_inc _) (by decide) rfl (fun ls hl => ?_)
                refine lv_goto (tgt := 12) hx hb dM_shapeFor_49 (by decide) ?_
                exact ih1 (i + 1) i2 (by omega) (hi2) (by rw [← hd]; exact (sk_down_hit (by omega) (by omega) hwn).symm) (by rw [hnm2]; exact sk_app_d (by omega) hnm) (by omega) _ _ hP hD hS ls (lv_sub hl [2, 0, 1, 3, 4, 5] rfl)
    exact loop1 (ns.length - 0 + 1) 0 q0 (Nat.zero_le _) (hq0) (rfl) (by rw [sk_names_e hT hq0 ho0]; rfl) (Nat.lt_succ_self _) _ _ hP hD hS ls (lv_sub hl [0, 1, 2, 3, 4, 5] rfl)
end
section
/-! the reference's rows stay in step -/
theorem sk_updsame {f : sk_F} {k : Nat} {v : Int32} (h : f k = v) : upd f k v = f := by
  funext j; unfold upd; by_cases e : j = k
  · subst e; rw [if_pos rfl]; exact h.symm
  · rw [if_neg e]
theorem sk_RF_ext {b c : sk_Ob} {f g : sk_Fi} {ex ey : sk_Ex} {i : Nat} (h : sk_RF b f ex i) (e1 : g.2.2.2.1 i = f.2.2.2.1 i) (e2 : g.2.2.2.2.1 i = f.2.2.2.2.1 i) (e3 : g.2.2.2.2.2.1 i = f.2.2.2.2.2.1 i) (e4 : g.2.2.2.2.2.2 i = f.2.2.2.2.2.2 i) (e5 : c.2.2.2.1 = b.2.2.2.1)
    (e6 : ey.2.2.1 i = ex.2.2.1 i) (e7 : ey.2.2.2.1 i = ex.2.2.2.1 i) (e8 : ∀ j, j < 60 → ey.2.2.2.2.1 (60 * i + j) = ex.2.2.2.2.1 (60 * i + j)) (e9 : ∀ j, j < 60 → ey.2.2.2.2.2 (60 * i + j) = ex.2.2.2.2.2 (60 * i + j)) : sk_RF c g ey i := by
  obtain ⟨a1, a2, a3, a4, a5, a6⟩ := h
  unfold sk_RF
  rw [e3, e4, e5, e6, e7]
  refine ⟨a1.trans ?_, a2, a3, fun j hj => (e8 j (by omega)).trans (a4 j hj), fun j hj => ?_, ?_⟩
  · unfold sk_where; rw [e1, e2]
  · rw [e9 j (by omega)]; exact a5 j hj
  · rw [a6]
    exact ⟨fun q j hj => (q j hj).trans (e9 j (by omega)).symm, fun q j hj => (q j hj).trans (e9 j (by omega))⟩
theorem sk_RF_chg {K : Nat} {b c : sk_Ob} {f : sk_Fi} {ex : sk_Ex} {o i : Nat} (hK : K + 1 ≤ 512) (hch : ∀ q, ∃ z, z ≤ K ∧ b.2.2.2.1 q = nI z) (hi : i < sk_there f) (h : sk_RF b f ex i) (e5 : c.2.2.2.1 = upd b.2.2.2.1 o (b.2.2.2.1 o + 1)) : sk_RF c (sk_brk f o) ex i := by
  obtain ⟨a1, a2, a3, a4, a5, a6⟩ := h
  have hg : ∀ q g, b.2.2.2.1 q = nI g → g ≤ 512 → g ≤ K := fun q g e hg => by
    obtain ⟨z, hz, ez⟩ := hch q
    have := sk_inj (by omega) (by omega) (e.symm.trans ez)
    omega
  refine ⟨a1, a2, a3, a4, fun j hj => ?_, ?_⟩
  · obtain ⟨z, g, h1, h2, h3, h4⟩ := a5 j hj
    by_cases e : (f.2.2.2.2.2.1 i).getD j 0 = o
    · refine ⟨z, g + 1, h1, ?_, by omega, by have := hg _ _ h2 h4; omega⟩
      show c.2.2.2.1 ((f.2.2.2.2.2.1 i).getD j 0) = nI (g + 1)
      rw [e5, e, pk_us, ← e, h2]; exact nI_1 g
    · refine ⟨z, g, h1, ?_, h3, h4⟩
      show c.2.2.2.1 ((f.2.2.2.2.2.1 i).getD j 0) = nI g
      rw [e5, pk_un e]; exact h2
  · show sk_brkB f o i = true ↔ ∀ j, j < (f.2.2.2.2.2.1 i).length → c.2.2.2.1 ((f.2.2.2.2.2.1 i).getD j 0) = ex.2.2.2.2.2 (60 * i + j)
    have hmem : ∀ j, j < (f.2.2.2.2.2.1 i).length → (f.2.2.2.2.2.1 i).getD j 0 ∈ f.2.2.2.2.2.1 i := fun j hj => by
      rw [List.getD_eq_getElem?_getD, List.getElem?_eq_getElem hj, Option.getD_some]; exact List.getElem_mem hj
    constructor
    · intro q j hj
      obtain ⟨q1, q2⟩ := sk_brk_t hi q
      have hne : (f.2.2.2.2.2.1 i).getD j 0 ≠ o := fun e => q2 (e ▸ hmem j hj)
      rw [e5, pk_un hne]
      exact a6.mp q1 j hj
    · intro q
      have hno : o ∉ f.2.2.2.2.2.1 i := fun hm => by
        obtain ⟨j, hj, ej⟩ := List.getElem_of_mem hm
        have ed : (f.2.2.2.2.2.1 i).getD j 0 = o := by rw [List.getD_eq_getElem?_getD, List.getElem?_eq_getElem hj, Option.getD_some]; exact ej
        obtain ⟨z, g, h1, h2, h3, h4⟩ := a5 j hj
        have q1 := q j hj
        rw [e5, ed, pk_us, ← ed, h2, h1, nI_1 g] at q1
        have := sk_inj (by omega) (by omega) q1
        omega
      have hb : f.2.2.2.2.2.2 i = true := a6.mpr (fun j hj => by
        have q1 := q j hj
        have hne : (f.2.2.2.2.2.1 i).getD j 0 ≠ o := fun e => hno (e ▸ hmem j hj)
        rw [e5, pk_un hne] at q1
        exact q1)
      unfold sk_brkB
      rw [hb, decide_eq_false hno]; simp
theorem sk_lenle {nO : Nat} {t : sk_Tr} (h : sk_TO nO t) {s : Nat} (hs : s < t.1) : sk_len t s ≤ 12 := by
  obtain ⟨m, hm, -, hl⟩ := sk_lenOk h hs; omega
theorem sk_RM_object {K : Nat} {b : sk_Ob} {t u : sk_Tr} {f : sk_Fi} {ex : sk_Ex} {na : sk_F} {x : Int32} {r : Nat} (hOK : sk_OK K (b, t, f)) (h : sk_RM (b, t, f) ex) (he : sk_ext t u) (hr : r < u.1) (hu : u.1 ≤ 200) (hnm : sk_names u r = []) (hN : sk_RN u na) : sk_RM ((b.1 + 1, upd b.2.1 b.1 x, upd b.2.2.1 b.1 (nI r), b.2.2.2.1, b.2.2.2.2), u, f) (ex.1, na, ex.2.2) := by
  obtain ⟨h1, h2, h3⟩ := h
  have hT : sk_TO b.1 t := hOK.1
  have hO : sk_OO b t := hOK.2.2.1
  refine ⟨hN, fun o ho j hj => ?_, fun i hi => sk_RF_ext (h3 i hi) rfl rfl rfl rfl rfl rfl rfl (fun _ _ => rfl) (fun _ _ => rfl)⟩
  have ho : o < b.1 + 1 := ho
  have hj : j < sk_len u (upd b.2.2.1 b.1 (nI r) o).toNatClampNeg := hj
  by_cases e : o = b.1
  · subst e
    rw [pk_us, nI_clamp (by omega)] at hj
    have hl := sk_names_len u r
    rw [hnm] at hl
    have hl : 0 = sk_len u r := hl
    omega
  · rw [pk_un e] at hj
    have ho2 : o < b.1 := by omega
    have hj2 : j < sk_len t (sk_sh b o) := by rw [← (sk_ext_nm hT he _ (sk_shOk hT.2.1 hO ho2).1).1]; exact hj
    exact h2 o ho2 j hj2
theorem sk_RV_setv {b : sk_Ob} {t : sk_Tr} {vv : sk_F} {nO : Nat} (hT : sk_TO nO t) (hO : sk_OO b t) (h : sk_RV b t vv) {o k : Nat} (hk : k < 12) (x : Int32) : sk_RV (sk_setv b o k x) t (upd vv (12 * o + k) x) := by
  intro q hq j hj
  have hq : q < b.1 := hq
  have hj : j < sk_len t (sk_sh b q) := hj
  have hj12 := sk_lenle hT (sk_shOk hT.2.1 hO hq).1
  show upd vv (12 * o + k) x (12 * q + j) = va_up b.2.2.2.2 o (upd (b.2.2.2.2 o) k x) q j
  by_cases e : q = o
  · subst e
    rw [va_up_self]
    by_cases e2 : j = k
    · subst e2; rw [pk_us, pk_us]
    · rw [pk_un (by omega), pk_un e2]; exact h q hq j hj
  · rw [va_up_ne _ _ e, pk_un (by omega)]; exact h q hq j hj
/-- the rows of one object change with its shape -/
theorem sk_RV_chg {b : sk_Ob} {op2 : sk_F} {t u : sk_Tr} {vv vw : sk_F} {va : Nat → sk_F} {o r : Nat} (hT : sk_TO b.1 t) (hu : sk_TO b.1 u) (hO : sk_OO b t) (h : sk_RV b t vv) (he : sk_ext t u) (hr : r < u.1) (hv : ∀ q, q ≠ o → va q = b.2.2.2.2 q) (hw : ∀ q, q < b.1 → q ≠ o → ∀ j, j < 12 → vw (12 * q + j) = vv (12 * q + j)) (hn : ∀ j, j < sk_len u r → vw (12 * o + j) = va o j) :
    sk_RV (sk_chg (b.1, op2, b.2.2.1, b.2.2.2.1, va) o r) u vw := by
  intro q hq j hj
  have hq : q < b.1 := hq
  have hj : j < sk_len u (upd b.2.2.1 o (nI r) q).toNatClampNeg := hj
  show vw (12 * q + j) = va q j
  by_cases e : q = o
  · subst e
    rw [pk_us, nI_clamp (sk_t31 hu hr)] at hj
    exact hn j hj
  · rw [pk_un e] at hj
    have hs := (sk_shOk hT.2.1 hO hq).1
    have hj2 : j < sk_len t (sk_sh b q) := by rw [← (sk_ext_nm hT he _ hs).1]; exact hj
    have hj12 := sk_lenle hT hs
    rw [hw q hq e j (by omega), hv q e]
    exact h q hq j hj2
theorem sk_RM_set1 {K : Nat} {b : sk_Ob} {t : sk_Tr} {f : sk_Fi} {ex : sk_Ex} {o k : Nat} (hOK : sk_OK K (b, t, f)) (h : sk_RM (b, t, f) ex) (hk : k < 12) (x : Int32) : sk_RM (sk_setv b o k x, t, f) (upd ex.1 (12 * o + k) x, ex.2) :=
  ⟨h.1, sk_RV_setv hOK.1 hOK.2.2.1 h.2.1 hk x, fun i hi => sk_RF_ext (h.2.2 i hi) rfl rfl rfl rfl rfl rfl rfl (fun _ _ => rfl) (fun _ _ => rfl)⟩
theorem sk_RM_set3 {K : Nat} {b : sk_Ob} {t u : sk_Tr} {f : sk_Fi} {ex : sk_Ex} {na : sk_F} {o r : Nat} {a v : Int32} (hOK : sk_OK K (b, t, f)) (hK : K + 1 ≤ 512) (ho : o < b.1) (h : sk_RM (b, t, f) ex) (hu : sk_TO b.1 u) (he : sk_ext t u) (hr : r < u.1) (hnm : sk_names u r = sk_names t (sk_sh b o) ++ [a]) (hN : sk_RN u na) :
    sk_RM (sk_setv (sk_chg b o r) o (sk_len t (sk_sh b o)) v, u, sk_brk f o) (upd ex.1 (12 * o + sk_len t (sk_sh b o)) v, na, ex.2.2) := by
  have hT : sk_TO b.1 t := hOK.1
  have hO : sk_OO b t := hOK.2.2.1
  have hs := (sk_shOk hT.2.1 hO ho).1
  have hl : sk_len u r = sk_len t (sk_sh b o) + 1 := by rw [← sk_names_len u r, hnm, List.length_append, sk_names_len]; rfl
  have h12 := sk_lenle hu hr
  refine ⟨hN, ?_, fun i hi => sk_RF_chg (c := sk_chg b o r) hK hOK.2.2.2.1 hi (h.2.2 i hi) rfl⟩
  refine sk_RV_chg (b := b) (op2 := b.2.1) (va := va_up b.2.2.2.2 o (upd (b.2.2.2.2 o) (sk_len t (sk_sh b o)) v)) hT hu hO h.2.1 he hr (fun q hq => va_up_ne _ _ hq) (fun q hq e j hj => pk_un (by omega)) (fun j hj => ?_)
  have hj : j < sk_len u r := hj
  rw [va_up_self]
  show upd ex.1 (12 * o + sk_len t (sk_sh b o)) v (12 * o + j) = _
  by_cases e : j = sk_len t (sk_sh b o)
  · subst e; rw [pk_us, pk_us]
  · rw [pk_un (by omega), pk_un e]
    exact h.2.1 o ho j (show j < sk_len t (sk_sh b o) by omega)
theorem sk_RM_drop {K : Nat} {b : sk_Ob} {t u : sk_Tr} {f : sk_Fi} {ex : sk_Ex} {na vw : sk_F} {o r kk n : Nat} (hOK : sk_OK K (b, t, f)) (hK : K + 1 ≤ 512) (ho : o < b.1) (h : sk_RM (b, t, f) ex) (hu : sk_TO b.1 u) (he : sk_ext t u) (hr : r < u.1) (hlu : sk_len u r = n) (hn : n + 1 = sk_len t (sk_sh b o)) (hN : sk_RN u na)
    (hw : ∀ q, ¬ (12 * o + kk ≤ q ∧ q < 12 * o + n) → vw q = ex.1 q) (hw2 : ∀ j, kk ≤ j → j < n → vw (12 * o + j) = ex.1 (12 * o + (j + 1))) : sk_RM (sk_chg (sk_gap b o kk) o r, u, sk_brk f o) (vw, na, ex.2.2) := by
  have hT : sk_TO b.1 t := hOK.1
  have hO : sk_OO b t := hOK.2.2.1
  have hs := (sk_shOk hT.2.1 hO ho).1
  have h12 := sk_lenle hT hs
  refine ⟨hN, ?_, fun i hi => sk_RF_chg (c := sk_chg (sk_gap b o kk) o r) hK hOK.2.2.2.1 hi (h.2.2 i hi) rfl⟩
  refine sk_RV_chg (b := b) (op2 := b.2.1) (va := va_up b.2.2.2.2 o (sk_shift (b.2.2.2.2 o) kk)) hT hu hO h.2.1 he hr (fun q hq => va_up_ne _ _ hq) (fun q hq e j hj => hw _ (by omega)) (fun j hj => ?_)
  rw [va_up_self]
  unfold sk_shift
  show vw (12 * o + j) = _
  have hj : j < sk_len u r := hj
  rw [hlu] at hj
  by_cases c : kk ≤ j
  · rw [if_pos ⟨c, by omega⟩, hw2 j c hj]
    exact h.2.1 o ho (j + 1) (show j + 1 < sk_len t (sk_sh b o) by omega)
  · rw [if_neg (fun q => c q.1), hw _ (by omega)]
    exact h.2.1 o ho j (show j < sk_len t (sk_sh b o) by omega)
theorem sk_RM_turn {K : Nat} {b : sk_Ob} {t u : sk_Tr} {f : sk_Fi} {ex : sk_Ex} {na : sk_F} {o r : Nat} {p : Int32} (hOK : sk_OK K (b, t, f)) (hK : K + 1 ≤ 512) (ho : o < b.1) (h : sk_RM (b, t, f) ex) (hu : sk_TO b.1 u) (he : sk_ext t u) (hr : r < u.1) (hlu : sk_len u r = sk_len t (sk_sh b o)) (hN : sk_RN u na) :
    sk_RM (sk_chg (b.1, upd b.2.1 o p, b.2.2) o r, u, sk_brk f o) (ex.1, na, ex.2.2) := by
  have hT : sk_TO b.1 t := hOK.1
  have hO : sk_OO b t := hOK.2.2.1
  refine ⟨hN, ?_, fun i hi => sk_RF_chg (c := sk_chg (b.1, upd b.2.1 o p, b.2.2) o r) hK hOK.2.2.2.1 hi (h.2.2 i hi) rfl⟩
  refine sk_RV_chg (b := b) (op2 := upd b.2.1 o p) (va := b.2.2.2.2) hT hu hO h.2.1 he hr (fun _ _ => rfl) (fun _ _ _ _ _ => rfl) (fun j hj => ?_)
  rw [hlu] at hj
  exact h.2.1 o ho j hj
end
