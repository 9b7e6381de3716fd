section
-- ===== PART A: goes FIRST, ahead of the names: the tables' words, and 'selects' of the private methods out of them =====
/-- a private method of a class that the tables say can be made, by its rows of tables_1 -/
def lw_okq (q : MethodName × Nat) : Prop := (q.1.cls ≠ "java/lang/invoke/MethodHandle" ∧ q.1.cls ≠ "java/lang/invoke/VarHandle") ∧ Cond.instantiable q.1.cls q.2 ∈ tables_1 ∧ Cond.privateMethod q.1 ∈ tables_1 ∧ Cond.instanceMethod q.1 ∈ tables_1
theorem lw_p0 : lw_okq (⟨"DishHouse", "foundOut", "(I)I"⟩, 7) := ⟨⟨by decide +kernel, by decide +kernel⟩, List.mem_of_getElem? (i := 15) (by decide +kernel), List.mem_of_getElem? (i := 299) (by decide +kernel), List.mem_of_getElem? (i := 300) (by decide +kernel)⟩
theorem lw_p1 : lw_okq (⟨"DishHouse$Spacings", "addPair", "(LDishHouse$Dish;LDishHouse$Dish;)V"⟩, 4) := ⟨⟨by decide +kernel, by decide +kernel⟩, List.mem_of_getElem? (i := 54) (by decide +kernel), List.mem_of_getElem? (i := 437) (by decide +kernel), List.mem_of_getElem? (i := 438) (by decide +kernel)⟩
theorem lw_p2 : lw_okq (⟨"DishHouse$Spacings", "waveOf", "(III)I"⟩, 4) := ⟨⟨by decide +kernel, by decide +kernel⟩, List.mem_of_getElem? (i := 54) (by decide +kernel), List.mem_of_getElem? (i := 447) (by decide +kernel), List.mem_of_getElem? (i := 448) (by decide +kernel)⟩
theorem lw_p3 : lw_okq (⟨"DishHouse$Board", "addBeam", "(IIJ)V"⟩, 9) := ⟨⟨by decide +kernel, by decide +kernel⟩, List.mem_of_getElem? (i := 99) (by decide +kernel), List.mem_of_getElem? (i := 496) (by decide +kernel), List.mem_of_getElem? (i := 497) (by decide +kernel)⟩
theorem lw_p4 : lw_okq (⟨"DishHouse$Board", "keptAt", "(II)I"⟩, 9) := ⟨⟨by decide +kernel, by decide +kernel⟩, List.mem_of_getElem? (i := 99) (by decide +kernel), List.mem_of_getElem? (i := 500) (by decide +kernel), List.mem_of_getElem? (i := 501) (by decide +kernel)⟩
theorem lw_p5 : lw_okq (⟨"DishHouse$Board", "amountAt", "(I)J"⟩, 9) := ⟨⟨by decide +kernel, by decide +kernel⟩, List.mem_of_getElem? (i := 99) (by decide +kernel), List.mem_of_getElem? (i := 525) (by decide +kernel), List.mem_of_getElem? (i := 526) (by decide +kernel)⟩
theorem lw_p6 : lw_okq (⟨"DishHouse$Run", "startOver", "(LDishHouse$Program;)V"⟩, 9) := ⟨⟨by decide +kernel, by decide +kernel⟩, List.mem_of_getElem? (i := 172) (by decide +kernel), List.mem_of_getElem? (i := 584) (by decide +kernel), List.mem_of_getElem? (i := 585) (by decide +kernel)⟩
theorem lw_p7 : lw_okq (⟨"DishHouse$Run", "whyNot", "(LDishHouse$Program;II)I"⟩, 9) := ⟨⟨by decide +kernel, by decide +kernel⟩, List.mem_of_getElem? (i := 172) (by decide +kernel), List.mem_of_getElem? (i := 589) (by decide +kernel), List.mem_of_getElem? (i := 590) (by decide +kernel)⟩
theorem lw_p8 : lw_okq (⟨"DishHouse$Run", "minutesOf", "(LDishHouse$Program;I)I"⟩, 9) := ⟨⟨by decide +kernel, by decide +kernel⟩, List.mem_of_getElem? (i := 172) (by decide +kernel), List.mem_of_getElem? (i := 593) (by decide +kernel), List.mem_of_getElem? (i := 594) (by decide +kernel)⟩
theorem lw_p9 : lw_okq (⟨"DishHouse$Run", "turnTo", "(I)I"⟩, 9) := ⟨⟨by decide +kernel, by decide +kernel⟩, List.mem_of_getElem? (i := 172) (by decide +kernel), List.mem_of_getElem? (i := 597) (by decide +kernel), List.mem_of_getElem? (i := 598) (by decide +kernel)⟩
theorem lw_p10 : lw_okq (⟨"DishHouse$Run", "perform", "(LDishHouse$Program;I)I"⟩, 9) := ⟨⟨by decide +kernel, by decide +kernel⟩, List.mem_of_getElem? (i := 172) (by decide +kernel), List.mem_of_getElem? (i := 609) (by decide +kernel), List.mem_of_getElem? (i := 610) (by decide +kernel)⟩
theorem lw_p11 : lw_okq (⟨"DishHouse$Run", "watch", "(II)V"⟩, 9) := ⟨⟨by decide +kernel, by decide +kernel⟩, List.mem_of_getElem? (i := 172) (by decide +kernel), List.mem_of_getElem? (i := 613) (by decide +kernel), List.mem_of_getElem? (i := 614) (by decide +kernel)⟩
theorem lw_p12 : lw_okq (⟨"DishHouse$Run", "repeat", "(LDishHouse$Program;I)I"⟩, 9) := ⟨⟨by decide +kernel, by decide +kernel⟩, List.mem_of_getElem? (i := 172) (by decide +kernel), List.mem_of_getElem? (i := 618) (by decide +kernel), List.mem_of_getElem? (i := 619) (by decide +kernel)⟩
theorem lw_p13 : lw_okq (⟨"DishHouseModel", "all", "()V"⟩, 52) := ⟨⟨by decide +kernel, by decide +kernel⟩, List.mem_of_getElem? (i := 639) (by decide +kernel), List.mem_of_getElem? (i := 645) (by decide +kernel), List.mem_of_getElem? (i := 646) (by decide +kernel)⟩
theorem lw_p14 : lw_okq (⟨"DishHouseModel", "isDish", "(I)Z"⟩, 52) := ⟨⟨by decide +kernel, by decide +kernel⟩, List.mem_of_getElem? (i := 639) (by decide +kernel), List.mem_of_getElem? (i := 820) (by decide +kernel), List.mem_of_getElem? (i := 821) (by decide +kernel)⟩
theorem lw_p15 : lw_okq (⟨"DishHouseModel", "meets", "(I)I"⟩, 52) := ⟨⟨by decide +kernel, by decide +kernel⟩, List.mem_of_getElem? (i := 639) (by decide +kernel), List.mem_of_getElem? (i := 832) (by decide +kernel), List.mem_of_getElem? (i := 833) (by decide +kernel)⟩
def lw_privs_1 : List (MethodName × Nat) := [(⟨"DishHouse", "foundOut", "(I)I"⟩, 7), (⟨"DishHouse$Spacings", "addPair", "(LDishHouse$Dish;LDishHouse$Dish;)V"⟩, 4), (⟨"DishHouse$Spacings", "waveOf", "(III)I"⟩, 4), (⟨"DishHouse$Board", "addBeam", "(IIJ)V"⟩, 9), (⟨"DishHouse$Board", "keptAt", "(II)I"⟩, 9), (⟨"DishHouse$Board", "amountAt", "(I)J"⟩, 9), (⟨"DishHouse$Run", "startOver", "(LDishHouse$Program;)V"⟩, 9), (⟨"DishHouse$Run", "whyNot", "(LDishHouse$Program;II)I"⟩, 9), (⟨"DishHouse$Run", "minutesOf", "(LDishHouse$Program;I)I"⟩, 9), (⟨"DishHouse$Run", "turnTo", "(I)I"⟩, 9), (⟨"DishHouse$Run", "perform", "(LDishHouse$Program;I)I"⟩, 9), (⟨"DishHouse$Run", "watch", "(II)V"⟩, 9), (⟨"DishHouse$Run", "repeat", "(LDishHouse$Program;I)I"⟩, 9), (⟨"DishHouseModel", "all", "()V"⟩, 52), (⟨"DishHouseModel", "isDish", "(I)Z"⟩, 52), (⟨"DishHouseModel", "meets", "(I)I"⟩, 52)]
theorem lw_r1 : ∀ q ∈ lw_privs_1, lw_okq q := List.forall_mem_cons.mpr ⟨lw_p0, List.forall_mem_cons.mpr ⟨lw_p1, List.forall_mem_cons.mpr ⟨lw_p2, List.forall_mem_cons.mpr ⟨lw_p3, List.forall_mem_cons.mpr ⟨lw_p4, List.forall_mem_cons.mpr ⟨lw_p5, List.forall_mem_cons.mpr ⟨lw_p6, List.forall_mem_cons.mpr ⟨lw_p7, List.forall_mem_cons.mpr ⟨lw_p8, List.forall_mem_cons.mpr ⟨lw_p9, List.forall_mem_cons.mpr ⟨lw_p10, List.forall_mem_cons.mpr ⟨lw_p11, List.forall_mem_cons.mpr ⟨lw_p12, List.forall_mem_cons.mpr ⟨lw_p13, List.forall_mem_cons.mpr ⟨lw_p14, List.forall_mem_cons.mpr ⟨lw_p15, fun _ h => absurd h List.not_mem_nil⟩⟩⟩⟩⟩⟩⟩⟩⟩⟩⟩⟩⟩⟩⟩⟩
theorem lw_p16 : lw_okq (⟨"DishHouseModel", "lacks", "(III)I"⟩, 52) := ⟨⟨by decide +kernel, by decide +kernel⟩, List.mem_of_getElem? (i := 639) (by decide +kernel), List.mem_of_getElem? (i := 844) (by decide +kernel), List.mem_of_getElem? (i := 845) (by decide +kernel)⟩
theorem lw_p17 : lw_okq (⟨"DishHouseModel", "productOf", "(II)J"⟩, 52) := ⟨⟨by decide +kernel, by decide +kernel⟩, List.mem_of_getElem? (i := 639) (by decide +kernel), List.mem_of_getElem? (i := 869) (by decide +kernel), List.mem_of_getElem? (i := 870) (by decide +kernel)⟩
theorem lw_p18 : lw_okq (⟨"DishHouseModel", "multiply", "(IIII)J"⟩, 52) := ⟨⟨by decide +kernel, by decide +kernel⟩, List.mem_of_getElem? (i := 639) (by decide +kernel), List.mem_of_getElem? (i := 873) (by decide +kernel), List.mem_of_getElem? (i := 874) (by decide +kernel)⟩
theorem lw_p19 : lw_okq (⟨"DishHouseModel", "isSample", "(II)Z"⟩, 52) := ⟨⟨by decide +kernel, by decide +kernel⟩, List.mem_of_getElem? (i := 639) (by decide +kernel), List.mem_of_getElem? (i := 877) (by decide +kernel), List.mem_of_getElem? (i := 878) (by decide +kernel)⟩
theorem lw_p20 : lw_okq (⟨"DishHouseModel", "sampleAt", "(II)J"⟩, 52) := ⟨⟨by decide +kernel, by decide +kernel⟩, List.mem_of_getElem? (i := 639) (by decide +kernel), List.mem_of_getElem? (i := 881) (by decide +kernel), List.mem_of_getElem? (i := 882) (by decide +kernel)⟩
theorem lw_p21 : lw_okq (⟨"DishHouseModel", "space", "()V"⟩, 52) := ⟨⟨by decide +kernel, by decide +kernel⟩, List.mem_of_getElem? (i := 639) (by decide +kernel), List.mem_of_getElem? (i := 913) (by decide +kernel), List.mem_of_getElem? (i := 914) (by decide +kernel)⟩
theorem lw_p22 : lw_okq (⟨"DishHouseModel", "beamNow", "(II)I"⟩, 52) := ⟨⟨by decide +kernel, by decide +kernel⟩, List.mem_of_getElem? (i := 639) (by decide +kernel), List.mem_of_getElem? (i := 917) (by decide +kernel), List.mem_of_getElem? (i := 918) (by decide +kernel)⟩
theorem lw_p23 : lw_okq (⟨"DishHouseModel", "wave", "(I)I"⟩, 52) := ⟨⟨by decide +kernel, by decide +kernel⟩, List.mem_of_getElem? (i := 639) (by decide +kernel), List.mem_of_getElem? (i := 921) (by decide +kernel), List.mem_of_getElem? (i := 922) (by decide +kernel)⟩
theorem lw_p24 : lw_okq (⟨"DishHouseModel", "cellOf", "(III)J"⟩, 52) := ⟨⟨by decide +kernel, by decide +kernel⟩, List.mem_of_getElem? (i := 639) (by decide +kernel), List.mem_of_getElem? (i := 941) (by decide +kernel), List.mem_of_getElem? (i := 942) (by decide +kernel)⟩
theorem lw_p25 : lw_okq (⟨"DishHouseModel", "cells", "()I"⟩, 52) := ⟨⟨by decide +kernel, by decide +kernel⟩, List.mem_of_getElem? (i := 639) (by decide +kernel), List.mem_of_getElem? (i := 953) (by decide +kernel), List.mem_of_getElem? (i := 954) (by decide +kernel)⟩
theorem lw_p26 : lw_okq (⟨"DishHouseModel", "keptBeam", "(II)I"⟩, 52) := ⟨⟨by decide +kernel, by decide +kernel⟩, List.mem_of_getElem? (i := 639) (by decide +kernel), List.mem_of_getElem? (i := 970) (by decide +kernel), List.mem_of_getElem? (i := 971) (by decide +kernel)⟩
theorem lw_p27 : lw_okq (⟨"DishHouseModel", "lays", "(IJ)V"⟩, 52) := ⟨⟨by decide +kernel, by decide +kernel⟩, List.mem_of_getElem? (i := 639) (by decide +kernel), List.mem_of_getElem? (i := 974) (by decide +kernel), List.mem_of_getElem? (i := 975) (by decide +kernel)⟩
theorem lw_p28 : lw_okq (⟨"DishHouseModel", "isOrder", "(III)Z"⟩, 52) := ⟨⟨by decide +kernel, by decide +kernel⟩, List.mem_of_getElem? (i := 639) (by decide +kernel), List.mem_of_getElem? (i := 995) (by decide +kernel), List.mem_of_getElem? (i := 996) (by decide +kernel)⟩
theorem lw_p29 : lw_okq (⟨"DishHouseModel", "lengthOf", "(I)I"⟩, 52) := ⟨⟨by decide +kernel, by decide +kernel⟩, List.mem_of_getElem? (i := 639) (by decide +kernel), List.mem_of_getElem? (i := 1010) (by decide +kernel), List.mem_of_getElem? (i := 1011) (by decide +kernel)⟩
theorem lw_p30 : lw_okq (⟨"DishHouseModel", "turnOf", "(I)I"⟩, 52) := ⟨⟨by decide +kernel, by decide +kernel⟩, List.mem_of_getElem? (i := 639) (by decide +kernel), List.mem_of_getElem? (i := 1014) (by decide +kernel), List.mem_of_getElem? (i := 1015) (by decide +kernel)⟩
theorem lw_p31 : lw_okq (⟨"DishHouseModel", "isUpAll", "(I)Z"⟩, 52) := ⟨⟨by decide +kernel, by decide +kernel⟩, List.mem_of_getElem? (i := 639) (by decide +kernel), List.mem_of_getElem? (i := 1018) (by decide +kernel), List.mem_of_getElem? (i := 1019) (by decide +kernel)⟩
def lw_privs_2 : List (MethodName × Nat) := [(⟨"DishHouseModel", "lacks", "(III)I"⟩, 52), (⟨"DishHouseModel", "productOf", "(II)J"⟩, 52), (⟨"DishHouseModel", "multiply", "(IIII)J"⟩, 52), (⟨"DishHouseModel", "isSample", "(II)Z"⟩, 52), (⟨"DishHouseModel", "sampleAt", "(II)J"⟩, 52), (⟨"DishHouseModel", "space", "()V"⟩, 52), (⟨"DishHouseModel", "beamNow", "(II)I"⟩, 52), (⟨"DishHouseModel", "wave", "(I)I"⟩, 52), (⟨"DishHouseModel", "cellOf", "(III)J"⟩, 52), (⟨"DishHouseModel", "cells", "()I"⟩, 52), (⟨"DishHouseModel", "keptBeam", "(II)I"⟩, 52), (⟨"DishHouseModel", "lays", "(IJ)V"⟩, 52), (⟨"DishHouseModel", "isOrder", "(III)Z"⟩, 52), (⟨"DishHouseModel", "lengthOf", "(I)I"⟩, 52), (⟨"DishHouseModel", "turnOf", "(I)I"⟩, 52), (⟨"DishHouseModel", "isUpAll", "(I)Z"⟩, 52)]
theorem lw_r2 : ∀ q ∈ lw_privs_2, lw_okq q := List.forall_mem_cons.mpr ⟨lw_p16, List.forall_mem_cons.mpr ⟨lw_p17, List.forall_mem_cons.mpr ⟨lw_p18, List.forall_mem_cons.mpr ⟨lw_p19, List.forall_mem_cons.mpr ⟨lw_p20, List.forall_mem_cons.mpr ⟨lw_p21, List.forall_mem_cons.mpr ⟨lw_p22, List.forall_mem_cons.mpr ⟨lw_p23, List.forall_mem_cons.mpr ⟨lw_p24, List.forall_mem_cons.mpr ⟨lw_p25, List.forall_mem_cons.mpr ⟨lw_p26, List.forall_mem_cons.mpr ⟨lw_p27, List.forall_mem_cons.mpr ⟨lw_p28, List.forall_mem_cons.mpr ⟨lw_p29, List.forall_mem_cons.mpr ⟨lw_p30, List.forall_mem_cons.mpr ⟨lw_p31, fun _ h => absurd h List.not_mem_nil⟩⟩⟩⟩⟩⟩⟩⟩⟩⟩⟩⟩⟩⟩⟩⟩
theorem lw_p32 : lw_okq (⟨"DishHouseModel", "isUp", "(II)Z"⟩, 52) := ⟨⟨by decide +kernel, by decide +kernel⟩, List.mem_of_getElem? (i := 639) (by decide +kernel), List.mem_of_getElem? (i := 1022) (by decide +kernel), List.mem_of_getElem? (i := 1023) (by decide +kernel)⟩
theorem lw_p33 : lw_okq (⟨"DishHouseModel", "does", "(I)I"⟩, 52) := ⟨⟨by decide +kernel, by decide +kernel⟩, List.mem_of_getElem? (i := 639) (by decide +kernel), List.mem_of_getElem? (i := 1026) (by decide +kernel), List.mem_of_getElem? (i := 1027) (by decide +kernel)⟩
def lw_privs_3 : List (MethodName × Nat) := [(⟨"DishHouseModel", "isUp", "(II)Z"⟩, 52), (⟨"DishHouseModel", "does", "(I)I"⟩, 52)]
theorem lw_r3 : ∀ q ∈ lw_privs_3, lw_okq q := List.forall_mem_cons.mpr ⟨lw_p32, List.forall_mem_cons.mpr ⟨lw_p33, fun _ h => absurd h List.not_mem_nil⟩⟩
def lw_privs : List (MethodName × Nat) := lw_privs_1 ++ (lw_privs_2 ++ (lw_privs_3))
def lw_tbl : List Cond := k2_sels lw_privs ++ tables_1
theorem lw_privs_ok : ∀ q ∈ lw_privs, lw_okq q := by
  show ∀ q ∈ lw_privs_1 ++ (lw_privs_2 ++ (lw_privs_3)), lw_okq q
  exact List.forall_mem_append.mpr ⟨lw_r1, List.forall_mem_append.mpr ⟨lw_r2, lw_r3⟩⟩
end
section
def RX0 : String := "DishHouse$Board"
def TX0 : u_T := fun k => match k with
  | 0 => ("DishHouse$Board", "cells", "[J", true)
  | 1 => ("DishHouse$Board", "kept", "[I", true)
  | 2 => ("DishHouse$Board", "partCells", "[I", true)
  | 3 => ("DishHouse$Board", "partAmounts", "[J", true)
  | 4 => ("DishHouse$Board", "parts", "I", false)
  | 5 => ("DishHouse$Board", "left", "I", false)
  | 6 => ("DishHouse$Board", "top", "I", false)
  | 7 => ("DishHouse$Board", "right", "I", false)
  | _ => ("DishHouse$Board", "bottom", "I", false)
def tyX0 : Nat → FieldType := fun k => match k with
  | 0 => .array .long
  | 1 => .array .int
  | 2 => .array .int
  | 3 => .array .long
  | 4 => .int
  | 5 => .int
  | 6 => .int
  | 7 => .int
  | _ => .int
abbrev wsX00 : List Cond := u_ws RX0 TX0 9
theorem nmX0 : ∀ a, a < 9 → ∀ b, b < 9 → a ≠ b → (TX0 a).2.1 ≠ (TX0 b).2.1 := by decide +kernel
theorem tyX0_ok : ∀ k, k < 9 → parseFieldDescriptor (TX0 k).2.2.1 = some (tyX0 k) := by decide +kernel
abbrev cX0_init : ByteArray := prog_2_method_1_code
def yX0_init : MethodName := ⟨RX0, "<init>", "()V"⟩
abbrev cX0_startWith : ByteArray := prog_2_method_2_code
def yX0_startWith : MethodName := ⟨RX0, "startWith", "(LDishHouse$Spacings;)V"⟩
abbrev cX0_sumProducts : ByteArray := prog_2_method_3_code
def yX0_sumProducts : MethodName := ⟨RX0, "sumProducts", "(LDishHouse$Spacings;)V"⟩
abbrev cX0_sumPoints : ByteArray := prog_2_method_4_code
def yX0_sumPoints : MethodName := ⟨RX0, "sumPoints", "(LDishHouse$Points;)V"⟩
abbrev cX0_keptAt : ByteArray := prog_2_method_5_code
def yX0_keptAt : MethodName := ⟨RX0, "keptAt", "(II)I"⟩
abbrev cX0_addBeam : ByteArray := prog_2_method_6_code
def yX0_addBeam : MethodName := ⟨RX0, "addBeam", "(IIJ)V"⟩
abbrev cX0_look : ByteArray := prog_2_method_7_code
def yX0_look : MethodName := ⟨RX0, "look", "(IIII)V"⟩
abbrev cX0_windowCells : ByteArray := prog_2_method_8_code
def yX0_windowCells : MethodName := ⟨RX0, "windowCells", "()I"⟩
abbrev cX0_greatestCell : ByteArray := prog_2_method_9_code
def yX0_greatestCell : MethodName := ⟨RX0, "greatestCell", "()I"⟩
abbrev cX0_amountAt : ByteArray := prog_2_method_10_code
def yX0_amountAt : MethodName := ⟨RX0, "amountAt", "(I)J"⟩
abbrev cX0_takeOff : ByteArray := prog_2_method_11_code
def yX0_takeOff : MethodName := ⟨RX0, "takeOff", "(II)V"⟩
abbrev cX0_putBack : ByteArray := prog_2_method_12_code
def yX0_putBack : MethodName := ⟨RX0, "putBack", "()V"⟩
def RX1 : String := "DishHouse$Dish"
def TX1 : u_T := fun k => match k with
  | 0 => ("DishHouse$Dish", "x", "I", true)
  | 1 => ("DishHouse$Dish", "y", "I", true)
  | 2 => ("DishHouse$Dish", "delay", "I", false)
  | 3 => ("DishHouse$Dish", "gain", "I", false)
  | 4 => ("DishHouse$Dish", "form", "I", false)
  | 5 => ("DishHouse$Dish", "length", "I", false)
  | 6 => ("DishHouse$Dish", "items", "[I", true)
  | _ => ("DishHouse$Dish", "flagged", "[I", true)
def tyX1 : Nat → FieldType := fun k => match k with
  | 0 => .int
  | 1 => .int
  | 2 => .int
  | 3 => .int
  | 4 => .int
  | 5 => .int
  | 6 => .array .int
  | _ => .array .int
abbrev wsX10 : List Cond := u_ws RX1 TX1 8
theorem nmX1 : ∀ a, a < 8 → ∀ b, b < 8 → a ≠ b → (TX1 a).2.1 ≠ (TX1 b).2.1 := by decide +kernel
theorem tyX1_ok : ∀ k, k < 8 → parseFieldDescriptor (TX1 k).2.2.1 = some (tyX1 k) := by decide +kernel
abbrev cX1_init : ByteArray := prog_3_method_1_code
def yX1_init : MethodName := ⟨RX1, "<init>", "(II)V"⟩
abbrev cX1_isLost : ByteArray := prog_3_method_2_code
def yX1_isLost : MethodName := ⟨RX1, "isLost", "()Z"⟩
abbrev cX1_renew : ByteArray := prog_3_method_3_code
def yX1_renew : MethodName := ⟨RX1, "renew", "(II)V"⟩
abbrev cX1_hasItem : ByteArray := prog_3_method_4_code
def yX1_hasItem : MethodName := ⟨RX1, "hasItem", "(I)Z"⟩
abbrev cX1_hasSpan : ByteArray := prog_3_method_5_code
def yX1_hasSpan : MethodName := ⟨RX1, "hasSpan", "(II)Z"⟩
abbrev cX1_faultOf : ByteArray := prog_3_method_6_code
def yX1_faultOf : MethodName := ⟨RX1, "faultOf", "(II)I"⟩
abbrev cX1_store : ByteArray := prog_3_method_7_code
def yX1_store : MethodName := ⟨RX1, "store", "(II)V"⟩
abbrev cX1_load : ByteArray := prog_3_method_8_code
def yX1_load : MethodName := ⟨RX1, "load", "(I)I"⟩
abbrev cX1_addFlags : ByteArray := prog_3_method_9_code
def yX1_addFlags : MethodName := ⟨RX1, "addFlags", "(III)V"⟩
abbrev cX1_hasUsable : ByteArray := prog_3_method_10_code
def yX1_hasUsable : MethodName := ⟨RX1, "hasUsable", "(I)Z"⟩
abbrev cX1_sampleAt : ByteArray := prog_3_method_11_code
def yX1_sampleAt : MethodName := ⟨RX1, "sampleAt", "(I)I"⟩
abbrev cX1_ticksWith : ByteArray := prog_3_method_12_code
def yX1_ticksWith : MethodName := ⟨RX1, "ticksWith", "(LDishHouse$Dish;)I"⟩
abbrev cX1_productWith : ByteArray := prog_3_method_13_code
def yX1_productWith : MethodName := ⟨RX1, "productWith", "(LDishHouse$Dish;I)J"⟩
abbrev cX1_bestDelayOf : ByteArray := prog_3_method_14_code
def yX1_bestDelayOf : MethodName := ⟨RX1, "bestDelayOf", "(LDishHouse$Dish;)I"⟩
def RX2 : String := "DishHouse$Points"
def TX2 : u_T := fun k => match k with
  | 0 => ("DishHouse$Points", "xs", "[I", true)
  | 1 => ("DishHouse$Points", "ys", "[I", true)
  | 2 => ("DishHouse$Points", "fluxes", "[I", true)
  | _ => ("DishHouse$Points", "size", "I", false)
def tyX2 : Nat → FieldType := fun k => match k with
  | 0 => .array .int
  | 1 => .array .int
  | 2 => .array .int
  | _ => .int
abbrev wsX20 : List Cond := u_ws RX2 TX2 4
theorem nmX2 : ∀ a, a < 4 → ∀ b, b < 4 → a ≠ b → (TX2 a).2.1 ≠ (TX2 b).2.1 := by decide +kernel
theorem tyX2_ok : ∀ k, k < 4 → parseFieldDescriptor (TX2 k).2.2.1 = some (tyX2 k) := by decide +kernel
abbrev cX2_init : ByteArray := prog_4_method_1_code
def yX2_init : MethodName := ⟨RX2, "<init>", "()V"⟩
abbrev cX2_add : ByteArray := prog_4_method_2_code
def yX2_add : MethodName := ⟨RX2, "add", "(III)I"⟩
def RX3 : String := "DishHouse$Program"
def TX3 : u_T := fun k => match k with
  | 0 => ("DishHouse$Program", "kinds", "[I", true)
  | 1 => ("DishHouse$Program", "as", "[I", true)
  | 2 => ("DishHouse$Program", "bs", "[I", true)
  | 3 => ("DishHouse$Program", "size", "I", false)
  | 4 => ("DishHouse$Program", "rises", "[I", true)
  | _ => ("DishHouse$Program", "sets", "[I", true)
def tyX3 : Nat → FieldType := fun k => match k with
  | 0 => .array .int
  | 1 => .array .int
  | 2 => .array .int
  | 3 => .int
  | 4 => .array .int
  | _ => .array .int
abbrev wsX30 : List Cond := u_ws RX3 TX3 6
theorem nmX3 : ∀ a, a < 6 → ∀ b, b < 6 → a ≠ b → (TX3 a).2.1 ≠ (TX3 b).2.1 := by decide +kernel
theorem tyX3_ok : ∀ k, k < 6 → parseFieldDescriptor (TX3 k).2.2.1 = some (tyX3 k) := by decide +kernel
abbrev cX3_init : ByteArray := prog_5_method_1_code
def yX3_init : MethodName := ⟨RX3, "<init>", "()V"⟩
abbrev cX3_fits : ByteArray := prog_5_method_2_code
def yX3_fits : MethodName := ⟨RX3, "fits", "(III)Z"⟩
abbrev cX3_add : ByteArray := prog_5_method_3_code
def yX3_add : MethodName := ⟨RX3, "add", "(III)I"⟩
abbrev cX3_isUp : ByteArray := prog_5_method_4_code
def yX3_isUp : MethodName := ⟨RX3, "isUp", "(III)Z"⟩
def RX4 : String := "DishHouse$Row"
def TX4 : u_T := fun k => match k with
  | 0 => ("DishHouse$Row", "dishes", "[LDishHouse$Dish;", true)
  | 1 => ("DishHouse$Row", "size", "I", false)
  | 2 => ("DishHouse$Row", "flagDishes", "[LDishHouse$Dish;", true)
  | 3 => ("DishHouse$Row", "flagFroms", "[I", true)
  | 4 => ("DishHouse$Row", "flagTos", "[I", true)
  | _ => ("DishHouse$Row", "flags", "I", false)
def tyX4 : Nat → FieldType := fun k => match k with
  | 0 => .array (.object "DishHouse$Dish")
  | 1 => .int
  | 2 => .array (.object "DishHouse$Dish")
  | 3 => .array .int
  | 4 => .array .int
  | _ => .int
abbrev wsX40 : List Cond := u_ws RX4 TX4 6
theorem nmX4 : ∀ a, a < 6 → ∀ b, b < 6 → a ≠ b → (TX4 a).2.1 ≠ (TX4 b).2.1 := by decide +kernel
theorem tyX4_ok : ∀ k, k < 6 → parseFieldDescriptor (TX4 k).2.2.1 = some (tyX4 k) := by decide +kernel
abbrev cX4_init : ByteArray := prog_6_method_1_code
def yX4_init : MethodName := ⟨RX4, "<init>", "()V"⟩
abbrev cX4_find : ByteArray := prog_6_method_2_code
def yX4_find : MethodName := ⟨RX4, "find", "(I)LDishHouse$Dish;"⟩
abbrev cX4_addDish : ByteArray := prog_6_method_3_code
def yX4_addDish : MethodName := ⟨RX4, "addDish", "(II)I"⟩
abbrev cX4_addFlag : ByteArray := prog_6_method_4_code
def yX4_addFlag : MethodName := ⟨RX4, "addFlag", "(LDishHouse$Dish;II)I"⟩
abbrev cX4_removeFlag : ByteArray := prog_6_method_5_code
def yX4_removeFlag : MethodName := ⟨RX4, "removeFlag", "()I"⟩
def RX5 : String := "DishHouse$Run"
def TX5 : u_T := fun k => match k with
  | 0 => ("DishHouse$Run", "remaining", "[I", true)
  | 1 => ("DishHouse$Run", "watchedOf", "[I", true)
  | 2 => ("DishHouse$Run", "minute", "I", false)
  | 3 => ("DishHouse$Run", "azimuth", "I", false)
  | 4 => ("DishHouse$Run", "watched", "I", false)
  | 5 => ("DishHouse$Run", "finished", "I", false)
  | 6 => ("DishHouse$Run", "endedAt", "I", false)
  | 7 => ("DishHouse$Run", "turning", "I", false)
  | _ => ("DishHouse$Run", "stormEnd", "I", false)
def tyX5 : Nat → FieldType := fun k => match k with
  | 0 => .array .int
  | 1 => .array .int
  | 2 => .int
  | 3 => .int
  | 4 => .int
  | 5 => .int
  | 6 => .int
  | 7 => .int
  | _ => .int
abbrev wsX50 : List Cond := u_ws RX5 TX5 9
theorem nmX5 : ∀ a, a < 9 → ∀ b, b < 9 → a ≠ b → (TX5 a).2.1 ≠ (TX5 b).2.1 := by decide +kernel
theorem tyX5_ok : ∀ k, k < 9 → parseFieldDescriptor (TX5 k).2.2.1 = some (tyX5 k) := by decide +kernel
abbrev cX5_init : ByteArray := prog_7_method_1_code
def yX5_init : MethodName := ⟨RX5, "<init>", "()V"⟩
abbrev cX5_follow : ByteArray := prog_7_method_2_code
def yX5_follow : MethodName := ⟨RX5, "follow", "(LDishHouse$Program;I)I"⟩
abbrev cX5_startOver : ByteArray := prog_7_method_3_code
def yX5_startOver : MethodName := ⟨RX5, "startOver", "(LDishHouse$Program;)V"⟩
abbrev cX5_whyNot : ByteArray := prog_7_method_4_code
def yX5_whyNot : MethodName := ⟨RX5, "whyNot", "(LDishHouse$Program;II)I"⟩
abbrev cX5_minutesOf : ByteArray := prog_7_method_5_code
def yX5_minutesOf : MethodName := ⟨RX5, "minutesOf", "(LDishHouse$Program;I)I"⟩
abbrev cX5_turnTo : ByteArray := prog_7_method_6_code
def yX5_turnTo : MethodName := ⟨RX5, "turnTo", "(I)I"⟩
abbrev cX5_perform : ByteArray := prog_7_method_7_code
def yX5_perform : MethodName := ⟨RX5, "perform", "(LDishHouse$Program;I)I"⟩
abbrev cX5_watch : ByteArray := prog_7_method_8_code
def yX5_watch : MethodName := ⟨RX5, "watch", "(II)V"⟩
abbrev cX5_repeat : ByteArray := prog_7_method_9_code
def yX5_repeat : MethodName := ⟨RX5, "repeat", "(LDishHouse$Program;I)I"⟩
def RX6 : String := "DishHouse$Spacings"
def TX6 : u_T := fun k => match k with
  | 0 => ("DishHouse$Spacings", "us", "[I", true)
  | 1 => ("DishHouse$Spacings", "vs", "[I", true)
  | 2 => ("DishHouse$Spacings", "products", "[J", true)
  | _ => ("DishHouse$Spacings", "size", "I", false)
def tyX6 : Nat → FieldType := fun k => match k with
  | 0 => .array .int
  | 1 => .array .int
  | 2 => .array .long
  | _ => .int
abbrev wsX60 : List Cond := u_ws RX6 TX6 4
theorem nmX6 : ∀ a, a < 4 → ∀ b, b < 4 → a ≠ b → (TX6 a).2.1 ≠ (TX6 b).2.1 := by decide +kernel
theorem tyX6_ok : ∀ k, k < 4 → parseFieldDescriptor (TX6 k).2.2.1 = some (tyX6 k) := by decide +kernel
abbrev cX6_init : ByteArray := prog_8_method_1_code
def yX6_init : MethodName := ⟨RX6, "<init>", "()V"⟩
abbrev cX6_gather : ByteArray := prog_8_method_2_code
def yX6_gather : MethodName := ⟨RX6, "gather", "(LDishHouse$Row;)V"⟩
abbrev cX6_addPair : ByteArray := prog_8_method_3_code
def yX6_addPair : MethodName := ⟨RX6, "addPair", "(LDishHouse$Dish;LDishHouse$Dish;)V"⟩
abbrev cX6_waveOf : ByteArray := prog_8_method_4_code
def yX6_waveOf : MethodName := ⟨RX6, "waveOf", "(III)I"⟩
abbrev cX6_beamAt : ByteArray := prog_8_method_5_code
def yX6_beamAt : MethodName := ⟨RX6, "beamAt", "(II)I"⟩
abbrev cX6_productsAt : ByteArray := prog_8_method_6_code
def yX6_productsAt : MethodName := ⟨RX6, "productsAt", "(II)J"⟩
def RX7 : String := "DishHouse"
def TX7 : u_T := fun k => match k with
  | 0 => ("DishHouse", "row", "LDishHouse$Row;", true)
  | 1 => ("DishHouse", "spacings", "LDishHouse$Spacings;", true)
  | 2 => ("DishHouse", "points", "LDishHouse$Points;", true)
  | 3 => ("DishHouse", "board", "LDishHouse$Board;", true)
  | 4 => ("DishHouse", "program", "LDishHouse$Program;", true)
  | 5 => ("DishHouse", "run", "LDishHouse$Run;", true)
  | _ => ("DishHouse", "finding", "I", false)
def tyX7 : Nat → FieldType := fun k => match k with
  | 0 => .object "DishHouse$Row"
  | 1 => .object "DishHouse$Spacings"
  | 2 => .object "DishHouse$Points"
  | 3 => .object "DishHouse$Board"
  | 4 => .object "DishHouse$Program"
  | 5 => .object "DishHouse$Run"
  | _ => .int
abbrev wsX70 : List Cond := u_ws RX7 TX7 7
theorem nmX7 : ∀ a, a < 7 → ∀ b, b < 7 → a ≠ b → (TX7 a).2.1 ≠ (TX7 b).2.1 := by decide +kernel
theorem tyX7_ok : ∀ k, k < 7 → parseFieldDescriptor (TX7 k).2.2.1 = some (tyX7 k) := by decide +kernel
abbrev cX7_init : ByteArray := prog_1_method_1_code
def yX7_init : MethodName := ⟨RX7, "<init>", "()V"⟩
abbrev cX7_dish : ByteArray := prog_1_method_2_code
def yX7_dish : MethodName := ⟨RX7, "dish", "(II)I"⟩
abbrev cX7_tune : ByteArray := prog_1_method_3_code
def yX7_tune : MethodName := ⟨RX7, "tune", "(III)I"⟩
abbrev cX7_reel : ByteArray := prog_1_method_4_code
def yX7_reel : MethodName := ⟨RX7, "reel", "(III)I"⟩
abbrev cX7_lose : ByteArray := prog_1_method_5_code
def yX7_lose : MethodName := ⟨RX7, "lose", "(I)I"⟩
abbrev cX7_put : ByteArray := prog_1_method_6_code
def yX7_put : MethodName := ⟨RX7, "put", "(IIII)I"⟩
abbrev cX7_get : ByteArray := prog_1_method_7_code
def yX7_get : MethodName := ⟨RX7, "get", "(III)I"⟩
abbrev cX7_copy : ByteArray := prog_1_method_8_code
def yX7_copy : MethodName := ⟨RX7, "copy", "(IIIII)I"⟩
abbrev cX7_flag : ByteArray := prog_1_method_9_code
def yX7_flag : MethodName := ⟨RX7, "flag", "(III)I"⟩
abbrev cX7_unflag : ByteArray := prog_1_method_10_code
def yX7_unflag : MethodName := ⟨RX7, "unflag", "()I"⟩
abbrev cX7_ticks : ByteArray := prog_1_method_11_code
def yX7_ticks : MethodName := ⟨RX7, "ticks", "(II)I"⟩
abbrev cX7_product : ByteArray := prog_1_method_12_code
def yX7_product : MethodName := ⟨RX7, "product", "(II)J"⟩
abbrev cX7_delay : ByteArray := prog_1_method_13_code
def yX7_delay : MethodName := ⟨RX7, "delay", "(II)I"⟩
abbrev cX7_three : ByteArray := prog_1_method_14_code
def yX7_three : MethodName := ⟨RX7, "three", "(III)I"⟩
abbrev cX7_four : ByteArray := prog_1_method_15_code
def yX7_four : MethodName := ⟨RX7, "four", "(IIII)I"⟩
abbrev cX7_beam : ByteArray := prog_1_method_16_code
def yX7_beam : MethodName := ⟨RX7, "beam", "(II)I"⟩
abbrev cX7_point : ByteArray := prog_1_method_17_code
def yX7_point : MethodName := ⟨RX7, "point", "(III)I"⟩
abbrev cX7_dark : ByteArray := prog_1_method_18_code
def yX7_dark : MethodName := ⟨RX7, "dark", "()I"⟩
abbrev cX7_board : ByteArray := prog_1_method_19_code
def yX7_board : MethodName := ⟨RX7, "board", "(I)I"⟩
abbrev cX7_at : ByteArray := prog_1_method_20_code
def yX7_at : MethodName := ⟨RX7, "at", "(II)J"⟩
abbrev cX7_window : ByteArray := prog_1_method_21_code
def yX7_window : MethodName := ⟨RX7, "window", "(IIII)I"⟩
abbrev cX7_peak : ByteArray := prog_1_method_22_code
def yX7_peak : MethodName := ⟨RX7, "peak", "()I"⟩
abbrev cX7_take : ByteArray := prog_1_method_23_code
def yX7_take : MethodName := ⟨RX7, "take", "(II)I"⟩
abbrev cX7_part : ByteArray := prog_1_method_24_code
def yX7_part : MethodName := ⟨RX7, "part", "(II)J"⟩
abbrev cX7_back : ByteArray := prog_1_method_25_code
def yX7_back : MethodName := ⟨RX7, "back", "()I"⟩
abbrev cX7_source : ByteArray := prog_1_method_26_code
def yX7_source : MethodName := ⟨RX7, "source", "(III)I"⟩
abbrev cX7_order : ByteArray := prog_1_method_27_code
def yX7_order : MethodName := ⟨RX7, "order", "(III)I"⟩
abbrev cX7_wipe : ByteArray := prog_1_method_28_code
def yX7_wipe : MethodName := ⟨RX7, "wipe", "()I"⟩
abbrev cX7_night : ByteArray := prog_1_method_29_code
def yX7_night : MethodName := ⟨RX7, "night", "(I)I"⟩
abbrev cX7_told : ByteArray := prog_1_method_30_code
def yX7_told : MethodName := ⟨RX7, "told", "(I)I"⟩
abbrev cX7_count : ByteArray := prog_1_method_31_code
def yX7_count : MethodName := ⟨RX7, "count", "(I)I"⟩
abbrev cX7_digest : ByteArray := prog_1_method_32_code
def yX7_digest : MethodName := ⟨RX7, "digest", "()J"⟩
abbrev cX7_foundOut : ByteArray := prog_1_method_33_code
def yX7_foundOut : MethodName := ⟨RX7, "foundOut", "(I)I"⟩
abbrev cX7_isWithin : ByteArray := prog_1_method_34_code
def yX7_isWithin : MethodName := ⟨RX7, "isWithin", "(III)Z"⟩
abbrev cX7_isForm : ByteArray := prog_1_method_35_code
def yX7_isForm : MethodName := ⟨RX7, "isForm", "(I)Z"⟩
abbrev cX7_isCell : ByteArray := prog_1_method_36_code
def yX7_isCell : MethodName := ⟨RX7, "isCell", "(II)Z"⟩
abbrev cX7_signOf : ByteArray := prog_1_method_37_code
def yX7_signOf : MethodName := ⟨RX7, "signOf", "(LDishHouse$Dish;LDishHouse$Dish;)I"⟩
def RX8 : String := "DishHouseModel"
def TX8 : u_T := fun k => match k with
  | 0 => ("DishHouseModel", "dishes", "I", false)
  | 1 => ("DishHouseModel", "placeX", "[I", true)
  | 2 => ("DishHouseModel", "placeY", "[I", true)
  | 3 => ("DishHouseModel", "delays", "[I", true)
  | 4 => ("DishHouseModel", "gains", "[I", true)
  | 5 => ("DishHouseModel", "isThere", "[Z", true)
  | 6 => ("DishHouseModel", "forms", "[I", true)
  | 7 => ("DishHouseModel", "sizes", "[I", true)
  | 8 => ("DishHouseModel", "items", "[I", true)
  | 9 => ("DishHouseModel", "moved", "[I", true)
  | 10 => ("DishHouseModel", "finding", "I", false)
  | 11 => ("DishHouseModel", "flags", "I", false)
  | 12 => ("DishHouseModel", "flagDish", "[I", true)
  | 13 => ("DishHouseModel", "flagFrom", "[I", true)
  | 14 => ("DishHouseModel", "flagTo", "[I", true)
  | 15 => ("DishHouseModel", "counted", "I", false)
  | 16 => ("DishHouseModel", "waves", "[I", true)
  | 17 => ("DishHouseModel", "board", "[J", true)
  | 18 => ("DishHouseModel", "spacings", "I", false)
  | 19 => ("DishHouseModel", "spaceU", "[I", true)
  | 20 => ("DishHouseModel", "spaceV", "[I", true)
  | 21 => ("DishHouseModel", "spaceProduct", "[J", true)
  | 22 => ("DishHouseModel", "keptMany", "I", false)
  | 23 => ("DishHouseModel", "keptU", "[I", true)
  | 24 => ("DishHouseModel", "keptV", "[I", true)
  | 25 => ("DishHouseModel", "points", "I", false)
  | 26 => ("DishHouseModel", "pointX", "[I", true)
  | 27 => ("DishHouseModel", "pointY", "[I", true)
  | 28 => ("DishHouseModel", "flux", "[I", true)
  | 29 => ("DishHouseModel", "parts", "I", false)
  | 30 => ("DishHouseModel", "partCell", "[I", true)
  | 31 => ("DishHouseModel", "partA", "[J", true)
  | 32 => ("DishHouseModel", "lowX", "I", false)
  | 33 => ("DishHouseModel", "highX", "I", false)
  | 34 => ("DishHouseModel", "lowY", "I", false)
  | 35 => ("DishHouseModel", "highY", "I", false)
  | 36 => ("DishHouseModel", "rises", "[Z", true)
  | 37 => ("DishHouseModel", "riseAt", "[I", true)
  | 38 => ("DishHouseModel", "setAt", "[I", true)
  | 39 => ("DishHouseModel", "orders", "I", false)
  | 40 => ("DishHouseModel", "kinds", "[I", true)
  | 41 => ("DishHouseModel", "first", "[I", true)
  | 42 => ("DishHouseModel", "second", "[I", true)
  | 43 => ("DishHouseModel", "left", "[I", true)
  | 44 => ("DishHouseModel", "minute", "I", false)
  | 45 => ("DishHouseModel", "azimuth", "I", false)
  | 46 => ("DishHouseModel", "watched", "I", false)
  | 47 => ("DishHouseModel", "done", "I", false)
  | 48 => ("DishHouseModel", "endedAt", "I", false)
  | 49 => ("DishHouseModel", "turning", "I", false)
  | 50 => ("DishHouseModel", "stormEnd", "I", false)
  | _ => ("DishHouseModel", "watchedOf", "[I", true)
def tyX8 : Nat → FieldType := fun k => match k with
  | 0 => .int
  | 1 => .array .int
  | 2 => .array .int
  | 3 => .array .int
  | 4 => .array .int
  | 5 => .array .boolean
  | 6 => .array .int
  | 7 => .array .int
  | 8 => .array .int
  | 9 => .array .int
  | 10 => .int
  | 11 => .int
  | 12 => .array .int
  | 13 => .array .int
  | 14 => .array .int
  | 15 => .int
  | 16 => .array .int
  | 17 => .array .long
  | 18 => .int
  | 19 => .array .int
  | 20 => .array .int
  | 21 => .array .long
  | 22 => .int
  | 23 => .array .int
  | 24 => .array .int
  | 25 => .int
  | 26 => .array .int
  | 27 => .array .int
  | 28 => .array .int
  | 29 => .int
  | 30 => .array .int
  | 31 => .array .long
  | 32 => .int
  | 33 => .int
  | 34 => .int
  | 35 => .int
  | 36 => .array .boolean
  | 37 => .array .int
  | 38 => .array .int
  | 39 => .int
  | 40 => .array .int
  | 41 => .array .int
  | 42 => .array .int
  | 43 => .array .int
  | 44 => .int
  | 45 => .int
  | 46 => .int
  | 47 => .int
  | 48 => .int
  | 49 => .int
  | 50 => .int
  | _ => .array .int
abbrev wsX80 : List Cond := u_ws RX8 TX8 52
theorem nmX8 : ∀ a, a < 52 → ∀ b, b < 52 → a ≠ b → (TX8 a).2.1 ≠ (TX8 b).2.1 := by decide +kernel
theorem tyX8_ok : ∀ k, k < 52 → parseFieldDescriptor (TX8 k).2.2.1 = some (tyX8 k) := by decide +kernel
abbrev cX8_init : ByteArray := prog_10_method_1_code
def yX8_init : MethodName := ⟨RX8, "<init>", "()V"⟩
abbrev cX8_in : ByteArray := prog_10_method_3_code
def yX8_in : MethodName := ⟨RX8, "in", "(JJJ)Z"⟩
abbrev cX8_meets : ByteArray := prog_10_method_4_code
def yX8_meets : MethodName := ⟨RX8, "meets", "(I)I"⟩
abbrev cX8_isDish : ByteArray := prog_10_method_5_code
def yX8_isDish : MethodName := ⟨RX8, "isDish", "(I)Z"⟩
abbrev cX8_dish : ByteArray := prog_10_method_6_code
def yX8_dish : MethodName := ⟨RX8, "dish", "(II)I"⟩
abbrev cX8_tune : ByteArray := prog_10_method_7_code
def yX8_tune : MethodName := ⟨RX8, "tune", "(III)I"⟩
abbrev cX8_reel : ByteArray := prog_10_method_8_code
def yX8_reel : MethodName := ⟨RX8, "reel", "(III)I"⟩
abbrev cX8_lose : ByteArray := prog_10_method_9_code
def yX8_lose : MethodName := ⟨RX8, "lose", "(I)I"⟩
abbrev cX8_lacks : ByteArray := prog_10_method_10_code
def yX8_lacks : MethodName := ⟨RX8, "lacks", "(III)I"⟩
abbrev cX8_put : ByteArray := prog_10_method_11_code
def yX8_put : MethodName := ⟨RX8, "put", "(IIII)I"⟩
abbrev cX8_get : ByteArray := prog_10_method_12_code
def yX8_get : MethodName := ⟨RX8, "get", "(III)I"⟩
abbrev cX8_copy : ByteArray := prog_10_method_13_code
def yX8_copy : MethodName := ⟨RX8, "copy", "(IIIII)I"⟩
abbrev cX8_flag : ByteArray := prog_10_method_14_code
def yX8_flag : MethodName := ⟨RX8, "flag", "(III)I"⟩
abbrev cX8_unflag : ByteArray := prog_10_method_15_code
def yX8_unflag : MethodName := ⟨RX8, "unflag", "()I"⟩
abbrev cX8_isSample : ByteArray := prog_10_method_16_code
def yX8_isSample : MethodName := ⟨RX8, "isSample", "(II)Z"⟩
abbrev cX8_sampleAt : ByteArray := prog_10_method_17_code
def yX8_sampleAt : MethodName := ⟨RX8, "sampleAt", "(II)J"⟩
abbrev cX8_multiply : ByteArray := prog_10_method_18_code
def yX8_multiply : MethodName := ⟨RX8, "multiply", "(IIII)J"⟩
abbrev cX8_productOf : ByteArray := prog_10_method_19_code
def yX8_productOf : MethodName := ⟨RX8, "productOf", "(II)J"⟩
abbrev cX8_ticks : ByteArray := prog_10_method_20_code
def yX8_ticks : MethodName := ⟨RX8, "ticks", "(II)I"⟩
abbrev cX8_product : ByteArray := prog_10_method_21_code
def yX8_product : MethodName := ⟨RX8, "product", "(II)J"⟩
abbrev cX8_delay : ByteArray := prog_10_method_22_code
def yX8_delay : MethodName := ⟨RX8, "delay", "(II)I"⟩
abbrev cX8_sign : ByteArray := prog_10_method_23_code
def yX8_sign : MethodName := ⟨RX8, "sign", "(J)I"⟩
abbrev cX8_three : ByteArray := prog_10_method_24_code
def yX8_three : MethodName := ⟨RX8, "three", "(III)I"⟩
abbrev cX8_four : ByteArray := prog_10_method_25_code
def yX8_four : MethodName := ⟨RX8, "four", "(IIII)I"⟩
abbrev cX8_all : ByteArray := prog_10_method_26_code
def yX8_all : MethodName := ⟨RX8, "all", "()V"⟩
abbrev cX8_wave : ByteArray := prog_10_method_27_code
def yX8_wave : MethodName := ⟨RX8, "wave", "(I)I"⟩
abbrev cX8_space : ByteArray := prog_10_method_28_code
def yX8_space : MethodName := ⟨RX8, "space", "()V"⟩
abbrev cX8_beamNow : ByteArray := prog_10_method_29_code
def yX8_beamNow : MethodName := ⟨RX8, "beamNow", "(II)I"⟩
abbrev cX8_keptBeam : ByteArray := prog_10_method_30_code
def yX8_keptBeam : MethodName := ⟨RX8, "keptBeam", "(II)I"⟩
abbrev cX8_beam : ByteArray := prog_10_method_31_code
def yX8_beam : MethodName := ⟨RX8, "beam", "(II)I"⟩
abbrev cX8_isCell : ByteArray := prog_10_method_32_code
def yX8_isCell : MethodName := ⟨RX8, "isCell", "(II)Z"⟩
abbrev cX8_point : ByteArray := prog_10_method_33_code
def yX8_point : MethodName := ⟨RX8, "point", "(III)I"⟩
abbrev cX8_dark : ByteArray := prog_10_method_34_code
def yX8_dark : MethodName := ⟨RX8, "dark", "()I"⟩
abbrev cX8_cellOf : ByteArray := prog_10_method_35_code
def yX8_cellOf : MethodName := ⟨RX8, "cellOf", "(III)J"⟩
abbrev cX8_board : ByteArray := prog_10_method_36_code
def yX8_board : MethodName := ⟨RX8, "board", "(I)I"⟩
abbrev cX8_at : ByteArray := prog_10_method_37_code
def yX8_at : MethodName := ⟨RX8, "at", "(II)J"⟩
abbrev cX8_cells : ByteArray := prog_10_method_38_code
def yX8_cells : MethodName := ⟨RX8, "cells", "()I"⟩
abbrev cX8_window : ByteArray := prog_10_method_39_code
def yX8_window : MethodName := ⟨RX8, "window", "(IIII)I"⟩
abbrev cX8_amount : ByteArray := prog_10_method_40_code
def yX8_amount : MethodName := ⟨RX8, "amount", "(J)J"⟩
abbrev cX8_peak : ByteArray := prog_10_method_41_code
def yX8_peak : MethodName := ⟨RX8, "peak", "()I"⟩
abbrev cX8_lays : ByteArray := prog_10_method_42_code
def yX8_lays : MethodName := ⟨RX8, "lays", "(IJ)V"⟩
abbrev cX8_take : ByteArray := prog_10_method_43_code
def yX8_take : MethodName := ⟨RX8, "take", "(II)I"⟩
abbrev cX8_part : ByteArray := prog_10_method_44_code
def yX8_part : MethodName := ⟨RX8, "part", "(II)J"⟩
abbrev cX8_back : ByteArray := prog_10_method_45_code
def yX8_back : MethodName := ⟨RX8, "back", "()I"⟩
abbrev cX8_source : ByteArray := prog_10_method_46_code
def yX8_source : MethodName := ⟨RX8, "source", "(III)I"⟩
abbrev cX8_isOrder : ByteArray := prog_10_method_47_code
def yX8_isOrder : MethodName := ⟨RX8, "isOrder", "(III)Z"⟩
abbrev cX8_order : ByteArray := prog_10_method_48_code
def yX8_order : MethodName := ⟨RX8, "order", "(III)I"⟩
abbrev cX8_wipe : ByteArray := prog_10_method_49_code
def yX8_wipe : MethodName := ⟨RX8, "wipe", "()I"⟩
abbrev cX8_turnOf : ByteArray := prog_10_method_50_code
def yX8_turnOf : MethodName := ⟨RX8, "turnOf", "(I)I"⟩
abbrev cX8_lengthOf : ByteArray := prog_10_method_51_code
def yX8_lengthOf : MethodName := ⟨RX8, "lengthOf", "(I)I"⟩
abbrev cX8_isUp : ByteArray := prog_10_method_52_code
def yX8_isUp : MethodName := ⟨RX8, "isUp", "(II)Z"⟩
abbrev cX8_isUpAll : ByteArray := prog_10_method_53_code
def yX8_isUpAll : MethodName := ⟨RX8, "isUpAll", "(I)Z"⟩
abbrev cX8_does : ByteArray := prog_10_method_54_code
def yX8_does : MethodName := ⟨RX8, "does", "(I)I"⟩
abbrev cX8_night : ByteArray := prog_10_method_55_code
def yX8_night : MethodName := ⟨RX8, "night", "(I)I"⟩
abbrev cX8_told : ByteArray := prog_10_method_56_code
def yX8_told : MethodName := ⟨RX8, "told", "(I)I"⟩
abbrev cX8_count : ByteArray := prog_10_method_57_code
def yX8_count : MethodName := ⟨RX8, "count", "(I)I"⟩
abbrev cX8_digest : ByteArray := prog_10_method_58_code
def yX8_digest : MethodName := ⟨RX8, "digest", "()J"⟩
def RJ13 : String := "java/lang/Long"
def TJ13 : u_T := fun k => match k with
  | _ => ("", "", "", false)
def tyJ13 : Nat → FieldType := fun k => match k with
  | _ => .int
abbrev wsJ130 : List Cond := u_ws RJ13 TJ13 0
theorem nmJ13 : ∀ a, a < 0 → ∀ b, b < 0 → a ≠ b → (TJ13 a).2.1 ≠ (TJ13 b).2.1 := by decide +kernel
theorem tyJ13_ok : ∀ k, k < 0 → parseFieldDescriptor (TJ13 k).2.2.1 = some (tyJ13 k) := by decide +kernel
abbrev cJ13_compare_74951 : ByteArray := prog_11_method_42_code
def yJ13_compare_74951 : MethodName := ⟨RJ13, "compare", "(JJ)I"⟩
def RJ9 : String := "java/lang/Math"
def TJ9 : u_T := fun k => match k with
  | _ => ("", "", "", false)
def tyJ9 : Nat → FieldType := fun k => match k with
  | _ => .int
abbrev wsJ90 : List Cond := u_ws RJ9 TJ9 0
theorem nmJ9 : ∀ a, a < 0 → ∀ b, b < 0 → a ≠ b → (TJ9 a).2.1 ≠ (TJ9 b).2.1 := by decide +kernel
theorem tyJ9_ok : ∀ k, k < 0 → parseFieldDescriptor (TJ9 k).2.2.1 = some (tyJ9 k) := by decide +kernel
abbrev cJ9_abs_0f7a4 : ByteArray := prog_12_method_59_code
def yJ9_abs_0f7a4 : MethodName := ⟨RJ9, "abs", "(I)I"⟩
abbrev cJ9_abs_067f4 : ByteArray := prog_12_method_61_code
def yJ9_abs_067f4 : MethodName := ⟨RJ9, "abs", "(J)J"⟩
abbrev cJ9_max_7cf53 : ByteArray := prog_12_method_65_code
def yJ9_max_7cf53 : MethodName := ⟨RJ9, "max", "(II)I"⟩
abbrev cJ9_min_7cf53 : ByteArray := prog_12_method_69_code
def yJ9_min_7cf53 : MethodName := ⟨RJ9, "min", "(II)I"⟩
def RJ10 : String := "java/lang/System"
def TJ10 : u_T := fun k => match k with
  | _ => ("", "", "", false)
def tyJ10 : Nat → FieldType := fun k => match k with
  | _ => .int
abbrev wsJ100 : List Cond := u_ws RJ10 TJ10 0
theorem nmJ10 : ∀ a, a < 0 → ∀ b, b < 0 → a ≠ b → (TJ10 a).2.1 ≠ (TJ10 b).2.1 := by decide +kernel
theorem tyJ10_ok : ∀ k, k < 0 → parseFieldDescriptor (TJ10 k).2.2.1 = some (tyJ10 k) := by decide +kernel
def RJ7 : String := "java/util/Arrays"
def TJ7 : u_T := fun k => match k with
  | _ => ("", "", "", false)
def tyJ7 : Nat → FieldType := fun k => match k with
  | _ => .int
abbrev wsJ70 : List Cond := u_ws RJ7 TJ7 0
theorem nmJ7 : ∀ a, a < 0 → ∀ b, b < 0 → a ≠ b → (TJ7 a).2.1 ≠ (TJ7 b).2.1 := by decide +kernel
theorem tyJ7_ok : ∀ k, k < 0 → parseFieldDescriptor (TJ7 k).2.2.1 = some (tyJ7 k) := by decide +kernel
abbrev cJ7_fill_d0a16 : ByteArray := prog_14_method_101_code
def yJ7_fill_d0a16 : MethodName := ⟨RJ7, "fill", "([JJ)V"⟩
abbrev cJ7_fill_53178 : ByteArray := prog_14_method_103_code
def yJ7_fill_53178 : MethodName := ⟨RJ7, "fill", "([II)V"⟩
def RL : String := "DishHouseLaw"
abbrev cL_law : ByteArray := code
def yL_law : MethodName := ⟨RL, "law", "([I)Z"⟩
abbrev vwCl : List vw_C := [(RX0, TX0, 9), (RX1, TX1, 8), (RX2, TX2, 4), (RX3, TX3, 6), (RX4, TX4, 6), (RX5, TX5, 9), (RX6, TX6, 4), (RX7, TX7, 7), (RX8, TX8, 52)]
end
section
theorem dX0_init_0 : decode cX0_init 0 = .ok (.aload_n 0, 1) := by decide +kernel
theorem dX0_init_1 : decode cX0_init 1 = .ok (.invokespecial 3, 3) := by decide +kernel
theorem dX0_init_4 : decode cX0_init 4 = .ok (.aload_n 0, 1) := by decide +kernel
theorem dX0_init_5 : decode cX0_init 5 = .ok (.sipush 256, 3) := by decide +kernel
theorem dX0_init_8 : decode cX0_init 8 = .ok (.newarray .long, 2) := by decide +kernel
theorem dX0_init_10 : decode cX0_init 10 = .ok (.putfield 9, 3) := by decide +kernel
theorem dX0_init_13 : decode cX0_init 13 = .ok (.aload_n 0, 1) := by decide +kernel
theorem dX0_init_14 : decode cX0_init 14 = .ok (.sipush 256, 3) := by decide +kernel
theorem dX0_init_17 : decode cX0_init 17 = .ok (.newarray .int, 2) := by decide +kernel
theorem dX0_init_19 : decode cX0_init 19 = .ok (.putfield 15, 3) := by decide +kernel
theorem dX0_init_22 : decode cX0_init 22 = .ok (.aload_n 0, 1) := by decide +kernel
theorem dX0_init_23 : decode cX0_init 23 = .ok (.sipush 200, 3) := by decide +kernel
theorem dX0_init_26 : decode cX0_init 26 = .ok (.newarray .int, 2) := by decide +kernel
theorem dX0_init_28 : decode cX0_init 28 = .ok (.putfield 19, 3) := by decide +kernel
theorem dX0_init_31 : decode cX0_init 31 = .ok (.aload_n 0, 1) := by decide +kernel
theorem dX0_init_32 : decode cX0_init 32 = .ok (.sipush 200, 3) := by decide +kernel
theorem dX0_init_35 : decode cX0_init 35 = .ok (.newarray .long, 2) := by decide +kernel
theorem dX0_init_37 : decode cX0_init 37 = .ok (.putfield 22, 3) := by decide +kernel
theorem dX0_init_40 : decode cX0_init 40 = .ok (.aload_n 0, 1) := by decide +kernel
theorem dX0_init_41 : decode cX0_init 41 = .ok (.iconst 0, 1) := by decide +kernel
theorem dX0_init_42 : decode cX0_init 42 = .ok (.putfield 25, 3) := by decide +kernel
theorem dX0_init_45 : decode cX0_init 45 = .ok (.aload_n 0, 1) := by decide +kernel
theorem dX0_init_46 : decode cX0_init 46 = .ok (.iconst 0, 1) := by decide +kernel
theorem dX0_init_47 : decode cX0_init 47 = .ok (.putfield 29, 3) := by decide +kernel
theorem dX0_init_50 : decode cX0_init 50 = .ok (.aload_n 0, 1) := by decide +kernel
theorem dX0_init_51 : decode cX0_init 51 = .ok (.bipush 15, 2) := by decide +kernel
theorem dX0_init_53 : decode cX0_init 53 = .ok (.putfield 32, 3) := by decide +kernel
theorem dX0_init_56 : decode cX0_init 56 = .ok (.aload_n 0, 1) := by decide +kernel
theorem dX0_init_57 : decode cX0_init 57 = .ok (.bipush 15, 2) := by decide +kernel
theorem dX0_init_59 : decode cX0_init 59 = .ok (.putfield 35, 3) := by decide +kernel
theorem dX0_init_62 : decode cX0_init 62 = .ok (.return_, 1) := by decide +kernel
theorem dX0_startWith_0 : decode cX0_startWith 0 = .ok (.aload_n 0, 1) := by decide +kernel
theorem dX0_startWith_1 : decode cX0_startWith 1 = .ok (.iconst 0, 1) := by decide +kernel
theorem dX0_startWith_2 : decode cX0_startWith 2 = .ok (.putfield 38, 3) := by decide +kernel
theorem dX0_startWith_5 : decode cX0_startWith 5 = .ok (.aload_n 0, 1) := by decide +kernel
theorem dX0_startWith_6 : decode cX0_startWith 6 = .ok (.iconst 0, 1) := by decide +kernel
theorem dX0_startWith_7 : decode cX0_startWith 7 = .ok (.iconst 0, 1) := by decide +kernel
theorem dX0_startWith_8 : decode cX0_startWith 8 = .ok (.bipush 15, 2) := by decide +kernel
theorem dX0_startWith_10 : decode cX0_startWith 10 = .ok (.bipush 15, 2) := by decide +kernel
theorem dX0_startWith_12 : decode cX0_startWith 12 = .ok (.invokevirtual 41, 3) := by decide +kernel
theorem dX0_startWith_15 : decode cX0_startWith 15 = .ok (.aload_n 0, 1) := by decide +kernel
theorem dX0_startWith_16 : decode cX0_startWith 16 = .ok (.getfield 9, 3) := by decide +kernel
theorem dX0_startWith_19 : decode cX0_startWith 19 = .ok (.lconst 0, 1) := by decide +kernel
theorem dX0_startWith_20 : decode cX0_startWith 20 = .ok (.invokestatic 45, 3) := by decide +kernel
theorem dX0_startWith_23 : decode cX0_startWith 23 = .ok (.iconst 0, 1) := by decide +kernel
theorem dX0_startWith_24 : decode cX0_startWith 24 = .ok (.istore_n 2, 1) := by decide +kernel
theorem dX0_startWith_25 : decode cX0_startWith 25 = .ok (.iload_n 2, 1) := by decide +kernel
theorem dX0_startWith_26 : decode cX0_startWith 26 = .ok (.sipush 256, 3) := by decide +kernel
theorem dX0_startWith_29 : decode cX0_startWith 29 = .ok (.if_icmp .ge 27, 3) := by decide +kernel
theorem dX0_startWith_32 : decode cX0_startWith 32 = .ok (.aload_n 0, 1) := by decide +kernel
theorem dX0_startWith_33 : decode cX0_startWith 33 = .ok (.getfield 15, 3) := by decide +kernel
theorem dX0_startWith_36 : decode cX0_startWith 36 = .ok (.iload_n 2, 1) := by decide +kernel
theorem dX0_startWith_37 : decode cX0_startWith 37 = .ok (.aload_n 1, 1) := by decide +kernel
theorem dX0_startWith_38 : decode cX0_startWith 38 = .ok (.iload_n 2, 1) := by decide +kernel
theorem dX0_startWith_39 : decode cX0_startWith 39 = .ok (.bipush 16, 2) := by decide +kernel
theorem dX0_startWith_41 : decode cX0_startWith 41 = .ok (.irem, 1) := by decide +kernel
theorem dX0_startWith_42 : decode cX0_startWith 42 = .ok (.iload_n 2, 1) := by decide +kernel
theorem dX0_startWith_43 : decode cX0_startWith 43 = .ok (.bipush 16, 2) := by decide +kernel
theorem dX0_startWith_45 : decode cX0_startWith 45 = .ok (.idiv, 1) := by decide +kernel
theorem dX0_startWith_46 : decode cX0_startWith 46 = .ok (.invokevirtual 51, 3) := by decide +kernel
theorem dX0_startWith_49 : decode cX0_startWith 49 = .ok (.iastore, 1) := by decide +kernel
theorem dX0_startWith_50 : decode cX0_startWith 50 = .ok (.iinc 2 1, 3) := by decide +kernel
theorem dX0_startWith_53 : decode cX0_startWith 53 = .ok (.goto (-28), 3) := by decide +kernel
theorem dX0_startWith_56 : decode cX0_startWith 56 = .ok (.return_, 1) := by decide +kernel
theorem dX0_sumProducts_0 : decode cX0_sumProducts 0 = .ok (.iconst 0, 1) := by decide +kernel
theorem dX0_sumProducts_1 : decode cX0_sumProducts 1 = .ok (.istore_n 2, 1) := by decide +kernel
theorem dX0_sumProducts_2 : decode cX0_sumProducts 2 = .ok (.iload_n 2, 1) := by decide +kernel
theorem dX0_sumProducts_3 : decode cX0_sumProducts 3 = .ok (.sipush 256, 3) := by decide +kernel
theorem dX0_sumProducts_6 : decode cX0_sumProducts 6 = .ok (.if_icmp .ge 27, 3) := by decide +kernel
theorem dX0_sumProducts_9 : decode cX0_sumProducts 9 = .ok (.aload_n 0, 1) := by decide +kernel
theorem dX0_sumProducts_10 : decode cX0_sumProducts 10 = .ok (.getfield 9, 3) := by decide +kernel
theorem dX0_sumProducts_13 : decode cX0_sumProducts 13 = .ok (.iload_n 2, 1) := by decide +kernel
theorem dX0_sumProducts_14 : decode cX0_sumProducts 14 = .ok (.aload_n 1, 1) := by decide +kernel
theorem dX0_sumProducts_15 : decode cX0_sumProducts 15 = .ok (.iload_n 2, 1) := by decide +kernel
theorem dX0_sumProducts_16 : decode cX0_sumProducts 16 = .ok (.bipush 16, 2) := by decide +kernel
theorem dX0_sumProducts_18 : decode cX0_sumProducts 18 = .ok (.irem, 1) := by decide +kernel
theorem dX0_sumProducts_19 : decode cX0_sumProducts 19 = .ok (.iload_n 2, 1) := by decide +kernel
theorem dX0_sumProducts_20 : decode cX0_sumProducts 20 = .ok (.bipush 16, 2) := by decide +kernel
theorem dX0_sumProducts_22 : decode cX0_sumProducts 22 = .ok (.idiv, 1) := by decide +kernel
theorem dX0_sumProducts_23 : decode cX0_sumProducts 23 = .ok (.invokevirtual 57, 3) := by decide +kernel
theorem dX0_sumProducts_26 : decode cX0_sumProducts 26 = .ok (.lastore, 1) := by decide +kernel
theorem dX0_sumProducts_27 : decode cX0_sumProducts 27 = .ok (.iinc 2 1, 3) := by decide +kernel
theorem dX0_sumProducts_30 : decode cX0_sumProducts 30 = .ok (.goto (-28), 3) := by decide +kernel
theorem dX0_sumProducts_33 : decode cX0_sumProducts 33 = .ok (.return_, 1) := by decide +kernel
theorem dX0_sumPoints_0 : decode cX0_sumPoints 0 = .ok (.iconst 0, 1) := by decide +kernel
theorem dX0_sumPoints_1 : decode cX0_sumPoints 1 = .ok (.istore_n 2, 1) := by decide +kernel
theorem dX0_sumPoints_2 : decode cX0_sumPoints 2 = .ok (.iload_n 2, 1) := by decide +kernel
theorem dX0_sumPoints_3 : decode cX0_sumPoints 3 = .ok (.aload_n 1, 1) := by decide +kernel
theorem dX0_sumPoints_4 : decode cX0_sumPoints 4 = .ok (.getfield 61, 3) := by decide +kernel
theorem dX0_sumPoints_7 : decode cX0_sumPoints 7 = .ok (.if_icmp .ge 32, 3) := by decide +kernel
theorem dX0_sumPoints_10 : decode cX0_sumPoints 10 = .ok (.aload_n 0, 1) := by decide +kernel
theorem dX0_sumPoints_11 : decode cX0_sumPoints 11 = .ok (.aload_n 1, 1) := by decide +kernel
theorem dX0_sumPoints_12 : decode cX0_sumPoints 12 = .ok (.getfield 66, 3) := by decide +kernel
theorem dX0_sumPoints_15 : decode cX0_sumPoints 15 = .ok (.iload_n 2, 1) := by decide +kernel
theorem dX0_sumPoints_16 : decode cX0_sumPoints 16 = .ok (.iaload, 1) := by decide +kernel
theorem dX0_sumPoints_17 : decode cX0_sumPoints 17 = .ok (.aload_n 1, 1) := by decide +kernel
theorem dX0_sumPoints_18 : decode cX0_sumPoints 18 = .ok (.getfield 69, 3) := by decide +kernel
theorem dX0_sumPoints_21 : decode cX0_sumPoints 21 = .ok (.iload_n 2, 1) := by decide +kernel
theorem dX0_sumPoints_22 : decode cX0_sumPoints 22 = .ok (.iaload, 1) := by decide +kernel
theorem dX0_sumPoints_23 : decode cX0_sumPoints 23 = .ok (.aload_n 1, 1) := by decide +kernel
theorem dX0_sumPoints_24 : decode cX0_sumPoints 24 = .ok (.getfield 72, 3) := by decide +kernel
theorem dX0_sumPoints_27 : decode cX0_sumPoints 27 = .ok (.iload_n 2, 1) := by decide +kernel
theorem dX0_sumPoints_28 : decode cX0_sumPoints 28 = .ok (.iaload, 1) := by decide +kernel
theorem dX0_sumPoints_29 : decode cX0_sumPoints 29 = .ok (.i2l, 1) := by decide +kernel
theorem dX0_sumPoints_30 : decode cX0_sumPoints 30 = .ok (.invokevirtual 75, 3) := by decide +kernel
theorem dX0_sumPoints_33 : decode cX0_sumPoints 33 = .ok (.iinc 2 1, 3) := by decide +kernel
theorem dX0_sumPoints_36 : decode cX0_sumPoints 36 = .ok (.goto (-34), 3) := by decide +kernel
theorem dX0_sumPoints_39 : decode cX0_sumPoints 39 = .ok (.return_, 1) := by decide +kernel
theorem dX0_keptAt_0 : decode cX0_keptAt 0 = .ok (.aload_n 0, 1) := by decide +kernel
theorem dX0_keptAt_1 : decode cX0_keptAt 1 = .ok (.getfield 15, 3) := by decide +kernel
theorem dX0_keptAt_4 : decode cX0_keptAt 4 = .ok (.bipush 16, 2) := by decide +kernel
theorem dX0_keptAt_6 : decode cX0_keptAt 6 = .ok (.iload_n 2, 1) := by decide +kernel
theorem dX0_keptAt_7 : decode cX0_keptAt 7 = .ok (.bipush 15, 2) := by decide +kernel
theorem dX0_keptAt_9 : decode cX0_keptAt 9 = .ok (.iand, 1) := by decide +kernel
theorem dX0_keptAt_10 : decode cX0_keptAt 10 = .ok (.imul, 1) := by decide +kernel
theorem dX0_keptAt_11 : decode cX0_keptAt 11 = .ok (.iload_n 1, 1) := by decide +kernel
theorem dX0_keptAt_12 : decode cX0_keptAt 12 = .ok (.bipush 15, 2) := by decide +kernel
theorem dX0_keptAt_14 : decode cX0_keptAt 14 = .ok (.iand, 1) := by decide +kernel
theorem dX0_keptAt_15 : decode cX0_keptAt 15 = .ok (.iadd, 1) := by decide +kernel
theorem dX0_keptAt_16 : decode cX0_keptAt 16 = .ok (.iaload, 1) := by decide +kernel
theorem dX0_keptAt_17 : decode cX0_keptAt 17 = .ok (.ireturn, 1) := by decide +kernel
theorem dX0_addBeam_0 : decode cX0_addBeam 0 = .ok (.iconst 0, 1) := by decide +kernel
theorem dX0_addBeam_1 : decode cX0_addBeam 1 = .ok (.istore 5, 2) := by decide +kernel
theorem dX0_addBeam_3 : decode cX0_addBeam 3 = .ok (.iload 5, 2) := by decide +kernel
theorem dX0_addBeam_5 : decode cX0_addBeam 5 = .ok (.sipush 256, 3) := by decide +kernel
theorem dX0_addBeam_8 : decode cX0_addBeam 8 = .ok (.if_icmp .ge 40, 3) := by decide +kernel
theorem dX0_addBeam_11 : decode cX0_addBeam 11 = .ok (.aload_n 0, 1) := by decide +kernel
theorem dX0_addBeam_12 : decode cX0_addBeam 12 = .ok (.getfield 9, 3) := by decide +kernel
theorem dX0_addBeam_15 : decode cX0_addBeam 15 = .ok (.iload 5, 2) := by decide +kernel
theorem dX0_addBeam_17 : decode cX0_addBeam 17 = .ok (.dup2, 1) := by decide +kernel
theorem dX0_addBeam_18 : decode cX0_addBeam 18 = .ok (.laload, 1) := by decide +kernel
theorem dX0_addBeam_19 : decode cX0_addBeam 19 = .ok (.lload_n 3, 1) := by decide +kernel
theorem dX0_addBeam_20 : decode cX0_addBeam 20 = .ok (.aload_n 0, 1) := by decide +kernel
theorem dX0_addBeam_21 : decode cX0_addBeam 21 = .ok (.iload 5, 2) := by decide +kernel
theorem dX0_addBeam_23 : decode cX0_addBeam 23 = .ok (.bipush 16, 2) := by decide +kernel
theorem dX0_addBeam_25 : decode cX0_addBeam 25 = .ok (.irem, 1) := by decide +kernel
theorem dX0_addBeam_26 : decode cX0_addBeam 26 = .ok (.iload_n 1, 1) := by decide +kernel
theorem dX0_addBeam_27 : decode cX0_addBeam 27 = .ok (.isub, 1) := by decide +kernel
theorem dX0_addBeam_28 : decode cX0_addBeam 28 = .ok (.iload 5, 2) := by decide +kernel
theorem dX0_addBeam_30 : decode cX0_addBeam 30 = .ok (.bipush 16, 2) := by decide +kernel
theorem dX0_addBeam_32 : decode cX0_addBeam 32 = .ok (.idiv, 1) := by decide +kernel
theorem dX0_addBeam_33 : decode cX0_addBeam 33 = .ok (.iload_n 2, 1) := by decide +kernel
theorem dX0_addBeam_34 : decode cX0_addBeam 34 = .ok (.isub, 1) := by decide +kernel
theorem dX0_addBeam_35 : decode cX0_addBeam 35 = .ok (.invokevirtual 79, 3) := by decide +kernel
theorem dX0_addBeam_38 : decode cX0_addBeam 38 = .ok (.i2l, 1) := by decide +kernel
theorem dX0_addBeam_39 : decode cX0_addBeam 39 = .ok (.lmul, 1) := by decide +kernel
theorem dX0_addBeam_40 : decode cX0_addBeam 40 = .ok (.ladd, 1) := by decide +kernel
theorem dX0_addBeam_41 : decode cX0_addBeam 41 = .ok (.lastore, 1) := by decide +kernel
theorem dX0_addBeam_42 : decode cX0_addBeam 42 = .ok (.iinc 5 1, 3) := by decide +kernel
theorem dX0_addBeam_45 : decode cX0_addBeam 45 = .ok (.goto (-42), 3) := by decide +kernel
theorem dX0_addBeam_48 : decode cX0_addBeam 48 = .ok (.return_, 1) := by decide +kernel
theorem dX0_look_0 : decode cX0_look 0 = .ok (.aload_n 0, 1) := by decide +kernel
theorem dX0_look_1 : decode cX0_look 1 = .ok (.iload_n 1, 1) := by decide +kernel
theorem dX0_look_2 : decode cX0_look 2 = .ok (.putfield 25, 3) := by decide +kernel
theorem dX0_look_5 : decode cX0_look 5 = .ok (.aload_n 0, 1) := by decide +kernel
theorem dX0_look_6 : decode cX0_look 6 = .ok (.iload_n 2, 1) := by decide +kernel
theorem dX0_look_7 : decode cX0_look 7 = .ok (.putfield 29, 3) := by decide +kernel
theorem dX0_look_10 : decode cX0_look 10 = .ok (.aload_n 0, 1) := by decide +kernel
theorem dX0_look_11 : decode cX0_look 11 = .ok (.iload_n 3, 1) := by decide +kernel
theorem dX0_look_12 : decode cX0_look 12 = .ok (.putfield 32, 3) := by decide +kernel
theorem dX0_look_15 : decode cX0_look 15 = .ok (.aload_n 0, 1) := by decide +kernel
theorem dX0_look_16 : decode cX0_look 16 = .ok (.iload 4, 2) := by decide +kernel
theorem dX0_look_18 : decode cX0_look 18 = .ok (.putfield 35, 3) := by decide +kernel
theorem dX0_look_21 : decode cX0_look 21 = .ok (.return_, 1) := by decide +kernel
theorem dX0_windowCells_0 : decode cX0_windowCells 0 = .ok (.aload_n 0, 1) := by decide +kernel
theorem dX0_windowCells_1 : decode cX0_windowCells 1 = .ok (.getfield 32, 3) := by decide +kernel
theorem dX0_windowCells_4 : decode cX0_windowCells 4 = .ok (.aload_n 0, 1) := by decide +kernel
theorem dX0_windowCells_5 : decode cX0_windowCells 5 = .ok (.getfield 25, 3) := by decide +kernel
theorem dX0_windowCells_8 : decode cX0_windowCells 8 = .ok (.isub, 1) := by decide +kernel
theorem dX0_windowCells_9 : decode cX0_windowCells 9 = .ok (.iconst 1, 1) := by decide +kernel
theorem dX0_windowCells_10 : decode cX0_windowCells 10 = .ok (.iadd, 1) := by decide +kernel
theorem dX0_windowCells_11 : decode cX0_windowCells 11 = .ok (.aload_n 0, 1) := by decide +kernel
theorem dX0_windowCells_12 : decode cX0_windowCells 12 = .ok (.getfield 35, 3) := by decide +kernel
theorem dX0_windowCells_15 : decode cX0_windowCells 15 = .ok (.aload_n 0, 1) := by decide +kernel
theorem dX0_windowCells_16 : decode cX0_windowCells 16 = .ok (.getfield 29, 3) := by decide +kernel
theorem dX0_windowCells_19 : decode cX0_windowCells 19 = .ok (.isub, 1) := by decide +kernel
theorem dX0_windowCells_20 : decode cX0_windowCells 20 = .ok (.iconst 1, 1) := by decide +kernel
theorem dX0_windowCells_21 : decode cX0_windowCells 21 = .ok (.iadd, 1) := by decide +kernel
theorem dX0_windowCells_22 : decode cX0_windowCells 22 = .ok (.imul, 1) := by decide +kernel
theorem dX0_windowCells_23 : decode cX0_windowCells 23 = .ok (.ireturn, 1) := by decide +kernel
theorem dX0_greatestCell_0 : decode cX0_greatestCell 0 = .ok (.bipush 16, 2) := by decide +kernel
theorem dX0_greatestCell_2 : decode cX0_greatestCell 2 = .ok (.aload_n 0, 1) := by decide +kernel
theorem dX0_greatestCell_3 : decode cX0_greatestCell 3 = .ok (.getfield 29, 3) := by decide +kernel
theorem dX0_greatestCell_6 : decode cX0_greatestCell 6 = .ok (.imul, 1) := by decide +kernel
theorem dX0_greatestCell_7 : decode cX0_greatestCell 7 = .ok (.aload_n 0, 1) := by decide +kernel
theorem dX0_greatestCell_8 : decode cX0_greatestCell 8 = .ok (.getfield 25, 3) := by decide +kernel
theorem dX0_greatestCell_11 : decode cX0_greatestCell 11 = .ok (.iadd, 1) := by decide +kernel
theorem dX0_greatestCell_12 : decode cX0_greatestCell 12 = .ok (.istore_n 1, 1) := by decide +kernel
theorem dX0_greatestCell_13 : decode cX0_greatestCell 13 = .ok (.aload_n 0, 1) := by decide +kernel
theorem dX0_greatestCell_14 : decode cX0_greatestCell 14 = .ok (.getfield 29, 3) := by decide +kernel
theorem dX0_greatestCell_17 : decode cX0_greatestCell 17 = .ok (.istore_n 2, 1) := by decide +kernel
theorem dX0_greatestCell_18 : decode cX0_greatestCell 18 = .ok (.iload_n 2, 1) := by decide +kernel
theorem dX0_greatestCell_19 : decode cX0_greatestCell 19 = .ok (.aload_n 0, 1) := by decide +kernel
theorem dX0_greatestCell_20 : decode cX0_greatestCell 20 = .ok (.getfield 35, 3) := by decide +kernel
theorem dX0_greatestCell_23 : decode cX0_greatestCell 23 = .ok (.if_icmp .gt 54, 3) := by decide +kernel
theorem dX0_greatestCell_26 : decode cX0_greatestCell 26 = .ok (.aload_n 0, 1) := by decide +kernel
theorem dX0_greatestCell_27 : decode cX0_greatestCell 27 = .ok (.getfield 25, 3) := by decide +kernel
theorem dX0_greatestCell_30 : decode cX0_greatestCell 30 = .ok (.istore_n 3, 1) := by decide +kernel
theorem dX0_greatestCell_31 : decode cX0_greatestCell 31 = .ok (.iload_n 3, 1) := by decide +kernel
theorem dX0_greatestCell_32 : decode cX0_greatestCell 32 = .ok (.aload_n 0, 1) := by decide +kernel
theorem dX0_greatestCell_33 : decode cX0_greatestCell 33 = .ok (.getfield 32, 3) := by decide +kernel
theorem dX0_greatestCell_36 : decode cX0_greatestCell 36 = .ok (.if_icmp .gt 35, 3) := by decide +kernel
theorem dX0_greatestCell_39 : decode cX0_greatestCell 39 = .ok (.bipush 16, 2) := by decide +kernel
theorem dX0_greatestCell_41 : decode cX0_greatestCell 41 = .ok (.iload_n 2, 1) := by decide +kernel
theorem dX0_greatestCell_42 : decode cX0_greatestCell 42 = .ok (.imul, 1) := by decide +kernel
theorem dX0_greatestCell_43 : decode cX0_greatestCell 43 = .ok (.iload_n 3, 1) := by decide +kernel
theorem dX0_greatestCell_44 : decode cX0_greatestCell 44 = .ok (.iadd, 1) := by decide +kernel
theorem dX0_greatestCell_45 : decode cX0_greatestCell 45 = .ok (.istore 4, 2) := by decide +kernel
theorem dX0_greatestCell_47 : decode cX0_greatestCell 47 = .ok (.aload_n 0, 1) := by decide +kernel
theorem dX0_greatestCell_48 : decode cX0_greatestCell 48 = .ok (.iload 4, 2) := by decide +kernel
theorem dX0_greatestCell_50 : decode cX0_greatestCell 50 = .ok (.invokevirtual 82, 3) := by decide +kernel
theorem dX0_greatestCell_53 : decode cX0_greatestCell 53 = .ok (.aload_n 0, 1) := by decide +kernel
theorem dX0_greatestCell_54 : decode cX0_greatestCell 54 = .ok (.iload_n 1, 1) := by decide +kernel
theorem dX0_greatestCell_55 : decode cX0_greatestCell 55 = .ok (.invokevirtual 82, 3) := by decide +kernel
theorem dX0_greatestCell_58 : decode cX0_greatestCell 58 = .ok (.lcmp, 1) := by decide +kernel
theorem dX0_greatestCell_59 : decode cX0_greatestCell 59 = .ok (.ifCond .le 6, 3) := by decide +kernel
theorem dX0_greatestCell_62 : decode cX0_greatestCell 62 = .ok (.iload 4, 2) := by decide +kernel
theorem dX0_greatestCell_64 : decode cX0_greatestCell 64 = .ok (.istore_n 1, 1) := by decide +kernel
theorem dX0_greatestCell_65 : decode cX0_greatestCell 65 = .ok (.iinc 3 1, 3) := by decide +kernel
theorem dX0_greatestCell_68 : decode cX0_greatestCell 68 = .ok (.goto (-37), 3) := by decide +kernel
theorem dX0_greatestCell_71 : decode cX0_greatestCell 71 = .ok (.iinc 2 1, 3) := by decide +kernel
theorem dX0_greatestCell_74 : decode cX0_greatestCell 74 = .ok (.goto (-56), 3) := by decide +kernel
theorem dX0_greatestCell_77 : decode cX0_greatestCell 77 = .ok (.iload_n 1, 1) := by decide +kernel
theorem dX0_greatestCell_78 : decode cX0_greatestCell 78 = .ok (.ireturn, 1) := by decide +kernel
theorem dX0_amountAt_0 : decode cX0_amountAt 0 = .ok (.aload_n 0, 1) := by decide +kernel
theorem dX0_amountAt_1 : decode cX0_amountAt 1 = .ok (.getfield 9, 3) := by decide +kernel
theorem dX0_amountAt_4 : decode cX0_amountAt 4 = .ok (.iload_n 1, 1) := by decide +kernel
theorem dX0_amountAt_5 : decode cX0_amountAt 5 = .ok (.laload, 1) := by decide +kernel
theorem dX0_amountAt_6 : decode cX0_amountAt 6 = .ok (.invokestatic 86, 3) := by decide +kernel
theorem dX0_amountAt_9 : decode cX0_amountAt 9 = .ok (.lreturn, 1) := by decide +kernel
theorem dX0_takeOff_0 : decode cX0_takeOff 0 = .ok (.ldc2_w 92, 3) := by decide +kernel
theorem dX0_takeOff_3 : decode cX0_takeOff 3 = .ok (.aload_n 0, 1) := by decide +kernel
theorem dX0_takeOff_4 : decode cX0_takeOff 4 = .ok (.iconst 0, 1) := by decide +kernel
theorem dX0_takeOff_5 : decode cX0_takeOff 5 = .ok (.iconst 0, 1) := by decide +kernel
theorem dX0_takeOff_6 : decode cX0_takeOff 6 = .ok (.invokevirtual 79, 3) := by decide +kernel
theorem dX0_takeOff_9 : decode cX0_takeOff 9 = .ok (.i2l, 1) := by decide +kernel
theorem dX0_takeOff_10 : decode cX0_takeOff 10 = .ok (.lmul, 1) := by decide +kernel
theorem dX0_takeOff_11 : decode cX0_takeOff 11 = .ok (.lstore_n 3, 1) := by decide +kernel
theorem dX0_takeOff_12 : decode cX0_takeOff 12 = .ok (.lload_n 3, 1) := by decide +kernel
theorem dX0_takeOff_13 : decode cX0_takeOff 13 = .ok (.lconst 0, 1) := by decide +kernel
theorem dX0_takeOff_14 : decode cX0_takeOff 14 = .ok (.lcmp, 1) := by decide +kernel
theorem dX0_takeOff_15 : decode cX0_takeOff 15 = .ok (.ifCond .ne 4, 3) := by decide +kernel
theorem dX0_takeOff_18 : decode cX0_takeOff 18 = .ok (.return_, 1) := by decide +kernel
theorem dX0_takeOff_19 : decode cX0_takeOff 19 = .ok (.iconst 0, 1) := by decide +kernel
theorem dX0_takeOff_20 : decode cX0_takeOff 20 = .ok (.istore 5, 2) := by decide +kernel
theorem dX0_takeOff_22 : decode cX0_takeOff 22 = .ok (.iload 5, 2) := by decide +kernel
theorem dX0_takeOff_24 : decode cX0_takeOff 24 = .ok (.iload_n 2, 1) := by decide +kernel
theorem dX0_takeOff_25 : decode cX0_takeOff 25 = .ok (.if_icmp .ge 96, 3) := by decide +kernel
theorem dX0_takeOff_28 : decode cX0_takeOff 28 = .ok (.aload_n 0, 1) := by decide +kernel
theorem dX0_takeOff_29 : decode cX0_takeOff 29 = .ok (.getfield 38, 3) := by decide +kernel
theorem dX0_takeOff_32 : decode cX0_takeOff 32 = .ok (.sipush 200, 3) := by decide +kernel
theorem dX0_takeOff_35 : decode cX0_takeOff 35 = .ok (.if_icmp .ge 86, 3) := by decide +kernel
theorem dX0_takeOff_38 : decode cX0_takeOff 38 = .ok (.aload_n 0, 1) := by decide +kernel
theorem dX0_takeOff_39 : decode cX0_takeOff 39 = .ok (.invokevirtual 94, 3) := by decide +kernel
theorem dX0_takeOff_42 : decode cX0_takeOff 42 = .ok (.istore 6, 2) := by decide +kernel
theorem dX0_takeOff_44 : decode cX0_takeOff 44 = .ok (.aload_n 0, 1) := by decide +kernel
theorem dX0_takeOff_45 : decode cX0_takeOff 45 = .ok (.getfield 9, 3) := by decide +kernel
theorem dX0_takeOff_48 : decode cX0_takeOff 48 = .ok (.iload 6, 2) := by decide +kernel
theorem dX0_takeOff_50 : decode cX0_takeOff 50 = .ok (.laload, 1) := by decide +kernel
theorem dX0_takeOff_51 : decode cX0_takeOff 51 = .ok (.iload_n 1, 1) := by decide +kernel
theorem dX0_takeOff_52 : decode cX0_takeOff 52 = .ok (.i2l, 1) := by decide +kernel
theorem dX0_takeOff_53 : decode cX0_takeOff 53 = .ok (.lmul, 1) := by decide +kernel
theorem dX0_takeOff_54 : decode cX0_takeOff 54 = .ok (.lload_n 3, 1) := by decide +kernel
theorem dX0_takeOff_55 : decode cX0_takeOff 55 = .ok (.ldiv, 1) := by decide +kernel
theorem dX0_takeOff_56 : decode cX0_takeOff 56 = .ok (.lstore 7, 2) := by decide +kernel
theorem dX0_takeOff_58 : decode cX0_takeOff 58 = .ok (.lload 7, 2) := by decide +kernel
theorem dX0_takeOff_60 : decode cX0_takeOff 60 = .ok (.lconst 0, 1) := by decide +kernel
theorem dX0_takeOff_61 : decode cX0_takeOff 61 = .ok (.lcmp, 1) := by decide +kernel
theorem dX0_takeOff_62 : decode cX0_takeOff 62 = .ok (.ifCond .ne 4, 3) := by decide +kernel
theorem dX0_takeOff_65 : decode cX0_takeOff 65 = .ok (.return_, 1) := by decide +kernel
theorem dX0_takeOff_66 : decode cX0_takeOff 66 = .ok (.aload_n 0, 1) := by decide +kernel
theorem dX0_takeOff_67 : decode cX0_takeOff 67 = .ok (.iload 6, 2) := by decide +kernel
theorem dX0_takeOff_69 : decode cX0_takeOff 69 = .ok (.bipush 16, 2) := by decide +kernel
theorem dX0_takeOff_71 : decode cX0_takeOff 71 = .ok (.irem, 1) := by decide +kernel
theorem dX0_takeOff_72 : decode cX0_takeOff 72 = .ok (.iload 6, 2) := by decide +kernel
theorem dX0_takeOff_74 : decode cX0_takeOff 74 = .ok (.bipush 16, 2) := by decide +kernel
theorem dX0_takeOff_76 : decode cX0_takeOff 76 = .ok (.idiv, 1) := by decide +kernel
theorem dX0_takeOff_77 : decode cX0_takeOff 77 = .ok (.lload 7, 2) := by decide +kernel
theorem dX0_takeOff_79 : decode cX0_takeOff 79 = .ok (.lneg, 1) := by decide +kernel
theorem dX0_takeOff_80 : decode cX0_takeOff 80 = .ok (.invokevirtual 75, 3) := by decide +kernel
theorem dX0_takeOff_83 : decode cX0_takeOff 83 = .ok (.aload_n 0, 1) := by decide +kernel
theorem dX0_takeOff_84 : decode cX0_takeOff 84 = .ok (.getfield 19, 3) := by decide +kernel
theorem dX0_takeOff_87 : decode cX0_takeOff 87 = .ok (.aload_n 0, 1) := by decide +kernel
theorem dX0_takeOff_88 : decode cX0_takeOff 88 = .ok (.getfield 38, 3) := by decide +kernel
theorem dX0_takeOff_91 : decode cX0_takeOff 91 = .ok (.iload 6, 2) := by decide +kernel
theorem dX0_takeOff_93 : decode cX0_takeOff 93 = .ok (.iastore, 1) := by decide +kernel
theorem dX0_takeOff_94 : decode cX0_takeOff 94 = .ok (.aload_n 0, 1) := by decide +kernel
theorem dX0_takeOff_95 : decode cX0_takeOff 95 = .ok (.getfield 22, 3) := by decide +kernel
theorem dX0_takeOff_98 : decode cX0_takeOff 98 = .ok (.aload_n 0, 1) := by decide +kernel
theorem dX0_takeOff_99 : decode cX0_takeOff 99 = .ok (.getfield 38, 3) := by decide +kernel
theorem dX0_takeOff_102 : decode cX0_takeOff 102 = .ok (.lload 7, 2) := by decide +kernel
theorem dX0_takeOff_104 : decode cX0_takeOff 104 = .ok (.lastore, 1) := by decide +kernel
theorem dX0_takeOff_105 : decode cX0_takeOff 105 = .ok (.aload_n 0, 1) := by decide +kernel
theorem dX0_takeOff_106 : decode cX0_takeOff 106 = .ok (.dup, 1) := by decide +kernel
theorem dX0_takeOff_107 : decode cX0_takeOff 107 = .ok (.getfield 38, 3) := by decide +kernel
theorem dX0_takeOff_110 : decode cX0_takeOff 110 = .ok (.iconst 1, 1) := by decide +kernel
theorem dX0_takeOff_111 : decode cX0_takeOff 111 = .ok (.iadd, 1) := by decide +kernel
theorem dX0_takeOff_112 : decode cX0_takeOff 112 = .ok (.putfield 38, 3) := by decide +kernel
theorem dX0_takeOff_115 : decode cX0_takeOff 115 = .ok (.iinc 5 1, 3) := by decide +kernel
theorem dX0_takeOff_118 : decode cX0_takeOff 118 = .ok (.goto (-96), 3) := by decide +kernel
theorem dX0_takeOff_121 : decode cX0_takeOff 121 = .ok (.return_, 1) := by decide +kernel
theorem dX0_putBack_0 : decode cX0_putBack 0 = .ok (.aload_n 0, 1) := by decide +kernel
theorem dX0_putBack_1 : decode cX0_putBack 1 = .ok (.getfield 38, 3) := by decide +kernel
theorem dX0_putBack_4 : decode cX0_putBack 4 = .ok (.ifCond .gt 4, 3) := by decide +kernel
theorem dX0_putBack_7 : decode cX0_putBack 7 = .ok (.return_, 1) := by decide +kernel
theorem dX0_putBack_8 : decode cX0_putBack 8 = .ok (.aload_n 0, 1) := by decide +kernel
theorem dX0_putBack_9 : decode cX0_putBack 9 = .ok (.dup, 1) := by decide +kernel
theorem dX0_putBack_10 : decode cX0_putBack 10 = .ok (.getfield 38, 3) := by decide +kernel
theorem dX0_putBack_13 : decode cX0_putBack 13 = .ok (.iconst 1, 1) := by decide +kernel
theorem dX0_putBack_14 : decode cX0_putBack 14 = .ok (.isub, 1) := by decide +kernel
theorem dX0_putBack_15 : decode cX0_putBack 15 = .ok (.putfield 38, 3) := by decide +kernel
theorem dX0_putBack_18 : decode cX0_putBack 18 = .ok (.aload_n 0, 1) := by decide +kernel
theorem dX0_putBack_19 : decode cX0_putBack 19 = .ok (.getfield 19, 3) := by decide +kernel
theorem dX0_putBack_22 : decode cX0_putBack 22 = .ok (.aload_n 0, 1) := by decide +kernel
theorem dX0_putBack_23 : decode cX0_putBack 23 = .ok (.getfield 38, 3) := by decide +kernel
theorem dX0_putBack_26 : decode cX0_putBack 26 = .ok (.iaload, 1) := by decide +kernel
theorem dX0_putBack_27 : decode cX0_putBack 27 = .ok (.istore_n 1, 1) := by decide +kernel
theorem dX0_putBack_28 : decode cX0_putBack 28 = .ok (.aload_n 0, 1) := by decide +kernel
theorem dX0_putBack_29 : decode cX0_putBack 29 = .ok (.iload_n 1, 1) := by decide +kernel
theorem dX0_putBack_30 : decode cX0_putBack 30 = .ok (.bipush 16, 2) := by decide +kernel
theorem dX0_putBack_32 : decode cX0_putBack 32 = .ok (.irem, 1) := by decide +kernel
theorem dX0_putBack_33 : decode cX0_putBack 33 = .ok (.iload_n 1, 1) := by decide +kernel
theorem dX0_putBack_34 : decode cX0_putBack 34 = .ok (.bipush 16, 2) := by decide +kernel
theorem dX0_putBack_36 : decode cX0_putBack 36 = .ok (.idiv, 1) := by decide +kernel
theorem dX0_putBack_37 : decode cX0_putBack 37 = .ok (.aload_n 0, 1) := by decide +kernel
theorem dX0_putBack_38 : decode cX0_putBack 38 = .ok (.getfield 22, 3) := by decide +kernel
theorem dX0_putBack_41 : decode cX0_putBack 41 = .ok (.aload_n 0, 1) := by decide +kernel
theorem dX0_putBack_42 : decode cX0_putBack 42 = .ok (.getfield 38, 3) := by decide +kernel
theorem dX0_putBack_45 : decode cX0_putBack 45 = .ok (.laload, 1) := by decide +kernel
theorem dX0_putBack_46 : decode cX0_putBack 46 = .ok (.invokevirtual 75, 3) := by decide +kernel
theorem dX0_putBack_49 : decode cX0_putBack 49 = .ok (.return_, 1) := by decide +kernel
theorem dX1_init_0 : decode cX1_init 0 = .ok (.aload_n 0, 1) := by decide +kernel
theorem dX1_init_1 : decode cX1_init 1 = .ok (.invokespecial 3, 3) := by decide +kernel
theorem dX1_init_4 : decode cX1_init 4 = .ok (.aload_n 0, 1) := by decide +kernel
theorem dX1_init_5 : decode cX1_init 5 = .ok (.iconst 0, 1) := by decide +kernel
theorem dX1_init_6 : decode cX1_init 6 = .ok (.putfield 9, 3) := by decide +kernel
theorem dX1_init_9 : decode cX1_init 9 = .ok (.aload_n 0, 1) := by decide +kernel
theorem dX1_init_10 : decode cX1_init 10 = .ok (.iconst 1, 1) := by decide +kernel
theorem dX1_init_11 : decode cX1_init 11 = .ok (.putfield 15, 3) := by decide +kernel
theorem dX1_init_14 : decode cX1_init 14 = .ok (.aload_n 0, 1) := by decide +kernel
theorem dX1_init_15 : decode cX1_init 15 = .ok (.iconst 0, 1) := by decide +kernel
theorem dX1_init_16 : decode cX1_init 16 = .ok (.putfield 18, 3) := by decide +kernel
theorem dX1_init_19 : decode cX1_init 19 = .ok (.aload_n 0, 1) := by decide +kernel
theorem dX1_init_20 : decode cX1_init 20 = .ok (.iconst (-1), 1) := by decide +kernel
theorem dX1_init_21 : decode cX1_init 21 = .ok (.putfield 21, 3) := by decide +kernel
theorem dX1_init_24 : decode cX1_init 24 = .ok (.aload_n 0, 1) := by decide +kernel
theorem dX1_init_25 : decode cX1_init 25 = .ok (.bipush 100, 2) := by decide +kernel
theorem dX1_init_27 : decode cX1_init 27 = .ok (.newarray .int, 2) := by decide +kernel
theorem dX1_init_29 : decode cX1_init 29 = .ok (.putfield 24, 3) := by decide +kernel
theorem dX1_init_32 : decode cX1_init 32 = .ok (.aload_n 0, 1) := by decide +kernel
theorem dX1_init_33 : decode cX1_init 33 = .ok (.bipush 100, 2) := by decide +kernel
theorem dX1_init_35 : decode cX1_init 35 = .ok (.newarray .int, 2) := by decide +kernel
theorem dX1_init_37 : decode cX1_init 37 = .ok (.putfield 28, 3) := by decide +kernel
theorem dX1_init_40 : decode cX1_init 40 = .ok (.aload_n 0, 1) := by decide +kernel
theorem dX1_init_41 : decode cX1_init 41 = .ok (.iload_n 1, 1) := by decide +kernel
theorem dX1_init_42 : decode cX1_init 42 = .ok (.putfield 31, 3) := by decide +kernel
theorem dX1_init_45 : decode cX1_init 45 = .ok (.aload_n 0, 1) := by decide +kernel
theorem dX1_init_46 : decode cX1_init 46 = .ok (.iload_n 2, 1) := by decide +kernel
theorem dX1_init_47 : decode cX1_init 47 = .ok (.putfield 34, 3) := by decide +kernel
theorem dX1_init_50 : decode cX1_init 50 = .ok (.return_, 1) := by decide +kernel
theorem dX1_isLost_0 : decode cX1_isLost 0 = .ok (.aload_n 0, 1) := by decide +kernel
theorem dX1_isLost_1 : decode cX1_isLost 1 = .ok (.getfield 21, 3) := by decide +kernel
theorem dX1_isLost_4 : decode cX1_isLost 4 = .ok (.iconst (-1), 1) := by decide +kernel
theorem dX1_isLost_5 : decode cX1_isLost 5 = .ok (.if_icmp .ne 7, 3) := by decide +kernel
theorem dX1_isLost_8 : decode cX1_isLost 8 = .ok (.iconst 1, 1) := by decide +kernel
theorem dX1_isLost_9 : decode cX1_isLost 9 = .ok (.goto 4, 3) := by decide +kernel
theorem dX1_isLost_12 : decode cX1_isLost 12 = .ok (.iconst 0, 1) := by decide +kernel
theorem dX1_isLost_13 : decode cX1_isLost 13 = .ok (.ireturn, 1) := by decide +kernel
theorem dX1_renew_0 : decode cX1_renew 0 = .ok (.aload_n 0, 1) := by decide +kernel
theorem dX1_renew_1 : decode cX1_renew 1 = .ok (.iload_n 1, 1) := by decide +kernel
theorem dX1_renew_2 : decode cX1_renew 2 = .ok (.putfield 18, 3) := by decide +kernel
theorem dX1_renew_5 : decode cX1_renew 5 = .ok (.aload_n 0, 1) := by decide +kernel
theorem dX1_renew_6 : decode cX1_renew 6 = .ok (.iload_n 2, 1) := by decide +kernel
theorem dX1_renew_7 : decode cX1_renew 7 = .ok (.putfield 21, 3) := by decide +kernel
theorem dX1_renew_10 : decode cX1_renew 10 = .ok (.aload_n 0, 1) := by decide +kernel
theorem dX1_renew_11 : decode cX1_renew 11 = .ok (.getfield 24, 3) := by decide +kernel
theorem dX1_renew_14 : decode cX1_renew 14 = .ok (.iconst 0, 1) := by decide +kernel
theorem dX1_renew_15 : decode cX1_renew 15 = .ok (.invokestatic 37, 3) := by decide +kernel
theorem dX1_renew_18 : decode cX1_renew 18 = .ok (.return_, 1) := by decide +kernel
theorem dX1_hasItem_0 : decode cX1_hasItem 0 = .ok (.iload_n 1, 1) := by decide +kernel
theorem dX1_hasItem_1 : decode cX1_hasItem 1 = .ok (.ifCond .lt 15, 3) := by decide +kernel
theorem dX1_hasItem_4 : decode cX1_hasItem 4 = .ok (.iload_n 1, 1) := by decide +kernel
theorem dX1_hasItem_5 : decode cX1_hasItem 5 = .ok (.aload_n 0, 1) := by decide +kernel
theorem dX1_hasItem_6 : decode cX1_hasItem 6 = .ok (.getfield 21, 3) := by decide +kernel
theorem dX1_hasItem_9 : decode cX1_hasItem 9 = .ok (.if_icmp .ge 7, 3) := by decide +kernel
theorem dX1_hasItem_12 : decode cX1_hasItem 12 = .ok (.iconst 1, 1) := by decide +kernel
theorem dX1_hasItem_13 : decode cX1_hasItem 13 = .ok (.goto 4, 3) := by decide +kernel
theorem dX1_hasItem_16 : decode cX1_hasItem 16 = .ok (.iconst 0, 1) := by decide +kernel
theorem dX1_hasItem_17 : decode cX1_hasItem 17 = .ok (.ireturn, 1) := by decide +kernel
theorem dX1_hasSpan_0 : decode cX1_hasSpan 0 = .ok (.iload_n 1, 1) := by decide +kernel
theorem dX1_hasSpan_1 : decode cX1_hasSpan 1 = .ok (.ifCond .lt 25, 3) := by decide +kernel
theorem dX1_hasSpan_4 : decode cX1_hasSpan 4 = .ok (.iload_n 2, 1) := by decide +kernel
theorem dX1_hasSpan_5 : decode cX1_hasSpan 5 = .ok (.ifCond .lt 21, 3) := by decide +kernel
theorem dX1_hasSpan_8 : decode cX1_hasSpan 8 = .ok (.iload_n 1, 1) := by decide +kernel
theorem dX1_hasSpan_9 : decode cX1_hasSpan 9 = .ok (.i2l, 1) := by decide +kernel
theorem dX1_hasSpan_10 : decode cX1_hasSpan 10 = .ok (.iload_n 2, 1) := by decide +kernel
theorem dX1_hasSpan_11 : decode cX1_hasSpan 11 = .ok (.i2l, 1) := by decide +kernel
theorem dX1_hasSpan_12 : decode cX1_hasSpan 12 = .ok (.ladd, 1) := by decide +kernel
theorem dX1_hasSpan_13 : decode cX1_hasSpan 13 = .ok (.aload_n 0, 1) := by decide +kernel
theorem dX1_hasSpan_14 : decode cX1_hasSpan 14 = .ok (.getfield 21, 3) := by decide +kernel
theorem dX1_hasSpan_17 : decode cX1_hasSpan 17 = .ok (.i2l, 1) := by decide +kernel
theorem dX1_hasSpan_18 : decode cX1_hasSpan 18 = .ok (.lcmp, 1) := by decide +kernel
theorem dX1_hasSpan_19 : decode cX1_hasSpan 19 = .ok (.ifCond .gt 7, 3) := by decide +kernel
theorem dX1_hasSpan_22 : decode cX1_hasSpan 22 = .ok (.iconst 1, 1) := by decide +kernel
theorem dX1_hasSpan_23 : decode cX1_hasSpan 23 = .ok (.goto 4, 3) := by decide +kernel
theorem dX1_hasSpan_26 : decode cX1_hasSpan 26 = .ok (.iconst 0, 1) := by decide +kernel
theorem dX1_hasSpan_27 : decode cX1_hasSpan 27 = .ok (.ireturn, 1) := by decide +kernel
theorem dX1_faultOf_0 : decode cX1_faultOf 0 = .ok (.aload_n 0, 1) := by decide +kernel
theorem dX1_faultOf_1 : decode cX1_faultOf 1 = .ok (.invokevirtual 43, 3) := by decide +kernel
theorem dX1_faultOf_4 : decode cX1_faultOf 4 = .ok (.ifCond .eq 5, 3) := by decide +kernel
theorem dX1_faultOf_7 : decode cX1_faultOf 7 = .ok (.iconst 1, 1) := by decide +kernel
theorem dX1_faultOf_8 : decode cX1_faultOf 8 = .ok (.ireturn, 1) := by decide +kernel
theorem dX1_faultOf_9 : decode cX1_faultOf 9 = .ok (.iload_n 1, 1) := by decide +kernel
theorem dX1_faultOf_10 : decode cX1_faultOf 10 = .ok (.aload_n 0, 1) := by decide +kernel
theorem dX1_faultOf_11 : decode cX1_faultOf 11 = .ok (.getfield 18, 3) := by decide +kernel
theorem dX1_faultOf_14 : decode cX1_faultOf 14 = .ok (.if_icmp .eq 5, 3) := by decide +kernel
theorem dX1_faultOf_17 : decode cX1_faultOf 17 = .ok (.iconst 3, 1) := by decide +kernel
theorem dX1_faultOf_18 : decode cX1_faultOf 18 = .ok (.ireturn, 1) := by decide +kernel
theorem dX1_faultOf_19 : decode cX1_faultOf 19 = .ok (.aload_n 0, 1) := by decide +kernel
theorem dX1_faultOf_20 : decode cX1_faultOf 20 = .ok (.iload_n 2, 1) := by decide +kernel
theorem dX1_faultOf_21 : decode cX1_faultOf 21 = .ok (.invokevirtual 47, 3) := by decide +kernel
theorem dX1_faultOf_24 : decode cX1_faultOf 24 = .ok (.ifCond .eq 7, 3) := by decide +kernel
theorem dX1_faultOf_27 : decode cX1_faultOf 27 = .ok (.iconst 0, 1) := by decide +kernel
theorem dX1_faultOf_28 : decode cX1_faultOf 28 = .ok (.goto 4, 3) := by decide +kernel
theorem dX1_faultOf_31 : decode cX1_faultOf 31 = .ok (.iconst 2, 1) := by decide +kernel
theorem dX1_faultOf_32 : decode cX1_faultOf 32 = .ok (.ireturn, 1) := by decide +kernel
theorem dX1_store_0 : decode cX1_store 0 = .ok (.aload_n 0, 1) := by decide +kernel
theorem dX1_store_1 : decode cX1_store 1 = .ok (.iload_n 1, 1) := by decide +kernel
theorem dX1_store_2 : decode cX1_store 2 = .ok (.invokevirtual 47, 3) := by decide +kernel
theorem dX1_store_5 : decode cX1_store 5 = .ok (.ifCond .ne 4, 3) := by decide +kernel
theorem dX1_store_8 : decode cX1_store 8 = .ok (.return_, 1) := by decide +kernel
theorem dX1_store_9 : decode cX1_store 9 = .ok (.aload_n 0, 1) := by decide +kernel
theorem dX1_store_10 : decode cX1_store 10 = .ok (.getfield 18, 3) := by decide +kernel
theorem dX1_store_13 : decode cX1_store 13 = .ok (.ifCond .ne 14, 3) := by decide +kernel
theorem dX1_store_16 : decode cX1_store 16 = .ok (.aload_n 0, 1) := by decide +kernel
theorem dX1_store_17 : decode cX1_store 17 = .ok (.getfield 24, 3) := by decide +kernel
theorem dX1_store_20 : decode cX1_store 20 = .ok (.iload_n 1, 1) := by decide +kernel
theorem dX1_store_21 : decode cX1_store 21 = .ok (.iload_n 2, 1) := by decide +kernel
theorem dX1_store_22 : decode cX1_store 22 = .ok (.i2b, 1) := by decide +kernel
theorem dX1_store_23 : decode cX1_store 23 = .ok (.iastore, 1) := by decide +kernel
theorem dX1_store_24 : decode cX1_store 24 = .ok (.goto 29, 3) := by decide +kernel
theorem dX1_store_27 : decode cX1_store 27 = .ok (.aload_n 0, 1) := by decide +kernel
theorem dX1_store_28 : decode cX1_store 28 = .ok (.getfield 18, 3) := by decide +kernel
theorem dX1_store_31 : decode cX1_store 31 = .ok (.iconst 1, 1) := by decide +kernel
theorem dX1_store_32 : decode cX1_store 32 = .ok (.if_icmp .ne 14, 3) := by decide +kernel
theorem dX1_store_35 : decode cX1_store 35 = .ok (.aload_n 0, 1) := by decide +kernel
theorem dX1_store_36 : decode cX1_store 36 = .ok (.getfield 24, 3) := by decide +kernel
theorem dX1_store_39 : decode cX1_store 39 = .ok (.iload_n 1, 1) := by decide +kernel
theorem dX1_store_40 : decode cX1_store 40 = .ok (.iload_n 2, 1) := by decide +kernel
theorem dX1_store_41 : decode cX1_store 41 = .ok (.i2s, 1) := by decide +kernel
theorem dX1_store_42 : decode cX1_store 42 = .ok (.iastore, 1) := by decide +kernel
theorem dX1_store_43 : decode cX1_store 43 = .ok (.goto 10, 3) := by decide +kernel
theorem dX1_store_46 : decode cX1_store 46 = .ok (.aload_n 0, 1) := by decide +kernel
theorem dX1_store_47 : decode cX1_store 47 = .ok (.getfield 24, 3) := by decide +kernel
theorem dX1_store_50 : decode cX1_store 50 = .ok (.iload_n 1, 1) := by decide +kernel
theorem dX1_store_51 : decode cX1_store 51 = .ok (.iload_n 2, 1) := by decide +kernel
theorem dX1_store_52 : decode cX1_store 52 = .ok (.iastore, 1) := by decide +kernel
theorem dX1_store_53 : decode cX1_store 53 = .ok (.return_, 1) := by decide +kernel
theorem dX1_load_0 : decode cX1_load 0 = .ok (.aload_n 0, 1) := by decide +kernel
theorem dX1_load_1 : decode cX1_load 1 = .ok (.iload_n 1, 1) := by decide +kernel
theorem dX1_load_2 : decode cX1_load 2 = .ok (.invokevirtual 47, 3) := by decide +kernel
theorem dX1_load_5 : decode cX1_load 5 = .ok (.ifCond .eq 12, 3) := by decide +kernel
theorem dX1_load_8 : decode cX1_load 8 = .ok (.aload_n 0, 1) := by decide +kernel
theorem dX1_load_9 : decode cX1_load 9 = .ok (.getfield 24, 3) := by decide +kernel
theorem dX1_load_12 : decode cX1_load 12 = .ok (.iload_n 1, 1) := by decide +kernel
theorem dX1_load_13 : decode cX1_load 13 = .ok (.iaload, 1) := by decide +kernel
theorem dX1_load_14 : decode cX1_load 14 = .ok (.goto 4, 3) := by decide +kernel
theorem dX1_load_17 : decode cX1_load 17 = .ok (.iconst 0, 1) := by decide +kernel
theorem dX1_load_18 : decode cX1_load 18 = .ok (.ireturn, 1) := by decide +kernel
theorem dX1_addFlags_0 : decode cX1_addFlags 0 = .ok (.iload_n 1, 1) := by decide +kernel
theorem dX1_addFlags_1 : decode cX1_addFlags 1 = .ok (.iconst 0, 1) := by decide +kernel
theorem dX1_addFlags_2 : decode cX1_addFlags 2 = .ok (.invokestatic 51, 3) := by decide +kernel
theorem dX1_addFlags_5 : decode cX1_addFlags 5 = .ok (.istore 4, 2) := by decide +kernel
theorem dX1_addFlags_7 : decode cX1_addFlags 7 = .ok (.iload 4, 2) := by decide +kernel
theorem dX1_addFlags_9 : decode cX1_addFlags 9 = .ok (.iload_n 2, 1) := by decide +kernel
theorem dX1_addFlags_10 : decode cX1_addFlags 10 = .ok (.if_icmp .gt 27, 3) := by decide +kernel
theorem dX1_addFlags_13 : decode cX1_addFlags 13 = .ok (.iload 4, 2) := by decide +kernel
theorem dX1_addFlags_15 : decode cX1_addFlags 15 = .ok (.bipush 100, 2) := by decide +kernel
theorem dX1_addFlags_17 : decode cX1_addFlags 17 = .ok (.if_icmp .ge 20, 3) := by decide +kernel
theorem dX1_addFlags_20 : decode cX1_addFlags 20 = .ok (.aload_n 0, 1) := by decide +kernel
theorem dX1_addFlags_21 : decode cX1_addFlags 21 = .ok (.getfield 28, 3) := by decide +kernel
theorem dX1_addFlags_24 : decode cX1_addFlags 24 = .ok (.iload 4, 2) := by decide +kernel
theorem dX1_addFlags_26 : decode cX1_addFlags 26 = .ok (.dup2, 1) := by decide +kernel
theorem dX1_addFlags_27 : decode cX1_addFlags 27 = .ok (.iaload, 1) := by decide +kernel
theorem dX1_addFlags_28 : decode cX1_addFlags 28 = .ok (.iload_n 3, 1) := by decide +kernel
theorem dX1_addFlags_29 : decode cX1_addFlags 29 = .ok (.iadd, 1) := by decide +kernel
theorem dX1_addFlags_30 : decode cX1_addFlags 30 = .ok (.iastore, 1) := by decide +kernel
theorem dX1_addFlags_31 : decode cX1_addFlags 31 = .ok (.iinc 4 1, 3) := by decide +kernel
theorem dX1_addFlags_34 : decode cX1_addFlags 34 = .ok (.goto (-27), 3) := by decide +kernel
theorem dX1_addFlags_37 : decode cX1_addFlags 37 = .ok (.return_, 1) := by decide +kernel
theorem dX1_hasUsable_0 : decode cX1_hasUsable 0 = .ok (.aload_n 0, 1) := by decide +kernel
theorem dX1_hasUsable_1 : decode cX1_hasUsable 1 = .ok (.iload_n 1, 1) := by decide +kernel
theorem dX1_hasUsable_2 : decode cX1_hasUsable 2 = .ok (.invokevirtual 47, 3) := by decide +kernel
theorem dX1_hasUsable_5 : decode cX1_hasUsable 5 = .ok (.ifCond .eq 16, 3) := by decide +kernel
theorem dX1_hasUsable_8 : decode cX1_hasUsable 8 = .ok (.aload_n 0, 1) := by decide +kernel
theorem dX1_hasUsable_9 : decode cX1_hasUsable 9 = .ok (.getfield 28, 3) := by decide +kernel
theorem dX1_hasUsable_12 : decode cX1_hasUsable 12 = .ok (.iload_n 1, 1) := by decide +kernel
theorem dX1_hasUsable_13 : decode cX1_hasUsable 13 = .ok (.iaload, 1) := by decide +kernel
theorem dX1_hasUsable_14 : decode cX1_hasUsable 14 = .ok (.ifCond .ne 7, 3) := by decide +kernel
theorem dX1_hasUsable_17 : decode cX1_hasUsable 17 = .ok (.iconst 1, 1) := by decide +kernel
theorem dX1_hasUsable_18 : decode cX1_hasUsable 18 = .ok (.goto 4, 3) := by decide +kernel
theorem dX1_hasUsable_21 : decode cX1_hasUsable 21 = .ok (.iconst 0, 1) := by decide +kernel
theorem dX1_hasUsable_22 : decode cX1_hasUsable 22 = .ok (.ireturn, 1) := by decide +kernel
theorem dX1_sampleAt_0 : decode cX1_sampleAt 0 = .ok (.sipush (-500), 3) := by decide +kernel
theorem dX1_sampleAt_3 : decode cX1_sampleAt 3 = .ok (.sipush 500, 3) := by decide +kernel
theorem dX1_sampleAt_6 : decode cX1_sampleAt 6 = .ok (.aload_n 0, 1) := by decide +kernel
theorem dX1_sampleAt_7 : decode cX1_sampleAt 7 = .ok (.iload_n 1, 1) := by decide +kernel
theorem dX1_sampleAt_8 : decode cX1_sampleAt 8 = .ok (.invokevirtual 57, 3) := by decide +kernel
theorem dX1_sampleAt_11 : decode cX1_sampleAt 11 = .ok (.invokestatic 61, 3) := by decide +kernel
theorem dX1_sampleAt_14 : decode cX1_sampleAt 14 = .ok (.invokestatic 51, 3) := by decide +kernel
theorem dX1_sampleAt_17 : decode cX1_sampleAt 17 = .ok (.ireturn, 1) := by decide +kernel
theorem dX1_ticksWith_0 : decode cX1_ticksWith 0 = .ok (.iconst 0, 1) := by decide +kernel
theorem dX1_ticksWith_1 : decode cX1_ticksWith 1 = .ok (.istore_n 2, 1) := by decide +kernel
theorem dX1_ticksWith_2 : decode cX1_ticksWith 2 = .ok (.iconst 0, 1) := by decide +kernel
theorem dX1_ticksWith_3 : decode cX1_ticksWith 3 = .ok (.istore_n 3, 1) := by decide +kernel
theorem dX1_ticksWith_4 : decode cX1_ticksWith 4 = .ok (.iload_n 3, 1) := by decide +kernel
theorem dX1_ticksWith_5 : decode cX1_ticksWith 5 = .ok (.bipush 100, 2) := by decide +kernel
theorem dX1_ticksWith_7 : decode cX1_ticksWith 7 = .ok (.if_icmp .ge 38, 3) := by decide +kernel
theorem dX1_ticksWith_10 : decode cX1_ticksWith 10 = .ok (.aload_n 0, 1) := by decide +kernel
theorem dX1_ticksWith_11 : decode cX1_ticksWith 11 = .ok (.iload_n 3, 1) := by decide +kernel
theorem dX1_ticksWith_12 : decode cX1_ticksWith 12 = .ok (.aload_n 0, 1) := by decide +kernel
theorem dX1_ticksWith_13 : decode cX1_ticksWith 13 = .ok (.getfield 9, 3) := by decide +kernel
theorem dX1_ticksWith_16 : decode cX1_ticksWith 16 = .ok (.iadd, 1) := by decide +kernel
theorem dX1_ticksWith_17 : decode cX1_ticksWith 17 = .ok (.invokevirtual 64, 3) := by decide +kernel
theorem dX1_ticksWith_20 : decode cX1_ticksWith 20 = .ok (.ifCond .eq 19, 3) := by decide +kernel
theorem dX1_ticksWith_23 : decode cX1_ticksWith 23 = .ok (.aload_n 1, 1) := by decide +kernel
theorem dX1_ticksWith_24 : decode cX1_ticksWith 24 = .ok (.iload_n 3, 1) := by decide +kernel
theorem dX1_ticksWith_25 : decode cX1_ticksWith 25 = .ok (.aload_n 1, 1) := by decide +kernel
theorem dX1_ticksWith_26 : decode cX1_ticksWith 26 = .ok (.getfield 9, 3) := by decide +kernel
theorem dX1_ticksWith_29 : decode cX1_ticksWith 29 = .ok (.iadd, 1) := by decide +kernel
theorem dX1_ticksWith_30 : decode cX1_ticksWith 30 = .ok (.invokevirtual 64, 3) := by decide +kernel
theorem dX1_ticksWith_33 : decode cX1_ticksWith 33 = .ok (.ifCond .eq 6, 3) := by decide +kernel
theorem dX1_ticksWith_36 : decode cX1_ticksWith 36 = .ok (.iinc 2 1, 3) := by decide +kernel
theorem dX1_ticksWith_39 : decode cX1_ticksWith 39 = .ok (.iinc 3 1, 3) := by decide +kernel
theorem dX1_ticksWith_42 : decode cX1_ticksWith 42 = .ok (.goto (-38), 3) := by decide +kernel
theorem dX1_ticksWith_45 : decode cX1_ticksWith 45 = .ok (.iload_n 2, 1) := by decide +kernel
theorem dX1_ticksWith_46 : decode cX1_ticksWith 46 = .ok (.ireturn, 1) := by decide +kernel
theorem dX1_productWith_0 : decode cX1_productWith 0 = .ok (.lconst 0, 1) := by decide +kernel
theorem dX1_productWith_1 : decode cX1_productWith 1 = .ok (.lstore_n 3, 1) := by decide +kernel
theorem dX1_productWith_2 : decode cX1_productWith 2 = .ok (.iconst 0, 1) := by decide +kernel
theorem dX1_productWith_3 : decode cX1_productWith 3 = .ok (.istore 5, 2) := by decide +kernel
theorem dX1_productWith_5 : decode cX1_productWith 5 = .ok (.iload 5, 2) := by decide +kernel
theorem dX1_productWith_7 : decode cX1_productWith 7 = .ok (.bipush 100, 2) := by decide +kernel
theorem dX1_productWith_9 : decode cX1_productWith 9 = .ok (.if_icmp .ge 60, 3) := by decide +kernel
theorem dX1_productWith_12 : decode cX1_productWith 12 = .ok (.iload 5, 2) := by decide +kernel
theorem dX1_productWith_14 : decode cX1_productWith 14 = .ok (.aload_n 0, 1) := by decide +kernel
theorem dX1_productWith_15 : decode cX1_productWith 15 = .ok (.getfield 9, 3) := by decide +kernel
theorem dX1_productWith_18 : decode cX1_productWith 18 = .ok (.iadd, 1) := by decide +kernel
theorem dX1_productWith_19 : decode cX1_productWith 19 = .ok (.istore 6, 2) := by decide +kernel
theorem dX1_productWith_21 : decode cX1_productWith 21 = .ok (.iload 5, 2) := by decide +kernel
theorem dX1_productWith_23 : decode cX1_productWith 23 = .ok (.iload_n 2, 1) := by decide +kernel
theorem dX1_productWith_24 : decode cX1_productWith 24 = .ok (.iadd, 1) := by decide +kernel
theorem dX1_productWith_25 : decode cX1_productWith 25 = .ok (.istore 7, 2) := by decide +kernel
theorem dX1_productWith_27 : decode cX1_productWith 27 = .ok (.aload_n 0, 1) := by decide +kernel
theorem dX1_productWith_28 : decode cX1_productWith 28 = .ok (.iload 6, 2) := by decide +kernel
theorem dX1_productWith_30 : decode cX1_productWith 30 = .ok (.invokevirtual 64, 3) := by decide +kernel
theorem dX1_productWith_33 : decode cX1_productWith 33 = .ok (.ifCond .eq 30, 3) := by decide +kernel
theorem dX1_productWith_36 : decode cX1_productWith 36 = .ok (.aload_n 1, 1) := by decide +kernel
theorem dX1_productWith_37 : decode cX1_productWith 37 = .ok (.iload 7, 2) := by decide +kernel
theorem dX1_productWith_39 : decode cX1_productWith 39 = .ok (.invokevirtual 64, 3) := by decide +kernel
theorem dX1_productWith_42 : decode cX1_productWith 42 = .ok (.ifCond .eq 21, 3) := by decide +kernel
theorem dX1_productWith_45 : decode cX1_productWith 45 = .ok (.lload_n 3, 1) := by decide +kernel
theorem dX1_productWith_46 : decode cX1_productWith 46 = .ok (.aload_n 0, 1) := by decide +kernel
theorem dX1_productWith_47 : decode cX1_productWith 47 = .ok (.iload 6, 2) := by decide +kernel
theorem dX1_productWith_49 : decode cX1_productWith 49 = .ok (.invokevirtual 67, 3) := by decide +kernel
theorem dX1_productWith_52 : decode cX1_productWith 52 = .ok (.i2l, 1) := by decide +kernel
theorem dX1_productWith_53 : decode cX1_productWith 53 = .ok (.aload_n 1, 1) := by decide +kernel
theorem dX1_productWith_54 : decode cX1_productWith 54 = .ok (.iload 7, 2) := by decide +kernel
theorem dX1_productWith_56 : decode cX1_productWith 56 = .ok (.invokevirtual 67, 3) := by decide +kernel
theorem dX1_productWith_59 : decode cX1_productWith 59 = .ok (.i2l, 1) := by decide +kernel
theorem dX1_productWith_60 : decode cX1_productWith 60 = .ok (.lmul, 1) := by decide +kernel
theorem dX1_productWith_61 : decode cX1_productWith 61 = .ok (.ladd, 1) := by decide +kernel
theorem dX1_productWith_62 : decode cX1_productWith 62 = .ok (.lstore_n 3, 1) := by decide +kernel
theorem dX1_productWith_63 : decode cX1_productWith 63 = .ok (.iinc 5 1, 3) := by decide +kernel
theorem dX1_productWith_66 : decode cX1_productWith 66 = .ok (.goto (-61), 3) := by decide +kernel
theorem dX1_productWith_69 : decode cX1_productWith 69 = .ok (.lload_n 3, 1) := by decide +kernel
theorem dX1_productWith_70 : decode cX1_productWith 70 = .ok (.aload_n 0, 1) := by decide +kernel
theorem dX1_productWith_71 : decode cX1_productWith 71 = .ok (.getfield 15, 3) := by decide +kernel
theorem dX1_productWith_74 : decode cX1_productWith 74 = .ok (.i2l, 1) := by decide +kernel
theorem dX1_productWith_75 : decode cX1_productWith 75 = .ok (.lmul, 1) := by decide +kernel
theorem dX1_productWith_76 : decode cX1_productWith 76 = .ok (.aload_n 1, 1) := by decide +kernel
theorem dX1_productWith_77 : decode cX1_productWith 77 = .ok (.getfield 15, 3) := by decide +kernel
theorem dX1_productWith_80 : decode cX1_productWith 80 = .ok (.i2l, 1) := by decide +kernel
theorem dX1_productWith_81 : decode cX1_productWith 81 = .ok (.lmul, 1) := by decide +kernel
theorem dX1_productWith_82 : decode cX1_productWith 82 = .ok (.lreturn, 1) := by decide +kernel
theorem dX1_bestDelayOf_0 : decode cX1_bestDelayOf 0 = .ok (.iconst 0, 1) := by decide +kernel
theorem dX1_bestDelayOf_1 : decode cX1_bestDelayOf 1 = .ok (.istore_n 2, 1) := by decide +kernel
theorem dX1_bestDelayOf_2 : decode cX1_bestDelayOf 2 = .ok (.aload_n 0, 1) := by decide +kernel
theorem dX1_bestDelayOf_3 : decode cX1_bestDelayOf 3 = .ok (.aload_n 1, 1) := by decide +kernel
theorem dX1_bestDelayOf_4 : decode cX1_bestDelayOf 4 = .ok (.iconst 0, 1) := by decide +kernel
theorem dX1_bestDelayOf_5 : decode cX1_bestDelayOf 5 = .ok (.invokevirtual 70, 3) := by decide +kernel
theorem dX1_bestDelayOf_8 : decode cX1_bestDelayOf 8 = .ok (.lstore_n 3, 1) := by decide +kernel
theorem dX1_bestDelayOf_9 : decode cX1_bestDelayOf 9 = .ok (.iconst 1, 1) := by decide +kernel
theorem dX1_bestDelayOf_10 : decode cX1_bestDelayOf 10 = .ok (.istore 5, 2) := by decide +kernel
theorem dX1_bestDelayOf_12 : decode cX1_bestDelayOf 12 = .ok (.iload 5, 2) := by decide +kernel
theorem dX1_bestDelayOf_14 : decode cX1_bestDelayOf 14 = .ok (.bipush 30, 2) := by decide +kernel
theorem dX1_bestDelayOf_16 : decode cX1_bestDelayOf 16 = .ok (.if_icmp .gt 31, 3) := by decide +kernel
theorem dX1_bestDelayOf_19 : decode cX1_bestDelayOf 19 = .ok (.aload_n 0, 1) := by decide +kernel
theorem dX1_bestDelayOf_20 : decode cX1_bestDelayOf 20 = .ok (.aload_n 1, 1) := by decide +kernel
theorem dX1_bestDelayOf_21 : decode cX1_bestDelayOf 21 = .ok (.iload 5, 2) := by decide +kernel
theorem dX1_bestDelayOf_23 : decode cX1_bestDelayOf 23 = .ok (.invokevirtual 70, 3) := by decide +kernel
theorem dX1_bestDelayOf_26 : decode cX1_bestDelayOf 26 = .ok (.lstore 6, 2) := by decide +kernel
theorem dX1_bestDelayOf_28 : decode cX1_bestDelayOf 28 = .ok (.lload 6, 2) := by decide +kernel
theorem dX1_bestDelayOf_30 : decode cX1_bestDelayOf 30 = .ok (.lload_n 3, 1) := by decide +kernel
theorem dX1_bestDelayOf_31 : decode cX1_bestDelayOf 31 = .ok (.lcmp, 1) := by decide +kernel
theorem dX1_bestDelayOf_32 : decode cX1_bestDelayOf 32 = .ok (.ifCond .le 9, 3) := by decide +kernel
theorem dX1_bestDelayOf_35 : decode cX1_bestDelayOf 35 = .ok (.lload 6, 2) := by decide +kernel
theorem dX1_bestDelayOf_37 : decode cX1_bestDelayOf 37 = .ok (.lstore_n 3, 1) := by decide +kernel
theorem dX1_bestDelayOf_38 : decode cX1_bestDelayOf 38 = .ok (.iload 5, 2) := by decide +kernel
theorem dX1_bestDelayOf_40 : decode cX1_bestDelayOf 40 = .ok (.istore_n 2, 1) := by decide +kernel
theorem dX1_bestDelayOf_41 : decode cX1_bestDelayOf 41 = .ok (.iinc 5 1, 3) := by decide +kernel
theorem dX1_bestDelayOf_44 : decode cX1_bestDelayOf 44 = .ok (.goto (-32), 3) := by decide +kernel
theorem dX1_bestDelayOf_47 : decode cX1_bestDelayOf 47 = .ok (.iload_n 2, 1) := by decide +kernel
theorem dX1_bestDelayOf_48 : decode cX1_bestDelayOf 48 = .ok (.ireturn, 1) := by decide +kernel
theorem dX2_init_0 : decode cX2_init 0 = .ok (.aload_n 0, 1) := by decide +kernel
theorem dX2_init_1 : decode cX2_init 1 = .ok (.invokespecial 3, 3) := by decide +kernel
theorem dX2_init_4 : decode cX2_init 4 = .ok (.aload_n 0, 1) := by decide +kernel
theorem dX2_init_5 : decode cX2_init 5 = .ok (.bipush 10, 2) := by decide +kernel
theorem dX2_init_7 : decode cX2_init 7 = .ok (.newarray .int, 2) := by decide +kernel
theorem dX2_init_9 : decode cX2_init 9 = .ok (.putfield 11, 3) := by decide +kernel
theorem dX2_init_12 : decode cX2_init 12 = .ok (.aload_n 0, 1) := by decide +kernel
theorem dX2_init_13 : decode cX2_init 13 = .ok (.bipush 10, 2) := by decide +kernel
theorem dX2_init_15 : decode cX2_init 15 = .ok (.newarray .int, 2) := by decide +kernel
theorem dX2_init_17 : decode cX2_init 17 = .ok (.putfield 15, 3) := by decide +kernel
theorem dX2_init_20 : decode cX2_init 20 = .ok (.aload_n 0, 1) := by decide +kernel
theorem dX2_init_21 : decode cX2_init 21 = .ok (.bipush 10, 2) := by decide +kernel
theorem dX2_init_23 : decode cX2_init 23 = .ok (.newarray .int, 2) := by decide +kernel
theorem dX2_init_25 : decode cX2_init 25 = .ok (.putfield 18, 3) := by decide +kernel
theorem dX2_init_28 : decode cX2_init 28 = .ok (.return_, 1) := by decide +kernel
theorem dX2_add_0 : decode cX2_add 0 = .ok (.aload_n 0, 1) := by decide +kernel
theorem dX2_add_1 : decode cX2_add 1 = .ok (.getfield 21, 3) := by decide +kernel
theorem dX2_add_4 : decode cX2_add 4 = .ok (.bipush 10, 2) := by decide +kernel
theorem dX2_add_6 : decode cX2_add 6 = .ok (.if_icmp .lt 6, 3) := by decide +kernel
theorem dX2_add_9 : decode cX2_add 9 = .ok (.bipush (-3), 2) := by decide +kernel
theorem dX2_add_11 : decode cX2_add 11 = .ok (.ireturn, 1) := by decide +kernel
theorem dX2_add_12 : decode cX2_add 12 = .ok (.aload_n 0, 1) := by decide +kernel
theorem dX2_add_13 : decode cX2_add 13 = .ok (.getfield 11, 3) := by decide +kernel
theorem dX2_add_16 : decode cX2_add 16 = .ok (.aload_n 0, 1) := by decide +kernel
theorem dX2_add_17 : decode cX2_add 17 = .ok (.getfield 21, 3) := by decide +kernel
theorem dX2_add_20 : decode cX2_add 20 = .ok (.iload_n 1, 1) := by decide +kernel
theorem dX2_add_21 : decode cX2_add 21 = .ok (.iastore, 1) := by decide +kernel
theorem dX2_add_22 : decode cX2_add 22 = .ok (.aload_n 0, 1) := by decide +kernel
theorem dX2_add_23 : decode cX2_add 23 = .ok (.getfield 15, 3) := by decide +kernel
theorem dX2_add_26 : decode cX2_add 26 = .ok (.aload_n 0, 1) := by decide +kernel
theorem dX2_add_27 : decode cX2_add 27 = .ok (.getfield 21, 3) := by decide +kernel
theorem dX2_add_30 : decode cX2_add 30 = .ok (.iload_n 2, 1) := by decide +kernel
theorem dX2_add_31 : decode cX2_add 31 = .ok (.iastore, 1) := by decide +kernel
theorem dX2_add_32 : decode cX2_add 32 = .ok (.aload_n 0, 1) := by decide +kernel
theorem dX2_add_33 : decode cX2_add 33 = .ok (.getfield 18, 3) := by decide +kernel
theorem dX2_add_36 : decode cX2_add 36 = .ok (.aload_n 0, 1) := by decide +kernel
theorem dX2_add_37 : decode cX2_add 37 = .ok (.getfield 21, 3) := by decide +kernel
theorem dX2_add_40 : decode cX2_add 40 = .ok (.iload_n 3, 1) := by decide +kernel
theorem dX2_add_41 : decode cX2_add 41 = .ok (.iastore, 1) := by decide +kernel
theorem dX2_add_42 : decode cX2_add 42 = .ok (.aload_n 0, 1) := by decide +kernel
theorem dX2_add_43 : decode cX2_add 43 = .ok (.dup, 1) := by decide +kernel
theorem dX2_add_44 : decode cX2_add 44 = .ok (.getfield 21, 3) := by decide +kernel
theorem dX2_add_47 : decode cX2_add 47 = .ok (.iconst 1, 1) := by decide +kernel
theorem dX2_add_48 : decode cX2_add 48 = .ok (.iadd, 1) := by decide +kernel
theorem dX2_add_49 : decode cX2_add 49 = .ok (.putfield 21, 3) := by decide +kernel
theorem dX2_add_52 : decode cX2_add 52 = .ok (.aload_n 0, 1) := by decide +kernel
theorem dX2_add_53 : decode cX2_add 53 = .ok (.getfield 21, 3) := by decide +kernel
theorem dX2_add_56 : decode cX2_add 56 = .ok (.ireturn, 1) := by decide +kernel
theorem dX3_init_0 : decode cX3_init 0 = .ok (.aload_n 0, 1) := by decide +kernel
theorem dX3_init_1 : decode cX3_init 1 = .ok (.invokespecial 3, 3) := by decide +kernel
theorem dX3_init_4 : decode cX3_init 4 = .ok (.aload_n 0, 1) := by decide +kernel
theorem dX3_init_5 : decode cX3_init 5 = .ok (.bipush 60, 2) := by decide +kernel
theorem dX3_init_7 : decode cX3_init 7 = .ok (.newarray .int, 2) := by decide +kernel
theorem dX3_init_9 : decode cX3_init 9 = .ok (.putfield 11, 3) := by decide +kernel
theorem dX3_init_12 : decode cX3_init 12 = .ok (.aload_n 0, 1) := by decide +kernel
theorem dX3_init_13 : decode cX3_init 13 = .ok (.bipush 60, 2) := by decide +kernel
theorem dX3_init_15 : decode cX3_init 15 = .ok (.newarray .int, 2) := by decide +kernel
theorem dX3_init_17 : decode cX3_init 17 = .ok (.putfield 15, 3) := by decide +kernel
theorem dX3_init_20 : decode cX3_init 20 = .ok (.aload_n 0, 1) := by decide +kernel
theorem dX3_init_21 : decode cX3_init 21 = .ok (.bipush 60, 2) := by decide +kernel
theorem dX3_init_23 : decode cX3_init 23 = .ok (.newarray .int, 2) := by decide +kernel
theorem dX3_init_25 : decode cX3_init 25 = .ok (.putfield 18, 3) := by decide +kernel
theorem dX3_init_28 : decode cX3_init 28 = .ok (.aload_n 0, 1) := by decide +kernel
theorem dX3_init_29 : decode cX3_init 29 = .ok (.bipush 8, 2) := by decide +kernel
theorem dX3_init_31 : decode cX3_init 31 = .ok (.newarray .int, 2) := by decide +kernel
theorem dX3_init_33 : decode cX3_init 33 = .ok (.putfield 21, 3) := by decide +kernel
theorem dX3_init_36 : decode cX3_init 36 = .ok (.aload_n 0, 1) := by decide +kernel
theorem dX3_init_37 : decode cX3_init 37 = .ok (.bipush 8, 2) := by decide +kernel
theorem dX3_init_39 : decode cX3_init 39 = .ok (.newarray .int, 2) := by decide +kernel
theorem dX3_init_41 : decode cX3_init 41 = .ok (.putfield 24, 3) := by decide +kernel
theorem dX3_init_44 : decode cX3_init 44 = .ok (.aload_n 0, 1) := by decide +kernel
theorem dX3_init_45 : decode cX3_init 45 = .ok (.getfield 24, 3) := by decide +kernel
theorem dX3_init_48 : decode cX3_init 48 = .ok (.sipush 1440, 3) := by decide +kernel
theorem dX3_init_51 : decode cX3_init 51 = .ok (.invokestatic 27, 3) := by decide +kernel
theorem dX3_init_54 : decode cX3_init 54 = .ok (.return_, 1) := by decide +kernel
theorem dX3_fits_0 : decode cX3_fits 0 = .ok (.iload_n 1, 1) := by decide +kernel
theorem dX3_fits_1 : decode cX3_fits 1 = .ok (.tableswitch 173 0 5 #[39, 60, 81, 108, 138, 159], 39) := by decide +kernel
theorem dX3_fits_40 : decode cX3_fits 40 = .ok (.iload_n 2, 1) := by decide +kernel
theorem dX3_fits_41 : decode cX3_fits 41 = .ok (.iconst 0, 1) := by decide +kernel
theorem dX3_fits_42 : decode cX3_fits 42 = .ok (.sipush 600, 3) := by decide +kernel
theorem dX3_fits_45 : decode cX3_fits 45 = .ok (.invokestatic 33, 3) := by decide +kernel
theorem dX3_fits_48 : decode cX3_fits 48 = .ok (.ifCond .eq 11, 3) := by decide +kernel
theorem dX3_fits_51 : decode cX3_fits 51 = .ok (.iload_n 3, 1) := by decide +kernel
theorem dX3_fits_52 : decode cX3_fits 52 = .ok (.ifCond .ne 7, 3) := by decide +kernel
theorem dX3_fits_55 : decode cX3_fits 55 = .ok (.iconst 1, 1) := by decide +kernel
theorem dX3_fits_56 : decode cX3_fits 56 = .ok (.goto 4, 3) := by decide +kernel
theorem dX3_fits_59 : decode cX3_fits 59 = .ok (.iconst 0, 1) := by decide +kernel
theorem dX3_fits_60 : decode cX3_fits 60 = .ok (.ireturn, 1) := by decide +kernel
theorem dX3_fits_61 : decode cX3_fits 61 = .ok (.iload_n 2, 1) := by decide +kernel
theorem dX3_fits_62 : decode cX3_fits 62 = .ok (.iconst 0, 1) := by decide +kernel
theorem dX3_fits_63 : decode cX3_fits 63 = .ok (.sipush 359, 3) := by decide +kernel
theorem dX3_fits_66 : decode cX3_fits 66 = .ok (.invokestatic 33, 3) := by decide +kernel
theorem dX3_fits_69 : decode cX3_fits 69 = .ok (.ifCond .eq 11, 3) := by decide +kernel
theorem dX3_fits_72 : decode cX3_fits 72 = .ok (.iload_n 3, 1) := by decide +kernel
theorem dX3_fits_73 : decode cX3_fits 73 = .ok (.ifCond .ne 7, 3) := by decide +kernel
theorem dX3_fits_76 : decode cX3_fits 76 = .ok (.iconst 1, 1) := by decide +kernel
theorem dX3_fits_77 : decode cX3_fits 77 = .ok (.goto 4, 3) := by decide +kernel
theorem dX3_fits_80 : decode cX3_fits 80 = .ok (.iconst 0, 1) := by decide +kernel
theorem dX3_fits_81 : decode cX3_fits 81 = .ok (.ireturn, 1) := by decide +kernel
theorem dX3_fits_82 : decode cX3_fits 82 = .ok (.iload_n 2, 1) := by decide +kernel
theorem dX3_fits_83 : decode cX3_fits 83 = .ok (.iconst 1, 1) := by decide +kernel
theorem dX3_fits_84 : decode cX3_fits 84 = .ok (.sipush 600, 3) := by decide +kernel
theorem dX3_fits_87 : decode cX3_fits 87 = .ok (.invokestatic 33, 3) := by decide +kernel
theorem dX3_fits_90 : decode cX3_fits 90 = .ok (.ifCond .eq 17, 3) := by decide +kernel
theorem dX3_fits_93 : decode cX3_fits 93 = .ok (.iload_n 3, 1) := by decide +kernel
theorem dX3_fits_94 : decode cX3_fits 94 = .ok (.iconst 0, 1) := by decide +kernel
theorem dX3_fits_95 : decode cX3_fits 95 = .ok (.bipush 7, 2) := by decide +kernel
theorem dX3_fits_97 : decode cX3_fits 97 = .ok (.invokestatic 33, 3) := by decide +kernel
theorem dX3_fits_100 : decode cX3_fits 100 = .ok (.ifCond .eq 7, 3) := by decide +kernel
theorem dX3_fits_103 : decode cX3_fits 103 = .ok (.iconst 1, 1) := by decide +kernel
theorem dX3_fits_104 : decode cX3_fits 104 = .ok (.goto 4, 3) := by decide +kernel
theorem dX3_fits_107 : decode cX3_fits 107 = .ok (.iconst 0, 1) := by decide +kernel
theorem dX3_fits_108 : decode cX3_fits 108 = .ok (.ireturn, 1) := by decide +kernel
theorem dX3_fits_109 : decode cX3_fits 109 = .ok (.iload_n 2, 1) := by decide +kernel
theorem dX3_fits_110 : decode cX3_fits 110 = .ok (.iconst 0, 1) := by decide +kernel
theorem dX3_fits_111 : decode cX3_fits 111 = .ok (.aload_n 0, 1) := by decide +kernel
theorem dX3_fits_112 : decode cX3_fits 112 = .ok (.getfield 37, 3) := by decide +kernel
theorem dX3_fits_115 : decode cX3_fits 115 = .ok (.iconst 1, 1) := by decide +kernel
theorem dX3_fits_116 : decode cX3_fits 116 = .ok (.isub, 1) := by decide +kernel
theorem dX3_fits_117 : decode cX3_fits 117 = .ok (.invokestatic 33, 3) := by decide +kernel
theorem dX3_fits_120 : decode cX3_fits 120 = .ok (.ifCond .eq 17, 3) := by decide +kernel
theorem dX3_fits_123 : decode cX3_fits 123 = .ok (.iload_n 3, 1) := by decide +kernel
theorem dX3_fits_124 : decode cX3_fits 124 = .ok (.iconst 1, 1) := by decide +kernel
theorem dX3_fits_125 : decode cX3_fits 125 = .ok (.bipush 50, 2) := by decide +kernel
theorem dX3_fits_127 : decode cX3_fits 127 = .ok (.invokestatic 33, 3) := by decide +kernel
theorem dX3_fits_130 : decode cX3_fits 130 = .ok (.ifCond .eq 7, 3) := by decide +kernel
theorem dX3_fits_133 : decode cX3_fits 133 = .ok (.iconst 1, 1) := by decide +kernel
theorem dX3_fits_134 : decode cX3_fits 134 = .ok (.goto 4, 3) := by decide +kernel
theorem dX3_fits_137 : decode cX3_fits 137 = .ok (.iconst 0, 1) := by decide +kernel
theorem dX3_fits_138 : decode cX3_fits 138 = .ok (.ireturn, 1) := by decide +kernel
theorem dX3_fits_139 : decode cX3_fits 139 = .ok (.iload_n 2, 1) := by decide +kernel
theorem dX3_fits_140 : decode cX3_fits 140 = .ok (.iconst 1, 1) := by decide +kernel
theorem dX3_fits_141 : decode cX3_fits 141 = .ok (.sipush 600, 3) := by decide +kernel
theorem dX3_fits_144 : decode cX3_fits 144 = .ok (.invokestatic 33, 3) := by decide +kernel
theorem dX3_fits_147 : decode cX3_fits 147 = .ok (.ifCond .eq 11, 3) := by decide +kernel
theorem dX3_fits_150 : decode cX3_fits 150 = .ok (.iload_n 3, 1) := by decide +kernel
theorem dX3_fits_151 : decode cX3_fits 151 = .ok (.ifCond .ne 7, 3) := by decide +kernel
theorem dX3_fits_154 : decode cX3_fits 154 = .ok (.iconst 1, 1) := by decide +kernel
theorem dX3_fits_155 : decode cX3_fits 155 = .ok (.goto 4, 3) := by decide +kernel
theorem dX3_fits_158 : decode cX3_fits 158 = .ok (.iconst 0, 1) := by decide +kernel
theorem dX3_fits_159 : decode cX3_fits 159 = .ok (.ireturn, 1) := by decide +kernel
theorem dX3_fits_160 : decode cX3_fits 160 = .ok (.iload_n 2, 1) := by decide +kernel
theorem dX3_fits_161 : decode cX3_fits 161 = .ok (.ifCond .ne 11, 3) := by decide +kernel
theorem dX3_fits_164 : decode cX3_fits 164 = .ok (.iload_n 3, 1) := by decide +kernel
theorem dX3_fits_165 : decode cX3_fits 165 = .ok (.ifCond .ne 7, 3) := by decide +kernel
theorem dX3_fits_168 : decode cX3_fits 168 = .ok (.iconst 1, 1) := by decide +kernel
theorem dX3_fits_169 : decode cX3_fits 169 = .ok (.goto 4, 3) := by decide +kernel
theorem dX3_fits_172 : decode cX3_fits 172 = .ok (.iconst 0, 1) := by decide +kernel
theorem dX3_fits_173 : decode cX3_fits 173 = .ok (.ireturn, 1) := by decide +kernel
theorem dX3_fits_174 : decode cX3_fits 174 = .ok (.iconst 0, 1) := by decide +kernel
theorem dX3_fits_175 : decode cX3_fits 175 = .ok (.ireturn, 1) := by decide +kernel
theorem dX3_add_0 : decode cX3_add 0 = .ok (.aload_n 0, 1) := by decide +kernel
theorem dX3_add_1 : decode cX3_add 1 = .ok (.getfield 37, 3) := by decide +kernel
theorem dX3_add_4 : decode cX3_add 4 = .ok (.bipush 60, 2) := by decide +kernel
theorem dX3_add_6 : decode cX3_add 6 = .ok (.if_icmp .lt 6, 3) := by decide +kernel
theorem dX3_add_9 : decode cX3_add 9 = .ok (.bipush (-3), 2) := by decide +kernel
theorem dX3_add_11 : decode cX3_add 11 = .ok (.ireturn, 1) := by decide +kernel
theorem dX3_add_12 : decode cX3_add 12 = .ok (.aload_n 0, 1) := by decide +kernel
theorem dX3_add_13 : decode cX3_add 13 = .ok (.getfield 11, 3) := by decide +kernel
theorem dX3_add_16 : decode cX3_add 16 = .ok (.aload_n 0, 1) := by decide +kernel
theorem dX3_add_17 : decode cX3_add 17 = .ok (.getfield 37, 3) := by decide +kernel
theorem dX3_add_20 : decode cX3_add 20 = .ok (.iload_n 1, 1) := by decide +kernel
theorem dX3_add_21 : decode cX3_add 21 = .ok (.iastore, 1) := by decide +kernel
theorem dX3_add_22 : decode cX3_add 22 = .ok (.aload_n 0, 1) := by decide +kernel
theorem dX3_add_23 : decode cX3_add 23 = .ok (.getfield 15, 3) := by decide +kernel
theorem dX3_add_26 : decode cX3_add 26 = .ok (.aload_n 0, 1) := by decide +kernel
theorem dX3_add_27 : decode cX3_add 27 = .ok (.getfield 37, 3) := by decide +kernel
theorem dX3_add_30 : decode cX3_add 30 = .ok (.iload_n 2, 1) := by decide +kernel
theorem dX3_add_31 : decode cX3_add 31 = .ok (.iastore, 1) := by decide +kernel
theorem dX3_add_32 : decode cX3_add 32 = .ok (.aload_n 0, 1) := by decide +kernel
theorem dX3_add_33 : decode cX3_add 33 = .ok (.getfield 18, 3) := by decide +kernel
theorem dX3_add_36 : decode cX3_add 36 = .ok (.aload_n 0, 1) := by decide +kernel
theorem dX3_add_37 : decode cX3_add 37 = .ok (.getfield 37, 3) := by decide +kernel
theorem dX3_add_40 : decode cX3_add 40 = .ok (.iload_n 3, 1) := by decide +kernel
theorem dX3_add_41 : decode cX3_add 41 = .ok (.iastore, 1) := by decide +kernel
theorem dX3_add_42 : decode cX3_add 42 = .ok (.aload_n 0, 1) := by decide +kernel
theorem dX3_add_43 : decode cX3_add 43 = .ok (.dup, 1) := by decide +kernel
theorem dX3_add_44 : decode cX3_add 44 = .ok (.getfield 37, 3) := by decide +kernel
theorem dX3_add_47 : decode cX3_add 47 = .ok (.iconst 1, 1) := by decide +kernel
theorem dX3_add_48 : decode cX3_add 48 = .ok (.iadd, 1) := by decide +kernel
theorem dX3_add_49 : decode cX3_add 49 = .ok (.putfield 37, 3) := by decide +kernel
theorem dX3_add_52 : decode cX3_add 52 = .ok (.aload_n 0, 1) := by decide +kernel
theorem dX3_add_53 : decode cX3_add 53 = .ok (.getfield 37, 3) := by decide +kernel
theorem dX3_add_56 : decode cX3_add 56 = .ok (.iconst 1, 1) := by decide +kernel
theorem dX3_add_57 : decode cX3_add 57 = .ok (.isub, 1) := by decide +kernel
theorem dX3_add_58 : decode cX3_add 58 = .ok (.ireturn, 1) := by decide +kernel
theorem dX3_isUp_0 : decode cX3_isUp 0 = .ok (.iload_n 1, 1) := by decide +kernel
theorem dX3_isUp_1 : decode cX3_isUp 1 = .ok (.ifCond .lt 9, 3) := by decide +kernel
theorem dX3_isUp_4 : decode cX3_isUp 4 = .ok (.iload_n 1, 1) := by decide +kernel
theorem dX3_isUp_5 : decode cX3_isUp 5 = .ok (.bipush 8, 2) := by decide +kernel
theorem dX3_isUp_7 : decode cX3_isUp 7 = .ok (.if_icmp .lt 5, 3) := by decide +kernel
theorem dX3_isUp_10 : decode cX3_isUp 10 = .ok (.iconst 0, 1) := by decide +kernel
theorem dX3_isUp_11 : decode cX3_isUp 11 = .ok (.ireturn, 1) := by decide +kernel
theorem dX3_isUp_12 : decode cX3_isUp 12 = .ok (.aload_n 0, 1) := by decide +kernel
theorem dX3_isUp_13 : decode cX3_isUp 13 = .ok (.getfield 21, 3) := by decide +kernel
theorem dX3_isUp_16 : decode cX3_isUp 16 = .ok (.iload_n 1, 1) := by decide +kernel
theorem dX3_isUp_17 : decode cX3_isUp 17 = .ok (.iaload, 1) := by decide +kernel
theorem dX3_isUp_18 : decode cX3_isUp 18 = .ok (.ifCond .ne 17, 3) := by decide +kernel
theorem dX3_isUp_21 : decode cX3_isUp 21 = .ok (.aload_n 0, 1) := by decide +kernel
theorem dX3_isUp_22 : decode cX3_isUp 22 = .ok (.getfield 24, 3) := by decide +kernel
theorem dX3_isUp_25 : decode cX3_isUp 25 = .ok (.iload_n 1, 1) := by decide +kernel
theorem dX3_isUp_26 : decode cX3_isUp 26 = .ok (.iaload, 1) := by decide +kernel
theorem dX3_isUp_27 : decode cX3_isUp 27 = .ok (.sipush 1440, 3) := by decide +kernel
theorem dX3_isUp_30 : decode cX3_isUp 30 = .ok (.if_icmp .ne 5, 3) := by decide +kernel
theorem dX3_isUp_33 : decode cX3_isUp 33 = .ok (.iconst 1, 1) := by decide +kernel
theorem dX3_isUp_34 : decode cX3_isUp 34 = .ok (.ireturn, 1) := by decide +kernel
theorem dX3_isUp_35 : decode cX3_isUp 35 = .ok (.iload_n 2, 1) := by decide +kernel
theorem dX3_isUp_36 : decode cX3_isUp 36 = .ok (.sipush 1440, 3) := by decide +kernel
theorem dX3_isUp_39 : decode cX3_isUp 39 = .ok (.irem, 1) := by decide +kernel
theorem dX3_isUp_40 : decode cX3_isUp 40 = .ok (.istore 4, 2) := by decide +kernel
theorem dX3_isUp_42 : decode cX3_isUp 42 = .ok (.iload 4, 2) := by decide +kernel
theorem dX3_isUp_44 : decode cX3_isUp 44 = .ok (.aload_n 0, 1) := by decide +kernel
theorem dX3_isUp_45 : decode cX3_isUp 45 = .ok (.getfield 21, 3) := by decide +kernel
theorem dX3_isUp_48 : decode cX3_isUp 48 = .ok (.iload_n 1, 1) := by decide +kernel
theorem dX3_isUp_49 : decode cX3_isUp 49 = .ok (.iaload, 1) := by decide +kernel
theorem dX3_isUp_50 : decode cX3_isUp 50 = .ok (.if_icmp .lt 20, 3) := by decide +kernel
theorem dX3_isUp_53 : decode cX3_isUp 53 = .ok (.iload 4, 2) := by decide +kernel
theorem dX3_isUp_55 : decode cX3_isUp 55 = .ok (.iload_n 3, 1) := by decide +kernel
theorem dX3_isUp_56 : decode cX3_isUp 56 = .ok (.iadd, 1) := by decide +kernel
theorem dX3_isUp_57 : decode cX3_isUp 57 = .ok (.aload_n 0, 1) := by decide +kernel
theorem dX3_isUp_58 : decode cX3_isUp 58 = .ok (.getfield 24, 3) := by decide +kernel
theorem dX3_isUp_61 : decode cX3_isUp 61 = .ok (.iload_n 1, 1) := by decide +kernel
theorem dX3_isUp_62 : decode cX3_isUp 62 = .ok (.iaload, 1) := by decide +kernel
theorem dX3_isUp_63 : decode cX3_isUp 63 = .ok (.if_icmp .gt 7, 3) := by decide +kernel
theorem dX3_isUp_66 : decode cX3_isUp 66 = .ok (.iconst 1, 1) := by decide +kernel
theorem dX3_isUp_67 : decode cX3_isUp 67 = .ok (.goto 4, 3) := by decide +kernel
theorem dX3_isUp_70 : decode cX3_isUp 70 = .ok (.iconst 0, 1) := by decide +kernel
theorem dX3_isUp_71 : decode cX3_isUp 71 = .ok (.ireturn, 1) := by decide +kernel
theorem dX4_init_0 : decode cX4_init 0 = .ok (.aload_n 0, 1) := by decide +kernel
theorem dX4_init_1 : decode cX4_init 1 = .ok (.invokespecial 3, 3) := by decide +kernel
theorem dX4_init_4 : decode cX4_init 4 = .ok (.aload_n 0, 1) := by decide +kernel
theorem dX4_init_5 : decode cX4_init 5 = .ok (.bipush 6, 2) := by decide +kernel
theorem dX4_init_7 : decode cX4_init 7 = .ok (.anewarray 11, 3) := by decide +kernel
theorem dX4_init_10 : decode cX4_init 10 = .ok (.putfield 13, 3) := by decide +kernel
theorem dX4_init_13 : decode cX4_init 13 = .ok (.aload_n 0, 1) := by decide +kernel
theorem dX4_init_14 : decode cX4_init 14 = .ok (.bipush 40, 2) := by decide +kernel
theorem dX4_init_16 : decode cX4_init 16 = .ok (.anewarray 11, 3) := by decide +kernel
theorem dX4_init_19 : decode cX4_init 19 = .ok (.putfield 17, 3) := by decide +kernel
theorem dX4_init_22 : decode cX4_init 22 = .ok (.aload_n 0, 1) := by decide +kernel
theorem dX4_init_23 : decode cX4_init 23 = .ok (.bipush 40, 2) := by decide +kernel
theorem dX4_init_25 : decode cX4_init 25 = .ok (.newarray .int, 2) := by decide +kernel
theorem dX4_init_27 : decode cX4_init 27 = .ok (.putfield 20, 3) := by decide +kernel
theorem dX4_init_30 : decode cX4_init 30 = .ok (.aload_n 0, 1) := by decide +kernel
theorem dX4_init_31 : decode cX4_init 31 = .ok (.bipush 40, 2) := by decide +kernel
theorem dX4_init_33 : decode cX4_init 33 = .ok (.newarray .int, 2) := by decide +kernel
theorem dX4_init_35 : decode cX4_init 35 = .ok (.putfield 24, 3) := by decide +kernel
theorem dX4_init_38 : decode cX4_init 38 = .ok (.return_, 1) := by decide +kernel
theorem dX4_find_0 : decode cX4_find 0 = .ok (.iload_n 1, 1) := by decide +kernel
theorem dX4_find_1 : decode cX4_find 1 = .ok (.ifCond .lt 20, 3) := by decide +kernel
theorem dX4_find_4 : decode cX4_find 4 = .ok (.iload_n 1, 1) := by decide +kernel
theorem dX4_find_5 : decode cX4_find 5 = .ok (.aload_n 0, 1) := by decide +kernel
theorem dX4_find_6 : decode cX4_find 6 = .ok (.getfield 27, 3) := by decide +kernel
theorem dX4_find_9 : decode cX4_find 9 = .ok (.if_icmp .ge 12, 3) := by decide +kernel
theorem dX4_find_12 : decode cX4_find 12 = .ok (.aload_n 0, 1) := by decide +kernel
theorem dX4_find_13 : decode cX4_find 13 = .ok (.getfield 13, 3) := by decide +kernel
theorem dX4_find_16 : decode cX4_find 16 = .ok (.iload_n 1, 1) := by decide +kernel
theorem dX4_find_17 : decode cX4_find 17 = .ok (.aaload, 1) := by decide +kernel
theorem dX4_find_18 : decode cX4_find 18 = .ok (.goto 4, 3) := by decide +kernel
theorem dX4_find_21 : decode cX4_find 21 = .ok (.aconst_null, 1) := by decide +kernel
theorem dX4_find_22 : decode cX4_find 22 = .ok (.areturn, 1) := by decide +kernel
theorem dX4_addDish_0 : decode cX4_addDish 0 = .ok (.aload_n 0, 1) := by decide +kernel
theorem dX4_addDish_1 : decode cX4_addDish 1 = .ok (.getfield 27, 3) := by decide +kernel
theorem dX4_addDish_4 : decode cX4_addDish 4 = .ok (.bipush 6, 2) := by decide +kernel
theorem dX4_addDish_6 : decode cX4_addDish 6 = .ok (.if_icmp .lt 6, 3) := by decide +kernel
theorem dX4_addDish_9 : decode cX4_addDish 9 = .ok (.bipush (-3), 2) := by decide +kernel
theorem dX4_addDish_11 : decode cX4_addDish 11 = .ok (.ireturn, 1) := by decide +kernel
theorem dX4_addDish_12 : decode cX4_addDish 12 = .ok (.aload_n 0, 1) := by decide +kernel
theorem dX4_addDish_13 : decode cX4_addDish 13 = .ok (.getfield 13, 3) := by decide +kernel
theorem dX4_addDish_16 : decode cX4_addDish 16 = .ok (.aload_n 0, 1) := by decide +kernel
theorem dX4_addDish_17 : decode cX4_addDish 17 = .ok (.getfield 27, 3) := by decide +kernel
theorem dX4_addDish_20 : decode cX4_addDish 20 = .ok (.new 11, 3) := by decide +kernel
theorem dX4_addDish_23 : decode cX4_addDish 23 = .ok (.dup, 1) := by decide +kernel
theorem dX4_addDish_24 : decode cX4_addDish 24 = .ok (.iload_n 1, 1) := by decide +kernel
theorem dX4_addDish_25 : decode cX4_addDish 25 = .ok (.iload_n 2, 1) := by decide +kernel
theorem dX4_addDish_26 : decode cX4_addDish 26 = .ok (.invokespecial 31, 3) := by decide +kernel
theorem dX4_addDish_29 : decode cX4_addDish 29 = .ok (.aastore, 1) := by decide +kernel
theorem dX4_addDish_30 : decode cX4_addDish 30 = .ok (.aload_n 0, 1) := by decide +kernel
theorem dX4_addDish_31 : decode cX4_addDish 31 = .ok (.dup, 1) := by decide +kernel
theorem dX4_addDish_32 : decode cX4_addDish 32 = .ok (.getfield 27, 3) := by decide +kernel
theorem dX4_addDish_35 : decode cX4_addDish 35 = .ok (.iconst 1, 1) := by decide +kernel
theorem dX4_addDish_36 : decode cX4_addDish 36 = .ok (.iadd, 1) := by decide +kernel
theorem dX4_addDish_37 : decode cX4_addDish 37 = .ok (.putfield 27, 3) := by decide +kernel
theorem dX4_addDish_40 : decode cX4_addDish 40 = .ok (.aload_n 0, 1) := by decide +kernel
theorem dX4_addDish_41 : decode cX4_addDish 41 = .ok (.getfield 27, 3) := by decide +kernel
theorem dX4_addDish_44 : decode cX4_addDish 44 = .ok (.iconst 1, 1) := by decide +kernel
theorem dX4_addDish_45 : decode cX4_addDish 45 = .ok (.isub, 1) := by decide +kernel
theorem dX4_addDish_46 : decode cX4_addDish 46 = .ok (.ireturn, 1) := by decide +kernel
theorem dX4_addFlag_0 : decode cX4_addFlag 0 = .ok (.aload_n 0, 1) := by decide +kernel
theorem dX4_addFlag_1 : decode cX4_addFlag 1 = .ok (.getfield 34, 3) := by decide +kernel
theorem dX4_addFlag_4 : decode cX4_addFlag 4 = .ok (.bipush 40, 2) := by decide +kernel
theorem dX4_addFlag_6 : decode cX4_addFlag 6 = .ok (.if_icmp .lt 6, 3) := by decide +kernel
theorem dX4_addFlag_9 : decode cX4_addFlag 9 = .ok (.bipush (-3), 2) := by decide +kernel
theorem dX4_addFlag_11 : decode cX4_addFlag 11 = .ok (.ireturn, 1) := by decide +kernel
theorem dX4_addFlag_12 : decode cX4_addFlag 12 = .ok (.aload_n 0, 1) := by decide +kernel
theorem dX4_addFlag_13 : decode cX4_addFlag 13 = .ok (.getfield 17, 3) := by decide +kernel
theorem dX4_addFlag_16 : decode cX4_addFlag 16 = .ok (.aload_n 0, 1) := by decide +kernel
theorem dX4_addFlag_17 : decode cX4_addFlag 17 = .ok (.getfield 34, 3) := by decide +kernel
theorem dX4_addFlag_20 : decode cX4_addFlag 20 = .ok (.aload_n 1, 1) := by decide +kernel
theorem dX4_addFlag_21 : decode cX4_addFlag 21 = .ok (.aastore, 1) := by decide +kernel
theorem dX4_addFlag_22 : decode cX4_addFlag 22 = .ok (.aload_n 0, 1) := by decide +kernel
theorem dX4_addFlag_23 : decode cX4_addFlag 23 = .ok (.getfield 20, 3) := by decide +kernel
theorem dX4_addFlag_26 : decode cX4_addFlag 26 = .ok (.aload_n 0, 1) := by decide +kernel
theorem dX4_addFlag_27 : decode cX4_addFlag 27 = .ok (.getfield 34, 3) := by decide +kernel
theorem dX4_addFlag_30 : decode cX4_addFlag 30 = .ok (.iload_n 2, 1) := by decide +kernel
theorem dX4_addFlag_31 : decode cX4_addFlag 31 = .ok (.iastore, 1) := by decide +kernel
theorem dX4_addFlag_32 : decode cX4_addFlag 32 = .ok (.aload_n 0, 1) := by decide +kernel
theorem dX4_addFlag_33 : decode cX4_addFlag 33 = .ok (.getfield 24, 3) := by decide +kernel
theorem dX4_addFlag_36 : decode cX4_addFlag 36 = .ok (.aload_n 0, 1) := by decide +kernel
theorem dX4_addFlag_37 : decode cX4_addFlag 37 = .ok (.getfield 34, 3) := by decide +kernel
theorem dX4_addFlag_40 : decode cX4_addFlag 40 = .ok (.iload_n 3, 1) := by decide +kernel
theorem dX4_addFlag_41 : decode cX4_addFlag 41 = .ok (.iastore, 1) := by decide +kernel
theorem dX4_addFlag_42 : decode cX4_addFlag 42 = .ok (.aload_n 0, 1) := by decide +kernel
theorem dX4_addFlag_43 : decode cX4_addFlag 43 = .ok (.dup, 1) := by decide +kernel
theorem dX4_addFlag_44 : decode cX4_addFlag 44 = .ok (.getfield 34, 3) := by decide +kernel
theorem dX4_addFlag_47 : decode cX4_addFlag 47 = .ok (.iconst 1, 1) := by decide +kernel
theorem dX4_addFlag_48 : decode cX4_addFlag 48 = .ok (.iadd, 1) := by decide +kernel
theorem dX4_addFlag_49 : decode cX4_addFlag 49 = .ok (.putfield 34, 3) := by decide +kernel
theorem dX4_addFlag_52 : decode cX4_addFlag 52 = .ok (.aload_n 1, 1) := by decide +kernel
theorem dX4_addFlag_53 : decode cX4_addFlag 53 = .ok (.iload_n 2, 1) := by decide +kernel
theorem dX4_addFlag_54 : decode cX4_addFlag 54 = .ok (.iload_n 3, 1) := by decide +kernel
theorem dX4_addFlag_55 : decode cX4_addFlag 55 = .ok (.iconst 1, 1) := by decide +kernel
theorem dX4_addFlag_56 : decode cX4_addFlag 56 = .ok (.invokevirtual 37, 3) := by decide +kernel
theorem dX4_addFlag_59 : decode cX4_addFlag 59 = .ok (.aload_n 0, 1) := by decide +kernel
theorem dX4_addFlag_60 : decode cX4_addFlag 60 = .ok (.getfield 34, 3) := by decide +kernel
theorem dX4_addFlag_63 : decode cX4_addFlag 63 = .ok (.ireturn, 1) := by decide +kernel
theorem dX4_removeFlag_0 : decode cX4_removeFlag 0 = .ok (.aload_n 0, 1) := by decide +kernel
theorem dX4_removeFlag_1 : decode cX4_removeFlag 1 = .ok (.getfield 34, 3) := by decide +kernel
theorem dX4_removeFlag_4 : decode cX4_removeFlag 4 = .ok (.ifCond .gt 6, 3) := by decide +kernel
theorem dX4_removeFlag_7 : decode cX4_removeFlag 7 = .ok (.bipush (-4), 2) := by decide +kernel
theorem dX4_removeFlag_9 : decode cX4_removeFlag 9 = .ok (.ireturn, 1) := by decide +kernel
theorem dX4_removeFlag_10 : decode cX4_removeFlag 10 = .ok (.aload_n 0, 1) := by decide +kernel
theorem dX4_removeFlag_11 : decode cX4_removeFlag 11 = .ok (.dup, 1) := by decide +kernel
theorem dX4_removeFlag_12 : decode cX4_removeFlag 12 = .ok (.getfield 34, 3) := by decide +kernel
theorem dX4_removeFlag_15 : decode cX4_removeFlag 15 = .ok (.iconst 1, 1) := by decide +kernel
theorem dX4_removeFlag_16 : decode cX4_removeFlag 16 = .ok (.isub, 1) := by decide +kernel
theorem dX4_removeFlag_17 : decode cX4_removeFlag 17 = .ok (.putfield 34, 3) := by decide +kernel
theorem dX4_removeFlag_20 : decode cX4_removeFlag 20 = .ok (.aload_n 0, 1) := by decide +kernel
theorem dX4_removeFlag_21 : decode cX4_removeFlag 21 = .ok (.getfield 17, 3) := by decide +kernel
theorem dX4_removeFlag_24 : decode cX4_removeFlag 24 = .ok (.aload_n 0, 1) := by decide +kernel
theorem dX4_removeFlag_25 : decode cX4_removeFlag 25 = .ok (.getfield 34, 3) := by decide +kernel
theorem dX4_removeFlag_28 : decode cX4_removeFlag 28 = .ok (.aaload, 1) := by decide +kernel
theorem dX4_removeFlag_29 : decode cX4_removeFlag 29 = .ok (.astore_n 1, 1) := by decide +kernel
theorem dX4_removeFlag_30 : decode cX4_removeFlag 30 = .ok (.aload_n 1, 1) := by decide +kernel
theorem dX4_removeFlag_31 : decode cX4_removeFlag 31 = .ok (.ifnull 26, 3) := by decide +kernel
theorem dX4_removeFlag_34 : decode cX4_removeFlag 34 = .ok (.aload_n 1, 1) := by decide +kernel
theorem dX4_removeFlag_35 : decode cX4_removeFlag 35 = .ok (.aload_n 0, 1) := by decide +kernel
theorem dX4_removeFlag_36 : decode cX4_removeFlag 36 = .ok (.getfield 20, 3) := by decide +kernel
theorem dX4_removeFlag_39 : decode cX4_removeFlag 39 = .ok (.aload_n 0, 1) := by decide +kernel
theorem dX4_removeFlag_40 : decode cX4_removeFlag 40 = .ok (.getfield 34, 3) := by decide +kernel
theorem dX4_removeFlag_43 : decode cX4_removeFlag 43 = .ok (.iaload, 1) := by decide +kernel
theorem dX4_removeFlag_44 : decode cX4_removeFlag 44 = .ok (.aload_n 0, 1) := by decide +kernel
theorem dX4_removeFlag_45 : decode cX4_removeFlag 45 = .ok (.getfield 24, 3) := by decide +kernel
theorem dX4_removeFlag_48 : decode cX4_removeFlag 48 = .ok (.aload_n 0, 1) := by decide +kernel
theorem dX4_removeFlag_49 : decode cX4_removeFlag 49 = .ok (.getfield 34, 3) := by decide +kernel
theorem dX4_removeFlag_52 : decode cX4_removeFlag 52 = .ok (.iaload, 1) := by decide +kernel
theorem dX4_removeFlag_53 : decode cX4_removeFlag 53 = .ok (.iconst (-1), 1) := by decide +kernel
theorem dX4_removeFlag_54 : decode cX4_removeFlag 54 = .ok (.invokevirtual 37, 3) := by decide +kernel
theorem dX4_removeFlag_57 : decode cX4_removeFlag 57 = .ok (.aload_n 0, 1) := by decide +kernel
theorem dX4_removeFlag_58 : decode cX4_removeFlag 58 = .ok (.getfield 34, 3) := by decide +kernel
theorem dX4_removeFlag_61 : decode cX4_removeFlag 61 = .ok (.ireturn, 1) := by decide +kernel
theorem dX5_init_0 : decode cX5_init 0 = .ok (.aload_n 0, 1) := by decide +kernel
theorem dX5_init_1 : decode cX5_init 1 = .ok (.invokespecial 3, 3) := by decide +kernel
theorem dX5_init_4 : decode cX5_init 4 = .ok (.aload_n 0, 1) := by decide +kernel
theorem dX5_init_5 : decode cX5_init 5 = .ok (.bipush 60, 2) := by decide +kernel
theorem dX5_init_7 : decode cX5_init 7 = .ok (.newarray .int, 2) := by decide +kernel
theorem dX5_init_9 : decode cX5_init 9 = .ok (.putfield 11, 3) := by decide +kernel
theorem dX5_init_12 : decode cX5_init 12 = .ok (.aload_n 0, 1) := by decide +kernel
theorem dX5_init_13 : decode cX5_init 13 = .ok (.bipush 8, 2) := by decide +kernel
theorem dX5_init_15 : decode cX5_init 15 = .ok (.newarray .int, 2) := by decide +kernel
theorem dX5_init_17 : decode cX5_init 17 = .ok (.putfield 17, 3) := by decide +kernel
theorem dX5_init_20 : decode cX5_init 20 = .ok (.aload_n 0, 1) := by decide +kernel
theorem dX5_init_21 : decode cX5_init 21 = .ok (.iconst (-1), 1) := by decide +kernel
theorem dX5_init_22 : decode cX5_init 22 = .ok (.putfield 20, 3) := by decide +kernel
theorem dX5_init_25 : decode cX5_init 25 = .ok (.return_, 1) := by decide +kernel
theorem dX5_follow_0 : decode cX5_follow 0 = .ok (.aload_n 0, 1) := by decide +kernel
theorem dX5_follow_1 : decode cX5_follow 1 = .ok (.aload_n 1, 1) := by decide +kernel
theorem dX5_follow_2 : decode cX5_follow 2 = .ok (.invokevirtual 24, 3) := by decide +kernel
theorem dX5_follow_5 : decode cX5_follow 5 = .ok (.iconst 0, 1) := by decide +kernel
theorem dX5_follow_6 : decode cX5_follow 6 = .ok (.istore_n 3, 1) := by decide +kernel
theorem dX5_follow_7 : decode cX5_follow 7 = .ok (.iconst 0, 1) := by decide +kernel
theorem dX5_follow_8 : decode cX5_follow 8 = .ok (.istore 4, 2) := by decide +kernel
theorem dX5_follow_10 : decode cX5_follow 10 = .ok (.iload 4, 2) := by decide +kernel
theorem dX5_follow_12 : decode cX5_follow 12 = .ok (.sipush 2000, 3) := by decide +kernel
theorem dX5_follow_15 : decode cX5_follow 15 = .ok (.if_icmp .gt 56, 3) := by decide +kernel
theorem dX5_follow_18 : decode cX5_follow 18 = .ok (.iload_n 3, 1) := by decide +kernel
theorem dX5_follow_19 : decode cX5_follow 19 = .ok (.aload_n 1, 1) := by decide +kernel
theorem dX5_follow_20 : decode cX5_follow 20 = .ok (.getfield 28, 3) := by decide +kernel
theorem dX5_follow_23 : decode cX5_follow 23 = .ok (.if_icmp .ge 48, 3) := by decide +kernel
theorem dX5_follow_26 : decode cX5_follow 26 = .ok (.aload_n 0, 1) := by decide +kernel
theorem dX5_follow_27 : decode cX5_follow 27 = .ok (.aload_n 1, 1) := by decide +kernel
theorem dX5_follow_28 : decode cX5_follow 28 = .ok (.iload_n 3, 1) := by decide +kernel
theorem dX5_follow_29 : decode cX5_follow 29 = .ok (.iload_n 2, 1) := by decide +kernel
theorem dX5_follow_30 : decode cX5_follow 30 = .ok (.invokevirtual 31, 3) := by decide +kernel
theorem dX5_follow_33 : decode cX5_follow 33 = .ok (.istore 5, 2) := by decide +kernel
theorem dX5_follow_35 : decode cX5_follow 35 = .ok (.iload 5, 2) := by decide +kernel
theorem dX5_follow_37 : decode cX5_follow 37 = .ok (.ifCond .eq 11, 3) := by decide +kernel
theorem dX5_follow_40 : decode cX5_follow 40 = .ok (.aload_n 0, 1) := by decide +kernel
theorem dX5_follow_41 : decode cX5_follow 41 = .ok (.iload_n 3, 1) := by decide +kernel
theorem dX5_follow_42 : decode cX5_follow 42 = .ok (.putfield 20, 3) := by decide +kernel
theorem dX5_follow_45 : decode cX5_follow 45 = .ok (.iload 5, 2) := by decide +kernel
theorem dX5_follow_47 : decode cX5_follow 47 = .ok (.ireturn, 1) := by decide +kernel
theorem dX5_follow_48 : decode cX5_follow 48 = .ok (.aload_n 0, 1) := by decide +kernel
theorem dX5_follow_49 : decode cX5_follow 49 = .ok (.aload_n 1, 1) := by decide +kernel
theorem dX5_follow_50 : decode cX5_follow 50 = .ok (.iload_n 3, 1) := by decide +kernel
theorem dX5_follow_51 : decode cX5_follow 51 = .ok (.invokevirtual 35, 3) := by decide +kernel
theorem dX5_follow_54 : decode cX5_follow 54 = .ok (.istore_n 3, 1) := by decide +kernel
theorem dX5_follow_55 : decode cX5_follow 55 = .ok (.aload_n 0, 1) := by decide +kernel
theorem dX5_follow_56 : decode cX5_follow 56 = .ok (.dup, 1) := by decide +kernel
theorem dX5_follow_57 : decode cX5_follow 57 = .ok (.getfield 39, 3) := by decide +kernel
theorem dX5_follow_60 : decode cX5_follow 60 = .ok (.iconst 1, 1) := by decide +kernel
theorem dX5_follow_61 : decode cX5_follow 61 = .ok (.iadd, 1) := by decide +kernel
theorem dX5_follow_62 : decode cX5_follow 62 = .ok (.putfield 39, 3) := by decide +kernel
theorem dX5_follow_65 : decode cX5_follow 65 = .ok (.iinc 4 1, 3) := by decide +kernel
theorem dX5_follow_68 : decode cX5_follow 68 = .ok (.goto (-58), 3) := by decide +kernel
theorem dX5_follow_71 : decode cX5_follow 71 = .ok (.iconst 0, 1) := by decide +kernel
theorem dX5_follow_72 : decode cX5_follow 72 = .ok (.ireturn, 1) := by decide +kernel
theorem dX5_startOver_0 : decode cX5_startOver 0 = .ok (.aload_n 0, 1) := by decide +kernel
theorem dX5_startOver_1 : decode cX5_startOver 1 = .ok (.iconst 0, 1) := by decide +kernel
theorem dX5_startOver_2 : decode cX5_startOver 2 = .ok (.putfield 42, 3) := by decide +kernel
theorem dX5_startOver_5 : decode cX5_startOver 5 = .ok (.aload_n 0, 1) := by decide +kernel
theorem dX5_startOver_6 : decode cX5_startOver 6 = .ok (.iconst 0, 1) := by decide +kernel
theorem dX5_startOver_7 : decode cX5_startOver 7 = .ok (.putfield 45, 3) := by decide +kernel
theorem dX5_startOver_10 : decode cX5_startOver 10 = .ok (.aload_n 0, 1) := by decide +kernel
theorem dX5_startOver_11 : decode cX5_startOver 11 = .ok (.iconst 0, 1) := by decide +kernel
theorem dX5_startOver_12 : decode cX5_startOver 12 = .ok (.putfield 48, 3) := by decide +kernel
theorem dX5_startOver_15 : decode cX5_startOver 15 = .ok (.aload_n 0, 1) := by decide +kernel
theorem dX5_startOver_16 : decode cX5_startOver 16 = .ok (.iconst 0, 1) := by decide +kernel
theorem dX5_startOver_17 : decode cX5_startOver 17 = .ok (.putfield 39, 3) := by decide +kernel
theorem dX5_startOver_20 : decode cX5_startOver 20 = .ok (.aload_n 0, 1) := by decide +kernel
theorem dX5_startOver_21 : decode cX5_startOver 21 = .ok (.iconst (-1), 1) := by decide +kernel
theorem dX5_startOver_22 : decode cX5_startOver 22 = .ok (.putfield 20, 3) := by decide +kernel
theorem dX5_startOver_25 : decode cX5_startOver 25 = .ok (.aload_n 0, 1) := by decide +kernel
theorem dX5_startOver_26 : decode cX5_startOver 26 = .ok (.iconst 0, 1) := by decide +kernel
theorem dX5_startOver_27 : decode cX5_startOver 27 = .ok (.putfield 51, 3) := by decide +kernel
theorem dX5_startOver_30 : decode cX5_startOver 30 = .ok (.aload_n 0, 1) := by decide +kernel
theorem dX5_startOver_31 : decode cX5_startOver 31 = .ok (.iconst 0, 1) := by decide +kernel
theorem dX5_startOver_32 : decode cX5_startOver 32 = .ok (.putfield 54, 3) := by decide +kernel
theorem dX5_startOver_35 : decode cX5_startOver 35 = .ok (.aload_n 0, 1) := by decide +kernel
theorem dX5_startOver_36 : decode cX5_startOver 36 = .ok (.getfield 17, 3) := by decide +kernel
theorem dX5_startOver_39 : decode cX5_startOver 39 = .ok (.iconst 0, 1) := by decide +kernel
theorem dX5_startOver_40 : decode cX5_startOver 40 = .ok (.invokestatic 57, 3) := by decide +kernel
theorem dX5_startOver_43 : decode cX5_startOver 43 = .ok (.iconst 0, 1) := by decide +kernel
theorem dX5_startOver_44 : decode cX5_startOver 44 = .ok (.istore_n 2, 1) := by decide +kernel
theorem dX5_startOver_45 : decode cX5_startOver 45 = .ok (.iload_n 2, 1) := by decide +kernel
theorem dX5_startOver_46 : decode cX5_startOver 46 = .ok (.aload_n 1, 1) := by decide +kernel
theorem dX5_startOver_47 : decode cX5_startOver 47 = .ok (.getfield 28, 3) := by decide +kernel
theorem dX5_startOver_50 : decode cX5_startOver 50 = .ok (.if_icmp .ge 21, 3) := by decide +kernel
theorem dX5_startOver_53 : decode cX5_startOver 53 = .ok (.aload_n 0, 1) := by decide +kernel
theorem dX5_startOver_54 : decode cX5_startOver 54 = .ok (.getfield 11, 3) := by decide +kernel
theorem dX5_startOver_57 : decode cX5_startOver 57 = .ok (.iload_n 2, 1) := by decide +kernel
theorem dX5_startOver_58 : decode cX5_startOver 58 = .ok (.aload_n 1, 1) := by decide +kernel
theorem dX5_startOver_59 : decode cX5_startOver 59 = .ok (.getfield 63, 3) := by decide +kernel
theorem dX5_startOver_62 : decode cX5_startOver 62 = .ok (.iload_n 2, 1) := by decide +kernel
theorem dX5_startOver_63 : decode cX5_startOver 63 = .ok (.iaload, 1) := by decide +kernel
theorem dX5_startOver_64 : decode cX5_startOver 64 = .ok (.iastore, 1) := by decide +kernel
theorem dX5_startOver_65 : decode cX5_startOver 65 = .ok (.iinc 2 1, 3) := by decide +kernel
theorem dX5_startOver_68 : decode cX5_startOver 68 = .ok (.goto (-23), 3) := by decide +kernel
theorem dX5_startOver_71 : decode cX5_startOver 71 = .ok (.return_, 1) := by decide +kernel
theorem dX5_whyNot_0 : decode cX5_whyNot 0 = .ok (.aload_n 0, 1) := by decide +kernel
theorem dX5_whyNot_1 : decode cX5_whyNot 1 = .ok (.getfield 39, 3) := by decide +kernel
theorem dX5_whyNot_4 : decode cX5_whyNot 4 = .ok (.sipush 2000, 3) := by decide +kernel
theorem dX5_whyNot_7 : decode cX5_whyNot 7 = .ok (.if_icmp .lt 5, 3) := by decide +kernel
theorem dX5_whyNot_10 : decode cX5_whyNot 10 = .ok (.iconst 3, 1) := by decide +kernel
theorem dX5_whyNot_11 : decode cX5_whyNot 11 = .ok (.ireturn, 1) := by decide +kernel
theorem dX5_whyNot_12 : decode cX5_whyNot 12 = .ok (.aload_n 0, 1) := by decide +kernel
theorem dX5_whyNot_13 : decode cX5_whyNot 13 = .ok (.aload_n 1, 1) := by decide +kernel
theorem dX5_whyNot_14 : decode cX5_whyNot 14 = .ok (.iload_n 2, 1) := by decide +kernel
theorem dX5_whyNot_15 : decode cX5_whyNot 15 = .ok (.invokevirtual 66, 3) := by decide +kernel
theorem dX5_whyNot_18 : decode cX5_whyNot 18 = .ok (.istore 4, 2) := by decide +kernel
theorem dX5_whyNot_20 : decode cX5_whyNot 20 = .ok (.aload_n 0, 1) := by decide +kernel
theorem dX5_whyNot_21 : decode cX5_whyNot 21 = .ok (.getfield 42, 3) := by decide +kernel
theorem dX5_whyNot_24 : decode cX5_whyNot 24 = .ok (.iload 4, 2) := by decide +kernel
theorem dX5_whyNot_26 : decode cX5_whyNot 26 = .ok (.iadd, 1) := by decide +kernel
theorem dX5_whyNot_27 : decode cX5_whyNot 27 = .ok (.iload_n 3, 1) := by decide +kernel
theorem dX5_whyNot_28 : decode cX5_whyNot 28 = .ok (.if_icmp .le 5, 3) := by decide +kernel
theorem dX5_whyNot_31 : decode cX5_whyNot 31 = .ok (.iconst 2, 1) := by decide +kernel
theorem dX5_whyNot_32 : decode cX5_whyNot 32 = .ok (.ireturn, 1) := by decide +kernel
theorem dX5_whyNot_33 : decode cX5_whyNot 33 = .ok (.aload_n 1, 1) := by decide +kernel
theorem dX5_whyNot_34 : decode cX5_whyNot 34 = .ok (.getfield 69, 3) := by decide +kernel
theorem dX5_whyNot_37 : decode cX5_whyNot 37 = .ok (.iload_n 2, 1) := by decide +kernel
theorem dX5_whyNot_38 : decode cX5_whyNot 38 = .ok (.iaload, 1) := by decide +kernel
theorem dX5_whyNot_39 : decode cX5_whyNot 39 = .ok (.iconst 2, 1) := by decide +kernel
theorem dX5_whyNot_40 : decode cX5_whyNot 40 = .ok (.if_icmp .eq 5, 3) := by decide +kernel
theorem dX5_whyNot_43 : decode cX5_whyNot 43 = .ok (.iconst 0, 1) := by decide +kernel
theorem dX5_whyNot_44 : decode cX5_whyNot 44 = .ok (.ireturn, 1) := by decide +kernel
theorem dX5_whyNot_45 : decode cX5_whyNot 45 = .ok (.aload_n 1, 1) := by decide +kernel
theorem dX5_whyNot_46 : decode cX5_whyNot 46 = .ok (.aload_n 1, 1) := by decide +kernel
theorem dX5_whyNot_47 : decode cX5_whyNot 47 = .ok (.getfield 63, 3) := by decide +kernel
theorem dX5_whyNot_50 : decode cX5_whyNot 50 = .ok (.iload_n 2, 1) := by decide +kernel
theorem dX5_whyNot_51 : decode cX5_whyNot 51 = .ok (.iaload, 1) := by decide +kernel
theorem dX5_whyNot_52 : decode cX5_whyNot 52 = .ok (.aload_n 0, 1) := by decide +kernel
theorem dX5_whyNot_53 : decode cX5_whyNot 53 = .ok (.getfield 42, 3) := by decide +kernel
theorem dX5_whyNot_56 : decode cX5_whyNot 56 = .ok (.iload 4, 2) := by decide +kernel
theorem dX5_whyNot_58 : decode cX5_whyNot 58 = .ok (.invokevirtual 72, 3) := by decide +kernel
theorem dX5_whyNot_61 : decode cX5_whyNot 61 = .ok (.ifCond .eq 7, 3) := by decide +kernel
theorem dX5_whyNot_64 : decode cX5_whyNot 64 = .ok (.iconst 0, 1) := by decide +kernel
theorem dX5_whyNot_65 : decode cX5_whyNot 65 = .ok (.goto 4, 3) := by decide +kernel
theorem dX5_whyNot_68 : decode cX5_whyNot 68 = .ok (.iconst 1, 1) := by decide +kernel
theorem dX5_whyNot_69 : decode cX5_whyNot 69 = .ok (.ireturn, 1) := by decide +kernel
theorem dX5_minutesOf_0 : decode cX5_minutesOf 0 = .ok (.aload_n 1, 1) := by decide +kernel
theorem dX5_minutesOf_1 : decode cX5_minutesOf 1 = .ok (.getfield 69, 3) := by decide +kernel
theorem dX5_minutesOf_4 : decode cX5_minutesOf 4 = .ok (.iload_n 2, 1) := by decide +kernel
theorem dX5_minutesOf_5 : decode cX5_minutesOf 5 = .ok (.iaload, 1) := by decide +kernel
theorem dX5_minutesOf_6 : decode cX5_minutesOf 6 = .ok (.tableswitch 56 0 5 #[38, 45, 38, 56, 56, 45], 38) := by decide +kernel
theorem dX5_minutesOf_44 : decode cX5_minutesOf 44 = .ok (.aload_n 1, 1) := by decide +kernel
theorem dX5_minutesOf_45 : decode cX5_minutesOf 45 = .ok (.getfield 76, 3) := by decide +kernel
theorem dX5_minutesOf_48 : decode cX5_minutesOf 48 = .ok (.iload_n 2, 1) := by decide +kernel
theorem dX5_minutesOf_49 : decode cX5_minutesOf 49 = .ok (.iaload, 1) := by decide +kernel
theorem dX5_minutesOf_50 : decode cX5_minutesOf 50 = .ok (.ireturn, 1) := by decide +kernel
theorem dX5_minutesOf_51 : decode cX5_minutesOf 51 = .ok (.aload_n 0, 1) := by decide +kernel
theorem dX5_minutesOf_52 : decode cX5_minutesOf 52 = .ok (.aload_n 1, 1) := by decide +kernel
theorem dX5_minutesOf_53 : decode cX5_minutesOf 53 = .ok (.getfield 76, 3) := by decide +kernel
theorem dX5_minutesOf_56 : decode cX5_minutesOf 56 = .ok (.iload_n 2, 1) := by decide +kernel
theorem dX5_minutesOf_57 : decode cX5_minutesOf 57 = .ok (.iaload, 1) := by decide +kernel
theorem dX5_minutesOf_58 : decode cX5_minutesOf 58 = .ok (.invokevirtual 79, 3) := by decide +kernel
theorem dX5_minutesOf_61 : decode cX5_minutesOf 61 = .ok (.ireturn, 1) := by decide +kernel
theorem dX5_minutesOf_62 : decode cX5_minutesOf 62 = .ok (.iconst 0, 1) := by decide +kernel
theorem dX5_minutesOf_63 : decode cX5_minutesOf 63 = .ok (.ireturn, 1) := by decide +kernel
theorem dX5_turnTo_0 : decode cX5_turnTo 0 = .ok (.iload_n 1, 1) := by decide +kernel
theorem dX5_turnTo_1 : decode cX5_turnTo 1 = .ok (.aload_n 0, 1) := by decide +kernel
theorem dX5_turnTo_2 : decode cX5_turnTo 2 = .ok (.getfield 45, 3) := by decide +kernel
theorem dX5_turnTo_5 : decode cX5_turnTo 5 = .ok (.isub, 1) := by decide +kernel
theorem dX5_turnTo_6 : decode cX5_turnTo 6 = .ok (.invokestatic 83, 3) := by decide +kernel
theorem dX5_turnTo_9 : decode cX5_turnTo 9 = .ok (.istore_n 2, 1) := by decide +kernel
theorem dX5_turnTo_10 : decode cX5_turnTo 10 = .ok (.iload_n 2, 1) := by decide +kernel
theorem dX5_turnTo_11 : decode cX5_turnTo 11 = .ok (.sipush 360, 3) := by decide +kernel
theorem dX5_turnTo_14 : decode cX5_turnTo 14 = .ok (.iload_n 2, 1) := by decide +kernel
theorem dX5_turnTo_15 : decode cX5_turnTo 15 = .ok (.isub, 1) := by decide +kernel
theorem dX5_turnTo_16 : decode cX5_turnTo 16 = .ok (.invokestatic 88, 3) := by decide +kernel
theorem dX5_turnTo_19 : decode cX5_turnTo 19 = .ok (.istore_n 3, 1) := by decide +kernel
theorem dX5_turnTo_20 : decode cX5_turnTo 20 = .ok (.iload_n 3, 1) := by decide +kernel
theorem dX5_turnTo_21 : decode cX5_turnTo 21 = .ok (.iconst 5, 1) := by decide +kernel
theorem dX5_turnTo_22 : decode cX5_turnTo 22 = .ok (.iadd, 1) := by decide +kernel
theorem dX5_turnTo_23 : decode cX5_turnTo 23 = .ok (.bipush 6, 2) := by decide +kernel
theorem dX5_turnTo_25 : decode cX5_turnTo 25 = .ok (.idiv, 1) := by decide +kernel
theorem dX5_turnTo_26 : decode cX5_turnTo 26 = .ok (.ireturn, 1) := by decide +kernel
theorem dX5_perform_0 : decode cX5_perform 0 = .ok (.aload_n 0, 1) := by decide +kernel
theorem dX5_perform_1 : decode cX5_perform 1 = .ok (.aload_n 1, 1) := by decide +kernel
theorem dX5_perform_2 : decode cX5_perform 2 = .ok (.iload_n 2, 1) := by decide +kernel
theorem dX5_perform_3 : decode cX5_perform 3 = .ok (.invokevirtual 66, 3) := by decide +kernel
theorem dX5_perform_6 : decode cX5_perform 6 = .ok (.istore_n 3, 1) := by decide +kernel
theorem dX5_perform_7 : decode cX5_perform 7 = .ok (.aload_n 1, 1) := by decide +kernel
theorem dX5_perform_8 : decode cX5_perform 8 = .ok (.getfield 69, 3) := by decide +kernel
theorem dX5_perform_11 : decode cX5_perform 11 = .ok (.iload_n 2, 1) := by decide +kernel
theorem dX5_perform_12 : decode cX5_perform 12 = .ok (.iaload, 1) := by decide +kernel
theorem dX5_perform_13 : decode cX5_perform 13 = .ok (.tableswitch 104 1 5 #[35, 58, 72, 79, 35], 35) := by decide +kernel
theorem dX5_perform_48 : decode cX5_perform 48 = .ok (.aload_n 0, 1) := by decide +kernel
theorem dX5_perform_49 : decode cX5_perform 49 = .ok (.dup, 1) := by decide +kernel
theorem dX5_perform_50 : decode cX5_perform 50 = .ok (.getfield 51, 3) := by decide +kernel
theorem dX5_perform_53 : decode cX5_perform 53 = .ok (.iload_n 3, 1) := by decide +kernel
theorem dX5_perform_54 : decode cX5_perform 54 = .ok (.iadd, 1) := by decide +kernel
theorem dX5_perform_55 : decode cX5_perform 55 = .ok (.putfield 51, 3) := by decide +kernel
theorem dX5_perform_58 : decode cX5_perform 58 = .ok (.aload_n 0, 1) := by decide +kernel
theorem dX5_perform_59 : decode cX5_perform 59 = .ok (.aload_n 1, 1) := by decide +kernel
theorem dX5_perform_60 : decode cX5_perform 60 = .ok (.getfield 76, 3) := by decide +kernel
theorem dX5_perform_63 : decode cX5_perform 63 = .ok (.iload_n 2, 1) := by decide +kernel
theorem dX5_perform_64 : decode cX5_perform 64 = .ok (.iaload, 1) := by decide +kernel
theorem dX5_perform_65 : decode cX5_perform 65 = .ok (.putfield 45, 3) := by decide +kernel
theorem dX5_perform_68 : decode cX5_perform 68 = .ok (.goto 49, 3) := by decide +kernel
theorem dX5_perform_71 : decode cX5_perform 71 = .ok (.aload_n 0, 1) := by decide +kernel
theorem dX5_perform_72 : decode cX5_perform 72 = .ok (.aload_n 1, 1) := by decide +kernel
theorem dX5_perform_73 : decode cX5_perform 73 = .ok (.getfield 63, 3) := by decide +kernel
theorem dX5_perform_76 : decode cX5_perform 76 = .ok (.iload_n 2, 1) := by decide +kernel
theorem dX5_perform_77 : decode cX5_perform 77 = .ok (.iaload, 1) := by decide +kernel
theorem dX5_perform_78 : decode cX5_perform 78 = .ok (.iload_n 3, 1) := by decide +kernel
theorem dX5_perform_79 : decode cX5_perform 79 = .ok (.invokevirtual 92, 3) := by decide +kernel
theorem dX5_perform_82 : decode cX5_perform 82 = .ok (.goto 35, 3) := by decide +kernel
theorem dX5_perform_85 : decode cX5_perform 85 = .ok (.aload_n 0, 1) := by decide +kernel
theorem dX5_perform_86 : decode cX5_perform 86 = .ok (.aload_n 1, 1) := by decide +kernel
theorem dX5_perform_87 : decode cX5_perform 87 = .ok (.iload_n 2, 1) := by decide +kernel
theorem dX5_perform_88 : decode cX5_perform 88 = .ok (.invokevirtual 96, 3) := by decide +kernel
theorem dX5_perform_91 : decode cX5_perform 91 = .ok (.ireturn, 1) := by decide +kernel
theorem dX5_perform_92 : decode cX5_perform 92 = .ok (.aload_n 0, 1) := by decide +kernel
theorem dX5_perform_93 : decode cX5_perform 93 = .ok (.aload_n 0, 1) := by decide +kernel
theorem dX5_perform_94 : decode cX5_perform 94 = .ok (.getfield 54, 3) := by decide +kernel
theorem dX5_perform_97 : decode cX5_perform 97 = .ok (.aload_n 0, 1) := by decide +kernel
theorem dX5_perform_98 : decode cX5_perform 98 = .ok (.getfield 42, 3) := by decide +kernel
theorem dX5_perform_101 : decode cX5_perform 101 = .ok (.aload_n 1, 1) := by decide +kernel
theorem dX5_perform_102 : decode cX5_perform 102 = .ok (.getfield 76, 3) := by decide +kernel
theorem dX5_perform_105 : decode cX5_perform 105 = .ok (.iload_n 2, 1) := by decide +kernel
theorem dX5_perform_106 : decode cX5_perform 106 = .ok (.iaload, 1) := by decide +kernel
theorem dX5_perform_107 : decode cX5_perform 107 = .ok (.iadd, 1) := by decide +kernel
theorem dX5_perform_108 : decode cX5_perform 108 = .ok (.invokestatic 99, 3) := by decide +kernel
theorem dX5_perform_111 : decode cX5_perform 111 = .ok (.putfield 54, 3) := by decide +kernel
theorem dX5_perform_114 : decode cX5_perform 114 = .ok (.goto 3, 3) := by decide +kernel
theorem dX5_perform_117 : decode cX5_perform 117 = .ok (.aload_n 0, 1) := by decide +kernel
theorem dX5_perform_118 : decode cX5_perform 118 = .ok (.dup, 1) := by decide +kernel
theorem dX5_perform_119 : decode cX5_perform 119 = .ok (.getfield 42, 3) := by decide +kernel
theorem dX5_perform_122 : decode cX5_perform 122 = .ok (.iload_n 3, 1) := by decide +kernel
theorem dX5_perform_123 : decode cX5_perform 123 = .ok (.iadd, 1) := by decide +kernel
theorem dX5_perform_124 : decode cX5_perform 124 = .ok (.putfield 42, 3) := by decide +kernel
theorem dX5_perform_127 : decode cX5_perform 127 = .ok (.iload_n 2, 1) := by decide +kernel
theorem dX5_perform_128 : decode cX5_perform 128 = .ok (.iconst 1, 1) := by decide +kernel
theorem dX5_perform_129 : decode cX5_perform 129 = .ok (.iadd, 1) := by decide +kernel
theorem dX5_perform_130 : decode cX5_perform 130 = .ok (.ireturn, 1) := by decide +kernel
theorem dX5_watch_0 : decode cX5_watch 0 = .ok (.iload_n 1, 1) := by decide +kernel
theorem dX5_watch_1 : decode cX5_watch 1 = .ok (.ifCond .lt 9, 3) := by decide +kernel
theorem dX5_watch_4 : decode cX5_watch 4 = .ok (.iload_n 1, 1) := by decide +kernel
theorem dX5_watch_5 : decode cX5_watch 5 = .ok (.bipush 8, 2) := by decide +kernel
theorem dX5_watch_7 : decode cX5_watch 7 = .ok (.if_icmp .lt 4, 3) := by decide +kernel
theorem dX5_watch_10 : decode cX5_watch 10 = .ok (.return_, 1) := by decide +kernel
theorem dX5_watch_11 : decode cX5_watch 11 = .ok (.iconst 0, 1) := by decide +kernel
theorem dX5_watch_12 : decode cX5_watch 12 = .ok (.aload_n 0, 1) := by decide +kernel
theorem dX5_watch_13 : decode cX5_watch 13 = .ok (.getfield 54, 3) := by decide +kernel
theorem dX5_watch_16 : decode cX5_watch 16 = .ok (.aload_n 0, 1) := by decide +kernel
theorem dX5_watch_17 : decode cX5_watch 17 = .ok (.getfield 42, 3) := by decide +kernel
theorem dX5_watch_20 : decode cX5_watch 20 = .ok (.isub, 1) := by decide +kernel
theorem dX5_watch_21 : decode cX5_watch 21 = .ok (.iload_n 2, 1) := by decide +kernel
theorem dX5_watch_22 : decode cX5_watch 22 = .ok (.invokestatic 88, 3) := by decide +kernel
theorem dX5_watch_25 : decode cX5_watch 25 = .ok (.invokestatic 99, 3) := by decide +kernel
theorem dX5_watch_28 : decode cX5_watch 28 = .ok (.istore_n 3, 1) := by decide +kernel
theorem dX5_watch_29 : decode cX5_watch 29 = .ok (.aload_n 0, 1) := by decide +kernel
theorem dX5_watch_30 : decode cX5_watch 30 = .ok (.dup, 1) := by decide +kernel
theorem dX5_watch_31 : decode cX5_watch 31 = .ok (.getfield 48, 3) := by decide +kernel
theorem dX5_watch_34 : decode cX5_watch 34 = .ok (.iload_n 2, 1) := by decide +kernel
theorem dX5_watch_35 : decode cX5_watch 35 = .ok (.iload_n 3, 1) := by decide +kernel
theorem dX5_watch_36 : decode cX5_watch 36 = .ok (.isub, 1) := by decide +kernel
theorem dX5_watch_37 : decode cX5_watch 37 = .ok (.iadd, 1) := by decide +kernel
theorem dX5_watch_38 : decode cX5_watch 38 = .ok (.putfield 48, 3) := by decide +kernel
theorem dX5_watch_41 : decode cX5_watch 41 = .ok (.aload_n 0, 1) := by decide +kernel
theorem dX5_watch_42 : decode cX5_watch 42 = .ok (.getfield 17, 3) := by decide +kernel
theorem dX5_watch_45 : decode cX5_watch 45 = .ok (.iload_n 1, 1) := by decide +kernel
theorem dX5_watch_46 : decode cX5_watch 46 = .ok (.dup2, 1) := by decide +kernel
theorem dX5_watch_47 : decode cX5_watch 47 = .ok (.iaload, 1) := by decide +kernel
theorem dX5_watch_48 : decode cX5_watch 48 = .ok (.iload_n 2, 1) := by decide +kernel
theorem dX5_watch_49 : decode cX5_watch 49 = .ok (.iload_n 3, 1) := by decide +kernel
theorem dX5_watch_50 : decode cX5_watch 50 = .ok (.isub, 1) := by decide +kernel
theorem dX5_watch_51 : decode cX5_watch 51 = .ok (.iadd, 1) := by decide +kernel
theorem dX5_watch_52 : decode cX5_watch 52 = .ok (.iastore, 1) := by decide +kernel
theorem dX5_watch_53 : decode cX5_watch 53 = .ok (.return_, 1) := by decide +kernel
theorem dX5_repeat_0 : decode cX5_repeat 0 = .ok (.aload_n 0, 1) := by decide +kernel
theorem dX5_repeat_1 : decode cX5_repeat 1 = .ok (.getfield 11, 3) := by decide +kernel
theorem dX5_repeat_4 : decode cX5_repeat 4 = .ok (.iload_n 2, 1) := by decide +kernel
theorem dX5_repeat_5 : decode cX5_repeat 5 = .ok (.iaload, 1) := by decide +kernel
theorem dX5_repeat_6 : decode cX5_repeat 6 = .ok (.ifCond .le 20, 3) := by decide +kernel
theorem dX5_repeat_9 : decode cX5_repeat 9 = .ok (.aload_n 0, 1) := by decide +kernel
theorem dX5_repeat_10 : decode cX5_repeat 10 = .ok (.getfield 11, 3) := by decide +kernel
theorem dX5_repeat_13 : decode cX5_repeat 13 = .ok (.iload_n 2, 1) := by decide +kernel
theorem dX5_repeat_14 : decode cX5_repeat 14 = .ok (.dup2, 1) := by decide +kernel
theorem dX5_repeat_15 : decode cX5_repeat 15 = .ok (.iaload, 1) := by decide +kernel
theorem dX5_repeat_16 : decode cX5_repeat 16 = .ok (.iconst 1, 1) := by decide +kernel
theorem dX5_repeat_17 : decode cX5_repeat 17 = .ok (.isub, 1) := by decide +kernel
theorem dX5_repeat_18 : decode cX5_repeat 18 = .ok (.iastore, 1) := by decide +kernel
theorem dX5_repeat_19 : decode cX5_repeat 19 = .ok (.aload_n 1, 1) := by decide +kernel
theorem dX5_repeat_20 : decode cX5_repeat 20 = .ok (.getfield 76, 3) := by decide +kernel
theorem dX5_repeat_23 : decode cX5_repeat 23 = .ok (.iload_n 2, 1) := by decide +kernel
theorem dX5_repeat_24 : decode cX5_repeat 24 = .ok (.iaload, 1) := by decide +kernel
theorem dX5_repeat_25 : decode cX5_repeat 25 = .ok (.ireturn, 1) := by decide +kernel
theorem dX5_repeat_26 : decode cX5_repeat 26 = .ok (.aload_n 0, 1) := by decide +kernel
theorem dX5_repeat_27 : decode cX5_repeat 27 = .ok (.getfield 11, 3) := by decide +kernel
theorem dX5_repeat_30 : decode cX5_repeat 30 = .ok (.iload_n 2, 1) := by decide +kernel
theorem dX5_repeat_31 : decode cX5_repeat 31 = .ok (.aload_n 1, 1) := by decide +kernel
theorem dX5_repeat_32 : decode cX5_repeat 32 = .ok (.getfield 63, 3) := by decide +kernel
theorem dX5_repeat_35 : decode cX5_repeat 35 = .ok (.iload_n 2, 1) := by decide +kernel
theorem dX5_repeat_36 : decode cX5_repeat 36 = .ok (.iaload, 1) := by decide +kernel
theorem dX5_repeat_37 : decode cX5_repeat 37 = .ok (.iastore, 1) := by decide +kernel
theorem dX5_repeat_38 : decode cX5_repeat 38 = .ok (.iload_n 2, 1) := by decide +kernel
theorem dX5_repeat_39 : decode cX5_repeat 39 = .ok (.iconst 1, 1) := by decide +kernel
theorem dX5_repeat_40 : decode cX5_repeat 40 = .ok (.iadd, 1) := by decide +kernel
theorem dX5_repeat_41 : decode cX5_repeat 41 = .ok (.ireturn, 1) := by decide +kernel
theorem dX6_init_0 : decode cX6_init 0 = .ok (.aload_n 0, 1) := by decide +kernel
theorem dX6_init_1 : decode cX6_init 1 = .ok (.invokespecial 1, 3) := by decide +kernel
theorem dX6_init_4 : decode cX6_init 4 = .ok (.aload_n 0, 1) := by decide +kernel
theorem dX6_init_5 : decode cX6_init 5 = .ok (.bipush 15, 2) := by decide +kernel
theorem dX6_init_7 : decode cX6_init 7 = .ok (.newarray .int, 2) := by decide +kernel
theorem dX6_init_9 : decode cX6_init 9 = .ok (.putfield 9, 3) := by decide +kernel
theorem dX6_init_12 : decode cX6_init 12 = .ok (.aload_n 0, 1) := by decide +kernel
theorem dX6_init_13 : decode cX6_init 13 = .ok (.bipush 15, 2) := by decide +kernel
theorem dX6_init_15 : decode cX6_init 15 = .ok (.newarray .int, 2) := by decide +kernel
theorem dX6_init_17 : decode cX6_init 17 = .ok (.putfield 13, 3) := by decide +kernel
theorem dX6_init_20 : decode cX6_init 20 = .ok (.aload_n 0, 1) := by decide +kernel
theorem dX6_init_21 : decode cX6_init 21 = .ok (.bipush 15, 2) := by decide +kernel
theorem dX6_init_23 : decode cX6_init 23 = .ok (.newarray .long, 2) := by decide +kernel
theorem dX6_init_25 : decode cX6_init 25 = .ok (.putfield 16, 3) := by decide +kernel
theorem dX6_init_28 : decode cX6_init 28 = .ok (.return_, 1) := by decide +kernel
theorem dX6_gather_0 : decode cX6_gather 0 = .ok (.aload_n 0, 1) := by decide +kernel
theorem dX6_gather_1 : decode cX6_gather 1 = .ok (.iconst 0, 1) := by decide +kernel
theorem dX6_gather_2 : decode cX6_gather 2 = .ok (.putfield 20, 3) := by decide +kernel
theorem dX6_gather_5 : decode cX6_gather 5 = .ok (.iconst 0, 1) := by decide +kernel
theorem dX6_gather_6 : decode cX6_gather 6 = .ok (.istore_n 2, 1) := by decide +kernel
theorem dX6_gather_7 : decode cX6_gather 7 = .ok (.iload_n 2, 1) := by decide +kernel
theorem dX6_gather_8 : decode cX6_gather 8 = .ok (.aload_n 1, 1) := by decide +kernel
theorem dX6_gather_9 : decode cX6_gather 9 = .ok (.getfield 24, 3) := by decide +kernel
theorem dX6_gather_12 : decode cX6_gather 12 = .ok (.if_icmp .ge 41, 3) := by decide +kernel
theorem dX6_gather_15 : decode cX6_gather 15 = .ok (.iload_n 2, 1) := by decide +kernel
theorem dX6_gather_16 : decode cX6_gather 16 = .ok (.iconst 1, 1) := by decide +kernel
theorem dX6_gather_17 : decode cX6_gather 17 = .ok (.iadd, 1) := by decide +kernel
theorem dX6_gather_18 : decode cX6_gather 18 = .ok (.istore_n 3, 1) := by decide +kernel
theorem dX6_gather_19 : decode cX6_gather 19 = .ok (.iload_n 3, 1) := by decide +kernel
theorem dX6_gather_20 : decode cX6_gather 20 = .ok (.aload_n 1, 1) := by decide +kernel
theorem dX6_gather_21 : decode cX6_gather 21 = .ok (.getfield 24, 3) := by decide +kernel
theorem dX6_gather_24 : decode cX6_gather 24 = .ok (.if_icmp .ge 23, 3) := by decide +kernel
theorem dX6_gather_27 : decode cX6_gather 27 = .ok (.aload_n 0, 1) := by decide +kernel
theorem dX6_gather_28 : decode cX6_gather 28 = .ok (.aload_n 1, 1) := by decide +kernel
theorem dX6_gather_29 : decode cX6_gather 29 = .ok (.iload_n 2, 1) := by decide +kernel
theorem dX6_gather_30 : decode cX6_gather 30 = .ok (.invokevirtual 27, 3) := by decide +kernel
theorem dX6_gather_33 : decode cX6_gather 33 = .ok (.aload_n 1, 1) := by decide +kernel
theorem dX6_gather_34 : decode cX6_gather 34 = .ok (.iload_n 3, 1) := by decide +kernel
theorem dX6_gather_35 : decode cX6_gather 35 = .ok (.invokevirtual 27, 3) := by decide +kernel
theorem dX6_gather_38 : decode cX6_gather 38 = .ok (.invokevirtual 31, 3) := by decide +kernel
theorem dX6_gather_41 : decode cX6_gather 41 = .ok (.iinc 3 1, 3) := by decide +kernel
theorem dX6_gather_44 : decode cX6_gather 44 = .ok (.goto (-25), 3) := by decide +kernel
theorem dX6_gather_47 : decode cX6_gather 47 = .ok (.iinc 2 1, 3) := by decide +kernel
theorem dX6_gather_50 : decode cX6_gather 50 = .ok (.goto (-43), 3) := by decide +kernel
theorem dX6_gather_53 : decode cX6_gather 53 = .ok (.return_, 1) := by decide +kernel
theorem dX6_addPair_0 : decode cX6_addPair 0 = .ok (.aload_n 1, 1) := by decide +kernel
theorem dX6_addPair_1 : decode cX6_addPair 1 = .ok (.ifnull 16, 3) := by decide +kernel
theorem dX6_addPair_4 : decode cX6_addPair 4 = .ok (.aload_n 2, 1) := by decide +kernel
theorem dX6_addPair_5 : decode cX6_addPair 5 = .ok (.ifnull 12, 3) := by decide +kernel
theorem dX6_addPair_8 : decode cX6_addPair 8 = .ok (.aload_n 0, 1) := by decide +kernel
theorem dX6_addPair_9 : decode cX6_addPair 9 = .ok (.getfield 20, 3) := by decide +kernel
theorem dX6_addPair_12 : decode cX6_addPair 12 = .ok (.bipush 15, 2) := by decide +kernel
theorem dX6_addPair_14 : decode cX6_addPair 14 = .ok (.if_icmp .lt 4, 3) := by decide +kernel
theorem dX6_addPair_17 : decode cX6_addPair 17 = .ok (.return_, 1) := by decide +kernel
theorem dX6_addPair_18 : decode cX6_addPair 18 = .ok (.aload_n 1, 1) := by decide +kernel
theorem dX6_addPair_19 : decode cX6_addPair 19 = .ok (.aload_n 2, 1) := by decide +kernel
theorem dX6_addPair_20 : decode cX6_addPair 20 = .ok (.invokevirtual 35, 3) := by decide +kernel
theorem dX6_addPair_23 : decode cX6_addPair 23 = .ok (.ifCond .ne 4, 3) := by decide +kernel
theorem dX6_addPair_26 : decode cX6_addPair 26 = .ok (.return_, 1) := by decide +kernel
theorem dX6_addPair_27 : decode cX6_addPair 27 = .ok (.aload_n 0, 1) := by decide +kernel
theorem dX6_addPair_28 : decode cX6_addPair 28 = .ok (.getfield 9, 3) := by decide +kernel
theorem dX6_addPair_31 : decode cX6_addPair 31 = .ok (.aload_n 0, 1) := by decide +kernel
theorem dX6_addPair_32 : decode cX6_addPair 32 = .ok (.getfield 20, 3) := by decide +kernel
theorem dX6_addPair_35 : decode cX6_addPair 35 = .ok (.aload_n 2, 1) := by decide +kernel
theorem dX6_addPair_36 : decode cX6_addPair 36 = .ok (.getfield 41, 3) := by decide +kernel
theorem dX6_addPair_39 : decode cX6_addPair 39 = .ok (.aload_n 1, 1) := by decide +kernel
theorem dX6_addPair_40 : decode cX6_addPair 40 = .ok (.getfield 41, 3) := by decide +kernel
theorem dX6_addPair_43 : decode cX6_addPair 43 = .ok (.isub, 1) := by decide +kernel
theorem dX6_addPair_44 : decode cX6_addPair 44 = .ok (.iastore, 1) := by decide +kernel
theorem dX6_addPair_45 : decode cX6_addPair 45 = .ok (.aload_n 0, 1) := by decide +kernel
theorem dX6_addPair_46 : decode cX6_addPair 46 = .ok (.getfield 13, 3) := by decide +kernel
theorem dX6_addPair_49 : decode cX6_addPair 49 = .ok (.aload_n 0, 1) := by decide +kernel
theorem dX6_addPair_50 : decode cX6_addPair 50 = .ok (.getfield 20, 3) := by decide +kernel
theorem dX6_addPair_53 : decode cX6_addPair 53 = .ok (.aload_n 2, 1) := by decide +kernel
theorem dX6_addPair_54 : decode cX6_addPair 54 = .ok (.getfield 44, 3) := by decide +kernel
theorem dX6_addPair_57 : decode cX6_addPair 57 = .ok (.aload_n 1, 1) := by decide +kernel
theorem dX6_addPair_58 : decode cX6_addPair 58 = .ok (.getfield 44, 3) := by decide +kernel
theorem dX6_addPair_61 : decode cX6_addPair 61 = .ok (.isub, 1) := by decide +kernel
theorem dX6_addPair_62 : decode cX6_addPair 62 = .ok (.iastore, 1) := by decide +kernel
theorem dX6_addPair_63 : decode cX6_addPair 63 = .ok (.aload_n 0, 1) := by decide +kernel
theorem dX6_addPair_64 : decode cX6_addPair 64 = .ok (.getfield 16, 3) := by decide +kernel
theorem dX6_addPair_67 : decode cX6_addPair 67 = .ok (.aload_n 0, 1) := by decide +kernel
theorem dX6_addPair_68 : decode cX6_addPair 68 = .ok (.getfield 20, 3) := by decide +kernel
theorem dX6_addPair_71 : decode cX6_addPair 71 = .ok (.aload_n 1, 1) := by decide +kernel
theorem dX6_addPair_72 : decode cX6_addPair 72 = .ok (.aload_n 2, 1) := by decide +kernel
theorem dX6_addPair_73 : decode cX6_addPair 73 = .ok (.aload_n 2, 1) := by decide +kernel
theorem dX6_addPair_74 : decode cX6_addPair 74 = .ok (.getfield 47, 3) := by decide +kernel
theorem dX6_addPair_77 : decode cX6_addPair 77 = .ok (.invokevirtual 50, 3) := by decide +kernel
theorem dX6_addPair_80 : decode cX6_addPair 80 = .ok (.lastore, 1) := by decide +kernel
theorem dX6_addPair_81 : decode cX6_addPair 81 = .ok (.aload_n 0, 1) := by decide +kernel
theorem dX6_addPair_82 : decode cX6_addPair 82 = .ok (.dup, 1) := by decide +kernel
theorem dX6_addPair_83 : decode cX6_addPair 83 = .ok (.getfield 20, 3) := by decide +kernel
theorem dX6_addPair_86 : decode cX6_addPair 86 = .ok (.iconst 1, 1) := by decide +kernel
theorem dX6_addPair_87 : decode cX6_addPair 87 = .ok (.iadd, 1) := by decide +kernel
theorem dX6_addPair_88 : decode cX6_addPair 88 = .ok (.putfield 20, 3) := by decide +kernel
theorem dX6_addPair_91 : decode cX6_addPair 91 = .ok (.return_, 1) := by decide +kernel
theorem dX6_waveOf_0 : decode cX6_waveOf 0 = .ok (.getstatic 54, 3) := by decide +kernel
theorem dX6_waveOf_3 : decode cX6_waveOf 3 = .ok (.aload_n 0, 1) := by decide +kernel
theorem dX6_waveOf_4 : decode cX6_waveOf 4 = .ok (.getfield 9, 3) := by decide +kernel
theorem dX6_waveOf_7 : decode cX6_waveOf 7 = .ok (.iload_n 1, 1) := by decide +kernel
theorem dX6_waveOf_8 : decode cX6_waveOf 8 = .ok (.iaload, 1) := by decide +kernel
theorem dX6_waveOf_9 : decode cX6_waveOf 9 = .ok (.iload_n 2, 1) := by decide +kernel
theorem dX6_waveOf_10 : decode cX6_waveOf 10 = .ok (.imul, 1) := by decide +kernel
theorem dX6_waveOf_11 : decode cX6_waveOf 11 = .ok (.aload_n 0, 1) := by decide +kernel
theorem dX6_waveOf_12 : decode cX6_waveOf 12 = .ok (.getfield 13, 3) := by decide +kernel
theorem dX6_waveOf_15 : decode cX6_waveOf 15 = .ok (.iload_n 1, 1) := by decide +kernel
theorem dX6_waveOf_16 : decode cX6_waveOf 16 = .ok (.iaload, 1) := by decide +kernel
theorem dX6_waveOf_17 : decode cX6_waveOf 17 = .ok (.iload_n 3, 1) := by decide +kernel
theorem dX6_waveOf_18 : decode cX6_waveOf 18 = .ok (.imul, 1) := by decide +kernel
theorem dX6_waveOf_19 : decode cX6_waveOf 19 = .ok (.iadd, 1) := by decide +kernel
theorem dX6_waveOf_20 : decode cX6_waveOf 20 = .ok (.bipush 15, 2) := by decide +kernel
theorem dX6_waveOf_22 : decode cX6_waveOf 22 = .ok (.iand, 1) := by decide +kernel
theorem dX6_waveOf_23 : decode cX6_waveOf 23 = .ok (.iaload, 1) := by decide +kernel
theorem dX6_waveOf_24 : decode cX6_waveOf 24 = .ok (.ireturn, 1) := by decide +kernel
theorem dX6_beamAt_0 : decode cX6_beamAt 0 = .ok (.iconst 0, 1) := by decide +kernel
theorem dX6_beamAt_1 : decode cX6_beamAt 1 = .ok (.istore_n 3, 1) := by decide +kernel
theorem dX6_beamAt_2 : decode cX6_beamAt 2 = .ok (.iconst 0, 1) := by decide +kernel
theorem dX6_beamAt_3 : decode cX6_beamAt 3 = .ok (.istore 4, 2) := by decide +kernel
theorem dX6_beamAt_5 : decode cX6_beamAt 5 = .ok (.iload 4, 2) := by decide +kernel
theorem dX6_beamAt_7 : decode cX6_beamAt 7 = .ok (.aload_n 0, 1) := by decide +kernel
theorem dX6_beamAt_8 : decode cX6_beamAt 8 = .ok (.getfield 20, 3) := by decide +kernel
theorem dX6_beamAt_11 : decode cX6_beamAt 11 = .ok (.if_icmp .ge 20, 3) := by decide +kernel
theorem dX6_beamAt_14 : decode cX6_beamAt 14 = .ok (.iload_n 3, 1) := by decide +kernel
theorem dX6_beamAt_15 : decode cX6_beamAt 15 = .ok (.aload_n 0, 1) := by decide +kernel
theorem dX6_beamAt_16 : decode cX6_beamAt 16 = .ok (.iload 4, 2) := by decide +kernel
theorem dX6_beamAt_18 : decode cX6_beamAt 18 = .ok (.iload_n 1, 1) := by decide +kernel
theorem dX6_beamAt_19 : decode cX6_beamAt 19 = .ok (.iload_n 2, 1) := by decide +kernel
theorem dX6_beamAt_20 : decode cX6_beamAt 20 = .ok (.invokevirtual 57, 3) := by decide +kernel
theorem dX6_beamAt_23 : decode cX6_beamAt 23 = .ok (.iadd, 1) := by decide +kernel
theorem dX6_beamAt_24 : decode cX6_beamAt 24 = .ok (.istore_n 3, 1) := by decide +kernel
theorem dX6_beamAt_25 : decode cX6_beamAt 25 = .ok (.iinc 4 1, 3) := by decide +kernel
theorem dX6_beamAt_28 : decode cX6_beamAt 28 = .ok (.goto (-23), 3) := by decide +kernel
theorem dX6_beamAt_31 : decode cX6_beamAt 31 = .ok (.iload_n 3, 1) := by decide +kernel
theorem dX6_beamAt_32 : decode cX6_beamAt 32 = .ok (.ireturn, 1) := by decide +kernel
theorem dX6_productsAt_0 : decode cX6_productsAt 0 = .ok (.lconst 0, 1) := by decide +kernel
theorem dX6_productsAt_1 : decode cX6_productsAt 1 = .ok (.lstore_n 3, 1) := by decide +kernel
theorem dX6_productsAt_2 : decode cX6_productsAt 2 = .ok (.iconst 0, 1) := by decide +kernel
theorem dX6_productsAt_3 : decode cX6_productsAt 3 = .ok (.istore 5, 2) := by decide +kernel
theorem dX6_productsAt_5 : decode cX6_productsAt 5 = .ok (.iload 5, 2) := by decide +kernel
theorem dX6_productsAt_7 : decode cX6_productsAt 7 = .ok (.aload_n 0, 1) := by decide +kernel
theorem dX6_productsAt_8 : decode cX6_productsAt 8 = .ok (.getfield 20, 3) := by decide +kernel
theorem dX6_productsAt_11 : decode cX6_productsAt 11 = .ok (.if_icmp .ge 29, 3) := by decide +kernel
theorem dX6_productsAt_14 : decode cX6_productsAt 14 = .ok (.lload_n 3, 1) := by decide +kernel
theorem dX6_productsAt_15 : decode cX6_productsAt 15 = .ok (.aload_n 0, 1) := by decide +kernel
theorem dX6_productsAt_16 : decode cX6_productsAt 16 = .ok (.getfield 16, 3) := by decide +kernel
theorem dX6_productsAt_19 : decode cX6_productsAt 19 = .ok (.iload 5, 2) := by decide +kernel
theorem dX6_productsAt_21 : decode cX6_productsAt 21 = .ok (.laload, 1) := by decide +kernel
theorem dX6_productsAt_22 : decode cX6_productsAt 22 = .ok (.aload_n 0, 1) := by decide +kernel
theorem dX6_productsAt_23 : decode cX6_productsAt 23 = .ok (.iload 5, 2) := by decide +kernel
theorem dX6_productsAt_25 : decode cX6_productsAt 25 = .ok (.iload_n 1, 1) := by decide +kernel
theorem dX6_productsAt_26 : decode cX6_productsAt 26 = .ok (.iload_n 2, 1) := by decide +kernel
theorem dX6_productsAt_27 : decode cX6_productsAt 27 = .ok (.invokevirtual 57, 3) := by decide +kernel
theorem dX6_productsAt_30 : decode cX6_productsAt 30 = .ok (.i2l, 1) := by decide +kernel
theorem dX6_productsAt_31 : decode cX6_productsAt 31 = .ok (.lmul, 1) := by decide +kernel
theorem dX6_productsAt_32 : decode cX6_productsAt 32 = .ok (.ladd, 1) := by decide +kernel
theorem dX6_productsAt_33 : decode cX6_productsAt 33 = .ok (.lstore_n 3, 1) := by decide +kernel
theorem dX6_productsAt_34 : decode cX6_productsAt 34 = .ok (.iinc 5 1, 3) := by decide +kernel
theorem dX6_productsAt_37 : decode cX6_productsAt 37 = .ok (.goto (-32), 3) := by decide +kernel
theorem dX6_productsAt_40 : decode cX6_productsAt 40 = .ok (.lload_n 3, 1) := by decide +kernel
theorem dX6_productsAt_41 : decode cX6_productsAt 41 = .ok (.lreturn, 1) := by decide +kernel
theorem dX7_init_0 : decode cX7_init 0 = .ok (.aload_n 0, 1) := by decide +kernel
theorem dX7_init_1 : decode cX7_init 1 = .ok (.invokespecial 3, 3) := by decide +kernel
theorem dX7_init_4 : decode cX7_init 4 = .ok (.aload_n 0, 1) := by decide +kernel
theorem dX7_init_5 : decode cX7_init 5 = .ok (.new 9, 3) := by decide +kernel
theorem dX7_init_8 : decode cX7_init 8 = .ok (.dup, 1) := by decide +kernel
theorem dX7_init_9 : decode cX7_init 9 = .ok (.invokespecial 11, 3) := by decide +kernel
theorem dX7_init_12 : decode cX7_init 12 = .ok (.putfield 12, 3) := by decide +kernel
theorem dX7_init_15 : decode cX7_init 15 = .ok (.aload_n 0, 1) := by decide +kernel
theorem dX7_init_16 : decode cX7_init 16 = .ok (.new 16, 3) := by decide +kernel
theorem dX7_init_19 : decode cX7_init 19 = .ok (.dup, 1) := by decide +kernel
theorem dX7_init_20 : decode cX7_init 20 = .ok (.invokespecial 18, 3) := by decide +kernel
theorem dX7_init_23 : decode cX7_init 23 = .ok (.putfield 19, 3) := by decide +kernel
theorem dX7_init_26 : decode cX7_init 26 = .ok (.aload_n 0, 1) := by decide +kernel
theorem dX7_init_27 : decode cX7_init 27 = .ok (.new 23, 3) := by decide +kernel
theorem dX7_init_30 : decode cX7_init 30 = .ok (.dup, 1) := by decide +kernel
theorem dX7_init_31 : decode cX7_init 31 = .ok (.invokespecial 25, 3) := by decide +kernel
theorem dX7_init_34 : decode cX7_init 34 = .ok (.putfield 26, 3) := by decide +kernel
theorem dX7_init_37 : decode cX7_init 37 = .ok (.aload_n 0, 1) := by decide +kernel
theorem dX7_init_38 : decode cX7_init 38 = .ok (.new 30, 3) := by decide +kernel
theorem dX7_init_41 : decode cX7_init 41 = .ok (.dup, 1) := by decide +kernel
theorem dX7_init_42 : decode cX7_init 42 = .ok (.invokespecial 32, 3) := by decide +kernel
theorem dX7_init_45 : decode cX7_init 45 = .ok (.putfield 33, 3) := by decide +kernel
theorem dX7_init_48 : decode cX7_init 48 = .ok (.aload_n 0, 1) := by decide +kernel
theorem dX7_init_49 : decode cX7_init 49 = .ok (.new 37, 3) := by decide +kernel
theorem dX7_init_52 : decode cX7_init 52 = .ok (.dup, 1) := by decide +kernel
theorem dX7_init_53 : decode cX7_init 53 = .ok (.invokespecial 39, 3) := by decide +kernel
theorem dX7_init_56 : decode cX7_init 56 = .ok (.putfield 40, 3) := by decide +kernel
theorem dX7_init_59 : decode cX7_init 59 = .ok (.aload_n 0, 1) := by decide +kernel
theorem dX7_init_60 : decode cX7_init 60 = .ok (.new 44, 3) := by decide +kernel
theorem dX7_init_63 : decode cX7_init 63 = .ok (.dup, 1) := by decide +kernel
theorem dX7_init_64 : decode cX7_init 64 = .ok (.invokespecial 46, 3) := by decide +kernel
theorem dX7_init_67 : decode cX7_init 67 = .ok (.putfield 47, 3) := by decide +kernel
theorem dX7_init_70 : decode cX7_init 70 = .ok (.return_, 1) := by decide +kernel
theorem dX7_dish_0 : decode cX7_dish 0 = .ok (.iload_n 1, 1) := by decide +kernel
theorem dX7_dish_1 : decode cX7_dish 1 = .ok (.bipush (-100), 2) := by decide +kernel
theorem dX7_dish_3 : decode cX7_dish 3 = .ok (.bipush 100, 2) := by decide +kernel
theorem dX7_dish_5 : decode cX7_dish 5 = .ok (.invokestatic 51, 3) := by decide +kernel
theorem dX7_dish_8 : decode cX7_dish 8 = .ok (.ifCond .eq 14, 3) := by decide +kernel
theorem dX7_dish_11 : decode cX7_dish 11 = .ok (.iload_n 2, 1) := by decide +kernel
theorem dX7_dish_12 : decode cX7_dish 12 = .ok (.bipush (-100), 2) := by decide +kernel
theorem dX7_dish_14 : decode cX7_dish 14 = .ok (.bipush 100, 2) := by decide +kernel
theorem dX7_dish_16 : decode cX7_dish 16 = .ok (.invokestatic 51, 3) := by decide +kernel
theorem dX7_dish_19 : decode cX7_dish 19 = .ok (.ifCond .ne 6, 3) := by decide +kernel
theorem dX7_dish_22 : decode cX7_dish 22 = .ok (.bipush (-2), 2) := by decide +kernel
theorem dX7_dish_24 : decode cX7_dish 24 = .ok (.ireturn, 1) := by decide +kernel
theorem dX7_dish_25 : decode cX7_dish 25 = .ok (.aload_n 0, 1) := by decide +kernel
theorem dX7_dish_26 : decode cX7_dish 26 = .ok (.getfield 12, 3) := by decide +kernel
theorem dX7_dish_29 : decode cX7_dish 29 = .ok (.iload_n 1, 1) := by decide +kernel
theorem dX7_dish_30 : decode cX7_dish 30 = .ok (.iload_n 2, 1) := by decide +kernel
theorem dX7_dish_31 : decode cX7_dish 31 = .ok (.invokevirtual 55, 3) := by decide +kernel
theorem dX7_dish_34 : decode cX7_dish 34 = .ok (.ireturn, 1) := by decide +kernel
theorem dX7_tune_0 : decode cX7_tune 0 = .ok (.aload_n 0, 1) := by decide +kernel
theorem dX7_tune_1 : decode cX7_tune 1 = .ok (.getfield 12, 3) := by decide +kernel
theorem dX7_tune_4 : decode cX7_tune 4 = .ok (.iload_n 1, 1) := by decide +kernel
theorem dX7_tune_5 : decode cX7_tune 5 = .ok (.invokevirtual 59, 3) := by decide +kernel
theorem dX7_tune_8 : decode cX7_tune 8 = .ok (.astore 4, 2) := by decide +kernel
theorem dX7_tune_10 : decode cX7_tune 10 = .ok (.aload 4, 2) := by decide +kernel
theorem dX7_tune_12 : decode cX7_tune 12 = .ok (.ifnull 13, 3) := by decide +kernel
theorem dX7_tune_15 : decode cX7_tune 15 = .ok (.iload_n 2, 1) := by decide +kernel
theorem dX7_tune_16 : decode cX7_tune 16 = .ok (.iconst 0, 1) := by decide +kernel
theorem dX7_tune_17 : decode cX7_tune 17 = .ok (.bipush 30, 2) := by decide +kernel
theorem dX7_tune_19 : decode cX7_tune 19 = .ok (.invokestatic 51, 3) := by decide +kernel
theorem dX7_tune_22 : decode cX7_tune 22 = .ok (.ifCond .ne 6, 3) := by decide +kernel
theorem dX7_tune_25 : decode cX7_tune 25 = .ok (.bipush (-2), 2) := by decide +kernel
theorem dX7_tune_27 : decode cX7_tune 27 = .ok (.ireturn, 1) := by decide +kernel
theorem dX7_tune_28 : decode cX7_tune 28 = .ok (.iload_n 3, 1) := by decide +kernel
theorem dX7_tune_29 : decode cX7_tune 29 = .ok (.ifCond .eq 14, 3) := by decide +kernel
theorem dX7_tune_32 : decode cX7_tune 32 = .ok (.iload_n 3, 1) := by decide +kernel
theorem dX7_tune_33 : decode cX7_tune 33 = .ok (.bipush (-9), 2) := by decide +kernel
theorem dX7_tune_35 : decode cX7_tune 35 = .ok (.bipush 9, 2) := by decide +kernel
theorem dX7_tune_37 : decode cX7_tune 37 = .ok (.invokestatic 51, 3) := by decide +kernel
theorem dX7_tune_40 : decode cX7_tune 40 = .ok (.ifCond .ne 6, 3) := by decide +kernel
theorem dX7_tune_43 : decode cX7_tune 43 = .ok (.bipush (-2), 2) := by decide +kernel
theorem dX7_tune_45 : decode cX7_tune 45 = .ok (.ireturn, 1) := by decide +kernel
theorem dX7_tune_46 : decode cX7_tune 46 = .ok (.aload 4, 2) := by decide +kernel
theorem dX7_tune_48 : decode cX7_tune 48 = .ok (.iload_n 2, 1) := by decide +kernel
theorem dX7_tune_49 : decode cX7_tune 49 = .ok (.putfield 63, 3) := by decide +kernel
theorem dX7_tune_52 : decode cX7_tune 52 = .ok (.aload 4, 2) := by decide +kernel
theorem dX7_tune_54 : decode cX7_tune 54 = .ok (.iload_n 3, 1) := by decide +kernel
theorem dX7_tune_55 : decode cX7_tune 55 = .ok (.putfield 69, 3) := by decide +kernel
theorem dX7_tune_58 : decode cX7_tune 58 = .ok (.iconst 1, 1) := by decide +kernel
theorem dX7_tune_59 : decode cX7_tune 59 = .ok (.ireturn, 1) := by decide +kernel
theorem dX7_reel_0 : decode cX7_reel 0 = .ok (.aload_n 0, 1) := by decide +kernel
theorem dX7_reel_1 : decode cX7_reel 1 = .ok (.getfield 12, 3) := by decide +kernel
theorem dX7_reel_4 : decode cX7_reel 4 = .ok (.iload_n 1, 1) := by decide +kernel
theorem dX7_reel_5 : decode cX7_reel 5 = .ok (.invokevirtual 59, 3) := by decide +kernel
theorem dX7_reel_8 : decode cX7_reel 8 = .ok (.astore 4, 2) := by decide +kernel
theorem dX7_reel_10 : decode cX7_reel 10 = .ok (.aload 4, 2) := by decide +kernel
theorem dX7_reel_12 : decode cX7_reel 12 = .ok (.ifnull 16, 3) := by decide +kernel
theorem dX7_reel_15 : decode cX7_reel 15 = .ok (.iload_n 2, 1) := by decide +kernel
theorem dX7_reel_16 : decode cX7_reel 16 = .ok (.invokestatic 72, 3) := by decide +kernel
theorem dX7_reel_19 : decode cX7_reel 19 = .ok (.ifCond .eq 9, 3) := by decide +kernel
theorem dX7_reel_22 : decode cX7_reel 22 = .ok (.iload_n 3, 1) := by decide +kernel
theorem dX7_reel_23 : decode cX7_reel 23 = .ok (.bipush 100, 2) := by decide +kernel
theorem dX7_reel_25 : decode cX7_reel 25 = .ok (.if_icmp .le 6, 3) := by decide +kernel
theorem dX7_reel_28 : decode cX7_reel 28 = .ok (.bipush (-2), 2) := by decide +kernel
theorem dX7_reel_30 : decode cX7_reel 30 = .ok (.ireturn, 1) := by decide +kernel
theorem dX7_reel_31 : decode cX7_reel 31 = .ok (.iload_n 3, 1) := by decide +kernel
theorem dX7_reel_32 : decode cX7_reel 32 = .ok (.ifCond .ge 9, 3) := by decide +kernel
theorem dX7_reel_35 : decode cX7_reel 35 = .ok (.aload_n 0, 1) := by decide +kernel
theorem dX7_reel_36 : decode cX7_reel 36 = .ok (.iconst 5, 1) := by decide +kernel
theorem dX7_reel_37 : decode cX7_reel 37 = .ok (.invokevirtual 76, 3) := by decide +kernel
theorem dX7_reel_40 : decode cX7_reel 40 = .ok (.ireturn, 1) := by decide +kernel
theorem dX7_reel_41 : decode cX7_reel 41 = .ok (.aload 4, 2) := by decide +kernel
theorem dX7_reel_43 : decode cX7_reel 43 = .ok (.iload_n 2, 1) := by decide +kernel
theorem dX7_reel_44 : decode cX7_reel 44 = .ok (.iload_n 3, 1) := by decide +kernel
theorem dX7_reel_45 : decode cX7_reel 45 = .ok (.invokevirtual 80, 3) := by decide +kernel
theorem dX7_reel_48 : decode cX7_reel 48 = .ok (.iload_n 3, 1) := by decide +kernel
theorem dX7_reel_49 : decode cX7_reel 49 = .ok (.ireturn, 1) := by decide +kernel
theorem dX7_lose_0 : decode cX7_lose 0 = .ok (.aload_n 0, 1) := by decide +kernel
theorem dX7_lose_1 : decode cX7_lose 1 = .ok (.getfield 12, 3) := by decide +kernel
theorem dX7_lose_4 : decode cX7_lose 4 = .ok (.iload_n 1, 1) := by decide +kernel
theorem dX7_lose_5 : decode cX7_lose 5 = .ok (.invokevirtual 59, 3) := by decide +kernel
theorem dX7_lose_8 : decode cX7_lose 8 = .ok (.astore_n 2, 1) := by decide +kernel
theorem dX7_lose_9 : decode cX7_lose 9 = .ok (.aload_n 2, 1) := by decide +kernel
theorem dX7_lose_10 : decode cX7_lose 10 = .ok (.ifnonnull 6, 3) := by decide +kernel
theorem dX7_lose_13 : decode cX7_lose 13 = .ok (.bipush (-2), 2) := by decide +kernel
theorem dX7_lose_15 : decode cX7_lose 15 = .ok (.ireturn, 1) := by decide +kernel
theorem dX7_lose_16 : decode cX7_lose 16 = .ok (.aload_n 2, 1) := by decide +kernel
theorem dX7_lose_17 : decode cX7_lose 17 = .ok (.invokevirtual 84, 3) := by decide +kernel
theorem dX7_lose_20 : decode cX7_lose 20 = .ok (.ifCond .eq 9, 3) := by decide +kernel
theorem dX7_lose_23 : decode cX7_lose 23 = .ok (.aload_n 0, 1) := by decide +kernel
theorem dX7_lose_24 : decode cX7_lose 24 = .ok (.iconst 1, 1) := by decide +kernel
theorem dX7_lose_25 : decode cX7_lose 25 = .ok (.invokevirtual 76, 3) := by decide +kernel
theorem dX7_lose_28 : decode cX7_lose 28 = .ok (.ireturn, 1) := by decide +kernel
theorem dX7_lose_29 : decode cX7_lose 29 = .ok (.aload_n 2, 1) := by decide +kernel
theorem dX7_lose_30 : decode cX7_lose 30 = .ok (.getfield 88, 3) := by decide +kernel
theorem dX7_lose_33 : decode cX7_lose 33 = .ok (.istore_n 3, 1) := by decide +kernel
theorem dX7_lose_34 : decode cX7_lose 34 = .ok (.aload_n 2, 1) := by decide +kernel
theorem dX7_lose_35 : decode cX7_lose 35 = .ok (.iconst (-1), 1) := by decide +kernel
theorem dX7_lose_36 : decode cX7_lose 36 = .ok (.putfield 88, 3) := by decide +kernel
theorem dX7_lose_39 : decode cX7_lose 39 = .ok (.iload_n 3, 1) := by decide +kernel
theorem dX7_lose_40 : decode cX7_lose 40 = .ok (.ireturn, 1) := by decide +kernel
theorem dX7_put_0 : decode cX7_put 0 = .ok (.aload_n 0, 1) := by decide +kernel
theorem dX7_put_1 : decode cX7_put 1 = .ok (.getfield 12, 3) := by decide +kernel
theorem dX7_put_4 : decode cX7_put 4 = .ok (.iload_n 1, 1) := by decide +kernel
theorem dX7_put_5 : decode cX7_put 5 = .ok (.invokevirtual 59, 3) := by decide +kernel
theorem dX7_put_8 : decode cX7_put 8 = .ok (.astore 5, 2) := by decide +kernel
theorem dX7_put_10 : decode cX7_put 10 = .ok (.aload 5, 2) := by decide +kernel
theorem dX7_put_12 : decode cX7_put 12 = .ok (.ifnull 10, 3) := by decide +kernel
theorem dX7_put_15 : decode cX7_put 15 = .ok (.iload_n 2, 1) := by decide +kernel
theorem dX7_put_16 : decode cX7_put 16 = .ok (.invokestatic 72, 3) := by decide +kernel
theorem dX7_put_19 : decode cX7_put 19 = .ok (.ifCond .ne 6, 3) := by decide +kernel
theorem dX7_put_22 : decode cX7_put 22 = .ok (.bipush (-2), 2) := by decide +kernel
theorem dX7_put_24 : decode cX7_put 24 = .ok (.ireturn, 1) := by decide +kernel
theorem dX7_put_25 : decode cX7_put 25 = .ok (.aload 5, 2) := by decide +kernel
theorem dX7_put_27 : decode cX7_put 27 = .ok (.iload_n 2, 1) := by decide +kernel
theorem dX7_put_28 : decode cX7_put 28 = .ok (.iload_n 3, 1) := by decide +kernel
theorem dX7_put_29 : decode cX7_put 29 = .ok (.invokevirtual 91, 3) := by decide +kernel
theorem dX7_put_32 : decode cX7_put 32 = .ok (.istore 6, 2) := by decide +kernel
theorem dX7_put_34 : decode cX7_put 34 = .ok (.iload 6, 2) := by decide +kernel
theorem dX7_put_36 : decode cX7_put 36 = .ok (.ifCond .eq 10, 3) := by decide +kernel
theorem dX7_put_39 : decode cX7_put 39 = .ok (.aload_n 0, 1) := by decide +kernel
theorem dX7_put_40 : decode cX7_put 40 = .ok (.iload 6, 2) := by decide +kernel
theorem dX7_put_42 : decode cX7_put 42 = .ok (.invokevirtual 76, 3) := by decide +kernel
theorem dX7_put_45 : decode cX7_put 45 = .ok (.ireturn, 1) := by decide +kernel
theorem dX7_put_46 : decode cX7_put 46 = .ok (.aload 5, 2) := by decide +kernel
theorem dX7_put_48 : decode cX7_put 48 = .ok (.iload_n 3, 1) := by decide +kernel
theorem dX7_put_49 : decode cX7_put 49 = .ok (.iload 4, 2) := by decide +kernel
theorem dX7_put_51 : decode cX7_put 51 = .ok (.invokevirtual 94, 3) := by decide +kernel
theorem dX7_put_54 : decode cX7_put 54 = .ok (.iconst 1, 1) := by decide +kernel
theorem dX7_put_55 : decode cX7_put 55 = .ok (.ireturn, 1) := by decide +kernel
theorem dX7_get_0 : decode cX7_get 0 = .ok (.aload_n 0, 1) := by decide +kernel
theorem dX7_get_1 : decode cX7_get 1 = .ok (.getfield 12, 3) := by decide +kernel
theorem dX7_get_4 : decode cX7_get 4 = .ok (.iload_n 1, 1) := by decide +kernel
theorem dX7_get_5 : decode cX7_get 5 = .ok (.invokevirtual 59, 3) := by decide +kernel
theorem dX7_get_8 : decode cX7_get 8 = .ok (.astore 4, 2) := by decide +kernel
theorem dX7_get_10 : decode cX7_get 10 = .ok (.aload 4, 2) := by decide +kernel
theorem dX7_get_12 : decode cX7_get 12 = .ok (.ifnull 10, 3) := by decide +kernel
theorem dX7_get_15 : decode cX7_get 15 = .ok (.iload_n 2, 1) := by decide +kernel
theorem dX7_get_16 : decode cX7_get 16 = .ok (.invokestatic 72, 3) := by decide +kernel
theorem dX7_get_19 : decode cX7_get 19 = .ok (.ifCond .ne 6, 3) := by decide +kernel
theorem dX7_get_22 : decode cX7_get 22 = .ok (.ldc 97, 2) := by decide +kernel
theorem dX7_get_24 : decode cX7_get 24 = .ok (.ireturn, 1) := by decide +kernel
theorem dX7_get_25 : decode cX7_get 25 = .ok (.aload 4, 2) := by decide +kernel
theorem dX7_get_27 : decode cX7_get 27 = .ok (.iload_n 2, 1) := by decide +kernel
theorem dX7_get_28 : decode cX7_get 28 = .ok (.iload_n 3, 1) := by decide +kernel
theorem dX7_get_29 : decode cX7_get 29 = .ok (.invokevirtual 91, 3) := by decide +kernel
theorem dX7_get_32 : decode cX7_get 32 = .ok (.istore 5, 2) := by decide +kernel
theorem dX7_get_34 : decode cX7_get 34 = .ok (.iload 5, 2) := by decide +kernel
theorem dX7_get_36 : decode cX7_get 36 = .ok (.ifCond .eq 13, 3) := by decide +kernel
theorem dX7_get_39 : decode cX7_get 39 = .ok (.aload_n 0, 1) := by decide +kernel
theorem dX7_get_40 : decode cX7_get 40 = .ok (.iload 5, 2) := by decide +kernel
theorem dX7_get_42 : decode cX7_get 42 = .ok (.invokevirtual 76, 3) := by decide +kernel
theorem dX7_get_45 : decode cX7_get 45 = .ok (.pop, 1) := by decide +kernel
theorem dX7_get_46 : decode cX7_get 46 = .ok (.ldc 97, 2) := by decide +kernel
theorem dX7_get_48 : decode cX7_get 48 = .ok (.ireturn, 1) := by decide +kernel
theorem dX7_get_49 : decode cX7_get 49 = .ok (.aload 4, 2) := by decide +kernel
theorem dX7_get_51 : decode cX7_get 51 = .ok (.iload_n 3, 1) := by decide +kernel
theorem dX7_get_52 : decode cX7_get 52 = .ok (.invokevirtual 98, 3) := by decide +kernel
theorem dX7_get_55 : decode cX7_get 55 = .ok (.ireturn, 1) := by decide +kernel
theorem dX7_copy_0 : decode cX7_copy 0 = .ok (.aload_n 0, 1) := by decide +kernel
theorem dX7_copy_1 : decode cX7_copy 1 = .ok (.getfield 12, 3) := by decide +kernel
theorem dX7_copy_4 : decode cX7_copy 4 = .ok (.iload_n 1, 1) := by decide +kernel
theorem dX7_copy_5 : decode cX7_copy 5 = .ok (.invokevirtual 59, 3) := by decide +kernel
theorem dX7_copy_8 : decode cX7_copy 8 = .ok (.astore 6, 2) := by decide +kernel
theorem dX7_copy_10 : decode cX7_copy 10 = .ok (.aload_n 0, 1) := by decide +kernel
theorem dX7_copy_11 : decode cX7_copy 11 = .ok (.getfield 12, 3) := by decide +kernel
theorem dX7_copy_14 : decode cX7_copy 14 = .ok (.iload_n 3, 1) := by decide +kernel
theorem dX7_copy_15 : decode cX7_copy 15 = .ok (.invokevirtual 59, 3) := by decide +kernel
theorem dX7_copy_18 : decode cX7_copy 18 = .ok (.astore 7, 2) := by decide +kernel
theorem dX7_copy_20 : decode cX7_copy 20 = .ok (.aload 6, 2) := by decide +kernel
theorem dX7_copy_22 : decode cX7_copy 22 = .ok (.ifnull 8, 3) := by decide +kernel
theorem dX7_copy_25 : decode cX7_copy 25 = .ok (.aload 7, 2) := by decide +kernel
theorem dX7_copy_27 : decode cX7_copy 27 = .ok (.ifnonnull 6, 3) := by decide +kernel
theorem dX7_copy_30 : decode cX7_copy 30 = .ok (.bipush (-2), 2) := by decide +kernel
theorem dX7_copy_32 : decode cX7_copy 32 = .ok (.ireturn, 1) := by decide +kernel
theorem dX7_copy_33 : decode cX7_copy 33 = .ok (.aload 6, 2) := by decide +kernel
theorem dX7_copy_35 : decode cX7_copy 35 = .ok (.invokevirtual 84, 3) := by decide +kernel
theorem dX7_copy_38 : decode cX7_copy 38 = .ok (.ifCond .ne 11, 3) := by decide +kernel
theorem dX7_copy_41 : decode cX7_copy 41 = .ok (.aload 7, 2) := by decide +kernel
theorem dX7_copy_43 : decode cX7_copy 43 = .ok (.invokevirtual 84, 3) := by decide +kernel
theorem dX7_copy_46 : decode cX7_copy 46 = .ok (.ifCond .eq 9, 3) := by decide +kernel
theorem dX7_copy_49 : decode cX7_copy 49 = .ok (.aload_n 0, 1) := by decide +kernel
theorem dX7_copy_50 : decode cX7_copy 50 = .ok (.iconst 1, 1) := by decide +kernel
theorem dX7_copy_51 : decode cX7_copy 51 = .ok (.invokevirtual 76, 3) := by decide +kernel
theorem dX7_copy_54 : decode cX7_copy 54 = .ok (.ireturn, 1) := by decide +kernel
theorem dX7_copy_55 : decode cX7_copy 55 = .ok (.aload 6, 2) := by decide +kernel
theorem dX7_copy_57 : decode cX7_copy 57 = .ok (.getfield 101, 3) := by decide +kernel
theorem dX7_copy_60 : decode cX7_copy 60 = .ok (.aload 7, 2) := by decide +kernel
theorem dX7_copy_62 : decode cX7_copy 62 = .ok (.getfield 101, 3) := by decide +kernel
theorem dX7_copy_65 : decode cX7_copy 65 = .ok (.if_icmp .eq 9, 3) := by decide +kernel
theorem dX7_copy_68 : decode cX7_copy 68 = .ok (.aload_n 0, 1) := by decide +kernel
theorem dX7_copy_69 : decode cX7_copy 69 = .ok (.iconst 4, 1) := by decide +kernel
theorem dX7_copy_70 : decode cX7_copy 70 = .ok (.invokevirtual 76, 3) := by decide +kernel
theorem dX7_copy_73 : decode cX7_copy 73 = .ok (.ireturn, 1) := by decide +kernel
theorem dX7_copy_74 : decode cX7_copy 74 = .ok (.aload 6, 2) := by decide +kernel
theorem dX7_copy_76 : decode cX7_copy 76 = .ok (.iload_n 2, 1) := by decide +kernel
theorem dX7_copy_77 : decode cX7_copy 77 = .ok (.iload 5, 2) := by decide +kernel
theorem dX7_copy_79 : decode cX7_copy 79 = .ok (.invokevirtual 104, 3) := by decide +kernel
theorem dX7_copy_82 : decode cX7_copy 82 = .ok (.ifCond .eq 15, 3) := by decide +kernel
theorem dX7_copy_85 : decode cX7_copy 85 = .ok (.aload 7, 2) := by decide +kernel
theorem dX7_copy_87 : decode cX7_copy 87 = .ok (.iload 4, 2) := by decide +kernel
theorem dX7_copy_89 : decode cX7_copy 89 = .ok (.iload 5, 2) := by decide +kernel
theorem dX7_copy_91 : decode cX7_copy 91 = .ok (.invokevirtual 104, 3) := by decide +kernel
theorem dX7_copy_94 : decode cX7_copy 94 = .ok (.ifCond .ne 9, 3) := by decide +kernel
theorem dX7_copy_97 : decode cX7_copy 97 = .ok (.aload_n 0, 1) := by decide +kernel
theorem dX7_copy_98 : decode cX7_copy 98 = .ok (.iconst 2, 1) := by decide +kernel
theorem dX7_copy_99 : decode cX7_copy 99 = .ok (.invokevirtual 76, 3) := by decide +kernel
theorem dX7_copy_102 : decode cX7_copy 102 = .ok (.ireturn, 1) := by decide +kernel
theorem dX7_copy_103 : decode cX7_copy 103 = .ok (.aload 6, 2) := by decide +kernel
theorem dX7_copy_105 : decode cX7_copy 105 = .ok (.getfield 108, 3) := by decide +kernel
theorem dX7_copy_108 : decode cX7_copy 108 = .ok (.iload_n 2, 1) := by decide +kernel
theorem dX7_copy_109 : decode cX7_copy 109 = .ok (.aload 7, 2) := by decide +kernel
theorem dX7_copy_111 : decode cX7_copy 111 = .ok (.getfield 108, 3) := by decide +kernel
theorem dX7_copy_114 : decode cX7_copy 114 = .ok (.iload 4, 2) := by decide +kernel
theorem dX7_copy_116 : decode cX7_copy 116 = .ok (.iload 5, 2) := by decide +kernel
theorem dX7_copy_118 : decode cX7_copy 118 = .ok (.invokestatic 112, 3) := by decide +kernel
theorem dX7_copy_121 : decode cX7_copy 121 = .ok (.iconst 1, 1) := by decide +kernel
theorem dX7_copy_122 : decode cX7_copy 122 = .ok (.ireturn, 1) := by decide +kernel
theorem dX7_flag_0 : decode cX7_flag 0 = .ok (.aload_n 0, 1) := by decide +kernel
theorem dX7_flag_1 : decode cX7_flag 1 = .ok (.getfield 12, 3) := by decide +kernel
theorem dX7_flag_4 : decode cX7_flag 4 = .ok (.iload_n 1, 1) := by decide +kernel
theorem dX7_flag_5 : decode cX7_flag 5 = .ok (.invokevirtual 59, 3) := by decide +kernel
theorem dX7_flag_8 : decode cX7_flag 8 = .ok (.astore 4, 2) := by decide +kernel
theorem dX7_flag_10 : decode cX7_flag 10 = .ok (.aload 4, 2) := by decide +kernel
theorem dX7_flag_12 : decode cX7_flag 12 = .ok (.ifnull 22, 3) := by decide +kernel
theorem dX7_flag_15 : decode cX7_flag 15 = .ok (.iload_n 3, 1) := by decide +kernel
theorem dX7_flag_16 : decode cX7_flag 16 = .ok (.iconst 0, 1) := by decide +kernel
theorem dX7_flag_17 : decode cX7_flag 17 = .ok (.bipush 99, 2) := by decide +kernel
theorem dX7_flag_19 : decode cX7_flag 19 = .ok (.invokestatic 51, 3) := by decide +kernel
theorem dX7_flag_22 : decode cX7_flag 22 = .ok (.ifCond .eq 12, 3) := by decide +kernel
theorem dX7_flag_25 : decode cX7_flag 25 = .ok (.iload_n 2, 1) := by decide +kernel
theorem dX7_flag_26 : decode cX7_flag 26 = .ok (.iconst 0, 1) := by decide +kernel
theorem dX7_flag_27 : decode cX7_flag 27 = .ok (.iload_n 3, 1) := by decide +kernel
theorem dX7_flag_28 : decode cX7_flag 28 = .ok (.invokestatic 51, 3) := by decide +kernel
theorem dX7_flag_31 : decode cX7_flag 31 = .ok (.ifCond .ne 6, 3) := by decide +kernel
theorem dX7_flag_34 : decode cX7_flag 34 = .ok (.bipush (-2), 2) := by decide +kernel
theorem dX7_flag_36 : decode cX7_flag 36 = .ok (.ireturn, 1) := by decide +kernel
theorem dX7_flag_37 : decode cX7_flag 37 = .ok (.aload_n 0, 1) := by decide +kernel
theorem dX7_flag_38 : decode cX7_flag 38 = .ok (.getfield 12, 3) := by decide +kernel
theorem dX7_flag_41 : decode cX7_flag 41 = .ok (.aload 4, 2) := by decide +kernel
theorem dX7_flag_43 : decode cX7_flag 43 = .ok (.iload_n 2, 1) := by decide +kernel
theorem dX7_flag_44 : decode cX7_flag 44 = .ok (.iload_n 3, 1) := by decide +kernel
theorem dX7_flag_45 : decode cX7_flag 45 = .ok (.invokevirtual 118, 3) := by decide +kernel
theorem dX7_flag_48 : decode cX7_flag 48 = .ok (.ireturn, 1) := by decide +kernel
theorem dX7_unflag_0 : decode cX7_unflag 0 = .ok (.aload_n 0, 1) := by decide +kernel
theorem dX7_unflag_1 : decode cX7_unflag 1 = .ok (.getfield 12, 3) := by decide +kernel
theorem dX7_unflag_4 : decode cX7_unflag 4 = .ok (.invokevirtual 122, 3) := by decide +kernel
theorem dX7_unflag_7 : decode cX7_unflag 7 = .ok (.ireturn, 1) := by decide +kernel
theorem dX7_ticks_0 : decode cX7_ticks 0 = .ok (.aload_n 0, 1) := by decide +kernel
theorem dX7_ticks_1 : decode cX7_ticks 1 = .ok (.getfield 12, 3) := by decide +kernel
theorem dX7_ticks_4 : decode cX7_ticks 4 = .ok (.iload_n 1, 1) := by decide +kernel
theorem dX7_ticks_5 : decode cX7_ticks 5 = .ok (.invokevirtual 59, 3) := by decide +kernel
theorem dX7_ticks_8 : decode cX7_ticks 8 = .ok (.astore_n 3, 1) := by decide +kernel
theorem dX7_ticks_9 : decode cX7_ticks 9 = .ok (.aload_n 0, 1) := by decide +kernel
theorem dX7_ticks_10 : decode cX7_ticks 10 = .ok (.getfield 12, 3) := by decide +kernel
theorem dX7_ticks_13 : decode cX7_ticks 13 = .ok (.iload_n 2, 1) := by decide +kernel
theorem dX7_ticks_14 : decode cX7_ticks 14 = .ok (.invokevirtual 59, 3) := by decide +kernel
theorem dX7_ticks_17 : decode cX7_ticks 17 = .ok (.astore 4, 2) := by decide +kernel
theorem dX7_ticks_19 : decode cX7_ticks 19 = .ok (.aload_n 3, 1) := by decide +kernel
theorem dX7_ticks_20 : decode cX7_ticks 20 = .ok (.ifnull 8, 3) := by decide +kernel
theorem dX7_ticks_23 : decode cX7_ticks 23 = .ok (.aload 4, 2) := by decide +kernel
theorem dX7_ticks_25 : decode cX7_ticks 25 = .ok (.ifnonnull 6, 3) := by decide +kernel
theorem dX7_ticks_28 : decode cX7_ticks 28 = .ok (.bipush (-2), 2) := by decide +kernel
theorem dX7_ticks_30 : decode cX7_ticks 30 = .ok (.ireturn, 1) := by decide +kernel
theorem dX7_ticks_31 : decode cX7_ticks 31 = .ok (.aload_n 3, 1) := by decide +kernel
theorem dX7_ticks_32 : decode cX7_ticks 32 = .ok (.aload 4, 2) := by decide +kernel
theorem dX7_ticks_34 : decode cX7_ticks 34 = .ok (.invokevirtual 126, 3) := by decide +kernel
theorem dX7_ticks_37 : decode cX7_ticks 37 = .ok (.ireturn, 1) := by decide +kernel
theorem dX7_product_0 : decode cX7_product 0 = .ok (.aload_n 0, 1) := by decide +kernel
theorem dX7_product_1 : decode cX7_product 1 = .ok (.getfield 12, 3) := by decide +kernel
theorem dX7_product_4 : decode cX7_product 4 = .ok (.iload_n 1, 1) := by decide +kernel
theorem dX7_product_5 : decode cX7_product 5 = .ok (.invokevirtual 59, 3) := by decide +kernel
theorem dX7_product_8 : decode cX7_product 8 = .ok (.astore_n 3, 1) := by decide +kernel
theorem dX7_product_9 : decode cX7_product 9 = .ok (.aload_n 0, 1) := by decide +kernel
theorem dX7_product_10 : decode cX7_product 10 = .ok (.getfield 12, 3) := by decide +kernel
theorem dX7_product_13 : decode cX7_product 13 = .ok (.iload_n 2, 1) := by decide +kernel
theorem dX7_product_14 : decode cX7_product 14 = .ok (.invokevirtual 59, 3) := by decide +kernel
theorem dX7_product_17 : decode cX7_product 17 = .ok (.astore 4, 2) := by decide +kernel
theorem dX7_product_19 : decode cX7_product 19 = .ok (.aload_n 3, 1) := by decide +kernel
theorem dX7_product_20 : decode cX7_product 20 = .ok (.ifnull 8, 3) := by decide +kernel
theorem dX7_product_23 : decode cX7_product 23 = .ok (.aload 4, 2) := by decide +kernel
theorem dX7_product_25 : decode cX7_product 25 = .ok (.ifnonnull 7, 3) := by decide +kernel
theorem dX7_product_28 : decode cX7_product 28 = .ok (.ldc2_w 130, 3) := by decide +kernel
theorem dX7_product_31 : decode cX7_product 31 = .ok (.lreturn, 1) := by decide +kernel
theorem dX7_product_32 : decode cX7_product 32 = .ok (.aload_n 3, 1) := by decide +kernel
theorem dX7_product_33 : decode cX7_product 33 = .ok (.aload 4, 2) := by decide +kernel
theorem dX7_product_35 : decode cX7_product 35 = .ok (.aload 4, 2) := by decide +kernel
theorem dX7_product_37 : decode cX7_product 37 = .ok (.getfield 63, 3) := by decide +kernel
theorem dX7_product_40 : decode cX7_product 40 = .ok (.invokevirtual 132, 3) := by decide +kernel
theorem dX7_product_43 : decode cX7_product 43 = .ok (.lreturn, 1) := by decide +kernel
theorem dX7_delay_0 : decode cX7_delay 0 = .ok (.aload_n 0, 1) := by decide +kernel
theorem dX7_delay_1 : decode cX7_delay 1 = .ok (.getfield 12, 3) := by decide +kernel
theorem dX7_delay_4 : decode cX7_delay 4 = .ok (.iload_n 1, 1) := by decide +kernel
theorem dX7_delay_5 : decode cX7_delay 5 = .ok (.invokevirtual 59, 3) := by decide +kernel
theorem dX7_delay_8 : decode cX7_delay 8 = .ok (.astore_n 3, 1) := by decide +kernel
theorem dX7_delay_9 : decode cX7_delay 9 = .ok (.aload_n 0, 1) := by decide +kernel
theorem dX7_delay_10 : decode cX7_delay 10 = .ok (.getfield 12, 3) := by decide +kernel
theorem dX7_delay_13 : decode cX7_delay 13 = .ok (.iload_n 2, 1) := by decide +kernel
theorem dX7_delay_14 : decode cX7_delay 14 = .ok (.invokevirtual 59, 3) := by decide +kernel
theorem dX7_delay_17 : decode cX7_delay 17 = .ok (.astore 4, 2) := by decide +kernel
theorem dX7_delay_19 : decode cX7_delay 19 = .ok (.aload_n 3, 1) := by decide +kernel
theorem dX7_delay_20 : decode cX7_delay 20 = .ok (.ifnull 8, 3) := by decide +kernel
theorem dX7_delay_23 : decode cX7_delay 23 = .ok (.aload 4, 2) := by decide +kernel
theorem dX7_delay_25 : decode cX7_delay 25 = .ok (.ifnonnull 6, 3) := by decide +kernel
theorem dX7_delay_28 : decode cX7_delay 28 = .ok (.bipush (-2), 2) := by decide +kernel
theorem dX7_delay_30 : decode cX7_delay 30 = .ok (.ireturn, 1) := by decide +kernel
theorem dX7_delay_31 : decode cX7_delay 31 = .ok (.aload_n 3, 1) := by decide +kernel
theorem dX7_delay_32 : decode cX7_delay 32 = .ok (.aload 4, 2) := by decide +kernel
theorem dX7_delay_34 : decode cX7_delay 34 = .ok (.invokevirtual 136, 3) := by decide +kernel
theorem dX7_delay_37 : decode cX7_delay 37 = .ok (.ireturn, 1) := by decide +kernel
theorem dX7_three_0 : decode cX7_three 0 = .ok (.aload_n 0, 1) := by decide +kernel
theorem dX7_three_1 : decode cX7_three 1 = .ok (.getfield 12, 3) := by decide +kernel
theorem dX7_three_4 : decode cX7_three 4 = .ok (.iload_n 1, 1) := by decide +kernel
theorem dX7_three_5 : decode cX7_three 5 = .ok (.invokevirtual 59, 3) := by decide +kernel
theorem dX7_three_8 : decode cX7_three 8 = .ok (.astore 4, 2) := by decide +kernel
theorem dX7_three_10 : decode cX7_three 10 = .ok (.aload_n 0, 1) := by decide +kernel
theorem dX7_three_11 : decode cX7_three 11 = .ok (.getfield 12, 3) := by decide +kernel
theorem dX7_three_14 : decode cX7_three 14 = .ok (.iload_n 2, 1) := by decide +kernel
theorem dX7_three_15 : decode cX7_three 15 = .ok (.invokevirtual 59, 3) := by decide +kernel
theorem dX7_three_18 : decode cX7_three 18 = .ok (.astore 5, 2) := by decide +kernel
theorem dX7_three_20 : decode cX7_three 20 = .ok (.aload_n 0, 1) := by decide +kernel
theorem dX7_three_21 : decode cX7_three 21 = .ok (.getfield 12, 3) := by decide +kernel
theorem dX7_three_24 : decode cX7_three 24 = .ok (.iload_n 3, 1) := by decide +kernel
theorem dX7_three_25 : decode cX7_three 25 = .ok (.invokevirtual 59, 3) := by decide +kernel
theorem dX7_three_28 : decode cX7_three 28 = .ok (.astore 6, 2) := by decide +kernel
theorem dX7_three_30 : decode cX7_three 30 = .ok (.aload 4, 2) := by decide +kernel
theorem dX7_three_32 : decode cX7_three 32 = .ok (.ifnull 13, 3) := by decide +kernel
theorem dX7_three_35 : decode cX7_three 35 = .ok (.aload 5, 2) := by decide +kernel
theorem dX7_three_37 : decode cX7_three 37 = .ok (.ifnull 8, 3) := by decide +kernel
theorem dX7_three_40 : decode cX7_three 40 = .ok (.aload 6, 2) := by decide +kernel
theorem dX7_three_42 : decode cX7_three 42 = .ok (.ifnonnull 6, 3) := by decide +kernel
theorem dX7_three_45 : decode cX7_three 45 = .ok (.bipush (-2), 2) := by decide +kernel
theorem dX7_three_47 : decode cX7_three 47 = .ok (.ireturn, 1) := by decide +kernel
theorem dX7_three_48 : decode cX7_three 48 = .ok (.iload_n 1, 1) := by decide +kernel
theorem dX7_three_49 : decode cX7_three 49 = .ok (.iload_n 2, 1) := by decide +kernel
theorem dX7_three_50 : decode cX7_three 50 = .ok (.if_icmp .eq 13, 3) := by decide +kernel
theorem dX7_three_53 : decode cX7_three 53 = .ok (.iload_n 2, 1) := by decide +kernel
theorem dX7_three_54 : decode cX7_three 54 = .ok (.iload_n 3, 1) := by decide +kernel
theorem dX7_three_55 : decode cX7_three 55 = .ok (.if_icmp .eq 8, 3) := by decide +kernel
theorem dX7_three_58 : decode cX7_three 58 = .ok (.iload_n 1, 1) := by decide +kernel
theorem dX7_three_59 : decode cX7_three 59 = .ok (.iload_n 3, 1) := by decide +kernel
theorem dX7_three_60 : decode cX7_three 60 = .ok (.if_icmp .ne 6, 3) := by decide +kernel
theorem dX7_three_63 : decode cX7_three 63 = .ok (.bipush (-2), 2) := by decide +kernel
theorem dX7_three_65 : decode cX7_three 65 = .ok (.ireturn, 1) := by decide +kernel
theorem dX7_three_66 : decode cX7_three 66 = .ok (.aload 4, 2) := by decide +kernel
theorem dX7_three_68 : decode cX7_three 68 = .ok (.aload 5, 2) := by decide +kernel
theorem dX7_three_70 : decode cX7_three 70 = .ok (.invokestatic 139, 3) := by decide +kernel
theorem dX7_three_73 : decode cX7_three 73 = .ok (.aload 5, 2) := by decide +kernel
theorem dX7_three_75 : decode cX7_three 75 = .ok (.aload 6, 2) := by decide +kernel
theorem dX7_three_77 : decode cX7_three 77 = .ok (.invokestatic 139, 3) := by decide +kernel
theorem dX7_three_80 : decode cX7_three 80 = .ok (.imul, 1) := by decide +kernel
theorem dX7_three_81 : decode cX7_three 81 = .ok (.aload 4, 2) := by decide +kernel
theorem dX7_three_83 : decode cX7_three 83 = .ok (.aload 6, 2) := by decide +kernel
theorem dX7_three_85 : decode cX7_three 85 = .ok (.invokestatic 139, 3) := by decide +kernel
theorem dX7_three_88 : decode cX7_three 88 = .ok (.imul, 1) := by decide +kernel
theorem dX7_three_89 : decode cX7_three 89 = .ok (.ireturn, 1) := by decide +kernel
theorem dX7_four_0 : decode cX7_four 0 = .ok (.aload_n 0, 1) := by decide +kernel
theorem dX7_four_1 : decode cX7_four 1 = .ok (.getfield 12, 3) := by decide +kernel
theorem dX7_four_4 : decode cX7_four 4 = .ok (.iload_n 1, 1) := by decide +kernel
theorem dX7_four_5 : decode cX7_four 5 = .ok (.invokevirtual 59, 3) := by decide +kernel
theorem dX7_four_8 : decode cX7_four 8 = .ok (.astore 5, 2) := by decide +kernel
theorem dX7_four_10 : decode cX7_four 10 = .ok (.aload_n 0, 1) := by decide +kernel
theorem dX7_four_11 : decode cX7_four 11 = .ok (.getfield 12, 3) := by decide +kernel
theorem dX7_four_14 : decode cX7_four 14 = .ok (.iload_n 2, 1) := by decide +kernel
theorem dX7_four_15 : decode cX7_four 15 = .ok (.invokevirtual 59, 3) := by decide +kernel
theorem dX7_four_18 : decode cX7_four 18 = .ok (.astore 6, 2) := by decide +kernel
theorem dX7_four_20 : decode cX7_four 20 = .ok (.aload_n 0, 1) := by decide +kernel
theorem dX7_four_21 : decode cX7_four 21 = .ok (.getfield 12, 3) := by decide +kernel
theorem dX7_four_24 : decode cX7_four 24 = .ok (.iload_n 3, 1) := by decide +kernel
theorem dX7_four_25 : decode cX7_four 25 = .ok (.invokevirtual 59, 3) := by decide +kernel
theorem dX7_four_28 : decode cX7_four 28 = .ok (.astore 7, 2) := by decide +kernel
theorem dX7_four_30 : decode cX7_four 30 = .ok (.aload_n 0, 1) := by decide +kernel
theorem dX7_four_31 : decode cX7_four 31 = .ok (.getfield 12, 3) := by decide +kernel
theorem dX7_four_34 : decode cX7_four 34 = .ok (.iload 4, 2) := by decide +kernel
theorem dX7_four_36 : decode cX7_four 36 = .ok (.invokevirtual 59, 3) := by decide +kernel
theorem dX7_four_39 : decode cX7_four 39 = .ok (.astore 8, 2) := by decide +kernel
theorem dX7_four_41 : decode cX7_four 41 = .ok (.aload 5, 2) := by decide +kernel
theorem dX7_four_43 : decode cX7_four 43 = .ok (.ifnull 18, 3) := by decide +kernel
theorem dX7_four_46 : decode cX7_four 46 = .ok (.aload 6, 2) := by decide +kernel
theorem dX7_four_48 : decode cX7_four 48 = .ok (.ifnull 13, 3) := by decide +kernel
theorem dX7_four_51 : decode cX7_four 51 = .ok (.aload 7, 2) := by decide +kernel
theorem dX7_four_53 : decode cX7_four 53 = .ok (.ifnull 8, 3) := by decide +kernel
theorem dX7_four_56 : decode cX7_four 56 = .ok (.aload 8, 2) := by decide +kernel
theorem dX7_four_58 : decode cX7_four 58 = .ok (.ifnonnull 6, 3) := by decide +kernel
theorem dX7_four_61 : decode cX7_four 61 = .ok (.bipush (-2), 2) := by decide +kernel
theorem dX7_four_63 : decode cX7_four 63 = .ok (.ireturn, 1) := by decide +kernel
theorem dX7_four_64 : decode cX7_four 64 = .ok (.iload_n 1, 1) := by decide +kernel
theorem dX7_four_65 : decode cX7_four 65 = .ok (.iload_n 2, 1) := by decide +kernel
theorem dX7_four_66 : decode cX7_four 66 = .ok (.if_icmp .eq 31, 3) := by decide +kernel
theorem dX7_four_69 : decode cX7_four 69 = .ok (.iload_n 1, 1) := by decide +kernel
theorem dX7_four_70 : decode cX7_four 70 = .ok (.iload_n 3, 1) := by decide +kernel
theorem dX7_four_71 : decode cX7_four 71 = .ok (.if_icmp .eq 26, 3) := by decide +kernel
theorem dX7_four_74 : decode cX7_four 74 = .ok (.iload_n 1, 1) := by decide +kernel
theorem dX7_four_75 : decode cX7_four 75 = .ok (.iload 4, 2) := by decide +kernel
theorem dX7_four_77 : decode cX7_four 77 = .ok (.if_icmp .eq 20, 3) := by decide +kernel
theorem dX7_four_80 : decode cX7_four 80 = .ok (.iload_n 2, 1) := by decide +kernel
theorem dX7_four_81 : decode cX7_four 81 = .ok (.iload_n 3, 1) := by decide +kernel
theorem dX7_four_82 : decode cX7_four 82 = .ok (.if_icmp .eq 15, 3) := by decide +kernel
theorem dX7_four_85 : decode cX7_four 85 = .ok (.iload_n 2, 1) := by decide +kernel
theorem dX7_four_86 : decode cX7_four 86 = .ok (.iload 4, 2) := by decide +kernel
theorem dX7_four_88 : decode cX7_four 88 = .ok (.if_icmp .eq 9, 3) := by decide +kernel
theorem dX7_four_91 : decode cX7_four 91 = .ok (.iload_n 3, 1) := by decide +kernel
theorem dX7_four_92 : decode cX7_four 92 = .ok (.iload 4, 2) := by decide +kernel
theorem dX7_four_94 : decode cX7_four 94 = .ok (.if_icmp .ne 6, 3) := by decide +kernel
theorem dX7_four_97 : decode cX7_four 97 = .ok (.bipush (-2), 2) := by decide +kernel
theorem dX7_four_99 : decode cX7_four 99 = .ok (.ireturn, 1) := by decide +kernel
theorem dX7_four_100 : decode cX7_four 100 = .ok (.aload 5, 2) := by decide +kernel
theorem dX7_four_102 : decode cX7_four 102 = .ok (.aload 6, 2) := by decide +kernel
theorem dX7_four_104 : decode cX7_four 104 = .ok (.aload 6, 2) := by decide +kernel
theorem dX7_four_106 : decode cX7_four 106 = .ok (.getfield 63, 3) := by decide +kernel
theorem dX7_four_109 : decode cX7_four 109 = .ok (.invokevirtual 132, 3) := by decide +kernel
theorem dX7_four_112 : decode cX7_four 112 = .ok (.aload 7, 2) := by decide +kernel
theorem dX7_four_114 : decode cX7_four 114 = .ok (.aload 8, 2) := by decide +kernel
theorem dX7_four_116 : decode cX7_four 116 = .ok (.aload 8, 2) := by decide +kernel
theorem dX7_four_118 : decode cX7_four 118 = .ok (.getfield 63, 3) := by decide +kernel
theorem dX7_four_121 : decode cX7_four 121 = .ok (.invokevirtual 132, 3) := by decide +kernel
theorem dX7_four_124 : decode cX7_four 124 = .ok (.lmul, 1) := by decide +kernel
theorem dX7_four_125 : decode cX7_four 125 = .ok (.lstore 9, 2) := by decide +kernel
theorem dX7_four_127 : decode cX7_four 127 = .ok (.aload 5, 2) := by decide +kernel
theorem dX7_four_129 : decode cX7_four 129 = .ok (.aload 7, 2) := by decide +kernel
theorem dX7_four_131 : decode cX7_four 131 = .ok (.aload 7, 2) := by decide +kernel
theorem dX7_four_133 : decode cX7_four 133 = .ok (.getfield 63, 3) := by decide +kernel
theorem dX7_four_136 : decode cX7_four 136 = .ok (.invokevirtual 132, 3) := by decide +kernel
theorem dX7_four_139 : decode cX7_four 139 = .ok (.aload 6, 2) := by decide +kernel
theorem dX7_four_141 : decode cX7_four 141 = .ok (.aload 8, 2) := by decide +kernel
theorem dX7_four_143 : decode cX7_four 143 = .ok (.aload 8, 2) := by decide +kernel
theorem dX7_four_145 : decode cX7_four 145 = .ok (.getfield 63, 3) := by decide +kernel
theorem dX7_four_148 : decode cX7_four 148 = .ok (.invokevirtual 132, 3) := by decide +kernel
theorem dX7_four_151 : decode cX7_four 151 = .ok (.lmul, 1) := by decide +kernel
theorem dX7_four_152 : decode cX7_four 152 = .ok (.lstore 11, 2) := by decide +kernel
theorem dX7_four_154 : decode cX7_four 154 = .ok (.lload 9, 2) := by decide +kernel
theorem dX7_four_156 : decode cX7_four 156 = .ok (.lload 11, 2) := by decide +kernel
theorem dX7_four_158 : decode cX7_four 158 = .ok (.invokestatic 143, 3) := by decide +kernel
theorem dX7_four_161 : decode cX7_four 161 = .ok (.ireturn, 1) := by decide +kernel
theorem dX7_beam_0 : decode cX7_beam 0 = .ok (.iload_n 1, 1) := by decide +kernel
theorem dX7_beam_1 : decode cX7_beam 1 = .ok (.sipush (-1000), 3) := by decide +kernel
theorem dX7_beam_4 : decode cX7_beam 4 = .ok (.sipush 1000, 3) := by decide +kernel
theorem dX7_beam_7 : decode cX7_beam 7 = .ok (.invokestatic 51, 3) := by decide +kernel
theorem dX7_beam_10 : decode cX7_beam 10 = .ok (.ifCond .eq 16, 3) := by decide +kernel
theorem dX7_beam_13 : decode cX7_beam 13 = .ok (.iload_n 2, 1) := by decide +kernel
theorem dX7_beam_14 : decode cX7_beam 14 = .ok (.sipush (-1000), 3) := by decide +kernel
theorem dX7_beam_17 : decode cX7_beam 17 = .ok (.sipush 1000, 3) := by decide +kernel
theorem dX7_beam_20 : decode cX7_beam 20 = .ok (.invokestatic 51, 3) := by decide +kernel
theorem dX7_beam_23 : decode cX7_beam 23 = .ok (.ifCond .ne 6, 3) := by decide +kernel
theorem dX7_beam_26 : decode cX7_beam 26 = .ok (.ldc 97, 2) := by decide +kernel
theorem dX7_beam_28 : decode cX7_beam 28 = .ok (.ireturn, 1) := by decide +kernel
theorem dX7_beam_29 : decode cX7_beam 29 = .ok (.aload_n 0, 1) := by decide +kernel
theorem dX7_beam_30 : decode cX7_beam 30 = .ok (.getfield 19, 3) := by decide +kernel
theorem dX7_beam_33 : decode cX7_beam 33 = .ok (.aload_n 0, 1) := by decide +kernel
theorem dX7_beam_34 : decode cX7_beam 34 = .ok (.getfield 12, 3) := by decide +kernel
theorem dX7_beam_37 : decode cX7_beam 37 = .ok (.invokevirtual 149, 3) := by decide +kernel
theorem dX7_beam_40 : decode cX7_beam 40 = .ok (.aload_n 0, 1) := by decide +kernel
theorem dX7_beam_41 : decode cX7_beam 41 = .ok (.getfield 19, 3) := by decide +kernel
theorem dX7_beam_44 : decode cX7_beam 44 = .ok (.iload_n 1, 1) := by decide +kernel
theorem dX7_beam_45 : decode cX7_beam 45 = .ok (.iload_n 2, 1) := by decide +kernel
theorem dX7_beam_46 : decode cX7_beam 46 = .ok (.invokevirtual 153, 3) := by decide +kernel
theorem dX7_beam_49 : decode cX7_beam 49 = .ok (.ireturn, 1) := by decide +kernel
theorem dX7_point_0 : decode cX7_point 0 = .ok (.iload_n 1, 1) := by decide +kernel
theorem dX7_point_1 : decode cX7_point 1 = .ok (.iload_n 2, 1) := by decide +kernel
theorem dX7_point_2 : decode cX7_point 2 = .ok (.invokestatic 156, 3) := by decide +kernel
theorem dX7_point_5 : decode cX7_point 5 = .ok (.ifCond .eq 16, 3) := by decide +kernel
theorem dX7_point_8 : decode cX7_point 8 = .ok (.iload_n 3, 1) := by decide +kernel
theorem dX7_point_9 : decode cX7_point 9 = .ok (.sipush (-1000), 3) := by decide +kernel
theorem dX7_point_12 : decode cX7_point 12 = .ok (.sipush 1000, 3) := by decide +kernel
theorem dX7_point_15 : decode cX7_point 15 = .ok (.invokestatic 51, 3) := by decide +kernel
theorem dX7_point_18 : decode cX7_point 18 = .ok (.ifCond .ne 6, 3) := by decide +kernel
theorem dX7_point_21 : decode cX7_point 21 = .ok (.bipush (-2), 2) := by decide +kernel
theorem dX7_point_23 : decode cX7_point 23 = .ok (.ireturn, 1) := by decide +kernel
theorem dX7_point_24 : decode cX7_point 24 = .ok (.aload_n 0, 1) := by decide +kernel
theorem dX7_point_25 : decode cX7_point 25 = .ok (.getfield 26, 3) := by decide +kernel
theorem dX7_point_28 : decode cX7_point 28 = .ok (.iload_n 1, 1) := by decide +kernel
theorem dX7_point_29 : decode cX7_point 29 = .ok (.iload_n 2, 1) := by decide +kernel
theorem dX7_point_30 : decode cX7_point 30 = .ok (.iload_n 3, 1) := by decide +kernel
theorem dX7_point_31 : decode cX7_point 31 = .ok (.invokevirtual 159, 3) := by decide +kernel
theorem dX7_point_34 : decode cX7_point 34 = .ok (.ireturn, 1) := by decide +kernel
theorem dX7_dark_0 : decode cX7_dark 0 = .ok (.aload_n 0, 1) := by decide +kernel
theorem dX7_dark_1 : decode cX7_dark 1 = .ok (.getfield 26, 3) := by decide +kernel
theorem dX7_dark_4 : decode cX7_dark 4 = .ok (.getfield 163, 3) := by decide +kernel
theorem dX7_dark_7 : decode cX7_dark 7 = .ok (.istore_n 1, 1) := by decide +kernel
theorem dX7_dark_8 : decode cX7_dark 8 = .ok (.aload_n 0, 1) := by decide +kernel
theorem dX7_dark_9 : decode cX7_dark 9 = .ok (.getfield 26, 3) := by decide +kernel
theorem dX7_dark_12 : decode cX7_dark 12 = .ok (.iconst 0, 1) := by decide +kernel
theorem dX7_dark_13 : decode cX7_dark 13 = .ok (.putfield 163, 3) := by decide +kernel
theorem dX7_dark_16 : decode cX7_dark 16 = .ok (.iload_n 1, 1) := by decide +kernel
theorem dX7_dark_17 : decode cX7_dark 17 = .ok (.ireturn, 1) := by decide +kernel
theorem dX7_board_0 : decode cX7_board 0 = .ok (.iload_n 1, 1) := by decide +kernel
theorem dX7_board_1 : decode cX7_board 1 = .ok (.iconst 0, 1) := by decide +kernel
theorem dX7_board_2 : decode cX7_board 2 = .ok (.iconst 1, 1) := by decide +kernel
theorem dX7_board_3 : decode cX7_board 3 = .ok (.invokestatic 51, 3) := by decide +kernel
theorem dX7_board_6 : decode cX7_board 6 = .ok (.ifCond .ne 6, 3) := by decide +kernel
theorem dX7_board_9 : decode cX7_board 9 = .ok (.bipush (-2), 2) := by decide +kernel
theorem dX7_board_11 : decode cX7_board 11 = .ok (.ireturn, 1) := by decide +kernel
theorem dX7_board_12 : decode cX7_board 12 = .ok (.aload_n 0, 1) := by decide +kernel
theorem dX7_board_13 : decode cX7_board 13 = .ok (.getfield 19, 3) := by decide +kernel
theorem dX7_board_16 : decode cX7_board 16 = .ok (.aload_n 0, 1) := by decide +kernel
theorem dX7_board_17 : decode cX7_board 17 = .ok (.getfield 12, 3) := by decide +kernel
theorem dX7_board_20 : decode cX7_board 20 = .ok (.invokevirtual 149, 3) := by decide +kernel
theorem dX7_board_23 : decode cX7_board 23 = .ok (.aload_n 0, 1) := by decide +kernel
theorem dX7_board_24 : decode cX7_board 24 = .ok (.getfield 33, 3) := by decide +kernel
theorem dX7_board_27 : decode cX7_board 27 = .ok (.aload_n 0, 1) := by decide +kernel
theorem dX7_board_28 : decode cX7_board 28 = .ok (.getfield 19, 3) := by decide +kernel
theorem dX7_board_31 : decode cX7_board 31 = .ok (.invokevirtual 166, 3) := by decide +kernel
theorem dX7_board_34 : decode cX7_board 34 = .ok (.iload_n 1, 1) := by decide +kernel
theorem dX7_board_35 : decode cX7_board 35 = .ok (.ifCond .ne 17, 3) := by decide +kernel
theorem dX7_board_38 : decode cX7_board 38 = .ok (.aload_n 0, 1) := by decide +kernel
theorem dX7_board_39 : decode cX7_board 39 = .ok (.getfield 33, 3) := by decide +kernel
theorem dX7_board_42 : decode cX7_board 42 = .ok (.aload_n 0, 1) := by decide +kernel
theorem dX7_board_43 : decode cX7_board 43 = .ok (.getfield 19, 3) := by decide +kernel
theorem dX7_board_46 : decode cX7_board 46 = .ok (.invokevirtual 170, 3) := by decide +kernel
theorem dX7_board_49 : decode cX7_board 49 = .ok (.goto 14, 3) := by decide +kernel
theorem dX7_board_52 : decode cX7_board 52 = .ok (.aload_n 0, 1) := by decide +kernel
theorem dX7_board_53 : decode cX7_board 53 = .ok (.getfield 33, 3) := by decide +kernel
theorem dX7_board_56 : decode cX7_board 56 = .ok (.aload_n 0, 1) := by decide +kernel
theorem dX7_board_57 : decode cX7_board 57 = .ok (.getfield 26, 3) := by decide +kernel
theorem dX7_board_60 : decode cX7_board 60 = .ok (.invokevirtual 173, 3) := by decide +kernel
theorem dX7_board_63 : decode cX7_board 63 = .ok (.aload_n 0, 1) := by decide +kernel
theorem dX7_board_64 : decode cX7_board 64 = .ok (.getfield 19, 3) := by decide +kernel
theorem dX7_board_67 : decode cX7_board 67 = .ok (.getfield 177, 3) := by decide +kernel
theorem dX7_board_70 : decode cX7_board 70 = .ok (.ireturn, 1) := by decide +kernel
theorem dX7_at_0 : decode cX7_at 0 = .ok (.iload_n 1, 1) := by decide +kernel
theorem dX7_at_1 : decode cX7_at 1 = .ok (.iload_n 2, 1) := by decide +kernel
theorem dX7_at_2 : decode cX7_at 2 = .ok (.invokestatic 156, 3) := by decide +kernel
theorem dX7_at_5 : decode cX7_at 5 = .ok (.ifCond .ne 7, 3) := by decide +kernel
theorem dX7_at_8 : decode cX7_at 8 = .ok (.ldc2_w 130, 3) := by decide +kernel
theorem dX7_at_11 : decode cX7_at 11 = .ok (.lreturn, 1) := by decide +kernel
theorem dX7_at_12 : decode cX7_at 12 = .ok (.aload_n 0, 1) := by decide +kernel
theorem dX7_at_13 : decode cX7_at 13 = .ok (.getfield 33, 3) := by decide +kernel
theorem dX7_at_16 : decode cX7_at 16 = .ok (.getfield 178, 3) := by decide +kernel
theorem dX7_at_19 : decode cX7_at 19 = .ok (.bipush 16, 2) := by decide +kernel
theorem dX7_at_21 : decode cX7_at 21 = .ok (.iload_n 2, 1) := by decide +kernel
theorem dX7_at_22 : decode cX7_at 22 = .ok (.imul, 1) := by decide +kernel
theorem dX7_at_23 : decode cX7_at 23 = .ok (.iload_n 1, 1) := by decide +kernel
theorem dX7_at_24 : decode cX7_at 24 = .ok (.iadd, 1) := by decide +kernel
theorem dX7_at_25 : decode cX7_at 25 = .ok (.laload, 1) := by decide +kernel
theorem dX7_at_26 : decode cX7_at 26 = .ok (.lreturn, 1) := by decide +kernel
theorem dX7_window_0 : decode cX7_window 0 = .ok (.iload_n 1, 1) := by decide +kernel
theorem dX7_window_1 : decode cX7_window 1 = .ok (.iload_n 2, 1) := by decide +kernel
theorem dX7_window_2 : decode cX7_window 2 = .ok (.invokestatic 156, 3) := by decide +kernel
theorem dX7_window_5 : decode cX7_window 5 = .ok (.ifCond .eq 12, 3) := by decide +kernel
theorem dX7_window_8 : decode cX7_window 8 = .ok (.iload_n 3, 1) := by decide +kernel
theorem dX7_window_9 : decode cX7_window 9 = .ok (.iload 4, 2) := by decide +kernel
theorem dX7_window_11 : decode cX7_window 11 = .ok (.invokestatic 156, 3) := by decide +kernel
theorem dX7_window_14 : decode cX7_window 14 = .ok (.ifCond .ne 6, 3) := by decide +kernel
theorem dX7_window_17 : decode cX7_window 17 = .ok (.bipush (-2), 2) := by decide +kernel
theorem dX7_window_19 : decode cX7_window 19 = .ok (.ireturn, 1) := by decide +kernel
theorem dX7_window_20 : decode cX7_window 20 = .ok (.iload_n 1, 1) := by decide +kernel
theorem dX7_window_21 : decode cX7_window 21 = .ok (.iload_n 3, 1) := by decide +kernel
theorem dX7_window_22 : decode cX7_window 22 = .ok (.if_icmp .gt 9, 3) := by decide +kernel
theorem dX7_window_25 : decode cX7_window 25 = .ok (.iload_n 2, 1) := by decide +kernel
theorem dX7_window_26 : decode cX7_window 26 = .ok (.iload 4, 2) := by decide +kernel
theorem dX7_window_28 : decode cX7_window 28 = .ok (.if_icmp .le 6, 3) := by decide +kernel
theorem dX7_window_31 : decode cX7_window 31 = .ok (.bipush (-2), 2) := by decide +kernel
theorem dX7_window_33 : decode cX7_window 33 = .ok (.ireturn, 1) := by decide +kernel
theorem dX7_window_34 : decode cX7_window 34 = .ok (.aload_n 0, 1) := by decide +kernel
theorem dX7_window_35 : decode cX7_window 35 = .ok (.getfield 33, 3) := by decide +kernel
theorem dX7_window_38 : decode cX7_window 38 = .ok (.iload_n 1, 1) := by decide +kernel
theorem dX7_window_39 : decode cX7_window 39 = .ok (.iload_n 2, 1) := by decide +kernel
theorem dX7_window_40 : decode cX7_window 40 = .ok (.iload_n 3, 1) := by decide +kernel
theorem dX7_window_41 : decode cX7_window 41 = .ok (.iload 4, 2) := by decide +kernel
theorem dX7_window_43 : decode cX7_window 43 = .ok (.invokevirtual 182, 3) := by decide +kernel
theorem dX7_window_46 : decode cX7_window 46 = .ok (.aload_n 0, 1) := by decide +kernel
theorem dX7_window_47 : decode cX7_window 47 = .ok (.getfield 33, 3) := by decide +kernel
theorem dX7_window_50 : decode cX7_window 50 = .ok (.invokevirtual 186, 3) := by decide +kernel
theorem dX7_window_53 : decode cX7_window 53 = .ok (.ireturn, 1) := by decide +kernel
theorem dX7_peak_0 : decode cX7_peak 0 = .ok (.aload_n 0, 1) := by decide +kernel
theorem dX7_peak_1 : decode cX7_peak 1 = .ok (.getfield 33, 3) := by decide +kernel
theorem dX7_peak_4 : decode cX7_peak 4 = .ok (.invokevirtual 189, 3) := by decide +kernel
theorem dX7_peak_7 : decode cX7_peak 7 = .ok (.ireturn, 1) := by decide +kernel
theorem dX7_take_0 : decode cX7_take 0 = .ok (.iload_n 1, 1) := by decide +kernel
theorem dX7_take_1 : decode cX7_take 1 = .ok (.iconst 1, 1) := by decide +kernel
theorem dX7_take_2 : decode cX7_take 2 = .ok (.bipush 100, 2) := by decide +kernel
theorem dX7_take_4 : decode cX7_take 4 = .ok (.invokestatic 51, 3) := by decide +kernel
theorem dX7_take_7 : decode cX7_take 7 = .ok (.ifCond .eq 13, 3) := by decide +kernel
theorem dX7_take_10 : decode cX7_take 10 = .ok (.iload_n 2, 1) := by decide +kernel
theorem dX7_take_11 : decode cX7_take 11 = .ok (.iconst 1, 1) := by decide +kernel
theorem dX7_take_12 : decode cX7_take 12 = .ok (.bipush 50, 2) := by decide +kernel
theorem dX7_take_14 : decode cX7_take 14 = .ok (.invokestatic 51, 3) := by decide +kernel
theorem dX7_take_17 : decode cX7_take 17 = .ok (.ifCond .ne 6, 3) := by decide +kernel
theorem dX7_take_20 : decode cX7_take 20 = .ok (.bipush (-2), 2) := by decide +kernel
theorem dX7_take_22 : decode cX7_take 22 = .ok (.ireturn, 1) := by decide +kernel
theorem dX7_take_23 : decode cX7_take 23 = .ok (.aload_n 0, 1) := by decide +kernel
theorem dX7_take_24 : decode cX7_take 24 = .ok (.getfield 33, 3) := by decide +kernel
theorem dX7_take_27 : decode cX7_take 27 = .ok (.getfield 192, 3) := by decide +kernel
theorem dX7_take_30 : decode cX7_take 30 = .ok (.sipush 200, 3) := by decide +kernel
theorem dX7_take_33 : decode cX7_take 33 = .ok (.if_icmp .lt 6, 3) := by decide +kernel
theorem dX7_take_36 : decode cX7_take 36 = .ok (.bipush (-3), 2) := by decide +kernel
theorem dX7_take_38 : decode cX7_take 38 = .ok (.ireturn, 1) := by decide +kernel
theorem dX7_take_39 : decode cX7_take 39 = .ok (.aload_n 0, 1) := by decide +kernel
theorem dX7_take_40 : decode cX7_take 40 = .ok (.getfield 33, 3) := by decide +kernel
theorem dX7_take_43 : decode cX7_take 43 = .ok (.iload_n 1, 1) := by decide +kernel
theorem dX7_take_44 : decode cX7_take 44 = .ok (.iload_n 2, 1) := by decide +kernel
theorem dX7_take_45 : decode cX7_take 45 = .ok (.invokevirtual 195, 3) := by decide +kernel
theorem dX7_take_48 : decode cX7_take 48 = .ok (.aload_n 0, 1) := by decide +kernel
theorem dX7_take_49 : decode cX7_take 49 = .ok (.getfield 33, 3) := by decide +kernel
theorem dX7_take_52 : decode cX7_take 52 = .ok (.getfield 192, 3) := by decide +kernel
theorem dX7_take_55 : decode cX7_take 55 = .ok (.ireturn, 1) := by decide +kernel
theorem dX7_part_0 : decode cX7_part 0 = .ok (.iload_n 1, 1) := by decide +kernel
theorem dX7_part_1 : decode cX7_part 1 = .ok (.iconst 0, 1) := by decide +kernel
theorem dX7_part_2 : decode cX7_part 2 = .ok (.aload_n 0, 1) := by decide +kernel
theorem dX7_part_3 : decode cX7_part 3 = .ok (.getfield 33, 3) := by decide +kernel
theorem dX7_part_6 : decode cX7_part 6 = .ok (.getfield 192, 3) := by decide +kernel
theorem dX7_part_9 : decode cX7_part 9 = .ok (.iconst 1, 1) := by decide +kernel
theorem dX7_part_10 : decode cX7_part 10 = .ok (.isub, 1) := by decide +kernel
theorem dX7_part_11 : decode cX7_part 11 = .ok (.invokestatic 51, 3) := by decide +kernel
theorem dX7_part_14 : decode cX7_part 14 = .ok (.ifCond .eq 12, 3) := by decide +kernel
theorem dX7_part_17 : decode cX7_part 17 = .ok (.iload_n 2, 1) := by decide +kernel
theorem dX7_part_18 : decode cX7_part 18 = .ok (.iconst 0, 1) := by decide +kernel
theorem dX7_part_19 : decode cX7_part 19 = .ok (.iconst 1, 1) := by decide +kernel
theorem dX7_part_20 : decode cX7_part 20 = .ok (.invokestatic 51, 3) := by decide +kernel
theorem dX7_part_23 : decode cX7_part 23 = .ok (.ifCond .ne 7, 3) := by decide +kernel
theorem dX7_part_26 : decode cX7_part 26 = .ok (.ldc2_w 130, 3) := by decide +kernel
theorem dX7_part_29 : decode cX7_part 29 = .ok (.lreturn, 1) := by decide +kernel
theorem dX7_part_30 : decode cX7_part 30 = .ok (.iload_n 2, 1) := by decide +kernel
theorem dX7_part_31 : decode cX7_part 31 = .ok (.ifCond .ne 16, 3) := by decide +kernel
theorem dX7_part_34 : decode cX7_part 34 = .ok (.aload_n 0, 1) := by decide +kernel
theorem dX7_part_35 : decode cX7_part 35 = .ok (.getfield 33, 3) := by decide +kernel
theorem dX7_part_38 : decode cX7_part 38 = .ok (.getfield 198, 3) := by decide +kernel
theorem dX7_part_41 : decode cX7_part 41 = .ok (.iload_n 1, 1) := by decide +kernel
theorem dX7_part_42 : decode cX7_part 42 = .ok (.iaload, 1) := by decide +kernel
theorem dX7_part_43 : decode cX7_part 43 = .ok (.i2l, 1) := by decide +kernel
theorem dX7_part_44 : decode cX7_part 44 = .ok (.goto 12, 3) := by decide +kernel
theorem dX7_part_47 : decode cX7_part 47 = .ok (.aload_n 0, 1) := by decide +kernel
theorem dX7_part_48 : decode cX7_part 48 = .ok (.getfield 33, 3) := by decide +kernel
theorem dX7_part_51 : decode cX7_part 51 = .ok (.getfield 201, 3) := by decide +kernel
theorem dX7_part_54 : decode cX7_part 54 = .ok (.iload_n 1, 1) := by decide +kernel
theorem dX7_part_55 : decode cX7_part 55 = .ok (.laload, 1) := by decide +kernel
theorem dX7_part_56 : decode cX7_part 56 = .ok (.lreturn, 1) := by decide +kernel
theorem dX7_back_0 : decode cX7_back 0 = .ok (.aload_n 0, 1) := by decide +kernel
theorem dX7_back_1 : decode cX7_back 1 = .ok (.getfield 33, 3) := by decide +kernel
theorem dX7_back_4 : decode cX7_back 4 = .ok (.getfield 192, 3) := by decide +kernel
theorem dX7_back_7 : decode cX7_back 7 = .ok (.ifCond .gt 6, 3) := by decide +kernel
theorem dX7_back_10 : decode cX7_back 10 = .ok (.bipush (-4), 2) := by decide +kernel
theorem dX7_back_12 : decode cX7_back 12 = .ok (.ireturn, 1) := by decide +kernel
theorem dX7_back_13 : decode cX7_back 13 = .ok (.aload_n 0, 1) := by decide +kernel
theorem dX7_back_14 : decode cX7_back 14 = .ok (.getfield 33, 3) := by decide +kernel
theorem dX7_back_17 : decode cX7_back 17 = .ok (.invokevirtual 204, 3) := by decide +kernel
theorem dX7_back_20 : decode cX7_back 20 = .ok (.aload_n 0, 1) := by decide +kernel
theorem dX7_back_21 : decode cX7_back 21 = .ok (.getfield 33, 3) := by decide +kernel
theorem dX7_back_24 : decode cX7_back 24 = .ok (.getfield 192, 3) := by decide +kernel
theorem dX7_back_27 : decode cX7_back 27 = .ok (.ireturn, 1) := by decide +kernel
theorem dX7_source_0 : decode cX7_source 0 = .ok (.iload_n 1, 1) := by decide +kernel
theorem dX7_source_1 : decode cX7_source 1 = .ok (.iconst 0, 1) := by decide +kernel
theorem dX7_source_2 : decode cX7_source 2 = .ok (.bipush 7, 2) := by decide +kernel
theorem dX7_source_4 : decode cX7_source 4 = .ok (.invokestatic 51, 3) := by decide +kernel
theorem dX7_source_7 : decode cX7_source 7 = .ok (.ifCond .ne 6, 3) := by decide +kernel
theorem dX7_source_10 : decode cX7_source 10 = .ok (.bipush (-2), 2) := by decide +kernel
theorem dX7_source_12 : decode cX7_source 12 = .ok (.ireturn, 1) := by decide +kernel
theorem dX7_source_13 : decode cX7_source 13 = .ok (.iload_n 2, 1) := by decide +kernel
theorem dX7_source_14 : decode cX7_source 14 = .ok (.ifCond .lt 15, 3) := by decide +kernel
theorem dX7_source_17 : decode cX7_source 17 = .ok (.iload_n 3, 1) := by decide +kernel
theorem dX7_source_18 : decode cX7_source 18 = .ok (.sipush 1440, 3) := by decide +kernel
theorem dX7_source_21 : decode cX7_source 21 = .ok (.if_icmp .gt 8, 3) := by decide +kernel
theorem dX7_source_24 : decode cX7_source 24 = .ok (.iload_n 2, 1) := by decide +kernel
theorem dX7_source_25 : decode cX7_source 25 = .ok (.iload_n 3, 1) := by decide +kernel
theorem dX7_source_26 : decode cX7_source 26 = .ok (.if_icmp .lt 6, 3) := by decide +kernel
theorem dX7_source_29 : decode cX7_source 29 = .ok (.bipush (-2), 2) := by decide +kernel
theorem dX7_source_31 : decode cX7_source 31 = .ok (.ireturn, 1) := by decide +kernel
theorem dX7_source_32 : decode cX7_source 32 = .ok (.aload_n 0, 1) := by decide +kernel
theorem dX7_source_33 : decode cX7_source 33 = .ok (.getfield 40, 3) := by decide +kernel
theorem dX7_source_36 : decode cX7_source 36 = .ok (.getfield 207, 3) := by decide +kernel
theorem dX7_source_39 : decode cX7_source 39 = .ok (.iload_n 1, 1) := by decide +kernel
theorem dX7_source_40 : decode cX7_source 40 = .ok (.iload_n 2, 1) := by decide +kernel
theorem dX7_source_41 : decode cX7_source 41 = .ok (.iastore, 1) := by decide +kernel
theorem dX7_source_42 : decode cX7_source 42 = .ok (.aload_n 0, 1) := by decide +kernel
theorem dX7_source_43 : decode cX7_source 43 = .ok (.getfield 40, 3) := by decide +kernel
theorem dX7_source_46 : decode cX7_source 46 = .ok (.getfield 210, 3) := by decide +kernel
theorem dX7_source_49 : decode cX7_source 49 = .ok (.iload_n 1, 1) := by decide +kernel
theorem dX7_source_50 : decode cX7_source 50 = .ok (.iload_n 3, 1) := by decide +kernel
theorem dX7_source_51 : decode cX7_source 51 = .ok (.iastore, 1) := by decide +kernel
theorem dX7_source_52 : decode cX7_source 52 = .ok (.iconst 1, 1) := by decide +kernel
theorem dX7_source_53 : decode cX7_source 53 = .ok (.ireturn, 1) := by decide +kernel
theorem dX7_order_0 : decode cX7_order 0 = .ok (.aload_n 0, 1) := by decide +kernel
theorem dX7_order_1 : decode cX7_order 1 = .ok (.getfield 40, 3) := by decide +kernel
theorem dX7_order_4 : decode cX7_order 4 = .ok (.iload_n 1, 1) := by decide +kernel
theorem dX7_order_5 : decode cX7_order 5 = .ok (.iload_n 2, 1) := by decide +kernel
theorem dX7_order_6 : decode cX7_order 6 = .ok (.iload_n 3, 1) := by decide +kernel
theorem dX7_order_7 : decode cX7_order 7 = .ok (.invokevirtual 213, 3) := by decide +kernel
theorem dX7_order_10 : decode cX7_order 10 = .ok (.ifCond .ne 6, 3) := by decide +kernel
theorem dX7_order_13 : decode cX7_order 13 = .ok (.bipush (-2), 2) := by decide +kernel
theorem dX7_order_15 : decode cX7_order 15 = .ok (.ireturn, 1) := by decide +kernel
theorem dX7_order_16 : decode cX7_order 16 = .ok (.aload_n 0, 1) := by decide +kernel
theorem dX7_order_17 : decode cX7_order 17 = .ok (.getfield 40, 3) := by decide +kernel
theorem dX7_order_20 : decode cX7_order 20 = .ok (.iload_n 1, 1) := by decide +kernel
theorem dX7_order_21 : decode cX7_order 21 = .ok (.iload_n 2, 1) := by decide +kernel
theorem dX7_order_22 : decode cX7_order 22 = .ok (.iload_n 3, 1) := by decide +kernel
theorem dX7_order_23 : decode cX7_order 23 = .ok (.invokevirtual 216, 3) := by decide +kernel
theorem dX7_order_26 : decode cX7_order 26 = .ok (.ireturn, 1) := by decide +kernel
theorem dX7_wipe_0 : decode cX7_wipe 0 = .ok (.aload_n 0, 1) := by decide +kernel
theorem dX7_wipe_1 : decode cX7_wipe 1 = .ok (.getfield 40, 3) := by decide +kernel
theorem dX7_wipe_4 : decode cX7_wipe 4 = .ok (.getfield 217, 3) := by decide +kernel
theorem dX7_wipe_7 : decode cX7_wipe 7 = .ok (.istore_n 1, 1) := by decide +kernel
theorem dX7_wipe_8 : decode cX7_wipe 8 = .ok (.aload_n 0, 1) := by decide +kernel
theorem dX7_wipe_9 : decode cX7_wipe 9 = .ok (.getfield 40, 3) := by decide +kernel
theorem dX7_wipe_12 : decode cX7_wipe 12 = .ok (.iconst 0, 1) := by decide +kernel
theorem dX7_wipe_13 : decode cX7_wipe 13 = .ok (.putfield 217, 3) := by decide +kernel
theorem dX7_wipe_16 : decode cX7_wipe 16 = .ok (.iload_n 1, 1) := by decide +kernel
theorem dX7_wipe_17 : decode cX7_wipe 17 = .ok (.ireturn, 1) := by decide +kernel
theorem dX7_night_0 : decode cX7_night 0 = .ok (.iload_n 1, 1) := by decide +kernel
theorem dX7_night_1 : decode cX7_night 1 = .ok (.iconst 0, 1) := by decide +kernel
theorem dX7_night_2 : decode cX7_night 2 = .ok (.ldc 218, 2) := by decide +kernel
theorem dX7_night_4 : decode cX7_night 4 = .ok (.invokestatic 51, 3) := by decide +kernel
theorem dX7_night_7 : decode cX7_night 7 = .ok (.ifCond .ne 6, 3) := by decide +kernel
theorem dX7_night_10 : decode cX7_night 10 = .ok (.bipush (-2), 2) := by decide +kernel
theorem dX7_night_12 : decode cX7_night 12 = .ok (.ireturn, 1) := by decide +kernel
theorem dX7_night_13 : decode cX7_night 13 = .ok (.aload_n 0, 1) := by decide +kernel
theorem dX7_night_14 : decode cX7_night 14 = .ok (.getfield 47, 3) := by decide +kernel
theorem dX7_night_17 : decode cX7_night 17 = .ok (.aload_n 0, 1) := by decide +kernel
theorem dX7_night_18 : decode cX7_night 18 = .ok (.getfield 40, 3) := by decide +kernel
theorem dX7_night_21 : decode cX7_night 21 = .ok (.iload_n 1, 1) := by decide +kernel
theorem dX7_night_22 : decode cX7_night 22 = .ok (.invokevirtual 219, 3) := by decide +kernel
theorem dX7_night_25 : decode cX7_night 25 = .ok (.ireturn, 1) := by decide +kernel
theorem dX7_told_0 : decode cX7_told 0 = .ok (.iload_n 1, 1) := by decide +kernel
theorem dX7_told_1 : decode cX7_told 1 = .ok (.bipush 10, 2) := by decide +kernel
theorem dX7_told_3 : decode cX7_told 3 = .ok (.isub, 1) := by decide +kernel
theorem dX7_told_4 : decode cX7_told 4 = .ok (.istore_n 2, 1) := by decide +kernel
theorem dX7_told_5 : decode cX7_told 5 = .ok (.iload_n 2, 1) := by decide +kernel
theorem dX7_told_6 : decode cX7_told 6 = .ok (.ifCond .lt 19, 3) := by decide +kernel
theorem dX7_told_9 : decode cX7_told 9 = .ok (.iload_n 2, 1) := by decide +kernel
theorem dX7_told_10 : decode cX7_told 10 = .ok (.bipush 8, 2) := by decide +kernel
theorem dX7_told_12 : decode cX7_told 12 = .ok (.if_icmp .ge 13, 3) := by decide +kernel
theorem dX7_told_15 : decode cX7_told 15 = .ok (.aload_n 0, 1) := by decide +kernel
theorem dX7_told_16 : decode cX7_told 16 = .ok (.getfield 47, 3) := by decide +kernel
theorem dX7_told_19 : decode cX7_told 19 = .ok (.getfield 223, 3) := by decide +kernel
theorem dX7_told_22 : decode cX7_told 22 = .ok (.iload_n 2, 1) := by decide +kernel
theorem dX7_told_23 : decode cX7_told 23 = .ok (.iaload, 1) := by decide +kernel
theorem dX7_told_24 : decode cX7_told 24 = .ok (.ireturn, 1) := by decide +kernel
theorem dX7_told_25 : decode cX7_told 25 = .ok (.iload_n 1, 1) := by decide +kernel
theorem dX7_told_26 : decode cX7_told 26 = .ok (.tableswitch 86 0 5 #[38, 46, 54, 62, 70, 78], 38) := by decide +kernel
theorem dX7_told_64 : decode cX7_told 64 = .ok (.aload_n 0, 1) := by decide +kernel
theorem dX7_told_65 : decode cX7_told 65 = .ok (.getfield 47, 3) := by decide +kernel
theorem dX7_told_68 : decode cX7_told 68 = .ok (.getfield 226, 3) := by decide +kernel
theorem dX7_told_71 : decode cX7_told 71 = .ok (.ireturn, 1) := by decide +kernel
theorem dX7_told_72 : decode cX7_told 72 = .ok (.aload_n 0, 1) := by decide +kernel
theorem dX7_told_73 : decode cX7_told 73 = .ok (.getfield 47, 3) := by decide +kernel
theorem dX7_told_76 : decode cX7_told 76 = .ok (.getfield 229, 3) := by decide +kernel
theorem dX7_told_79 : decode cX7_told 79 = .ok (.ireturn, 1) := by decide +kernel
theorem dX7_told_80 : decode cX7_told 80 = .ok (.aload_n 0, 1) := by decide +kernel
theorem dX7_told_81 : decode cX7_told 81 = .ok (.getfield 47, 3) := by decide +kernel
theorem dX7_told_84 : decode cX7_told 84 = .ok (.getfield 232, 3) := by decide +kernel
theorem dX7_told_87 : decode cX7_told 87 = .ok (.ireturn, 1) := by decide +kernel
theorem dX7_told_88 : decode cX7_told 88 = .ok (.aload_n 0, 1) := by decide +kernel
theorem dX7_told_89 : decode cX7_told 89 = .ok (.getfield 47, 3) := by decide +kernel
theorem dX7_told_92 : decode cX7_told 92 = .ok (.getfield 235, 3) := by decide +kernel
theorem dX7_told_95 : decode cX7_told 95 = .ok (.ireturn, 1) := by decide +kernel
theorem dX7_told_96 : decode cX7_told 96 = .ok (.aload_n 0, 1) := by decide +kernel
theorem dX7_told_97 : decode cX7_told 97 = .ok (.getfield 47, 3) := by decide +kernel
theorem dX7_told_100 : decode cX7_told 100 = .ok (.getfield 238, 3) := by decide +kernel
theorem dX7_told_103 : decode cX7_told 103 = .ok (.ireturn, 1) := by decide +kernel
theorem dX7_told_104 : decode cX7_told 104 = .ok (.aload_n 0, 1) := by decide +kernel
theorem dX7_told_105 : decode cX7_told 105 = .ok (.getfield 47, 3) := by decide +kernel
theorem dX7_told_108 : decode cX7_told 108 = .ok (.getfield 241, 3) := by decide +kernel
theorem dX7_told_111 : decode cX7_told 111 = .ok (.ireturn, 1) := by decide +kernel
theorem dX7_told_112 : decode cX7_told 112 = .ok (.bipush (-2), 2) := by decide +kernel
theorem dX7_told_114 : decode cX7_told 114 = .ok (.ireturn, 1) := by decide +kernel
theorem dX7_count_0 : decode cX7_count 0 = .ok (.iload_n 1, 1) := by decide +kernel
theorem dX7_count_1 : decode cX7_count 1 = .ok (.tableswitch 96 0 6 #[43, 51, 59, 67, 75, 83, 91], 43) := by decide +kernel
theorem dX7_count_44 : decode cX7_count 44 = .ok (.aload_n 0, 1) := by decide +kernel
theorem dX7_count_45 : decode cX7_count 45 = .ok (.getfield 12, 3) := by decide +kernel
theorem dX7_count_48 : decode cX7_count 48 = .ok (.getfield 244, 3) := by decide +kernel
theorem dX7_count_51 : decode cX7_count 51 = .ok (.ireturn, 1) := by decide +kernel
theorem dX7_count_52 : decode cX7_count 52 = .ok (.aload_n 0, 1) := by decide +kernel
theorem dX7_count_53 : decode cX7_count 53 = .ok (.getfield 12, 3) := by decide +kernel
theorem dX7_count_56 : decode cX7_count 56 = .ok (.getfield 245, 3) := by decide +kernel
theorem dX7_count_59 : decode cX7_count 59 = .ok (.ireturn, 1) := by decide +kernel
theorem dX7_count_60 : decode cX7_count 60 = .ok (.aload_n 0, 1) := by decide +kernel
theorem dX7_count_61 : decode cX7_count 61 = .ok (.getfield 26, 3) := by decide +kernel
theorem dX7_count_64 : decode cX7_count 64 = .ok (.getfield 163, 3) := by decide +kernel
theorem dX7_count_67 : decode cX7_count 67 = .ok (.ireturn, 1) := by decide +kernel
theorem dX7_count_68 : decode cX7_count 68 = .ok (.aload_n 0, 1) := by decide +kernel
theorem dX7_count_69 : decode cX7_count 69 = .ok (.getfield 33, 3) := by decide +kernel
theorem dX7_count_72 : decode cX7_count 72 = .ok (.getfield 192, 3) := by decide +kernel
theorem dX7_count_75 : decode cX7_count 75 = .ok (.ireturn, 1) := by decide +kernel
theorem dX7_count_76 : decode cX7_count 76 = .ok (.aload_n 0, 1) := by decide +kernel
theorem dX7_count_77 : decode cX7_count 77 = .ok (.getfield 40, 3) := by decide +kernel
theorem dX7_count_80 : decode cX7_count 80 = .ok (.getfield 217, 3) := by decide +kernel
theorem dX7_count_83 : decode cX7_count 83 = .ok (.ireturn, 1) := by decide +kernel
theorem dX7_count_84 : decode cX7_count 84 = .ok (.aload_n 0, 1) := by decide +kernel
theorem dX7_count_85 : decode cX7_count 85 = .ok (.getfield 33, 3) := by decide +kernel
theorem dX7_count_88 : decode cX7_count 88 = .ok (.invokevirtual 186, 3) := by decide +kernel
theorem dX7_count_91 : decode cX7_count 91 = .ok (.ireturn, 1) := by decide +kernel
theorem dX7_count_92 : decode cX7_count 92 = .ok (.aload_n 0, 1) := by decide +kernel
theorem dX7_count_93 : decode cX7_count 93 = .ok (.getfield 248, 3) := by decide +kernel
theorem dX7_count_96 : decode cX7_count 96 = .ok (.ireturn, 1) := by decide +kernel
theorem dX7_count_97 : decode cX7_count 97 = .ok (.bipush (-2), 2) := by decide +kernel
theorem dX7_count_99 : decode cX7_count 99 = .ok (.ireturn, 1) := by decide +kernel
theorem dX7_digest_0 : decode cX7_digest 0 = .ok (.ldc2_w 251, 3) := by decide +kernel
theorem dX7_digest_3 : decode cX7_digest 3 = .ok (.lstore_n 1, 1) := by decide +kernel
theorem dX7_digest_4 : decode cX7_digest 4 = .ok (.iconst 0, 1) := by decide +kernel
theorem dX7_digest_5 : decode cX7_digest 5 = .ok (.istore_n 3, 1) := by decide +kernel
theorem dX7_digest_6 : decode cX7_digest 6 = .ok (.iload_n 3, 1) := by decide +kernel
theorem dX7_digest_7 : decode cX7_digest 7 = .ok (.iconst 5, 1) := by decide +kernel
theorem dX7_digest_8 : decode cX7_digest 8 = .ok (.if_icmp .gt 22, 3) := by decide +kernel
theorem dX7_digest_11 : decode cX7_digest 11 = .ok (.ldc2_w 253, 3) := by decide +kernel
theorem dX7_digest_14 : decode cX7_digest 14 = .ok (.lload_n 1, 1) := by decide +kernel
theorem dX7_digest_15 : decode cX7_digest 15 = .ok (.lmul, 1) := by decide +kernel
theorem dX7_digest_16 : decode cX7_digest 16 = .ok (.aload_n 0, 1) := by decide +kernel
theorem dX7_digest_17 : decode cX7_digest 17 = .ok (.iload_n 3, 1) := by decide +kernel
theorem dX7_digest_18 : decode cX7_digest 18 = .ok (.invokevirtual 255, 3) := by decide +kernel
theorem dX7_digest_21 : decode cX7_digest 21 = .ok (.i2l, 1) := by decide +kernel
theorem dX7_digest_22 : decode cX7_digest 22 = .ok (.ladd, 1) := by decide +kernel
theorem dX7_digest_23 : decode cX7_digest 23 = .ok (.lstore_n 1, 1) := by decide +kernel
theorem dX7_digest_24 : decode cX7_digest 24 = .ok (.iinc 3 1, 3) := by decide +kernel
theorem dX7_digest_27 : decode cX7_digest 27 = .ok (.goto (-21), 3) := by decide +kernel
theorem dX7_digest_30 : decode cX7_digest 30 = .ok (.iconst 0, 1) := by decide +kernel
theorem dX7_digest_31 : decode cX7_digest 31 = .ok (.istore_n 3, 1) := by decide +kernel
theorem dX7_digest_32 : decode cX7_digest 32 = .ok (.iload_n 3, 1) := by decide +kernel
theorem dX7_digest_33 : decode cX7_digest 33 = .ok (.aload_n 0, 1) := by decide +kernel
theorem dX7_digest_34 : decode cX7_digest 34 = .ok (.getfield 12, 3) := by decide +kernel
theorem dX7_digest_37 : decode cX7_digest 37 = .ok (.getfield 244, 3) := by decide +kernel
theorem dX7_digest_40 : decode cX7_digest 40 = .ok (.if_icmp .ge 61, 3) := by decide +kernel
theorem dX7_digest_43 : decode cX7_digest 43 = .ok (.iload_n 3, 1) := by decide +kernel
theorem dX7_digest_44 : decode cX7_digest 44 = .ok (.iconst 1, 1) := by decide +kernel
theorem dX7_digest_45 : decode cX7_digest 45 = .ok (.iadd, 1) := by decide +kernel
theorem dX7_digest_46 : decode cX7_digest 46 = .ok (.istore 4, 2) := by decide +kernel
theorem dX7_digest_48 : decode cX7_digest 48 = .ok (.iload 4, 2) := by decide +kernel
theorem dX7_digest_50 : decode cX7_digest 50 = .ok (.aload_n 0, 1) := by decide +kernel
theorem dX7_digest_51 : decode cX7_digest 51 = .ok (.getfield 12, 3) := by decide +kernel
theorem dX7_digest_54 : decode cX7_digest 54 = .ok (.getfield 244, 3) := by decide +kernel
theorem dX7_digest_57 : decode cX7_digest 57 = .ok (.if_icmp .ge 38, 3) := by decide +kernel
theorem dX7_digest_60 : decode cX7_digest 60 = .ok (.ldc2_w 253, 3) := by decide +kernel
theorem dX7_digest_63 : decode cX7_digest 63 = .ok (.lload_n 1, 1) := by decide +kernel
theorem dX7_digest_64 : decode cX7_digest 64 = .ok (.lmul, 1) := by decide +kernel
theorem dX7_digest_65 : decode cX7_digest 65 = .ok (.aload_n 0, 1) := by decide +kernel
theorem dX7_digest_66 : decode cX7_digest 66 = .ok (.iload_n 3, 1) := by decide +kernel
theorem dX7_digest_67 : decode cX7_digest 67 = .ok (.iload 4, 2) := by decide +kernel
theorem dX7_digest_69 : decode cX7_digest 69 = .ok (.invokevirtual 258, 3) := by decide +kernel
theorem dX7_digest_72 : decode cX7_digest 72 = .ok (.i2l, 1) := by decide +kernel
theorem dX7_digest_73 : decode cX7_digest 73 = .ok (.ladd, 1) := by decide +kernel
theorem dX7_digest_74 : decode cX7_digest 74 = .ok (.lstore_n 1, 1) := by decide +kernel
theorem dX7_digest_75 : decode cX7_digest 75 = .ok (.ldc2_w 253, 3) := by decide +kernel
theorem dX7_digest_78 : decode cX7_digest 78 = .ok (.lload_n 1, 1) := by decide +kernel
theorem dX7_digest_79 : decode cX7_digest 79 = .ok (.lmul, 1) := by decide +kernel
theorem dX7_digest_80 : decode cX7_digest 80 = .ok (.aload_n 0, 1) := by decide +kernel
theorem dX7_digest_81 : decode cX7_digest 81 = .ok (.iload_n 3, 1) := by decide +kernel
theorem dX7_digest_82 : decode cX7_digest 82 = .ok (.iload 4, 2) := by decide +kernel
theorem dX7_digest_84 : decode cX7_digest 84 = .ok (.invokevirtual 261, 3) := by decide +kernel
theorem dX7_digest_87 : decode cX7_digest 87 = .ok (.ladd, 1) := by decide +kernel
theorem dX7_digest_88 : decode cX7_digest 88 = .ok (.lstore_n 1, 1) := by decide +kernel
theorem dX7_digest_89 : decode cX7_digest 89 = .ok (.iinc 4 1, 3) := by decide +kernel
theorem dX7_digest_92 : decode cX7_digest 92 = .ok (.goto (-44), 3) := by decide +kernel
theorem dX7_digest_95 : decode cX7_digest 95 = .ok (.iinc 3 1, 3) := by decide +kernel
theorem dX7_digest_98 : decode cX7_digest 98 = .ok (.goto (-66), 3) := by decide +kernel
theorem dX7_digest_101 : decode cX7_digest 101 = .ok (.iconst 0, 1) := by decide +kernel
theorem dX7_digest_102 : decode cX7_digest 102 = .ok (.istore_n 3, 1) := by decide +kernel
theorem dX7_digest_103 : decode cX7_digest 103 = .ok (.iload_n 3, 1) := by decide +kernel
theorem dX7_digest_104 : decode cX7_digest 104 = .ok (.sipush 256, 3) := by decide +kernel
theorem dX7_digest_107 : decode cX7_digest 107 = .ok (.if_icmp .ge 25, 3) := by decide +kernel
theorem dX7_digest_110 : decode cX7_digest 110 = .ok (.ldc2_w 253, 3) := by decide +kernel
theorem dX7_digest_113 : decode cX7_digest 113 = .ok (.lload_n 1, 1) := by decide +kernel
theorem dX7_digest_114 : decode cX7_digest 114 = .ok (.lmul, 1) := by decide +kernel
theorem dX7_digest_115 : decode cX7_digest 115 = .ok (.aload_n 0, 1) := by decide +kernel
theorem dX7_digest_116 : decode cX7_digest 116 = .ok (.getfield 33, 3) := by decide +kernel
theorem dX7_digest_119 : decode cX7_digest 119 = .ok (.getfield 178, 3) := by decide +kernel
theorem dX7_digest_122 : decode cX7_digest 122 = .ok (.iload_n 3, 1) := by decide +kernel
theorem dX7_digest_123 : decode cX7_digest 123 = .ok (.laload, 1) := by decide +kernel
theorem dX7_digest_124 : decode cX7_digest 124 = .ok (.ladd, 1) := by decide +kernel
theorem dX7_digest_125 : decode cX7_digest 125 = .ok (.lstore_n 1, 1) := by decide +kernel
theorem dX7_digest_126 : decode cX7_digest 126 = .ok (.iinc 3 1, 3) := by decide +kernel
theorem dX7_digest_129 : decode cX7_digest 129 = .ok (.goto (-26), 3) := by decide +kernel
theorem dX7_digest_132 : decode cX7_digest 132 = .ok (.lload_n 1, 1) := by decide +kernel
theorem dX7_digest_133 : decode cX7_digest 133 = .ok (.lreturn, 1) := by decide +kernel
theorem dX7_foundOut_0 : decode cX7_foundOut 0 = .ok (.aload_n 0, 1) := by decide +kernel
theorem dX7_foundOut_1 : decode cX7_foundOut 1 = .ok (.iload_n 1, 1) := by decide +kernel
theorem dX7_foundOut_2 : decode cX7_foundOut 2 = .ok (.putfield 248, 3) := by decide +kernel
theorem dX7_foundOut_5 : decode cX7_foundOut 5 = .ok (.bipush (-10), 2) := by decide +kernel
theorem dX7_foundOut_7 : decode cX7_foundOut 7 = .ok (.iload_n 1, 1) := by decide +kernel
theorem dX7_foundOut_8 : decode cX7_foundOut 8 = .ok (.isub, 1) := by decide +kernel
theorem dX7_foundOut_9 : decode cX7_foundOut 9 = .ok (.ireturn, 1) := by decide +kernel
theorem dX7_isWithin_0 : decode cX7_isWithin 0 = .ok (.iload_n 0, 1) := by decide +kernel
theorem dX7_isWithin_1 : decode cX7_isWithin 1 = .ok (.iload_n 1, 1) := by decide +kernel
theorem dX7_isWithin_2 : decode cX7_isWithin 2 = .ok (.if_icmp .lt 12, 3) := by decide +kernel
theorem dX7_isWithin_5 : decode cX7_isWithin 5 = .ok (.iload_n 0, 1) := by decide +kernel
theorem dX7_isWithin_6 : decode cX7_isWithin 6 = .ok (.iload_n 2, 1) := by decide +kernel
theorem dX7_isWithin_7 : decode cX7_isWithin 7 = .ok (.if_icmp .gt 7, 3) := by decide +kernel
theorem dX7_isWithin_10 : decode cX7_isWithin 10 = .ok (.iconst 1, 1) := by decide +kernel
theorem dX7_isWithin_11 : decode cX7_isWithin 11 = .ok (.goto 4, 3) := by decide +kernel
theorem dX7_isWithin_14 : decode cX7_isWithin 14 = .ok (.iconst 0, 1) := by decide +kernel
theorem dX7_isWithin_15 : decode cX7_isWithin 15 = .ok (.ireturn, 1) := by decide +kernel
theorem dX7_isForm_0 : decode cX7_isForm 0 = .ok (.iload_n 0, 1) := by decide +kernel
theorem dX7_isForm_1 : decode cX7_isForm 1 = .ok (.ifCond .lt 12, 3) := by decide +kernel
theorem dX7_isForm_4 : decode cX7_isForm 4 = .ok (.iload_n 0, 1) := by decide +kernel
theorem dX7_isForm_5 : decode cX7_isForm 5 = .ok (.iconst 2, 1) := by decide +kernel
theorem dX7_isForm_6 : decode cX7_isForm 6 = .ok (.if_icmp .gt 7, 3) := by decide +kernel
theorem dX7_isForm_9 : decode cX7_isForm 9 = .ok (.iconst 1, 1) := by decide +kernel
theorem dX7_isForm_10 : decode cX7_isForm 10 = .ok (.goto 4, 3) := by decide +kernel
theorem dX7_isForm_13 : decode cX7_isForm 13 = .ok (.iconst 0, 1) := by decide +kernel
theorem dX7_isForm_14 : decode cX7_isForm 14 = .ok (.ireturn, 1) := by decide +kernel
theorem dX7_isCell_0 : decode cX7_isCell 0 = .ok (.iload_n 0, 1) := by decide +kernel
theorem dX7_isCell_1 : decode cX7_isCell 1 = .ok (.ifCond .lt 23, 3) := by decide +kernel
theorem dX7_isCell_4 : decode cX7_isCell 4 = .ok (.iload_n 0, 1) := by decide +kernel
theorem dX7_isCell_5 : decode cX7_isCell 5 = .ok (.bipush 16, 2) := by decide +kernel
theorem dX7_isCell_7 : decode cX7_isCell 7 = .ok (.if_icmp .ge 17, 3) := by decide +kernel
theorem dX7_isCell_10 : decode cX7_isCell 10 = .ok (.iload_n 1, 1) := by decide +kernel
theorem dX7_isCell_11 : decode cX7_isCell 11 = .ok (.ifCond .lt 13, 3) := by decide +kernel
theorem dX7_isCell_14 : decode cX7_isCell 14 = .ok (.iload_n 1, 1) := by decide +kernel
theorem dX7_isCell_15 : decode cX7_isCell 15 = .ok (.bipush 16, 2) := by decide +kernel
theorem dX7_isCell_17 : decode cX7_isCell 17 = .ok (.if_icmp .ge 7, 3) := by decide +kernel
theorem dX7_isCell_20 : decode cX7_isCell 20 = .ok (.iconst 1, 1) := by decide +kernel
theorem dX7_isCell_21 : decode cX7_isCell 21 = .ok (.goto 4, 3) := by decide +kernel
theorem dX7_isCell_24 : decode cX7_isCell 24 = .ok (.iconst 0, 1) := by decide +kernel
theorem dX7_isCell_25 : decode cX7_isCell 25 = .ok (.ireturn, 1) := by decide +kernel
theorem dX7_signOf_0 : decode cX7_signOf 0 = .ok (.aload_n 0, 1) := by decide +kernel
theorem dX7_signOf_1 : decode cX7_signOf 1 = .ok (.aload_n 1, 1) := by decide +kernel
theorem dX7_signOf_2 : decode cX7_signOf 2 = .ok (.aload_n 1, 1) := by decide +kernel
theorem dX7_signOf_3 : decode cX7_signOf 3 = .ok (.getfield 63, 3) := by decide +kernel
theorem dX7_signOf_6 : decode cX7_signOf 6 = .ok (.invokevirtual 132, 3) := by decide +kernel
theorem dX7_signOf_9 : decode cX7_signOf 9 = .ok (.lconst 0, 1) := by decide +kernel
theorem dX7_signOf_10 : decode cX7_signOf 10 = .ok (.invokestatic 143, 3) := by decide +kernel
theorem dX7_signOf_13 : decode cX7_signOf 13 = .ok (.ireturn, 1) := by decide +kernel
theorem dJ13_compare_74951_0 : decode cJ13_compare_74951 0 = .ok (.lload_n 0, 1) := by decide +kernel
theorem dJ13_compare_74951_1 : decode cJ13_compare_74951 1 = .ok (.lload_n 2, 1) := by decide +kernel
theorem dJ13_compare_74951_2 : decode cJ13_compare_74951 2 = .ok (.lcmp, 1) := by decide +kernel
theorem dJ13_compare_74951_3 : decode cJ13_compare_74951 3 = .ok (.ifCond .ge 7, 3) := by decide +kernel
theorem dJ13_compare_74951_6 : decode cJ13_compare_74951 6 = .ok (.iconst (-1), 1) := by decide +kernel
theorem dJ13_compare_74951_7 : decode cJ13_compare_74951 7 = .ok (.goto 14, 3) := by decide +kernel
theorem dJ13_compare_74951_10 : decode cJ13_compare_74951 10 = .ok (.lload_n 0, 1) := by decide +kernel
theorem dJ13_compare_74951_11 : decode cJ13_compare_74951 11 = .ok (.lload_n 2, 1) := by decide +kernel
theorem dJ13_compare_74951_12 : decode cJ13_compare_74951 12 = .ok (.lcmp, 1) := by decide +kernel
theorem dJ13_compare_74951_13 : decode cJ13_compare_74951 13 = .ok (.ifCond .ne 7, 3) := by decide +kernel
theorem dJ13_compare_74951_16 : decode cJ13_compare_74951 16 = .ok (.iconst 0, 1) := by decide +kernel
theorem dJ13_compare_74951_17 : decode cJ13_compare_74951 17 = .ok (.goto 4, 3) := by decide +kernel
theorem dJ13_compare_74951_20 : decode cJ13_compare_74951 20 = .ok (.iconst 1, 1) := by decide +kernel
theorem dJ13_compare_74951_21 : decode cJ13_compare_74951 21 = .ok (.ireturn, 1) := by decide +kernel
theorem dJ9_abs_0f7a4_0 : decode cJ9_abs_0f7a4 0 = .ok (.iload_n 0, 1) := by decide +kernel
theorem dJ9_abs_0f7a4_1 : decode cJ9_abs_0f7a4 1 = .ok (.ifCond .ge 8, 3) := by decide +kernel
theorem dJ9_abs_0f7a4_4 : decode cJ9_abs_0f7a4 4 = .ok (.iload_n 0, 1) := by decide +kernel
theorem dJ9_abs_0f7a4_5 : decode cJ9_abs_0f7a4 5 = .ok (.ineg, 1) := by decide +kernel
theorem dJ9_abs_0f7a4_6 : decode cJ9_abs_0f7a4 6 = .ok (.goto 4, 3) := by decide +kernel
theorem dJ9_abs_0f7a4_9 : decode cJ9_abs_0f7a4 9 = .ok (.iload_n 0, 1) := by decide +kernel
theorem dJ9_abs_0f7a4_10 : decode cJ9_abs_0f7a4 10 = .ok (.ireturn, 1) := by decide +kernel
theorem dJ9_abs_067f4_0 : decode cJ9_abs_067f4 0 = .ok (.lload_n 0, 1) := by decide +kernel
theorem dJ9_abs_067f4_1 : decode cJ9_abs_067f4 1 = .ok (.lconst 0, 1) := by decide +kernel
theorem dJ9_abs_067f4_2 : decode cJ9_abs_067f4 2 = .ok (.lcmp, 1) := by decide +kernel
theorem dJ9_abs_067f4_3 : decode cJ9_abs_067f4 3 = .ok (.ifCond .ge 8, 3) := by decide +kernel
theorem dJ9_abs_067f4_6 : decode cJ9_abs_067f4 6 = .ok (.lload_n 0, 1) := by decide +kernel
theorem dJ9_abs_067f4_7 : decode cJ9_abs_067f4 7 = .ok (.lneg, 1) := by decide +kernel
theorem dJ9_abs_067f4_8 : decode cJ9_abs_067f4 8 = .ok (.goto 4, 3) := by decide +kernel
theorem dJ9_abs_067f4_11 : decode cJ9_abs_067f4 11 = .ok (.lload_n 0, 1) := by decide +kernel
theorem dJ9_abs_067f4_12 : decode cJ9_abs_067f4 12 = .ok (.lreturn, 1) := by decide +kernel
theorem dJ9_max_7cf53_0 : decode cJ9_max_7cf53 0 = .ok (.iload_n 0, 1) := by decide +kernel
theorem dJ9_max_7cf53_1 : decode cJ9_max_7cf53 1 = .ok (.iload_n 1, 1) := by decide +kernel
theorem dJ9_max_7cf53_2 : decode cJ9_max_7cf53 2 = .ok (.if_icmp .lt 7, 3) := by decide +kernel
theorem dJ9_max_7cf53_5 : decode cJ9_max_7cf53 5 = .ok (.iload_n 0, 1) := by decide +kernel
theorem dJ9_max_7cf53_6 : decode cJ9_max_7cf53 6 = .ok (.goto 4, 3) := by decide +kernel
theorem dJ9_max_7cf53_9 : decode cJ9_max_7cf53 9 = .ok (.iload_n 1, 1) := by decide +kernel
theorem dJ9_max_7cf53_10 : decode cJ9_max_7cf53 10 = .ok (.ireturn, 1) := by decide +kernel
theorem dJ9_min_7cf53_0 : decode cJ9_min_7cf53 0 = .ok (.iload_n 0, 1) := by decide +kernel
theorem dJ9_min_7cf53_1 : decode cJ9_min_7cf53 1 = .ok (.iload_n 1, 1) := by decide +kernel
theorem dJ9_min_7cf53_2 : decode cJ9_min_7cf53 2 = .ok (.if_icmp .gt 7, 3) := by decide +kernel
theorem dJ9_min_7cf53_5 : decode cJ9_min_7cf53 5 = .ok (.iload_n 0, 1) := by decide +kernel
theorem dJ9_min_7cf53_6 : decode cJ9_min_7cf53 6 = .ok (.goto 4, 3) := by decide +kernel
theorem dJ9_min_7cf53_9 : decode cJ9_min_7cf53 9 = .ok (.iload_n 1, 1) := by decide +kernel
theorem dJ9_min_7cf53_10 : decode cJ9_min_7cf53 10 = .ok (.ireturn, 1) := by decide +kernel
theorem dJ7_fill_d0a16_0 : decode cJ7_fill_d0a16 0 = .ok (.iconst 0, 1) := by decide +kernel
theorem dJ7_fill_d0a16_1 : decode cJ7_fill_d0a16 1 = .ok (.istore_n 3, 1) := by decide +kernel
theorem dJ7_fill_d0a16_2 : decode cJ7_fill_d0a16 2 = .ok (.aload_n 0, 1) := by decide +kernel
theorem dJ7_fill_d0a16_3 : decode cJ7_fill_d0a16 3 = .ok (.arraylength, 1) := by decide +kernel
theorem dJ7_fill_d0a16_4 : decode cJ7_fill_d0a16 4 = .ok (.istore 4, 2) := by decide +kernel
theorem dJ7_fill_d0a16_6 : decode cJ7_fill_d0a16 6 = .ok (.iload_n 3, 1) := by decide +kernel
theorem dJ7_fill_d0a16_7 : decode cJ7_fill_d0a16 7 = .ok (.iload 4, 2) := by decide +kernel
theorem dJ7_fill_d0a16_9 : decode cJ7_fill_d0a16 9 = .ok (.if_icmp .ge 13, 3) := by decide +kernel
theorem dJ7_fill_d0a16_12 : decode cJ7_fill_d0a16 12 = .ok (.aload_n 0, 1) := by decide +kernel
theorem dJ7_fill_d0a16_13 : decode cJ7_fill_d0a16 13 = .ok (.iload_n 3, 1) := by decide +kernel
theorem dJ7_fill_d0a16_14 : decode cJ7_fill_d0a16 14 = .ok (.lload_n 1, 1) := by decide +kernel
theorem dJ7_fill_d0a16_15 : decode cJ7_fill_d0a16 15 = .ok (.lastore, 1) := by decide +kernel
theorem dJ7_fill_d0a16_16 : decode cJ7_fill_d0a16 16 = .ok (.iinc 3 1, 3) := by decide +kernel
theorem dJ7_fill_d0a16_19 : decode cJ7_fill_d0a16 19 = .ok (.goto (-13), 3) := by decide +kernel
theorem dJ7_fill_d0a16_22 : decode cJ7_fill_d0a16 22 = .ok (.return_, 1) := by decide +kernel
theorem dJ7_fill_53178_0 : decode cJ7_fill_53178 0 = .ok (.iconst 0, 1) := by decide +kernel
theorem dJ7_fill_53178_1 : decode cJ7_fill_53178 1 = .ok (.istore_n 2, 1) := by decide +kernel
theorem dJ7_fill_53178_2 : decode cJ7_fill_53178 2 = .ok (.aload_n 0, 1) := by decide +kernel
theorem dJ7_fill_53178_3 : decode cJ7_fill_53178 3 = .ok (.arraylength, 1) := by decide +kernel
theorem dJ7_fill_53178_4 : decode cJ7_fill_53178 4 = .ok (.istore_n 3, 1) := by decide +kernel
theorem dJ7_fill_53178_5 : decode cJ7_fill_53178 5 = .ok (.iload_n 2, 1) := by decide +kernel
theorem dJ7_fill_53178_6 : decode cJ7_fill_53178 6 = .ok (.iload_n 3, 1) := by decide +kernel
theorem dJ7_fill_53178_7 : decode cJ7_fill_53178 7 = .ok (.if_icmp .ge 13, 3) := by decide +kernel
theorem dJ7_fill_53178_10 : decode cJ7_fill_53178 10 = .ok (.aload_n 0, 1) := by decide +kernel
theorem dJ7_fill_53178_11 : decode cJ7_fill_53178 11 = .ok (.iload_n 2, 1) := by decide +kernel
theorem dJ7_fill_53178_12 : decode cJ7_fill_53178 12 = .ok (.iload_n 1, 1) := by decide +kernel
theorem dJ7_fill_53178_13 : decode cJ7_fill_53178 13 = .ok (.iastore, 1) := by decide +kernel
theorem dJ7_fill_53178_14 : decode cJ7_fill_53178 14 = .ok (.iinc 2 1, 3) := by decide +kernel
theorem dJ7_fill_53178_17 : decode cJ7_fill_53178 17 = .ok (.goto (-12), 3) := by decide +kernel
theorem dJ7_fill_53178_20 : decode cJ7_fill_53178 20 = .ok (.return_, 1) := by decide +kernel
end
section
theorem dX8_init_0 : decode cX8_init 0 = .ok (.aload_n 0, 1) := by decide +kernel
theorem dX8_init_1 : decode cX8_init 1 = .ok (.invokespecial 1, 3) := by decide +kernel
theorem dX8_init_4 : decode cX8_init 4 = .ok (.aload_n 0, 1) := by decide +kernel
theorem dX8_init_5 : decode cX8_init 5 = .ok (.bipush 6, 2) := by decide +kernel
theorem dX8_init_7 : decode cX8_init 7 = .ok (.newarray .int, 2) := by decide +kernel
theorem dX8_init_9 : decode cX8_init 9 = .ok (.putfield 7, 3) := by decide +kernel
theorem dX8_init_12 : decode cX8_init 12 = .ok (.aload_n 0, 1) := by decide +kernel
theorem dX8_init_13 : decode cX8_init 13 = .ok (.bipush 6, 2) := by decide +kernel
theorem dX8_init_15 : decode cX8_init 15 = .ok (.newarray .int, 2) := by decide +kernel
theorem dX8_init_17 : decode cX8_init 17 = .ok (.putfield 13, 3) := by decide +kernel
theorem dX8_init_20 : decode cX8_init 20 = .ok (.aload_n 0, 1) := by decide +kernel
theorem dX8_init_21 : decode cX8_init 21 = .ok (.bipush 6, 2) := by decide +kernel
theorem dX8_init_23 : decode cX8_init 23 = .ok (.newarray .int, 2) := by decide +kernel
theorem dX8_init_25 : decode cX8_init 25 = .ok (.putfield 16, 3) := by decide +kernel
theorem dX8_init_28 : decode cX8_init 28 = .ok (.aload_n 0, 1) := by decide +kernel
theorem dX8_init_29 : decode cX8_init 29 = .ok (.bipush 6, 2) := by decide +kernel
theorem dX8_init_31 : decode cX8_init 31 = .ok (.newarray .int, 2) := by decide +kernel
theorem dX8_init_33 : decode cX8_init 33 = .ok (.putfield 19, 3) := by decide +kernel
theorem dX8_init_36 : decode cX8_init 36 = .ok (.aload_n 0, 1) := by decide +kernel
theorem dX8_init_37 : decode cX8_init 37 = .ok (.bipush 6, 2) := by decide +kernel
theorem dX8_init_39 : decode cX8_init 39 = .ok (.newarray .boolean, 2) := by decide +kernel
theorem dX8_init_41 : decode cX8_init 41 = .ok (.putfield 22, 3) := by decide +kernel
theorem dX8_init_44 : decode cX8_init 44 = .ok (.aload_n 0, 1) := by decide +kernel
theorem dX8_init_45 : decode cX8_init 45 = .ok (.bipush 6, 2) := by decide +kernel
theorem dX8_init_47 : decode cX8_init 47 = .ok (.newarray .int, 2) := by decide +kernel
theorem dX8_init_49 : decode cX8_init 49 = .ok (.putfield 26, 3) := by decide +kernel
theorem dX8_init_52 : decode cX8_init 52 = .ok (.aload_n 0, 1) := by decide +kernel
theorem dX8_init_53 : decode cX8_init 53 = .ok (.bipush 6, 2) := by decide +kernel
theorem dX8_init_55 : decode cX8_init 55 = .ok (.newarray .int, 2) := by decide +kernel
theorem dX8_init_57 : decode cX8_init 57 = .ok (.putfield 29, 3) := by decide +kernel
theorem dX8_init_60 : decode cX8_init 60 = .ok (.aload_n 0, 1) := by decide +kernel
theorem dX8_init_61 : decode cX8_init 61 = .ok (.sipush 600, 3) := by decide +kernel
theorem dX8_init_64 : decode cX8_init 64 = .ok (.newarray .int, 2) := by decide +kernel
theorem dX8_init_66 : decode cX8_init 66 = .ok (.putfield 32, 3) := by decide +kernel
theorem dX8_init_69 : decode cX8_init 69 = .ok (.aload_n 0, 1) := by decide +kernel
theorem dX8_init_70 : decode cX8_init 70 = .ok (.bipush 100, 2) := by decide +kernel
theorem dX8_init_72 : decode cX8_init 72 = .ok (.newarray .int, 2) := by decide +kernel
theorem dX8_init_74 : decode cX8_init 74 = .ok (.putfield 35, 3) := by decide +kernel
theorem dX8_init_77 : decode cX8_init 77 = .ok (.aload_n 0, 1) := by decide +kernel
theorem dX8_init_78 : decode cX8_init 78 = .ok (.bipush 40, 2) := by decide +kernel
theorem dX8_init_80 : decode cX8_init 80 = .ok (.newarray .int, 2) := by decide +kernel
theorem dX8_init_82 : decode cX8_init 82 = .ok (.putfield 38, 3) := by decide +kernel
theorem dX8_init_85 : decode cX8_init 85 = .ok (.aload_n 0, 1) := by decide +kernel
theorem dX8_init_86 : decode cX8_init 86 = .ok (.bipush 40, 2) := by decide +kernel
theorem dX8_init_88 : decode cX8_init 88 = .ok (.newarray .int, 2) := by decide +kernel
theorem dX8_init_90 : decode cX8_init 90 = .ok (.putfield 41, 3) := by decide +kernel
theorem dX8_init_93 : decode cX8_init 93 = .ok (.aload_n 0, 1) := by decide +kernel
theorem dX8_init_94 : decode cX8_init 94 = .ok (.bipush 40, 2) := by decide +kernel
theorem dX8_init_96 : decode cX8_init 96 = .ok (.newarray .int, 2) := by decide +kernel
theorem dX8_init_98 : decode cX8_init 98 = .ok (.putfield 44, 3) := by decide +kernel
theorem dX8_init_101 : decode cX8_init 101 = .ok (.aload_n 0, 1) := by decide +kernel
theorem dX8_init_102 : decode cX8_init 102 = .ok (.bipush 16, 2) := by decide +kernel
theorem dX8_init_104 : decode cX8_init 104 = .ok (.newarray .int, 2) := by decide +kernel
theorem dX8_init_106 : decode cX8_init 106 = .ok (.putfield 47, 3) := by decide +kernel
theorem dX8_init_109 : decode cX8_init 109 = .ok (.aload_n 0, 1) := by decide +kernel
theorem dX8_init_110 : decode cX8_init 110 = .ok (.sipush 256, 3) := by decide +kernel
theorem dX8_init_113 : decode cX8_init 113 = .ok (.newarray .long, 2) := by decide +kernel
theorem dX8_init_115 : decode cX8_init 115 = .ok (.putfield 50, 3) := by decide +kernel
theorem dX8_init_118 : decode cX8_init 118 = .ok (.aload_n 0, 1) := by decide +kernel
theorem dX8_init_119 : decode cX8_init 119 = .ok (.bipush 15, 2) := by decide +kernel
theorem dX8_init_121 : decode cX8_init 121 = .ok (.newarray .int, 2) := by decide +kernel
theorem dX8_init_123 : decode cX8_init 123 = .ok (.putfield 54, 3) := by decide +kernel
theorem dX8_init_126 : decode cX8_init 126 = .ok (.aload_n 0, 1) := by decide +kernel
theorem dX8_init_127 : decode cX8_init 127 = .ok (.bipush 15, 2) := by decide +kernel
theorem dX8_init_129 : decode cX8_init 129 = .ok (.newarray .int, 2) := by decide +kernel
theorem dX8_init_131 : decode cX8_init 131 = .ok (.putfield 57, 3) := by decide +kernel
theorem dX8_init_134 : decode cX8_init 134 = .ok (.aload_n 0, 1) := by decide +kernel
theorem dX8_init_135 : decode cX8_init 135 = .ok (.bipush 15, 2) := by decide +kernel
theorem dX8_init_137 : decode cX8_init 137 = .ok (.newarray .long, 2) := by decide +kernel
theorem dX8_init_139 : decode cX8_init 139 = .ok (.putfield 60, 3) := by decide +kernel
theorem dX8_init_142 : decode cX8_init 142 = .ok (.aload_n 0, 1) := by decide +kernel
theorem dX8_init_143 : decode cX8_init 143 = .ok (.bipush 15, 2) := by decide +kernel
theorem dX8_init_145 : decode cX8_init 145 = .ok (.newarray .int, 2) := by decide +kernel
theorem dX8_init_147 : decode cX8_init 147 = .ok (.putfield 63, 3) := by decide +kernel
theorem dX8_init_150 : decode cX8_init 150 = .ok (.aload_n 0, 1) := by decide +kernel
theorem dX8_init_151 : decode cX8_init 151 = .ok (.bipush 15, 2) := by decide +kernel
theorem dX8_init_153 : decode cX8_init 153 = .ok (.newarray .int, 2) := by decide +kernel
theorem dX8_init_155 : decode cX8_init 155 = .ok (.putfield 66, 3) := by decide +kernel
theorem dX8_init_158 : decode cX8_init 158 = .ok (.aload_n 0, 1) := by decide +kernel
theorem dX8_init_159 : decode cX8_init 159 = .ok (.bipush 10, 2) := by decide +kernel
theorem dX8_init_161 : decode cX8_init 161 = .ok (.newarray .int, 2) := by decide +kernel
theorem dX8_init_163 : decode cX8_init 163 = .ok (.putfield 69, 3) := by decide +kernel
theorem dX8_init_166 : decode cX8_init 166 = .ok (.aload_n 0, 1) := by decide +kernel
theorem dX8_init_167 : decode cX8_init 167 = .ok (.bipush 10, 2) := by decide +kernel
theorem dX8_init_169 : decode cX8_init 169 = .ok (.newarray .int, 2) := by decide +kernel
theorem dX8_init_171 : decode cX8_init 171 = .ok (.putfield 72, 3) := by decide +kernel
theorem dX8_init_174 : decode cX8_init 174 = .ok (.aload_n 0, 1) := by decide +kernel
theorem dX8_init_175 : decode cX8_init 175 = .ok (.bipush 10, 2) := by decide +kernel
theorem dX8_init_177 : decode cX8_init 177 = .ok (.newarray .int, 2) := by decide +kernel
theorem dX8_init_179 : decode cX8_init 179 = .ok (.putfield 75, 3) := by decide +kernel
theorem dX8_init_182 : decode cX8_init 182 = .ok (.aload_n 0, 1) := by decide +kernel
theorem dX8_init_183 : decode cX8_init 183 = .ok (.sipush 200, 3) := by decide +kernel
theorem dX8_init_186 : decode cX8_init 186 = .ok (.newarray .int, 2) := by decide +kernel
theorem dX8_init_188 : decode cX8_init 188 = .ok (.putfield 78, 3) := by decide +kernel
theorem dX8_init_191 : decode cX8_init 191 = .ok (.aload_n 0, 1) := by decide +kernel
theorem dX8_init_192 : decode cX8_init 192 = .ok (.sipush 200, 3) := by decide +kernel
theorem dX8_init_195 : decode cX8_init 195 = .ok (.newarray .long, 2) := by decide +kernel
theorem dX8_init_197 : decode cX8_init 197 = .ok (.putfield 81, 3) := by decide +kernel
theorem dX8_init_200 : decode cX8_init 200 = .ok (.aload_n 0, 1) := by decide +kernel
theorem dX8_init_201 : decode cX8_init 201 = .ok (.bipush 8, 2) := by decide +kernel
theorem dX8_init_203 : decode cX8_init 203 = .ok (.newarray .boolean, 2) := by decide +kernel
theorem dX8_init_205 : decode cX8_init 205 = .ok (.putfield 84, 3) := by decide +kernel
theorem dX8_init_208 : decode cX8_init 208 = .ok (.aload_n 0, 1) := by decide +kernel
theorem dX8_init_209 : decode cX8_init 209 = .ok (.bipush 8, 2) := by decide +kernel
theorem dX8_init_211 : decode cX8_init 211 = .ok (.newarray .int, 2) := by decide +kernel
theorem dX8_init_213 : decode cX8_init 213 = .ok (.putfield 87, 3) := by decide +kernel
theorem dX8_init_216 : decode cX8_init 216 = .ok (.aload_n 0, 1) := by decide +kernel
theorem dX8_init_217 : decode cX8_init 217 = .ok (.bipush 8, 2) := by decide +kernel
theorem dX8_init_219 : decode cX8_init 219 = .ok (.newarray .int, 2) := by decide +kernel
theorem dX8_init_221 : decode cX8_init 221 = .ok (.putfield 90, 3) := by decide +kernel
theorem dX8_init_224 : decode cX8_init 224 = .ok (.aload_n 0, 1) := by decide +kernel
theorem dX8_init_225 : decode cX8_init 225 = .ok (.bipush 60, 2) := by decide +kernel
theorem dX8_init_227 : decode cX8_init 227 = .ok (.newarray .int, 2) := by decide +kernel
theorem dX8_init_229 : decode cX8_init 229 = .ok (.putfield 93, 3) := by decide +kernel
theorem dX8_init_232 : decode cX8_init 232 = .ok (.aload_n 0, 1) := by decide +kernel
theorem dX8_init_233 : decode cX8_init 233 = .ok (.bipush 60, 2) := by decide +kernel
theorem dX8_init_235 : decode cX8_init 235 = .ok (.newarray .int, 2) := by decide +kernel
theorem dX8_init_237 : decode cX8_init 237 = .ok (.putfield 96, 3) := by decide +kernel
theorem dX8_init_240 : decode cX8_init 240 = .ok (.aload_n 0, 1) := by decide +kernel
theorem dX8_init_241 : decode cX8_init 241 = .ok (.bipush 60, 2) := by decide +kernel
theorem dX8_init_243 : decode cX8_init 243 = .ok (.newarray .int, 2) := by decide +kernel
theorem dX8_init_245 : decode cX8_init 245 = .ok (.putfield 99, 3) := by decide +kernel
theorem dX8_init_248 : decode cX8_init 248 = .ok (.aload_n 0, 1) := by decide +kernel
theorem dX8_init_249 : decode cX8_init 249 = .ok (.bipush 60, 2) := by decide +kernel
theorem dX8_init_251 : decode cX8_init 251 = .ok (.newarray .int, 2) := by decide +kernel
theorem dX8_init_253 : decode cX8_init 253 = .ok (.putfield 102, 3) := by decide +kernel
theorem dX8_init_256 : decode cX8_init 256 = .ok (.aload_n 0, 1) := by decide +kernel
theorem dX8_init_257 : decode cX8_init 257 = .ok (.iconst (-1), 1) := by decide +kernel
theorem dX8_init_258 : decode cX8_init 258 = .ok (.putfield 105, 3) := by decide +kernel
theorem dX8_init_261 : decode cX8_init 261 = .ok (.aload_n 0, 1) := by decide +kernel
theorem dX8_init_262 : decode cX8_init 262 = .ok (.bipush 8, 2) := by decide +kernel
theorem dX8_init_264 : decode cX8_init 264 = .ok (.newarray .int, 2) := by decide +kernel
theorem dX8_init_266 : decode cX8_init 266 = .ok (.putfield 109, 3) := by decide +kernel
theorem dX8_init_269 : decode cX8_init 269 = .ok (.aload_n 0, 1) := by decide +kernel
theorem dX8_init_270 : decode cX8_init 270 = .ok (.getfield 47, 3) := by decide +kernel
theorem dX8_init_273 : decode cX8_init 273 = .ok (.iconst 0, 1) := by decide +kernel
theorem dX8_init_274 : decode cX8_init 274 = .ok (.sipush 1000, 3) := by decide +kernel
theorem dX8_init_277 : decode cX8_init 277 = .ok (.iastore, 1) := by decide +kernel
theorem dX8_init_278 : decode cX8_init 278 = .ok (.aload_n 0, 1) := by decide +kernel
theorem dX8_init_279 : decode cX8_init 279 = .ok (.getfield 47, 3) := by decide +kernel
theorem dX8_init_282 : decode cX8_init 282 = .ok (.bipush 8, 2) := by decide +kernel
theorem dX8_init_284 : decode cX8_init 284 = .ok (.sipush (-1000), 3) := by decide +kernel
theorem dX8_init_287 : decode cX8_init 287 = .ok (.iastore, 1) := by decide +kernel
theorem dX8_init_288 : decode cX8_init 288 = .ok (.aload_n 0, 1) := by decide +kernel
theorem dX8_init_289 : decode cX8_init 289 = .ok (.getfield 47, 3) := by decide +kernel
theorem dX8_init_292 : decode cX8_init 292 = .ok (.iconst 1, 1) := by decide +kernel
theorem dX8_init_293 : decode cX8_init 293 = .ok (.sipush 924, 3) := by decide +kernel
theorem dX8_init_296 : decode cX8_init 296 = .ok (.iastore, 1) := by decide +kernel
theorem dX8_init_297 : decode cX8_init 297 = .ok (.aload_n 0, 1) := by decide +kernel
theorem dX8_init_298 : decode cX8_init 298 = .ok (.getfield 47, 3) := by decide +kernel
theorem dX8_init_301 : decode cX8_init 301 = .ok (.iconst 2, 1) := by decide +kernel
theorem dX8_init_302 : decode cX8_init 302 = .ok (.sipush 707, 3) := by decide +kernel
theorem dX8_init_305 : decode cX8_init 305 = .ok (.iastore, 1) := by decide +kernel
theorem dX8_init_306 : decode cX8_init 306 = .ok (.aload_n 0, 1) := by decide +kernel
theorem dX8_init_307 : decode cX8_init 307 = .ok (.getfield 47, 3) := by decide +kernel
theorem dX8_init_310 : decode cX8_init 310 = .ok (.iconst 3, 1) := by decide +kernel
theorem dX8_init_311 : decode cX8_init 311 = .ok (.sipush 383, 3) := by decide +kernel
theorem dX8_init_314 : decode cX8_init 314 = .ok (.iastore, 1) := by decide +kernel
theorem dX8_init_315 : decode cX8_init 315 = .ok (.aload_n 0, 1) := by decide +kernel
theorem dX8_init_316 : decode cX8_init 316 = .ok (.getfield 47, 3) := by decide +kernel
theorem dX8_init_319 : decode cX8_init 319 = .ok (.iconst 4, 1) := by decide +kernel
theorem dX8_init_320 : decode cX8_init 320 = .ok (.iconst 0, 1) := by decide +kernel
theorem dX8_init_321 : decode cX8_init 321 = .ok (.iastore, 1) := by decide +kernel
theorem dX8_init_322 : decode cX8_init 322 = .ok (.aload_n 0, 1) := by decide +kernel
theorem dX8_init_323 : decode cX8_init 323 = .ok (.getfield 47, 3) := by decide +kernel
theorem dX8_init_326 : decode cX8_init 326 = .ok (.iconst 5, 1) := by decide +kernel
theorem dX8_init_327 : decode cX8_init 327 = .ok (.sipush (-383), 3) := by decide +kernel
theorem dX8_init_330 : decode cX8_init 330 = .ok (.iastore, 1) := by decide +kernel
theorem dX8_init_331 : decode cX8_init 331 = .ok (.aload_n 0, 1) := by decide +kernel
theorem dX8_init_332 : decode cX8_init 332 = .ok (.getfield 47, 3) := by decide +kernel
theorem dX8_init_335 : decode cX8_init 335 = .ok (.bipush 6, 2) := by decide +kernel
theorem dX8_init_337 : decode cX8_init 337 = .ok (.sipush (-707), 3) := by decide +kernel
theorem dX8_init_340 : decode cX8_init 340 = .ok (.iastore, 1) := by decide +kernel
theorem dX8_init_341 : decode cX8_init 341 = .ok (.aload_n 0, 1) := by decide +kernel
theorem dX8_init_342 : decode cX8_init 342 = .ok (.getfield 47, 3) := by decide +kernel
theorem dX8_init_345 : decode cX8_init 345 = .ok (.bipush 7, 2) := by decide +kernel
theorem dX8_init_347 : decode cX8_init 347 = .ok (.sipush (-924), 3) := by decide +kernel
theorem dX8_init_350 : decode cX8_init 350 = .ok (.iastore, 1) := by decide +kernel
theorem dX8_init_351 : decode cX8_init 351 = .ok (.bipush 9, 2) := by decide +kernel
theorem dX8_init_353 : decode cX8_init 353 = .ok (.istore_n 1, 1) := by decide +kernel
theorem dX8_init_354 : decode cX8_init 354 = .ok (.iload_n 1, 1) := by decide +kernel
theorem dX8_init_355 : decode cX8_init 355 = .ok (.bipush 16, 2) := by decide +kernel
theorem dX8_init_357 : decode cX8_init 357 = .ok (.if_icmp .ge 24, 3) := by decide +kernel
theorem dX8_init_360 : decode cX8_init 360 = .ok (.aload_n 0, 1) := by decide +kernel
theorem dX8_init_361 : decode cX8_init 361 = .ok (.getfield 47, 3) := by decide +kernel
theorem dX8_init_364 : decode cX8_init 364 = .ok (.iload_n 1, 1) := by decide +kernel
theorem dX8_init_365 : decode cX8_init 365 = .ok (.aload_n 0, 1) := by decide +kernel
theorem dX8_init_366 : decode cX8_init 366 = .ok (.getfield 47, 3) := by decide +kernel
theorem dX8_init_369 : decode cX8_init 369 = .ok (.bipush 16, 2) := by decide +kernel
theorem dX8_init_371 : decode cX8_init 371 = .ok (.iload_n 1, 1) := by decide +kernel
theorem dX8_init_372 : decode cX8_init 372 = .ok (.isub, 1) := by decide +kernel
theorem dX8_init_373 : decode cX8_init 373 = .ok (.iaload, 1) := by decide +kernel
theorem dX8_init_374 : decode cX8_init 374 = .ok (.iastore, 1) := by decide +kernel
theorem dX8_init_375 : decode cX8_init 375 = .ok (.iinc 1 1, 3) := by decide +kernel
theorem dX8_init_378 : decode cX8_init 378 = .ok (.goto (-24), 3) := by decide +kernel
theorem dX8_init_381 : decode cX8_init 381 = .ok (.aload_n 0, 1) := by decide +kernel
theorem dX8_init_382 : decode cX8_init 382 = .ok (.invokevirtual 112, 3) := by decide +kernel
theorem dX8_init_385 : decode cX8_init 385 = .ok (.return_, 1) := by decide +kernel
theorem dX8_in_0 : decode cX8_in 0 = .ok (.lload_n 0, 1) := by decide +kernel
theorem dX8_in_1 : decode cX8_in 1 = .ok (.lload_n 2, 1) := by decide +kernel
theorem dX8_in_2 : decode cX8_in 2 = .ok (.lcmp, 1) := by decide +kernel
theorem dX8_in_3 : decode cX8_in 3 = .ok (.ifCond .lt 14, 3) := by decide +kernel
theorem dX8_in_6 : decode cX8_in 6 = .ok (.lload_n 0, 1) := by decide +kernel
theorem dX8_in_7 : decode cX8_in 7 = .ok (.lload 4, 2) := by decide +kernel
theorem dX8_in_9 : decode cX8_in 9 = .ok (.lcmp, 1) := by decide +kernel
theorem dX8_in_10 : decode cX8_in 10 = .ok (.ifCond .gt 7, 3) := by decide +kernel
theorem dX8_in_13 : decode cX8_in 13 = .ok (.iconst 1, 1) := by decide +kernel
theorem dX8_in_14 : decode cX8_in 14 = .ok (.goto 4, 3) := by decide +kernel
theorem dX8_in_17 : decode cX8_in 17 = .ok (.iconst 0, 1) := by decide +kernel
theorem dX8_in_18 : decode cX8_in 18 = .ok (.ireturn, 1) := by decide +kernel
theorem dX8_meets_0 : decode cX8_meets 0 = .ok (.aload_n 0, 1) := by decide +kernel
theorem dX8_meets_1 : decode cX8_meets 1 = .ok (.iload_n 1, 1) := by decide +kernel
theorem dX8_meets_2 : decode cX8_meets 2 = .ok (.putfield 115, 3) := by decide +kernel
theorem dX8_meets_5 : decode cX8_meets 5 = .ok (.bipush (-10), 2) := by decide +kernel
theorem dX8_meets_7 : decode cX8_meets 7 = .ok (.iload_n 1, 1) := by decide +kernel
theorem dX8_meets_8 : decode cX8_meets 8 = .ok (.isub, 1) := by decide +kernel
theorem dX8_meets_9 : decode cX8_meets 9 = .ok (.ireturn, 1) := by decide +kernel
theorem dX8_isDish_0 : decode cX8_isDish 0 = .ok (.iload_n 1, 1) := by decide +kernel
theorem dX8_isDish_1 : decode cX8_isDish 1 = .ok (.i2l, 1) := by decide +kernel
theorem dX8_isDish_2 : decode cX8_isDish 2 = .ok (.lconst 0, 1) := by decide +kernel
theorem dX8_isDish_3 : decode cX8_isDish 3 = .ok (.aload_n 0, 1) := by decide +kernel
theorem dX8_isDish_4 : decode cX8_isDish 4 = .ok (.getfield 118, 3) := by decide +kernel
theorem dX8_isDish_7 : decode cX8_isDish 7 = .ok (.iconst 1, 1) := by decide +kernel
theorem dX8_isDish_8 : decode cX8_isDish 8 = .ok (.isub, 1) := by decide +kernel
theorem dX8_isDish_9 : decode cX8_isDish 9 = .ok (.i2l, 1) := by decide +kernel
theorem dX8_isDish_10 : decode cX8_isDish 10 = .ok (.invokestatic 121, 3) := by decide +kernel
theorem dX8_isDish_13 : decode cX8_isDish 13 = .ok (.ireturn, 1) := by decide +kernel
theorem dX8_dish_0 : decode cX8_dish 0 = .ok (.iload_n 1, 1) := by decide +kernel
theorem dX8_dish_1 : decode cX8_dish 1 = .ok (.i2l, 1) := by decide +kernel
theorem dX8_dish_2 : decode cX8_dish 2 = .ok (.ldc2_w 125, 3) := by decide +kernel
theorem dX8_dish_5 : decode cX8_dish 5 = .ok (.ldc2_w 127, 3) := by decide +kernel
theorem dX8_dish_8 : decode cX8_dish 8 = .ok (.invokestatic 121, 3) := by decide +kernel
theorem dX8_dish_11 : decode cX8_dish 11 = .ok (.ifCond .eq 17, 3) := by decide +kernel
theorem dX8_dish_14 : decode cX8_dish 14 = .ok (.iload_n 2, 1) := by decide +kernel
theorem dX8_dish_15 : decode cX8_dish 15 = .ok (.i2l, 1) := by decide +kernel
theorem dX8_dish_16 : decode cX8_dish 16 = .ok (.ldc2_w 125, 3) := by decide +kernel
theorem dX8_dish_19 : decode cX8_dish 19 = .ok (.ldc2_w 127, 3) := by decide +kernel
theorem dX8_dish_22 : decode cX8_dish 22 = .ok (.invokestatic 121, 3) := by decide +kernel
theorem dX8_dish_25 : decode cX8_dish 25 = .ok (.ifCond .ne 6, 3) := by decide +kernel
theorem dX8_dish_28 : decode cX8_dish 28 = .ok (.bipush (-2), 2) := by decide +kernel
theorem dX8_dish_30 : decode cX8_dish 30 = .ok (.ireturn, 1) := by decide +kernel
theorem dX8_dish_31 : decode cX8_dish 31 = .ok (.aload_n 0, 1) := by decide +kernel
theorem dX8_dish_32 : decode cX8_dish 32 = .ok (.getfield 118, 3) := by decide +kernel
theorem dX8_dish_35 : decode cX8_dish 35 = .ok (.bipush 6, 2) := by decide +kernel
theorem dX8_dish_37 : decode cX8_dish 37 = .ok (.if_icmp .ne 6, 3) := by decide +kernel
theorem dX8_dish_40 : decode cX8_dish 40 = .ok (.bipush (-3), 2) := by decide +kernel
theorem dX8_dish_42 : decode cX8_dish 42 = .ok (.ireturn, 1) := by decide +kernel
theorem dX8_dish_43 : decode cX8_dish 43 = .ok (.aload_n 0, 1) := by decide +kernel
theorem dX8_dish_44 : decode cX8_dish 44 = .ok (.getfield 7, 3) := by decide +kernel
theorem dX8_dish_47 : decode cX8_dish 47 = .ok (.aload_n 0, 1) := by decide +kernel
theorem dX8_dish_48 : decode cX8_dish 48 = .ok (.getfield 118, 3) := by decide +kernel
theorem dX8_dish_51 : decode cX8_dish 51 = .ok (.iload_n 1, 1) := by decide +kernel
theorem dX8_dish_52 : decode cX8_dish 52 = .ok (.iastore, 1) := by decide +kernel
theorem dX8_dish_53 : decode cX8_dish 53 = .ok (.aload_n 0, 1) := by decide +kernel
theorem dX8_dish_54 : decode cX8_dish 54 = .ok (.getfield 13, 3) := by decide +kernel
theorem dX8_dish_57 : decode cX8_dish 57 = .ok (.aload_n 0, 1) := by decide +kernel
theorem dX8_dish_58 : decode cX8_dish 58 = .ok (.getfield 118, 3) := by decide +kernel
theorem dX8_dish_61 : decode cX8_dish 61 = .ok (.iload_n 2, 1) := by decide +kernel
theorem dX8_dish_62 : decode cX8_dish 62 = .ok (.iastore, 1) := by decide +kernel
theorem dX8_dish_63 : decode cX8_dish 63 = .ok (.aload_n 0, 1) := by decide +kernel
theorem dX8_dish_64 : decode cX8_dish 64 = .ok (.getfield 19, 3) := by decide +kernel
theorem dX8_dish_67 : decode cX8_dish 67 = .ok (.aload_n 0, 1) := by decide +kernel
theorem dX8_dish_68 : decode cX8_dish 68 = .ok (.getfield 118, 3) := by decide +kernel
theorem dX8_dish_71 : decode cX8_dish 71 = .ok (.iconst 1, 1) := by decide +kernel
theorem dX8_dish_72 : decode cX8_dish 72 = .ok (.iastore, 1) := by decide +kernel
theorem dX8_dish_73 : decode cX8_dish 73 = .ok (.aload_n 0, 1) := by decide +kernel
theorem dX8_dish_74 : decode cX8_dish 74 = .ok (.dup, 1) := by decide +kernel
theorem dX8_dish_75 : decode cX8_dish 75 = .ok (.getfield 118, 3) := by decide +kernel
theorem dX8_dish_78 : decode cX8_dish 78 = .ok (.iconst 1, 1) := by decide +kernel
theorem dX8_dish_79 : decode cX8_dish 79 = .ok (.iadd, 1) := by decide +kernel
theorem dX8_dish_80 : decode cX8_dish 80 = .ok (.putfield 118, 3) := by decide +kernel
theorem dX8_dish_83 : decode cX8_dish 83 = .ok (.aload_n 0, 1) := by decide +kernel
theorem dX8_dish_84 : decode cX8_dish 84 = .ok (.getfield 118, 3) := by decide +kernel
theorem dX8_dish_87 : decode cX8_dish 87 = .ok (.iconst 1, 1) := by decide +kernel
theorem dX8_dish_88 : decode cX8_dish 88 = .ok (.isub, 1) := by decide +kernel
theorem dX8_dish_89 : decode cX8_dish 89 = .ok (.ireturn, 1) := by decide +kernel
theorem dX8_tune_0 : decode cX8_tune 0 = .ok (.aload_n 0, 1) := by decide +kernel
theorem dX8_tune_1 : decode cX8_tune 1 = .ok (.iload_n 1, 1) := by decide +kernel
theorem dX8_tune_2 : decode cX8_tune 2 = .ok (.invokevirtual 129, 3) := by decide +kernel
theorem dX8_tune_5 : decode cX8_tune 5 = .ok (.ifCond .eq 33, 3) := by decide +kernel
theorem dX8_tune_8 : decode cX8_tune 8 = .ok (.iload_n 2, 1) := by decide +kernel
theorem dX8_tune_9 : decode cX8_tune 9 = .ok (.i2l, 1) := by decide +kernel
theorem dX8_tune_10 : decode cX8_tune 10 = .ok (.lconst 0, 1) := by decide +kernel
theorem dX8_tune_11 : decode cX8_tune 11 = .ok (.ldc2_w 133, 3) := by decide +kernel
theorem dX8_tune_14 : decode cX8_tune 14 = .ok (.invokestatic 121, 3) := by decide +kernel
theorem dX8_tune_17 : decode cX8_tune 17 = .ok (.ifCond .eq 21, 3) := by decide +kernel
theorem dX8_tune_20 : decode cX8_tune 20 = .ok (.iload_n 3, 1) := by decide +kernel
theorem dX8_tune_21 : decode cX8_tune 21 = .ok (.i2l, 1) := by decide +kernel
theorem dX8_tune_22 : decode cX8_tune 22 = .ok (.ldc2_w 135, 3) := by decide +kernel
theorem dX8_tune_25 : decode cX8_tune 25 = .ok (.ldc2_w 137, 3) := by decide +kernel
theorem dX8_tune_28 : decode cX8_tune 28 = .ok (.invokestatic 121, 3) := by decide +kernel
theorem dX8_tune_31 : decode cX8_tune 31 = .ok (.ifCond .eq 7, 3) := by decide +kernel
theorem dX8_tune_34 : decode cX8_tune 34 = .ok (.iload_n 3, 1) := by decide +kernel
theorem dX8_tune_35 : decode cX8_tune 35 = .ok (.ifCond .ne 6, 3) := by decide +kernel
theorem dX8_tune_38 : decode cX8_tune 38 = .ok (.bipush (-2), 2) := by decide +kernel
theorem dX8_tune_40 : decode cX8_tune 40 = .ok (.ireturn, 1) := by decide +kernel
theorem dX8_tune_41 : decode cX8_tune 41 = .ok (.aload_n 0, 1) := by decide +kernel
theorem dX8_tune_42 : decode cX8_tune 42 = .ok (.getfield 16, 3) := by decide +kernel
theorem dX8_tune_45 : decode cX8_tune 45 = .ok (.iload_n 1, 1) := by decide +kernel
theorem dX8_tune_46 : decode cX8_tune 46 = .ok (.iload_n 2, 1) := by decide +kernel
theorem dX8_tune_47 : decode cX8_tune 47 = .ok (.iastore, 1) := by decide +kernel
theorem dX8_tune_48 : decode cX8_tune 48 = .ok (.aload_n 0, 1) := by decide +kernel
theorem dX8_tune_49 : decode cX8_tune 49 = .ok (.getfield 19, 3) := by decide +kernel
theorem dX8_tune_52 : decode cX8_tune 52 = .ok (.iload_n 1, 1) := by decide +kernel
theorem dX8_tune_53 : decode cX8_tune 53 = .ok (.iload_n 3, 1) := by decide +kernel
theorem dX8_tune_54 : decode cX8_tune 54 = .ok (.iastore, 1) := by decide +kernel
theorem dX8_tune_55 : decode cX8_tune 55 = .ok (.iconst 1, 1) := by decide +kernel
theorem dX8_tune_56 : decode cX8_tune 56 = .ok (.ireturn, 1) := by decide +kernel
theorem dX8_reel_0 : decode cX8_reel 0 = .ok (.aload_n 0, 1) := by decide +kernel
theorem dX8_reel_1 : decode cX8_reel 1 = .ok (.iload_n 1, 1) := by decide +kernel
theorem dX8_reel_2 : decode cX8_reel 2 = .ok (.invokevirtual 129, 3) := by decide +kernel
theorem dX8_reel_5 : decode cX8_reel 5 = .ok (.ifCond .eq 21, 3) := by decide +kernel
theorem dX8_reel_8 : decode cX8_reel 8 = .ok (.iload_n 2, 1) := by decide +kernel
theorem dX8_reel_9 : decode cX8_reel 9 = .ok (.i2l, 1) := by decide +kernel
theorem dX8_reel_10 : decode cX8_reel 10 = .ok (.lconst 0, 1) := by decide +kernel
theorem dX8_reel_11 : decode cX8_reel 11 = .ok (.ldc2_w 139, 3) := by decide +kernel
theorem dX8_reel_14 : decode cX8_reel 14 = .ok (.invokestatic 121, 3) := by decide +kernel
theorem dX8_reel_17 : decode cX8_reel 17 = .ok (.ifCond .eq 9, 3) := by decide +kernel
theorem dX8_reel_20 : decode cX8_reel 20 = .ok (.iload_n 3, 1) := by decide +kernel
theorem dX8_reel_21 : decode cX8_reel 21 = .ok (.bipush 100, 2) := by decide +kernel
theorem dX8_reel_23 : decode cX8_reel 23 = .ok (.if_icmp .le 6, 3) := by decide +kernel
theorem dX8_reel_26 : decode cX8_reel 26 = .ok (.bipush (-2), 2) := by decide +kernel
theorem dX8_reel_28 : decode cX8_reel 28 = .ok (.ireturn, 1) := by decide +kernel
theorem dX8_reel_29 : decode cX8_reel 29 = .ok (.iload_n 3, 1) := by decide +kernel
theorem dX8_reel_30 : decode cX8_reel 30 = .ok (.ifCond .ge 9, 3) := by decide +kernel
theorem dX8_reel_33 : decode cX8_reel 33 = .ok (.aload_n 0, 1) := by decide +kernel
theorem dX8_reel_34 : decode cX8_reel 34 = .ok (.iconst 5, 1) := by decide +kernel
theorem dX8_reel_35 : decode cX8_reel 35 = .ok (.invokevirtual 141, 3) := by decide +kernel
theorem dX8_reel_38 : decode cX8_reel 38 = .ok (.ireturn, 1) := by decide +kernel
theorem dX8_reel_39 : decode cX8_reel 39 = .ok (.aload_n 0, 1) := by decide +kernel
theorem dX8_reel_40 : decode cX8_reel 40 = .ok (.getfield 22, 3) := by decide +kernel
theorem dX8_reel_43 : decode cX8_reel 43 = .ok (.iload_n 1, 1) := by decide +kernel
theorem dX8_reel_44 : decode cX8_reel 44 = .ok (.iconst 1, 1) := by decide +kernel
theorem dX8_reel_45 : decode cX8_reel 45 = .ok (.bastore, 1) := by decide +kernel
theorem dX8_reel_46 : decode cX8_reel 46 = .ok (.aload_n 0, 1) := by decide +kernel
theorem dX8_reel_47 : decode cX8_reel 47 = .ok (.getfield 26, 3) := by decide +kernel
theorem dX8_reel_50 : decode cX8_reel 50 = .ok (.iload_n 1, 1) := by decide +kernel
theorem dX8_reel_51 : decode cX8_reel 51 = .ok (.iload_n 2, 1) := by decide +kernel
theorem dX8_reel_52 : decode cX8_reel 52 = .ok (.iastore, 1) := by decide +kernel
theorem dX8_reel_53 : decode cX8_reel 53 = .ok (.aload_n 0, 1) := by decide +kernel
theorem dX8_reel_54 : decode cX8_reel 54 = .ok (.getfield 29, 3) := by decide +kernel
theorem dX8_reel_57 : decode cX8_reel 57 = .ok (.iload_n 1, 1) := by decide +kernel
theorem dX8_reel_58 : decode cX8_reel 58 = .ok (.iload_n 3, 1) := by decide +kernel
theorem dX8_reel_59 : decode cX8_reel 59 = .ok (.iastore, 1) := by decide +kernel
theorem dX8_reel_60 : decode cX8_reel 60 = .ok (.iconst 0, 1) := by decide +kernel
theorem dX8_reel_61 : decode cX8_reel 61 = .ok (.istore 4, 2) := by decide +kernel
theorem dX8_reel_63 : decode cX8_reel 63 = .ok (.iload 4, 2) := by decide +kernel
theorem dX8_reel_65 : decode cX8_reel 65 = .ok (.bipush 100, 2) := by decide +kernel
theorem dX8_reel_67 : decode cX8_reel 67 = .ok (.if_icmp .ge 22, 3) := by decide +kernel
theorem dX8_reel_70 : decode cX8_reel 70 = .ok (.aload_n 0, 1) := by decide +kernel
theorem dX8_reel_71 : decode cX8_reel 71 = .ok (.getfield 32, 3) := by decide +kernel
theorem dX8_reel_74 : decode cX8_reel 74 = .ok (.bipush 100, 2) := by decide +kernel
theorem dX8_reel_76 : decode cX8_reel 76 = .ok (.iload_n 1, 1) := by decide +kernel
theorem dX8_reel_77 : decode cX8_reel 77 = .ok (.imul, 1) := by decide +kernel
theorem dX8_reel_78 : decode cX8_reel 78 = .ok (.iload 4, 2) := by decide +kernel
theorem dX8_reel_80 : decode cX8_reel 80 = .ok (.iadd, 1) := by decide +kernel
theorem dX8_reel_81 : decode cX8_reel 81 = .ok (.iconst 0, 1) := by decide +kernel
theorem dX8_reel_82 : decode cX8_reel 82 = .ok (.iastore, 1) := by decide +kernel
theorem dX8_reel_83 : decode cX8_reel 83 = .ok (.iinc 4 1, 3) := by decide +kernel
theorem dX8_reel_86 : decode cX8_reel 86 = .ok (.goto (-23), 3) := by decide +kernel
theorem dX8_reel_89 : decode cX8_reel 89 = .ok (.iload_n 3, 1) := by decide +kernel
theorem dX8_reel_90 : decode cX8_reel 90 = .ok (.ireturn, 1) := by decide +kernel
theorem dX8_lose_0 : decode cX8_lose 0 = .ok (.aload_n 0, 1) := by decide +kernel
theorem dX8_lose_1 : decode cX8_lose 1 = .ok (.iload_n 1, 1) := by decide +kernel
theorem dX8_lose_2 : decode cX8_lose 2 = .ok (.invokevirtual 129, 3) := by decide +kernel
theorem dX8_lose_5 : decode cX8_lose 5 = .ok (.ifCond .ne 6, 3) := by decide +kernel
theorem dX8_lose_8 : decode cX8_lose 8 = .ok (.bipush (-2), 2) := by decide +kernel
theorem dX8_lose_10 : decode cX8_lose 10 = .ok (.ireturn, 1) := by decide +kernel
theorem dX8_lose_11 : decode cX8_lose 11 = .ok (.aload_n 0, 1) := by decide +kernel
theorem dX8_lose_12 : decode cX8_lose 12 = .ok (.getfield 22, 3) := by decide +kernel
theorem dX8_lose_15 : decode cX8_lose 15 = .ok (.iload_n 1, 1) := by decide +kernel
theorem dX8_lose_16 : decode cX8_lose 16 = .ok (.baload, 1) := by decide +kernel
theorem dX8_lose_17 : decode cX8_lose 17 = .ok (.ifCond .ne 9, 3) := by decide +kernel
theorem dX8_lose_20 : decode cX8_lose 20 = .ok (.aload_n 0, 1) := by decide +kernel
theorem dX8_lose_21 : decode cX8_lose 21 = .ok (.iconst 1, 1) := by decide +kernel
theorem dX8_lose_22 : decode cX8_lose 22 = .ok (.invokevirtual 141, 3) := by decide +kernel
theorem dX8_lose_25 : decode cX8_lose 25 = .ok (.ireturn, 1) := by decide +kernel
theorem dX8_lose_26 : decode cX8_lose 26 = .ok (.aload_n 0, 1) := by decide +kernel
theorem dX8_lose_27 : decode cX8_lose 27 = .ok (.getfield 22, 3) := by decide +kernel
theorem dX8_lose_30 : decode cX8_lose 30 = .ok (.iload_n 1, 1) := by decide +kernel
theorem dX8_lose_31 : decode cX8_lose 31 = .ok (.iconst 0, 1) := by decide +kernel
theorem dX8_lose_32 : decode cX8_lose 32 = .ok (.bastore, 1) := by decide +kernel
theorem dX8_lose_33 : decode cX8_lose 33 = .ok (.aload_n 0, 1) := by decide +kernel
theorem dX8_lose_34 : decode cX8_lose 34 = .ok (.getfield 29, 3) := by decide +kernel
theorem dX8_lose_37 : decode cX8_lose 37 = .ok (.iload_n 1, 1) := by decide +kernel
theorem dX8_lose_38 : decode cX8_lose 38 = .ok (.iaload, 1) := by decide +kernel
theorem dX8_lose_39 : decode cX8_lose 39 = .ok (.ireturn, 1) := by decide +kernel
theorem dX8_lacks_0 : decode cX8_lacks 0 = .ok (.aload_n 0, 1) := by decide +kernel
theorem dX8_lacks_1 : decode cX8_lacks 1 = .ok (.getfield 22, 3) := by decide +kernel
theorem dX8_lacks_4 : decode cX8_lacks 4 = .ok (.iload_n 1, 1) := by decide +kernel
theorem dX8_lacks_5 : decode cX8_lacks 5 = .ok (.baload, 1) := by decide +kernel
theorem dX8_lacks_6 : decode cX8_lacks 6 = .ok (.ifCond .ne 7, 3) := by decide +kernel
theorem dX8_lacks_9 : decode cX8_lacks 9 = .ok (.iconst 1, 1) := by decide +kernel
theorem dX8_lacks_10 : decode cX8_lacks 10 = .ok (.goto 40, 3) := by decide +kernel
theorem dX8_lacks_13 : decode cX8_lacks 13 = .ok (.aload_n 0, 1) := by decide +kernel
theorem dX8_lacks_14 : decode cX8_lacks 14 = .ok (.getfield 26, 3) := by decide +kernel
theorem dX8_lacks_17 : decode cX8_lacks 17 = .ok (.iload_n 1, 1) := by decide +kernel
theorem dX8_lacks_18 : decode cX8_lacks 18 = .ok (.iaload, 1) := by decide +kernel
theorem dX8_lacks_19 : decode cX8_lacks 19 = .ok (.iload_n 2, 1) := by decide +kernel
theorem dX8_lacks_20 : decode cX8_lacks 20 = .ok (.if_icmp .eq 7, 3) := by decide +kernel
theorem dX8_lacks_23 : decode cX8_lacks 23 = .ok (.iconst 3, 1) := by decide +kernel
theorem dX8_lacks_24 : decode cX8_lacks 24 = .ok (.goto 26, 3) := by decide +kernel
theorem dX8_lacks_27 : decode cX8_lacks 27 = .ok (.iload_n 3, 1) := by decide +kernel
theorem dX8_lacks_28 : decode cX8_lacks 28 = .ok (.i2l, 1) := by decide +kernel
theorem dX8_lacks_29 : decode cX8_lacks 29 = .ok (.lconst 0, 1) := by decide +kernel
theorem dX8_lacks_30 : decode cX8_lacks 30 = .ok (.aload_n 0, 1) := by decide +kernel
theorem dX8_lacks_31 : decode cX8_lacks 31 = .ok (.getfield 29, 3) := by decide +kernel
theorem dX8_lacks_34 : decode cX8_lacks 34 = .ok (.iload_n 1, 1) := by decide +kernel
theorem dX8_lacks_35 : decode cX8_lacks 35 = .ok (.iaload, 1) := by decide +kernel
theorem dX8_lacks_36 : decode cX8_lacks 36 = .ok (.iconst 1, 1) := by decide +kernel
theorem dX8_lacks_37 : decode cX8_lacks 37 = .ok (.isub, 1) := by decide +kernel
theorem dX8_lacks_38 : decode cX8_lacks 38 = .ok (.i2l, 1) := by decide +kernel
theorem dX8_lacks_39 : decode cX8_lacks 39 = .ok (.invokestatic 121, 3) := by decide +kernel
theorem dX8_lacks_42 : decode cX8_lacks 42 = .ok (.ifCond .eq 7, 3) := by decide +kernel
theorem dX8_lacks_45 : decode cX8_lacks 45 = .ok (.iconst 0, 1) := by decide +kernel
theorem dX8_lacks_46 : decode cX8_lacks 46 = .ok (.goto 4, 3) := by decide +kernel
theorem dX8_lacks_49 : decode cX8_lacks 49 = .ok (.iconst 2, 1) := by decide +kernel
theorem dX8_lacks_50 : decode cX8_lacks 50 = .ok (.ireturn, 1) := by decide +kernel
theorem dX8_put_0 : decode cX8_put 0 = .ok (.aload_n 0, 1) := by decide +kernel
theorem dX8_put_1 : decode cX8_put 1 = .ok (.iload_n 1, 1) := by decide +kernel
theorem dX8_put_2 : decode cX8_put 2 = .ok (.invokevirtual 129, 3) := by decide +kernel
theorem dX8_put_5 : decode cX8_put 5 = .ok (.ifCond .eq 15, 3) := by decide +kernel
theorem dX8_put_8 : decode cX8_put 8 = .ok (.iload_n 2, 1) := by decide +kernel
theorem dX8_put_9 : decode cX8_put 9 = .ok (.i2l, 1) := by decide +kernel
theorem dX8_put_10 : decode cX8_put 10 = .ok (.lconst 0, 1) := by decide +kernel
theorem dX8_put_11 : decode cX8_put 11 = .ok (.ldc2_w 139, 3) := by decide +kernel
theorem dX8_put_14 : decode cX8_put 14 = .ok (.invokestatic 121, 3) := by decide +kernel
theorem dX8_put_17 : decode cX8_put 17 = .ok (.ifCond .ne 6, 3) := by decide +kernel
theorem dX8_put_20 : decode cX8_put 20 = .ok (.bipush (-2), 2) := by decide +kernel
theorem dX8_put_22 : decode cX8_put 22 = .ok (.ireturn, 1) := by decide +kernel
theorem dX8_put_23 : decode cX8_put 23 = .ok (.aload_n 0, 1) := by decide +kernel
theorem dX8_put_24 : decode cX8_put 24 = .ok (.iload_n 1, 1) := by decide +kernel
theorem dX8_put_25 : decode cX8_put 25 = .ok (.iload_n 2, 1) := by decide +kernel
theorem dX8_put_26 : decode cX8_put 26 = .ok (.iload_n 3, 1) := by decide +kernel
theorem dX8_put_27 : decode cX8_put 27 = .ok (.invokevirtual 145, 3) := by decide +kernel
theorem dX8_put_30 : decode cX8_put 30 = .ok (.istore 5, 2) := by decide +kernel
theorem dX8_put_32 : decode cX8_put 32 = .ok (.iload 5, 2) := by decide +kernel
theorem dX8_put_34 : decode cX8_put 34 = .ok (.ifCond .le 10, 3) := by decide +kernel
theorem dX8_put_37 : decode cX8_put 37 = .ok (.aload_n 0, 1) := by decide +kernel
theorem dX8_put_38 : decode cX8_put 38 = .ok (.iload 5, 2) := by decide +kernel
theorem dX8_put_40 : decode cX8_put 40 = .ok (.invokevirtual 141, 3) := by decide +kernel
theorem dX8_put_43 : decode cX8_put 43 = .ok (.ireturn, 1) := by decide +kernel
theorem dX8_put_44 : decode cX8_put 44 = .ok (.aload_n 0, 1) := by decide +kernel
theorem dX8_put_45 : decode cX8_put 45 = .ok (.getfield 32, 3) := by decide +kernel
theorem dX8_put_48 : decode cX8_put 48 = .ok (.bipush 100, 2) := by decide +kernel
theorem dX8_put_50 : decode cX8_put 50 = .ok (.iload_n 1, 1) := by decide +kernel
theorem dX8_put_51 : decode cX8_put 51 = .ok (.imul, 1) := by decide +kernel
theorem dX8_put_52 : decode cX8_put 52 = .ok (.iload_n 3, 1) := by decide +kernel
theorem dX8_put_53 : decode cX8_put 53 = .ok (.iadd, 1) := by decide +kernel
theorem dX8_put_54 : decode cX8_put 54 = .ok (.iload_n 2, 1) := by decide +kernel
theorem dX8_put_55 : decode cX8_put 55 = .ok (.ifCond .ne 9, 3) := by decide +kernel
theorem dX8_put_58 : decode cX8_put 58 = .ok (.iload 4, 2) := by decide +kernel
theorem dX8_put_60 : decode cX8_put 60 = .ok (.i2b, 1) := by decide +kernel
theorem dX8_put_61 : decode cX8_put 61 = .ok (.goto 16, 3) := by decide +kernel
theorem dX8_put_64 : decode cX8_put 64 = .ok (.iload_n 2, 1) := by decide +kernel
theorem dX8_put_65 : decode cX8_put 65 = .ok (.iconst 1, 1) := by decide +kernel
theorem dX8_put_66 : decode cX8_put 66 = .ok (.if_icmp .ne 9, 3) := by decide +kernel
theorem dX8_put_69 : decode cX8_put 69 = .ok (.iload 4, 2) := by decide +kernel
theorem dX8_put_71 : decode cX8_put 71 = .ok (.i2s, 1) := by decide +kernel
theorem dX8_put_72 : decode cX8_put 72 = .ok (.goto 5, 3) := by decide +kernel
theorem dX8_put_75 : decode cX8_put 75 = .ok (.iload 4, 2) := by decide +kernel
theorem dX8_put_77 : decode cX8_put 77 = .ok (.iastore, 1) := by decide +kernel
theorem dX8_put_78 : decode cX8_put 78 = .ok (.iconst 1, 1) := by decide +kernel
theorem dX8_put_79 : decode cX8_put 79 = .ok (.ireturn, 1) := by decide +kernel
theorem dX8_get_0 : decode cX8_get 0 = .ok (.aload_n 0, 1) := by decide +kernel
theorem dX8_get_1 : decode cX8_get 1 = .ok (.iload_n 1, 1) := by decide +kernel
theorem dX8_get_2 : decode cX8_get 2 = .ok (.invokevirtual 129, 3) := by decide +kernel
theorem dX8_get_5 : decode cX8_get 5 = .ok (.ifCond .eq 15, 3) := by decide +kernel
theorem dX8_get_8 : decode cX8_get 8 = .ok (.iload_n 2, 1) := by decide +kernel
theorem dX8_get_9 : decode cX8_get 9 = .ok (.i2l, 1) := by decide +kernel
theorem dX8_get_10 : decode cX8_get 10 = .ok (.lconst 0, 1) := by decide +kernel
theorem dX8_get_11 : decode cX8_get 11 = .ok (.ldc2_w 139, 3) := by decide +kernel
theorem dX8_get_14 : decode cX8_get 14 = .ok (.invokestatic 121, 3) := by decide +kernel
theorem dX8_get_17 : decode cX8_get 17 = .ok (.ifCond .ne 6, 3) := by decide +kernel
theorem dX8_get_20 : decode cX8_get 20 = .ok (.ldc 149, 2) := by decide +kernel
theorem dX8_get_22 : decode cX8_get 22 = .ok (.ireturn, 1) := by decide +kernel
theorem dX8_get_23 : decode cX8_get 23 = .ok (.aload_n 0, 1) := by decide +kernel
theorem dX8_get_24 : decode cX8_get 24 = .ok (.iload_n 1, 1) := by decide +kernel
theorem dX8_get_25 : decode cX8_get 25 = .ok (.iload_n 2, 1) := by decide +kernel
theorem dX8_get_26 : decode cX8_get 26 = .ok (.iload_n 3, 1) := by decide +kernel
theorem dX8_get_27 : decode cX8_get 27 = .ok (.invokevirtual 145, 3) := by decide +kernel
theorem dX8_get_30 : decode cX8_get 30 = .ok (.istore 4, 2) := by decide +kernel
theorem dX8_get_32 : decode cX8_get 32 = .ok (.iload 4, 2) := by decide +kernel
theorem dX8_get_34 : decode cX8_get 34 = .ok (.ifCond .le 12, 3) := by decide +kernel
theorem dX8_get_37 : decode cX8_get 37 = .ok (.aload_n 0, 1) := by decide +kernel
theorem dX8_get_38 : decode cX8_get 38 = .ok (.iload 4, 2) := by decide +kernel
theorem dX8_get_40 : decode cX8_get 40 = .ok (.putfield 115, 3) := by decide +kernel
theorem dX8_get_43 : decode cX8_get 43 = .ok (.ldc 149, 2) := by decide +kernel
theorem dX8_get_45 : decode cX8_get 45 = .ok (.ireturn, 1) := by decide +kernel
theorem dX8_get_46 : decode cX8_get 46 = .ok (.aload_n 0, 1) := by decide +kernel
theorem dX8_get_47 : decode cX8_get 47 = .ok (.getfield 32, 3) := by decide +kernel
theorem dX8_get_50 : decode cX8_get 50 = .ok (.bipush 100, 2) := by decide +kernel
theorem dX8_get_52 : decode cX8_get 52 = .ok (.iload_n 1, 1) := by decide +kernel
theorem dX8_get_53 : decode cX8_get 53 = .ok (.imul, 1) := by decide +kernel
theorem dX8_get_54 : decode cX8_get 54 = .ok (.iload_n 3, 1) := by decide +kernel
theorem dX8_get_55 : decode cX8_get 55 = .ok (.iadd, 1) := by decide +kernel
theorem dX8_get_56 : decode cX8_get 56 = .ok (.iaload, 1) := by decide +kernel
theorem dX8_get_57 : decode cX8_get 57 = .ok (.ireturn, 1) := by decide +kernel
theorem dX8_copy_0 : decode cX8_copy 0 = .ok (.aload_n 0, 1) := by decide +kernel
theorem dX8_copy_1 : decode cX8_copy 1 = .ok (.iload_n 1, 1) := by decide +kernel
theorem dX8_copy_2 : decode cX8_copy 2 = .ok (.invokevirtual 129, 3) := by decide +kernel
theorem dX8_copy_5 : decode cX8_copy 5 = .ok (.ifCond .eq 11, 3) := by decide +kernel
theorem dX8_copy_8 : decode cX8_copy 8 = .ok (.aload_n 0, 1) := by decide +kernel
theorem dX8_copy_9 : decode cX8_copy 9 = .ok (.iload_n 3, 1) := by decide +kernel
theorem dX8_copy_10 : decode cX8_copy 10 = .ok (.invokevirtual 129, 3) := by decide +kernel
theorem dX8_copy_13 : decode cX8_copy 13 = .ok (.ifCond .ne 6, 3) := by decide +kernel
theorem dX8_copy_16 : decode cX8_copy 16 = .ok (.bipush (-2), 2) := by decide +kernel
theorem dX8_copy_18 : decode cX8_copy 18 = .ok (.ireturn, 1) := by decide +kernel
theorem dX8_copy_19 : decode cX8_copy 19 = .ok (.aload_n 0, 1) := by decide +kernel
theorem dX8_copy_20 : decode cX8_copy 20 = .ok (.getfield 22, 3) := by decide +kernel
theorem dX8_copy_23 : decode cX8_copy 23 = .ok (.iload_n 1, 1) := by decide +kernel
theorem dX8_copy_24 : decode cX8_copy 24 = .ok (.baload, 1) := by decide +kernel
theorem dX8_copy_25 : decode cX8_copy 25 = .ok (.ifCond .eq 12, 3) := by decide +kernel
theorem dX8_copy_28 : decode cX8_copy 28 = .ok (.aload_n 0, 1) := by decide +kernel
theorem dX8_copy_29 : decode cX8_copy 29 = .ok (.getfield 22, 3) := by decide +kernel
theorem dX8_copy_32 : decode cX8_copy 32 = .ok (.iload_n 3, 1) := by decide +kernel
theorem dX8_copy_33 : decode cX8_copy 33 = .ok (.baload, 1) := by decide +kernel
theorem dX8_copy_34 : decode cX8_copy 34 = .ok (.ifCond .ne 9, 3) := by decide +kernel
theorem dX8_copy_37 : decode cX8_copy 37 = .ok (.aload_n 0, 1) := by decide +kernel
theorem dX8_copy_38 : decode cX8_copy 38 = .ok (.iconst 1, 1) := by decide +kernel
theorem dX8_copy_39 : decode cX8_copy 39 = .ok (.invokevirtual 141, 3) := by decide +kernel
theorem dX8_copy_42 : decode cX8_copy 42 = .ok (.ireturn, 1) := by decide +kernel
theorem dX8_copy_43 : decode cX8_copy 43 = .ok (.aload_n 0, 1) := by decide +kernel
theorem dX8_copy_44 : decode cX8_copy 44 = .ok (.getfield 26, 3) := by decide +kernel
theorem dX8_copy_47 : decode cX8_copy 47 = .ok (.iload_n 1, 1) := by decide +kernel
theorem dX8_copy_48 : decode cX8_copy 48 = .ok (.iaload, 1) := by decide +kernel
theorem dX8_copy_49 : decode cX8_copy 49 = .ok (.aload_n 0, 1) := by decide +kernel
theorem dX8_copy_50 : decode cX8_copy 50 = .ok (.getfield 26, 3) := by decide +kernel
theorem dX8_copy_53 : decode cX8_copy 53 = .ok (.iload_n 3, 1) := by decide +kernel
theorem dX8_copy_54 : decode cX8_copy 54 = .ok (.iaload, 1) := by decide +kernel
theorem dX8_copy_55 : decode cX8_copy 55 = .ok (.if_icmp .eq 9, 3) := by decide +kernel
theorem dX8_copy_58 : decode cX8_copy 58 = .ok (.aload_n 0, 1) := by decide +kernel
theorem dX8_copy_59 : decode cX8_copy 59 = .ok (.iconst 4, 1) := by decide +kernel
theorem dX8_copy_60 : decode cX8_copy 60 = .ok (.invokevirtual 141, 3) := by decide +kernel
theorem dX8_copy_63 : decode cX8_copy 63 = .ok (.ireturn, 1) := by decide +kernel
theorem dX8_copy_64 : decode cX8_copy 64 = .ok (.iload_n 2, 1) := by decide +kernel
theorem dX8_copy_65 : decode cX8_copy 65 = .ok (.ifCond .lt 48, 3) := by decide +kernel
theorem dX8_copy_68 : decode cX8_copy 68 = .ok (.iload 4, 2) := by decide +kernel
theorem dX8_copy_70 : decode cX8_copy 70 = .ok (.ifCond .lt 43, 3) := by decide +kernel
theorem dX8_copy_73 : decode cX8_copy 73 = .ok (.iload 5, 2) := by decide +kernel
theorem dX8_copy_75 : decode cX8_copy 75 = .ok (.ifCond .lt 38, 3) := by decide +kernel
theorem dX8_copy_78 : decode cX8_copy 78 = .ok (.iload_n 2, 1) := by decide +kernel
theorem dX8_copy_79 : decode cX8_copy 79 = .ok (.i2l, 1) := by decide +kernel
theorem dX8_copy_80 : decode cX8_copy 80 = .ok (.iload 5, 2) := by decide +kernel
theorem dX8_copy_82 : decode cX8_copy 82 = .ok (.i2l, 1) := by decide +kernel
theorem dX8_copy_83 : decode cX8_copy 83 = .ok (.ladd, 1) := by decide +kernel
theorem dX8_copy_84 : decode cX8_copy 84 = .ok (.aload_n 0, 1) := by decide +kernel
theorem dX8_copy_85 : decode cX8_copy 85 = .ok (.getfield 29, 3) := by decide +kernel
theorem dX8_copy_88 : decode cX8_copy 88 = .ok (.iload_n 1, 1) := by decide +kernel
theorem dX8_copy_89 : decode cX8_copy 89 = .ok (.iaload, 1) := by decide +kernel
theorem dX8_copy_90 : decode cX8_copy 90 = .ok (.i2l, 1) := by decide +kernel
theorem dX8_copy_91 : decode cX8_copy 91 = .ok (.lcmp, 1) := by decide +kernel
theorem dX8_copy_92 : decode cX8_copy 92 = .ok (.ifCond .gt 21, 3) := by decide +kernel
theorem dX8_copy_95 : decode cX8_copy 95 = .ok (.iload 4, 2) := by decide +kernel
theorem dX8_copy_97 : decode cX8_copy 97 = .ok (.i2l, 1) := by decide +kernel
theorem dX8_copy_98 : decode cX8_copy 98 = .ok (.iload 5, 2) := by decide +kernel
theorem dX8_copy_100 : decode cX8_copy 100 = .ok (.i2l, 1) := by decide +kernel
theorem dX8_copy_101 : decode cX8_copy 101 = .ok (.ladd, 1) := by decide +kernel
theorem dX8_copy_102 : decode cX8_copy 102 = .ok (.aload_n 0, 1) := by decide +kernel
theorem dX8_copy_103 : decode cX8_copy 103 = .ok (.getfield 29, 3) := by decide +kernel
theorem dX8_copy_106 : decode cX8_copy 106 = .ok (.iload_n 3, 1) := by decide +kernel
theorem dX8_copy_107 : decode cX8_copy 107 = .ok (.iaload, 1) := by decide +kernel
theorem dX8_copy_108 : decode cX8_copy 108 = .ok (.i2l, 1) := by decide +kernel
theorem dX8_copy_109 : decode cX8_copy 109 = .ok (.lcmp, 1) := by decide +kernel
theorem dX8_copy_110 : decode cX8_copy 110 = .ok (.ifCond .le 9, 3) := by decide +kernel
theorem dX8_copy_113 : decode cX8_copy 113 = .ok (.aload_n 0, 1) := by decide +kernel
theorem dX8_copy_114 : decode cX8_copy 114 = .ok (.iconst 2, 1) := by decide +kernel
theorem dX8_copy_115 : decode cX8_copy 115 = .ok (.invokevirtual 141, 3) := by decide +kernel
theorem dX8_copy_118 : decode cX8_copy 118 = .ok (.ireturn, 1) := by decide +kernel
theorem dX8_copy_119 : decode cX8_copy 119 = .ok (.iconst 0, 1) := by decide +kernel
theorem dX8_copy_120 : decode cX8_copy 120 = .ok (.istore 6, 2) := by decide +kernel
theorem dX8_copy_122 : decode cX8_copy 122 = .ok (.iload 6, 2) := by decide +kernel
theorem dX8_copy_124 : decode cX8_copy 124 = .ok (.iload 5, 2) := by decide +kernel
theorem dX8_copy_126 : decode cX8_copy 126 = .ok (.if_icmp .ge 30, 3) := by decide +kernel
theorem dX8_copy_129 : decode cX8_copy 129 = .ok (.aload_n 0, 1) := by decide +kernel
theorem dX8_copy_130 : decode cX8_copy 130 = .ok (.getfield 35, 3) := by decide +kernel
theorem dX8_copy_133 : decode cX8_copy 133 = .ok (.iload 6, 2) := by decide +kernel
theorem dX8_copy_135 : decode cX8_copy 135 = .ok (.aload_n 0, 1) := by decide +kernel
theorem dX8_copy_136 : decode cX8_copy 136 = .ok (.getfield 32, 3) := by decide +kernel
theorem dX8_copy_139 : decode cX8_copy 139 = .ok (.bipush 100, 2) := by decide +kernel
theorem dX8_copy_141 : decode cX8_copy 141 = .ok (.iload_n 1, 1) := by decide +kernel
theorem dX8_copy_142 : decode cX8_copy 142 = .ok (.imul, 1) := by decide +kernel
theorem dX8_copy_143 : decode cX8_copy 143 = .ok (.iload_n 2, 1) := by decide +kernel
theorem dX8_copy_144 : decode cX8_copy 144 = .ok (.iadd, 1) := by decide +kernel
theorem dX8_copy_145 : decode cX8_copy 145 = .ok (.iload 6, 2) := by decide +kernel
theorem dX8_copy_147 : decode cX8_copy 147 = .ok (.iadd, 1) := by decide +kernel
theorem dX8_copy_148 : decode cX8_copy 148 = .ok (.iaload, 1) := by decide +kernel
theorem dX8_copy_149 : decode cX8_copy 149 = .ok (.iastore, 1) := by decide +kernel
theorem dX8_copy_150 : decode cX8_copy 150 = .ok (.iinc 6 1, 3) := by decide +kernel
theorem dX8_copy_153 : decode cX8_copy 153 = .ok (.goto (-31), 3) := by decide +kernel
theorem dX8_copy_156 : decode cX8_copy 156 = .ok (.iconst 0, 1) := by decide +kernel
theorem dX8_copy_157 : decode cX8_copy 157 = .ok (.istore 6, 2) := by decide +kernel
theorem dX8_copy_159 : decode cX8_copy 159 = .ok (.iload 6, 2) := by decide +kernel
theorem dX8_copy_161 : decode cX8_copy 161 = .ok (.iload 5, 2) := by decide +kernel
theorem dX8_copy_163 : decode cX8_copy 163 = .ok (.if_icmp .ge 31, 3) := by decide +kernel
theorem dX8_copy_166 : decode cX8_copy 166 = .ok (.aload_n 0, 1) := by decide +kernel
theorem dX8_copy_167 : decode cX8_copy 167 = .ok (.getfield 32, 3) := by decide +kernel
theorem dX8_copy_170 : decode cX8_copy 170 = .ok (.bipush 100, 2) := by decide +kernel
theorem dX8_copy_172 : decode cX8_copy 172 = .ok (.iload_n 3, 1) := by decide +kernel
theorem dX8_copy_173 : decode cX8_copy 173 = .ok (.imul, 1) := by decide +kernel
theorem dX8_copy_174 : decode cX8_copy 174 = .ok (.iload 4, 2) := by decide +kernel
theorem dX8_copy_176 : decode cX8_copy 176 = .ok (.iadd, 1) := by decide +kernel
theorem dX8_copy_177 : decode cX8_copy 177 = .ok (.iload 6, 2) := by decide +kernel
theorem dX8_copy_179 : decode cX8_copy 179 = .ok (.iadd, 1) := by decide +kernel
theorem dX8_copy_180 : decode cX8_copy 180 = .ok (.aload_n 0, 1) := by decide +kernel
theorem dX8_copy_181 : decode cX8_copy 181 = .ok (.getfield 35, 3) := by decide +kernel
theorem dX8_copy_184 : decode cX8_copy 184 = .ok (.iload 6, 2) := by decide +kernel
theorem dX8_copy_186 : decode cX8_copy 186 = .ok (.iaload, 1) := by decide +kernel
theorem dX8_copy_187 : decode cX8_copy 187 = .ok (.iastore, 1) := by decide +kernel
theorem dX8_copy_188 : decode cX8_copy 188 = .ok (.iinc 6 1, 3) := by decide +kernel
theorem dX8_copy_191 : decode cX8_copy 191 = .ok (.goto (-32), 3) := by decide +kernel
theorem dX8_copy_194 : decode cX8_copy 194 = .ok (.iconst 1, 1) := by decide +kernel
theorem dX8_copy_195 : decode cX8_copy 195 = .ok (.ireturn, 1) := by decide +kernel
theorem dX8_flag_0 : decode cX8_flag 0 = .ok (.aload_n 0, 1) := by decide +kernel
theorem dX8_flag_1 : decode cX8_flag 1 = .ok (.iload_n 1, 1) := by decide +kernel
theorem dX8_flag_2 : decode cX8_flag 2 = .ok (.invokevirtual 129, 3) := by decide +kernel
theorem dX8_flag_5 : decode cX8_flag 5 = .ok (.ifCond .eq 18, 3) := by decide +kernel
theorem dX8_flag_8 : decode cX8_flag 8 = .ok (.iload_n 2, 1) := by decide +kernel
theorem dX8_flag_9 : decode cX8_flag 9 = .ok (.ifCond .lt 14, 3) := by decide +kernel
theorem dX8_flag_12 : decode cX8_flag 12 = .ok (.iload_n 2, 1) := by decide +kernel
theorem dX8_flag_13 : decode cX8_flag 13 = .ok (.iload_n 3, 1) := by decide +kernel
theorem dX8_flag_14 : decode cX8_flag 14 = .ok (.if_icmp .gt 9, 3) := by decide +kernel
theorem dX8_flag_17 : decode cX8_flag 17 = .ok (.iload_n 3, 1) := by decide +kernel
theorem dX8_flag_18 : decode cX8_flag 18 = .ok (.bipush 99, 2) := by decide +kernel
theorem dX8_flag_20 : decode cX8_flag 20 = .ok (.if_icmp .le 6, 3) := by decide +kernel
theorem dX8_flag_23 : decode cX8_flag 23 = .ok (.bipush (-2), 2) := by decide +kernel
theorem dX8_flag_25 : decode cX8_flag 25 = .ok (.ireturn, 1) := by decide +kernel
theorem dX8_flag_26 : decode cX8_flag 26 = .ok (.aload_n 0, 1) := by decide +kernel
theorem dX8_flag_27 : decode cX8_flag 27 = .ok (.getfield 150, 3) := by decide +kernel
theorem dX8_flag_30 : decode cX8_flag 30 = .ok (.bipush 40, 2) := by decide +kernel
theorem dX8_flag_32 : decode cX8_flag 32 = .ok (.if_icmp .ne 6, 3) := by decide +kernel
theorem dX8_flag_35 : decode cX8_flag 35 = .ok (.bipush (-3), 2) := by decide +kernel
theorem dX8_flag_37 : decode cX8_flag 37 = .ok (.ireturn, 1) := by decide +kernel
theorem dX8_flag_38 : decode cX8_flag 38 = .ok (.aload_n 0, 1) := by decide +kernel
theorem dX8_flag_39 : decode cX8_flag 39 = .ok (.getfield 38, 3) := by decide +kernel
theorem dX8_flag_42 : decode cX8_flag 42 = .ok (.aload_n 0, 1) := by decide +kernel
theorem dX8_flag_43 : decode cX8_flag 43 = .ok (.getfield 150, 3) := by decide +kernel
theorem dX8_flag_46 : decode cX8_flag 46 = .ok (.iload_n 1, 1) := by decide +kernel
theorem dX8_flag_47 : decode cX8_flag 47 = .ok (.iastore, 1) := by decide +kernel
theorem dX8_flag_48 : decode cX8_flag 48 = .ok (.aload_n 0, 1) := by decide +kernel
theorem dX8_flag_49 : decode cX8_flag 49 = .ok (.getfield 41, 3) := by decide +kernel
theorem dX8_flag_52 : decode cX8_flag 52 = .ok (.aload_n 0, 1) := by decide +kernel
theorem dX8_flag_53 : decode cX8_flag 53 = .ok (.getfield 150, 3) := by decide +kernel
theorem dX8_flag_56 : decode cX8_flag 56 = .ok (.iload_n 2, 1) := by decide +kernel
theorem dX8_flag_57 : decode cX8_flag 57 = .ok (.iastore, 1) := by decide +kernel
theorem dX8_flag_58 : decode cX8_flag 58 = .ok (.aload_n 0, 1) := by decide +kernel
theorem dX8_flag_59 : decode cX8_flag 59 = .ok (.getfield 44, 3) := by decide +kernel
theorem dX8_flag_62 : decode cX8_flag 62 = .ok (.aload_n 0, 1) := by decide +kernel
theorem dX8_flag_63 : decode cX8_flag 63 = .ok (.getfield 150, 3) := by decide +kernel
theorem dX8_flag_66 : decode cX8_flag 66 = .ok (.iload_n 3, 1) := by decide +kernel
theorem dX8_flag_67 : decode cX8_flag 67 = .ok (.iastore, 1) := by decide +kernel
theorem dX8_flag_68 : decode cX8_flag 68 = .ok (.aload_n 0, 1) := by decide +kernel
theorem dX8_flag_69 : decode cX8_flag 69 = .ok (.dup, 1) := by decide +kernel
theorem dX8_flag_70 : decode cX8_flag 70 = .ok (.getfield 150, 3) := by decide +kernel
theorem dX8_flag_73 : decode cX8_flag 73 = .ok (.iconst 1, 1) := by decide +kernel
theorem dX8_flag_74 : decode cX8_flag 74 = .ok (.iadd, 1) := by decide +kernel
theorem dX8_flag_75 : decode cX8_flag 75 = .ok (.putfield 150, 3) := by decide +kernel
theorem dX8_flag_78 : decode cX8_flag 78 = .ok (.aload_n 0, 1) := by decide +kernel
theorem dX8_flag_79 : decode cX8_flag 79 = .ok (.getfield 150, 3) := by decide +kernel
theorem dX8_flag_82 : decode cX8_flag 82 = .ok (.ireturn, 1) := by decide +kernel
theorem dX8_unflag_0 : decode cX8_unflag 0 = .ok (.aload_n 0, 1) := by decide +kernel
theorem dX8_unflag_1 : decode cX8_unflag 1 = .ok (.getfield 150, 3) := by decide +kernel
theorem dX8_unflag_4 : decode cX8_unflag 4 = .ok (.ifCond .ne 6, 3) := by decide +kernel
theorem dX8_unflag_7 : decode cX8_unflag 7 = .ok (.bipush (-4), 2) := by decide +kernel
theorem dX8_unflag_9 : decode cX8_unflag 9 = .ok (.ireturn, 1) := by decide +kernel
theorem dX8_unflag_10 : decode cX8_unflag 10 = .ok (.aload_n 0, 1) := by decide +kernel
theorem dX8_unflag_11 : decode cX8_unflag 11 = .ok (.dup, 1) := by decide +kernel
theorem dX8_unflag_12 : decode cX8_unflag 12 = .ok (.getfield 150, 3) := by decide +kernel
theorem dX8_unflag_15 : decode cX8_unflag 15 = .ok (.iconst 1, 1) := by decide +kernel
theorem dX8_unflag_16 : decode cX8_unflag 16 = .ok (.isub, 1) := by decide +kernel
theorem dX8_unflag_17 : decode cX8_unflag 17 = .ok (.putfield 150, 3) := by decide +kernel
theorem dX8_unflag_20 : decode cX8_unflag 20 = .ok (.aload_n 0, 1) := by decide +kernel
theorem dX8_unflag_21 : decode cX8_unflag 21 = .ok (.getfield 150, 3) := by decide +kernel
theorem dX8_unflag_24 : decode cX8_unflag 24 = .ok (.ireturn, 1) := by decide +kernel
theorem dX8_isSample_0 : decode cX8_isSample 0 = .ok (.aload_n 0, 1) := by decide +kernel
theorem dX8_isSample_1 : decode cX8_isSample 1 = .ok (.getfield 22, 3) := by decide +kernel
theorem dX8_isSample_4 : decode cX8_isSample 4 = .ok (.iload_n 1, 1) := by decide +kernel
theorem dX8_isSample_5 : decode cX8_isSample 5 = .ok (.baload, 1) := by decide +kernel
theorem dX8_isSample_6 : decode cX8_isSample 6 = .ok (.ifCond .eq 13, 3) := by decide +kernel
theorem dX8_isSample_9 : decode cX8_isSample 9 = .ok (.iload_n 2, 1) := by decide +kernel
theorem dX8_isSample_10 : decode cX8_isSample 10 = .ok (.aload_n 0, 1) := by decide +kernel
theorem dX8_isSample_11 : decode cX8_isSample 11 = .ok (.getfield 29, 3) := by decide +kernel
theorem dX8_isSample_14 : decode cX8_isSample 14 = .ok (.iload_n 1, 1) := by decide +kernel
theorem dX8_isSample_15 : decode cX8_isSample 15 = .ok (.iaload, 1) := by decide +kernel
theorem dX8_isSample_16 : decode cX8_isSample 16 = .ok (.if_icmp .lt 5, 3) := by decide +kernel
theorem dX8_isSample_19 : decode cX8_isSample 19 = .ok (.iconst 0, 1) := by decide +kernel
theorem dX8_isSample_20 : decode cX8_isSample 20 = .ok (.ireturn, 1) := by decide +kernel
theorem dX8_isSample_21 : decode cX8_isSample 21 = .ok (.iconst 0, 1) := by decide +kernel
theorem dX8_isSample_22 : decode cX8_isSample 22 = .ok (.istore_n 3, 1) := by decide +kernel
theorem dX8_isSample_23 : decode cX8_isSample 23 = .ok (.iload_n 3, 1) := by decide +kernel
theorem dX8_isSample_24 : decode cX8_isSample 24 = .ok (.aload_n 0, 1) := by decide +kernel
theorem dX8_isSample_25 : decode cX8_isSample 25 = .ok (.getfield 150, 3) := by decide +kernel
theorem dX8_isSample_28 : decode cX8_isSample 28 = .ok (.if_icmp .ge 43, 3) := by decide +kernel
theorem dX8_isSample_31 : decode cX8_isSample 31 = .ok (.aload_n 0, 1) := by decide +kernel
theorem dX8_isSample_32 : decode cX8_isSample 32 = .ok (.getfield 38, 3) := by decide +kernel
theorem dX8_isSample_35 : decode cX8_isSample 35 = .ok (.iload_n 3, 1) := by decide +kernel
theorem dX8_isSample_36 : decode cX8_isSample 36 = .ok (.iaload, 1) := by decide +kernel
theorem dX8_isSample_37 : decode cX8_isSample 37 = .ok (.iload_n 1, 1) := by decide +kernel
theorem dX8_isSample_38 : decode cX8_isSample 38 = .ok (.if_icmp .ne 27, 3) := by decide +kernel
theorem dX8_isSample_41 : decode cX8_isSample 41 = .ok (.iload_n 2, 1) := by decide +kernel
theorem dX8_isSample_42 : decode cX8_isSample 42 = .ok (.i2l, 1) := by decide +kernel
theorem dX8_isSample_43 : decode cX8_isSample 43 = .ok (.aload_n 0, 1) := by decide +kernel
theorem dX8_isSample_44 : decode cX8_isSample 44 = .ok (.getfield 41, 3) := by decide +kernel
theorem dX8_isSample_47 : decode cX8_isSample 47 = .ok (.iload_n 3, 1) := by decide +kernel
theorem dX8_isSample_48 : decode cX8_isSample 48 = .ok (.iaload, 1) := by decide +kernel
theorem dX8_isSample_49 : decode cX8_isSample 49 = .ok (.i2l, 1) := by decide +kernel
theorem dX8_isSample_50 : decode cX8_isSample 50 = .ok (.aload_n 0, 1) := by decide +kernel
theorem dX8_isSample_51 : decode cX8_isSample 51 = .ok (.getfield 44, 3) := by decide +kernel
theorem dX8_isSample_54 : decode cX8_isSample 54 = .ok (.iload_n 3, 1) := by decide +kernel
theorem dX8_isSample_55 : decode cX8_isSample 55 = .ok (.iaload, 1) := by decide +kernel
theorem dX8_isSample_56 : decode cX8_isSample 56 = .ok (.i2l, 1) := by decide +kernel
theorem dX8_isSample_57 : decode cX8_isSample 57 = .ok (.invokestatic 121, 3) := by decide +kernel
theorem dX8_isSample_60 : decode cX8_isSample 60 = .ok (.ifCond .eq 5, 3) := by decide +kernel
theorem dX8_isSample_63 : decode cX8_isSample 63 = .ok (.iconst 0, 1) := by decide +kernel
theorem dX8_isSample_64 : decode cX8_isSample 64 = .ok (.ireturn, 1) := by decide +kernel
theorem dX8_isSample_65 : decode cX8_isSample 65 = .ok (.iinc 3 1, 3) := by decide +kernel
theorem dX8_isSample_68 : decode cX8_isSample 68 = .ok (.goto (-45), 3) := by decide +kernel
theorem dX8_isSample_71 : decode cX8_isSample 71 = .ok (.iconst 1, 1) := by decide +kernel
theorem dX8_isSample_72 : decode cX8_isSample 72 = .ok (.ireturn, 1) := by decide +kernel
theorem dX8_sampleAt_0 : decode cX8_sampleAt 0 = .ok (.aload_n 0, 1) := by decide +kernel
theorem dX8_sampleAt_1 : decode cX8_sampleAt 1 = .ok (.getfield 32, 3) := by decide +kernel
theorem dX8_sampleAt_4 : decode cX8_sampleAt 4 = .ok (.bipush 100, 2) := by decide +kernel
theorem dX8_sampleAt_6 : decode cX8_sampleAt 6 = .ok (.iload_n 1, 1) := by decide +kernel
theorem dX8_sampleAt_7 : decode cX8_sampleAt 7 = .ok (.imul, 1) := by decide +kernel
theorem dX8_sampleAt_8 : decode cX8_sampleAt 8 = .ok (.iload_n 2, 1) := by decide +kernel
theorem dX8_sampleAt_9 : decode cX8_sampleAt 9 = .ok (.iadd, 1) := by decide +kernel
theorem dX8_sampleAt_10 : decode cX8_sampleAt 10 = .ok (.iaload, 1) := by decide +kernel
theorem dX8_sampleAt_11 : decode cX8_sampleAt 11 = .ok (.istore_n 3, 1) := by decide +kernel
theorem dX8_sampleAt_12 : decode cX8_sampleAt 12 = .ok (.iload_n 3, 1) := by decide +kernel
theorem dX8_sampleAt_13 : decode cX8_sampleAt 13 = .ok (.sipush 500, 3) := by decide +kernel
theorem dX8_sampleAt_16 : decode cX8_sampleAt 16 = .ok (.if_icmp .le 9, 3) := by decide +kernel
theorem dX8_sampleAt_19 : decode cX8_sampleAt 19 = .ok (.ldc2_w 153, 3) := by decide +kernel
theorem dX8_sampleAt_22 : decode cX8_sampleAt 22 = .ok (.goto 18, 3) := by decide +kernel
theorem dX8_sampleAt_25 : decode cX8_sampleAt 25 = .ok (.iload_n 3, 1) := by decide +kernel
theorem dX8_sampleAt_26 : decode cX8_sampleAt 26 = .ok (.sipush (-500), 3) := by decide +kernel
theorem dX8_sampleAt_29 : decode cX8_sampleAt 29 = .ok (.if_icmp .ge 9, 3) := by decide +kernel
theorem dX8_sampleAt_32 : decode cX8_sampleAt 32 = .ok (.ldc2_w 155, 3) := by decide +kernel
theorem dX8_sampleAt_35 : decode cX8_sampleAt 35 = .ok (.goto 5, 3) := by decide +kernel
theorem dX8_sampleAt_38 : decode cX8_sampleAt 38 = .ok (.iload_n 3, 1) := by decide +kernel
theorem dX8_sampleAt_39 : decode cX8_sampleAt 39 = .ok (.i2l, 1) := by decide +kernel
theorem dX8_sampleAt_40 : decode cX8_sampleAt 40 = .ok (.lreturn, 1) := by decide +kernel
theorem dX8_multiply_0 : decode cX8_multiply 0 = .ok (.aload_n 0, 1) := by decide +kernel
theorem dX8_multiply_1 : decode cX8_multiply 1 = .ok (.iconst 0, 1) := by decide +kernel
theorem dX8_multiply_2 : decode cX8_multiply 2 = .ok (.putfield 157, 3) := by decide +kernel
theorem dX8_multiply_5 : decode cX8_multiply 5 = .ok (.lconst 0, 1) := by decide +kernel
theorem dX8_multiply_6 : decode cX8_multiply 6 = .ok (.lstore 5, 2) := by decide +kernel
theorem dX8_multiply_8 : decode cX8_multiply 8 = .ok (.iconst 0, 1) := by decide +kernel
theorem dX8_multiply_9 : decode cX8_multiply 9 = .ok (.istore 7, 2) := by decide +kernel
theorem dX8_multiply_11 : decode cX8_multiply 11 = .ok (.iload 7, 2) := by decide +kernel
theorem dX8_multiply_13 : decode cX8_multiply 13 = .ok (.bipush 100, 2) := by decide +kernel
theorem dX8_multiply_15 : decode cX8_multiply 15 = .ok (.if_icmp .ge 69, 3) := by decide +kernel
theorem dX8_multiply_18 : decode cX8_multiply 18 = .ok (.aload_n 0, 1) := by decide +kernel
theorem dX8_multiply_19 : decode cX8_multiply 19 = .ok (.iload_n 1, 1) := by decide +kernel
theorem dX8_multiply_20 : decode cX8_multiply 20 = .ok (.iload 7, 2) := by decide +kernel
theorem dX8_multiply_22 : decode cX8_multiply 22 = .ok (.iload_n 2, 1) := by decide +kernel
theorem dX8_multiply_23 : decode cX8_multiply 23 = .ok (.iadd, 1) := by decide +kernel
theorem dX8_multiply_24 : decode cX8_multiply 24 = .ok (.invokevirtual 160, 3) := by decide +kernel
theorem dX8_multiply_27 : decode cX8_multiply 27 = .ok (.ifCond .eq 51, 3) := by decide +kernel
theorem dX8_multiply_30 : decode cX8_multiply 30 = .ok (.aload_n 0, 1) := by decide +kernel
theorem dX8_multiply_31 : decode cX8_multiply 31 = .ok (.iload_n 3, 1) := by decide +kernel
theorem dX8_multiply_32 : decode cX8_multiply 32 = .ok (.iload 7, 2) := by decide +kernel
theorem dX8_multiply_34 : decode cX8_multiply 34 = .ok (.iload 4, 2) := by decide +kernel
theorem dX8_multiply_36 : decode cX8_multiply 36 = .ok (.iadd, 1) := by decide +kernel
theorem dX8_multiply_37 : decode cX8_multiply 37 = .ok (.invokevirtual 160, 3) := by decide +kernel
theorem dX8_multiply_40 : decode cX8_multiply 40 = .ok (.ifCond .eq 38, 3) := by decide +kernel
theorem dX8_multiply_43 : decode cX8_multiply 43 = .ok (.aload_n 0, 1) := by decide +kernel
theorem dX8_multiply_44 : decode cX8_multiply 44 = .ok (.dup, 1) := by decide +kernel
theorem dX8_multiply_45 : decode cX8_multiply 45 = .ok (.getfield 157, 3) := by decide +kernel
theorem dX8_multiply_48 : decode cX8_multiply 48 = .ok (.iconst 1, 1) := by decide +kernel
theorem dX8_multiply_49 : decode cX8_multiply 49 = .ok (.iadd, 1) := by decide +kernel
theorem dX8_multiply_50 : decode cX8_multiply 50 = .ok (.putfield 157, 3) := by decide +kernel
theorem dX8_multiply_53 : decode cX8_multiply 53 = .ok (.lload 5, 2) := by decide +kernel
theorem dX8_multiply_55 : decode cX8_multiply 55 = .ok (.aload_n 0, 1) := by decide +kernel
theorem dX8_multiply_56 : decode cX8_multiply 56 = .ok (.iload_n 1, 1) := by decide +kernel
theorem dX8_multiply_57 : decode cX8_multiply 57 = .ok (.iload 7, 2) := by decide +kernel
theorem dX8_multiply_59 : decode cX8_multiply 59 = .ok (.iload_n 2, 1) := by decide +kernel
theorem dX8_multiply_60 : decode cX8_multiply 60 = .ok (.iadd, 1) := by decide +kernel
theorem dX8_multiply_61 : decode cX8_multiply 61 = .ok (.invokevirtual 164, 3) := by decide +kernel
theorem dX8_multiply_64 : decode cX8_multiply 64 = .ok (.aload_n 0, 1) := by decide +kernel
theorem dX8_multiply_65 : decode cX8_multiply 65 = .ok (.iload_n 3, 1) := by decide +kernel
theorem dX8_multiply_66 : decode cX8_multiply 66 = .ok (.iload 7, 2) := by decide +kernel
theorem dX8_multiply_68 : decode cX8_multiply 68 = .ok (.iload 4, 2) := by decide +kernel
theorem dX8_multiply_70 : decode cX8_multiply 70 = .ok (.iadd, 1) := by decide +kernel
theorem dX8_multiply_71 : decode cX8_multiply 71 = .ok (.invokevirtual 164, 3) := by decide +kernel
theorem dX8_multiply_74 : decode cX8_multiply 74 = .ok (.lmul, 1) := by decide +kernel
theorem dX8_multiply_75 : decode cX8_multiply 75 = .ok (.ladd, 1) := by decide +kernel
theorem dX8_multiply_76 : decode cX8_multiply 76 = .ok (.lstore 5, 2) := by decide +kernel
theorem dX8_multiply_78 : decode cX8_multiply 78 = .ok (.iinc 7 1, 3) := by decide +kernel
theorem dX8_multiply_81 : decode cX8_multiply 81 = .ok (.goto (-70), 3) := by decide +kernel
theorem dX8_multiply_84 : decode cX8_multiply 84 = .ok (.lload 5, 2) := by decide +kernel
theorem dX8_multiply_86 : decode cX8_multiply 86 = .ok (.aload_n 0, 1) := by decide +kernel
theorem dX8_multiply_87 : decode cX8_multiply 87 = .ok (.getfield 19, 3) := by decide +kernel
theorem dX8_multiply_90 : decode cX8_multiply 90 = .ok (.iload_n 1, 1) := by decide +kernel
theorem dX8_multiply_91 : decode cX8_multiply 91 = .ok (.iaload, 1) := by decide +kernel
theorem dX8_multiply_92 : decode cX8_multiply 92 = .ok (.i2l, 1) := by decide +kernel
theorem dX8_multiply_93 : decode cX8_multiply 93 = .ok (.lmul, 1) := by decide +kernel
theorem dX8_multiply_94 : decode cX8_multiply 94 = .ok (.aload_n 0, 1) := by decide +kernel
theorem dX8_multiply_95 : decode cX8_multiply 95 = .ok (.getfield 19, 3) := by decide +kernel
theorem dX8_multiply_98 : decode cX8_multiply 98 = .ok (.iload_n 3, 1) := by decide +kernel
theorem dX8_multiply_99 : decode cX8_multiply 99 = .ok (.iaload, 1) := by decide +kernel
theorem dX8_multiply_100 : decode cX8_multiply 100 = .ok (.i2l, 1) := by decide +kernel
theorem dX8_multiply_101 : decode cX8_multiply 101 = .ok (.lmul, 1) := by decide +kernel
theorem dX8_multiply_102 : decode cX8_multiply 102 = .ok (.lreturn, 1) := by decide +kernel
theorem dX8_productOf_0 : decode cX8_productOf 0 = .ok (.aload_n 0, 1) := by decide +kernel
theorem dX8_productOf_1 : decode cX8_productOf 1 = .ok (.iload_n 1, 1) := by decide +kernel
theorem dX8_productOf_2 : decode cX8_productOf 2 = .ok (.aload_n 0, 1) := by decide +kernel
theorem dX8_productOf_3 : decode cX8_productOf 3 = .ok (.getfield 16, 3) := by decide +kernel
theorem dX8_productOf_6 : decode cX8_productOf 6 = .ok (.iload_n 1, 1) := by decide +kernel
theorem dX8_productOf_7 : decode cX8_productOf 7 = .ok (.iaload, 1) := by decide +kernel
theorem dX8_productOf_8 : decode cX8_productOf 8 = .ok (.iload_n 2, 1) := by decide +kernel
theorem dX8_productOf_9 : decode cX8_productOf 9 = .ok (.aload_n 0, 1) := by decide +kernel
theorem dX8_productOf_10 : decode cX8_productOf 10 = .ok (.getfield 16, 3) := by decide +kernel
theorem dX8_productOf_13 : decode cX8_productOf 13 = .ok (.iload_n 2, 1) := by decide +kernel
theorem dX8_productOf_14 : decode cX8_productOf 14 = .ok (.iaload, 1) := by decide +kernel
theorem dX8_productOf_15 : decode cX8_productOf 15 = .ok (.invokevirtual 168, 3) := by decide +kernel
theorem dX8_productOf_18 : decode cX8_productOf 18 = .ok (.lreturn, 1) := by decide +kernel
theorem dX8_ticks_0 : decode cX8_ticks 0 = .ok (.aload_n 0, 1) := by decide +kernel
theorem dX8_ticks_1 : decode cX8_ticks 1 = .ok (.iload_n 1, 1) := by decide +kernel
theorem dX8_ticks_2 : decode cX8_ticks 2 = .ok (.invokevirtual 129, 3) := by decide +kernel
theorem dX8_ticks_5 : decode cX8_ticks 5 = .ok (.ifCond .eq 11, 3) := by decide +kernel
theorem dX8_ticks_8 : decode cX8_ticks 8 = .ok (.aload_n 0, 1) := by decide +kernel
theorem dX8_ticks_9 : decode cX8_ticks 9 = .ok (.iload_n 2, 1) := by decide +kernel
theorem dX8_ticks_10 : decode cX8_ticks 10 = .ok (.invokevirtual 129, 3) := by decide +kernel
theorem dX8_ticks_13 : decode cX8_ticks 13 = .ok (.ifCond .ne 6, 3) := by decide +kernel
theorem dX8_ticks_16 : decode cX8_ticks 16 = .ok (.bipush (-2), 2) := by decide +kernel
theorem dX8_ticks_18 : decode cX8_ticks 18 = .ok (.ireturn, 1) := by decide +kernel
theorem dX8_ticks_19 : decode cX8_ticks 19 = .ok (.aload_n 0, 1) := by decide +kernel
theorem dX8_ticks_20 : decode cX8_ticks 20 = .ok (.iload_n 1, 1) := by decide +kernel
theorem dX8_ticks_21 : decode cX8_ticks 21 = .ok (.iload_n 2, 1) := by decide +kernel
theorem dX8_ticks_22 : decode cX8_ticks 22 = .ok (.invokevirtual 172, 3) := by decide +kernel
theorem dX8_ticks_25 : decode cX8_ticks 25 = .ok (.lstore_n 3, 1) := by decide +kernel
theorem dX8_ticks_26 : decode cX8_ticks 26 = .ok (.aload_n 0, 1) := by decide +kernel
theorem dX8_ticks_27 : decode cX8_ticks 27 = .ok (.getfield 157, 3) := by decide +kernel
theorem dX8_ticks_30 : decode cX8_ticks 30 = .ok (.ireturn, 1) := by decide +kernel
theorem dX8_product_0 : decode cX8_product 0 = .ok (.aload_n 0, 1) := by decide +kernel
theorem dX8_product_1 : decode cX8_product 1 = .ok (.iload_n 1, 1) := by decide +kernel
theorem dX8_product_2 : decode cX8_product 2 = .ok (.invokevirtual 129, 3) := by decide +kernel
theorem dX8_product_5 : decode cX8_product 5 = .ok (.ifCond .eq 20, 3) := by decide +kernel
theorem dX8_product_8 : decode cX8_product 8 = .ok (.aload_n 0, 1) := by decide +kernel
theorem dX8_product_9 : decode cX8_product 9 = .ok (.iload_n 2, 1) := by decide +kernel
theorem dX8_product_10 : decode cX8_product 10 = .ok (.invokevirtual 129, 3) := by decide +kernel
theorem dX8_product_13 : decode cX8_product 13 = .ok (.ifCond .eq 12, 3) := by decide +kernel
theorem dX8_product_16 : decode cX8_product 16 = .ok (.aload_n 0, 1) := by decide +kernel
theorem dX8_product_17 : decode cX8_product 17 = .ok (.iload_n 1, 1) := by decide +kernel
theorem dX8_product_18 : decode cX8_product 18 = .ok (.iload_n 2, 1) := by decide +kernel
theorem dX8_product_19 : decode cX8_product 19 = .ok (.invokevirtual 172, 3) := by decide +kernel
theorem dX8_product_22 : decode cX8_product 22 = .ok (.goto 6, 3) := by decide +kernel
theorem dX8_product_25 : decode cX8_product 25 = .ok (.ldc2_w 175, 3) := by decide +kernel
theorem dX8_product_28 : decode cX8_product 28 = .ok (.lreturn, 1) := by decide +kernel
theorem dX8_delay_0 : decode cX8_delay 0 = .ok (.aload_n 0, 1) := by decide +kernel
theorem dX8_delay_1 : decode cX8_delay 1 = .ok (.iload_n 1, 1) := by decide +kernel
theorem dX8_delay_2 : decode cX8_delay 2 = .ok (.invokevirtual 129, 3) := by decide +kernel
theorem dX8_delay_5 : decode cX8_delay 5 = .ok (.ifCond .eq 11, 3) := by decide +kernel
theorem dX8_delay_8 : decode cX8_delay 8 = .ok (.aload_n 0, 1) := by decide +kernel
theorem dX8_delay_9 : decode cX8_delay 9 = .ok (.iload_n 2, 1) := by decide +kernel
theorem dX8_delay_10 : decode cX8_delay 10 = .ok (.invokevirtual 129, 3) := by decide +kernel
theorem dX8_delay_13 : decode cX8_delay 13 = .ok (.ifCond .ne 6, 3) := by decide +kernel
theorem dX8_delay_16 : decode cX8_delay 16 = .ok (.bipush (-2), 2) := by decide +kernel
theorem dX8_delay_18 : decode cX8_delay 18 = .ok (.ireturn, 1) := by decide +kernel
theorem dX8_delay_19 : decode cX8_delay 19 = .ok (.iconst 0, 1) := by decide +kernel
theorem dX8_delay_20 : decode cX8_delay 20 = .ok (.istore_n 3, 1) := by decide +kernel
theorem dX8_delay_21 : decode cX8_delay 21 = .ok (.aload_n 0, 1) := by decide +kernel
theorem dX8_delay_22 : decode cX8_delay 22 = .ok (.iload_n 1, 1) := by decide +kernel
theorem dX8_delay_23 : decode cX8_delay 23 = .ok (.aload_n 0, 1) := by decide +kernel
theorem dX8_delay_24 : decode cX8_delay 24 = .ok (.getfield 16, 3) := by decide +kernel
theorem dX8_delay_27 : decode cX8_delay 27 = .ok (.iload_n 1, 1) := by decide +kernel
theorem dX8_delay_28 : decode cX8_delay 28 = .ok (.iaload, 1) := by decide +kernel
theorem dX8_delay_29 : decode cX8_delay 29 = .ok (.iload_n 2, 1) := by decide +kernel
theorem dX8_delay_30 : decode cX8_delay 30 = .ok (.iconst 0, 1) := by decide +kernel
theorem dX8_delay_31 : decode cX8_delay 31 = .ok (.invokevirtual 168, 3) := by decide +kernel
theorem dX8_delay_34 : decode cX8_delay 34 = .ok (.lstore 4, 2) := by decide +kernel
theorem dX8_delay_36 : decode cX8_delay 36 = .ok (.iconst 1, 1) := by decide +kernel
theorem dX8_delay_37 : decode cX8_delay 37 = .ok (.istore 6, 2) := by decide +kernel
theorem dX8_delay_39 : decode cX8_delay 39 = .ok (.iload 6, 2) := by decide +kernel
theorem dX8_delay_41 : decode cX8_delay 41 = .ok (.bipush 30, 2) := by decide +kernel
theorem dX8_delay_43 : decode cX8_delay 43 = .ok (.if_icmp .gt 40, 3) := by decide +kernel
theorem dX8_delay_46 : decode cX8_delay 46 = .ok (.aload_n 0, 1) := by decide +kernel
theorem dX8_delay_47 : decode cX8_delay 47 = .ok (.iload_n 1, 1) := by decide +kernel
theorem dX8_delay_48 : decode cX8_delay 48 = .ok (.aload_n 0, 1) := by decide +kernel
theorem dX8_delay_49 : decode cX8_delay 49 = .ok (.getfield 16, 3) := by decide +kernel
theorem dX8_delay_52 : decode cX8_delay 52 = .ok (.iload_n 1, 1) := by decide +kernel
theorem dX8_delay_53 : decode cX8_delay 53 = .ok (.iaload, 1) := by decide +kernel
theorem dX8_delay_54 : decode cX8_delay 54 = .ok (.iload_n 2, 1) := by decide +kernel
theorem dX8_delay_55 : decode cX8_delay 55 = .ok (.iload 6, 2) := by decide +kernel
theorem dX8_delay_57 : decode cX8_delay 57 = .ok (.invokevirtual 168, 3) := by decide +kernel
theorem dX8_delay_60 : decode cX8_delay 60 = .ok (.lstore 7, 2) := by decide +kernel
theorem dX8_delay_62 : decode cX8_delay 62 = .ok (.lload 7, 2) := by decide +kernel
theorem dX8_delay_64 : decode cX8_delay 64 = .ok (.lload 4, 2) := by decide +kernel
theorem dX8_delay_66 : decode cX8_delay 66 = .ok (.lcmp, 1) := by decide +kernel
theorem dX8_delay_67 : decode cX8_delay 67 = .ok (.ifCond .le 10, 3) := by decide +kernel
theorem dX8_delay_70 : decode cX8_delay 70 = .ok (.lload 7, 2) := by decide +kernel
theorem dX8_delay_72 : decode cX8_delay 72 = .ok (.lstore 4, 2) := by decide +kernel
theorem dX8_delay_74 : decode cX8_delay 74 = .ok (.iload 6, 2) := by decide +kernel
theorem dX8_delay_76 : decode cX8_delay 76 = .ok (.istore_n 3, 1) := by decide +kernel
theorem dX8_delay_77 : decode cX8_delay 77 = .ok (.iinc 6 1, 3) := by decide +kernel
theorem dX8_delay_80 : decode cX8_delay 80 = .ok (.goto (-41), 3) := by decide +kernel
theorem dX8_delay_83 : decode cX8_delay 83 = .ok (.iload_n 3, 1) := by decide +kernel
theorem dX8_delay_84 : decode cX8_delay 84 = .ok (.ireturn, 1) := by decide +kernel
theorem dX8_sign_0 : decode cX8_sign 0 = .ok (.lload_n 0, 1) := by decide +kernel
theorem dX8_sign_1 : decode cX8_sign 1 = .ok (.lconst 0, 1) := by decide +kernel
theorem dX8_sign_2 : decode cX8_sign 2 = .ok (.lcmp, 1) := by decide +kernel
theorem dX8_sign_3 : decode cX8_sign 3 = .ok (.ifCond .le 7, 3) := by decide +kernel
theorem dX8_sign_6 : decode cX8_sign 6 = .ok (.iconst 1, 1) := by decide +kernel
theorem dX8_sign_7 : decode cX8_sign 7 = .ok (.goto 14, 3) := by decide +kernel
theorem dX8_sign_10 : decode cX8_sign 10 = .ok (.lload_n 0, 1) := by decide +kernel
theorem dX8_sign_11 : decode cX8_sign 11 = .ok (.lconst 0, 1) := by decide +kernel
theorem dX8_sign_12 : decode cX8_sign 12 = .ok (.lcmp, 1) := by decide +kernel
theorem dX8_sign_13 : decode cX8_sign 13 = .ok (.ifCond .ge 7, 3) := by decide +kernel
theorem dX8_sign_16 : decode cX8_sign 16 = .ok (.iconst (-1), 1) := by decide +kernel
theorem dX8_sign_17 : decode cX8_sign 17 = .ok (.goto 4, 3) := by decide +kernel
theorem dX8_sign_20 : decode cX8_sign 20 = .ok (.iconst 0, 1) := by decide +kernel
theorem dX8_sign_21 : decode cX8_sign 21 = .ok (.ireturn, 1) := by decide +kernel
theorem dX8_three_0 : decode cX8_three 0 = .ok (.aload_n 0, 1) := by decide +kernel
theorem dX8_three_1 : decode cX8_three 1 = .ok (.iload_n 1, 1) := by decide +kernel
theorem dX8_three_2 : decode cX8_three 2 = .ok (.invokevirtual 129, 3) := by decide +kernel
theorem dX8_three_5 : decode cX8_three 5 = .ok (.ifCond .eq 34, 3) := by decide +kernel
theorem dX8_three_8 : decode cX8_three 8 = .ok (.aload_n 0, 1) := by decide +kernel
theorem dX8_three_9 : decode cX8_three 9 = .ok (.iload_n 2, 1) := by decide +kernel
theorem dX8_three_10 : decode cX8_three 10 = .ok (.invokevirtual 129, 3) := by decide +kernel
theorem dX8_three_13 : decode cX8_three 13 = .ok (.ifCond .eq 26, 3) := by decide +kernel
theorem dX8_three_16 : decode cX8_three 16 = .ok (.aload_n 0, 1) := by decide +kernel
theorem dX8_three_17 : decode cX8_three 17 = .ok (.iload_n 3, 1) := by decide +kernel
theorem dX8_three_18 : decode cX8_three 18 = .ok (.invokevirtual 129, 3) := by decide +kernel
theorem dX8_three_21 : decode cX8_three 21 = .ok (.ifCond .eq 18, 3) := by decide +kernel
theorem dX8_three_24 : decode cX8_three 24 = .ok (.iload_n 1, 1) := by decide +kernel
theorem dX8_three_25 : decode cX8_three 25 = .ok (.iload_n 2, 1) := by decide +kernel
theorem dX8_three_26 : decode cX8_three 26 = .ok (.if_icmp .eq 13, 3) := by decide +kernel
theorem dX8_three_29 : decode cX8_three 29 = .ok (.iload_n 2, 1) := by decide +kernel
theorem dX8_three_30 : decode cX8_three 30 = .ok (.iload_n 3, 1) := by decide +kernel
theorem dX8_three_31 : decode cX8_three 31 = .ok (.if_icmp .eq 8, 3) := by decide +kernel
theorem dX8_three_34 : decode cX8_three 34 = .ok (.iload_n 1, 1) := by decide +kernel
theorem dX8_three_35 : decode cX8_three 35 = .ok (.iload_n 3, 1) := by decide +kernel
theorem dX8_three_36 : decode cX8_three 36 = .ok (.if_icmp .ne 6, 3) := by decide +kernel
theorem dX8_three_39 : decode cX8_three 39 = .ok (.bipush (-2), 2) := by decide +kernel
theorem dX8_three_41 : decode cX8_three 41 = .ok (.ireturn, 1) := by decide +kernel
theorem dX8_three_42 : decode cX8_three 42 = .ok (.aload_n 0, 1) := by decide +kernel
theorem dX8_three_43 : decode cX8_three 43 = .ok (.iload_n 1, 1) := by decide +kernel
theorem dX8_three_44 : decode cX8_three 44 = .ok (.iload_n 2, 1) := by decide +kernel
theorem dX8_three_45 : decode cX8_three 45 = .ok (.invokevirtual 172, 3) := by decide +kernel
theorem dX8_three_48 : decode cX8_three 48 = .ok (.invokestatic 177, 3) := by decide +kernel
theorem dX8_three_51 : decode cX8_three 51 = .ok (.aload_n 0, 1) := by decide +kernel
theorem dX8_three_52 : decode cX8_three 52 = .ok (.iload_n 2, 1) := by decide +kernel
theorem dX8_three_53 : decode cX8_three 53 = .ok (.iload_n 3, 1) := by decide +kernel
theorem dX8_three_54 : decode cX8_three 54 = .ok (.invokevirtual 172, 3) := by decide +kernel
theorem dX8_three_57 : decode cX8_three 57 = .ok (.invokestatic 177, 3) := by decide +kernel
theorem dX8_three_60 : decode cX8_three 60 = .ok (.imul, 1) := by decide +kernel
theorem dX8_three_61 : decode cX8_three 61 = .ok (.aload_n 0, 1) := by decide +kernel
theorem dX8_three_62 : decode cX8_three 62 = .ok (.iload_n 1, 1) := by decide +kernel
theorem dX8_three_63 : decode cX8_three 63 = .ok (.iload_n 3, 1) := by decide +kernel
theorem dX8_three_64 : decode cX8_three 64 = .ok (.invokevirtual 172, 3) := by decide +kernel
theorem dX8_three_67 : decode cX8_three 67 = .ok (.invokestatic 177, 3) := by decide +kernel
theorem dX8_three_70 : decode cX8_three 70 = .ok (.imul, 1) := by decide +kernel
theorem dX8_three_71 : decode cX8_three 71 = .ok (.ireturn, 1) := by decide +kernel
theorem dX8_four_0 : decode cX8_four 0 = .ok (.aload_n 0, 1) := by decide +kernel
theorem dX8_four_1 : decode cX8_four 1 = .ok (.iload_n 1, 1) := by decide +kernel
theorem dX8_four_2 : decode cX8_four 2 = .ok (.invokevirtual 129, 3) := by decide +kernel
theorem dX8_four_5 : decode cX8_four 5 = .ok (.ifCond .eq 61, 3) := by decide +kernel
theorem dX8_four_8 : decode cX8_four 8 = .ok (.aload_n 0, 1) := by decide +kernel
theorem dX8_four_9 : decode cX8_four 9 = .ok (.iload_n 2, 1) := by decide +kernel
theorem dX8_four_10 : decode cX8_four 10 = .ok (.invokevirtual 129, 3) := by decide +kernel
theorem dX8_four_13 : decode cX8_four 13 = .ok (.ifCond .eq 53, 3) := by decide +kernel
theorem dX8_four_16 : decode cX8_four 16 = .ok (.aload_n 0, 1) := by decide +kernel
theorem dX8_four_17 : decode cX8_four 17 = .ok (.iload_n 3, 1) := by decide +kernel
theorem dX8_four_18 : decode cX8_four 18 = .ok (.invokevirtual 129, 3) := by decide +kernel
theorem dX8_four_21 : decode cX8_four 21 = .ok (.ifCond .eq 45, 3) := by decide +kernel
theorem dX8_four_24 : decode cX8_four 24 = .ok (.aload_n 0, 1) := by decide +kernel
theorem dX8_four_25 : decode cX8_four 25 = .ok (.iload 4, 2) := by decide +kernel
theorem dX8_four_27 : decode cX8_four 27 = .ok (.invokevirtual 129, 3) := by decide +kernel
theorem dX8_four_30 : decode cX8_four 30 = .ok (.ifCond .eq 36, 3) := by decide +kernel
theorem dX8_four_33 : decode cX8_four 33 = .ok (.iload_n 1, 1) := by decide +kernel
theorem dX8_four_34 : decode cX8_four 34 = .ok (.iload_n 2, 1) := by decide +kernel
theorem dX8_four_35 : decode cX8_four 35 = .ok (.if_icmp .eq 31, 3) := by decide +kernel
theorem dX8_four_38 : decode cX8_four 38 = .ok (.iload_n 1, 1) := by decide +kernel
theorem dX8_four_39 : decode cX8_four 39 = .ok (.iload_n 3, 1) := by decide +kernel
theorem dX8_four_40 : decode cX8_four 40 = .ok (.if_icmp .eq 26, 3) := by decide +kernel
theorem dX8_four_43 : decode cX8_four 43 = .ok (.iload_n 1, 1) := by decide +kernel
theorem dX8_four_44 : decode cX8_four 44 = .ok (.iload 4, 2) := by decide +kernel
theorem dX8_four_46 : decode cX8_four 46 = .ok (.if_icmp .eq 20, 3) := by decide +kernel
theorem dX8_four_49 : decode cX8_four 49 = .ok (.iload_n 2, 1) := by decide +kernel
theorem dX8_four_50 : decode cX8_four 50 = .ok (.iload_n 3, 1) := by decide +kernel
theorem dX8_four_51 : decode cX8_four 51 = .ok (.if_icmp .eq 15, 3) := by decide +kernel
theorem dX8_four_54 : decode cX8_four 54 = .ok (.iload_n 2, 1) := by decide +kernel
theorem dX8_four_55 : decode cX8_four 55 = .ok (.iload 4, 2) := by decide +kernel
theorem dX8_four_57 : decode cX8_four 57 = .ok (.if_icmp .eq 9, 3) := by decide +kernel
theorem dX8_four_60 : decode cX8_four 60 = .ok (.iload_n 3, 1) := by decide +kernel
theorem dX8_four_61 : decode cX8_four 61 = .ok (.iload 4, 2) := by decide +kernel
theorem dX8_four_63 : decode cX8_four 63 = .ok (.if_icmp .ne 6, 3) := by decide +kernel
theorem dX8_four_66 : decode cX8_four 66 = .ok (.bipush (-2), 2) := by decide +kernel
theorem dX8_four_68 : decode cX8_four 68 = .ok (.ireturn, 1) := by decide +kernel
theorem dX8_four_69 : decode cX8_four 69 = .ok (.aload_n 0, 1) := by decide +kernel
theorem dX8_four_70 : decode cX8_four 70 = .ok (.iload_n 1, 1) := by decide +kernel
theorem dX8_four_71 : decode cX8_four 71 = .ok (.iload_n 2, 1) := by decide +kernel
theorem dX8_four_72 : decode cX8_four 72 = .ok (.invokevirtual 172, 3) := by decide +kernel
theorem dX8_four_75 : decode cX8_four 75 = .ok (.aload_n 0, 1) := by decide +kernel
theorem dX8_four_76 : decode cX8_four 76 = .ok (.iload_n 3, 1) := by decide +kernel
theorem dX8_four_77 : decode cX8_four 77 = .ok (.iload 4, 2) := by decide +kernel
theorem dX8_four_79 : decode cX8_four 79 = .ok (.invokevirtual 172, 3) := by decide +kernel
theorem dX8_four_82 : decode cX8_four 82 = .ok (.lmul, 1) := by decide +kernel
theorem dX8_four_83 : decode cX8_four 83 = .ok (.aload_n 0, 1) := by decide +kernel
theorem dX8_four_84 : decode cX8_four 84 = .ok (.iload_n 1, 1) := by decide +kernel
theorem dX8_four_85 : decode cX8_four 85 = .ok (.iload_n 3, 1) := by decide +kernel
theorem dX8_four_86 : decode cX8_four 86 = .ok (.invokevirtual 172, 3) := by decide +kernel
theorem dX8_four_89 : decode cX8_four 89 = .ok (.aload_n 0, 1) := by decide +kernel
theorem dX8_four_90 : decode cX8_four 90 = .ok (.iload_n 2, 1) := by decide +kernel
theorem dX8_four_91 : decode cX8_four 91 = .ok (.iload 4, 2) := by decide +kernel
theorem dX8_four_93 : decode cX8_four 93 = .ok (.invokevirtual 172, 3) := by decide +kernel
theorem dX8_four_96 : decode cX8_four 96 = .ok (.lmul, 1) := by decide +kernel
theorem dX8_four_97 : decode cX8_four 97 = .ok (.lsub, 1) := by decide +kernel
theorem dX8_four_98 : decode cX8_four 98 = .ok (.invokestatic 177, 3) := by decide +kernel
theorem dX8_four_101 : decode cX8_four 101 = .ok (.ireturn, 1) := by decide +kernel
theorem dX8_all_0 : decode cX8_all 0 = .ok (.aload_n 0, 1) := by decide +kernel
theorem dX8_all_1 : decode cX8_all 1 = .ok (.iconst 0, 1) := by decide +kernel
theorem dX8_all_2 : decode cX8_all 2 = .ok (.putfield 181, 3) := by decide +kernel
theorem dX8_all_5 : decode cX8_all 5 = .ok (.aload_n 0, 1) := by decide +kernel
theorem dX8_all_6 : decode cX8_all 6 = .ok (.bipush 15, 2) := by decide +kernel
theorem dX8_all_8 : decode cX8_all 8 = .ok (.putfield 184, 3) := by decide +kernel
theorem dX8_all_11 : decode cX8_all 11 = .ok (.aload_n 0, 1) := by decide +kernel
theorem dX8_all_12 : decode cX8_all 12 = .ok (.iconst 0, 1) := by decide +kernel
theorem dX8_all_13 : decode cX8_all 13 = .ok (.putfield 187, 3) := by decide +kernel
theorem dX8_all_16 : decode cX8_all 16 = .ok (.aload_n 0, 1) := by decide +kernel
theorem dX8_all_17 : decode cX8_all 17 = .ok (.bipush 15, 2) := by decide +kernel
theorem dX8_all_19 : decode cX8_all 19 = .ok (.putfield 190, 3) := by decide +kernel
theorem dX8_all_22 : decode cX8_all 22 = .ok (.return_, 1) := by decide +kernel
theorem dX8_wave_0 : decode cX8_wave 0 = .ok (.aload_n 0, 1) := by decide +kernel
theorem dX8_wave_1 : decode cX8_wave 1 = .ok (.getfield 47, 3) := by decide +kernel
theorem dX8_wave_4 : decode cX8_wave 4 = .ok (.iload_n 1, 1) := by decide +kernel
theorem dX8_wave_5 : decode cX8_wave 5 = .ok (.bipush 15, 2) := by decide +kernel
theorem dX8_wave_7 : decode cX8_wave 7 = .ok (.iand, 1) := by decide +kernel
theorem dX8_wave_8 : decode cX8_wave 8 = .ok (.iaload, 1) := by decide +kernel
theorem dX8_wave_9 : decode cX8_wave 9 = .ok (.ireturn, 1) := by decide +kernel
theorem dX8_space_0 : decode cX8_space 0 = .ok (.aload_n 0, 1) := by decide +kernel
theorem dX8_space_1 : decode cX8_space 1 = .ok (.iconst 0, 1) := by decide +kernel
theorem dX8_space_2 : decode cX8_space 2 = .ok (.putfield 193, 3) := by decide +kernel
theorem dX8_space_5 : decode cX8_space 5 = .ok (.iconst 0, 1) := by decide +kernel
theorem dX8_space_6 : decode cX8_space 6 = .ok (.istore_n 1, 1) := by decide +kernel
theorem dX8_space_7 : decode cX8_space 7 = .ok (.iload_n 1, 1) := by decide +kernel
theorem dX8_space_8 : decode cX8_space 8 = .ok (.aload_n 0, 1) := by decide +kernel
theorem dX8_space_9 : decode cX8_space 9 = .ok (.getfield 118, 3) := by decide +kernel
theorem dX8_space_12 : decode cX8_space 12 = .ok (.if_icmp .ge 105, 3) := by decide +kernel
theorem dX8_space_15 : decode cX8_space 15 = .ok (.iload_n 1, 1) := by decide +kernel
theorem dX8_space_16 : decode cX8_space 16 = .ok (.iconst 1, 1) := by decide +kernel
theorem dX8_space_17 : decode cX8_space 17 = .ok (.iadd, 1) := by decide +kernel
theorem dX8_space_18 : decode cX8_space 18 = .ok (.istore_n 2, 1) := by decide +kernel
theorem dX8_space_19 : decode cX8_space 19 = .ok (.iload_n 2, 1) := by decide +kernel
theorem dX8_space_20 : decode cX8_space 20 = .ok (.aload_n 0, 1) := by decide +kernel
theorem dX8_space_21 : decode cX8_space 21 = .ok (.getfield 118, 3) := by decide +kernel
theorem dX8_space_24 : decode cX8_space 24 = .ok (.if_icmp .ge 87, 3) := by decide +kernel
theorem dX8_space_27 : decode cX8_space 27 = .ok (.aload_n 0, 1) := by decide +kernel
theorem dX8_space_28 : decode cX8_space 28 = .ok (.iload_n 1, 1) := by decide +kernel
theorem dX8_space_29 : decode cX8_space 29 = .ok (.iload_n 2, 1) := by decide +kernel
theorem dX8_space_30 : decode cX8_space 30 = .ok (.invokevirtual 172, 3) := by decide +kernel
theorem dX8_space_33 : decode cX8_space 33 = .ok (.lstore_n 3, 1) := by decide +kernel
theorem dX8_space_34 : decode cX8_space 34 = .ok (.aload_n 0, 1) := by decide +kernel
theorem dX8_space_35 : decode cX8_space 35 = .ok (.getfield 157, 3) := by decide +kernel
theorem dX8_space_38 : decode cX8_space 38 = .ok (.ifCond .le 67, 3) := by decide +kernel
theorem dX8_space_41 : decode cX8_space 41 = .ok (.aload_n 0, 1) := by decide +kernel
theorem dX8_space_42 : decode cX8_space 42 = .ok (.getfield 54, 3) := by decide +kernel
theorem dX8_space_45 : decode cX8_space 45 = .ok (.aload_n 0, 1) := by decide +kernel
theorem dX8_space_46 : decode cX8_space 46 = .ok (.getfield 193, 3) := by decide +kernel
theorem dX8_space_49 : decode cX8_space 49 = .ok (.aload_n 0, 1) := by decide +kernel
theorem dX8_space_50 : decode cX8_space 50 = .ok (.getfield 7, 3) := by decide +kernel
theorem dX8_space_53 : decode cX8_space 53 = .ok (.iload_n 2, 1) := by decide +kernel
theorem dX8_space_54 : decode cX8_space 54 = .ok (.iaload, 1) := by decide +kernel
theorem dX8_space_55 : decode cX8_space 55 = .ok (.aload_n 0, 1) := by decide +kernel
theorem dX8_space_56 : decode cX8_space 56 = .ok (.getfield 7, 3) := by decide +kernel
theorem dX8_space_59 : decode cX8_space 59 = .ok (.iload_n 1, 1) := by decide +kernel
theorem dX8_space_60 : decode cX8_space 60 = .ok (.iaload, 1) := by decide +kernel
theorem dX8_space_61 : decode cX8_space 61 = .ok (.isub, 1) := by decide +kernel
theorem dX8_space_62 : decode cX8_space 62 = .ok (.iastore, 1) := by decide +kernel
theorem dX8_space_63 : decode cX8_space 63 = .ok (.aload_n 0, 1) := by decide +kernel
theorem dX8_space_64 : decode cX8_space 64 = .ok (.getfield 57, 3) := by decide +kernel
theorem dX8_space_67 : decode cX8_space 67 = .ok (.aload_n 0, 1) := by decide +kernel
theorem dX8_space_68 : decode cX8_space 68 = .ok (.getfield 193, 3) := by decide +kernel
theorem dX8_space_71 : decode cX8_space 71 = .ok (.aload_n 0, 1) := by decide +kernel
theorem dX8_space_72 : decode cX8_space 72 = .ok (.getfield 13, 3) := by decide +kernel
theorem dX8_space_75 : decode cX8_space 75 = .ok (.iload_n 2, 1) := by decide +kernel
theorem dX8_space_76 : decode cX8_space 76 = .ok (.iaload, 1) := by decide +kernel
theorem dX8_space_77 : decode cX8_space 77 = .ok (.aload_n 0, 1) := by decide +kernel
theorem dX8_space_78 : decode cX8_space 78 = .ok (.getfield 13, 3) := by decide +kernel
theorem dX8_space_81 : decode cX8_space 81 = .ok (.iload_n 1, 1) := by decide +kernel
theorem dX8_space_82 : decode cX8_space 82 = .ok (.iaload, 1) := by decide +kernel
theorem dX8_space_83 : decode cX8_space 83 = .ok (.isub, 1) := by decide +kernel
theorem dX8_space_84 : decode cX8_space 84 = .ok (.iastore, 1) := by decide +kernel
theorem dX8_space_85 : decode cX8_space 85 = .ok (.aload_n 0, 1) := by decide +kernel
theorem dX8_space_86 : decode cX8_space 86 = .ok (.getfield 60, 3) := by decide +kernel
theorem dX8_space_89 : decode cX8_space 89 = .ok (.aload_n 0, 1) := by decide +kernel
theorem dX8_space_90 : decode cX8_space 90 = .ok (.getfield 193, 3) := by decide +kernel
theorem dX8_space_93 : decode cX8_space 93 = .ok (.lload_n 3, 1) := by decide +kernel
theorem dX8_space_94 : decode cX8_space 94 = .ok (.lastore, 1) := by decide +kernel
theorem dX8_space_95 : decode cX8_space 95 = .ok (.aload_n 0, 1) := by decide +kernel
theorem dX8_space_96 : decode cX8_space 96 = .ok (.dup, 1) := by decide +kernel
theorem dX8_space_97 : decode cX8_space 97 = .ok (.getfield 193, 3) := by decide +kernel
theorem dX8_space_100 : decode cX8_space 100 = .ok (.iconst 1, 1) := by decide +kernel
theorem dX8_space_101 : decode cX8_space 101 = .ok (.iadd, 1) := by decide +kernel
theorem dX8_space_102 : decode cX8_space 102 = .ok (.putfield 193, 3) := by decide +kernel
theorem dX8_space_105 : decode cX8_space 105 = .ok (.iinc 2 1, 3) := by decide +kernel
theorem dX8_space_108 : decode cX8_space 108 = .ok (.goto (-89), 3) := by decide +kernel
theorem dX8_space_111 : decode cX8_space 111 = .ok (.iinc 1 1, 3) := by decide +kernel
theorem dX8_space_114 : decode cX8_space 114 = .ok (.goto (-107), 3) := by decide +kernel
theorem dX8_space_117 : decode cX8_space 117 = .ok (.return_, 1) := by decide +kernel
theorem dX8_beamNow_0 : decode cX8_beamNow 0 = .ok (.iconst 0, 1) := by decide +kernel
theorem dX8_beamNow_1 : decode cX8_beamNow 1 = .ok (.istore_n 3, 1) := by decide +kernel
theorem dX8_beamNow_2 : decode cX8_beamNow 2 = .ok (.iconst 0, 1) := by decide +kernel
theorem dX8_beamNow_3 : decode cX8_beamNow 3 = .ok (.istore 4, 2) := by decide +kernel
theorem dX8_beamNow_5 : decode cX8_beamNow 5 = .ok (.iload 4, 2) := by decide +kernel
theorem dX8_beamNow_7 : decode cX8_beamNow 7 = .ok (.aload_n 0, 1) := by decide +kernel
theorem dX8_beamNow_8 : decode cX8_beamNow 8 = .ok (.getfield 193, 3) := by decide +kernel
theorem dX8_beamNow_11 : decode cX8_beamNow 11 = .ok (.if_icmp .ge 35, 3) := by decide +kernel
theorem dX8_beamNow_14 : decode cX8_beamNow 14 = .ok (.iload_n 3, 1) := by decide +kernel
theorem dX8_beamNow_15 : decode cX8_beamNow 15 = .ok (.aload_n 0, 1) := by decide +kernel
theorem dX8_beamNow_16 : decode cX8_beamNow 16 = .ok (.aload_n 0, 1) := by decide +kernel
theorem dX8_beamNow_17 : decode cX8_beamNow 17 = .ok (.getfield 54, 3) := by decide +kernel
theorem dX8_beamNow_20 : decode cX8_beamNow 20 = .ok (.iload 4, 2) := by decide +kernel
theorem dX8_beamNow_22 : decode cX8_beamNow 22 = .ok (.iaload, 1) := by decide +kernel
theorem dX8_beamNow_23 : decode cX8_beamNow 23 = .ok (.iload_n 1, 1) := by decide +kernel
theorem dX8_beamNow_24 : decode cX8_beamNow 24 = .ok (.imul, 1) := by decide +kernel
theorem dX8_beamNow_25 : decode cX8_beamNow 25 = .ok (.aload_n 0, 1) := by decide +kernel
theorem dX8_beamNow_26 : decode cX8_beamNow 26 = .ok (.getfield 57, 3) := by decide +kernel
theorem dX8_beamNow_29 : decode cX8_beamNow 29 = .ok (.iload 4, 2) := by decide +kernel
theorem dX8_beamNow_31 : decode cX8_beamNow 31 = .ok (.iaload, 1) := by decide +kernel
theorem dX8_beamNow_32 : decode cX8_beamNow 32 = .ok (.iload_n 2, 1) := by decide +kernel
theorem dX8_beamNow_33 : decode cX8_beamNow 33 = .ok (.imul, 1) := by decide +kernel
theorem dX8_beamNow_34 : decode cX8_beamNow 34 = .ok (.iadd, 1) := by decide +kernel
theorem dX8_beamNow_35 : decode cX8_beamNow 35 = .ok (.invokevirtual 196, 3) := by decide +kernel
theorem dX8_beamNow_38 : decode cX8_beamNow 38 = .ok (.iadd, 1) := by decide +kernel
theorem dX8_beamNow_39 : decode cX8_beamNow 39 = .ok (.istore_n 3, 1) := by decide +kernel
theorem dX8_beamNow_40 : decode cX8_beamNow 40 = .ok (.iinc 4 1, 3) := by decide +kernel
theorem dX8_beamNow_43 : decode cX8_beamNow 43 = .ok (.goto (-38), 3) := by decide +kernel
theorem dX8_beamNow_46 : decode cX8_beamNow 46 = .ok (.iload_n 3, 1) := by decide +kernel
theorem dX8_beamNow_47 : decode cX8_beamNow 47 = .ok (.ireturn, 1) := by decide +kernel
theorem dX8_keptBeam_0 : decode cX8_keptBeam 0 = .ok (.iconst 0, 1) := by decide +kernel
theorem dX8_keptBeam_1 : decode cX8_keptBeam 1 = .ok (.istore_n 3, 1) := by decide +kernel
theorem dX8_keptBeam_2 : decode cX8_keptBeam 2 = .ok (.iconst 0, 1) := by decide +kernel
theorem dX8_keptBeam_3 : decode cX8_keptBeam 3 = .ok (.istore 4, 2) := by decide +kernel
theorem dX8_keptBeam_5 : decode cX8_keptBeam 5 = .ok (.iload 4, 2) := by decide +kernel
theorem dX8_keptBeam_7 : decode cX8_keptBeam 7 = .ok (.aload_n 0, 1) := by decide +kernel
theorem dX8_keptBeam_8 : decode cX8_keptBeam 8 = .ok (.getfield 199, 3) := by decide +kernel
theorem dX8_keptBeam_11 : decode cX8_keptBeam 11 = .ok (.if_icmp .ge 35, 3) := by decide +kernel
theorem dX8_keptBeam_14 : decode cX8_keptBeam 14 = .ok (.iload_n 3, 1) := by decide +kernel
theorem dX8_keptBeam_15 : decode cX8_keptBeam 15 = .ok (.aload_n 0, 1) := by decide +kernel
theorem dX8_keptBeam_16 : decode cX8_keptBeam 16 = .ok (.aload_n 0, 1) := by decide +kernel
theorem dX8_keptBeam_17 : decode cX8_keptBeam 17 = .ok (.getfield 63, 3) := by decide +kernel
theorem dX8_keptBeam_20 : decode cX8_keptBeam 20 = .ok (.iload 4, 2) := by decide +kernel
theorem dX8_keptBeam_22 : decode cX8_keptBeam 22 = .ok (.iaload, 1) := by decide +kernel
theorem dX8_keptBeam_23 : decode cX8_keptBeam 23 = .ok (.iload_n 1, 1) := by decide +kernel
theorem dX8_keptBeam_24 : decode cX8_keptBeam 24 = .ok (.imul, 1) := by decide +kernel
theorem dX8_keptBeam_25 : decode cX8_keptBeam 25 = .ok (.aload_n 0, 1) := by decide +kernel
theorem dX8_keptBeam_26 : decode cX8_keptBeam 26 = .ok (.getfield 66, 3) := by decide +kernel
theorem dX8_keptBeam_29 : decode cX8_keptBeam 29 = .ok (.iload 4, 2) := by decide +kernel
theorem dX8_keptBeam_31 : decode cX8_keptBeam 31 = .ok (.iaload, 1) := by decide +kernel
theorem dX8_keptBeam_32 : decode cX8_keptBeam 32 = .ok (.iload_n 2, 1) := by decide +kernel
theorem dX8_keptBeam_33 : decode cX8_keptBeam 33 = .ok (.imul, 1) := by decide +kernel
theorem dX8_keptBeam_34 : decode cX8_keptBeam 34 = .ok (.iadd, 1) := by decide +kernel
theorem dX8_keptBeam_35 : decode cX8_keptBeam 35 = .ok (.invokevirtual 196, 3) := by decide +kernel
theorem dX8_keptBeam_38 : decode cX8_keptBeam 38 = .ok (.iadd, 1) := by decide +kernel
theorem dX8_keptBeam_39 : decode cX8_keptBeam 39 = .ok (.istore_n 3, 1) := by decide +kernel
theorem dX8_keptBeam_40 : decode cX8_keptBeam 40 = .ok (.iinc 4 1, 3) := by decide +kernel
theorem dX8_keptBeam_43 : decode cX8_keptBeam 43 = .ok (.goto (-38), 3) := by decide +kernel
theorem dX8_keptBeam_46 : decode cX8_keptBeam 46 = .ok (.iload_n 3, 1) := by decide +kernel
theorem dX8_keptBeam_47 : decode cX8_keptBeam 47 = .ok (.ireturn, 1) := by decide +kernel
theorem dX8_beam_0 : decode cX8_beam 0 = .ok (.iload_n 1, 1) := by decide +kernel
theorem dX8_beam_1 : decode cX8_beam 1 = .ok (.i2l, 1) := by decide +kernel
theorem dX8_beam_2 : decode cX8_beam 2 = .ok (.ldc2_w 202, 3) := by decide +kernel
theorem dX8_beam_5 : decode cX8_beam 5 = .ok (.ldc2_w 204, 3) := by decide +kernel
theorem dX8_beam_8 : decode cX8_beam 8 = .ok (.invokestatic 121, 3) := by decide +kernel
theorem dX8_beam_11 : decode cX8_beam 11 = .ok (.ifCond .eq 17, 3) := by decide +kernel
theorem dX8_beam_14 : decode cX8_beam 14 = .ok (.iload_n 2, 1) := by decide +kernel
theorem dX8_beam_15 : decode cX8_beam 15 = .ok (.i2l, 1) := by decide +kernel
theorem dX8_beam_16 : decode cX8_beam 16 = .ok (.ldc2_w 202, 3) := by decide +kernel
theorem dX8_beam_19 : decode cX8_beam 19 = .ok (.ldc2_w 204, 3) := by decide +kernel
theorem dX8_beam_22 : decode cX8_beam 22 = .ok (.invokestatic 121, 3) := by decide +kernel
theorem dX8_beam_25 : decode cX8_beam 25 = .ok (.ifCond .ne 6, 3) := by decide +kernel
theorem dX8_beam_28 : decode cX8_beam 28 = .ok (.ldc 149, 2) := by decide +kernel
theorem dX8_beam_30 : decode cX8_beam 30 = .ok (.ireturn, 1) := by decide +kernel
theorem dX8_beam_31 : decode cX8_beam 31 = .ok (.aload_n 0, 1) := by decide +kernel
theorem dX8_beam_32 : decode cX8_beam 32 = .ok (.invokevirtual 206, 3) := by decide +kernel
theorem dX8_beam_35 : decode cX8_beam 35 = .ok (.aload_n 0, 1) := by decide +kernel
theorem dX8_beam_36 : decode cX8_beam 36 = .ok (.iload_n 1, 1) := by decide +kernel
theorem dX8_beam_37 : decode cX8_beam 37 = .ok (.iload_n 2, 1) := by decide +kernel
theorem dX8_beam_38 : decode cX8_beam 38 = .ok (.invokevirtual 209, 3) := by decide +kernel
theorem dX8_beam_41 : decode cX8_beam 41 = .ok (.ireturn, 1) := by decide +kernel
theorem dX8_isCell_0 : decode cX8_isCell 0 = .ok (.iload_n 0, 1) := by decide +kernel
theorem dX8_isCell_1 : decode cX8_isCell 1 = .ok (.i2l, 1) := by decide +kernel
theorem dX8_isCell_2 : decode cX8_isCell 2 = .ok (.lconst 0, 1) := by decide +kernel
theorem dX8_isCell_3 : decode cX8_isCell 3 = .ok (.ldc2_w 213, 3) := by decide +kernel
theorem dX8_isCell_6 : decode cX8_isCell 6 = .ok (.invokestatic 121, 3) := by decide +kernel
theorem dX8_isCell_9 : decode cX8_isCell 9 = .ok (.ifCond .eq 19, 3) := by decide +kernel
theorem dX8_isCell_12 : decode cX8_isCell 12 = .ok (.iload_n 1, 1) := by decide +kernel
theorem dX8_isCell_13 : decode cX8_isCell 13 = .ok (.i2l, 1) := by decide +kernel
theorem dX8_isCell_14 : decode cX8_isCell 14 = .ok (.lconst 0, 1) := by decide +kernel
theorem dX8_isCell_15 : decode cX8_isCell 15 = .ok (.ldc2_w 213, 3) := by decide +kernel
theorem dX8_isCell_18 : decode cX8_isCell 18 = .ok (.invokestatic 121, 3) := by decide +kernel
theorem dX8_isCell_21 : decode cX8_isCell 21 = .ok (.ifCond .eq 7, 3) := by decide +kernel
theorem dX8_isCell_24 : decode cX8_isCell 24 = .ok (.iconst 1, 1) := by decide +kernel
theorem dX8_isCell_25 : decode cX8_isCell 25 = .ok (.goto 4, 3) := by decide +kernel
theorem dX8_isCell_28 : decode cX8_isCell 28 = .ok (.iconst 0, 1) := by decide +kernel
theorem dX8_isCell_29 : decode cX8_isCell 29 = .ok (.ireturn, 1) := by decide +kernel
theorem dX8_point_0 : decode cX8_point 0 = .ok (.iload_n 1, 1) := by decide +kernel
theorem dX8_point_1 : decode cX8_point 1 = .ok (.iload_n 2, 1) := by decide +kernel
theorem dX8_point_2 : decode cX8_point 2 = .ok (.invokestatic 215, 3) := by decide +kernel
theorem dX8_point_5 : decode cX8_point 5 = .ok (.ifCond .eq 17, 3) := by decide +kernel
theorem dX8_point_8 : decode cX8_point 8 = .ok (.iload_n 3, 1) := by decide +kernel
theorem dX8_point_9 : decode cX8_point 9 = .ok (.i2l, 1) := by decide +kernel
theorem dX8_point_10 : decode cX8_point 10 = .ok (.ldc2_w 202, 3) := by decide +kernel
theorem dX8_point_13 : decode cX8_point 13 = .ok (.ldc2_w 204, 3) := by decide +kernel
theorem dX8_point_16 : decode cX8_point 16 = .ok (.invokestatic 121, 3) := by decide +kernel
theorem dX8_point_19 : decode cX8_point 19 = .ok (.ifCond .ne 6, 3) := by decide +kernel
theorem dX8_point_22 : decode cX8_point 22 = .ok (.bipush (-2), 2) := by decide +kernel
theorem dX8_point_24 : decode cX8_point 24 = .ok (.ireturn, 1) := by decide +kernel
theorem dX8_point_25 : decode cX8_point 25 = .ok (.aload_n 0, 1) := by decide +kernel
theorem dX8_point_26 : decode cX8_point 26 = .ok (.getfield 218, 3) := by decide +kernel
theorem dX8_point_29 : decode cX8_point 29 = .ok (.bipush 10, 2) := by decide +kernel
theorem dX8_point_31 : decode cX8_point 31 = .ok (.if_icmp .ne 6, 3) := by decide +kernel
theorem dX8_point_34 : decode cX8_point 34 = .ok (.bipush (-3), 2) := by decide +kernel
theorem dX8_point_36 : decode cX8_point 36 = .ok (.ireturn, 1) := by decide +kernel
theorem dX8_point_37 : decode cX8_point 37 = .ok (.aload_n 0, 1) := by decide +kernel
theorem dX8_point_38 : decode cX8_point 38 = .ok (.getfield 69, 3) := by decide +kernel
theorem dX8_point_41 : decode cX8_point 41 = .ok (.aload_n 0, 1) := by decide +kernel
theorem dX8_point_42 : decode cX8_point 42 = .ok (.getfield 218, 3) := by decide +kernel
theorem dX8_point_45 : decode cX8_point 45 = .ok (.iload_n 1, 1) := by decide +kernel
theorem dX8_point_46 : decode cX8_point 46 = .ok (.iastore, 1) := by decide +kernel
theorem dX8_point_47 : decode cX8_point 47 = .ok (.aload_n 0, 1) := by decide +kernel
theorem dX8_point_48 : decode cX8_point 48 = .ok (.getfield 72, 3) := by decide +kernel
theorem dX8_point_51 : decode cX8_point 51 = .ok (.aload_n 0, 1) := by decide +kernel
theorem dX8_point_52 : decode cX8_point 52 = .ok (.getfield 218, 3) := by decide +kernel
theorem dX8_point_55 : decode cX8_point 55 = .ok (.iload_n 2, 1) := by decide +kernel
theorem dX8_point_56 : decode cX8_point 56 = .ok (.iastore, 1) := by decide +kernel
theorem dX8_point_57 : decode cX8_point 57 = .ok (.aload_n 0, 1) := by decide +kernel
theorem dX8_point_58 : decode cX8_point 58 = .ok (.getfield 75, 3) := by decide +kernel
theorem dX8_point_61 : decode cX8_point 61 = .ok (.aload_n 0, 1) := by decide +kernel
theorem dX8_point_62 : decode cX8_point 62 = .ok (.getfield 218, 3) := by decide +kernel
theorem dX8_point_65 : decode cX8_point 65 = .ok (.iload_n 3, 1) := by decide +kernel
theorem dX8_point_66 : decode cX8_point 66 = .ok (.iastore, 1) := by decide +kernel
theorem dX8_point_67 : decode cX8_point 67 = .ok (.aload_n 0, 1) := by decide +kernel
theorem dX8_point_68 : decode cX8_point 68 = .ok (.dup, 1) := by decide +kernel
theorem dX8_point_69 : decode cX8_point 69 = .ok (.getfield 218, 3) := by decide +kernel
theorem dX8_point_72 : decode cX8_point 72 = .ok (.iconst 1, 1) := by decide +kernel
theorem dX8_point_73 : decode cX8_point 73 = .ok (.iadd, 1) := by decide +kernel
theorem dX8_point_74 : decode cX8_point 74 = .ok (.putfield 218, 3) := by decide +kernel
theorem dX8_point_77 : decode cX8_point 77 = .ok (.aload_n 0, 1) := by decide +kernel
theorem dX8_point_78 : decode cX8_point 78 = .ok (.getfield 218, 3) := by decide +kernel
theorem dX8_point_81 : decode cX8_point 81 = .ok (.ireturn, 1) := by decide +kernel
theorem dX8_dark_0 : decode cX8_dark 0 = .ok (.aload_n 0, 1) := by decide +kernel
theorem dX8_dark_1 : decode cX8_dark 1 = .ok (.getfield 218, 3) := by decide +kernel
theorem dX8_dark_4 : decode cX8_dark 4 = .ok (.istore_n 1, 1) := by decide +kernel
theorem dX8_dark_5 : decode cX8_dark 5 = .ok (.aload_n 0, 1) := by decide +kernel
theorem dX8_dark_6 : decode cX8_dark 6 = .ok (.iconst 0, 1) := by decide +kernel
theorem dX8_dark_7 : decode cX8_dark 7 = .ok (.putfield 218, 3) := by decide +kernel
theorem dX8_dark_10 : decode cX8_dark 10 = .ok (.iload_n 1, 1) := by decide +kernel
theorem dX8_dark_11 : decode cX8_dark 11 = .ok (.ireturn, 1) := by decide +kernel
theorem dX8_cellOf_0 : decode cX8_cellOf 0 = .ok (.lconst 0, 1) := by decide +kernel
theorem dX8_cellOf_1 : decode cX8_cellOf 1 = .ok (.lstore 4, 2) := by decide +kernel
theorem dX8_cellOf_3 : decode cX8_cellOf 3 = .ok (.iload_n 1, 1) := by decide +kernel
theorem dX8_cellOf_4 : decode cX8_cellOf 4 = .ok (.ifCond .ne 61, 3) := by decide +kernel
theorem dX8_cellOf_7 : decode cX8_cellOf 7 = .ok (.iconst 0, 1) := by decide +kernel
theorem dX8_cellOf_8 : decode cX8_cellOf 8 = .ok (.istore 6, 2) := by decide +kernel
theorem dX8_cellOf_10 : decode cX8_cellOf 10 = .ok (.iload 6, 2) := by decide +kernel
theorem dX8_cellOf_12 : decode cX8_cellOf 12 = .ok (.aload_n 0, 1) := by decide +kernel
theorem dX8_cellOf_13 : decode cX8_cellOf 13 = .ok (.getfield 193, 3) := by decide +kernel
theorem dX8_cellOf_16 : decode cX8_cellOf 16 = .ok (.if_icmp .ge 46, 3) := by decide +kernel
theorem dX8_cellOf_19 : decode cX8_cellOf 19 = .ok (.lload 4, 2) := by decide +kernel
theorem dX8_cellOf_21 : decode cX8_cellOf 21 = .ok (.aload_n 0, 1) := by decide +kernel
theorem dX8_cellOf_22 : decode cX8_cellOf 22 = .ok (.getfield 60, 3) := by decide +kernel
theorem dX8_cellOf_25 : decode cX8_cellOf 25 = .ok (.iload 6, 2) := by decide +kernel
theorem dX8_cellOf_27 : decode cX8_cellOf 27 = .ok (.laload, 1) := by decide +kernel
theorem dX8_cellOf_28 : decode cX8_cellOf 28 = .ok (.aload_n 0, 1) := by decide +kernel
theorem dX8_cellOf_29 : decode cX8_cellOf 29 = .ok (.aload_n 0, 1) := by decide +kernel
theorem dX8_cellOf_30 : decode cX8_cellOf 30 = .ok (.getfield 54, 3) := by decide +kernel
theorem dX8_cellOf_33 : decode cX8_cellOf 33 = .ok (.iload 6, 2) := by decide +kernel
theorem dX8_cellOf_35 : decode cX8_cellOf 35 = .ok (.iaload, 1) := by decide +kernel
theorem dX8_cellOf_36 : decode cX8_cellOf 36 = .ok (.iload_n 2, 1) := by decide +kernel
theorem dX8_cellOf_37 : decode cX8_cellOf 37 = .ok (.imul, 1) := by decide +kernel
theorem dX8_cellOf_38 : decode cX8_cellOf 38 = .ok (.aload_n 0, 1) := by decide +kernel
theorem dX8_cellOf_39 : decode cX8_cellOf 39 = .ok (.getfield 57, 3) := by decide +kernel
theorem dX8_cellOf_42 : decode cX8_cellOf 42 = .ok (.iload 6, 2) := by decide +kernel
theorem dX8_cellOf_44 : decode cX8_cellOf 44 = .ok (.iaload, 1) := by decide +kernel
theorem dX8_cellOf_45 : decode cX8_cellOf 45 = .ok (.iload_n 3, 1) := by decide +kernel
theorem dX8_cellOf_46 : decode cX8_cellOf 46 = .ok (.imul, 1) := by decide +kernel
theorem dX8_cellOf_47 : decode cX8_cellOf 47 = .ok (.iadd, 1) := by decide +kernel
theorem dX8_cellOf_48 : decode cX8_cellOf 48 = .ok (.invokevirtual 196, 3) := by decide +kernel
theorem dX8_cellOf_51 : decode cX8_cellOf 51 = .ok (.i2l, 1) := by decide +kernel
theorem dX8_cellOf_52 : decode cX8_cellOf 52 = .ok (.lmul, 1) := by decide +kernel
theorem dX8_cellOf_53 : decode cX8_cellOf 53 = .ok (.ladd, 1) := by decide +kernel
theorem dX8_cellOf_54 : decode cX8_cellOf 54 = .ok (.lstore 4, 2) := by decide +kernel
theorem dX8_cellOf_56 : decode cX8_cellOf 56 = .ok (.iinc 6 1, 3) := by decide +kernel
theorem dX8_cellOf_59 : decode cX8_cellOf 59 = .ok (.goto (-49), 3) := by decide +kernel
theorem dX8_cellOf_62 : decode cX8_cellOf 62 = .ok (.goto 58, 3) := by decide +kernel
theorem dX8_cellOf_65 : decode cX8_cellOf 65 = .ok (.iconst 0, 1) := by decide +kernel
theorem dX8_cellOf_66 : decode cX8_cellOf 66 = .ok (.istore 6, 2) := by decide +kernel
theorem dX8_cellOf_68 : decode cX8_cellOf 68 = .ok (.iload 6, 2) := by decide +kernel
theorem dX8_cellOf_70 : decode cX8_cellOf 70 = .ok (.aload_n 0, 1) := by decide +kernel
theorem dX8_cellOf_71 : decode cX8_cellOf 71 = .ok (.getfield 218, 3) := by decide +kernel
theorem dX8_cellOf_74 : decode cX8_cellOf 74 = .ok (.if_icmp .ge 46, 3) := by decide +kernel
theorem dX8_cellOf_77 : decode cX8_cellOf 77 = .ok (.lload 4, 2) := by decide +kernel
theorem dX8_cellOf_79 : decode cX8_cellOf 79 = .ok (.aload_n 0, 1) := by decide +kernel
theorem dX8_cellOf_80 : decode cX8_cellOf 80 = .ok (.getfield 75, 3) := by decide +kernel
theorem dX8_cellOf_83 : decode cX8_cellOf 83 = .ok (.iload 6, 2) := by decide +kernel
theorem dX8_cellOf_85 : decode cX8_cellOf 85 = .ok (.iaload, 1) := by decide +kernel
theorem dX8_cellOf_86 : decode cX8_cellOf 86 = .ok (.i2l, 1) := by decide +kernel
theorem dX8_cellOf_87 : decode cX8_cellOf 87 = .ok (.aload_n 0, 1) := by decide +kernel
theorem dX8_cellOf_88 : decode cX8_cellOf 88 = .ok (.iload_n 2, 1) := by decide +kernel
theorem dX8_cellOf_89 : decode cX8_cellOf 89 = .ok (.aload_n 0, 1) := by decide +kernel
theorem dX8_cellOf_90 : decode cX8_cellOf 90 = .ok (.getfield 69, 3) := by decide +kernel
theorem dX8_cellOf_93 : decode cX8_cellOf 93 = .ok (.iload 6, 2) := by decide +kernel
theorem dX8_cellOf_95 : decode cX8_cellOf 95 = .ok (.iaload, 1) := by decide +kernel
theorem dX8_cellOf_96 : decode cX8_cellOf 96 = .ok (.isub, 1) := by decide +kernel
theorem dX8_cellOf_97 : decode cX8_cellOf 97 = .ok (.iload_n 3, 1) := by decide +kernel
theorem dX8_cellOf_98 : decode cX8_cellOf 98 = .ok (.aload_n 0, 1) := by decide +kernel
theorem dX8_cellOf_99 : decode cX8_cellOf 99 = .ok (.getfield 72, 3) := by decide +kernel
theorem dX8_cellOf_102 : decode cX8_cellOf 102 = .ok (.iload 6, 2) := by decide +kernel
theorem dX8_cellOf_104 : decode cX8_cellOf 104 = .ok (.iaload, 1) := by decide +kernel
theorem dX8_cellOf_105 : decode cX8_cellOf 105 = .ok (.isub, 1) := by decide +kernel
theorem dX8_cellOf_106 : decode cX8_cellOf 106 = .ok (.invokevirtual 209, 3) := by decide +kernel
theorem dX8_cellOf_109 : decode cX8_cellOf 109 = .ok (.i2l, 1) := by decide +kernel
theorem dX8_cellOf_110 : decode cX8_cellOf 110 = .ok (.lmul, 1) := by decide +kernel
theorem dX8_cellOf_111 : decode cX8_cellOf 111 = .ok (.ladd, 1) := by decide +kernel
theorem dX8_cellOf_112 : decode cX8_cellOf 112 = .ok (.lstore 4, 2) := by decide +kernel
theorem dX8_cellOf_114 : decode cX8_cellOf 114 = .ok (.iinc 6 1, 3) := by decide +kernel
theorem dX8_cellOf_117 : decode cX8_cellOf 117 = .ok (.goto (-49), 3) := by decide +kernel
theorem dX8_cellOf_120 : decode cX8_cellOf 120 = .ok (.lload 4, 2) := by decide +kernel
theorem dX8_cellOf_122 : decode cX8_cellOf 122 = .ok (.lreturn, 1) := by decide +kernel
theorem dX8_board_0 : decode cX8_board 0 = .ok (.iload_n 1, 1) := by decide +kernel
theorem dX8_board_1 : decode cX8_board 1 = .ok (.i2l, 1) := by decide +kernel
theorem dX8_board_2 : decode cX8_board 2 = .ok (.lconst 0, 1) := by decide +kernel
theorem dX8_board_3 : decode cX8_board 3 = .ok (.lconst 1, 1) := by decide +kernel
theorem dX8_board_4 : decode cX8_board 4 = .ok (.invokestatic 121, 3) := by decide +kernel
theorem dX8_board_7 : decode cX8_board 7 = .ok (.ifCond .ne 6, 3) := by decide +kernel
theorem dX8_board_10 : decode cX8_board 10 = .ok (.bipush (-2), 2) := by decide +kernel
theorem dX8_board_12 : decode cX8_board 12 = .ok (.ireturn, 1) := by decide +kernel
theorem dX8_board_13 : decode cX8_board 13 = .ok (.aload_n 0, 1) := by decide +kernel
theorem dX8_board_14 : decode cX8_board 14 = .ok (.invokevirtual 206, 3) := by decide +kernel
theorem dX8_board_17 : decode cX8_board 17 = .ok (.iconst 0, 1) := by decide +kernel
theorem dX8_board_18 : decode cX8_board 18 = .ok (.istore_n 2, 1) := by decide +kernel
theorem dX8_board_19 : decode cX8_board 19 = .ok (.iload_n 2, 1) := by decide +kernel
theorem dX8_board_20 : decode cX8_board 20 = .ok (.bipush 16, 2) := by decide +kernel
theorem dX8_board_22 : decode cX8_board 22 = .ok (.if_icmp .ge 41, 3) := by decide +kernel
theorem dX8_board_25 : decode cX8_board 25 = .ok (.iconst 0, 1) := by decide +kernel
theorem dX8_board_26 : decode cX8_board 26 = .ok (.istore_n 3, 1) := by decide +kernel
theorem dX8_board_27 : decode cX8_board 27 = .ok (.iload_n 3, 1) := by decide +kernel
theorem dX8_board_28 : decode cX8_board 28 = .ok (.bipush 16, 2) := by decide +kernel
theorem dX8_board_30 : decode cX8_board 30 = .ok (.if_icmp .ge 27, 3) := by decide +kernel
theorem dX8_board_33 : decode cX8_board 33 = .ok (.aload_n 0, 1) := by decide +kernel
theorem dX8_board_34 : decode cX8_board 34 = .ok (.getfield 50, 3) := by decide +kernel
theorem dX8_board_37 : decode cX8_board 37 = .ok (.bipush 16, 2) := by decide +kernel
theorem dX8_board_39 : decode cX8_board 39 = .ok (.iload_n 2, 1) := by decide +kernel
theorem dX8_board_40 : decode cX8_board 40 = .ok (.imul, 1) := by decide +kernel
theorem dX8_board_41 : decode cX8_board 41 = .ok (.iload_n 3, 1) := by decide +kernel
theorem dX8_board_42 : decode cX8_board 42 = .ok (.iadd, 1) := by decide +kernel
theorem dX8_board_43 : decode cX8_board 43 = .ok (.aload_n 0, 1) := by decide +kernel
theorem dX8_board_44 : decode cX8_board 44 = .ok (.iload_n 1, 1) := by decide +kernel
theorem dX8_board_45 : decode cX8_board 45 = .ok (.iload_n 3, 1) := by decide +kernel
theorem dX8_board_46 : decode cX8_board 46 = .ok (.iload_n 2, 1) := by decide +kernel
theorem dX8_board_47 : decode cX8_board 47 = .ok (.invokevirtual 221, 3) := by decide +kernel
theorem dX8_board_50 : decode cX8_board 50 = .ok (.lastore, 1) := by decide +kernel
theorem dX8_board_51 : decode cX8_board 51 = .ok (.iinc 3 1, 3) := by decide +kernel
theorem dX8_board_54 : decode cX8_board 54 = .ok (.goto (-27), 3) := by decide +kernel
theorem dX8_board_57 : decode cX8_board 57 = .ok (.iinc 2 1, 3) := by decide +kernel
theorem dX8_board_60 : decode cX8_board 60 = .ok (.goto (-41), 3) := by decide +kernel
theorem dX8_board_63 : decode cX8_board 63 = .ok (.aload_n 0, 1) := by decide +kernel
theorem dX8_board_64 : decode cX8_board 64 = .ok (.aload_n 0, 1) := by decide +kernel
theorem dX8_board_65 : decode cX8_board 65 = .ok (.getfield 193, 3) := by decide +kernel
theorem dX8_board_68 : decode cX8_board 68 = .ok (.putfield 199, 3) := by decide +kernel
theorem dX8_board_71 : decode cX8_board 71 = .ok (.iconst 0, 1) := by decide +kernel
theorem dX8_board_72 : decode cX8_board 72 = .ok (.istore_n 2, 1) := by decide +kernel
theorem dX8_board_73 : decode cX8_board 73 = .ok (.iload_n 2, 1) := by decide +kernel
theorem dX8_board_74 : decode cX8_board 74 = .ok (.aload_n 0, 1) := by decide +kernel
theorem dX8_board_75 : decode cX8_board 75 = .ok (.getfield 193, 3) := by decide +kernel
theorem dX8_board_78 : decode cX8_board 78 = .ok (.if_icmp .ge 33, 3) := by decide +kernel
theorem dX8_board_81 : decode cX8_board 81 = .ok (.aload_n 0, 1) := by decide +kernel
theorem dX8_board_82 : decode cX8_board 82 = .ok (.getfield 63, 3) := by decide +kernel
theorem dX8_board_85 : decode cX8_board 85 = .ok (.iload_n 2, 1) := by decide +kernel
theorem dX8_board_86 : decode cX8_board 86 = .ok (.aload_n 0, 1) := by decide +kernel
theorem dX8_board_87 : decode cX8_board 87 = .ok (.getfield 54, 3) := by decide +kernel
theorem dX8_board_90 : decode cX8_board 90 = .ok (.iload_n 2, 1) := by decide +kernel
theorem dX8_board_91 : decode cX8_board 91 = .ok (.iaload, 1) := by decide +kernel
theorem dX8_board_92 : decode cX8_board 92 = .ok (.iastore, 1) := by decide +kernel
theorem dX8_board_93 : decode cX8_board 93 = .ok (.aload_n 0, 1) := by decide +kernel
theorem dX8_board_94 : decode cX8_board 94 = .ok (.getfield 66, 3) := by decide +kernel
theorem dX8_board_97 : decode cX8_board 97 = .ok (.iload_n 2, 1) := by decide +kernel
theorem dX8_board_98 : decode cX8_board 98 = .ok (.aload_n 0, 1) := by decide +kernel
theorem dX8_board_99 : decode cX8_board 99 = .ok (.getfield 57, 3) := by decide +kernel
theorem dX8_board_102 : decode cX8_board 102 = .ok (.iload_n 2, 1) := by decide +kernel
theorem dX8_board_103 : decode cX8_board 103 = .ok (.iaload, 1) := by decide +kernel
theorem dX8_board_104 : decode cX8_board 104 = .ok (.iastore, 1) := by decide +kernel
theorem dX8_board_105 : decode cX8_board 105 = .ok (.iinc 2 1, 3) := by decide +kernel
theorem dX8_board_108 : decode cX8_board 108 = .ok (.goto (-35), 3) := by decide +kernel
theorem dX8_board_111 : decode cX8_board 111 = .ok (.aload_n 0, 1) := by decide +kernel
theorem dX8_board_112 : decode cX8_board 112 = .ok (.iconst 0, 1) := by decide +kernel
theorem dX8_board_113 : decode cX8_board 113 = .ok (.putfield 225, 3) := by decide +kernel
theorem dX8_board_116 : decode cX8_board 116 = .ok (.aload_n 0, 1) := by decide +kernel
theorem dX8_board_117 : decode cX8_board 117 = .ok (.invokevirtual 112, 3) := by decide +kernel
theorem dX8_board_120 : decode cX8_board 120 = .ok (.aload_n 0, 1) := by decide +kernel
theorem dX8_board_121 : decode cX8_board 121 = .ok (.getfield 193, 3) := by decide +kernel
theorem dX8_board_124 : decode cX8_board 124 = .ok (.ireturn, 1) := by decide +kernel
theorem dX8_at_0 : decode cX8_at 0 = .ok (.iload_n 1, 1) := by decide +kernel
theorem dX8_at_1 : decode cX8_at 1 = .ok (.iload_n 2, 1) := by decide +kernel
theorem dX8_at_2 : decode cX8_at 2 = .ok (.invokestatic 215, 3) := by decide +kernel
theorem dX8_at_5 : decode cX8_at 5 = .ok (.ifCond .eq 17, 3) := by decide +kernel
theorem dX8_at_8 : decode cX8_at 8 = .ok (.aload_n 0, 1) := by decide +kernel
theorem dX8_at_9 : decode cX8_at 9 = .ok (.getfield 50, 3) := by decide +kernel
theorem dX8_at_12 : decode cX8_at 12 = .ok (.bipush 16, 2) := by decide +kernel
theorem dX8_at_14 : decode cX8_at 14 = .ok (.iload_n 2, 1) := by decide +kernel
theorem dX8_at_15 : decode cX8_at 15 = .ok (.imul, 1) := by decide +kernel
theorem dX8_at_16 : decode cX8_at 16 = .ok (.iload_n 1, 1) := by decide +kernel
theorem dX8_at_17 : decode cX8_at 17 = .ok (.iadd, 1) := by decide +kernel
theorem dX8_at_18 : decode cX8_at 18 = .ok (.laload, 1) := by decide +kernel
theorem dX8_at_19 : decode cX8_at 19 = .ok (.goto 6, 3) := by decide +kernel
theorem dX8_at_22 : decode cX8_at 22 = .ok (.ldc2_w 175, 3) := by decide +kernel
theorem dX8_at_25 : decode cX8_at 25 = .ok (.lreturn, 1) := by decide +kernel
theorem dX8_cells_0 : decode cX8_cells 0 = .ok (.aload_n 0, 1) := by decide +kernel
theorem dX8_cells_1 : decode cX8_cells 1 = .ok (.getfield 184, 3) := by decide +kernel
theorem dX8_cells_4 : decode cX8_cells 4 = .ok (.aload_n 0, 1) := by decide +kernel
theorem dX8_cells_5 : decode cX8_cells 5 = .ok (.getfield 181, 3) := by decide +kernel
theorem dX8_cells_8 : decode cX8_cells 8 = .ok (.isub, 1) := by decide +kernel
theorem dX8_cells_9 : decode cX8_cells 9 = .ok (.iconst 1, 1) := by decide +kernel
theorem dX8_cells_10 : decode cX8_cells 10 = .ok (.iadd, 1) := by decide +kernel
theorem dX8_cells_11 : decode cX8_cells 11 = .ok (.aload_n 0, 1) := by decide +kernel
theorem dX8_cells_12 : decode cX8_cells 12 = .ok (.getfield 190, 3) := by decide +kernel
theorem dX8_cells_15 : decode cX8_cells 15 = .ok (.aload_n 0, 1) := by decide +kernel
theorem dX8_cells_16 : decode cX8_cells 16 = .ok (.getfield 187, 3) := by decide +kernel
theorem dX8_cells_19 : decode cX8_cells 19 = .ok (.isub, 1) := by decide +kernel
theorem dX8_cells_20 : decode cX8_cells 20 = .ok (.iconst 1, 1) := by decide +kernel
theorem dX8_cells_21 : decode cX8_cells 21 = .ok (.iadd, 1) := by decide +kernel
theorem dX8_cells_22 : decode cX8_cells 22 = .ok (.imul, 1) := by decide +kernel
theorem dX8_cells_23 : decode cX8_cells 23 = .ok (.ireturn, 1) := by decide +kernel
theorem dX8_window_0 : decode cX8_window 0 = .ok (.iload_n 1, 1) := by decide +kernel
theorem dX8_window_1 : decode cX8_window 1 = .ok (.iload_n 2, 1) := by decide +kernel
theorem dX8_window_2 : decode cX8_window 2 = .ok (.invokestatic 215, 3) := by decide +kernel
theorem dX8_window_5 : decode cX8_window 5 = .ok (.ifCond .eq 23, 3) := by decide +kernel
theorem dX8_window_8 : decode cX8_window 8 = .ok (.iload_n 3, 1) := by decide +kernel
theorem dX8_window_9 : decode cX8_window 9 = .ok (.iload 4, 2) := by decide +kernel
theorem dX8_window_11 : decode cX8_window 11 = .ok (.invokestatic 215, 3) := by decide +kernel
theorem dX8_window_14 : decode cX8_window 14 = .ok (.ifCond .eq 14, 3) := by decide +kernel
theorem dX8_window_17 : decode cX8_window 17 = .ok (.iload_n 1, 1) := by decide +kernel
theorem dX8_window_18 : decode cX8_window 18 = .ok (.iload_n 3, 1) := by decide +kernel
theorem dX8_window_19 : decode cX8_window 19 = .ok (.if_icmp .gt 9, 3) := by decide +kernel
theorem dX8_window_22 : decode cX8_window 22 = .ok (.iload_n 2, 1) := by decide +kernel
theorem dX8_window_23 : decode cX8_window 23 = .ok (.iload 4, 2) := by decide +kernel
theorem dX8_window_25 : decode cX8_window 25 = .ok (.if_icmp .le 6, 3) := by decide +kernel
theorem dX8_window_28 : decode cX8_window 28 = .ok (.bipush (-2), 2) := by decide +kernel
theorem dX8_window_30 : decode cX8_window 30 = .ok (.ireturn, 1) := by decide +kernel
theorem dX8_window_31 : decode cX8_window 31 = .ok (.aload_n 0, 1) := by decide +kernel
theorem dX8_window_32 : decode cX8_window 32 = .ok (.iload_n 1, 1) := by decide +kernel
theorem dX8_window_33 : decode cX8_window 33 = .ok (.putfield 181, 3) := by decide +kernel
theorem dX8_window_36 : decode cX8_window 36 = .ok (.aload_n 0, 1) := by decide +kernel
theorem dX8_window_37 : decode cX8_window 37 = .ok (.iload_n 3, 1) := by decide +kernel
theorem dX8_window_38 : decode cX8_window 38 = .ok (.putfield 184, 3) := by decide +kernel
theorem dX8_window_41 : decode cX8_window 41 = .ok (.aload_n 0, 1) := by decide +kernel
theorem dX8_window_42 : decode cX8_window 42 = .ok (.iload_n 2, 1) := by decide +kernel
theorem dX8_window_43 : decode cX8_window 43 = .ok (.putfield 187, 3) := by decide +kernel
theorem dX8_window_46 : decode cX8_window 46 = .ok (.aload_n 0, 1) := by decide +kernel
theorem dX8_window_47 : decode cX8_window 47 = .ok (.iload 4, 2) := by decide +kernel
theorem dX8_window_49 : decode cX8_window 49 = .ok (.putfield 190, 3) := by decide +kernel
theorem dX8_window_52 : decode cX8_window 52 = .ok (.aload_n 0, 1) := by decide +kernel
theorem dX8_window_53 : decode cX8_window 53 = .ok (.invokevirtual 228, 3) := by decide +kernel
theorem dX8_window_56 : decode cX8_window 56 = .ok (.ireturn, 1) := by decide +kernel
theorem dX8_amount_0 : decode cX8_amount 0 = .ok (.lload_n 0, 1) := by decide +kernel
theorem dX8_amount_1 : decode cX8_amount 1 = .ok (.lconst 0, 1) := by decide +kernel
theorem dX8_amount_2 : decode cX8_amount 2 = .ok (.lcmp, 1) := by decide +kernel
theorem dX8_amount_3 : decode cX8_amount 3 = .ok (.ifCond .ge 8, 3) := by decide +kernel
theorem dX8_amount_6 : decode cX8_amount 6 = .ok (.lload_n 0, 1) := by decide +kernel
theorem dX8_amount_7 : decode cX8_amount 7 = .ok (.lneg, 1) := by decide +kernel
theorem dX8_amount_8 : decode cX8_amount 8 = .ok (.goto 4, 3) := by decide +kernel
theorem dX8_amount_11 : decode cX8_amount 11 = .ok (.lload_n 0, 1) := by decide +kernel
theorem dX8_amount_12 : decode cX8_amount 12 = .ok (.lreturn, 1) := by decide +kernel
theorem dX8_peak_0 : decode cX8_peak 0 = .ok (.bipush 16, 2) := by decide +kernel
theorem dX8_peak_2 : decode cX8_peak 2 = .ok (.aload_n 0, 1) := by decide +kernel
theorem dX8_peak_3 : decode cX8_peak 3 = .ok (.getfield 187, 3) := by decide +kernel
theorem dX8_peak_6 : decode cX8_peak 6 = .ok (.imul, 1) := by decide +kernel
theorem dX8_peak_7 : decode cX8_peak 7 = .ok (.aload_n 0, 1) := by decide +kernel
theorem dX8_peak_8 : decode cX8_peak 8 = .ok (.getfield 181, 3) := by decide +kernel
theorem dX8_peak_11 : decode cX8_peak 11 = .ok (.iadd, 1) := by decide +kernel
theorem dX8_peak_12 : decode cX8_peak 12 = .ok (.istore_n 1, 1) := by decide +kernel
theorem dX8_peak_13 : decode cX8_peak 13 = .ok (.aload_n 0, 1) := by decide +kernel
theorem dX8_peak_14 : decode cX8_peak 14 = .ok (.getfield 187, 3) := by decide +kernel
theorem dX8_peak_17 : decode cX8_peak 17 = .ok (.istore_n 2, 1) := by decide +kernel
theorem dX8_peak_18 : decode cX8_peak 18 = .ok (.iload_n 2, 1) := by decide +kernel
theorem dX8_peak_19 : decode cX8_peak 19 = .ok (.aload_n 0, 1) := by decide +kernel
theorem dX8_peak_20 : decode cX8_peak 20 = .ok (.getfield 190, 3) := by decide +kernel
theorem dX8_peak_23 : decode cX8_peak 23 = .ok (.if_icmp .gt 66, 3) := by decide +kernel
theorem dX8_peak_26 : decode cX8_peak 26 = .ok (.aload_n 0, 1) := by decide +kernel
theorem dX8_peak_27 : decode cX8_peak 27 = .ok (.getfield 181, 3) := by decide +kernel
theorem dX8_peak_30 : decode cX8_peak 30 = .ok (.istore_n 3, 1) := by decide +kernel
theorem dX8_peak_31 : decode cX8_peak 31 = .ok (.iload_n 3, 1) := by decide +kernel
theorem dX8_peak_32 : decode cX8_peak 32 = .ok (.aload_n 0, 1) := by decide +kernel
theorem dX8_peak_33 : decode cX8_peak 33 = .ok (.getfield 184, 3) := by decide +kernel
theorem dX8_peak_36 : decode cX8_peak 36 = .ok (.if_icmp .gt 47, 3) := by decide +kernel
theorem dX8_peak_39 : decode cX8_peak 39 = .ok (.aload_n 0, 1) := by decide +kernel
theorem dX8_peak_40 : decode cX8_peak 40 = .ok (.getfield 50, 3) := by decide +kernel
theorem dX8_peak_43 : decode cX8_peak 43 = .ok (.bipush 16, 2) := by decide +kernel
theorem dX8_peak_45 : decode cX8_peak 45 = .ok (.iload_n 2, 1) := by decide +kernel
theorem dX8_peak_46 : decode cX8_peak 46 = .ok (.imul, 1) := by decide +kernel
theorem dX8_peak_47 : decode cX8_peak 47 = .ok (.iload_n 3, 1) := by decide +kernel
theorem dX8_peak_48 : decode cX8_peak 48 = .ok (.iadd, 1) := by decide +kernel
theorem dX8_peak_49 : decode cX8_peak 49 = .ok (.laload, 1) := by decide +kernel
theorem dX8_peak_50 : decode cX8_peak 50 = .ok (.invokestatic 232, 3) := by decide +kernel
theorem dX8_peak_53 : decode cX8_peak 53 = .ok (.aload_n 0, 1) := by decide +kernel
theorem dX8_peak_54 : decode cX8_peak 54 = .ok (.getfield 50, 3) := by decide +kernel
theorem dX8_peak_57 : decode cX8_peak 57 = .ok (.iload_n 1, 1) := by decide +kernel
theorem dX8_peak_58 : decode cX8_peak 58 = .ok (.laload, 1) := by decide +kernel
theorem dX8_peak_59 : decode cX8_peak 59 = .ok (.invokestatic 232, 3) := by decide +kernel
theorem dX8_peak_62 : decode cX8_peak 62 = .ok (.lcmp, 1) := by decide +kernel
theorem dX8_peak_63 : decode cX8_peak 63 = .ok (.ifCond .le 12, 3) := by decide +kernel
theorem dX8_peak_66 : decode cX8_peak 66 = .ok (.bipush 16, 2) := by decide +kernel
theorem dX8_peak_68 : decode cX8_peak 68 = .ok (.iload_n 2, 1) := by decide +kernel
theorem dX8_peak_69 : decode cX8_peak 69 = .ok (.imul, 1) := by decide +kernel
theorem dX8_peak_70 : decode cX8_peak 70 = .ok (.iload_n 3, 1) := by decide +kernel
theorem dX8_peak_71 : decode cX8_peak 71 = .ok (.iadd, 1) := by decide +kernel
theorem dX8_peak_72 : decode cX8_peak 72 = .ok (.goto 4, 3) := by decide +kernel
theorem dX8_peak_75 : decode cX8_peak 75 = .ok (.iload_n 1, 1) := by decide +kernel
theorem dX8_peak_76 : decode cX8_peak 76 = .ok (.istore_n 1, 1) := by decide +kernel
theorem dX8_peak_77 : decode cX8_peak 77 = .ok (.iinc 3 1, 3) := by decide +kernel
theorem dX8_peak_80 : decode cX8_peak 80 = .ok (.goto (-49), 3) := by decide +kernel
theorem dX8_peak_83 : decode cX8_peak 83 = .ok (.iinc 2 1, 3) := by decide +kernel
theorem dX8_peak_86 : decode cX8_peak 86 = .ok (.goto (-68), 3) := by decide +kernel
theorem dX8_peak_89 : decode cX8_peak 89 = .ok (.iload_n 1, 1) := by decide +kernel
theorem dX8_peak_90 : decode cX8_peak 90 = .ok (.ireturn, 1) := by decide +kernel
theorem dX8_lays_0 : decode cX8_lays 0 = .ok (.iconst 0, 1) := by decide +kernel
theorem dX8_lays_1 : decode cX8_lays 1 = .ok (.istore 4, 2) := by decide +kernel
theorem dX8_lays_3 : decode cX8_lays 3 = .ok (.iload 4, 2) := by decide +kernel
theorem dX8_lays_5 : decode cX8_lays 5 = .ok (.bipush 16, 2) := by decide +kernel
theorem dX8_lays_7 : decode cX8_lays 7 = .ok (.if_icmp .ge 62, 3) := by decide +kernel
theorem dX8_lays_10 : decode cX8_lays 10 = .ok (.iconst 0, 1) := by decide +kernel
theorem dX8_lays_11 : decode cX8_lays 11 = .ok (.istore 5, 2) := by decide +kernel
theorem dX8_lays_13 : decode cX8_lays 13 = .ok (.iload 5, 2) := by decide +kernel
theorem dX8_lays_15 : decode cX8_lays 15 = .ok (.bipush 16, 2) := by decide +kernel
theorem dX8_lays_17 : decode cX8_lays 17 = .ok (.if_icmp .ge 46, 3) := by decide +kernel
theorem dX8_lays_20 : decode cX8_lays 20 = .ok (.aload_n 0, 1) := by decide +kernel
theorem dX8_lays_21 : decode cX8_lays 21 = .ok (.getfield 50, 3) := by decide +kernel
theorem dX8_lays_24 : decode cX8_lays 24 = .ok (.bipush 16, 2) := by decide +kernel
theorem dX8_lays_26 : decode cX8_lays 26 = .ok (.iload 4, 2) := by decide +kernel
theorem dX8_lays_28 : decode cX8_lays 28 = .ok (.imul, 1) := by decide +kernel
theorem dX8_lays_29 : decode cX8_lays 29 = .ok (.iload 5, 2) := by decide +kernel
theorem dX8_lays_31 : decode cX8_lays 31 = .ok (.iadd, 1) := by decide +kernel
theorem dX8_lays_32 : decode cX8_lays 32 = .ok (.dup2, 1) := by decide +kernel
theorem dX8_lays_33 : decode cX8_lays 33 = .ok (.laload, 1) := by decide +kernel
theorem dX8_lays_34 : decode cX8_lays 34 = .ok (.lload_n 2, 1) := by decide +kernel
theorem dX8_lays_35 : decode cX8_lays 35 = .ok (.aload_n 0, 1) := by decide +kernel
theorem dX8_lays_36 : decode cX8_lays 36 = .ok (.iload 5, 2) := by decide +kernel
theorem dX8_lays_38 : decode cX8_lays 38 = .ok (.iload_n 1, 1) := by decide +kernel
theorem dX8_lays_39 : decode cX8_lays 39 = .ok (.bipush 16, 2) := by decide +kernel
theorem dX8_lays_41 : decode cX8_lays 41 = .ok (.irem, 1) := by decide +kernel
theorem dX8_lays_42 : decode cX8_lays 42 = .ok (.isub, 1) := by decide +kernel
theorem dX8_lays_43 : decode cX8_lays 43 = .ok (.iload 4, 2) := by decide +kernel
theorem dX8_lays_45 : decode cX8_lays 45 = .ok (.iload_n 1, 1) := by decide +kernel
theorem dX8_lays_46 : decode cX8_lays 46 = .ok (.bipush 16, 2) := by decide +kernel
theorem dX8_lays_48 : decode cX8_lays 48 = .ok (.idiv, 1) := by decide +kernel
theorem dX8_lays_49 : decode cX8_lays 49 = .ok (.isub, 1) := by decide +kernel
theorem dX8_lays_50 : decode cX8_lays 50 = .ok (.invokevirtual 236, 3) := by decide +kernel
theorem dX8_lays_53 : decode cX8_lays 53 = .ok (.i2l, 1) := by decide +kernel
theorem dX8_lays_54 : decode cX8_lays 54 = .ok (.lmul, 1) := by decide +kernel
theorem dX8_lays_55 : decode cX8_lays 55 = .ok (.ladd, 1) := by decide +kernel
theorem dX8_lays_56 : decode cX8_lays 56 = .ok (.lastore, 1) := by decide +kernel
theorem dX8_lays_57 : decode cX8_lays 57 = .ok (.iinc 5 1, 3) := by decide +kernel
theorem dX8_lays_60 : decode cX8_lays 60 = .ok (.goto (-47), 3) := by decide +kernel
theorem dX8_lays_63 : decode cX8_lays 63 = .ok (.iinc 4 1, 3) := by decide +kernel
theorem dX8_lays_66 : decode cX8_lays 66 = .ok (.goto (-63), 3) := by decide +kernel
theorem dX8_lays_69 : decode cX8_lays 69 = .ok (.return_, 1) := by decide +kernel
theorem dX8_take_0 : decode cX8_take 0 = .ok (.iload_n 1, 1) := by decide +kernel
theorem dX8_take_1 : decode cX8_take 1 = .ok (.i2l, 1) := by decide +kernel
theorem dX8_take_2 : decode cX8_take 2 = .ok (.lconst 1, 1) := by decide +kernel
theorem dX8_take_3 : decode cX8_take 3 = .ok (.ldc2_w 127, 3) := by decide +kernel
theorem dX8_take_6 : decode cX8_take 6 = .ok (.invokestatic 121, 3) := by decide +kernel
theorem dX8_take_9 : decode cX8_take 9 = .ok (.ifCond .eq 15, 3) := by decide +kernel
theorem dX8_take_12 : decode cX8_take 12 = .ok (.iload_n 2, 1) := by decide +kernel
theorem dX8_take_13 : decode cX8_take 13 = .ok (.i2l, 1) := by decide +kernel
theorem dX8_take_14 : decode cX8_take 14 = .ok (.lconst 1, 1) := by decide +kernel
theorem dX8_take_15 : decode cX8_take 15 = .ok (.ldc2_w 239, 3) := by decide +kernel
theorem dX8_take_18 : decode cX8_take 18 = .ok (.invokestatic 121, 3) := by decide +kernel
theorem dX8_take_21 : decode cX8_take 21 = .ok (.ifCond .ne 6, 3) := by decide +kernel
theorem dX8_take_24 : decode cX8_take 24 = .ok (.bipush (-2), 2) := by decide +kernel
theorem dX8_take_26 : decode cX8_take 26 = .ok (.ireturn, 1) := by decide +kernel
theorem dX8_take_27 : decode cX8_take 27 = .ok (.aload_n 0, 1) := by decide +kernel
theorem dX8_take_28 : decode cX8_take 28 = .ok (.getfield 225, 3) := by decide +kernel
theorem dX8_take_31 : decode cX8_take 31 = .ok (.sipush 200, 3) := by decide +kernel
theorem dX8_take_34 : decode cX8_take 34 = .ok (.if_icmp .ne 6, 3) := by decide +kernel
theorem dX8_take_37 : decode cX8_take 37 = .ok (.bipush (-3), 2) := by decide +kernel
theorem dX8_take_39 : decode cX8_take 39 = .ok (.ireturn, 1) := by decide +kernel
theorem dX8_take_40 : decode cX8_take 40 = .ok (.iconst 0, 1) := by decide +kernel
theorem dX8_take_41 : decode cX8_take 41 = .ok (.istore_n 3, 1) := by decide +kernel
theorem dX8_take_42 : decode cX8_take 42 = .ok (.iload_n 3, 1) := by decide +kernel
theorem dX8_take_43 : decode cX8_take 43 = .ok (.iload_n 2, 1) := by decide +kernel
theorem dX8_take_44 : decode cX8_take 44 = .ok (.if_icmp .ge 117, 3) := by decide +kernel
theorem dX8_take_47 : decode cX8_take 47 = .ok (.aload_n 0, 1) := by decide +kernel
theorem dX8_take_48 : decode cX8_take 48 = .ok (.getfield 225, 3) := by decide +kernel
theorem dX8_take_51 : decode cX8_take 51 = .ok (.sipush 200, 3) := by decide +kernel
theorem dX8_take_54 : decode cX8_take 54 = .ok (.if_icmp .ge 107, 3) := by decide +kernel
theorem dX8_take_57 : decode cX8_take 57 = .ok (.aload_n 0, 1) := by decide +kernel
theorem dX8_take_58 : decode cX8_take 58 = .ok (.invokevirtual 241, 3) := by decide +kernel
theorem dX8_take_61 : decode cX8_take 61 = .ok (.istore 4, 2) := by decide +kernel
theorem dX8_take_63 : decode cX8_take 63 = .ok (.ldc2_w 127, 3) := by decide +kernel
theorem dX8_take_66 : decode cX8_take 66 = .ok (.aload_n 0, 1) := by decide +kernel
theorem dX8_take_67 : decode cX8_take 67 = .ok (.iconst 0, 1) := by decide +kernel
theorem dX8_take_68 : decode cX8_take 68 = .ok (.iconst 0, 1) := by decide +kernel
theorem dX8_take_69 : decode cX8_take 69 = .ok (.invokevirtual 236, 3) := by decide +kernel
theorem dX8_take_72 : decode cX8_take 72 = .ok (.i2l, 1) := by decide +kernel
theorem dX8_take_73 : decode cX8_take 73 = .ok (.lmul, 1) := by decide +kernel
theorem dX8_take_74 : decode cX8_take 74 = .ok (.lstore 5, 2) := by decide +kernel
theorem dX8_take_76 : decode cX8_take 76 = .ok (.lload 5, 2) := by decide +kernel
theorem dX8_take_78 : decode cX8_take 78 = .ok (.lconst 0, 1) := by decide +kernel
theorem dX8_take_79 : decode cX8_take 79 = .ok (.lcmp, 1) := by decide +kernel
theorem dX8_take_80 : decode cX8_take 80 = .ok (.ifCond .ne 7, 3) := by decide +kernel
theorem dX8_take_83 : decode cX8_take 83 = .ok (.lconst 0, 1) := by decide +kernel
theorem dX8_take_84 : decode cX8_take 84 = .ok (.goto 16, 3) := by decide +kernel
theorem dX8_take_87 : decode cX8_take 87 = .ok (.aload_n 0, 1) := by decide +kernel
theorem dX8_take_88 : decode cX8_take 88 = .ok (.getfield 50, 3) := by decide +kernel
theorem dX8_take_91 : decode cX8_take 91 = .ok (.iload 4, 2) := by decide +kernel
theorem dX8_take_93 : decode cX8_take 93 = .ok (.laload, 1) := by decide +kernel
theorem dX8_take_94 : decode cX8_take 94 = .ok (.iload_n 1, 1) := by decide +kernel
theorem dX8_take_95 : decode cX8_take 95 = .ok (.i2l, 1) := by decide +kernel
theorem dX8_take_96 : decode cX8_take 96 = .ok (.lmul, 1) := by decide +kernel
theorem dX8_take_97 : decode cX8_take 97 = .ok (.lload 5, 2) := by decide +kernel
theorem dX8_take_99 : decode cX8_take 99 = .ok (.ldiv, 1) := by decide +kernel
theorem dX8_take_100 : decode cX8_take 100 = .ok (.lstore 7, 2) := by decide +kernel
theorem dX8_take_102 : decode cX8_take 102 = .ok (.lload 7, 2) := by decide +kernel
theorem dX8_take_104 : decode cX8_take 104 = .ok (.lconst 0, 1) := by decide +kernel
theorem dX8_take_105 : decode cX8_take 105 = .ok (.lcmp, 1) := by decide +kernel
theorem dX8_take_106 : decode cX8_take 106 = .ok (.ifCond .ne 8, 3) := by decide +kernel
theorem dX8_take_109 : decode cX8_take 109 = .ok (.aload_n 0, 1) := by decide +kernel
theorem dX8_take_110 : decode cX8_take 110 = .ok (.getfield 225, 3) := by decide +kernel
theorem dX8_take_113 : decode cX8_take 113 = .ok (.ireturn, 1) := by decide +kernel
theorem dX8_take_114 : decode cX8_take 114 = .ok (.aload_n 0, 1) := by decide +kernel
theorem dX8_take_115 : decode cX8_take 115 = .ok (.iload 4, 2) := by decide +kernel
theorem dX8_take_117 : decode cX8_take 117 = .ok (.lload 7, 2) := by decide +kernel
theorem dX8_take_119 : decode cX8_take 119 = .ok (.lneg, 1) := by decide +kernel
theorem dX8_take_120 : decode cX8_take 120 = .ok (.invokevirtual 244, 3) := by decide +kernel
theorem dX8_take_123 : decode cX8_take 123 = .ok (.aload_n 0, 1) := by decide +kernel
theorem dX8_take_124 : decode cX8_take 124 = .ok (.getfield 78, 3) := by decide +kernel
theorem dX8_take_127 : decode cX8_take 127 = .ok (.aload_n 0, 1) := by decide +kernel
theorem dX8_take_128 : decode cX8_take 128 = .ok (.getfield 225, 3) := by decide +kernel
theorem dX8_take_131 : decode cX8_take 131 = .ok (.iload 4, 2) := by decide +kernel
theorem dX8_take_133 : decode cX8_take 133 = .ok (.iastore, 1) := by decide +kernel
theorem dX8_take_134 : decode cX8_take 134 = .ok (.aload_n 0, 1) := by decide +kernel
theorem dX8_take_135 : decode cX8_take 135 = .ok (.getfield 81, 3) := by decide +kernel
theorem dX8_take_138 : decode cX8_take 138 = .ok (.aload_n 0, 1) := by decide +kernel
theorem dX8_take_139 : decode cX8_take 139 = .ok (.getfield 225, 3) := by decide +kernel
theorem dX8_take_142 : decode cX8_take 142 = .ok (.lload 7, 2) := by decide +kernel
theorem dX8_take_144 : decode cX8_take 144 = .ok (.lastore, 1) := by decide +kernel
theorem dX8_take_145 : decode cX8_take 145 = .ok (.aload_n 0, 1) := by decide +kernel
theorem dX8_take_146 : decode cX8_take 146 = .ok (.dup, 1) := by decide +kernel
theorem dX8_take_147 : decode cX8_take 147 = .ok (.getfield 225, 3) := by decide +kernel
theorem dX8_take_150 : decode cX8_take 150 = .ok (.iconst 1, 1) := by decide +kernel
theorem dX8_take_151 : decode cX8_take 151 = .ok (.iadd, 1) := by decide +kernel
theorem dX8_take_152 : decode cX8_take 152 = .ok (.putfield 225, 3) := by decide +kernel
theorem dX8_take_155 : decode cX8_take 155 = .ok (.iinc 3 1, 3) := by decide +kernel
theorem dX8_take_158 : decode cX8_take 158 = .ok (.goto (-116), 3) := by decide +kernel
theorem dX8_take_161 : decode cX8_take 161 = .ok (.aload_n 0, 1) := by decide +kernel
theorem dX8_take_162 : decode cX8_take 162 = .ok (.getfield 225, 3) := by decide +kernel
theorem dX8_take_165 : decode cX8_take 165 = .ok (.ireturn, 1) := by decide +kernel
theorem dX8_part_0 : decode cX8_part 0 = .ok (.iload_n 1, 1) := by decide +kernel
theorem dX8_part_1 : decode cX8_part 1 = .ok (.i2l, 1) := by decide +kernel
theorem dX8_part_2 : decode cX8_part 2 = .ok (.lconst 0, 1) := by decide +kernel
theorem dX8_part_3 : decode cX8_part 3 = .ok (.aload_n 0, 1) := by decide +kernel
theorem dX8_part_4 : decode cX8_part 4 = .ok (.getfield 225, 3) := by decide +kernel
theorem dX8_part_7 : decode cX8_part 7 = .ok (.iconst 1, 1) := by decide +kernel
theorem dX8_part_8 : decode cX8_part 8 = .ok (.isub, 1) := by decide +kernel
theorem dX8_part_9 : decode cX8_part 9 = .ok (.i2l, 1) := by decide +kernel
theorem dX8_part_10 : decode cX8_part 10 = .ok (.invokestatic 121, 3) := by decide +kernel
theorem dX8_part_13 : decode cX8_part 13 = .ok (.ifCond .eq 13, 3) := by decide +kernel
theorem dX8_part_16 : decode cX8_part 16 = .ok (.iload_n 2, 1) := by decide +kernel
theorem dX8_part_17 : decode cX8_part 17 = .ok (.i2l, 1) := by decide +kernel
theorem dX8_part_18 : decode cX8_part 18 = .ok (.lconst 0, 1) := by decide +kernel
theorem dX8_part_19 : decode cX8_part 19 = .ok (.lconst 1, 1) := by decide +kernel
theorem dX8_part_20 : decode cX8_part 20 = .ok (.invokestatic 121, 3) := by decide +kernel
theorem dX8_part_23 : decode cX8_part 23 = .ok (.ifCond .ne 7, 3) := by decide +kernel
theorem dX8_part_26 : decode cX8_part 26 = .ok (.ldc2_w 175, 3) := by decide +kernel
theorem dX8_part_29 : decode cX8_part 29 = .ok (.lreturn, 1) := by decide +kernel
theorem dX8_part_30 : decode cX8_part 30 = .ok (.iload_n 2, 1) := by decide +kernel
theorem dX8_part_31 : decode cX8_part 31 = .ok (.ifCond .ne 13, 3) := by decide +kernel
theorem dX8_part_34 : decode cX8_part 34 = .ok (.aload_n 0, 1) := by decide +kernel
theorem dX8_part_35 : decode cX8_part 35 = .ok (.getfield 78, 3) := by decide +kernel
theorem dX8_part_38 : decode cX8_part 38 = .ok (.iload_n 1, 1) := by decide +kernel
theorem dX8_part_39 : decode cX8_part 39 = .ok (.iaload, 1) := by decide +kernel
theorem dX8_part_40 : decode cX8_part 40 = .ok (.i2l, 1) := by decide +kernel
theorem dX8_part_41 : decode cX8_part 41 = .ok (.goto 9, 3) := by decide +kernel
theorem dX8_part_44 : decode cX8_part 44 = .ok (.aload_n 0, 1) := by decide +kernel
theorem dX8_part_45 : decode cX8_part 45 = .ok (.getfield 81, 3) := by decide +kernel
theorem dX8_part_48 : decode cX8_part 48 = .ok (.iload_n 1, 1) := by decide +kernel
theorem dX8_part_49 : decode cX8_part 49 = .ok (.laload, 1) := by decide +kernel
theorem dX8_part_50 : decode cX8_part 50 = .ok (.lreturn, 1) := by decide +kernel
theorem dX8_back_0 : decode cX8_back 0 = .ok (.aload_n 0, 1) := by decide +kernel
theorem dX8_back_1 : decode cX8_back 1 = .ok (.getfield 225, 3) := by decide +kernel
theorem dX8_back_4 : decode cX8_back 4 = .ok (.ifCond .ne 6, 3) := by decide +kernel
theorem dX8_back_7 : decode cX8_back 7 = .ok (.bipush (-4), 2) := by decide +kernel
theorem dX8_back_9 : decode cX8_back 9 = .ok (.ireturn, 1) := by decide +kernel
theorem dX8_back_10 : decode cX8_back 10 = .ok (.aload_n 0, 1) := by decide +kernel
theorem dX8_back_11 : decode cX8_back 11 = .ok (.dup, 1) := by decide +kernel
theorem dX8_back_12 : decode cX8_back 12 = .ok (.getfield 225, 3) := by decide +kernel
theorem dX8_back_15 : decode cX8_back 15 = .ok (.iconst 1, 1) := by decide +kernel
theorem dX8_back_16 : decode cX8_back 16 = .ok (.isub, 1) := by decide +kernel
theorem dX8_back_17 : decode cX8_back 17 = .ok (.putfield 225, 3) := by decide +kernel
theorem dX8_back_20 : decode cX8_back 20 = .ok (.aload_n 0, 1) := by decide +kernel
theorem dX8_back_21 : decode cX8_back 21 = .ok (.aload_n 0, 1) := by decide +kernel
theorem dX8_back_22 : decode cX8_back 22 = .ok (.getfield 78, 3) := by decide +kernel
theorem dX8_back_25 : decode cX8_back 25 = .ok (.aload_n 0, 1) := by decide +kernel
theorem dX8_back_26 : decode cX8_back 26 = .ok (.getfield 225, 3) := by decide +kernel
theorem dX8_back_29 : decode cX8_back 29 = .ok (.iaload, 1) := by decide +kernel
theorem dX8_back_30 : decode cX8_back 30 = .ok (.aload_n 0, 1) := by decide +kernel
theorem dX8_back_31 : decode cX8_back 31 = .ok (.getfield 81, 3) := by decide +kernel
theorem dX8_back_34 : decode cX8_back 34 = .ok (.aload_n 0, 1) := by decide +kernel
theorem dX8_back_35 : decode cX8_back 35 = .ok (.getfield 225, 3) := by decide +kernel
theorem dX8_back_38 : decode cX8_back 38 = .ok (.laload, 1) := by decide +kernel
theorem dX8_back_39 : decode cX8_back 39 = .ok (.invokevirtual 244, 3) := by decide +kernel
theorem dX8_back_42 : decode cX8_back 42 = .ok (.aload_n 0, 1) := by decide +kernel
theorem dX8_back_43 : decode cX8_back 43 = .ok (.getfield 225, 3) := by decide +kernel
theorem dX8_back_46 : decode cX8_back 46 = .ok (.ireturn, 1) := by decide +kernel
theorem dX8_source_0 : decode cX8_source 0 = .ok (.iload_n 1, 1) := by decide +kernel
theorem dX8_source_1 : decode cX8_source 1 = .ok (.i2l, 1) := by decide +kernel
theorem dX8_source_2 : decode cX8_source 2 = .ok (.lconst 0, 1) := by decide +kernel
theorem dX8_source_3 : decode cX8_source 3 = .ok (.ldc2_w 248, 3) := by decide +kernel
theorem dX8_source_6 : decode cX8_source 6 = .ok (.invokestatic 121, 3) := by decide +kernel
theorem dX8_source_9 : decode cX8_source 9 = .ok (.ifCond .eq 19, 3) := by decide +kernel
theorem dX8_source_12 : decode cX8_source 12 = .ok (.iload_n 2, 1) := by decide +kernel
theorem dX8_source_13 : decode cX8_source 13 = .ok (.ifCond .lt 15, 3) := by decide +kernel
theorem dX8_source_16 : decode cX8_source 16 = .ok (.iload_n 2, 1) := by decide +kernel
theorem dX8_source_17 : decode cX8_source 17 = .ok (.iload_n 3, 1) := by decide +kernel
theorem dX8_source_18 : decode cX8_source 18 = .ok (.if_icmp .ge 10, 3) := by decide +kernel
theorem dX8_source_21 : decode cX8_source 21 = .ok (.iload_n 3, 1) := by decide +kernel
theorem dX8_source_22 : decode cX8_source 22 = .ok (.sipush 1440, 3) := by decide +kernel
theorem dX8_source_25 : decode cX8_source 25 = .ok (.if_icmp .le 6, 3) := by decide +kernel
theorem dX8_source_28 : decode cX8_source 28 = .ok (.bipush (-2), 2) := by decide +kernel
theorem dX8_source_30 : decode cX8_source 30 = .ok (.ireturn, 1) := by decide +kernel
theorem dX8_source_31 : decode cX8_source 31 = .ok (.aload_n 0, 1) := by decide +kernel
theorem dX8_source_32 : decode cX8_source 32 = .ok (.getfield 84, 3) := by decide +kernel
theorem dX8_source_35 : decode cX8_source 35 = .ok (.iload_n 1, 1) := by decide +kernel
theorem dX8_source_36 : decode cX8_source 36 = .ok (.iconst 1, 1) := by decide +kernel
theorem dX8_source_37 : decode cX8_source 37 = .ok (.bastore, 1) := by decide +kernel
theorem dX8_source_38 : decode cX8_source 38 = .ok (.aload_n 0, 1) := by decide +kernel
theorem dX8_source_39 : decode cX8_source 39 = .ok (.getfield 87, 3) := by decide +kernel
theorem dX8_source_42 : decode cX8_source 42 = .ok (.iload_n 1, 1) := by decide +kernel
theorem dX8_source_43 : decode cX8_source 43 = .ok (.iload_n 2, 1) := by decide +kernel
theorem dX8_source_44 : decode cX8_source 44 = .ok (.iastore, 1) := by decide +kernel
theorem dX8_source_45 : decode cX8_source 45 = .ok (.aload_n 0, 1) := by decide +kernel
theorem dX8_source_46 : decode cX8_source 46 = .ok (.getfield 90, 3) := by decide +kernel
theorem dX8_source_49 : decode cX8_source 49 = .ok (.iload_n 1, 1) := by decide +kernel
theorem dX8_source_50 : decode cX8_source 50 = .ok (.iload_n 3, 1) := by decide +kernel
theorem dX8_source_51 : decode cX8_source 51 = .ok (.iastore, 1) := by decide +kernel
theorem dX8_source_52 : decode cX8_source 52 = .ok (.iconst 1, 1) := by decide +kernel
theorem dX8_source_53 : decode cX8_source 53 = .ok (.ireturn, 1) := by decide +kernel
theorem dX8_isOrder_0 : decode cX8_isOrder 0 = .ok (.iload_n 1, 1) := by decide +kernel
theorem dX8_isOrder_1 : decode cX8_isOrder 1 = .ok (.tableswitch 165 0 4 #[35, 57, 79, 109, 143], 35) := by decide +kernel
theorem dX8_isOrder_36 : decode cX8_isOrder 36 = .ok (.iload_n 2, 1) := by decide +kernel
theorem dX8_isOrder_37 : decode cX8_isOrder 37 = .ok (.i2l, 1) := by decide +kernel
theorem dX8_isOrder_38 : decode cX8_isOrder 38 = .ok (.lconst 0, 1) := by decide +kernel
theorem dX8_isOrder_39 : decode cX8_isOrder 39 = .ok (.ldc2_w 250, 3) := by decide +kernel
theorem dX8_isOrder_42 : decode cX8_isOrder 42 = .ok (.invokestatic 121, 3) := by decide +kernel
theorem dX8_isOrder_45 : decode cX8_isOrder 45 = .ok (.ifCond .eq 11, 3) := by decide +kernel
theorem dX8_isOrder_48 : decode cX8_isOrder 48 = .ok (.iload_n 3, 1) := by decide +kernel
theorem dX8_isOrder_49 : decode cX8_isOrder 49 = .ok (.ifCond .ne 7, 3) := by decide +kernel
theorem dX8_isOrder_52 : decode cX8_isOrder 52 = .ok (.iconst 1, 1) := by decide +kernel
theorem dX8_isOrder_53 : decode cX8_isOrder 53 = .ok (.goto 4, 3) := by decide +kernel
theorem dX8_isOrder_56 : decode cX8_isOrder 56 = .ok (.iconst 0, 1) := by decide +kernel
theorem dX8_isOrder_57 : decode cX8_isOrder 57 = .ok (.ireturn, 1) := by decide +kernel
theorem dX8_isOrder_58 : decode cX8_isOrder 58 = .ok (.iload_n 2, 1) := by decide +kernel
theorem dX8_isOrder_59 : decode cX8_isOrder 59 = .ok (.i2l, 1) := by decide +kernel
theorem dX8_isOrder_60 : decode cX8_isOrder 60 = .ok (.lconst 0, 1) := by decide +kernel
theorem dX8_isOrder_61 : decode cX8_isOrder 61 = .ok (.ldc2_w 252, 3) := by decide +kernel
theorem dX8_isOrder_64 : decode cX8_isOrder 64 = .ok (.invokestatic 121, 3) := by decide +kernel
theorem dX8_isOrder_67 : decode cX8_isOrder 67 = .ok (.ifCond .eq 11, 3) := by decide +kernel
theorem dX8_isOrder_70 : decode cX8_isOrder 70 = .ok (.iload_n 3, 1) := by decide +kernel
theorem dX8_isOrder_71 : decode cX8_isOrder 71 = .ok (.ifCond .ne 7, 3) := by decide +kernel
theorem dX8_isOrder_74 : decode cX8_isOrder 74 = .ok (.iconst 1, 1) := by decide +kernel
theorem dX8_isOrder_75 : decode cX8_isOrder 75 = .ok (.goto 4, 3) := by decide +kernel
theorem dX8_isOrder_78 : decode cX8_isOrder 78 = .ok (.iconst 0, 1) := by decide +kernel
theorem dX8_isOrder_79 : decode cX8_isOrder 79 = .ok (.ireturn, 1) := by decide +kernel
theorem dX8_isOrder_80 : decode cX8_isOrder 80 = .ok (.iload_n 2, 1) := by decide +kernel
theorem dX8_isOrder_81 : decode cX8_isOrder 81 = .ok (.i2l, 1) := by decide +kernel
theorem dX8_isOrder_82 : decode cX8_isOrder 82 = .ok (.lconst 1, 1) := by decide +kernel
theorem dX8_isOrder_83 : decode cX8_isOrder 83 = .ok (.ldc2_w 250, 3) := by decide +kernel
theorem dX8_isOrder_86 : decode cX8_isOrder 86 = .ok (.invokestatic 121, 3) := by decide +kernel
theorem dX8_isOrder_89 : decode cX8_isOrder 89 = .ok (.ifCond .eq 19, 3) := by decide +kernel
theorem dX8_isOrder_92 : decode cX8_isOrder 92 = .ok (.iload_n 3, 1) := by decide +kernel
theorem dX8_isOrder_93 : decode cX8_isOrder 93 = .ok (.i2l, 1) := by decide +kernel
theorem dX8_isOrder_94 : decode cX8_isOrder 94 = .ok (.lconst 0, 1) := by decide +kernel
theorem dX8_isOrder_95 : decode cX8_isOrder 95 = .ok (.ldc2_w 248, 3) := by decide +kernel
theorem dX8_isOrder_98 : decode cX8_isOrder 98 = .ok (.invokestatic 121, 3) := by decide +kernel
theorem dX8_isOrder_101 : decode cX8_isOrder 101 = .ok (.ifCond .eq 7, 3) := by decide +kernel
theorem dX8_isOrder_104 : decode cX8_isOrder 104 = .ok (.iconst 1, 1) := by decide +kernel
theorem dX8_isOrder_105 : decode cX8_isOrder 105 = .ok (.goto 4, 3) := by decide +kernel
theorem dX8_isOrder_108 : decode cX8_isOrder 108 = .ok (.iconst 0, 1) := by decide +kernel
theorem dX8_isOrder_109 : decode cX8_isOrder 109 = .ok (.ireturn, 1) := by decide +kernel
theorem dX8_isOrder_110 : decode cX8_isOrder 110 = .ok (.iload_n 2, 1) := by decide +kernel
theorem dX8_isOrder_111 : decode cX8_isOrder 111 = .ok (.i2l, 1) := by decide +kernel
theorem dX8_isOrder_112 : decode cX8_isOrder 112 = .ok (.lconst 0, 1) := by decide +kernel
theorem dX8_isOrder_113 : decode cX8_isOrder 113 = .ok (.aload_n 0, 1) := by decide +kernel
theorem dX8_isOrder_114 : decode cX8_isOrder 114 = .ok (.getfield 254, 3) := by decide +kernel
theorem dX8_isOrder_117 : decode cX8_isOrder 117 = .ok (.iconst 1, 1) := by decide +kernel
theorem dX8_isOrder_118 : decode cX8_isOrder 118 = .ok (.isub, 1) := by decide +kernel
theorem dX8_isOrder_119 : decode cX8_isOrder 119 = .ok (.i2l, 1) := by decide +kernel
theorem dX8_isOrder_120 : decode cX8_isOrder 120 = .ok (.invokestatic 121, 3) := by decide +kernel
theorem dX8_isOrder_123 : decode cX8_isOrder 123 = .ok (.ifCond .eq 19, 3) := by decide +kernel
theorem dX8_isOrder_126 : decode cX8_isOrder 126 = .ok (.iload_n 3, 1) := by decide +kernel
theorem dX8_isOrder_127 : decode cX8_isOrder 127 = .ok (.i2l, 1) := by decide +kernel
theorem dX8_isOrder_128 : decode cX8_isOrder 128 = .ok (.lconst 1, 1) := by decide +kernel
theorem dX8_isOrder_129 : decode cX8_isOrder 129 = .ok (.ldc2_w 239, 3) := by decide +kernel
theorem dX8_isOrder_132 : decode cX8_isOrder 132 = .ok (.invokestatic 121, 3) := by decide +kernel
theorem dX8_isOrder_135 : decode cX8_isOrder 135 = .ok (.ifCond .eq 7, 3) := by decide +kernel
theorem dX8_isOrder_138 : decode cX8_isOrder 138 = .ok (.iconst 1, 1) := by decide +kernel
theorem dX8_isOrder_139 : decode cX8_isOrder 139 = .ok (.goto 4, 3) := by decide +kernel
theorem dX8_isOrder_142 : decode cX8_isOrder 142 = .ok (.iconst 0, 1) := by decide +kernel
theorem dX8_isOrder_143 : decode cX8_isOrder 143 = .ok (.ireturn, 1) := by decide +kernel
theorem dX8_isOrder_144 : decode cX8_isOrder 144 = .ok (.iload_n 2, 1) := by decide +kernel
theorem dX8_isOrder_145 : decode cX8_isOrder 145 = .ok (.i2l, 1) := by decide +kernel
theorem dX8_isOrder_146 : decode cX8_isOrder 146 = .ok (.lconst 1, 1) := by decide +kernel
theorem dX8_isOrder_147 : decode cX8_isOrder 147 = .ok (.ldc2_w 250, 3) := by decide +kernel
theorem dX8_isOrder_150 : decode cX8_isOrder 150 = .ok (.invokestatic 121, 3) := by decide +kernel
theorem dX8_isOrder_153 : decode cX8_isOrder 153 = .ok (.ifCond .eq 11, 3) := by decide +kernel
theorem dX8_isOrder_156 : decode cX8_isOrder 156 = .ok (.iload_n 3, 1) := by decide +kernel
theorem dX8_isOrder_157 : decode cX8_isOrder 157 = .ok (.ifCond .ne 7, 3) := by decide +kernel
theorem dX8_isOrder_160 : decode cX8_isOrder 160 = .ok (.iconst 1, 1) := by decide +kernel
theorem dX8_isOrder_161 : decode cX8_isOrder 161 = .ok (.goto 4, 3) := by decide +kernel
theorem dX8_isOrder_164 : decode cX8_isOrder 164 = .ok (.iconst 0, 1) := by decide +kernel
theorem dX8_isOrder_165 : decode cX8_isOrder 165 = .ok (.ireturn, 1) := by decide +kernel
theorem dX8_isOrder_166 : decode cX8_isOrder 166 = .ok (.iload_n 1, 1) := by decide +kernel
theorem dX8_isOrder_167 : decode cX8_isOrder 167 = .ok (.iconst 5, 1) := by decide +kernel
theorem dX8_isOrder_168 : decode cX8_isOrder 168 = .ok (.if_icmp .ne 15, 3) := by decide +kernel
theorem dX8_isOrder_171 : decode cX8_isOrder 171 = .ok (.iload_n 2, 1) := by decide +kernel
theorem dX8_isOrder_172 : decode cX8_isOrder 172 = .ok (.ifCond .ne 11, 3) := by decide +kernel
theorem dX8_isOrder_175 : decode cX8_isOrder 175 = .ok (.iload_n 3, 1) := by decide +kernel
theorem dX8_isOrder_176 : decode cX8_isOrder 176 = .ok (.ifCond .ne 7, 3) := by decide +kernel
theorem dX8_isOrder_179 : decode cX8_isOrder 179 = .ok (.iconst 1, 1) := by decide +kernel
theorem dX8_isOrder_180 : decode cX8_isOrder 180 = .ok (.goto 4, 3) := by decide +kernel
theorem dX8_isOrder_183 : decode cX8_isOrder 183 = .ok (.iconst 0, 1) := by decide +kernel
theorem dX8_isOrder_184 : decode cX8_isOrder 184 = .ok (.ireturn, 1) := by decide +kernel
theorem dX8_order_0 : decode cX8_order 0 = .ok (.aload_n 0, 1) := by decide +kernel
theorem dX8_order_1 : decode cX8_order 1 = .ok (.iload_n 1, 1) := by decide +kernel
theorem dX8_order_2 : decode cX8_order 2 = .ok (.iload_n 2, 1) := by decide +kernel
theorem dX8_order_3 : decode cX8_order 3 = .ok (.iload_n 3, 1) := by decide +kernel
theorem dX8_order_4 : decode cX8_order 4 = .ok (.invokevirtual 257, 3) := by decide +kernel
theorem dX8_order_7 : decode cX8_order 7 = .ok (.ifCond .ne 6, 3) := by decide +kernel
theorem dX8_order_10 : decode cX8_order 10 = .ok (.bipush (-2), 2) := by decide +kernel
theorem dX8_order_12 : decode cX8_order 12 = .ok (.ireturn, 1) := by decide +kernel
theorem dX8_order_13 : decode cX8_order 13 = .ok (.aload_n 0, 1) := by decide +kernel
theorem dX8_order_14 : decode cX8_order 14 = .ok (.getfield 254, 3) := by decide +kernel
theorem dX8_order_17 : decode cX8_order 17 = .ok (.bipush 60, 2) := by decide +kernel
theorem dX8_order_19 : decode cX8_order 19 = .ok (.if_icmp .ne 6, 3) := by decide +kernel
theorem dX8_order_22 : decode cX8_order 22 = .ok (.bipush (-3), 2) := by decide +kernel
theorem dX8_order_24 : decode cX8_order 24 = .ok (.ireturn, 1) := by decide +kernel
theorem dX8_order_25 : decode cX8_order 25 = .ok (.aload_n 0, 1) := by decide +kernel
theorem dX8_order_26 : decode cX8_order 26 = .ok (.getfield 93, 3) := by decide +kernel
theorem dX8_order_29 : decode cX8_order 29 = .ok (.aload_n 0, 1) := by decide +kernel
theorem dX8_order_30 : decode cX8_order 30 = .ok (.getfield 254, 3) := by decide +kernel
theorem dX8_order_33 : decode cX8_order 33 = .ok (.iload_n 1, 1) := by decide +kernel
theorem dX8_order_34 : decode cX8_order 34 = .ok (.iastore, 1) := by decide +kernel
theorem dX8_order_35 : decode cX8_order 35 = .ok (.aload_n 0, 1) := by decide +kernel
theorem dX8_order_36 : decode cX8_order 36 = .ok (.getfield 96, 3) := by decide +kernel
theorem dX8_order_39 : decode cX8_order 39 = .ok (.aload_n 0, 1) := by decide +kernel
theorem dX8_order_40 : decode cX8_order 40 = .ok (.getfield 254, 3) := by decide +kernel
theorem dX8_order_43 : decode cX8_order 43 = .ok (.iload_n 2, 1) := by decide +kernel
theorem dX8_order_44 : decode cX8_order 44 = .ok (.iastore, 1) := by decide +kernel
theorem dX8_order_45 : decode cX8_order 45 = .ok (.aload_n 0, 1) := by decide +kernel
theorem dX8_order_46 : decode cX8_order 46 = .ok (.getfield 99, 3) := by decide +kernel
theorem dX8_order_49 : decode cX8_order 49 = .ok (.aload_n 0, 1) := by decide +kernel
theorem dX8_order_50 : decode cX8_order 50 = .ok (.getfield 254, 3) := by decide +kernel
theorem dX8_order_53 : decode cX8_order 53 = .ok (.iload_n 3, 1) := by decide +kernel
theorem dX8_order_54 : decode cX8_order 54 = .ok (.iastore, 1) := by decide +kernel
theorem dX8_order_55 : decode cX8_order 55 = .ok (.aload_n 0, 1) := by decide +kernel
theorem dX8_order_56 : decode cX8_order 56 = .ok (.dup, 1) := by decide +kernel
theorem dX8_order_57 : decode cX8_order 57 = .ok (.getfield 254, 3) := by decide +kernel
theorem dX8_order_60 : decode cX8_order 60 = .ok (.iconst 1, 1) := by decide +kernel
theorem dX8_order_61 : decode cX8_order 61 = .ok (.iadd, 1) := by decide +kernel
theorem dX8_order_62 : decode cX8_order 62 = .ok (.putfield 254, 3) := by decide +kernel
theorem dX8_order_65 : decode cX8_order 65 = .ok (.aload_n 0, 1) := by decide +kernel
theorem dX8_order_66 : decode cX8_order 66 = .ok (.getfield 254, 3) := by decide +kernel
theorem dX8_order_69 : decode cX8_order 69 = .ok (.iconst 1, 1) := by decide +kernel
theorem dX8_order_70 : decode cX8_order 70 = .ok (.isub, 1) := by decide +kernel
theorem dX8_order_71 : decode cX8_order 71 = .ok (.ireturn, 1) := by decide +kernel
theorem dX8_wipe_0 : decode cX8_wipe 0 = .ok (.aload_n 0, 1) := by decide +kernel
theorem dX8_wipe_1 : decode cX8_wipe 1 = .ok (.getfield 254, 3) := by decide +kernel
theorem dX8_wipe_4 : decode cX8_wipe 4 = .ok (.istore_n 1, 1) := by decide +kernel
theorem dX8_wipe_5 : decode cX8_wipe 5 = .ok (.aload_n 0, 1) := by decide +kernel
theorem dX8_wipe_6 : decode cX8_wipe 6 = .ok (.iconst 0, 1) := by decide +kernel
theorem dX8_wipe_7 : decode cX8_wipe 7 = .ok (.putfield 254, 3) := by decide +kernel
theorem dX8_wipe_10 : decode cX8_wipe 10 = .ok (.iload_n 1, 1) := by decide +kernel
theorem dX8_wipe_11 : decode cX8_wipe 11 = .ok (.ireturn, 1) := by decide +kernel
theorem dX8_turnOf_0 : decode cX8_turnOf 0 = .ok (.iload_n 1, 1) := by decide +kernel
theorem dX8_turnOf_1 : decode cX8_turnOf 1 = .ok (.aload_n 0, 1) := by decide +kernel
theorem dX8_turnOf_2 : decode cX8_turnOf 2 = .ok (.getfield 261, 3) := by decide +kernel
theorem dX8_turnOf_5 : decode cX8_turnOf 5 = .ok (.isub, 1) := by decide +kernel
theorem dX8_turnOf_6 : decode cX8_turnOf 6 = .ok (.sipush 360, 3) := by decide +kernel
theorem dX8_turnOf_9 : decode cX8_turnOf 9 = .ok (.iadd, 1) := by decide +kernel
theorem dX8_turnOf_10 : decode cX8_turnOf 10 = .ok (.sipush 360, 3) := by decide +kernel
theorem dX8_turnOf_13 : decode cX8_turnOf 13 = .ok (.irem, 1) := by decide +kernel
theorem dX8_turnOf_14 : decode cX8_turnOf 14 = .ok (.istore_n 2, 1) := by decide +kernel
theorem dX8_turnOf_15 : decode cX8_turnOf 15 = .ok (.iload_n 2, 1) := by decide +kernel
theorem dX8_turnOf_16 : decode cX8_turnOf 16 = .ok (.sipush 180, 3) := by decide +kernel
theorem dX8_turnOf_19 : decode cX8_turnOf 19 = .ok (.if_icmp .le 11, 3) := by decide +kernel
theorem dX8_turnOf_22 : decode cX8_turnOf 22 = .ok (.sipush 360, 3) := by decide +kernel
theorem dX8_turnOf_25 : decode cX8_turnOf 25 = .ok (.iload_n 2, 1) := by decide +kernel
theorem dX8_turnOf_26 : decode cX8_turnOf 26 = .ok (.isub, 1) := by decide +kernel
theorem dX8_turnOf_27 : decode cX8_turnOf 27 = .ok (.goto 4, 3) := by decide +kernel
theorem dX8_turnOf_30 : decode cX8_turnOf 30 = .ok (.iload_n 2, 1) := by decide +kernel
theorem dX8_turnOf_31 : decode cX8_turnOf 31 = .ok (.istore_n 3, 1) := by decide +kernel
theorem dX8_turnOf_32 : decode cX8_turnOf 32 = .ok (.iload_n 3, 1) := by decide +kernel
theorem dX8_turnOf_33 : decode cX8_turnOf 33 = .ok (.iconst 5, 1) := by decide +kernel
theorem dX8_turnOf_34 : decode cX8_turnOf 34 = .ok (.iadd, 1) := by decide +kernel
theorem dX8_turnOf_35 : decode cX8_turnOf 35 = .ok (.bipush 6, 2) := by decide +kernel
theorem dX8_turnOf_37 : decode cX8_turnOf 37 = .ok (.idiv, 1) := by decide +kernel
theorem dX8_turnOf_38 : decode cX8_turnOf 38 = .ok (.ireturn, 1) := by decide +kernel
theorem dX8_lengthOf_0 : decode cX8_lengthOf 0 = .ok (.aload_n 0, 1) := by decide +kernel
theorem dX8_lengthOf_1 : decode cX8_lengthOf 1 = .ok (.getfield 93, 3) := by decide +kernel
theorem dX8_lengthOf_4 : decode cX8_lengthOf 4 = .ok (.iload_n 1, 1) := by decide +kernel
theorem dX8_lengthOf_5 : decode cX8_lengthOf 5 = .ok (.iaload, 1) := by decide +kernel
theorem dX8_lengthOf_6 : decode cX8_lengthOf 6 = .ok (.tableswitch 56 0 5 #[38, 45, 38, 56, 56, 45], 38) := by decide +kernel
theorem dX8_lengthOf_44 : decode cX8_lengthOf 44 = .ok (.aload_n 0, 1) := by decide +kernel
theorem dX8_lengthOf_45 : decode cX8_lengthOf 45 = .ok (.getfield 96, 3) := by decide +kernel
theorem dX8_lengthOf_48 : decode cX8_lengthOf 48 = .ok (.iload_n 1, 1) := by decide +kernel
theorem dX8_lengthOf_49 : decode cX8_lengthOf 49 = .ok (.iaload, 1) := by decide +kernel
theorem dX8_lengthOf_50 : decode cX8_lengthOf 50 = .ok (.ireturn, 1) := by decide +kernel
theorem dX8_lengthOf_51 : decode cX8_lengthOf 51 = .ok (.aload_n 0, 1) := by decide +kernel
theorem dX8_lengthOf_52 : decode cX8_lengthOf 52 = .ok (.aload_n 0, 1) := by decide +kernel
theorem dX8_lengthOf_53 : decode cX8_lengthOf 53 = .ok (.getfield 96, 3) := by decide +kernel
theorem dX8_lengthOf_56 : decode cX8_lengthOf 56 = .ok (.iload_n 1, 1) := by decide +kernel
theorem dX8_lengthOf_57 : decode cX8_lengthOf 57 = .ok (.iaload, 1) := by decide +kernel
theorem dX8_lengthOf_58 : decode cX8_lengthOf 58 = .ok (.invokevirtual 264, 3) := by decide +kernel
theorem dX8_lengthOf_61 : decode cX8_lengthOf 61 = .ok (.ireturn, 1) := by decide +kernel
theorem dX8_lengthOf_62 : decode cX8_lengthOf 62 = .ok (.iconst 0, 1) := by decide +kernel
theorem dX8_lengthOf_63 : decode cX8_lengthOf 63 = .ok (.ireturn, 1) := by decide +kernel
theorem dX8_isUp_0 : decode cX8_isUp 0 = .ok (.aload_n 0, 1) := by decide +kernel
theorem dX8_isUp_1 : decode cX8_isUp 1 = .ok (.getfield 84, 3) := by decide +kernel
theorem dX8_isUp_4 : decode cX8_isUp 4 = .ok (.iload_n 1, 1) := by decide +kernel
theorem dX8_isUp_5 : decode cX8_isUp 5 = .ok (.baload, 1) := by decide +kernel
theorem dX8_isUp_6 : decode cX8_isUp 6 = .ok (.ifCond .eq 31, 3) := by decide +kernel
theorem dX8_isUp_9 : decode cX8_isUp 9 = .ok (.iload_n 2, 1) := by decide +kernel
theorem dX8_isUp_10 : decode cX8_isUp 10 = .ok (.sipush 1440, 3) := by decide +kernel
theorem dX8_isUp_13 : decode cX8_isUp 13 = .ok (.irem, 1) := by decide +kernel
theorem dX8_isUp_14 : decode cX8_isUp 14 = .ok (.i2l, 1) := by decide +kernel
theorem dX8_isUp_15 : decode cX8_isUp 15 = .ok (.aload_n 0, 1) := by decide +kernel
theorem dX8_isUp_16 : decode cX8_isUp 16 = .ok (.getfield 87, 3) := by decide +kernel
theorem dX8_isUp_19 : decode cX8_isUp 19 = .ok (.iload_n 1, 1) := by decide +kernel
theorem dX8_isUp_20 : decode cX8_isUp 20 = .ok (.iaload, 1) := by decide +kernel
theorem dX8_isUp_21 : decode cX8_isUp 21 = .ok (.i2l, 1) := by decide +kernel
theorem dX8_isUp_22 : decode cX8_isUp 22 = .ok (.aload_n 0, 1) := by decide +kernel
theorem dX8_isUp_23 : decode cX8_isUp 23 = .ok (.getfield 90, 3) := by decide +kernel
theorem dX8_isUp_26 : decode cX8_isUp 26 = .ok (.iload_n 1, 1) := by decide +kernel
theorem dX8_isUp_27 : decode cX8_isUp 27 = .ok (.iaload, 1) := by decide +kernel
theorem dX8_isUp_28 : decode cX8_isUp 28 = .ok (.iconst 1, 1) := by decide +kernel
theorem dX8_isUp_29 : decode cX8_isUp 29 = .ok (.isub, 1) := by decide +kernel
theorem dX8_isUp_30 : decode cX8_isUp 30 = .ok (.i2l, 1) := by decide +kernel
theorem dX8_isUp_31 : decode cX8_isUp 31 = .ok (.invokestatic 121, 3) := by decide +kernel
theorem dX8_isUp_34 : decode cX8_isUp 34 = .ok (.ifCond .eq 7, 3) := by decide +kernel
theorem dX8_isUp_37 : decode cX8_isUp 37 = .ok (.iconst 1, 1) := by decide +kernel
theorem dX8_isUp_38 : decode cX8_isUp 38 = .ok (.goto 4, 3) := by decide +kernel
theorem dX8_isUp_41 : decode cX8_isUp 41 = .ok (.iconst 0, 1) := by decide +kernel
theorem dX8_isUp_42 : decode cX8_isUp 42 = .ok (.ireturn, 1) := by decide +kernel
theorem dX8_isUpAll_0 : decode cX8_isUpAll 0 = .ok (.iconst 0, 1) := by decide +kernel
theorem dX8_isUpAll_1 : decode cX8_isUpAll 1 = .ok (.istore_n 2, 1) := by decide +kernel
theorem dX8_isUpAll_2 : decode cX8_isUpAll 2 = .ok (.iload_n 2, 1) := by decide +kernel
theorem dX8_isUpAll_3 : decode cX8_isUpAll 3 = .ok (.aload_n 0, 1) := by decide +kernel
theorem dX8_isUpAll_4 : decode cX8_isUpAll 4 = .ok (.getfield 96, 3) := by decide +kernel
theorem dX8_isUpAll_7 : decode cX8_isUpAll 7 = .ok (.iload_n 1, 1) := by decide +kernel
theorem dX8_isUpAll_8 : decode cX8_isUpAll 8 = .ok (.iaload, 1) := by decide +kernel
theorem dX8_isUpAll_9 : decode cX8_isUpAll 9 = .ok (.if_icmp .ge 30, 3) := by decide +kernel
theorem dX8_isUpAll_12 : decode cX8_isUpAll 12 = .ok (.aload_n 0, 1) := by decide +kernel
theorem dX8_isUpAll_13 : decode cX8_isUpAll 13 = .ok (.aload_n 0, 1) := by decide +kernel
theorem dX8_isUpAll_14 : decode cX8_isUpAll 14 = .ok (.getfield 99, 3) := by decide +kernel
theorem dX8_isUpAll_17 : decode cX8_isUpAll 17 = .ok (.iload_n 1, 1) := by decide +kernel
theorem dX8_isUpAll_18 : decode cX8_isUpAll 18 = .ok (.iaload, 1) := by decide +kernel
theorem dX8_isUpAll_19 : decode cX8_isUpAll 19 = .ok (.aload_n 0, 1) := by decide +kernel
theorem dX8_isUpAll_20 : decode cX8_isUpAll 20 = .ok (.getfield 267, 3) := by decide +kernel
theorem dX8_isUpAll_23 : decode cX8_isUpAll 23 = .ok (.iload_n 2, 1) := by decide +kernel
theorem dX8_isUpAll_24 : decode cX8_isUpAll 24 = .ok (.iadd, 1) := by decide +kernel
theorem dX8_isUpAll_25 : decode cX8_isUpAll 25 = .ok (.invokevirtual 270, 3) := by decide +kernel
theorem dX8_isUpAll_28 : decode cX8_isUpAll 28 = .ok (.ifCond .ne 5, 3) := by decide +kernel
theorem dX8_isUpAll_31 : decode cX8_isUpAll 31 = .ok (.iconst 0, 1) := by decide +kernel
theorem dX8_isUpAll_32 : decode cX8_isUpAll 32 = .ok (.ireturn, 1) := by decide +kernel
theorem dX8_isUpAll_33 : decode cX8_isUpAll 33 = .ok (.iinc 2 1, 3) := by decide +kernel
theorem dX8_isUpAll_36 : decode cX8_isUpAll 36 = .ok (.goto (-34), 3) := by decide +kernel
theorem dX8_isUpAll_39 : decode cX8_isUpAll 39 = .ok (.iconst 1, 1) := by decide +kernel
theorem dX8_isUpAll_40 : decode cX8_isUpAll 40 = .ok (.ireturn, 1) := by decide +kernel
theorem dX8_does_0 : decode cX8_does 0 = .ok (.aload_n 0, 1) := by decide +kernel
theorem dX8_does_1 : decode cX8_does 1 = .ok (.iload_n 1, 1) := by decide +kernel
theorem dX8_does_2 : decode cX8_does 2 = .ok (.invokevirtual 273, 3) := by decide +kernel
theorem dX8_does_5 : decode cX8_does 5 = .ok (.istore_n 2, 1) := by decide +kernel
theorem dX8_does_6 : decode cX8_does 6 = .ok (.aload_n 0, 1) := by decide +kernel
theorem dX8_does_7 : decode cX8_does 7 = .ok (.dup, 1) := by decide +kernel
theorem dX8_does_8 : decode cX8_does 8 = .ok (.getfield 276, 3) := by decide +kernel
theorem dX8_does_11 : decode cX8_does 11 = .ok (.iconst 1, 1) := by decide +kernel
theorem dX8_does_12 : decode cX8_does 12 = .ok (.iadd, 1) := by decide +kernel
theorem dX8_does_13 : decode cX8_does 13 = .ok (.putfield 276, 3) := by decide +kernel
theorem dX8_does_16 : decode cX8_does 16 = .ok (.aload_n 0, 1) := by decide +kernel
theorem dX8_does_17 : decode cX8_does 17 = .ok (.getfield 93, 3) := by decide +kernel
theorem dX8_does_20 : decode cX8_does 20 = .ok (.iload_n 1, 1) := by decide +kernel
theorem dX8_does_21 : decode cX8_does 21 = .ok (.iaload, 1) := by decide +kernel
theorem dX8_does_22 : decode cX8_does 22 = .ok (.iconst 3, 1) := by decide +kernel
theorem dX8_does_23 : decode cX8_does 23 = .ok (.if_icmp .ne 45, 3) := by decide +kernel
theorem dX8_does_26 : decode cX8_does 26 = .ok (.aload_n 0, 1) := by decide +kernel
theorem dX8_does_27 : decode cX8_does 27 = .ok (.getfield 102, 3) := by decide +kernel
theorem dX8_does_30 : decode cX8_does 30 = .ok (.iload_n 1, 1) := by decide +kernel
theorem dX8_does_31 : decode cX8_does 31 = .ok (.iaload, 1) := by decide +kernel
theorem dX8_does_32 : decode cX8_does 32 = .ok (.ifCond .le 20, 3) := by decide +kernel
theorem dX8_does_35 : decode cX8_does 35 = .ok (.aload_n 0, 1) := by decide +kernel
theorem dX8_does_36 : decode cX8_does 36 = .ok (.getfield 102, 3) := by decide +kernel
theorem dX8_does_39 : decode cX8_does 39 = .ok (.iload_n 1, 1) := by decide +kernel
theorem dX8_does_40 : decode cX8_does 40 = .ok (.dup2, 1) := by decide +kernel
theorem dX8_does_41 : decode cX8_does 41 = .ok (.iaload, 1) := by decide +kernel
theorem dX8_does_42 : decode cX8_does 42 = .ok (.iconst 1, 1) := by decide +kernel
theorem dX8_does_43 : decode cX8_does 43 = .ok (.isub, 1) := by decide +kernel
theorem dX8_does_44 : decode cX8_does 44 = .ok (.iastore, 1) := by decide +kernel
theorem dX8_does_45 : decode cX8_does 45 = .ok (.aload_n 0, 1) := by decide +kernel
theorem dX8_does_46 : decode cX8_does 46 = .ok (.getfield 96, 3) := by decide +kernel
theorem dX8_does_49 : decode cX8_does 49 = .ok (.iload_n 1, 1) := by decide +kernel
theorem dX8_does_50 : decode cX8_does 50 = .ok (.iaload, 1) := by decide +kernel
theorem dX8_does_51 : decode cX8_does 51 = .ok (.ireturn, 1) := by decide +kernel
theorem dX8_does_52 : decode cX8_does 52 = .ok (.aload_n 0, 1) := by decide +kernel
theorem dX8_does_53 : decode cX8_does 53 = .ok (.getfield 102, 3) := by decide +kernel
theorem dX8_does_56 : decode cX8_does 56 = .ok (.iload_n 1, 1) := by decide +kernel
theorem dX8_does_57 : decode cX8_does 57 = .ok (.aload_n 0, 1) := by decide +kernel
theorem dX8_does_58 : decode cX8_does 58 = .ok (.getfield 99, 3) := by decide +kernel
theorem dX8_does_61 : decode cX8_does 61 = .ok (.iload_n 1, 1) := by decide +kernel
theorem dX8_does_62 : decode cX8_does 62 = .ok (.iaload, 1) := by decide +kernel
theorem dX8_does_63 : decode cX8_does 63 = .ok (.iastore, 1) := by decide +kernel
theorem dX8_does_64 : decode cX8_does 64 = .ok (.iload_n 1, 1) := by decide +kernel
theorem dX8_does_65 : decode cX8_does 65 = .ok (.iconst 1, 1) := by decide +kernel
theorem dX8_does_66 : decode cX8_does 66 = .ok (.iadd, 1) := by decide +kernel
theorem dX8_does_67 : decode cX8_does 67 = .ok (.ireturn, 1) := by decide +kernel
theorem dX8_does_68 : decode cX8_does 68 = .ok (.aload_n 0, 1) := by decide +kernel
theorem dX8_does_69 : decode cX8_does 69 = .ok (.getfield 93, 3) := by decide +kernel
theorem dX8_does_72 : decode cX8_does 72 = .ok (.iload_n 1, 1) := by decide +kernel
theorem dX8_does_73 : decode cX8_does 73 = .ok (.iaload, 1) := by decide +kernel
theorem dX8_does_74 : decode cX8_does 74 = .ok (.iconst 4, 1) := by decide +kernel
theorem dX8_does_75 : decode cX8_does 75 = .ok (.if_icmp .ne 43, 3) := by decide +kernel
theorem dX8_does_78 : decode cX8_does 78 = .ok (.aload_n 0, 1) := by decide +kernel
theorem dX8_does_79 : decode cX8_does 79 = .ok (.aload_n 0, 1) := by decide +kernel
theorem dX8_does_80 : decode cX8_does 80 = .ok (.getfield 267, 3) := by decide +kernel
theorem dX8_does_83 : decode cX8_does 83 = .ok (.aload_n 0, 1) := by decide +kernel
theorem dX8_does_84 : decode cX8_does 84 = .ok (.getfield 96, 3) := by decide +kernel
theorem dX8_does_87 : decode cX8_does 87 = .ok (.iload_n 1, 1) := by decide +kernel
theorem dX8_does_88 : decode cX8_does 88 = .ok (.iaload, 1) := by decide +kernel
theorem dX8_does_89 : decode cX8_does 89 = .ok (.iadd, 1) := by decide +kernel
theorem dX8_does_90 : decode cX8_does 90 = .ok (.aload_n 0, 1) := by decide +kernel
theorem dX8_does_91 : decode cX8_does 91 = .ok (.getfield 279, 3) := by decide +kernel
theorem dX8_does_94 : decode cX8_does 94 = .ok (.if_icmp .le 17, 3) := by decide +kernel
theorem dX8_does_97 : decode cX8_does 97 = .ok (.aload_n 0, 1) := by decide +kernel
theorem dX8_does_98 : decode cX8_does 98 = .ok (.getfield 267, 3) := by decide +kernel
theorem dX8_does_101 : decode cX8_does 101 = .ok (.aload_n 0, 1) := by decide +kernel
theorem dX8_does_102 : decode cX8_does 102 = .ok (.getfield 96, 3) := by decide +kernel
theorem dX8_does_105 : decode cX8_does 105 = .ok (.iload_n 1, 1) := by decide +kernel
theorem dX8_does_106 : decode cX8_does 106 = .ok (.iaload, 1) := by decide +kernel
theorem dX8_does_107 : decode cX8_does 107 = .ok (.iadd, 1) := by decide +kernel
theorem dX8_does_108 : decode cX8_does 108 = .ok (.goto 7, 3) := by decide +kernel
theorem dX8_does_111 : decode cX8_does 111 = .ok (.aload_n 0, 1) := by decide +kernel
theorem dX8_does_112 : decode cX8_does 112 = .ok (.getfield 279, 3) := by decide +kernel
theorem dX8_does_115 : decode cX8_does 115 = .ok (.putfield 279, 3) := by decide +kernel
theorem dX8_does_118 : decode cX8_does 118 = .ok (.aload_n 0, 1) := by decide +kernel
theorem dX8_does_119 : decode cX8_does 119 = .ok (.getfield 93, 3) := by decide +kernel
theorem dX8_does_122 : decode cX8_does 122 = .ok (.iload_n 1, 1) := by decide +kernel
theorem dX8_does_123 : decode cX8_does 123 = .ok (.iaload, 1) := by decide +kernel
theorem dX8_does_124 : decode cX8_does 124 = .ok (.iconst 1, 1) := by decide +kernel
theorem dX8_does_125 : decode cX8_does 125 = .ok (.if_icmp .eq 13, 3) := by decide +kernel
theorem dX8_does_128 : decode cX8_does 128 = .ok (.aload_n 0, 1) := by decide +kernel
theorem dX8_does_129 : decode cX8_does 129 = .ok (.getfield 93, 3) := by decide +kernel
theorem dX8_does_132 : decode cX8_does 132 = .ok (.iload_n 1, 1) := by decide +kernel
theorem dX8_does_133 : decode cX8_does 133 = .ok (.iaload, 1) := by decide +kernel
theorem dX8_does_134 : decode cX8_does 134 = .ok (.iconst 5, 1) := by decide +kernel
theorem dX8_does_135 : decode cX8_does 135 = .ok (.if_icmp .ne 23, 3) := by decide +kernel
theorem dX8_does_138 : decode cX8_does 138 = .ok (.aload_n 0, 1) := by decide +kernel
theorem dX8_does_139 : decode cX8_does 139 = .ok (.dup, 1) := by decide +kernel
theorem dX8_does_140 : decode cX8_does 140 = .ok (.getfield 282, 3) := by decide +kernel
theorem dX8_does_143 : decode cX8_does 143 = .ok (.iload_n 2, 1) := by decide +kernel
theorem dX8_does_144 : decode cX8_does 144 = .ok (.iadd, 1) := by decide +kernel
theorem dX8_does_145 : decode cX8_does 145 = .ok (.putfield 282, 3) := by decide +kernel
theorem dX8_does_148 : decode cX8_does 148 = .ok (.aload_n 0, 1) := by decide +kernel
theorem dX8_does_149 : decode cX8_does 149 = .ok (.aload_n 0, 1) := by decide +kernel
theorem dX8_does_150 : decode cX8_does 150 = .ok (.getfield 96, 3) := by decide +kernel
theorem dX8_does_153 : decode cX8_does 153 = .ok (.iload_n 1, 1) := by decide +kernel
theorem dX8_does_154 : decode cX8_does 154 = .ok (.iaload, 1) := by decide +kernel
theorem dX8_does_155 : decode cX8_does 155 = .ok (.putfield 261, 3) := by decide +kernel
theorem dX8_does_158 : decode cX8_does 158 = .ok (.aload_n 0, 1) := by decide +kernel
theorem dX8_does_159 : decode cX8_does 159 = .ok (.getfield 93, 3) := by decide +kernel
theorem dX8_does_162 : decode cX8_does 162 = .ok (.iload_n 1, 1) := by decide +kernel
theorem dX8_does_163 : decode cX8_does 163 = .ok (.iaload, 1) := by decide +kernel
theorem dX8_does_164 : decode cX8_does 164 = .ok (.iconst 2, 1) := by decide +kernel
theorem dX8_does_165 : decode cX8_does 165 = .ok (.if_icmp .ne 73, 3) := by decide +kernel
theorem dX8_does_168 : decode cX8_does 168 = .ok (.aload_n 0, 1) := by decide +kernel
theorem dX8_does_169 : decode cX8_does 169 = .ok (.getfield 267, 3) := by decide +kernel
theorem dX8_does_172 : decode cX8_does 172 = .ok (.aload_n 0, 1) := by decide +kernel
theorem dX8_does_173 : decode cX8_does 173 = .ok (.getfield 96, 3) := by decide +kernel
theorem dX8_does_176 : decode cX8_does 176 = .ok (.iload_n 1, 1) := by decide +kernel
theorem dX8_does_177 : decode cX8_does 177 = .ok (.iaload, 1) := by decide +kernel
theorem dX8_does_178 : decode cX8_does 178 = .ok (.iadd, 1) := by decide +kernel
theorem dX8_does_179 : decode cX8_does 179 = .ok (.aload_n 0, 1) := by decide +kernel
theorem dX8_does_180 : decode cX8_does 180 = .ok (.getfield 279, 3) := by decide +kernel
theorem dX8_does_183 : decode cX8_does 183 = .ok (.aload_n 0, 1) := by decide +kernel
theorem dX8_does_184 : decode cX8_does 184 = .ok (.getfield 267, 3) := by decide +kernel
theorem dX8_does_187 : decode cX8_does 187 = .ok (.if_icmp .le 10, 3) := by decide +kernel
theorem dX8_does_190 : decode cX8_does 190 = .ok (.aload_n 0, 1) := by decide +kernel
theorem dX8_does_191 : decode cX8_does 191 = .ok (.getfield 279, 3) := by decide +kernel
theorem dX8_does_194 : decode cX8_does 194 = .ok (.goto 7, 3) := by decide +kernel
theorem dX8_does_197 : decode cX8_does 197 = .ok (.aload_n 0, 1) := by decide +kernel
theorem dX8_does_198 : decode cX8_does 198 = .ok (.getfield 267, 3) := by decide +kernel
theorem dX8_does_201 : decode cX8_does 201 = .ok (.isub, 1) := by decide +kernel
theorem dX8_does_202 : decode cX8_does 202 = .ok (.istore_n 3, 1) := by decide +kernel
theorem dX8_does_203 : decode cX8_does 203 = .ok (.iload_n 3, 1) := by decide +kernel
theorem dX8_does_204 : decode cX8_does 204 = .ok (.ifCond .ge 7, 3) := by decide +kernel
theorem dX8_does_207 : decode cX8_does 207 = .ok (.iconst 0, 1) := by decide +kernel
theorem dX8_does_208 : decode cX8_does 208 = .ok (.goto 4, 3) := by decide +kernel
theorem dX8_does_211 : decode cX8_does 211 = .ok (.iload_n 3, 1) := by decide +kernel
theorem dX8_does_212 : decode cX8_does 212 = .ok (.istore_n 3, 1) := by decide +kernel
theorem dX8_does_213 : decode cX8_does 213 = .ok (.aload_n 0, 1) := by decide +kernel
theorem dX8_does_214 : decode cX8_does 214 = .ok (.dup, 1) := by decide +kernel
theorem dX8_does_215 : decode cX8_does 215 = .ok (.getfield 285, 3) := by decide +kernel
theorem dX8_does_218 : decode cX8_does 218 = .ok (.iload_n 3, 1) := by decide +kernel
theorem dX8_does_219 : decode cX8_does 219 = .ok (.iadd, 1) := by decide +kernel
theorem dX8_does_220 : decode cX8_does 220 = .ok (.putfield 285, 3) := by decide +kernel
theorem dX8_does_223 : decode cX8_does 223 = .ok (.aload_n 0, 1) := by decide +kernel
theorem dX8_does_224 : decode cX8_does 224 = .ok (.getfield 109, 3) := by decide +kernel
theorem dX8_does_227 : decode cX8_does 227 = .ok (.aload_n 0, 1) := by decide +kernel
theorem dX8_does_228 : decode cX8_does 228 = .ok (.getfield 99, 3) := by decide +kernel
theorem dX8_does_231 : decode cX8_does 231 = .ok (.iload_n 1, 1) := by decide +kernel
theorem dX8_does_232 : decode cX8_does 232 = .ok (.iaload, 1) := by decide +kernel
theorem dX8_does_233 : decode cX8_does 233 = .ok (.dup2, 1) := by decide +kernel
theorem dX8_does_234 : decode cX8_does 234 = .ok (.iaload, 1) := by decide +kernel
theorem dX8_does_235 : decode cX8_does 235 = .ok (.iload_n 3, 1) := by decide +kernel
theorem dX8_does_236 : decode cX8_does 236 = .ok (.iadd, 1) := by decide +kernel
theorem dX8_does_237 : decode cX8_does 237 = .ok (.iastore, 1) := by decide +kernel
theorem dX8_does_238 : decode cX8_does 238 = .ok (.aload_n 0, 1) := by decide +kernel
theorem dX8_does_239 : decode cX8_does 239 = .ok (.dup, 1) := by decide +kernel
theorem dX8_does_240 : decode cX8_does 240 = .ok (.getfield 267, 3) := by decide +kernel
theorem dX8_does_243 : decode cX8_does 243 = .ok (.iload_n 2, 1) := by decide +kernel
theorem dX8_does_244 : decode cX8_does 244 = .ok (.iadd, 1) := by decide +kernel
theorem dX8_does_245 : decode cX8_does 245 = .ok (.putfield 267, 3) := by decide +kernel
theorem dX8_does_248 : decode cX8_does 248 = .ok (.iload_n 1, 1) := by decide +kernel
theorem dX8_does_249 : decode cX8_does 249 = .ok (.iconst 1, 1) := by decide +kernel
theorem dX8_does_250 : decode cX8_does 250 = .ok (.iadd, 1) := by decide +kernel
theorem dX8_does_251 : decode cX8_does 251 = .ok (.ireturn, 1) := by decide +kernel
theorem dX8_night_0 : decode cX8_night 0 = .ok (.iload_n 1, 1) := by decide +kernel
theorem dX8_night_1 : decode cX8_night 1 = .ok (.i2l, 1) := by decide +kernel
theorem dX8_night_2 : decode cX8_night 2 = .ok (.lconst 0, 1) := by decide +kernel
theorem dX8_night_3 : decode cX8_night 3 = .ok (.ldc2_w 288, 3) := by decide +kernel
theorem dX8_night_6 : decode cX8_night 6 = .ok (.invokestatic 121, 3) := by decide +kernel
theorem dX8_night_9 : decode cX8_night 9 = .ok (.ifCond .ne 6, 3) := by decide +kernel
theorem dX8_night_12 : decode cX8_night 12 = .ok (.bipush (-2), 2) := by decide +kernel
theorem dX8_night_14 : decode cX8_night 14 = .ok (.ireturn, 1) := by decide +kernel
theorem dX8_night_15 : decode cX8_night 15 = .ok (.aload_n 0, 1) := by decide +kernel
theorem dX8_night_16 : decode cX8_night 16 = .ok (.iconst 0, 1) := by decide +kernel
theorem dX8_night_17 : decode cX8_night 17 = .ok (.putfield 267, 3) := by decide +kernel
theorem dX8_night_20 : decode cX8_night 20 = .ok (.aload_n 0, 1) := by decide +kernel
theorem dX8_night_21 : decode cX8_night 21 = .ok (.iconst 0, 1) := by decide +kernel
theorem dX8_night_22 : decode cX8_night 22 = .ok (.putfield 261, 3) := by decide +kernel
theorem dX8_night_25 : decode cX8_night 25 = .ok (.aload_n 0, 1) := by decide +kernel
theorem dX8_night_26 : decode cX8_night 26 = .ok (.iconst 0, 1) := by decide +kernel
theorem dX8_night_27 : decode cX8_night 27 = .ok (.putfield 285, 3) := by decide +kernel
theorem dX8_night_30 : decode cX8_night 30 = .ok (.aload_n 0, 1) := by decide +kernel
theorem dX8_night_31 : decode cX8_night 31 = .ok (.iconst 0, 1) := by decide +kernel
theorem dX8_night_32 : decode cX8_night 32 = .ok (.putfield 276, 3) := by decide +kernel
theorem dX8_night_35 : decode cX8_night 35 = .ok (.aload_n 0, 1) := by decide +kernel
theorem dX8_night_36 : decode cX8_night 36 = .ok (.iconst (-1), 1) := by decide +kernel
theorem dX8_night_37 : decode cX8_night 37 = .ok (.putfield 105, 3) := by decide +kernel
theorem dX8_night_40 : decode cX8_night 40 = .ok (.aload_n 0, 1) := by decide +kernel
theorem dX8_night_41 : decode cX8_night 41 = .ok (.iconst 0, 1) := by decide +kernel
theorem dX8_night_42 : decode cX8_night 42 = .ok (.putfield 282, 3) := by decide +kernel
theorem dX8_night_45 : decode cX8_night 45 = .ok (.aload_n 0, 1) := by decide +kernel
theorem dX8_night_46 : decode cX8_night 46 = .ok (.iconst 0, 1) := by decide +kernel
theorem dX8_night_47 : decode cX8_night 47 = .ok (.putfield 279, 3) := by decide +kernel
theorem dX8_night_50 : decode cX8_night 50 = .ok (.iconst 0, 1) := by decide +kernel
theorem dX8_night_51 : decode cX8_night 51 = .ok (.istore_n 2, 1) := by decide +kernel
theorem dX8_night_52 : decode cX8_night 52 = .ok (.iload_n 2, 1) := by decide +kernel
theorem dX8_night_53 : decode cX8_night 53 = .ok (.bipush 8, 2) := by decide +kernel
theorem dX8_night_55 : decode cX8_night 55 = .ok (.if_icmp .ge 16, 3) := by decide +kernel
theorem dX8_night_58 : decode cX8_night 58 = .ok (.aload_n 0, 1) := by decide +kernel
theorem dX8_night_59 : decode cX8_night 59 = .ok (.getfield 109, 3) := by decide +kernel
theorem dX8_night_62 : decode cX8_night 62 = .ok (.iload_n 2, 1) := by decide +kernel
theorem dX8_night_63 : decode cX8_night 63 = .ok (.iconst 0, 1) := by decide +kernel
theorem dX8_night_64 : decode cX8_night 64 = .ok (.iastore, 1) := by decide +kernel
theorem dX8_night_65 : decode cX8_night 65 = .ok (.iinc 2 1, 3) := by decide +kernel
theorem dX8_night_68 : decode cX8_night 68 = .ok (.goto (-16), 3) := by decide +kernel
theorem dX8_night_71 : decode cX8_night 71 = .ok (.iconst 0, 1) := by decide +kernel
theorem dX8_night_72 : decode cX8_night 72 = .ok (.istore_n 2, 1) := by decide +kernel
theorem dX8_night_73 : decode cX8_night 73 = .ok (.iload_n 2, 1) := by decide +kernel
theorem dX8_night_74 : decode cX8_night 74 = .ok (.aload_n 0, 1) := by decide +kernel
theorem dX8_night_75 : decode cX8_night 75 = .ok (.getfield 254, 3) := by decide +kernel
theorem dX8_night_78 : decode cX8_night 78 = .ok (.if_icmp .ge 21, 3) := by decide +kernel
theorem dX8_night_81 : decode cX8_night 81 = .ok (.aload_n 0, 1) := by decide +kernel
theorem dX8_night_82 : decode cX8_night 82 = .ok (.getfield 102, 3) := by decide +kernel
theorem dX8_night_85 : decode cX8_night 85 = .ok (.iload_n 2, 1) := by decide +kernel
theorem dX8_night_86 : decode cX8_night 86 = .ok (.aload_n 0, 1) := by decide +kernel
theorem dX8_night_87 : decode cX8_night 87 = .ok (.getfield 99, 3) := by decide +kernel
theorem dX8_night_90 : decode cX8_night 90 = .ok (.iload_n 2, 1) := by decide +kernel
theorem dX8_night_91 : decode cX8_night 91 = .ok (.iaload, 1) := by decide +kernel
theorem dX8_night_92 : decode cX8_night 92 = .ok (.iastore, 1) := by decide +kernel
theorem dX8_night_93 : decode cX8_night 93 = .ok (.iinc 2 1, 3) := by decide +kernel
theorem dX8_night_96 : decode cX8_night 96 = .ok (.goto (-23), 3) := by decide +kernel
theorem dX8_night_99 : decode cX8_night 99 = .ok (.iconst 0, 1) := by decide +kernel
theorem dX8_night_100 : decode cX8_night 100 = .ok (.istore_n 2, 1) := by decide +kernel
theorem dX8_night_101 : decode cX8_night 101 = .ok (.iload_n 2, 1) := by decide +kernel
theorem dX8_night_102 : decode cX8_night 102 = .ok (.aload_n 0, 1) := by decide +kernel
theorem dX8_night_103 : decode cX8_night 103 = .ok (.getfield 254, 3) := by decide +kernel
theorem dX8_night_106 : decode cX8_night 106 = .ok (.if_icmp .ge 65, 3) := by decide +kernel
theorem dX8_night_109 : decode cX8_night 109 = .ok (.aload_n 0, 1) := by decide +kernel
theorem dX8_night_110 : decode cX8_night 110 = .ok (.iload_n 2, 1) := by decide +kernel
theorem dX8_night_111 : decode cX8_night 111 = .ok (.putfield 105, 3) := by decide +kernel
theorem dX8_night_114 : decode cX8_night 114 = .ok (.aload_n 0, 1) := by decide +kernel
theorem dX8_night_115 : decode cX8_night 115 = .ok (.getfield 276, 3) := by decide +kernel
theorem dX8_night_118 : decode cX8_night 118 = .ok (.sipush 2000, 3) := by decide +kernel
theorem dX8_night_121 : decode cX8_night 121 = .ok (.if_icmp .ne 5, 3) := by decide +kernel
theorem dX8_night_124 : decode cX8_night 124 = .ok (.iconst 3, 1) := by decide +kernel
theorem dX8_night_125 : decode cX8_night 125 = .ok (.ireturn, 1) := by decide +kernel
theorem dX8_night_126 : decode cX8_night 126 = .ok (.aload_n 0, 1) := by decide +kernel
theorem dX8_night_127 : decode cX8_night 127 = .ok (.getfield 267, 3) := by decide +kernel
theorem dX8_night_130 : decode cX8_night 130 = .ok (.aload_n 0, 1) := by decide +kernel
theorem dX8_night_131 : decode cX8_night 131 = .ok (.iload_n 2, 1) := by decide +kernel
theorem dX8_night_132 : decode cX8_night 132 = .ok (.invokevirtual 273, 3) := by decide +kernel
theorem dX8_night_135 : decode cX8_night 135 = .ok (.iadd, 1) := by decide +kernel
theorem dX8_night_136 : decode cX8_night 136 = .ok (.iload_n 1, 1) := by decide +kernel
theorem dX8_night_137 : decode cX8_night 137 = .ok (.if_icmp .le 5, 3) := by decide +kernel
theorem dX8_night_140 : decode cX8_night 140 = .ok (.iconst 2, 1) := by decide +kernel
theorem dX8_night_141 : decode cX8_night 141 = .ok (.ireturn, 1) := by decide +kernel
theorem dX8_night_142 : decode cX8_night 142 = .ok (.aload_n 0, 1) := by decide +kernel
theorem dX8_night_143 : decode cX8_night 143 = .ok (.getfield 93, 3) := by decide +kernel
theorem dX8_night_146 : decode cX8_night 146 = .ok (.iload_n 2, 1) := by decide +kernel
theorem dX8_night_147 : decode cX8_night 147 = .ok (.iaload, 1) := by decide +kernel
theorem dX8_night_148 : decode cX8_night 148 = .ok (.iconst 2, 1) := by decide +kernel
theorem dX8_night_149 : decode cX8_night 149 = .ok (.if_icmp .ne 13, 3) := by decide +kernel
theorem dX8_night_152 : decode cX8_night 152 = .ok (.aload_n 0, 1) := by decide +kernel
theorem dX8_night_153 : decode cX8_night 153 = .ok (.iload_n 2, 1) := by decide +kernel
theorem dX8_night_154 : decode cX8_night 154 = .ok (.invokevirtual 290, 3) := by decide +kernel
theorem dX8_night_157 : decode cX8_night 157 = .ok (.ifCond .ne 5, 3) := by decide +kernel
theorem dX8_night_160 : decode cX8_night 160 = .ok (.iconst 1, 1) := by decide +kernel
theorem dX8_night_161 : decode cX8_night 161 = .ok (.ireturn, 1) := by decide +kernel
theorem dX8_night_162 : decode cX8_night 162 = .ok (.aload_n 0, 1) := by decide +kernel
theorem dX8_night_163 : decode cX8_night 163 = .ok (.iload_n 2, 1) := by decide +kernel
theorem dX8_night_164 : decode cX8_night 164 = .ok (.invokevirtual 293, 3) := by decide +kernel
theorem dX8_night_167 : decode cX8_night 167 = .ok (.istore_n 2, 1) := by decide +kernel
theorem dX8_night_168 : decode cX8_night 168 = .ok (.goto (-67), 3) := by decide +kernel
theorem dX8_night_171 : decode cX8_night 171 = .ok (.aload_n 0, 1) := by decide +kernel
theorem dX8_night_172 : decode cX8_night 172 = .ok (.iconst (-1), 1) := by decide +kernel
theorem dX8_night_173 : decode cX8_night 173 = .ok (.putfield 105, 3) := by decide +kernel
theorem dX8_night_176 : decode cX8_night 176 = .ok (.iconst 0, 1) := by decide +kernel
theorem dX8_night_177 : decode cX8_night 177 = .ok (.ireturn, 1) := by decide +kernel
theorem dX8_told_0 : decode cX8_told 0 = .ok (.iload_n 1, 1) := by decide +kernel
theorem dX8_told_1 : decode cX8_told 1 = .ok (.i2l, 1) := by decide +kernel
theorem dX8_told_2 : decode cX8_told 2 = .ok (.ldc2_w 296, 3) := by decide +kernel
theorem dX8_told_5 : decode cX8_told 5 = .ok (.ldc2_w 298, 3) := by decide +kernel
theorem dX8_told_8 : decode cX8_told 8 = .ok (.invokestatic 121, 3) := by decide +kernel
theorem dX8_told_11 : decode cX8_told 11 = .ok (.ifCond .eq 13, 3) := by decide +kernel
theorem dX8_told_14 : decode cX8_told 14 = .ok (.aload_n 0, 1) := by decide +kernel
theorem dX8_told_15 : decode cX8_told 15 = .ok (.getfield 109, 3) := by decide +kernel
theorem dX8_told_18 : decode cX8_told 18 = .ok (.iload_n 1, 1) := by decide +kernel
theorem dX8_told_19 : decode cX8_told 19 = .ok (.bipush 10, 2) := by decide +kernel
theorem dX8_told_21 : decode cX8_told 21 = .ok (.isub, 1) := by decide +kernel
theorem dX8_told_22 : decode cX8_told 22 = .ok (.iaload, 1) := by decide +kernel
theorem dX8_told_23 : decode cX8_told 23 = .ok (.ireturn, 1) := by decide +kernel
theorem dX8_told_24 : decode cX8_told 24 = .ok (.iload_n 1, 1) := by decide +kernel
theorem dX8_told_25 : decode cX8_told 25 = .ok (.tableswitch 69 0 5 #[39, 44, 49, 54, 59, 64], 39) := by decide +kernel
theorem dX8_told_64 : decode cX8_told 64 = .ok (.aload_n 0, 1) := by decide +kernel
theorem dX8_told_65 : decode cX8_told 65 = .ok (.getfield 267, 3) := by decide +kernel
theorem dX8_told_68 : decode cX8_told 68 = .ok (.ireturn, 1) := by decide +kernel
theorem dX8_told_69 : decode cX8_told 69 = .ok (.aload_n 0, 1) := by decide +kernel
theorem dX8_told_70 : decode cX8_told 70 = .ok (.getfield 261, 3) := by decide +kernel
theorem dX8_told_73 : decode cX8_told 73 = .ok (.ireturn, 1) := by decide +kernel
theorem dX8_told_74 : decode cX8_told 74 = .ok (.aload_n 0, 1) := by decide +kernel
theorem dX8_told_75 : decode cX8_told 75 = .ok (.getfield 285, 3) := by decide +kernel
theorem dX8_told_78 : decode cX8_told 78 = .ok (.ireturn, 1) := by decide +kernel
theorem dX8_told_79 : decode cX8_told 79 = .ok (.aload_n 0, 1) := by decide +kernel
theorem dX8_told_80 : decode cX8_told 80 = .ok (.getfield 276, 3) := by decide +kernel
theorem dX8_told_83 : decode cX8_told 83 = .ok (.ireturn, 1) := by decide +kernel
theorem dX8_told_84 : decode cX8_told 84 = .ok (.aload_n 0, 1) := by decide +kernel
theorem dX8_told_85 : decode cX8_told 85 = .ok (.getfield 105, 3) := by decide +kernel
theorem dX8_told_88 : decode cX8_told 88 = .ok (.ireturn, 1) := by decide +kernel
theorem dX8_told_89 : decode cX8_told 89 = .ok (.aload_n 0, 1) := by decide +kernel
theorem dX8_told_90 : decode cX8_told 90 = .ok (.getfield 282, 3) := by decide +kernel
theorem dX8_told_93 : decode cX8_told 93 = .ok (.ireturn, 1) := by decide +kernel
theorem dX8_told_94 : decode cX8_told 94 = .ok (.bipush (-2), 2) := by decide +kernel
theorem dX8_told_96 : decode cX8_told 96 = .ok (.ireturn, 1) := by decide +kernel
theorem dX8_count_0 : decode cX8_count 0 = .ok (.iload_n 1, 1) := by decide +kernel
theorem dX8_count_1 : decode cX8_count 1 = .ok (.tableswitch 78 0 6 #[43, 48, 53, 58, 63, 68, 73], 43) := by decide +kernel
theorem dX8_count_44 : decode cX8_count 44 = .ok (.aload_n 0, 1) := by decide +kernel
theorem dX8_count_45 : decode cX8_count 45 = .ok (.getfield 118, 3) := by decide +kernel
theorem dX8_count_48 : decode cX8_count 48 = .ok (.ireturn, 1) := by decide +kernel
theorem dX8_count_49 : decode cX8_count 49 = .ok (.aload_n 0, 1) := by decide +kernel
theorem dX8_count_50 : decode cX8_count 50 = .ok (.getfield 150, 3) := by decide +kernel
theorem dX8_count_53 : decode cX8_count 53 = .ok (.ireturn, 1) := by decide +kernel
theorem dX8_count_54 : decode cX8_count 54 = .ok (.aload_n 0, 1) := by decide +kernel
theorem dX8_count_55 : decode cX8_count 55 = .ok (.getfield 218, 3) := by decide +kernel
theorem dX8_count_58 : decode cX8_count 58 = .ok (.ireturn, 1) := by decide +kernel
theorem dX8_count_59 : decode cX8_count 59 = .ok (.aload_n 0, 1) := by decide +kernel
theorem dX8_count_60 : decode cX8_count 60 = .ok (.getfield 225, 3) := by decide +kernel
theorem dX8_count_63 : decode cX8_count 63 = .ok (.ireturn, 1) := by decide +kernel
theorem dX8_count_64 : decode cX8_count 64 = .ok (.aload_n 0, 1) := by decide +kernel
theorem dX8_count_65 : decode cX8_count 65 = .ok (.getfield 254, 3) := by decide +kernel
theorem dX8_count_68 : decode cX8_count 68 = .ok (.ireturn, 1) := by decide +kernel
theorem dX8_count_69 : decode cX8_count 69 = .ok (.aload_n 0, 1) := by decide +kernel
theorem dX8_count_70 : decode cX8_count 70 = .ok (.invokevirtual 228, 3) := by decide +kernel
theorem dX8_count_73 : decode cX8_count 73 = .ok (.ireturn, 1) := by decide +kernel
theorem dX8_count_74 : decode cX8_count 74 = .ok (.aload_n 0, 1) := by decide +kernel
theorem dX8_count_75 : decode cX8_count 75 = .ok (.getfield 115, 3) := by decide +kernel
theorem dX8_count_78 : decode cX8_count 78 = .ok (.ireturn, 1) := by decide +kernel
theorem dX8_count_79 : decode cX8_count 79 = .ok (.bipush (-2), 2) := by decide +kernel
theorem dX8_count_81 : decode cX8_count 81 = .ok (.ireturn, 1) := by decide +kernel
theorem dX8_digest_0 : decode cX8_digest 0 = .ok (.ldc2_w 298, 3) := by decide +kernel
theorem dX8_digest_3 : decode cX8_digest 3 = .ok (.lstore_n 1, 1) := by decide +kernel
theorem dX8_digest_4 : decode cX8_digest 4 = .ok (.iconst 0, 1) := by decide +kernel
theorem dX8_digest_5 : decode cX8_digest 5 = .ok (.istore_n 3, 1) := by decide +kernel
theorem dX8_digest_6 : decode cX8_digest 6 = .ok (.iload_n 3, 1) := by decide +kernel
theorem dX8_digest_7 : decode cX8_digest 7 = .ok (.bipush 6, 2) := by decide +kernel
theorem dX8_digest_9 : decode cX8_digest 9 = .ok (.if_icmp .ge 22, 3) := by decide +kernel
theorem dX8_digest_12 : decode cX8_digest 12 = .ok (.ldc2_w 300, 3) := by decide +kernel
theorem dX8_digest_15 : decode cX8_digest 15 = .ok (.lload_n 1, 1) := by decide +kernel
theorem dX8_digest_16 : decode cX8_digest 16 = .ok (.lmul, 1) := by decide +kernel
theorem dX8_digest_17 : decode cX8_digest 17 = .ok (.aload_n 0, 1) := by decide +kernel
theorem dX8_digest_18 : decode cX8_digest 18 = .ok (.iload_n 3, 1) := by decide +kernel
theorem dX8_digest_19 : decode cX8_digest 19 = .ok (.invokevirtual 302, 3) := by decide +kernel
theorem dX8_digest_22 : decode cX8_digest 22 = .ok (.i2l, 1) := by decide +kernel
theorem dX8_digest_23 : decode cX8_digest 23 = .ok (.ladd, 1) := by decide +kernel
theorem dX8_digest_24 : decode cX8_digest 24 = .ok (.lstore_n 1, 1) := by decide +kernel
theorem dX8_digest_25 : decode cX8_digest 25 = .ok (.iinc 3 1, 3) := by decide +kernel
theorem dX8_digest_28 : decode cX8_digest 28 = .ok (.goto (-22), 3) := by decide +kernel
theorem dX8_digest_31 : decode cX8_digest 31 = .ok (.iconst 0, 1) := by decide +kernel
theorem dX8_digest_32 : decode cX8_digest 32 = .ok (.istore_n 3, 1) := by decide +kernel
theorem dX8_digest_33 : decode cX8_digest 33 = .ok (.iload_n 3, 1) := by decide +kernel
theorem dX8_digest_34 : decode cX8_digest 34 = .ok (.aload_n 0, 1) := by decide +kernel
theorem dX8_digest_35 : decode cX8_digest 35 = .ok (.getfield 118, 3) := by decide +kernel
theorem dX8_digest_38 : decode cX8_digest 38 = .ok (.if_icmp .ge 58, 3) := by decide +kernel
theorem dX8_digest_41 : decode cX8_digest 41 = .ok (.iload_n 3, 1) := by decide +kernel
theorem dX8_digest_42 : decode cX8_digest 42 = .ok (.iconst 1, 1) := by decide +kernel
theorem dX8_digest_43 : decode cX8_digest 43 = .ok (.iadd, 1) := by decide +kernel
theorem dX8_digest_44 : decode cX8_digest 44 = .ok (.istore 4, 2) := by decide +kernel
theorem dX8_digest_46 : decode cX8_digest 46 = .ok (.iload 4, 2) := by decide +kernel
theorem dX8_digest_48 : decode cX8_digest 48 = .ok (.aload_n 0, 1) := by decide +kernel
theorem dX8_digest_49 : decode cX8_digest 49 = .ok (.getfield 118, 3) := by decide +kernel
theorem dX8_digest_52 : decode cX8_digest 52 = .ok (.if_icmp .ge 38, 3) := by decide +kernel
theorem dX8_digest_55 : decode cX8_digest 55 = .ok (.ldc2_w 300, 3) := by decide +kernel
theorem dX8_digest_58 : decode cX8_digest 58 = .ok (.lload_n 1, 1) := by decide +kernel
theorem dX8_digest_59 : decode cX8_digest 59 = .ok (.lmul, 1) := by decide +kernel
theorem dX8_digest_60 : decode cX8_digest 60 = .ok (.aload_n 0, 1) := by decide +kernel
theorem dX8_digest_61 : decode cX8_digest 61 = .ok (.iload_n 3, 1) := by decide +kernel
theorem dX8_digest_62 : decode cX8_digest 62 = .ok (.iload 4, 2) := by decide +kernel
theorem dX8_digest_64 : decode cX8_digest 64 = .ok (.invokevirtual 305, 3) := by decide +kernel
theorem dX8_digest_67 : decode cX8_digest 67 = .ok (.i2l, 1) := by decide +kernel
theorem dX8_digest_68 : decode cX8_digest 68 = .ok (.ladd, 1) := by decide +kernel
theorem dX8_digest_69 : decode cX8_digest 69 = .ok (.lstore_n 1, 1) := by decide +kernel
theorem dX8_digest_70 : decode cX8_digest 70 = .ok (.ldc2_w 300, 3) := by decide +kernel
theorem dX8_digest_73 : decode cX8_digest 73 = .ok (.lload_n 1, 1) := by decide +kernel
theorem dX8_digest_74 : decode cX8_digest 74 = .ok (.lmul, 1) := by decide +kernel
theorem dX8_digest_75 : decode cX8_digest 75 = .ok (.aload_n 0, 1) := by decide +kernel
theorem dX8_digest_76 : decode cX8_digest 76 = .ok (.iload_n 3, 1) := by decide +kernel
theorem dX8_digest_77 : decode cX8_digest 77 = .ok (.iload 4, 2) := by decide +kernel
theorem dX8_digest_79 : decode cX8_digest 79 = .ok (.invokevirtual 308, 3) := by decide +kernel
theorem dX8_digest_82 : decode cX8_digest 82 = .ok (.ladd, 1) := by decide +kernel
theorem dX8_digest_83 : decode cX8_digest 83 = .ok (.lstore_n 1, 1) := by decide +kernel
theorem dX8_digest_84 : decode cX8_digest 84 = .ok (.iinc 4 1, 3) := by decide +kernel
theorem dX8_digest_87 : decode cX8_digest 87 = .ok (.goto (-41), 3) := by decide +kernel
theorem dX8_digest_90 : decode cX8_digest 90 = .ok (.iinc 3 1, 3) := by decide +kernel
theorem dX8_digest_93 : decode cX8_digest 93 = .ok (.goto (-60), 3) := by decide +kernel
theorem dX8_digest_96 : decode cX8_digest 96 = .ok (.iconst 0, 1) := by decide +kernel
theorem dX8_digest_97 : decode cX8_digest 97 = .ok (.istore_n 3, 1) := by decide +kernel
theorem dX8_digest_98 : decode cX8_digest 98 = .ok (.iload_n 3, 1) := by decide +kernel
theorem dX8_digest_99 : decode cX8_digest 99 = .ok (.sipush 256, 3) := by decide +kernel
theorem dX8_digest_102 : decode cX8_digest 102 = .ok (.if_icmp .ge 22, 3) := by decide +kernel
theorem dX8_digest_105 : decode cX8_digest 105 = .ok (.ldc2_w 300, 3) := by decide +kernel
theorem dX8_digest_108 : decode cX8_digest 108 = .ok (.lload_n 1, 1) := by decide +kernel
theorem dX8_digest_109 : decode cX8_digest 109 = .ok (.lmul, 1) := by decide +kernel
theorem dX8_digest_110 : decode cX8_digest 110 = .ok (.aload_n 0, 1) := by decide +kernel
theorem dX8_digest_111 : decode cX8_digest 111 = .ok (.getfield 50, 3) := by decide +kernel
theorem dX8_digest_114 : decode cX8_digest 114 = .ok (.iload_n 3, 1) := by decide +kernel
theorem dX8_digest_115 : decode cX8_digest 115 = .ok (.laload, 1) := by decide +kernel
theorem dX8_digest_116 : decode cX8_digest 116 = .ok (.ladd, 1) := by decide +kernel
theorem dX8_digest_117 : decode cX8_digest 117 = .ok (.lstore_n 1, 1) := by decide +kernel
theorem dX8_digest_118 : decode cX8_digest 118 = .ok (.iinc 3 1, 3) := by decide +kernel
theorem dX8_digest_121 : decode cX8_digest 121 = .ok (.goto (-23), 3) := by decide +kernel
theorem dX8_digest_124 : decode cX8_digest 124 = .ok (.lload_n 1, 1) := by decide +kernel
theorem dX8_digest_125 : decode cX8_digest 125 = .ok (.lreturn, 1) := by decide +kernel
end
section
theorem dL_law_0 : decode cL_law 0 = .ok (.new 7, 3) := by decide +kernel
theorem dL_law_3 : decode cL_law 3 = .ok (.dup, 1) := by decide +kernel
theorem dL_law_4 : decode cL_law 4 = .ok (.invokespecial 9, 3) := by decide +kernel
theorem dL_law_7 : decode cL_law 7 = .ok (.astore_n 1, 1) := by decide +kernel
theorem dL_law_8 : decode cL_law 8 = .ok (.new 10, 3) := by decide +kernel
theorem dL_law_11 : decode cL_law 11 = .ok (.dup, 1) := by decide +kernel
theorem dL_law_12 : decode cL_law 12 = .ok (.invokespecial 12, 3) := by decide +kernel
theorem dL_law_15 : decode cL_law 15 = .ok (.astore_n 2, 1) := by decide +kernel
theorem dL_law_16 : decode cL_law 16 = .ok (.iconst 0, 1) := by decide +kernel
theorem dL_law_17 : decode cL_law 17 = .ok (.istore_n 3, 1) := by decide +kernel
theorem dL_law_18 : decode cL_law 18 = .ok (.iload_n 3, 1) := by decide +kernel
theorem dL_law_19 : decode cL_law 19 = .ok (.aload_n 0, 1) := by decide +kernel
theorem dL_law_20 : decode cL_law 20 = .ok (.arraylength, 1) := by decide +kernel
theorem dL_law_21 : decode cL_law 21 = .ok (.bipush 6, 2) := by decide +kernel
theorem dL_law_23 : decode cL_law 23 = .ok (.isub, 1) := by decide +kernel
theorem dL_law_24 : decode cL_law 24 = .ok (.if_icmp .gt 1181, 3) := by decide +kernel
theorem dL_law_27 : decode cL_law 27 = .ok (.aload_n 0, 1) := by decide +kernel
theorem dL_law_28 : decode cL_law 28 = .ok (.iload_n 3, 1) := by decide +kernel
theorem dL_law_29 : decode cL_law 29 = .ok (.iaload, 1) := by decide +kernel
theorem dL_law_30 : decode cL_law 30 = .ok (.bipush 31, 2) := by decide +kernel
theorem dL_law_32 : decode cL_law 32 = .ok (.iand, 1) := by decide +kernel
theorem dL_law_33 : decode cL_law 33 = .ok (.tableswitch 1166 0 30 #[139, 172, 215, 258, 281, 334, 377, 440, 483, 496, 529, 563, 596, 639, 692, 725, 768, 781, 804, 838, 891, 904, 937, 971, 984, 1027, 1070, 1083, 1106, 1129, 1152], 139) := by decide +kernel
theorem dL_law_172 : decode cL_law 172 = .ok (.aload_n 1, 1) := by decide +kernel
theorem dL_law_173 : decode cL_law 173 = .ok (.aload_n 0, 1) := by decide +kernel
theorem dL_law_174 : decode cL_law 174 = .ok (.iload_n 3, 1) := by decide +kernel
theorem dL_law_175 : decode cL_law 175 = .ok (.iconst 1, 1) := by decide +kernel
theorem dL_law_176 : decode cL_law 176 = .ok (.iadd, 1) := by decide +kernel
theorem dL_law_177 : decode cL_law 177 = .ok (.iaload, 1) := by decide +kernel
theorem dL_law_178 : decode cL_law 178 = .ok (.aload_n 0, 1) := by decide +kernel
theorem dL_law_179 : decode cL_law 179 = .ok (.iload_n 3, 1) := by decide +kernel
theorem dL_law_180 : decode cL_law 180 = .ok (.iconst 2, 1) := by decide +kernel
theorem dL_law_181 : decode cL_law 181 = .ok (.iadd, 1) := by decide +kernel
theorem dL_law_182 : decode cL_law 182 = .ok (.iaload, 1) := by decide +kernel
theorem dL_law_183 : decode cL_law 183 = .ok (.invokevirtual 13, 3) := by decide +kernel
theorem dL_law_186 : decode cL_law 186 = .ok (.aload_n 2, 1) := by decide +kernel
theorem dL_law_187 : decode cL_law 187 = .ok (.aload_n 0, 1) := by decide +kernel
theorem dL_law_188 : decode cL_law 188 = .ok (.iload_n 3, 1) := by decide +kernel
theorem dL_law_189 : decode cL_law 189 = .ok (.iconst 1, 1) := by decide +kernel
theorem dL_law_190 : decode cL_law 190 = .ok (.iadd, 1) := by decide +kernel
theorem dL_law_191 : decode cL_law 191 = .ok (.iaload, 1) := by decide +kernel
theorem dL_law_192 : decode cL_law 192 = .ok (.aload_n 0, 1) := by decide +kernel
theorem dL_law_193 : decode cL_law 193 = .ok (.iload_n 3, 1) := by decide +kernel
theorem dL_law_194 : decode cL_law 194 = .ok (.iconst 2, 1) := by decide +kernel
theorem dL_law_195 : decode cL_law 195 = .ok (.iadd, 1) := by decide +kernel
theorem dL_law_196 : decode cL_law 196 = .ok (.iaload, 1) := by decide +kernel
theorem dL_law_197 : decode cL_law 197 = .ok (.invokevirtual 17, 3) := by decide +kernel
theorem dL_law_200 : decode cL_law 200 = .ok (.if_icmp .eq 999, 3) := by decide +kernel
theorem dL_law_203 : decode cL_law 203 = .ok (.iconst 0, 1) := by decide +kernel
theorem dL_law_204 : decode cL_law 204 = .ok (.ireturn, 1) := by decide +kernel
theorem dL_law_205 : decode cL_law 205 = .ok (.aload_n 1, 1) := by decide +kernel
theorem dL_law_206 : decode cL_law 206 = .ok (.aload_n 0, 1) := by decide +kernel
theorem dL_law_207 : decode cL_law 207 = .ok (.iload_n 3, 1) := by decide +kernel
theorem dL_law_208 : decode cL_law 208 = .ok (.iconst 1, 1) := by decide +kernel
theorem dL_law_209 : decode cL_law 209 = .ok (.iadd, 1) := by decide +kernel
theorem dL_law_210 : decode cL_law 210 = .ok (.iaload, 1) := by decide +kernel
theorem dL_law_211 : decode cL_law 211 = .ok (.aload_n 0, 1) := by decide +kernel
theorem dL_law_212 : decode cL_law 212 = .ok (.iload_n 3, 1) := by decide +kernel
theorem dL_law_213 : decode cL_law 213 = .ok (.iconst 2, 1) := by decide +kernel
theorem dL_law_214 : decode cL_law 214 = .ok (.iadd, 1) := by decide +kernel
theorem dL_law_215 : decode cL_law 215 = .ok (.iaload, 1) := by decide +kernel
theorem dL_law_216 : decode cL_law 216 = .ok (.aload_n 0, 1) := by decide +kernel
theorem dL_law_217 : decode cL_law 217 = .ok (.iload_n 3, 1) := by decide +kernel
theorem dL_law_218 : decode cL_law 218 = .ok (.iconst 3, 1) := by decide +kernel
theorem dL_law_219 : decode cL_law 219 = .ok (.iadd, 1) := by decide +kernel
theorem dL_law_220 : decode cL_law 220 = .ok (.iaload, 1) := by decide +kernel
theorem dL_law_221 : decode cL_law 221 = .ok (.invokevirtual 18, 3) := by decide +kernel
theorem dL_law_224 : decode cL_law 224 = .ok (.aload_n 2, 1) := by decide +kernel
theorem dL_law_225 : decode cL_law 225 = .ok (.aload_n 0, 1) := by decide +kernel
theorem dL_law_226 : decode cL_law 226 = .ok (.iload_n 3, 1) := by decide +kernel
theorem dL_law_227 : decode cL_law 227 = .ok (.iconst 1, 1) := by decide +kernel
theorem dL_law_228 : decode cL_law 228 = .ok (.iadd, 1) := by decide +kernel
theorem dL_law_229 : decode cL_law 229 = .ok (.iaload, 1) := by decide +kernel
theorem dL_law_230 : decode cL_law 230 = .ok (.aload_n 0, 1) := by decide +kernel
theorem dL_law_231 : decode cL_law 231 = .ok (.iload_n 3, 1) := by decide +kernel
theorem dL_law_232 : decode cL_law 232 = .ok (.iconst 2, 1) := by decide +kernel
theorem dL_law_233 : decode cL_law 233 = .ok (.iadd, 1) := by decide +kernel
theorem dL_law_234 : decode cL_law 234 = .ok (.iaload, 1) := by decide +kernel
theorem dL_law_235 : decode cL_law 235 = .ok (.aload_n 0, 1) := by decide +kernel
theorem dL_law_236 : decode cL_law 236 = .ok (.iload_n 3, 1) := by decide +kernel
theorem dL_law_237 : decode cL_law 237 = .ok (.iconst 3, 1) := by decide +kernel
theorem dL_law_238 : decode cL_law 238 = .ok (.iadd, 1) := by decide +kernel
theorem dL_law_239 : decode cL_law 239 = .ok (.iaload, 1) := by decide +kernel
theorem dL_law_240 : decode cL_law 240 = .ok (.invokevirtual 22, 3) := by decide +kernel
theorem dL_law_243 : decode cL_law 243 = .ok (.if_icmp .eq 956, 3) := by decide +kernel
theorem dL_law_246 : decode cL_law 246 = .ok (.iconst 0, 1) := by decide +kernel
theorem dL_law_247 : decode cL_law 247 = .ok (.ireturn, 1) := by decide +kernel
theorem dL_law_248 : decode cL_law 248 = .ok (.aload_n 1, 1) := by decide +kernel
theorem dL_law_249 : decode cL_law 249 = .ok (.aload_n 0, 1) := by decide +kernel
theorem dL_law_250 : decode cL_law 250 = .ok (.iload_n 3, 1) := by decide +kernel
theorem dL_law_251 : decode cL_law 251 = .ok (.iconst 1, 1) := by decide +kernel
theorem dL_law_252 : decode cL_law 252 = .ok (.iadd, 1) := by decide +kernel
theorem dL_law_253 : decode cL_law 253 = .ok (.iaload, 1) := by decide +kernel
theorem dL_law_254 : decode cL_law 254 = .ok (.aload_n 0, 1) := by decide +kernel
theorem dL_law_255 : decode cL_law 255 = .ok (.iload_n 3, 1) := by decide +kernel
theorem dL_law_256 : decode cL_law 256 = .ok (.iconst 2, 1) := by decide +kernel
theorem dL_law_257 : decode cL_law 257 = .ok (.iadd, 1) := by decide +kernel
theorem dL_law_258 : decode cL_law 258 = .ok (.iaload, 1) := by decide +kernel
theorem dL_law_259 : decode cL_law 259 = .ok (.aload_n 0, 1) := by decide +kernel
theorem dL_law_260 : decode cL_law 260 = .ok (.iload_n 3, 1) := by decide +kernel
theorem dL_law_261 : decode cL_law 261 = .ok (.iconst 3, 1) := by decide +kernel
theorem dL_law_262 : decode cL_law 262 = .ok (.iadd, 1) := by decide +kernel
theorem dL_law_263 : decode cL_law 263 = .ok (.iaload, 1) := by decide +kernel
theorem dL_law_264 : decode cL_law 264 = .ok (.invokevirtual 23, 3) := by decide +kernel
theorem dL_law_267 : decode cL_law 267 = .ok (.aload_n 2, 1) := by decide +kernel
theorem dL_law_268 : decode cL_law 268 = .ok (.aload_n 0, 1) := by decide +kernel
theorem dL_law_269 : decode cL_law 269 = .ok (.iload_n 3, 1) := by decide +kernel
theorem dL_law_270 : decode cL_law 270 = .ok (.iconst 1, 1) := by decide +kernel
theorem dL_law_271 : decode cL_law 271 = .ok (.iadd, 1) := by decide +kernel
theorem dL_law_272 : decode cL_law 272 = .ok (.iaload, 1) := by decide +kernel
theorem dL_law_273 : decode cL_law 273 = .ok (.aload_n 0, 1) := by decide +kernel
theorem dL_law_274 : decode cL_law 274 = .ok (.iload_n 3, 1) := by decide +kernel
theorem dL_law_275 : decode cL_law 275 = .ok (.iconst 2, 1) := by decide +kernel
theorem dL_law_276 : decode cL_law 276 = .ok (.iadd, 1) := by decide +kernel
theorem dL_law_277 : decode cL_law 277 = .ok (.iaload, 1) := by decide +kernel
theorem dL_law_278 : decode cL_law 278 = .ok (.aload_n 0, 1) := by decide +kernel
theorem dL_law_279 : decode cL_law 279 = .ok (.iload_n 3, 1) := by decide +kernel
theorem dL_law_280 : decode cL_law 280 = .ok (.iconst 3, 1) := by decide +kernel
theorem dL_law_281 : decode cL_law 281 = .ok (.iadd, 1) := by decide +kernel
theorem dL_law_282 : decode cL_law 282 = .ok (.iaload, 1) := by decide +kernel
theorem dL_law_283 : decode cL_law 283 = .ok (.invokevirtual 26, 3) := by decide +kernel
theorem dL_law_286 : decode cL_law 286 = .ok (.if_icmp .eq 913, 3) := by decide +kernel
theorem dL_law_289 : decode cL_law 289 = .ok (.iconst 0, 1) := by decide +kernel
theorem dL_law_290 : decode cL_law 290 = .ok (.ireturn, 1) := by decide +kernel
theorem dL_law_291 : decode cL_law 291 = .ok (.aload_n 1, 1) := by decide +kernel
theorem dL_law_292 : decode cL_law 292 = .ok (.aload_n 0, 1) := by decide +kernel
theorem dL_law_293 : decode cL_law 293 = .ok (.iload_n 3, 1) := by decide +kernel
theorem dL_law_294 : decode cL_law 294 = .ok (.iconst 1, 1) := by decide +kernel
theorem dL_law_295 : decode cL_law 295 = .ok (.iadd, 1) := by decide +kernel
theorem dL_law_296 : decode cL_law 296 = .ok (.iaload, 1) := by decide +kernel
theorem dL_law_297 : decode cL_law 297 = .ok (.invokevirtual 27, 3) := by decide +kernel
theorem dL_law_300 : decode cL_law 300 = .ok (.aload_n 2, 1) := by decide +kernel
theorem dL_law_301 : decode cL_law 301 = .ok (.aload_n 0, 1) := by decide +kernel
theorem dL_law_302 : decode cL_law 302 = .ok (.iload_n 3, 1) := by decide +kernel
theorem dL_law_303 : decode cL_law 303 = .ok (.iconst 1, 1) := by decide +kernel
theorem dL_law_304 : decode cL_law 304 = .ok (.iadd, 1) := by decide +kernel
theorem dL_law_305 : decode cL_law 305 = .ok (.iaload, 1) := by decide +kernel
theorem dL_law_306 : decode cL_law 306 = .ok (.invokevirtual 31, 3) := by decide +kernel
theorem dL_law_309 : decode cL_law 309 = .ok (.if_icmp .eq 890, 3) := by decide +kernel
theorem dL_law_312 : decode cL_law 312 = .ok (.iconst 0, 1) := by decide +kernel
theorem dL_law_313 : decode cL_law 313 = .ok (.ireturn, 1) := by decide +kernel
theorem dL_law_314 : decode cL_law 314 = .ok (.aload_n 1, 1) := by decide +kernel
theorem dL_law_315 : decode cL_law 315 = .ok (.aload_n 0, 1) := by decide +kernel
theorem dL_law_316 : decode cL_law 316 = .ok (.iload_n 3, 1) := by decide +kernel
theorem dL_law_317 : decode cL_law 317 = .ok (.iconst 1, 1) := by decide +kernel
theorem dL_law_318 : decode cL_law 318 = .ok (.iadd, 1) := by decide +kernel
theorem dL_law_319 : decode cL_law 319 = .ok (.iaload, 1) := by decide +kernel
theorem dL_law_320 : decode cL_law 320 = .ok (.aload_n 0, 1) := by decide +kernel
theorem dL_law_321 : decode cL_law 321 = .ok (.iload_n 3, 1) := by decide +kernel
theorem dL_law_322 : decode cL_law 322 = .ok (.iconst 2, 1) := by decide +kernel
theorem dL_law_323 : decode cL_law 323 = .ok (.iadd, 1) := by decide +kernel
theorem dL_law_324 : decode cL_law 324 = .ok (.iaload, 1) := by decide +kernel
theorem dL_law_325 : decode cL_law 325 = .ok (.aload_n 0, 1) := by decide +kernel
theorem dL_law_326 : decode cL_law 326 = .ok (.iload_n 3, 1) := by decide +kernel
theorem dL_law_327 : decode cL_law 327 = .ok (.iconst 3, 1) := by decide +kernel
theorem dL_law_328 : decode cL_law 328 = .ok (.iadd, 1) := by decide +kernel
theorem dL_law_329 : decode cL_law 329 = .ok (.iaload, 1) := by decide +kernel
theorem dL_law_330 : decode cL_law 330 = .ok (.aload_n 0, 1) := by decide +kernel
theorem dL_law_331 : decode cL_law 331 = .ok (.iload_n 3, 1) := by decide +kernel
theorem dL_law_332 : decode cL_law 332 = .ok (.iconst 4, 1) := by decide +kernel
theorem dL_law_333 : decode cL_law 333 = .ok (.iadd, 1) := by decide +kernel
theorem dL_law_334 : decode cL_law 334 = .ok (.iaload, 1) := by decide +kernel
theorem dL_law_335 : decode cL_law 335 = .ok (.invokevirtual 32, 3) := by decide +kernel
theorem dL_law_338 : decode cL_law 338 = .ok (.aload_n 2, 1) := by decide +kernel
theorem dL_law_339 : decode cL_law 339 = .ok (.aload_n 0, 1) := by decide +kernel
theorem dL_law_340 : decode cL_law 340 = .ok (.iload_n 3, 1) := by decide +kernel
theorem dL_law_341 : decode cL_law 341 = .ok (.iconst 1, 1) := by decide +kernel
theorem dL_law_342 : decode cL_law 342 = .ok (.iadd, 1) := by decide +kernel
theorem dL_law_343 : decode cL_law 343 = .ok (.iaload, 1) := by decide +kernel
theorem dL_law_344 : decode cL_law 344 = .ok (.aload_n 0, 1) := by decide +kernel
theorem dL_law_345 : decode cL_law 345 = .ok (.iload_n 3, 1) := by decide +kernel
theorem dL_law_346 : decode cL_law 346 = .ok (.iconst 2, 1) := by decide +kernel
theorem dL_law_347 : decode cL_law 347 = .ok (.iadd, 1) := by decide +kernel
theorem dL_law_348 : decode cL_law 348 = .ok (.iaload, 1) := by decide +kernel
theorem dL_law_349 : decode cL_law 349 = .ok (.aload_n 0, 1) := by decide +kernel
theorem dL_law_350 : decode cL_law 350 = .ok (.iload_n 3, 1) := by decide +kernel
theorem dL_law_351 : decode cL_law 351 = .ok (.iconst 3, 1) := by decide +kernel
theorem dL_law_352 : decode cL_law 352 = .ok (.iadd, 1) := by decide +kernel
theorem dL_law_353 : decode cL_law 353 = .ok (.iaload, 1) := by decide +kernel
theorem dL_law_354 : decode cL_law 354 = .ok (.aload_n 0, 1) := by decide +kernel
theorem dL_law_355 : decode cL_law 355 = .ok (.iload_n 3, 1) := by decide +kernel
theorem dL_law_356 : decode cL_law 356 = .ok (.iconst 4, 1) := by decide +kernel
theorem dL_law_357 : decode cL_law 357 = .ok (.iadd, 1) := by decide +kernel
theorem dL_law_358 : decode cL_law 358 = .ok (.iaload, 1) := by decide +kernel
theorem dL_law_359 : decode cL_law 359 = .ok (.invokevirtual 36, 3) := by decide +kernel
theorem dL_law_362 : decode cL_law 362 = .ok (.if_icmp .eq 837, 3) := by decide +kernel
theorem dL_law_365 : decode cL_law 365 = .ok (.iconst 0, 1) := by decide +kernel
theorem dL_law_366 : decode cL_law 366 = .ok (.ireturn, 1) := by decide +kernel
theorem dL_law_367 : decode cL_law 367 = .ok (.aload_n 1, 1) := by decide +kernel
theorem dL_law_368 : decode cL_law 368 = .ok (.aload_n 0, 1) := by decide +kernel
theorem dL_law_369 : decode cL_law 369 = .ok (.iload_n 3, 1) := by decide +kernel
theorem dL_law_370 : decode cL_law 370 = .ok (.iconst 1, 1) := by decide +kernel
theorem dL_law_371 : decode cL_law 371 = .ok (.iadd, 1) := by decide +kernel
theorem dL_law_372 : decode cL_law 372 = .ok (.iaload, 1) := by decide +kernel
theorem dL_law_373 : decode cL_law 373 = .ok (.aload_n 0, 1) := by decide +kernel
theorem dL_law_374 : decode cL_law 374 = .ok (.iload_n 3, 1) := by decide +kernel
theorem dL_law_375 : decode cL_law 375 = .ok (.iconst 2, 1) := by decide +kernel
theorem dL_law_376 : decode cL_law 376 = .ok (.iadd, 1) := by decide +kernel
theorem dL_law_377 : decode cL_law 377 = .ok (.iaload, 1) := by decide +kernel
theorem dL_law_378 : decode cL_law 378 = .ok (.aload_n 0, 1) := by decide +kernel
theorem dL_law_379 : decode cL_law 379 = .ok (.iload_n 3, 1) := by decide +kernel
theorem dL_law_380 : decode cL_law 380 = .ok (.iconst 3, 1) := by decide +kernel
theorem dL_law_381 : decode cL_law 381 = .ok (.iadd, 1) := by decide +kernel
theorem dL_law_382 : decode cL_law 382 = .ok (.iaload, 1) := by decide +kernel
theorem dL_law_383 : decode cL_law 383 = .ok (.invokevirtual 37, 3) := by decide +kernel
theorem dL_law_386 : decode cL_law 386 = .ok (.aload_n 2, 1) := by decide +kernel
theorem dL_law_387 : decode cL_law 387 = .ok (.aload_n 0, 1) := by decide +kernel
theorem dL_law_388 : decode cL_law 388 = .ok (.iload_n 3, 1) := by decide +kernel
theorem dL_law_389 : decode cL_law 389 = .ok (.iconst 1, 1) := by decide +kernel
theorem dL_law_390 : decode cL_law 390 = .ok (.iadd, 1) := by decide +kernel
theorem dL_law_391 : decode cL_law 391 = .ok (.iaload, 1) := by decide +kernel
theorem dL_law_392 : decode cL_law 392 = .ok (.aload_n 0, 1) := by decide +kernel
theorem dL_law_393 : decode cL_law 393 = .ok (.iload_n 3, 1) := by decide +kernel
theorem dL_law_394 : decode cL_law 394 = .ok (.iconst 2, 1) := by decide +kernel
theorem dL_law_395 : decode cL_law 395 = .ok (.iadd, 1) := by decide +kernel
theorem dL_law_396 : decode cL_law 396 = .ok (.iaload, 1) := by decide +kernel
theorem dL_law_397 : decode cL_law 397 = .ok (.aload_n 0, 1) := by decide +kernel
theorem dL_law_398 : decode cL_law 398 = .ok (.iload_n 3, 1) := by decide +kernel
theorem dL_law_399 : decode cL_law 399 = .ok (.iconst 3, 1) := by decide +kernel
theorem dL_law_400 : decode cL_law 400 = .ok (.iadd, 1) := by decide +kernel
theorem dL_law_401 : decode cL_law 401 = .ok (.iaload, 1) := by decide +kernel
theorem dL_law_402 : decode cL_law 402 = .ok (.invokevirtual 40, 3) := by decide +kernel
theorem dL_law_405 : decode cL_law 405 = .ok (.if_icmp .eq 794, 3) := by decide +kernel
theorem dL_law_408 : decode cL_law 408 = .ok (.iconst 0, 1) := by decide +kernel
theorem dL_law_409 : decode cL_law 409 = .ok (.ireturn, 1) := by decide +kernel
theorem dL_law_410 : decode cL_law 410 = .ok (.aload_n 1, 1) := by decide +kernel
theorem dL_law_411 : decode cL_law 411 = .ok (.aload_n 0, 1) := by decide +kernel
theorem dL_law_412 : decode cL_law 412 = .ok (.iload_n 3, 1) := by decide +kernel
theorem dL_law_413 : decode cL_law 413 = .ok (.iconst 1, 1) := by decide +kernel
theorem dL_law_414 : decode cL_law 414 = .ok (.iadd, 1) := by decide +kernel
theorem dL_law_415 : decode cL_law 415 = .ok (.iaload, 1) := by decide +kernel
theorem dL_law_416 : decode cL_law 416 = .ok (.aload_n 0, 1) := by decide +kernel
theorem dL_law_417 : decode cL_law 417 = .ok (.iload_n 3, 1) := by decide +kernel
theorem dL_law_418 : decode cL_law 418 = .ok (.iconst 2, 1) := by decide +kernel
theorem dL_law_419 : decode cL_law 419 = .ok (.iadd, 1) := by decide +kernel
theorem dL_law_420 : decode cL_law 420 = .ok (.iaload, 1) := by decide +kernel
theorem dL_law_421 : decode cL_law 421 = .ok (.aload_n 0, 1) := by decide +kernel
theorem dL_law_422 : decode cL_law 422 = .ok (.iload_n 3, 1) := by decide +kernel
theorem dL_law_423 : decode cL_law 423 = .ok (.iconst 3, 1) := by decide +kernel
theorem dL_law_424 : decode cL_law 424 = .ok (.iadd, 1) := by decide +kernel
theorem dL_law_425 : decode cL_law 425 = .ok (.iaload, 1) := by decide +kernel
theorem dL_law_426 : decode cL_law 426 = .ok (.aload_n 0, 1) := by decide +kernel
theorem dL_law_427 : decode cL_law 427 = .ok (.iload_n 3, 1) := by decide +kernel
theorem dL_law_428 : decode cL_law 428 = .ok (.iconst 4, 1) := by decide +kernel
theorem dL_law_429 : decode cL_law 429 = .ok (.iadd, 1) := by decide +kernel
theorem dL_law_430 : decode cL_law 430 = .ok (.iaload, 1) := by decide +kernel
theorem dL_law_431 : decode cL_law 431 = .ok (.aload_n 0, 1) := by decide +kernel
theorem dL_law_432 : decode cL_law 432 = .ok (.iload_n 3, 1) := by decide +kernel
theorem dL_law_433 : decode cL_law 433 = .ok (.iconst 5, 1) := by decide +kernel
theorem dL_law_434 : decode cL_law 434 = .ok (.iadd, 1) := by decide +kernel
theorem dL_law_435 : decode cL_law 435 = .ok (.iaload, 1) := by decide +kernel
theorem dL_law_436 : decode cL_law 436 = .ok (.invokevirtual 41, 3) := by decide +kernel
theorem dL_law_439 : decode cL_law 439 = .ok (.aload_n 2, 1) := by decide +kernel
theorem dL_law_440 : decode cL_law 440 = .ok (.aload_n 0, 1) := by decide +kernel
theorem dL_law_441 : decode cL_law 441 = .ok (.iload_n 3, 1) := by decide +kernel
theorem dL_law_442 : decode cL_law 442 = .ok (.iconst 1, 1) := by decide +kernel
theorem dL_law_443 : decode cL_law 443 = .ok (.iadd, 1) := by decide +kernel
theorem dL_law_444 : decode cL_law 444 = .ok (.iaload, 1) := by decide +kernel
theorem dL_law_445 : decode cL_law 445 = .ok (.aload_n 0, 1) := by decide +kernel
theorem dL_law_446 : decode cL_law 446 = .ok (.iload_n 3, 1) := by decide +kernel
theorem dL_law_447 : decode cL_law 447 = .ok (.iconst 2, 1) := by decide +kernel
theorem dL_law_448 : decode cL_law 448 = .ok (.iadd, 1) := by decide +kernel
theorem dL_law_449 : decode cL_law 449 = .ok (.iaload, 1) := by decide +kernel
theorem dL_law_450 : decode cL_law 450 = .ok (.aload_n 0, 1) := by decide +kernel
theorem dL_law_451 : decode cL_law 451 = .ok (.iload_n 3, 1) := by decide +kernel
theorem dL_law_452 : decode cL_law 452 = .ok (.iconst 3, 1) := by decide +kernel
theorem dL_law_453 : decode cL_law 453 = .ok (.iadd, 1) := by decide +kernel
theorem dL_law_454 : decode cL_law 454 = .ok (.iaload, 1) := by decide +kernel
theorem dL_law_455 : decode cL_law 455 = .ok (.aload_n 0, 1) := by decide +kernel
theorem dL_law_456 : decode cL_law 456 = .ok (.iload_n 3, 1) := by decide +kernel
theorem dL_law_457 : decode cL_law 457 = .ok (.iconst 4, 1) := by decide +kernel
theorem dL_law_458 : decode cL_law 458 = .ok (.iadd, 1) := by decide +kernel
theorem dL_law_459 : decode cL_law 459 = .ok (.iaload, 1) := by decide +kernel
theorem dL_law_460 : decode cL_law 460 = .ok (.aload_n 0, 1) := by decide +kernel
theorem dL_law_461 : decode cL_law 461 = .ok (.iload_n 3, 1) := by decide +kernel
theorem dL_law_462 : decode cL_law 462 = .ok (.iconst 5, 1) := by decide +kernel
theorem dL_law_463 : decode cL_law 463 = .ok (.iadd, 1) := by decide +kernel
theorem dL_law_464 : decode cL_law 464 = .ok (.iaload, 1) := by decide +kernel
theorem dL_law_465 : decode cL_law 465 = .ok (.invokevirtual 45, 3) := by decide +kernel
theorem dL_law_468 : decode cL_law 468 = .ok (.if_icmp .eq 731, 3) := by decide +kernel
theorem dL_law_471 : decode cL_law 471 = .ok (.iconst 0, 1) := by decide +kernel
theorem dL_law_472 : decode cL_law 472 = .ok (.ireturn, 1) := by decide +kernel
theorem dL_law_473 : decode cL_law 473 = .ok (.aload_n 1, 1) := by decide +kernel
theorem dL_law_474 : decode cL_law 474 = .ok (.aload_n 0, 1) := by decide +kernel
theorem dL_law_475 : decode cL_law 475 = .ok (.iload_n 3, 1) := by decide +kernel
theorem dL_law_476 : decode cL_law 476 = .ok (.iconst 1, 1) := by decide +kernel
theorem dL_law_477 : decode cL_law 477 = .ok (.iadd, 1) := by decide +kernel
theorem dL_law_478 : decode cL_law 478 = .ok (.iaload, 1) := by decide +kernel
theorem dL_law_479 : decode cL_law 479 = .ok (.aload_n 0, 1) := by decide +kernel
theorem dL_law_480 : decode cL_law 480 = .ok (.iload_n 3, 1) := by decide +kernel
theorem dL_law_481 : decode cL_law 481 = .ok (.iconst 2, 1) := by decide +kernel
theorem dL_law_482 : decode cL_law 482 = .ok (.iadd, 1) := by decide +kernel
theorem dL_law_483 : decode cL_law 483 = .ok (.iaload, 1) := by decide +kernel
theorem dL_law_484 : decode cL_law 484 = .ok (.aload_n 0, 1) := by decide +kernel
theorem dL_law_485 : decode cL_law 485 = .ok (.iload_n 3, 1) := by decide +kernel
theorem dL_law_486 : decode cL_law 486 = .ok (.iconst 3, 1) := by decide +kernel
theorem dL_law_487 : decode cL_law 487 = .ok (.iadd, 1) := by decide +kernel
theorem dL_law_488 : decode cL_law 488 = .ok (.iaload, 1) := by decide +kernel
theorem dL_law_489 : decode cL_law 489 = .ok (.invokevirtual 46, 3) := by decide +kernel
theorem dL_law_492 : decode cL_law 492 = .ok (.aload_n 2, 1) := by decide +kernel
theorem dL_law_493 : decode cL_law 493 = .ok (.aload_n 0, 1) := by decide +kernel
theorem dL_law_494 : decode cL_law 494 = .ok (.iload_n 3, 1) := by decide +kernel
theorem dL_law_495 : decode cL_law 495 = .ok (.iconst 1, 1) := by decide +kernel
theorem dL_law_496 : decode cL_law 496 = .ok (.iadd, 1) := by decide +kernel
theorem dL_law_497 : decode cL_law 497 = .ok (.iaload, 1) := by decide +kernel
theorem dL_law_498 : decode cL_law 498 = .ok (.aload_n 0, 1) := by decide +kernel
theorem dL_law_499 : decode cL_law 499 = .ok (.iload_n 3, 1) := by decide +kernel
theorem dL_law_500 : decode cL_law 500 = .ok (.iconst 2, 1) := by decide +kernel
theorem dL_law_501 : decode cL_law 501 = .ok (.iadd, 1) := by decide +kernel
theorem dL_law_502 : decode cL_law 502 = .ok (.iaload, 1) := by decide +kernel
theorem dL_law_503 : decode cL_law 503 = .ok (.aload_n 0, 1) := by decide +kernel
theorem dL_law_504 : decode cL_law 504 = .ok (.iload_n 3, 1) := by decide +kernel
theorem dL_law_505 : decode cL_law 505 = .ok (.iconst 3, 1) := by decide +kernel
theorem dL_law_506 : decode cL_law 506 = .ok (.iadd, 1) := by decide +kernel
theorem dL_law_507 : decode cL_law 507 = .ok (.iaload, 1) := by decide +kernel
theorem dL_law_508 : decode cL_law 508 = .ok (.invokevirtual 49, 3) := by decide +kernel
theorem dL_law_511 : decode cL_law 511 = .ok (.if_icmp .eq 688, 3) := by decide +kernel
theorem dL_law_514 : decode cL_law 514 = .ok (.iconst 0, 1) := by decide +kernel
theorem dL_law_515 : decode cL_law 515 = .ok (.ireturn, 1) := by decide +kernel
theorem dL_law_516 : decode cL_law 516 = .ok (.aload_n 1, 1) := by decide +kernel
theorem dL_law_517 : decode cL_law 517 = .ok (.invokevirtual 50, 3) := by decide +kernel
theorem dL_law_520 : decode cL_law 520 = .ok (.aload_n 2, 1) := by decide +kernel
theorem dL_law_521 : decode cL_law 521 = .ok (.invokevirtual 54, 3) := by decide +kernel
theorem dL_law_524 : decode cL_law 524 = .ok (.if_icmp .eq 675, 3) := by decide +kernel
theorem dL_law_527 : decode cL_law 527 = .ok (.iconst 0, 1) := by decide +kernel
theorem dL_law_528 : decode cL_law 528 = .ok (.ireturn, 1) := by decide +kernel
theorem dL_law_529 : decode cL_law 529 = .ok (.aload_n 1, 1) := by decide +kernel
theorem dL_law_530 : decode cL_law 530 = .ok (.aload_n 0, 1) := by decide +kernel
theorem dL_law_531 : decode cL_law 531 = .ok (.iload_n 3, 1) := by decide +kernel
theorem dL_law_532 : decode cL_law 532 = .ok (.iconst 1, 1) := by decide +kernel
theorem dL_law_533 : decode cL_law 533 = .ok (.iadd, 1) := by decide +kernel
theorem dL_law_534 : decode cL_law 534 = .ok (.iaload, 1) := by decide +kernel
theorem dL_law_535 : decode cL_law 535 = .ok (.aload_n 0, 1) := by decide +kernel
theorem dL_law_536 : decode cL_law 536 = .ok (.iload_n 3, 1) := by decide +kernel
theorem dL_law_537 : decode cL_law 537 = .ok (.iconst 2, 1) := by decide +kernel
theorem dL_law_538 : decode cL_law 538 = .ok (.iadd, 1) := by decide +kernel
theorem dL_law_539 : decode cL_law 539 = .ok (.iaload, 1) := by decide +kernel
theorem dL_law_540 : decode cL_law 540 = .ok (.invokevirtual 55, 3) := by decide +kernel
theorem dL_law_543 : decode cL_law 543 = .ok (.aload_n 2, 1) := by decide +kernel
theorem dL_law_544 : decode cL_law 544 = .ok (.aload_n 0, 1) := by decide +kernel
theorem dL_law_545 : decode cL_law 545 = .ok (.iload_n 3, 1) := by decide +kernel
theorem dL_law_546 : decode cL_law 546 = .ok (.iconst 1, 1) := by decide +kernel
theorem dL_law_547 : decode cL_law 547 = .ok (.iadd, 1) := by decide +kernel
theorem dL_law_548 : decode cL_law 548 = .ok (.iaload, 1) := by decide +kernel
theorem dL_law_549 : decode cL_law 549 = .ok (.aload_n 0, 1) := by decide +kernel
theorem dL_law_550 : decode cL_law 550 = .ok (.iload_n 3, 1) := by decide +kernel
theorem dL_law_551 : decode cL_law 551 = .ok (.iconst 2, 1) := by decide +kernel
theorem dL_law_552 : decode cL_law 552 = .ok (.iadd, 1) := by decide +kernel
theorem dL_law_553 : decode cL_law 553 = .ok (.iaload, 1) := by decide +kernel
theorem dL_law_554 : decode cL_law 554 = .ok (.invokevirtual 58, 3) := by decide +kernel
theorem dL_law_557 : decode cL_law 557 = .ok (.if_icmp .eq 642, 3) := by decide +kernel
theorem dL_law_560 : decode cL_law 560 = .ok (.iconst 0, 1) := by decide +kernel
theorem dL_law_561 : decode cL_law 561 = .ok (.ireturn, 1) := by decide +kernel
theorem dL_law_562 : decode cL_law 562 = .ok (.aload_n 1, 1) := by decide +kernel
theorem dL_law_563 : decode cL_law 563 = .ok (.aload_n 0, 1) := by decide +kernel
theorem dL_law_564 : decode cL_law 564 = .ok (.iload_n 3, 1) := by decide +kernel
theorem dL_law_565 : decode cL_law 565 = .ok (.iconst 1, 1) := by decide +kernel
theorem dL_law_566 : decode cL_law 566 = .ok (.iadd, 1) := by decide +kernel
theorem dL_law_567 : decode cL_law 567 = .ok (.iaload, 1) := by decide +kernel
theorem dL_law_568 : decode cL_law 568 = .ok (.aload_n 0, 1) := by decide +kernel
theorem dL_law_569 : decode cL_law 569 = .ok (.iload_n 3, 1) := by decide +kernel
theorem dL_law_570 : decode cL_law 570 = .ok (.iconst 2, 1) := by decide +kernel
theorem dL_law_571 : decode cL_law 571 = .ok (.iadd, 1) := by decide +kernel
theorem dL_law_572 : decode cL_law 572 = .ok (.iaload, 1) := by decide +kernel
theorem dL_law_573 : decode cL_law 573 = .ok (.invokevirtual 59, 3) := by decide +kernel
theorem dL_law_576 : decode cL_law 576 = .ok (.aload_n 2, 1) := by decide +kernel
theorem dL_law_577 : decode cL_law 577 = .ok (.aload_n 0, 1) := by decide +kernel
theorem dL_law_578 : decode cL_law 578 = .ok (.iload_n 3, 1) := by decide +kernel
theorem dL_law_579 : decode cL_law 579 = .ok (.iconst 1, 1) := by decide +kernel
theorem dL_law_580 : decode cL_law 580 = .ok (.iadd, 1) := by decide +kernel
theorem dL_law_581 : decode cL_law 581 = .ok (.iaload, 1) := by decide +kernel
theorem dL_law_582 : decode cL_law 582 = .ok (.aload_n 0, 1) := by decide +kernel
theorem dL_law_583 : decode cL_law 583 = .ok (.iload_n 3, 1) := by decide +kernel
theorem dL_law_584 : decode cL_law 584 = .ok (.iconst 2, 1) := by decide +kernel
theorem dL_law_585 : decode cL_law 585 = .ok (.iadd, 1) := by decide +kernel
theorem dL_law_586 : decode cL_law 586 = .ok (.iaload, 1) := by decide +kernel
theorem dL_law_587 : decode cL_law 587 = .ok (.invokevirtual 63, 3) := by decide +kernel
theorem dL_law_590 : decode cL_law 590 = .ok (.lcmp, 1) := by decide +kernel
theorem dL_law_591 : decode cL_law 591 = .ok (.ifCond .eq 608, 3) := by decide +kernel
theorem dL_law_594 : decode cL_law 594 = .ok (.iconst 0, 1) := by decide +kernel
theorem dL_law_595 : decode cL_law 595 = .ok (.ireturn, 1) := by decide +kernel
theorem dL_law_596 : decode cL_law 596 = .ok (.aload_n 1, 1) := by decide +kernel
theorem dL_law_597 : decode cL_law 597 = .ok (.aload_n 0, 1) := by decide +kernel
theorem dL_law_598 : decode cL_law 598 = .ok (.iload_n 3, 1) := by decide +kernel
theorem dL_law_599 : decode cL_law 599 = .ok (.iconst 1, 1) := by decide +kernel
theorem dL_law_600 : decode cL_law 600 = .ok (.iadd, 1) := by decide +kernel
theorem dL_law_601 : decode cL_law 601 = .ok (.iaload, 1) := by decide +kernel
theorem dL_law_602 : decode cL_law 602 = .ok (.aload_n 0, 1) := by decide +kernel
theorem dL_law_603 : decode cL_law 603 = .ok (.iload_n 3, 1) := by decide +kernel
theorem dL_law_604 : decode cL_law 604 = .ok (.iconst 2, 1) := by decide +kernel
theorem dL_law_605 : decode cL_law 605 = .ok (.iadd, 1) := by decide +kernel
theorem dL_law_606 : decode cL_law 606 = .ok (.iaload, 1) := by decide +kernel
theorem dL_law_607 : decode cL_law 607 = .ok (.invokevirtual 64, 3) := by decide +kernel
theorem dL_law_610 : decode cL_law 610 = .ok (.aload_n 2, 1) := by decide +kernel
theorem dL_law_611 : decode cL_law 611 = .ok (.aload_n 0, 1) := by decide +kernel
theorem dL_law_612 : decode cL_law 612 = .ok (.iload_n 3, 1) := by decide +kernel
theorem dL_law_613 : decode cL_law 613 = .ok (.iconst 1, 1) := by decide +kernel
theorem dL_law_614 : decode cL_law 614 = .ok (.iadd, 1) := by decide +kernel
theorem dL_law_615 : decode cL_law 615 = .ok (.iaload, 1) := by decide +kernel
theorem dL_law_616 : decode cL_law 616 = .ok (.aload_n 0, 1) := by decide +kernel
theorem dL_law_617 : decode cL_law 617 = .ok (.iload_n 3, 1) := by decide +kernel
theorem dL_law_618 : decode cL_law 618 = .ok (.iconst 2, 1) := by decide +kernel
theorem dL_law_619 : decode cL_law 619 = .ok (.iadd, 1) := by decide +kernel
theorem dL_law_620 : decode cL_law 620 = .ok (.iaload, 1) := by decide +kernel
theorem dL_law_621 : decode cL_law 621 = .ok (.invokevirtual 67, 3) := by decide +kernel
theorem dL_law_624 : decode cL_law 624 = .ok (.if_icmp .eq 575, 3) := by decide +kernel
theorem dL_law_627 : decode cL_law 627 = .ok (.iconst 0, 1) := by decide +kernel
theorem dL_law_628 : decode cL_law 628 = .ok (.ireturn, 1) := by decide +kernel
theorem dL_law_629 : decode cL_law 629 = .ok (.aload_n 1, 1) := by decide +kernel
theorem dL_law_630 : decode cL_law 630 = .ok (.aload_n 0, 1) := by decide +kernel
theorem dL_law_631 : decode cL_law 631 = .ok (.iload_n 3, 1) := by decide +kernel
theorem dL_law_632 : decode cL_law 632 = .ok (.iconst 1, 1) := by decide +kernel
theorem dL_law_633 : decode cL_law 633 = .ok (.iadd, 1) := by decide +kernel
theorem dL_law_634 : decode cL_law 634 = .ok (.iaload, 1) := by decide +kernel
theorem dL_law_635 : decode cL_law 635 = .ok (.aload_n 0, 1) := by decide +kernel
theorem dL_law_636 : decode cL_law 636 = .ok (.iload_n 3, 1) := by decide +kernel
theorem dL_law_637 : decode cL_law 637 = .ok (.iconst 2, 1) := by decide +kernel
theorem dL_law_638 : decode cL_law 638 = .ok (.iadd, 1) := by decide +kernel
theorem dL_law_639 : decode cL_law 639 = .ok (.iaload, 1) := by decide +kernel
theorem dL_law_640 : decode cL_law 640 = .ok (.aload_n 0, 1) := by decide +kernel
theorem dL_law_641 : decode cL_law 641 = .ok (.iload_n 3, 1) := by decide +kernel
theorem dL_law_642 : decode cL_law 642 = .ok (.iconst 3, 1) := by decide +kernel
theorem dL_law_643 : decode cL_law 643 = .ok (.iadd, 1) := by decide +kernel
theorem dL_law_644 : decode cL_law 644 = .ok (.iaload, 1) := by decide +kernel
theorem dL_law_645 : decode cL_law 645 = .ok (.invokevirtual 68, 3) := by decide +kernel
theorem dL_law_648 : decode cL_law 648 = .ok (.aload_n 2, 1) := by decide +kernel
theorem dL_law_649 : decode cL_law 649 = .ok (.aload_n 0, 1) := by decide +kernel
theorem dL_law_650 : decode cL_law 650 = .ok (.iload_n 3, 1) := by decide +kernel
theorem dL_law_651 : decode cL_law 651 = .ok (.iconst 1, 1) := by decide +kernel
theorem dL_law_652 : decode cL_law 652 = .ok (.iadd, 1) := by decide +kernel
theorem dL_law_653 : decode cL_law 653 = .ok (.iaload, 1) := by decide +kernel
theorem dL_law_654 : decode cL_law 654 = .ok (.aload_n 0, 1) := by decide +kernel
theorem dL_law_655 : decode cL_law 655 = .ok (.iload_n 3, 1) := by decide +kernel
theorem dL_law_656 : decode cL_law 656 = .ok (.iconst 2, 1) := by decide +kernel
theorem dL_law_657 : decode cL_law 657 = .ok (.iadd, 1) := by decide +kernel
theorem dL_law_658 : decode cL_law 658 = .ok (.iaload, 1) := by decide +kernel
theorem dL_law_659 : decode cL_law 659 = .ok (.aload_n 0, 1) := by decide +kernel
theorem dL_law_660 : decode cL_law 660 = .ok (.iload_n 3, 1) := by decide +kernel
theorem dL_law_661 : decode cL_law 661 = .ok (.iconst 3, 1) := by decide +kernel
theorem dL_law_662 : decode cL_law 662 = .ok (.iadd, 1) := by decide +kernel
theorem dL_law_663 : decode cL_law 663 = .ok (.iaload, 1) := by decide +kernel
theorem dL_law_664 : decode cL_law 664 = .ok (.invokevirtual 71, 3) := by decide +kernel
theorem dL_law_667 : decode cL_law 667 = .ok (.if_icmp .eq 532, 3) := by decide +kernel
theorem dL_law_670 : decode cL_law 670 = .ok (.iconst 0, 1) := by decide +kernel
theorem dL_law_671 : decode cL_law 671 = .ok (.ireturn, 1) := by decide +kernel
theorem dL_law_672 : decode cL_law 672 = .ok (.aload_n 1, 1) := by decide +kernel
theorem dL_law_673 : decode cL_law 673 = .ok (.aload_n 0, 1) := by decide +kernel
theorem dL_law_674 : decode cL_law 674 = .ok (.iload_n 3, 1) := by decide +kernel
theorem dL_law_675 : decode cL_law 675 = .ok (.iconst 1, 1) := by decide +kernel
theorem dL_law_676 : decode cL_law 676 = .ok (.iadd, 1) := by decide +kernel
theorem dL_law_677 : decode cL_law 677 = .ok (.iaload, 1) := by decide +kernel
theorem dL_law_678 : decode cL_law 678 = .ok (.aload_n 0, 1) := by decide +kernel
theorem dL_law_679 : decode cL_law 679 = .ok (.iload_n 3, 1) := by decide +kernel
theorem dL_law_680 : decode cL_law 680 = .ok (.iconst 2, 1) := by decide +kernel
theorem dL_law_681 : decode cL_law 681 = .ok (.iadd, 1) := by decide +kernel
theorem dL_law_682 : decode cL_law 682 = .ok (.iaload, 1) := by decide +kernel
theorem dL_law_683 : decode cL_law 683 = .ok (.aload_n 0, 1) := by decide +kernel
theorem dL_law_684 : decode cL_law 684 = .ok (.iload_n 3, 1) := by decide +kernel
theorem dL_law_685 : decode cL_law 685 = .ok (.iconst 3, 1) := by decide +kernel
theorem dL_law_686 : decode cL_law 686 = .ok (.iadd, 1) := by decide +kernel
theorem dL_law_687 : decode cL_law 687 = .ok (.iaload, 1) := by decide +kernel
theorem dL_law_688 : decode cL_law 688 = .ok (.aload_n 0, 1) := by decide +kernel
theorem dL_law_689 : decode cL_law 689 = .ok (.iload_n 3, 1) := by decide +kernel
theorem dL_law_690 : decode cL_law 690 = .ok (.iconst 4, 1) := by decide +kernel
theorem dL_law_691 : decode cL_law 691 = .ok (.iadd, 1) := by decide +kernel
theorem dL_law_692 : decode cL_law 692 = .ok (.iaload, 1) := by decide +kernel
theorem dL_law_693 : decode cL_law 693 = .ok (.invokevirtual 72, 3) := by decide +kernel
theorem dL_law_696 : decode cL_law 696 = .ok (.aload_n 2, 1) := by decide +kernel
theorem dL_law_697 : decode cL_law 697 = .ok (.aload_n 0, 1) := by decide +kernel
theorem dL_law_698 : decode cL_law 698 = .ok (.iload_n 3, 1) := by decide +kernel
theorem dL_law_699 : decode cL_law 699 = .ok (.iconst 1, 1) := by decide +kernel
theorem dL_law_700 : decode cL_law 700 = .ok (.iadd, 1) := by decide +kernel
theorem dL_law_701 : decode cL_law 701 = .ok (.iaload, 1) := by decide +kernel
theorem dL_law_702 : decode cL_law 702 = .ok (.aload_n 0, 1) := by decide +kernel
theorem dL_law_703 : decode cL_law 703 = .ok (.iload_n 3, 1) := by decide +kernel
theorem dL_law_704 : decode cL_law 704 = .ok (.iconst 2, 1) := by decide +kernel
theorem dL_law_705 : decode cL_law 705 = .ok (.iadd, 1) := by decide +kernel
theorem dL_law_706 : decode cL_law 706 = .ok (.iaload, 1) := by decide +kernel
theorem dL_law_707 : decode cL_law 707 = .ok (.aload_n 0, 1) := by decide +kernel
theorem dL_law_708 : decode cL_law 708 = .ok (.iload_n 3, 1) := by decide +kernel
theorem dL_law_709 : decode cL_law 709 = .ok (.iconst 3, 1) := by decide +kernel
theorem dL_law_710 : decode cL_law 710 = .ok (.iadd, 1) := by decide +kernel
theorem dL_law_711 : decode cL_law 711 = .ok (.iaload, 1) := by decide +kernel
theorem dL_law_712 : decode cL_law 712 = .ok (.aload_n 0, 1) := by decide +kernel
theorem dL_law_713 : decode cL_law 713 = .ok (.iload_n 3, 1) := by decide +kernel
theorem dL_law_714 : decode cL_law 714 = .ok (.iconst 4, 1) := by decide +kernel
theorem dL_law_715 : decode cL_law 715 = .ok (.iadd, 1) := by decide +kernel
theorem dL_law_716 : decode cL_law 716 = .ok (.iaload, 1) := by decide +kernel
theorem dL_law_717 : decode cL_law 717 = .ok (.invokevirtual 75, 3) := by decide +kernel
theorem dL_law_720 : decode cL_law 720 = .ok (.if_icmp .eq 479, 3) := by decide +kernel
theorem dL_law_723 : decode cL_law 723 = .ok (.iconst 0, 1) := by decide +kernel
theorem dL_law_724 : decode cL_law 724 = .ok (.ireturn, 1) := by decide +kernel
theorem dL_law_725 : decode cL_law 725 = .ok (.aload_n 1, 1) := by decide +kernel
theorem dL_law_726 : decode cL_law 726 = .ok (.aload_n 0, 1) := by decide +kernel
theorem dL_law_727 : decode cL_law 727 = .ok (.iload_n 3, 1) := by decide +kernel
theorem dL_law_728 : decode cL_law 728 = .ok (.iconst 1, 1) := by decide +kernel
theorem dL_law_729 : decode cL_law 729 = .ok (.iadd, 1) := by decide +kernel
theorem dL_law_730 : decode cL_law 730 = .ok (.iaload, 1) := by decide +kernel
theorem dL_law_731 : decode cL_law 731 = .ok (.aload_n 0, 1) := by decide +kernel
theorem dL_law_732 : decode cL_law 732 = .ok (.iload_n 3, 1) := by decide +kernel
theorem dL_law_733 : decode cL_law 733 = .ok (.iconst 2, 1) := by decide +kernel
theorem dL_law_734 : decode cL_law 734 = .ok (.iadd, 1) := by decide +kernel
theorem dL_law_735 : decode cL_law 735 = .ok (.iaload, 1) := by decide +kernel
theorem dL_law_736 : decode cL_law 736 = .ok (.invokevirtual 76, 3) := by decide +kernel
theorem dL_law_739 : decode cL_law 739 = .ok (.aload_n 2, 1) := by decide +kernel
theorem dL_law_740 : decode cL_law 740 = .ok (.aload_n 0, 1) := by decide +kernel
theorem dL_law_741 : decode cL_law 741 = .ok (.iload_n 3, 1) := by decide +kernel
theorem dL_law_742 : decode cL_law 742 = .ok (.iconst 1, 1) := by decide +kernel
theorem dL_law_743 : decode cL_law 743 = .ok (.iadd, 1) := by decide +kernel
theorem dL_law_744 : decode cL_law 744 = .ok (.iaload, 1) := by decide +kernel
theorem dL_law_745 : decode cL_law 745 = .ok (.aload_n 0, 1) := by decide +kernel
theorem dL_law_746 : decode cL_law 746 = .ok (.iload_n 3, 1) := by decide +kernel
theorem dL_law_747 : decode cL_law 747 = .ok (.iconst 2, 1) := by decide +kernel
theorem dL_law_748 : decode cL_law 748 = .ok (.iadd, 1) := by decide +kernel
theorem dL_law_749 : decode cL_law 749 = .ok (.iaload, 1) := by decide +kernel
theorem dL_law_750 : decode cL_law 750 = .ok (.invokevirtual 79, 3) := by decide +kernel
theorem dL_law_753 : decode cL_law 753 = .ok (.if_icmp .eq 446, 3) := by decide +kernel
theorem dL_law_756 : decode cL_law 756 = .ok (.iconst 0, 1) := by decide +kernel
theorem dL_law_757 : decode cL_law 757 = .ok (.ireturn, 1) := by decide +kernel
theorem dL_law_758 : decode cL_law 758 = .ok (.aload_n 1, 1) := by decide +kernel
theorem dL_law_759 : decode cL_law 759 = .ok (.aload_n 0, 1) := by decide +kernel
theorem dL_law_760 : decode cL_law 760 = .ok (.iload_n 3, 1) := by decide +kernel
theorem dL_law_761 : decode cL_law 761 = .ok (.iconst 1, 1) := by decide +kernel
theorem dL_law_762 : decode cL_law 762 = .ok (.iadd, 1) := by decide +kernel
theorem dL_law_763 : decode cL_law 763 = .ok (.iaload, 1) := by decide +kernel
theorem dL_law_764 : decode cL_law 764 = .ok (.aload_n 0, 1) := by decide +kernel
theorem dL_law_765 : decode cL_law 765 = .ok (.iload_n 3, 1) := by decide +kernel
theorem dL_law_766 : decode cL_law 766 = .ok (.iconst 2, 1) := by decide +kernel
theorem dL_law_767 : decode cL_law 767 = .ok (.iadd, 1) := by decide +kernel
theorem dL_law_768 : decode cL_law 768 = .ok (.iaload, 1) := by decide +kernel
theorem dL_law_769 : decode cL_law 769 = .ok (.aload_n 0, 1) := by decide +kernel
theorem dL_law_770 : decode cL_law 770 = .ok (.iload_n 3, 1) := by decide +kernel
theorem dL_law_771 : decode cL_law 771 = .ok (.iconst 3, 1) := by decide +kernel
theorem dL_law_772 : decode cL_law 772 = .ok (.iadd, 1) := by decide +kernel
theorem dL_law_773 : decode cL_law 773 = .ok (.iaload, 1) := by decide +kernel
theorem dL_law_774 : decode cL_law 774 = .ok (.invokevirtual 80, 3) := by decide +kernel
theorem dL_law_777 : decode cL_law 777 = .ok (.aload_n 2, 1) := by decide +kernel
theorem dL_law_778 : decode cL_law 778 = .ok (.aload_n 0, 1) := by decide +kernel
theorem dL_law_779 : decode cL_law 779 = .ok (.iload_n 3, 1) := by decide +kernel
theorem dL_law_780 : decode cL_law 780 = .ok (.iconst 1, 1) := by decide +kernel
theorem dL_law_781 : decode cL_law 781 = .ok (.iadd, 1) := by decide +kernel
theorem dL_law_782 : decode cL_law 782 = .ok (.iaload, 1) := by decide +kernel
theorem dL_law_783 : decode cL_law 783 = .ok (.aload_n 0, 1) := by decide +kernel
theorem dL_law_784 : decode cL_law 784 = .ok (.iload_n 3, 1) := by decide +kernel
theorem dL_law_785 : decode cL_law 785 = .ok (.iconst 2, 1) := by decide +kernel
theorem dL_law_786 : decode cL_law 786 = .ok (.iadd, 1) := by decide +kernel
theorem dL_law_787 : decode cL_law 787 = .ok (.iaload, 1) := by decide +kernel
theorem dL_law_788 : decode cL_law 788 = .ok (.aload_n 0, 1) := by decide +kernel
theorem dL_law_789 : decode cL_law 789 = .ok (.iload_n 3, 1) := by decide +kernel
theorem dL_law_790 : decode cL_law 790 = .ok (.iconst 3, 1) := by decide +kernel
theorem dL_law_791 : decode cL_law 791 = .ok (.iadd, 1) := by decide +kernel
theorem dL_law_792 : decode cL_law 792 = .ok (.iaload, 1) := by decide +kernel
theorem dL_law_793 : decode cL_law 793 = .ok (.invokevirtual 83, 3) := by decide +kernel
theorem dL_law_796 : decode cL_law 796 = .ok (.if_icmp .eq 403, 3) := by decide +kernel
theorem dL_law_799 : decode cL_law 799 = .ok (.iconst 0, 1) := by decide +kernel
theorem dL_law_800 : decode cL_law 800 = .ok (.ireturn, 1) := by decide +kernel
theorem dL_law_801 : decode cL_law 801 = .ok (.aload_n 1, 1) := by decide +kernel
theorem dL_law_802 : decode cL_law 802 = .ok (.invokevirtual 84, 3) := by decide +kernel
theorem dL_law_805 : decode cL_law 805 = .ok (.aload_n 2, 1) := by decide +kernel
theorem dL_law_806 : decode cL_law 806 = .ok (.invokevirtual 87, 3) := by decide +kernel
theorem dL_law_809 : decode cL_law 809 = .ok (.if_icmp .eq 390, 3) := by decide +kernel
theorem dL_law_812 : decode cL_law 812 = .ok (.iconst 0, 1) := by decide +kernel
theorem dL_law_813 : decode cL_law 813 = .ok (.ireturn, 1) := by decide +kernel
theorem dL_law_814 : decode cL_law 814 = .ok (.aload_n 1, 1) := by decide +kernel
theorem dL_law_815 : decode cL_law 815 = .ok (.aload_n 0, 1) := by decide +kernel
theorem dL_law_816 : decode cL_law 816 = .ok (.iload_n 3, 1) := by decide +kernel
theorem dL_law_817 : decode cL_law 817 = .ok (.iconst 1, 1) := by decide +kernel
theorem dL_law_818 : decode cL_law 818 = .ok (.iadd, 1) := by decide +kernel
theorem dL_law_819 : decode cL_law 819 = .ok (.iaload, 1) := by decide +kernel
theorem dL_law_820 : decode cL_law 820 = .ok (.invokevirtual 88, 3) := by decide +kernel
theorem dL_law_823 : decode cL_law 823 = .ok (.aload_n 2, 1) := by decide +kernel
theorem dL_law_824 : decode cL_law 824 = .ok (.aload_n 0, 1) := by decide +kernel
theorem dL_law_825 : decode cL_law 825 = .ok (.iload_n 3, 1) := by decide +kernel
theorem dL_law_826 : decode cL_law 826 = .ok (.iconst 1, 1) := by decide +kernel
theorem dL_law_827 : decode cL_law 827 = .ok (.iadd, 1) := by decide +kernel
theorem dL_law_828 : decode cL_law 828 = .ok (.iaload, 1) := by decide +kernel
theorem dL_law_829 : decode cL_law 829 = .ok (.invokevirtual 91, 3) := by decide +kernel
theorem dL_law_832 : decode cL_law 832 = .ok (.if_icmp .eq 367, 3) := by decide +kernel
theorem dL_law_835 : decode cL_law 835 = .ok (.iconst 0, 1) := by decide +kernel
theorem dL_law_836 : decode cL_law 836 = .ok (.ireturn, 1) := by decide +kernel
theorem dL_law_837 : decode cL_law 837 = .ok (.aload_n 1, 1) := by decide +kernel
theorem dL_law_838 : decode cL_law 838 = .ok (.aload_n 0, 1) := by decide +kernel
theorem dL_law_839 : decode cL_law 839 = .ok (.iload_n 3, 1) := by decide +kernel
theorem dL_law_840 : decode cL_law 840 = .ok (.iconst 1, 1) := by decide +kernel
theorem dL_law_841 : decode cL_law 841 = .ok (.iadd, 1) := by decide +kernel
theorem dL_law_842 : decode cL_law 842 = .ok (.iaload, 1) := by decide +kernel
theorem dL_law_843 : decode cL_law 843 = .ok (.aload_n 0, 1) := by decide +kernel
theorem dL_law_844 : decode cL_law 844 = .ok (.iload_n 3, 1) := by decide +kernel
theorem dL_law_845 : decode cL_law 845 = .ok (.iconst 2, 1) := by decide +kernel
theorem dL_law_846 : decode cL_law 846 = .ok (.iadd, 1) := by decide +kernel
theorem dL_law_847 : decode cL_law 847 = .ok (.iaload, 1) := by decide +kernel
theorem dL_law_848 : decode cL_law 848 = .ok (.invokevirtual 92, 3) := by decide +kernel
theorem dL_law_851 : decode cL_law 851 = .ok (.aload_n 2, 1) := by decide +kernel
theorem dL_law_852 : decode cL_law 852 = .ok (.aload_n 0, 1) := by decide +kernel
theorem dL_law_853 : decode cL_law 853 = .ok (.iload_n 3, 1) := by decide +kernel
theorem dL_law_854 : decode cL_law 854 = .ok (.iconst 1, 1) := by decide +kernel
theorem dL_law_855 : decode cL_law 855 = .ok (.iadd, 1) := by decide +kernel
theorem dL_law_856 : decode cL_law 856 = .ok (.iaload, 1) := by decide +kernel
theorem dL_law_857 : decode cL_law 857 = .ok (.aload_n 0, 1) := by decide +kernel
theorem dL_law_858 : decode cL_law 858 = .ok (.iload_n 3, 1) := by decide +kernel
theorem dL_law_859 : decode cL_law 859 = .ok (.iconst 2, 1) := by decide +kernel
theorem dL_law_860 : decode cL_law 860 = .ok (.iadd, 1) := by decide +kernel
theorem dL_law_861 : decode cL_law 861 = .ok (.iaload, 1) := by decide +kernel
theorem dL_law_862 : decode cL_law 862 = .ok (.invokevirtual 95, 3) := by decide +kernel
theorem dL_law_865 : decode cL_law 865 = .ok (.lcmp, 1) := by decide +kernel
theorem dL_law_866 : decode cL_law 866 = .ok (.ifCond .eq 333, 3) := by decide +kernel
theorem dL_law_869 : decode cL_law 869 = .ok (.iconst 0, 1) := by decide +kernel
theorem dL_law_870 : decode cL_law 870 = .ok (.ireturn, 1) := by decide +kernel
theorem dL_law_871 : decode cL_law 871 = .ok (.aload_n 1, 1) := by decide +kernel
theorem dL_law_872 : decode cL_law 872 = .ok (.aload_n 0, 1) := by decide +kernel
theorem dL_law_873 : decode cL_law 873 = .ok (.iload_n 3, 1) := by decide +kernel
theorem dL_law_874 : decode cL_law 874 = .ok (.iconst 1, 1) := by decide +kernel
theorem dL_law_875 : decode cL_law 875 = .ok (.iadd, 1) := by decide +kernel
theorem dL_law_876 : decode cL_law 876 = .ok (.iaload, 1) := by decide +kernel
theorem dL_law_877 : decode cL_law 877 = .ok (.aload_n 0, 1) := by decide +kernel
theorem dL_law_878 : decode cL_law 878 = .ok (.iload_n 3, 1) := by decide +kernel
theorem dL_law_879 : decode cL_law 879 = .ok (.iconst 2, 1) := by decide +kernel
theorem dL_law_880 : decode cL_law 880 = .ok (.iadd, 1) := by decide +kernel
theorem dL_law_881 : decode cL_law 881 = .ok (.iaload, 1) := by decide +kernel
theorem dL_law_882 : decode cL_law 882 = .ok (.aload_n 0, 1) := by decide +kernel
theorem dL_law_883 : decode cL_law 883 = .ok (.iload_n 3, 1) := by decide +kernel
theorem dL_law_884 : decode cL_law 884 = .ok (.iconst 3, 1) := by decide +kernel
theorem dL_law_885 : decode cL_law 885 = .ok (.iadd, 1) := by decide +kernel
theorem dL_law_886 : decode cL_law 886 = .ok (.iaload, 1) := by decide +kernel
theorem dL_law_887 : decode cL_law 887 = .ok (.aload_n 0, 1) := by decide +kernel
theorem dL_law_888 : decode cL_law 888 = .ok (.iload_n 3, 1) := by decide +kernel
theorem dL_law_889 : decode cL_law 889 = .ok (.iconst 4, 1) := by decide +kernel
theorem dL_law_890 : decode cL_law 890 = .ok (.iadd, 1) := by decide +kernel
theorem dL_law_891 : decode cL_law 891 = .ok (.iaload, 1) := by decide +kernel
theorem dL_law_892 : decode cL_law 892 = .ok (.invokevirtual 96, 3) := by decide +kernel
theorem dL_law_895 : decode cL_law 895 = .ok (.aload_n 2, 1) := by decide +kernel
theorem dL_law_896 : decode cL_law 896 = .ok (.aload_n 0, 1) := by decide +kernel
theorem dL_law_897 : decode cL_law 897 = .ok (.iload_n 3, 1) := by decide +kernel
theorem dL_law_898 : decode cL_law 898 = .ok (.iconst 1, 1) := by decide +kernel
theorem dL_law_899 : decode cL_law 899 = .ok (.iadd, 1) := by decide +kernel
theorem dL_law_900 : decode cL_law 900 = .ok (.iaload, 1) := by decide +kernel
theorem dL_law_901 : decode cL_law 901 = .ok (.aload_n 0, 1) := by decide +kernel
theorem dL_law_902 : decode cL_law 902 = .ok (.iload_n 3, 1) := by decide +kernel
theorem dL_law_903 : decode cL_law 903 = .ok (.iconst 2, 1) := by decide +kernel
theorem dL_law_904 : decode cL_law 904 = .ok (.iadd, 1) := by decide +kernel
theorem dL_law_905 : decode cL_law 905 = .ok (.iaload, 1) := by decide +kernel
theorem dL_law_906 : decode cL_law 906 = .ok (.aload_n 0, 1) := by decide +kernel
theorem dL_law_907 : decode cL_law 907 = .ok (.iload_n 3, 1) := by decide +kernel
theorem dL_law_908 : decode cL_law 908 = .ok (.iconst 3, 1) := by decide +kernel
theorem dL_law_909 : decode cL_law 909 = .ok (.iadd, 1) := by decide +kernel
theorem dL_law_910 : decode cL_law 910 = .ok (.iaload, 1) := by decide +kernel
theorem dL_law_911 : decode cL_law 911 = .ok (.aload_n 0, 1) := by decide +kernel
theorem dL_law_912 : decode cL_law 912 = .ok (.iload_n 3, 1) := by decide +kernel
theorem dL_law_913 : decode cL_law 913 = .ok (.iconst 4, 1) := by decide +kernel
theorem dL_law_914 : decode cL_law 914 = .ok (.iadd, 1) := by decide +kernel
theorem dL_law_915 : decode cL_law 915 = .ok (.iaload, 1) := by decide +kernel
theorem dL_law_916 : decode cL_law 916 = .ok (.invokevirtual 99, 3) := by decide +kernel
theorem dL_law_919 : decode cL_law 919 = .ok (.if_icmp .eq 280, 3) := by decide +kernel
theorem dL_law_922 : decode cL_law 922 = .ok (.iconst 0, 1) := by decide +kernel
theorem dL_law_923 : decode cL_law 923 = .ok (.ireturn, 1) := by decide +kernel
theorem dL_law_924 : decode cL_law 924 = .ok (.aload_n 1, 1) := by decide +kernel
theorem dL_law_925 : decode cL_law 925 = .ok (.invokevirtual 100, 3) := by decide +kernel
theorem dL_law_928 : decode cL_law 928 = .ok (.aload_n 2, 1) := by decide +kernel
theorem dL_law_929 : decode cL_law 929 = .ok (.invokevirtual 103, 3) := by decide +kernel
theorem dL_law_932 : decode cL_law 932 = .ok (.if_icmp .eq 267, 3) := by decide +kernel
theorem dL_law_935 : decode cL_law 935 = .ok (.iconst 0, 1) := by decide +kernel
theorem dL_law_936 : decode cL_law 936 = .ok (.ireturn, 1) := by decide +kernel
theorem dL_law_937 : decode cL_law 937 = .ok (.aload_n 1, 1) := by decide +kernel
theorem dL_law_938 : decode cL_law 938 = .ok (.aload_n 0, 1) := by decide +kernel
theorem dL_law_939 : decode cL_law 939 = .ok (.iload_n 3, 1) := by decide +kernel
theorem dL_law_940 : decode cL_law 940 = .ok (.iconst 1, 1) := by decide +kernel
theorem dL_law_941 : decode cL_law 941 = .ok (.iadd, 1) := by decide +kernel
theorem dL_law_942 : decode cL_law 942 = .ok (.iaload, 1) := by decide +kernel
theorem dL_law_943 : decode cL_law 943 = .ok (.aload_n 0, 1) := by decide +kernel
theorem dL_law_944 : decode cL_law 944 = .ok (.iload_n 3, 1) := by decide +kernel
theorem dL_law_945 : decode cL_law 945 = .ok (.iconst 2, 1) := by decide +kernel
theorem dL_law_946 : decode cL_law 946 = .ok (.iadd, 1) := by decide +kernel
theorem dL_law_947 : decode cL_law 947 = .ok (.iaload, 1) := by decide +kernel
theorem dL_law_948 : decode cL_law 948 = .ok (.invokevirtual 104, 3) := by decide +kernel
theorem dL_law_951 : decode cL_law 951 = .ok (.aload_n 2, 1) := by decide +kernel
theorem dL_law_952 : decode cL_law 952 = .ok (.aload_n 0, 1) := by decide +kernel
theorem dL_law_953 : decode cL_law 953 = .ok (.iload_n 3, 1) := by decide +kernel
theorem dL_law_954 : decode cL_law 954 = .ok (.iconst 1, 1) := by decide +kernel
theorem dL_law_955 : decode cL_law 955 = .ok (.iadd, 1) := by decide +kernel
theorem dL_law_956 : decode cL_law 956 = .ok (.iaload, 1) := by decide +kernel
theorem dL_law_957 : decode cL_law 957 = .ok (.aload_n 0, 1) := by decide +kernel
theorem dL_law_958 : decode cL_law 958 = .ok (.iload_n 3, 1) := by decide +kernel
theorem dL_law_959 : decode cL_law 959 = .ok (.iconst 2, 1) := by decide +kernel
theorem dL_law_960 : decode cL_law 960 = .ok (.iadd, 1) := by decide +kernel
theorem dL_law_961 : decode cL_law 961 = .ok (.iaload, 1) := by decide +kernel
theorem dL_law_962 : decode cL_law 962 = .ok (.invokevirtual 107, 3) := by decide +kernel
theorem dL_law_965 : decode cL_law 965 = .ok (.if_icmp .eq 234, 3) := by decide +kernel
theorem dL_law_968 : decode cL_law 968 = .ok (.iconst 0, 1) := by decide +kernel
theorem dL_law_969 : decode cL_law 969 = .ok (.ireturn, 1) := by decide +kernel
theorem dL_law_970 : decode cL_law 970 = .ok (.aload_n 1, 1) := by decide +kernel
theorem dL_law_971 : decode cL_law 971 = .ok (.aload_n 0, 1) := by decide +kernel
theorem dL_law_972 : decode cL_law 972 = .ok (.iload_n 3, 1) := by decide +kernel
theorem dL_law_973 : decode cL_law 973 = .ok (.iconst 1, 1) := by decide +kernel
theorem dL_law_974 : decode cL_law 974 = .ok (.iadd, 1) := by decide +kernel
theorem dL_law_975 : decode cL_law 975 = .ok (.iaload, 1) := by decide +kernel
theorem dL_law_976 : decode cL_law 976 = .ok (.aload_n 0, 1) := by decide +kernel
theorem dL_law_977 : decode cL_law 977 = .ok (.iload_n 3, 1) := by decide +kernel
theorem dL_law_978 : decode cL_law 978 = .ok (.iconst 2, 1) := by decide +kernel
theorem dL_law_979 : decode cL_law 979 = .ok (.iadd, 1) := by decide +kernel
theorem dL_law_980 : decode cL_law 980 = .ok (.iaload, 1) := by decide +kernel
theorem dL_law_981 : decode cL_law 981 = .ok (.invokevirtual 108, 3) := by decide +kernel
theorem dL_law_984 : decode cL_law 984 = .ok (.aload_n 2, 1) := by decide +kernel
theorem dL_law_985 : decode cL_law 985 = .ok (.aload_n 0, 1) := by decide +kernel
theorem dL_law_986 : decode cL_law 986 = .ok (.iload_n 3, 1) := by decide +kernel
theorem dL_law_987 : decode cL_law 987 = .ok (.iconst 1, 1) := by decide +kernel
theorem dL_law_988 : decode cL_law 988 = .ok (.iadd, 1) := by decide +kernel
theorem dL_law_989 : decode cL_law 989 = .ok (.iaload, 1) := by decide +kernel
theorem dL_law_990 : decode cL_law 990 = .ok (.aload_n 0, 1) := by decide +kernel
theorem dL_law_991 : decode cL_law 991 = .ok (.iload_n 3, 1) := by decide +kernel
theorem dL_law_992 : decode cL_law 992 = .ok (.iconst 2, 1) := by decide +kernel
theorem dL_law_993 : decode cL_law 993 = .ok (.iadd, 1) := by decide +kernel
theorem dL_law_994 : decode cL_law 994 = .ok (.iaload, 1) := by decide +kernel
theorem dL_law_995 : decode cL_law 995 = .ok (.invokevirtual 111, 3) := by decide +kernel
theorem dL_law_998 : decode cL_law 998 = .ok (.lcmp, 1) := by decide +kernel
theorem dL_law_999 : decode cL_law 999 = .ok (.ifCond .eq 200, 3) := by decide +kernel
theorem dL_law_1002 : decode cL_law 1002 = .ok (.iconst 0, 1) := by decide +kernel
theorem dL_law_1003 : decode cL_law 1003 = .ok (.ireturn, 1) := by decide +kernel
theorem dL_law_1004 : decode cL_law 1004 = .ok (.aload_n 1, 1) := by decide +kernel
theorem dL_law_1005 : decode cL_law 1005 = .ok (.invokevirtual 112, 3) := by decide +kernel
theorem dL_law_1008 : decode cL_law 1008 = .ok (.aload_n 2, 1) := by decide +kernel
theorem dL_law_1009 : decode cL_law 1009 = .ok (.invokevirtual 115, 3) := by decide +kernel
theorem dL_law_1012 : decode cL_law 1012 = .ok (.if_icmp .eq 187, 3) := by decide +kernel
theorem dL_law_1015 : decode cL_law 1015 = .ok (.iconst 0, 1) := by decide +kernel
theorem dL_law_1016 : decode cL_law 1016 = .ok (.ireturn, 1) := by decide +kernel
theorem dL_law_1017 : decode cL_law 1017 = .ok (.aload_n 1, 1) := by decide +kernel
theorem dL_law_1018 : decode cL_law 1018 = .ok (.aload_n 0, 1) := by decide +kernel
theorem dL_law_1019 : decode cL_law 1019 = .ok (.iload_n 3, 1) := by decide +kernel
theorem dL_law_1020 : decode cL_law 1020 = .ok (.iconst 1, 1) := by decide +kernel
theorem dL_law_1021 : decode cL_law 1021 = .ok (.iadd, 1) := by decide +kernel
theorem dL_law_1022 : decode cL_law 1022 = .ok (.iaload, 1) := by decide +kernel
theorem dL_law_1023 : decode cL_law 1023 = .ok (.aload_n 0, 1) := by decide +kernel
theorem dL_law_1024 : decode cL_law 1024 = .ok (.iload_n 3, 1) := by decide +kernel
theorem dL_law_1025 : decode cL_law 1025 = .ok (.iconst 2, 1) := by decide +kernel
theorem dL_law_1026 : decode cL_law 1026 = .ok (.iadd, 1) := by decide +kernel
theorem dL_law_1027 : decode cL_law 1027 = .ok (.iaload, 1) := by decide +kernel
theorem dL_law_1028 : decode cL_law 1028 = .ok (.aload_n 0, 1) := by decide +kernel
theorem dL_law_1029 : decode cL_law 1029 = .ok (.iload_n 3, 1) := by decide +kernel
theorem dL_law_1030 : decode cL_law 1030 = .ok (.iconst 3, 1) := by decide +kernel
theorem dL_law_1031 : decode cL_law 1031 = .ok (.iadd, 1) := by decide +kernel
theorem dL_law_1032 : decode cL_law 1032 = .ok (.iaload, 1) := by decide +kernel
theorem dL_law_1033 : decode cL_law 1033 = .ok (.invokevirtual 116, 3) := by decide +kernel
theorem dL_law_1036 : decode cL_law 1036 = .ok (.aload_n 2, 1) := by decide +kernel
theorem dL_law_1037 : decode cL_law 1037 = .ok (.aload_n 0, 1) := by decide +kernel
theorem dL_law_1038 : decode cL_law 1038 = .ok (.iload_n 3, 1) := by decide +kernel
theorem dL_law_1039 : decode cL_law 1039 = .ok (.iconst 1, 1) := by decide +kernel
theorem dL_law_1040 : decode cL_law 1040 = .ok (.iadd, 1) := by decide +kernel
theorem dL_law_1041 : decode cL_law 1041 = .ok (.iaload, 1) := by decide +kernel
theorem dL_law_1042 : decode cL_law 1042 = .ok (.aload_n 0, 1) := by decide +kernel
theorem dL_law_1043 : decode cL_law 1043 = .ok (.iload_n 3, 1) := by decide +kernel
theorem dL_law_1044 : decode cL_law 1044 = .ok (.iconst 2, 1) := by decide +kernel
theorem dL_law_1045 : decode cL_law 1045 = .ok (.iadd, 1) := by decide +kernel
theorem dL_law_1046 : decode cL_law 1046 = .ok (.iaload, 1) := by decide +kernel
theorem dL_law_1047 : decode cL_law 1047 = .ok (.aload_n 0, 1) := by decide +kernel
theorem dL_law_1048 : decode cL_law 1048 = .ok (.iload_n 3, 1) := by decide +kernel
theorem dL_law_1049 : decode cL_law 1049 = .ok (.iconst 3, 1) := by decide +kernel
theorem dL_law_1050 : decode cL_law 1050 = .ok (.iadd, 1) := by decide +kernel
theorem dL_law_1051 : decode cL_law 1051 = .ok (.iaload, 1) := by decide +kernel
theorem dL_law_1052 : decode cL_law 1052 = .ok (.invokevirtual 119, 3) := by decide +kernel
theorem dL_law_1055 : decode cL_law 1055 = .ok (.if_icmp .eq 144, 3) := by decide +kernel
theorem dL_law_1058 : decode cL_law 1058 = .ok (.iconst 0, 1) := by decide +kernel
theorem dL_law_1059 : decode cL_law 1059 = .ok (.ireturn, 1) := by decide +kernel
theorem dL_law_1060 : decode cL_law 1060 = .ok (.aload_n 1, 1) := by decide +kernel
theorem dL_law_1061 : decode cL_law 1061 = .ok (.aload_n 0, 1) := by decide +kernel
theorem dL_law_1062 : decode cL_law 1062 = .ok (.iload_n 3, 1) := by decide +kernel
theorem dL_law_1063 : decode cL_law 1063 = .ok (.iconst 1, 1) := by decide +kernel
theorem dL_law_1064 : decode cL_law 1064 = .ok (.iadd, 1) := by decide +kernel
theorem dL_law_1065 : decode cL_law 1065 = .ok (.iaload, 1) := by decide +kernel
theorem dL_law_1066 : decode cL_law 1066 = .ok (.aload_n 0, 1) := by decide +kernel
theorem dL_law_1067 : decode cL_law 1067 = .ok (.iload_n 3, 1) := by decide +kernel
theorem dL_law_1068 : decode cL_law 1068 = .ok (.iconst 2, 1) := by decide +kernel
theorem dL_law_1069 : decode cL_law 1069 = .ok (.iadd, 1) := by decide +kernel
theorem dL_law_1070 : decode cL_law 1070 = .ok (.iaload, 1) := by decide +kernel
theorem dL_law_1071 : decode cL_law 1071 = .ok (.aload_n 0, 1) := by decide +kernel
theorem dL_law_1072 : decode cL_law 1072 = .ok (.iload_n 3, 1) := by decide +kernel
theorem dL_law_1073 : decode cL_law 1073 = .ok (.iconst 3, 1) := by decide +kernel
theorem dL_law_1074 : decode cL_law 1074 = .ok (.iadd, 1) := by decide +kernel
theorem dL_law_1075 : decode cL_law 1075 = .ok (.iaload, 1) := by decide +kernel
theorem dL_law_1076 : decode cL_law 1076 = .ok (.invokevirtual 120, 3) := by decide +kernel
theorem dL_law_1079 : decode cL_law 1079 = .ok (.aload_n 2, 1) := by decide +kernel
theorem dL_law_1080 : decode cL_law 1080 = .ok (.aload_n 0, 1) := by decide +kernel
theorem dL_law_1081 : decode cL_law 1081 = .ok (.iload_n 3, 1) := by decide +kernel
theorem dL_law_1082 : decode cL_law 1082 = .ok (.iconst 1, 1) := by decide +kernel
theorem dL_law_1083 : decode cL_law 1083 = .ok (.iadd, 1) := by decide +kernel
theorem dL_law_1084 : decode cL_law 1084 = .ok (.iaload, 1) := by decide +kernel
theorem dL_law_1085 : decode cL_law 1085 = .ok (.aload_n 0, 1) := by decide +kernel
theorem dL_law_1086 : decode cL_law 1086 = .ok (.iload_n 3, 1) := by decide +kernel
theorem dL_law_1087 : decode cL_law 1087 = .ok (.iconst 2, 1) := by decide +kernel
theorem dL_law_1088 : decode cL_law 1088 = .ok (.iadd, 1) := by decide +kernel
theorem dL_law_1089 : decode cL_law 1089 = .ok (.iaload, 1) := by decide +kernel
theorem dL_law_1090 : decode cL_law 1090 = .ok (.aload_n 0, 1) := by decide +kernel
theorem dL_law_1091 : decode cL_law 1091 = .ok (.iload_n 3, 1) := by decide +kernel
theorem dL_law_1092 : decode cL_law 1092 = .ok (.iconst 3, 1) := by decide +kernel
theorem dL_law_1093 : decode cL_law 1093 = .ok (.iadd, 1) := by decide +kernel
theorem dL_law_1094 : decode cL_law 1094 = .ok (.iaload, 1) := by decide +kernel
theorem dL_law_1095 : decode cL_law 1095 = .ok (.invokevirtual 123, 3) := by decide +kernel
theorem dL_law_1098 : decode cL_law 1098 = .ok (.if_icmp .eq 101, 3) := by decide +kernel
theorem dL_law_1101 : decode cL_law 1101 = .ok (.iconst 0, 1) := by decide +kernel
theorem dL_law_1102 : decode cL_law 1102 = .ok (.ireturn, 1) := by decide +kernel
theorem dL_law_1103 : decode cL_law 1103 = .ok (.aload_n 1, 1) := by decide +kernel
theorem dL_law_1104 : decode cL_law 1104 = .ok (.invokevirtual 124, 3) := by decide +kernel
theorem dL_law_1107 : decode cL_law 1107 = .ok (.aload_n 2, 1) := by decide +kernel
theorem dL_law_1108 : decode cL_law 1108 = .ok (.invokevirtual 127, 3) := by decide +kernel
theorem dL_law_1111 : decode cL_law 1111 = .ok (.if_icmp .eq 88, 3) := by decide +kernel
theorem dL_law_1114 : decode cL_law 1114 = .ok (.iconst 0, 1) := by decide +kernel
theorem dL_law_1115 : decode cL_law 1115 = .ok (.ireturn, 1) := by decide +kernel
theorem dL_law_1116 : decode cL_law 1116 = .ok (.aload_n 1, 1) := by decide +kernel
theorem dL_law_1117 : decode cL_law 1117 = .ok (.aload_n 0, 1) := by decide +kernel
theorem dL_law_1118 : decode cL_law 1118 = .ok (.iload_n 3, 1) := by decide +kernel
theorem dL_law_1119 : decode cL_law 1119 = .ok (.iconst 1, 1) := by decide +kernel
theorem dL_law_1120 : decode cL_law 1120 = .ok (.iadd, 1) := by decide +kernel
theorem dL_law_1121 : decode cL_law 1121 = .ok (.iaload, 1) := by decide +kernel
theorem dL_law_1122 : decode cL_law 1122 = .ok (.invokevirtual 128, 3) := by decide +kernel
theorem dL_law_1125 : decode cL_law 1125 = .ok (.aload_n 2, 1) := by decide +kernel
theorem dL_law_1126 : decode cL_law 1126 = .ok (.aload_n 0, 1) := by decide +kernel
theorem dL_law_1127 : decode cL_law 1127 = .ok (.iload_n 3, 1) := by decide +kernel
theorem dL_law_1128 : decode cL_law 1128 = .ok (.iconst 1, 1) := by decide +kernel
theorem dL_law_1129 : decode cL_law 1129 = .ok (.iadd, 1) := by decide +kernel
theorem dL_law_1130 : decode cL_law 1130 = .ok (.iaload, 1) := by decide +kernel
theorem dL_law_1131 : decode cL_law 1131 = .ok (.invokevirtual 131, 3) := by decide +kernel
theorem dL_law_1134 : decode cL_law 1134 = .ok (.if_icmp .eq 65, 3) := by decide +kernel
theorem dL_law_1137 : decode cL_law 1137 = .ok (.iconst 0, 1) := by decide +kernel
theorem dL_law_1138 : decode cL_law 1138 = .ok (.ireturn, 1) := by decide +kernel
theorem dL_law_1139 : decode cL_law 1139 = .ok (.aload_n 1, 1) := by decide +kernel
theorem dL_law_1140 : decode cL_law 1140 = .ok (.aload_n 0, 1) := by decide +kernel
theorem dL_law_1141 : decode cL_law 1141 = .ok (.iload_n 3, 1) := by decide +kernel
theorem dL_law_1142 : decode cL_law 1142 = .ok (.iconst 1, 1) := by decide +kernel
theorem dL_law_1143 : decode cL_law 1143 = .ok (.iadd, 1) := by decide +kernel
theorem dL_law_1144 : decode cL_law 1144 = .ok (.iaload, 1) := by decide +kernel
theorem dL_law_1145 : decode cL_law 1145 = .ok (.invokevirtual 132, 3) := by decide +kernel
theorem dL_law_1148 : decode cL_law 1148 = .ok (.aload_n 2, 1) := by decide +kernel
theorem dL_law_1149 : decode cL_law 1149 = .ok (.aload_n 0, 1) := by decide +kernel
theorem dL_law_1150 : decode cL_law 1150 = .ok (.iload_n 3, 1) := by decide +kernel
theorem dL_law_1151 : decode cL_law 1151 = .ok (.iconst 1, 1) := by decide +kernel
theorem dL_law_1152 : decode cL_law 1152 = .ok (.iadd, 1) := by decide +kernel
theorem dL_law_1153 : decode cL_law 1153 = .ok (.iaload, 1) := by decide +kernel
theorem dL_law_1154 : decode cL_law 1154 = .ok (.invokevirtual 135, 3) := by decide +kernel
theorem dL_law_1157 : decode cL_law 1157 = .ok (.if_icmp .eq 42, 3) := by decide +kernel
theorem dL_law_1160 : decode cL_law 1160 = .ok (.iconst 0, 1) := by decide +kernel
theorem dL_law_1161 : decode cL_law 1161 = .ok (.ireturn, 1) := by decide +kernel
theorem dL_law_1162 : decode cL_law 1162 = .ok (.aload_n 1, 1) := by decide +kernel
theorem dL_law_1163 : decode cL_law 1163 = .ok (.aload_n 0, 1) := by decide +kernel
theorem dL_law_1164 : decode cL_law 1164 = .ok (.iload_n 3, 1) := by decide +kernel
theorem dL_law_1165 : decode cL_law 1165 = .ok (.iconst 1, 1) := by decide +kernel
theorem dL_law_1166 : decode cL_law 1166 = .ok (.iadd, 1) := by decide +kernel
theorem dL_law_1167 : decode cL_law 1167 = .ok (.iaload, 1) := by decide +kernel
theorem dL_law_1168 : decode cL_law 1168 = .ok (.invokevirtual 136, 3) := by decide +kernel
theorem dL_law_1171 : decode cL_law 1171 = .ok (.aload_n 2, 1) := by decide +kernel
theorem dL_law_1172 : decode cL_law 1172 = .ok (.aload_n 0, 1) := by decide +kernel
theorem dL_law_1173 : decode cL_law 1173 = .ok (.iload_n 3, 1) := by decide +kernel
theorem dL_law_1174 : decode cL_law 1174 = .ok (.iconst 1, 1) := by decide +kernel
theorem dL_law_1175 : decode cL_law 1175 = .ok (.iadd, 1) := by decide +kernel
theorem dL_law_1176 : decode cL_law 1176 = .ok (.iaload, 1) := by decide +kernel
theorem dL_law_1177 : decode cL_law 1177 = .ok (.invokevirtual 139, 3) := by decide +kernel
theorem dL_law_1180 : decode cL_law 1180 = .ok (.if_icmp .eq 19, 3) := by decide +kernel
theorem dL_law_1183 : decode cL_law 1183 = .ok (.iconst 0, 1) := by decide +kernel
theorem dL_law_1184 : decode cL_law 1184 = .ok (.ireturn, 1) := by decide +kernel
theorem dL_law_1185 : decode cL_law 1185 = .ok (.aload_n 1, 1) := by decide +kernel
theorem dL_law_1186 : decode cL_law 1186 = .ok (.invokevirtual 140, 3) := by decide +kernel
theorem dL_law_1189 : decode cL_law 1189 = .ok (.aload_n 2, 1) := by decide +kernel
theorem dL_law_1190 : decode cL_law 1190 = .ok (.invokevirtual 144, 3) := by decide +kernel
theorem dL_law_1193 : decode cL_law 1193 = .ok (.lcmp, 1) := by decide +kernel
theorem dL_law_1194 : decode cL_law 1194 = .ok (.ifCond .eq 5, 3) := by decide +kernel
theorem dL_law_1197 : decode cL_law 1197 = .ok (.iconst 0, 1) := by decide +kernel
theorem dL_law_1198 : decode cL_law 1198 = .ok (.ireturn, 1) := by decide +kernel
theorem dL_law_1199 : decode cL_law 1199 = .ok (.iinc 3 6, 3) := by decide +kernel
theorem dL_law_1202 : decode cL_law 1202 = .ok (.goto (-1184), 3) := by decide +kernel
theorem dL_law_1205 : decode cL_law 1205 = .ok (.iconst 1, 1) := by decide +kernel
theorem dL_law_1206 : decode cL_law 1206 = .ok (.ireturn, 1) := by decide +kernel
end
section
/-- the words that hold anywhere in the run of the law: all good words of the law's own list -/
def BIG : List Cond := lw_tbl.filter goodWord
theorem big_in {i : Nat} {w : Cond} (h : lw_tbl[i]? = some w) (g : goodWord w = true) : w ∈ BIG := List.mem_filter.mpr ⟨List.mem_of_getElem? h, g⟩
theorem big_all {ws : List Cond} (ps : List Nat) (hp : ws = ps.filterMap (fun i => lw_tbl[i]?)) (h : ws.all goodWord = true) : ∀ w ∈ ws, w ∈ BIG := by
  intro w hw
  have h1 := List.all_eq_true.mp h w hw
  rw [hp] at hw
  obtain ⟨i, -, hi⟩ := List.mem_filterMap.mp hw
  exact big_in hi h1
theorem big_good : GoodIn BIG BIG := fun w h => ⟨h, good_of_word (List.mem_filter.mp h).2⟩
theorem big_law {args : Array Value} {s : State} (h : ∀ w ∈ lw_tbl, w.before args s = true) : ∀ w ∈ BIG, w.before args s = true := fun w hw => h w (List.mem_filter.mp hw).1
theorem bV_X7_foundOut : Cond.selects RX7 yX7_foundOut yX7_foundOut ∈ BIG := big_in (i := 0) (by decide +kernel) (by decide +kernel)
theorem bV_X6_addPair : Cond.selects RX6 yX6_addPair yX6_addPair ∈ BIG := big_in (i := 1) (by decide +kernel) (by decide +kernel)
theorem bV_X6_waveOf : Cond.selects RX6 yX6_waveOf yX6_waveOf ∈ BIG := big_in (i := 2) (by decide +kernel) (by decide +kernel)
theorem bV_X0_addBeam : Cond.selects RX0 yX0_addBeam yX0_addBeam ∈ BIG := big_in (i := 3) (by decide +kernel) (by decide +kernel)
theorem bV_X0_keptAt : Cond.selects RX0 yX0_keptAt yX0_keptAt ∈ BIG := big_in (i := 4) (by decide +kernel) (by decide +kernel)
theorem bV_X0_amountAt : Cond.selects RX0 yX0_amountAt yX0_amountAt ∈ BIG := big_in (i := 5) (by decide +kernel) (by decide +kernel)
theorem bV_X5_startOver : Cond.selects RX5 yX5_startOver yX5_startOver ∈ BIG := big_in (i := 6) (by decide +kernel) (by decide +kernel)
theorem bV_X5_whyNot : Cond.selects RX5 yX5_whyNot yX5_whyNot ∈ BIG := big_in (i := 7) (by decide +kernel) (by decide +kernel)
theorem bV_X5_minutesOf : Cond.selects RX5 yX5_minutesOf yX5_minutesOf ∈ BIG := big_in (i := 8) (by decide +kernel) (by decide +kernel)
theorem bV_X5_turnTo : Cond.selects RX5 yX5_turnTo yX5_turnTo ∈ BIG := big_in (i := 9) (by decide +kernel) (by decide +kernel)
theorem bV_X5_perform : Cond.selects RX5 yX5_perform yX5_perform ∈ BIG := big_in (i := 10) (by decide +kernel) (by decide +kernel)
theorem bV_X5_watch : Cond.selects RX5 yX5_watch yX5_watch ∈ BIG := big_in (i := 11) (by decide +kernel) (by decide +kernel)
theorem bV_X5_repeat : Cond.selects RX5 yX5_repeat yX5_repeat ∈ BIG := big_in (i := 12) (by decide +kernel) (by decide +kernel)
theorem bV_X8_all : Cond.selects RX8 yX8_all yX8_all ∈ BIG := big_in (i := 13) (by decide +kernel) (by decide +kernel)
theorem bV_X8_isDish : Cond.selects RX8 yX8_isDish yX8_isDish ∈ BIG := big_in (i := 14) (by decide +kernel) (by decide +kernel)
theorem bV_X8_meets : Cond.selects RX8 yX8_meets yX8_meets ∈ BIG := big_in (i := 15) (by decide +kernel) (by decide +kernel)
theorem bV_X8_lacks : Cond.selects RX8 yX8_lacks yX8_lacks ∈ BIG := big_in (i := 16) (by decide +kernel) (by decide +kernel)
theorem bV_X8_productOf : Cond.selects RX8 yX8_productOf yX8_productOf ∈ BIG := big_in (i := 17) (by decide +kernel) (by decide +kernel)
theorem bV_X8_multiply : Cond.selects RX8 yX8_multiply yX8_multiply ∈ BIG := big_in (i := 18) (by decide +kernel) (by decide +kernel)
theorem bV_X8_isSample : Cond.selects RX8 yX8_isSample yX8_isSample ∈ BIG := big_in (i := 19) (by decide +kernel) (by decide +kernel)
theorem bV_X8_sampleAt : Cond.selects RX8 yX8_sampleAt yX8_sampleAt ∈ BIG := big_in (i := 20) (by decide +kernel) (by decide +kernel)
theorem bV_X8_space : Cond.selects RX8 yX8_space yX8_space ∈ BIG := big_in (i := 21) (by decide +kernel) (by decide +kernel)
theorem bV_X8_beamNow : Cond.selects RX8 yX8_beamNow yX8_beamNow ∈ BIG := big_in (i := 22) (by decide +kernel) (by decide +kernel)
theorem bV_X8_wave : Cond.selects RX8 yX8_wave yX8_wave ∈ BIG := big_in (i := 23) (by decide +kernel) (by decide +kernel)
theorem bV_X8_cellOf : Cond.selects RX8 yX8_cellOf yX8_cellOf ∈ BIG := big_in (i := 24) (by decide +kernel) (by decide +kernel)
theorem bV_X8_cells : Cond.selects RX8 yX8_cells yX8_cells ∈ BIG := big_in (i := 25) (by decide +kernel) (by decide +kernel)
theorem bV_X8_keptBeam : Cond.selects RX8 yX8_keptBeam yX8_keptBeam ∈ BIG := big_in (i := 26) (by decide +kernel) (by decide +kernel)
theorem bV_X8_lays : Cond.selects RX8 yX8_lays yX8_lays ∈ BIG := big_in (i := 27) (by decide +kernel) (by decide +kernel)
theorem bV_X8_isOrder : Cond.selects RX8 yX8_isOrder yX8_isOrder ∈ BIG := big_in (i := 28) (by decide +kernel) (by decide +kernel)
theorem bV_X8_lengthOf : Cond.selects RX8 yX8_lengthOf yX8_lengthOf ∈ BIG := big_in (i := 29) (by decide +kernel) (by decide +kernel)
theorem bV_X8_turnOf : Cond.selects RX8 yX8_turnOf yX8_turnOf ∈ BIG := big_in (i := 30) (by decide +kernel) (by decide +kernel)
theorem bV_X8_isUpAll : Cond.selects RX8 yX8_isUpAll yX8_isUpAll ∈ BIG := big_in (i := 31) (by decide +kernel) (by decide +kernel)
theorem bV_X8_isUp : Cond.selects RX8 yX8_isUp yX8_isUp ∈ BIG := big_in (i := 32) (by decide +kernel) (by decide +kernel)
theorem bV_X8_does : Cond.selects RX8 yX8_does yX8_does ∈ BIG := big_in (i := 33) (by decide +kernel) (by decide +kernel)
theorem bN_L : Cond.initialized RL ∈ BIG := big_in (i := 34) (by decide +kernel) (by decide +kernel)
theorem bN_X7 : Cond.initialized RX7 ∈ BIG := big_in (i := 35) (by decide +kernel) (by decide +kernel)
theorem bN_X4 : Cond.initialized RX4 ∈ BIG := big_in (i := 36) (by decide +kernel) (by decide +kernel)
theorem bN_X6 : Cond.initialized RX6 ∈ BIG := big_in (i := 37) (by decide +kernel) (by decide +kernel)
theorem bN_X2 : Cond.initialized RX2 ∈ BIG := big_in (i := 38) (by decide +kernel) (by decide +kernel)
theorem bN_X0 : Cond.initialized RX0 ∈ BIG := big_in (i := 39) (by decide +kernel) (by decide +kernel)
theorem bN_X3 : Cond.initialized RX3 ∈ BIG := big_in (i := 40) (by decide +kernel) (by decide +kernel)
theorem bN_J7 : Cond.initialized RJ7 ∈ BIG := big_in (i := 41) (by decide +kernel) (by decide +kernel)
theorem bN_X5 : Cond.initialized RX5 ∈ BIG := big_in (i := 42) (by decide +kernel) (by decide +kernel)
theorem bN_X8 : Cond.initialized RX8 ∈ BIG := big_in (i := 43) (by decide +kernel) (by decide +kernel)
theorem bN_X1 : Cond.initialized RX1 ∈ BIG := big_in (i := 44) (by decide +kernel) (by decide +kernel)
theorem bN_J10 : Cond.initialized RJ10 ∈ BIG := big_in (i := 45) (by decide +kernel) (by decide +kernel)
theorem bN_J9 : Cond.initialized RJ9 ∈ BIG := big_in (i := 46) (by decide +kernel) (by decide +kernel)
theorem bN_J13 : Cond.initialized RJ13 ∈ BIG := big_in (i := 47) (by decide +kernel) (by decide +kernel)
theorem bK_L_7 : Cond.classLink RL 7 RX7 ∈ BIG := big_in (i := 48) (by decide +kernel) (by decide +kernel)
theorem bT_X7 : Cond.instantiable RX7 7 ∈ BIG := big_in (i := 49) (by decide +kernel) (by decide +kernel)
theorem bL_L_9 : Cond.methodLink RL 9 yX7_init ∈ BIG := big_in (i := 50) (by decide +kernel) (by decide +kernel)
theorem bI_X7_init : Cond.instanceMethod yX7_init ∈ BIG := big_in (i := 51) (by decide +kernel) (by decide +kernel)
theorem bC_X7_init : Cond.code yX7_init cX7_init 1 none ∈ BIG := big_in (i := 52) (by decide +kernel) (by decide +kernel)
theorem bL_X7_3 : Cond.methodLink RX7 3 objectInit ∈ BIG := big_in (i := 53) (by decide +kernel) (by decide +kernel)
theorem bI_oinit : Cond.instanceMethod objectInit ∈ BIG := big_in (i := 54) (by decide +kernel) (by decide +kernel)
theorem bC_oinit : Cond.code objectInit ⟨#[0xb1]⟩ 1 none ∈ BIG := big_in (i := 55) (by decide +kernel) (by decide +kernel)
theorem bK_X7_9 : Cond.classLink RX7 9 RX4 ∈ BIG := big_in (i := 56) (by decide +kernel) (by decide +kernel)
theorem bT_X4 : Cond.instantiable RX4 6 ∈ BIG := big_in (i := 57) (by decide +kernel) (by decide +kernel)
theorem bI_X4_init : Cond.instanceMethod yX4_init ∈ BIG := big_in (i := 59) (by decide +kernel) (by decide +kernel)
theorem bC_X4_init : Cond.code yX4_init cX4_init 1 none ∈ BIG := big_in (i := 60) (by decide +kernel) (by decide +kernel)
theorem bL_X4_3 : Cond.methodLink RX4 3 objectInit ∈ BIG := big_in (i := 61) (by decide +kernel) (by decide +kernel)
theorem bK_X4_11 : Cond.classLink RX4 11 RX1 ∈ BIG := big_in (i := 62) (by decide +kernel) (by decide +kernel)
theorem bF_X4_13 : Cond.fieldLink RX4 13 "DishHouse$Row" "dishes" "[LDishHouse$Dish;" ∈ BIG := big_in (i := 64) (by decide +kernel) (by decide +kernel)
theorem bF_X4_27 : Cond.fieldLink RX4 27 "DishHouse$Row" "size" "I" ∈ BIG := big_in (i := 65) (by decide +kernel) (by decide +kernel)
theorem bF_X6_24 : Cond.fieldLink RX6 24 "DishHouse$Row" "size" "I" ∈ BIG := big_in (i := 66) (by decide +kernel) (by decide +kernel)
theorem bF_X7_244 : Cond.fieldLink RX7 244 "DishHouse$Row" "size" "I" ∈ BIG := big_in (i := 67) (by decide +kernel) (by decide +kernel)
theorem bF_X4_17 : Cond.fieldLink RX4 17 "DishHouse$Row" "flagDishes" "[LDishHouse$Dish;" ∈ BIG := big_in (i := 68) (by decide +kernel) (by decide +kernel)
theorem bF_X4_20 : Cond.fieldLink RX4 20 "DishHouse$Row" "flagFroms" "[I" ∈ BIG := big_in (i := 69) (by decide +kernel) (by decide +kernel)
theorem bF_X4_24 : Cond.fieldLink RX4 24 "DishHouse$Row" "flagTos" "[I" ∈ BIG := big_in (i := 70) (by decide +kernel) (by decide +kernel)
theorem bF_X4_34 : Cond.fieldLink RX4 34 "DishHouse$Row" "flags" "I" ∈ BIG := big_in (i := 71) (by decide +kernel) (by decide +kernel)
theorem bF_X7_245 : Cond.fieldLink RX7 245 "DishHouse$Row" "flags" "I" ∈ BIG := big_in (i := 72) (by decide +kernel) (by decide +kernel)
theorem bA_int : Cond.arrayClass .int ∈ BIG := big_in (i := 86) (by decide +kernel) (by decide +kernel)
theorem bK_X7_16 : Cond.classLink RX7 16 RX6 ∈ BIG := big_in (i := 87) (by decide +kernel) (by decide +kernel)
theorem bT_X6 : Cond.instantiable RX6 4 ∈ BIG := big_in (i := 88) (by decide +kernel) (by decide +kernel)
theorem bI_X6_init : Cond.instanceMethod yX6_init ∈ BIG := big_in (i := 90) (by decide +kernel) (by decide +kernel)
theorem bC_X6_init : Cond.code yX6_init cX6_init 1 none ∈ BIG := big_in (i := 91) (by decide +kernel) (by decide +kernel)
theorem bL_X6_1 : Cond.methodLink RX6 1 objectInit ∈ BIG := big_in (i := 92) (by decide +kernel) (by decide +kernel)
theorem bF_X6_9 : Cond.fieldLink RX6 9 "DishHouse$Spacings" "us" "[I" ∈ BIG := big_in (i := 93) (by decide +kernel) (by decide +kernel)
theorem bF_X6_13 : Cond.fieldLink RX6 13 "DishHouse$Spacings" "vs" "[I" ∈ BIG := big_in (i := 94) (by decide +kernel) (by decide +kernel)
theorem bF_X6_16 : Cond.fieldLink RX6 16 "DishHouse$Spacings" "products" "[J" ∈ BIG := big_in (i := 95) (by decide +kernel) (by decide +kernel)
theorem bF_X6_20 : Cond.fieldLink RX6 20 "DishHouse$Spacings" "size" "I" ∈ BIG := big_in (i := 96) (by decide +kernel) (by decide +kernel)
theorem bF_X7_177 : Cond.fieldLink RX7 177 "DishHouse$Spacings" "size" "I" ∈ BIG := big_in (i := 97) (by decide +kernel) (by decide +kernel)
theorem bA_long : Cond.arrayClass .long ∈ BIG := big_in (i := 107) (by decide +kernel) (by decide +kernel)
theorem bK_X7_23 : Cond.classLink RX7 23 RX2 ∈ BIG := big_in (i := 108) (by decide +kernel) (by decide +kernel)
theorem bT_X2 : Cond.instantiable RX2 4 ∈ BIG := big_in (i := 109) (by decide +kernel) (by decide +kernel)
theorem bI_X2_init : Cond.instanceMethod yX2_init ∈ BIG := big_in (i := 111) (by decide +kernel) (by decide +kernel)
theorem bC_X2_init : Cond.code yX2_init cX2_init 1 none ∈ BIG := big_in (i := 112) (by decide +kernel) (by decide +kernel)
theorem bL_X2_3 : Cond.methodLink RX2 3 objectInit ∈ BIG := big_in (i := 113) (by decide +kernel) (by decide +kernel)
theorem bF_X2_11 : Cond.fieldLink RX2 11 "DishHouse$Points" "xs" "[I" ∈ BIG := big_in (i := 114) (by decide +kernel) (by decide +kernel)
theorem bF_X0_66 : Cond.fieldLink RX0 66 "DishHouse$Points" "xs" "[I" ∈ BIG := big_in (i := 115) (by decide +kernel) (by decide +kernel)
theorem bF_X2_15 : Cond.fieldLink RX2 15 "DishHouse$Points" "ys" "[I" ∈ BIG := big_in (i := 116) (by decide +kernel) (by decide +kernel)
theorem bF_X0_69 : Cond.fieldLink RX0 69 "DishHouse$Points" "ys" "[I" ∈ BIG := big_in (i := 117) (by decide +kernel) (by decide +kernel)
theorem bF_X2_18 : Cond.fieldLink RX2 18 "DishHouse$Points" "fluxes" "[I" ∈ BIG := big_in (i := 118) (by decide +kernel) (by decide +kernel)
theorem bF_X0_72 : Cond.fieldLink RX0 72 "DishHouse$Points" "fluxes" "[I" ∈ BIG := big_in (i := 119) (by decide +kernel) (by decide +kernel)
theorem bF_X2_21 : Cond.fieldLink RX2 21 "DishHouse$Points" "size" "I" ∈ BIG := big_in (i := 120) (by decide +kernel) (by decide +kernel)
theorem bF_X0_61 : Cond.fieldLink RX0 61 "DishHouse$Points" "size" "I" ∈ BIG := big_in (i := 121) (by decide +kernel) (by decide +kernel)
theorem bF_X7_163 : Cond.fieldLink RX7 163 "DishHouse$Points" "size" "I" ∈ BIG := big_in (i := 122) (by decide +kernel) (by decide +kernel)
theorem bK_X7_30 : Cond.classLink RX7 30 RX0 ∈ BIG := big_in (i := 132) (by decide +kernel) (by decide +kernel)
theorem bT_X0 : Cond.instantiable RX0 9 ∈ BIG := big_in (i := 133) (by decide +kernel) (by decide +kernel)
theorem bI_X0_init : Cond.instanceMethod yX0_init ∈ BIG := big_in (i := 135) (by decide +kernel) (by decide +kernel)
theorem bC_X0_init : Cond.code yX0_init cX0_init 1 none ∈ BIG := big_in (i := 136) (by decide +kernel) (by decide +kernel)
theorem bL_X0_3 : Cond.methodLink RX0 3 objectInit ∈ BIG := big_in (i := 137) (by decide +kernel) (by decide +kernel)
theorem bF_X0_9 : Cond.fieldLink RX0 9 "DishHouse$Board" "cells" "[J" ∈ BIG := big_in (i := 138) (by decide +kernel) (by decide +kernel)
theorem bF_X7_178 : Cond.fieldLink RX7 178 "DishHouse$Board" "cells" "[J" ∈ BIG := big_in (i := 139) (by decide +kernel) (by decide +kernel)
theorem bF_X0_15 : Cond.fieldLink RX0 15 "DishHouse$Board" "kept" "[I" ∈ BIG := big_in (i := 140) (by decide +kernel) (by decide +kernel)
theorem bF_X0_19 : Cond.fieldLink RX0 19 "DishHouse$Board" "partCells" "[I" ∈ BIG := big_in (i := 141) (by decide +kernel) (by decide +kernel)
theorem bF_X7_198 : Cond.fieldLink RX7 198 "DishHouse$Board" "partCells" "[I" ∈ BIG := big_in (i := 142) (by decide +kernel) (by decide +kernel)
theorem bF_X0_22 : Cond.fieldLink RX0 22 "DishHouse$Board" "partAmounts" "[J" ∈ BIG := big_in (i := 143) (by decide +kernel) (by decide +kernel)
theorem bF_X7_201 : Cond.fieldLink RX7 201 "DishHouse$Board" "partAmounts" "[J" ∈ BIG := big_in (i := 144) (by decide +kernel) (by decide +kernel)
theorem bF_X0_38 : Cond.fieldLink RX0 38 "DishHouse$Board" "parts" "I" ∈ BIG := big_in (i := 145) (by decide +kernel) (by decide +kernel)
theorem bF_X7_192 : Cond.fieldLink RX7 192 "DishHouse$Board" "parts" "I" ∈ BIG := big_in (i := 146) (by decide +kernel) (by decide +kernel)
theorem bF_X0_25 : Cond.fieldLink RX0 25 "DishHouse$Board" "left" "I" ∈ BIG := big_in (i := 147) (by decide +kernel) (by decide +kernel)
theorem bF_X0_29 : Cond.fieldLink RX0 29 "DishHouse$Board" "top" "I" ∈ BIG := big_in (i := 148) (by decide +kernel) (by decide +kernel)
theorem bF_X0_32 : Cond.fieldLink RX0 32 "DishHouse$Board" "right" "I" ∈ BIG := big_in (i := 149) (by decide +kernel) (by decide +kernel)
theorem bF_X0_35 : Cond.fieldLink RX0 35 "DishHouse$Board" "bottom" "I" ∈ BIG := big_in (i := 150) (by decide +kernel) (by decide +kernel)
theorem bK_X7_37 : Cond.classLink RX7 37 RX3 ∈ BIG := big_in (i := 170) (by decide +kernel) (by decide +kernel)
theorem bT_X3 : Cond.instantiable RX3 6 ∈ BIG := big_in (i := 171) (by decide +kernel) (by decide +kernel)
theorem bL_X7_39 : Cond.methodLink RX7 39 yX3_init ∈ BIG := big_in (i := 172) (by decide +kernel) (by decide +kernel)
theorem bI_X3_init : Cond.instanceMethod yX3_init ∈ BIG := big_in (i := 173) (by decide +kernel) (by decide +kernel)
theorem bC_X3_init : Cond.code yX3_init cX3_init 1 none ∈ BIG := big_in (i := 174) (by decide +kernel) (by decide +kernel)
theorem bL_X3_3 : Cond.methodLink RX3 3 objectInit ∈ BIG := big_in (i := 175) (by decide +kernel) (by decide +kernel)
theorem bL_X3_27 : Cond.methodLink RX3 27 yJ7_fill_53178 ∈ BIG := big_in (i := 176) (by decide +kernel) (by decide +kernel)
theorem bS_J7_fill_53178 : Cond.static yJ7_fill_53178 ∈ BIG := big_in (i := 177) (by decide +kernel) (by decide +kernel)
theorem bC_J7_fill_53178 : Cond.code yJ7_fill_53178 cJ7_fill_53178 4 none ∈ BIG := big_in (i := 178) (by decide +kernel) (by decide +kernel)
theorem bF_X3_11 : Cond.fieldLink RX3 11 "DishHouse$Program" "kinds" "[I" ∈ BIG := big_in (i := 179) (by decide +kernel) (by decide +kernel)
theorem bF_X5_69 : Cond.fieldLink RX5 69 "DishHouse$Program" "kinds" "[I" ∈ BIG := big_in (i := 180) (by decide +kernel) (by decide +kernel)
theorem bF_X3_15 : Cond.fieldLink RX3 15 "DishHouse$Program" "as" "[I" ∈ BIG := big_in (i := 181) (by decide +kernel) (by decide +kernel)
theorem bF_X5_76 : Cond.fieldLink RX5 76 "DishHouse$Program" "as" "[I" ∈ BIG := big_in (i := 182) (by decide +kernel) (by decide +kernel)
theorem bF_X3_18 : Cond.fieldLink RX3 18 "DishHouse$Program" "bs" "[I" ∈ BIG := big_in (i := 183) (by decide +kernel) (by decide +kernel)
theorem bF_X5_63 : Cond.fieldLink RX5 63 "DishHouse$Program" "bs" "[I" ∈ BIG := big_in (i := 184) (by decide +kernel) (by decide +kernel)
theorem bF_X5_28 : Cond.fieldLink RX5 28 "DishHouse$Program" "size" "I" ∈ BIG := big_in (i := 185) (by decide +kernel) (by decide +kernel)
theorem bF_X3_37 : Cond.fieldLink RX3 37 "DishHouse$Program" "size" "I" ∈ BIG := big_in (i := 186) (by decide +kernel) (by decide +kernel)
theorem bF_X7_217 : Cond.fieldLink RX7 217 "DishHouse$Program" "size" "I" ∈ BIG := big_in (i := 187) (by decide +kernel) (by decide +kernel)
theorem bF_X3_21 : Cond.fieldLink RX3 21 "DishHouse$Program" "rises" "[I" ∈ BIG := big_in (i := 188) (by decide +kernel) (by decide +kernel)
theorem bF_X7_207 : Cond.fieldLink RX7 207 "DishHouse$Program" "rises" "[I" ∈ BIG := big_in (i := 189) (by decide +kernel) (by decide +kernel)
theorem bF_X3_24 : Cond.fieldLink RX3 24 "DishHouse$Program" "sets" "[I" ∈ BIG := big_in (i := 190) (by decide +kernel) (by decide +kernel)
theorem bF_X7_210 : Cond.fieldLink RX7 210 "DishHouse$Program" "sets" "[I" ∈ BIG := big_in (i := 191) (by decide +kernel) (by decide +kernel)
theorem bK_X7_44 : Cond.classLink RX7 44 RX5 ∈ BIG := big_in (i := 205) (by decide +kernel) (by decide +kernel)
theorem bT_X5 : Cond.instantiable RX5 9 ∈ BIG := big_in (i := 206) (by decide +kernel) (by decide +kernel)
theorem bI_X5_init : Cond.instanceMethod yX5_init ∈ BIG := big_in (i := 208) (by decide +kernel) (by decide +kernel)
theorem bC_X5_init : Cond.code yX5_init cX5_init 1 none ∈ BIG := big_in (i := 209) (by decide +kernel) (by decide +kernel)
theorem bL_X5_3 : Cond.methodLink RX5 3 objectInit ∈ BIG := big_in (i := 210) (by decide +kernel) (by decide +kernel)
theorem bF_X5_11 : Cond.fieldLink RX5 11 "DishHouse$Run" "remaining" "[I" ∈ BIG := big_in (i := 211) (by decide +kernel) (by decide +kernel)
theorem bF_X5_17 : Cond.fieldLink RX5 17 "DishHouse$Run" "watchedOf" "[I" ∈ BIG := big_in (i := 212) (by decide +kernel) (by decide +kernel)
theorem bF_X7_223 : Cond.fieldLink RX7 223 "DishHouse$Run" "watchedOf" "[I" ∈ BIG := big_in (i := 213) (by decide +kernel) (by decide +kernel)
theorem bF_X5_42 : Cond.fieldLink RX5 42 "DishHouse$Run" "minute" "I" ∈ BIG := big_in (i := 214) (by decide +kernel) (by decide +kernel)
theorem bF_X7_226 : Cond.fieldLink RX7 226 "DishHouse$Run" "minute" "I" ∈ BIG := big_in (i := 215) (by decide +kernel) (by decide +kernel)
theorem bF_X5_45 : Cond.fieldLink RX5 45 "DishHouse$Run" "azimuth" "I" ∈ BIG := big_in (i := 216) (by decide +kernel) (by decide +kernel)
theorem bF_X7_229 : Cond.fieldLink RX7 229 "DishHouse$Run" "azimuth" "I" ∈ BIG := big_in (i := 217) (by decide +kernel) (by decide +kernel)
theorem bF_X5_48 : Cond.fieldLink RX5 48 "DishHouse$Run" "watched" "I" ∈ BIG := big_in (i := 218) (by decide +kernel) (by decide +kernel)
theorem bF_X7_232 : Cond.fieldLink RX7 232 "DishHouse$Run" "watched" "I" ∈ BIG := big_in (i := 219) (by decide +kernel) (by decide +kernel)
theorem bF_X5_39 : Cond.fieldLink RX5 39 "DishHouse$Run" "finished" "I" ∈ BIG := big_in (i := 220) (by decide +kernel) (by decide +kernel)
theorem bF_X7_235 : Cond.fieldLink RX7 235 "DishHouse$Run" "finished" "I" ∈ BIG := big_in (i := 221) (by decide +kernel) (by decide +kernel)
theorem bF_X5_20 : Cond.fieldLink RX5 20 "DishHouse$Run" "endedAt" "I" ∈ BIG := big_in (i := 222) (by decide +kernel) (by decide +kernel)
theorem bF_X7_238 : Cond.fieldLink RX7 238 "DishHouse$Run" "endedAt" "I" ∈ BIG := big_in (i := 223) (by decide +kernel) (by decide +kernel)
theorem bF_X5_51 : Cond.fieldLink RX5 51 "DishHouse$Run" "turning" "I" ∈ BIG := big_in (i := 224) (by decide +kernel) (by decide +kernel)
theorem bF_X7_241 : Cond.fieldLink RX7 241 "DishHouse$Run" "turning" "I" ∈ BIG := big_in (i := 225) (by decide +kernel) (by decide +kernel)
theorem bF_X5_54 : Cond.fieldLink RX5 54 "DishHouse$Run" "stormEnd" "I" ∈ BIG := big_in (i := 226) (by decide +kernel) (by decide +kernel)
theorem bF_X7_12 : Cond.fieldLink RX7 12 "DishHouse" "row" "LDishHouse$Row;" ∈ BIG := big_in (i := 246) (by decide +kernel) (by decide +kernel)
theorem bF_X7_19 : Cond.fieldLink RX7 19 "DishHouse" "spacings" "LDishHouse$Spacings;" ∈ BIG := big_in (i := 247) (by decide +kernel) (by decide +kernel)
theorem bF_X7_26 : Cond.fieldLink RX7 26 "DishHouse" "points" "LDishHouse$Points;" ∈ BIG := big_in (i := 248) (by decide +kernel) (by decide +kernel)
theorem bF_X7_33 : Cond.fieldLink RX7 33 "DishHouse" "board" "LDishHouse$Board;" ∈ BIG := big_in (i := 249) (by decide +kernel) (by decide +kernel)
theorem bF_X7_40 : Cond.fieldLink RX7 40 "DishHouse" "program" "LDishHouse$Program;" ∈ BIG := big_in (i := 250) (by decide +kernel) (by decide +kernel)
theorem bF_X7_47 : Cond.fieldLink RX7 47 "DishHouse" "run" "LDishHouse$Run;" ∈ BIG := big_in (i := 251) (by decide +kernel) (by decide +kernel)
theorem bF_X7_248 : Cond.fieldLink RX7 248 "DishHouse" "finding" "I" ∈ BIG := big_in (i := 252) (by decide +kernel) (by decide +kernel)
theorem bL_L_13 : Cond.methodLink RL 13 yX7_dish ∈ BIG := big_in (i := 268) (by decide +kernel) (by decide +kernel)
theorem bI_X7_dish : Cond.instanceMethod yX7_dish ∈ BIG := big_in (i := 269) (by decide +kernel) (by decide +kernel)
theorem bV_X7_dish : Cond.selects RX7 yX7_dish yX7_dish ∈ BIG := big_in (i := 270) (by decide +kernel) (by decide +kernel)
theorem bC_X7_dish : Cond.code yX7_dish cX7_dish 3 (some .int) ∈ BIG := big_in (i := 271) (by decide +kernel) (by decide +kernel)
theorem bL_X7_51 : Cond.methodLink RX7 51 yX7_isWithin ∈ BIG := big_in (i := 272) (by decide +kernel) (by decide +kernel)
theorem bS_X7_isWithin : Cond.static yX7_isWithin ∈ BIG := big_in (i := 273) (by decide +kernel) (by decide +kernel)
theorem bC_X7_isWithin : Cond.code yX7_isWithin cX7_isWithin 3 (some .boolean) ∈ BIG := big_in (i := 274) (by decide +kernel) (by decide +kernel)
theorem bL_X7_55 : Cond.methodLink RX7 55 yX4_addDish ∈ BIG := big_in (i := 275) (by decide +kernel) (by decide +kernel)
theorem bI_X4_addDish : Cond.instanceMethod yX4_addDish ∈ BIG := big_in (i := 276) (by decide +kernel) (by decide +kernel)
theorem bV_X4_addDish : Cond.selects RX4 yX4_addDish yX4_addDish ∈ BIG := big_in (i := 277) (by decide +kernel) (by decide +kernel)
theorem bC_X4_addDish : Cond.code yX4_addDish cX4_addDish 3 (some .int) ∈ BIG := big_in (i := 278) (by decide +kernel) (by decide +kernel)
theorem bT_X1 : Cond.instantiable RX1 8 ∈ BIG := big_in (i := 279) (by decide +kernel) (by decide +kernel)
theorem bL_X4_31 : Cond.methodLink RX4 31 yX1_init ∈ BIG := big_in (i := 280) (by decide +kernel) (by decide +kernel)
theorem bI_X1_init : Cond.instanceMethod yX1_init ∈ BIG := big_in (i := 281) (by decide +kernel) (by decide +kernel)
theorem bC_X1_init : Cond.code yX1_init cX1_init 3 none ∈ BIG := big_in (i := 282) (by decide +kernel) (by decide +kernel)
theorem bL_X1_3 : Cond.methodLink RX1 3 objectInit ∈ BIG := big_in (i := 283) (by decide +kernel) (by decide +kernel)
theorem bF_X1_31 : Cond.fieldLink RX1 31 "DishHouse$Dish" "x" "I" ∈ BIG := big_in (i := 284) (by decide +kernel) (by decide +kernel)
theorem bF_X6_41 : Cond.fieldLink RX6 41 "DishHouse$Dish" "x" "I" ∈ BIG := big_in (i := 285) (by decide +kernel) (by decide +kernel)
theorem bF_X1_34 : Cond.fieldLink RX1 34 "DishHouse$Dish" "y" "I" ∈ BIG := big_in (i := 286) (by decide +kernel) (by decide +kernel)
theorem bF_X6_44 : Cond.fieldLink RX6 44 "DishHouse$Dish" "y" "I" ∈ BIG := big_in (i := 287) (by decide +kernel) (by decide +kernel)
theorem bF_X1_9 : Cond.fieldLink RX1 9 "DishHouse$Dish" "delay" "I" ∈ BIG := big_in (i := 288) (by decide +kernel) (by decide +kernel)
theorem bF_X7_63 : Cond.fieldLink RX7 63 "DishHouse$Dish" "delay" "I" ∈ BIG := big_in (i := 289) (by decide +kernel) (by decide +kernel)
theorem bF_X6_47 : Cond.fieldLink RX6 47 "DishHouse$Dish" "delay" "I" ∈ BIG := big_in (i := 290) (by decide +kernel) (by decide +kernel)
theorem bF_X1_15 : Cond.fieldLink RX1 15 "DishHouse$Dish" "gain" "I" ∈ BIG := big_in (i := 291) (by decide +kernel) (by decide +kernel)
theorem bF_X7_69 : Cond.fieldLink RX7 69 "DishHouse$Dish" "gain" "I" ∈ BIG := big_in (i := 292) (by decide +kernel) (by decide +kernel)
theorem bF_X1_18 : Cond.fieldLink RX1 18 "DishHouse$Dish" "form" "I" ∈ BIG := big_in (i := 293) (by decide +kernel) (by decide +kernel)
theorem bF_X7_101 : Cond.fieldLink RX7 101 "DishHouse$Dish" "form" "I" ∈ BIG := big_in (i := 294) (by decide +kernel) (by decide +kernel)
theorem bF_X1_21 : Cond.fieldLink RX1 21 "DishHouse$Dish" "length" "I" ∈ BIG := big_in (i := 295) (by decide +kernel) (by decide +kernel)
theorem bF_X7_88 : Cond.fieldLink RX7 88 "DishHouse$Dish" "length" "I" ∈ BIG := big_in (i := 296) (by decide +kernel) (by decide +kernel)
theorem bF_X1_24 : Cond.fieldLink RX1 24 "DishHouse$Dish" "items" "[I" ∈ BIG := big_in (i := 297) (by decide +kernel) (by decide +kernel)
theorem bF_X7_108 : Cond.fieldLink RX7 108 "DishHouse$Dish" "items" "[I" ∈ BIG := big_in (i := 298) (by decide +kernel) (by decide +kernel)
theorem bF_X1_28 : Cond.fieldLink RX1 28 "DishHouse$Dish" "flagged" "[I" ∈ BIG := big_in (i := 299) (by decide +kernel) (by decide +kernel)
theorem bL_L_18 : Cond.methodLink RL 18 yX7_tune ∈ BIG := big_in (i := 317) (by decide +kernel) (by decide +kernel)
theorem bI_X7_tune : Cond.instanceMethod yX7_tune ∈ BIG := big_in (i := 318) (by decide +kernel) (by decide +kernel)
theorem bV_X7_tune : Cond.selects RX7 yX7_tune yX7_tune ∈ BIG := big_in (i := 319) (by decide +kernel) (by decide +kernel)
theorem bC_X7_tune : Cond.code yX7_tune cX7_tune 5 (some .int) ∈ BIG := big_in (i := 320) (by decide +kernel) (by decide +kernel)
theorem bL_X7_59 : Cond.methodLink RX7 59 yX4_find ∈ BIG := big_in (i := 321) (by decide +kernel) (by decide +kernel)
theorem bI_X4_find : Cond.instanceMethod yX4_find ∈ BIG := big_in (i := 322) (by decide +kernel) (by decide +kernel)
theorem bV_X4_find : Cond.selects RX4 yX4_find yX4_find ∈ BIG := big_in (i := 323) (by decide +kernel) (by decide +kernel)
theorem bC_X4_find : Cond.code yX4_find cX4_find 2 (some (.object "DishHouse$Dish")) ∈ BIG := big_in (i := 324) (by decide +kernel) (by decide +kernel)
theorem bL_L_23 : Cond.methodLink RL 23 yX7_reel ∈ BIG := big_in (i := 325) (by decide +kernel) (by decide +kernel)
theorem bI_X7_reel : Cond.instanceMethod yX7_reel ∈ BIG := big_in (i := 326) (by decide +kernel) (by decide +kernel)
theorem bV_X7_reel : Cond.selects RX7 yX7_reel yX7_reel ∈ BIG := big_in (i := 327) (by decide +kernel) (by decide +kernel)
theorem bC_X7_reel : Cond.code yX7_reel cX7_reel 5 (some .int) ∈ BIG := big_in (i := 328) (by decide +kernel) (by decide +kernel)
theorem bL_X7_72 : Cond.methodLink RX7 72 yX7_isForm ∈ BIG := big_in (i := 329) (by decide +kernel) (by decide +kernel)
theorem bS_X7_isForm : Cond.static yX7_isForm ∈ BIG := big_in (i := 330) (by decide +kernel) (by decide +kernel)
theorem bC_X7_isForm : Cond.code yX7_isForm cX7_isForm 1 (some .boolean) ∈ BIG := big_in (i := 331) (by decide +kernel) (by decide +kernel)
theorem bL_X7_76 : Cond.methodLink RX7 76 yX7_foundOut ∈ BIG := big_in (i := 332) (by decide +kernel) (by decide +kernel)
theorem bI_X7_foundOut : Cond.instanceMethod yX7_foundOut ∈ BIG := big_in (i := 334) (by decide +kernel) (by decide +kernel)
theorem bC_X7_foundOut : Cond.code yX7_foundOut cX7_foundOut 2 (some .int) ∈ BIG := big_in (i := 335) (by decide +kernel) (by decide +kernel)
theorem bL_X7_80 : Cond.methodLink RX7 80 yX1_renew ∈ BIG := big_in (i := 336) (by decide +kernel) (by decide +kernel)
theorem bI_X1_renew : Cond.instanceMethod yX1_renew ∈ BIG := big_in (i := 337) (by decide +kernel) (by decide +kernel)
theorem bV_X1_renew : Cond.selects RX1 yX1_renew yX1_renew ∈ BIG := big_in (i := 338) (by decide +kernel) (by decide +kernel)
theorem bC_X1_renew : Cond.code yX1_renew cX1_renew 3 none ∈ BIG := big_in (i := 339) (by decide +kernel) (by decide +kernel)
theorem bL_X1_37 : Cond.methodLink RX1 37 yJ7_fill_53178 ∈ BIG := big_in (i := 340) (by decide +kernel) (by decide +kernel)
theorem bL_L_27 : Cond.methodLink RL 27 yX7_lose ∈ BIG := big_in (i := 341) (by decide +kernel) (by decide +kernel)
theorem bI_X7_lose : Cond.instanceMethod yX7_lose ∈ BIG := big_in (i := 342) (by decide +kernel) (by decide +kernel)
theorem bV_X7_lose : Cond.selects RX7 yX7_lose yX7_lose ∈ BIG := big_in (i := 343) (by decide +kernel) (by decide +kernel)
theorem bC_X7_lose : Cond.code yX7_lose cX7_lose 4 (some .int) ∈ BIG := big_in (i := 344) (by decide +kernel) (by decide +kernel)
theorem bL_X7_84 : Cond.methodLink RX7 84 yX1_isLost ∈ BIG := big_in (i := 345) (by decide +kernel) (by decide +kernel)
theorem bI_X1_isLost : Cond.instanceMethod yX1_isLost ∈ BIG := big_in (i := 346) (by decide +kernel) (by decide +kernel)
theorem bV_X1_isLost : Cond.selects RX1 yX1_isLost yX1_isLost ∈ BIG := big_in (i := 347) (by decide +kernel) (by decide +kernel)
theorem bC_X1_isLost : Cond.code yX1_isLost cX1_isLost 1 (some .boolean) ∈ BIG := big_in (i := 348) (by decide +kernel) (by decide +kernel)
theorem bL_L_32 : Cond.methodLink RL 32 yX7_put ∈ BIG := big_in (i := 349) (by decide +kernel) (by decide +kernel)
theorem bI_X7_put : Cond.instanceMethod yX7_put ∈ BIG := big_in (i := 350) (by decide +kernel) (by decide +kernel)
theorem bV_X7_put : Cond.selects RX7 yX7_put yX7_put ∈ BIG := big_in (i := 351) (by decide +kernel) (by decide +kernel)
theorem bC_X7_put : Cond.code yX7_put cX7_put 7 (some .int) ∈ BIG := big_in (i := 352) (by decide +kernel) (by decide +kernel)
theorem bL_X7_91 : Cond.methodLink RX7 91 yX1_faultOf ∈ BIG := big_in (i := 353) (by decide +kernel) (by decide +kernel)
theorem bI_X1_faultOf : Cond.instanceMethod yX1_faultOf ∈ BIG := big_in (i := 354) (by decide +kernel) (by decide +kernel)
theorem bV_X1_faultOf : Cond.selects RX1 yX1_faultOf yX1_faultOf ∈ BIG := big_in (i := 355) (by decide +kernel) (by decide +kernel)
theorem bC_X1_faultOf : Cond.code yX1_faultOf cX1_faultOf 3 (some .int) ∈ BIG := big_in (i := 356) (by decide +kernel) (by decide +kernel)
theorem bL_X1_43 : Cond.methodLink RX1 43 yX1_isLost ∈ BIG := big_in (i := 357) (by decide +kernel) (by decide +kernel)
theorem bL_X1_47 : Cond.methodLink RX1 47 yX1_hasItem ∈ BIG := big_in (i := 358) (by decide +kernel) (by decide +kernel)
theorem bI_X1_hasItem : Cond.instanceMethod yX1_hasItem ∈ BIG := big_in (i := 359) (by decide +kernel) (by decide +kernel)
theorem bV_X1_hasItem : Cond.selects RX1 yX1_hasItem yX1_hasItem ∈ BIG := big_in (i := 360) (by decide +kernel) (by decide +kernel)
theorem bC_X1_hasItem : Cond.code yX1_hasItem cX1_hasItem 2 (some .boolean) ∈ BIG := big_in (i := 361) (by decide +kernel) (by decide +kernel)
theorem bL_X7_94 : Cond.methodLink RX7 94 yX1_store ∈ BIG := big_in (i := 362) (by decide +kernel) (by decide +kernel)
theorem bI_X1_store : Cond.instanceMethod yX1_store ∈ BIG := big_in (i := 363) (by decide +kernel) (by decide +kernel)
theorem bV_X1_store : Cond.selects RX1 yX1_store yX1_store ∈ BIG := big_in (i := 364) (by decide +kernel) (by decide +kernel)
theorem bC_X1_store : Cond.code yX1_store cX1_store 3 none ∈ BIG := big_in (i := 365) (by decide +kernel) (by decide +kernel)
theorem bL_L_37 : Cond.methodLink RL 37 yX7_get ∈ BIG := big_in (i := 366) (by decide +kernel) (by decide +kernel)
theorem bI_X7_get : Cond.instanceMethod yX7_get ∈ BIG := big_in (i := 367) (by decide +kernel) (by decide +kernel)
theorem bV_X7_get : Cond.selects RX7 yX7_get yX7_get ∈ BIG := big_in (i := 368) (by decide +kernel) (by decide +kernel)
theorem bC_X7_get : Cond.code yX7_get cX7_get 6 (some .int) ∈ BIG := big_in (i := 369) (by decide +kernel) (by decide +kernel)
theorem bQ_X7_97 : Cond.constant RX7 97 (-2147483648) ∈ BIG := big_in (i := 370) (by decide +kernel) (by decide +kernel)
theorem bL_X7_98 : Cond.methodLink RX7 98 yX1_load ∈ BIG := big_in (i := 371) (by decide +kernel) (by decide +kernel)
theorem bI_X1_load : Cond.instanceMethod yX1_load ∈ BIG := big_in (i := 372) (by decide +kernel) (by decide +kernel)
theorem bV_X1_load : Cond.selects RX1 yX1_load yX1_load ∈ BIG := big_in (i := 373) (by decide +kernel) (by decide +kernel)
theorem bC_X1_load : Cond.code yX1_load cX1_load 2 (some .int) ∈ BIG := big_in (i := 374) (by decide +kernel) (by decide +kernel)
theorem bL_L_41 : Cond.methodLink RL 41 yX7_copy ∈ BIG := big_in (i := 375) (by decide +kernel) (by decide +kernel)
theorem bI_X7_copy : Cond.instanceMethod yX7_copy ∈ BIG := big_in (i := 376) (by decide +kernel) (by decide +kernel)
theorem bV_X7_copy : Cond.selects RX7 yX7_copy yX7_copy ∈ BIG := big_in (i := 377) (by decide +kernel) (by decide +kernel)
theorem bC_X7_copy : Cond.code yX7_copy cX7_copy 8 (some .int) ∈ BIG := big_in (i := 378) (by decide +kernel) (by decide +kernel)
theorem bL_X7_104 : Cond.methodLink RX7 104 yX1_hasSpan ∈ BIG := big_in (i := 379) (by decide +kernel) (by decide +kernel)
theorem bI_X1_hasSpan : Cond.instanceMethod yX1_hasSpan ∈ BIG := big_in (i := 380) (by decide +kernel) (by decide +kernel)
theorem bV_X1_hasSpan : Cond.selects RX1 yX1_hasSpan yX1_hasSpan ∈ BIG := big_in (i := 381) (by decide +kernel) (by decide +kernel)
theorem bC_X1_hasSpan : Cond.code yX1_hasSpan cX1_hasSpan 3 (some .boolean) ∈ BIG := big_in (i := 382) (by decide +kernel) (by decide +kernel)
theorem bL_X7_112 : Cond.methodLink RX7 112 arraycopyName ∈ BIG := big_in (i := 383) (by decide +kernel) (by decide +kernel)
theorem bS_acopy : Cond.static arraycopyName ∈ BIG := big_in (i := 384) (by decide +kernel) (by decide +kernel)
theorem bNat_acopy : Cond.native arraycopyName ∈ BIG := big_in (i := 385) (by decide +kernel) (by decide +kernel)
theorem bL_L_46 : Cond.methodLink RL 46 yX7_flag ∈ BIG := big_in (i := 386) (by decide +kernel) (by decide +kernel)
theorem bI_X7_flag : Cond.instanceMethod yX7_flag ∈ BIG := big_in (i := 387) (by decide +kernel) (by decide +kernel)
theorem bV_X7_flag : Cond.selects RX7 yX7_flag yX7_flag ∈ BIG := big_in (i := 388) (by decide +kernel) (by decide +kernel)
theorem bC_X7_flag : Cond.code yX7_flag cX7_flag 5 (some .int) ∈ BIG := big_in (i := 389) (by decide +kernel) (by decide +kernel)
theorem bL_X7_118 : Cond.methodLink RX7 118 yX4_addFlag ∈ BIG := big_in (i := 390) (by decide +kernel) (by decide +kernel)
theorem bI_X4_addFlag : Cond.instanceMethod yX4_addFlag ∈ BIG := big_in (i := 391) (by decide +kernel) (by decide +kernel)
theorem bV_X4_addFlag : Cond.selects RX4 yX4_addFlag yX4_addFlag ∈ BIG := big_in (i := 392) (by decide +kernel) (by decide +kernel)
theorem bC_X4_addFlag : Cond.code yX4_addFlag cX4_addFlag 4 (some .int) ∈ BIG := big_in (i := 393) (by decide +kernel) (by decide +kernel)
theorem bL_X4_37 : Cond.methodLink RX4 37 yX1_addFlags ∈ BIG := big_in (i := 394) (by decide +kernel) (by decide +kernel)
theorem bI_X1_addFlags : Cond.instanceMethod yX1_addFlags ∈ BIG := big_in (i := 395) (by decide +kernel) (by decide +kernel)
theorem bV_X1_addFlags : Cond.selects RX1 yX1_addFlags yX1_addFlags ∈ BIG := big_in (i := 396) (by decide +kernel) (by decide +kernel)
theorem bC_X1_addFlags : Cond.code yX1_addFlags cX1_addFlags 5 none ∈ BIG := big_in (i := 397) (by decide +kernel) (by decide +kernel)
theorem bL_X1_51 : Cond.methodLink RX1 51 Lib.Math.max.name ∈ BIG := big_in (i := 398) (by decide +kernel) (by decide +kernel)
theorem bS_mmax : Cond.static Lib.Math.max.name ∈ BIG := big_in (i := 399) (by decide +kernel) (by decide +kernel)
theorem bC_mmax : Cond.code Lib.Math.max.name Lib.Math.max.code 2 (some .int) ∈ BIG := big_in (i := 400) (by decide +kernel) (by decide +kernel)
theorem bL_L_50 : Cond.methodLink RL 50 yX7_unflag ∈ BIG := big_in (i := 401) (by decide +kernel) (by decide +kernel)
theorem bI_X7_unflag : Cond.instanceMethod yX7_unflag ∈ BIG := big_in (i := 402) (by decide +kernel) (by decide +kernel)
theorem bV_X7_unflag : Cond.selects RX7 yX7_unflag yX7_unflag ∈ BIG := big_in (i := 403) (by decide +kernel) (by decide +kernel)
theorem bC_X7_unflag : Cond.code yX7_unflag cX7_unflag 1 (some .int) ∈ BIG := big_in (i := 404) (by decide +kernel) (by decide +kernel)
theorem bL_X7_122 : Cond.methodLink RX7 122 yX4_removeFlag ∈ BIG := big_in (i := 405) (by decide +kernel) (by decide +kernel)
theorem bI_X4_removeFlag : Cond.instanceMethod yX4_removeFlag ∈ BIG := big_in (i := 406) (by decide +kernel) (by decide +kernel)
theorem bV_X4_removeFlag : Cond.selects RX4 yX4_removeFlag yX4_removeFlag ∈ BIG := big_in (i := 407) (by decide +kernel) (by decide +kernel)
theorem bC_X4_removeFlag : Cond.code yX4_removeFlag cX4_removeFlag 2 (some .int) ∈ BIG := big_in (i := 408) (by decide +kernel) (by decide +kernel)
theorem bL_L_55 : Cond.methodLink RL 55 yX7_ticks ∈ BIG := big_in (i := 409) (by decide +kernel) (by decide +kernel)
theorem bI_X7_ticks : Cond.instanceMethod yX7_ticks ∈ BIG := big_in (i := 410) (by decide +kernel) (by decide +kernel)
theorem bV_X7_ticks : Cond.selects RX7 yX7_ticks yX7_ticks ∈ BIG := big_in (i := 411) (by decide +kernel) (by decide +kernel)
theorem bC_X7_ticks : Cond.code yX7_ticks cX7_ticks 5 (some .int) ∈ BIG := big_in (i := 412) (by decide +kernel) (by decide +kernel)
theorem bL_X7_126 : Cond.methodLink RX7 126 yX1_ticksWith ∈ BIG := big_in (i := 413) (by decide +kernel) (by decide +kernel)
theorem bI_X1_ticksWith : Cond.instanceMethod yX1_ticksWith ∈ BIG := big_in (i := 414) (by decide +kernel) (by decide +kernel)
theorem bV_X1_ticksWith : Cond.selects RX1 yX1_ticksWith yX1_ticksWith ∈ BIG := big_in (i := 415) (by decide +kernel) (by decide +kernel)
theorem bC_X1_ticksWith : Cond.code yX1_ticksWith cX1_ticksWith 4 (some .int) ∈ BIG := big_in (i := 416) (by decide +kernel) (by decide +kernel)
theorem bL_X1_64 : Cond.methodLink RX1 64 yX1_hasUsable ∈ BIG := big_in (i := 417) (by decide +kernel) (by decide +kernel)
theorem bI_X1_hasUsable : Cond.instanceMethod yX1_hasUsable ∈ BIG := big_in (i := 418) (by decide +kernel) (by decide +kernel)
theorem bV_X1_hasUsable : Cond.selects RX1 yX1_hasUsable yX1_hasUsable ∈ BIG := big_in (i := 419) (by decide +kernel) (by decide +kernel)
theorem bC_X1_hasUsable : Cond.code yX1_hasUsable cX1_hasUsable 2 (some .boolean) ∈ BIG := big_in (i := 420) (by decide +kernel) (by decide +kernel)
theorem bL_L_59 : Cond.methodLink RL 59 yX7_product ∈ BIG := big_in (i := 421) (by decide +kernel) (by decide +kernel)
theorem bI_X7_product : Cond.instanceMethod yX7_product ∈ BIG := big_in (i := 422) (by decide +kernel) (by decide +kernel)
theorem bV_X7_product : Cond.selects RX7 yX7_product yX7_product ∈ BIG := big_in (i := 423) (by decide +kernel) (by decide +kernel)
theorem bC_X7_product : Cond.code yX7_product cX7_product 5 (some .long) ∈ BIG := big_in (i := 424) (by decide +kernel) (by decide +kernel)
theorem bQ_X7_130 : Cond.constantLong RX7 130 (-9223372036854775808) ∈ BIG := big_in (i := 425) (by decide +kernel) (by decide +kernel)
theorem bL_X7_132 : Cond.methodLink RX7 132 yX1_productWith ∈ BIG := big_in (i := 426) (by decide +kernel) (by decide +kernel)
theorem bI_X1_productWith : Cond.instanceMethod yX1_productWith ∈ BIG := big_in (i := 427) (by decide +kernel) (by decide +kernel)
theorem bV_X1_productWith : Cond.selects RX1 yX1_productWith yX1_productWith ∈ BIG := big_in (i := 428) (by decide +kernel) (by decide +kernel)
theorem bC_X1_productWith : Cond.code yX1_productWith cX1_productWith 8 (some .long) ∈ BIG := big_in (i := 429) (by decide +kernel) (by decide +kernel)
theorem bL_X1_67 : Cond.methodLink RX1 67 yX1_sampleAt ∈ BIG := big_in (i := 430) (by decide +kernel) (by decide +kernel)
theorem bI_X1_sampleAt : Cond.instanceMethod yX1_sampleAt ∈ BIG := big_in (i := 431) (by decide +kernel) (by decide +kernel)
theorem bV_X1_sampleAt : Cond.selects RX1 yX1_sampleAt yX1_sampleAt ∈ BIG := big_in (i := 432) (by decide +kernel) (by decide +kernel)
theorem bC_X1_sampleAt : Cond.code yX1_sampleAt cX1_sampleAt 2 (some .int) ∈ BIG := big_in (i := 433) (by decide +kernel) (by decide +kernel)
theorem bL_X1_57 : Cond.methodLink RX1 57 yX1_load ∈ BIG := big_in (i := 434) (by decide +kernel) (by decide +kernel)
theorem bL_X1_61 : Cond.methodLink RX1 61 Lib.Math.min.name ∈ BIG := big_in (i := 435) (by decide +kernel) (by decide +kernel)
theorem bS_mmin : Cond.static Lib.Math.min.name ∈ BIG := big_in (i := 436) (by decide +kernel) (by decide +kernel)
theorem bC_mmin : Cond.code Lib.Math.min.name Lib.Math.min.code 2 (some .int) ∈ BIG := big_in (i := 437) (by decide +kernel) (by decide +kernel)
theorem bL_L_64 : Cond.methodLink RL 64 yX7_delay ∈ BIG := big_in (i := 438) (by decide +kernel) (by decide +kernel)
theorem bI_X7_delay : Cond.instanceMethod yX7_delay ∈ BIG := big_in (i := 439) (by decide +kernel) (by decide +kernel)
theorem bV_X7_delay : Cond.selects RX7 yX7_delay yX7_delay ∈ BIG := big_in (i := 440) (by decide +kernel) (by decide +kernel)
theorem bC_X7_delay : Cond.code yX7_delay cX7_delay 5 (some .int) ∈ BIG := big_in (i := 441) (by decide +kernel) (by decide +kernel)
theorem bL_X7_136 : Cond.methodLink RX7 136 yX1_bestDelayOf ∈ BIG := big_in (i := 442) (by decide +kernel) (by decide +kernel)
theorem bI_X1_bestDelayOf : Cond.instanceMethod yX1_bestDelayOf ∈ BIG := big_in (i := 443) (by decide +kernel) (by decide +kernel)
theorem bV_X1_bestDelayOf : Cond.selects RX1 yX1_bestDelayOf yX1_bestDelayOf ∈ BIG := big_in (i := 444) (by decide +kernel) (by decide +kernel)
theorem bC_X1_bestDelayOf : Cond.code yX1_bestDelayOf cX1_bestDelayOf 8 (some .int) ∈ BIG := big_in (i := 445) (by decide +kernel) (by decide +kernel)
theorem bL_X1_70 : Cond.methodLink RX1 70 yX1_productWith ∈ BIG := big_in (i := 446) (by decide +kernel) (by decide +kernel)
theorem bL_L_68 : Cond.methodLink RL 68 yX7_three ∈ BIG := big_in (i := 447) (by decide +kernel) (by decide +kernel)
theorem bI_X7_three : Cond.instanceMethod yX7_three ∈ BIG := big_in (i := 448) (by decide +kernel) (by decide +kernel)
theorem bV_X7_three : Cond.selects RX7 yX7_three yX7_three ∈ BIG := big_in (i := 449) (by decide +kernel) (by decide +kernel)
theorem bC_X7_three : Cond.code yX7_three cX7_three 7 (some .int) ∈ BIG := big_in (i := 450) (by decide +kernel) (by decide +kernel)
theorem bL_X7_139 : Cond.methodLink RX7 139 yX7_signOf ∈ BIG := big_in (i := 451) (by decide +kernel) (by decide +kernel)
theorem bS_X7_signOf : Cond.static yX7_signOf ∈ BIG := big_in (i := 452) (by decide +kernel) (by decide +kernel)
theorem bC_X7_signOf : Cond.code yX7_signOf cX7_signOf 2 (some .int) ∈ BIG := big_in (i := 453) (by decide +kernel) (by decide +kernel)
theorem bL_X7_143 : Cond.methodLink RX7 143 yJ13_compare_74951 ∈ BIG := big_in (i := 454) (by decide +kernel) (by decide +kernel)
theorem bS_J13_compare_74951 : Cond.static yJ13_compare_74951 ∈ BIG := big_in (i := 455) (by decide +kernel) (by decide +kernel)
theorem bC_J13_compare_74951 : Cond.code yJ13_compare_74951 cJ13_compare_74951 4 (some .int) ∈ BIG := big_in (i := 456) (by decide +kernel) (by decide +kernel)
theorem bL_L_72 : Cond.methodLink RL 72 yX7_four ∈ BIG := big_in (i := 457) (by decide +kernel) (by decide +kernel)
theorem bI_X7_four : Cond.instanceMethod yX7_four ∈ BIG := big_in (i := 458) (by decide +kernel) (by decide +kernel)
theorem bV_X7_four : Cond.selects RX7 yX7_four yX7_four ∈ BIG := big_in (i := 459) (by decide +kernel) (by decide +kernel)
theorem bC_X7_four : Cond.code yX7_four cX7_four 13 (some .int) ∈ BIG := big_in (i := 460) (by decide +kernel) (by decide +kernel)
theorem bL_L_76 : Cond.methodLink RL 76 yX7_beam ∈ BIG := big_in (i := 461) (by decide +kernel) (by decide +kernel)
theorem bI_X7_beam : Cond.instanceMethod yX7_beam ∈ BIG := big_in (i := 462) (by decide +kernel) (by decide +kernel)
theorem bV_X7_beam : Cond.selects RX7 yX7_beam yX7_beam ∈ BIG := big_in (i := 463) (by decide +kernel) (by decide +kernel)
theorem bC_X7_beam : Cond.code yX7_beam cX7_beam 3 (some .int) ∈ BIG := big_in (i := 464) (by decide +kernel) (by decide +kernel)
theorem bL_X7_149 : Cond.methodLink RX7 149 yX6_gather ∈ BIG := big_in (i := 465) (by decide +kernel) (by decide +kernel)
theorem bI_X6_gather : Cond.instanceMethod yX6_gather ∈ BIG := big_in (i := 466) (by decide +kernel) (by decide +kernel)
theorem bV_X6_gather : Cond.selects RX6 yX6_gather yX6_gather ∈ BIG := big_in (i := 467) (by decide +kernel) (by decide +kernel)
theorem bC_X6_gather : Cond.code yX6_gather cX6_gather 4 none ∈ BIG := big_in (i := 468) (by decide +kernel) (by decide +kernel)
theorem bL_X6_27 : Cond.methodLink RX6 27 yX4_find ∈ BIG := big_in (i := 469) (by decide +kernel) (by decide +kernel)
theorem bL_X6_31 : Cond.methodLink RX6 31 yX6_addPair ∈ BIG := big_in (i := 470) (by decide +kernel) (by decide +kernel)
theorem bI_X6_addPair : Cond.instanceMethod yX6_addPair ∈ BIG := big_in (i := 472) (by decide +kernel) (by decide +kernel)
theorem bC_X6_addPair : Cond.code yX6_addPair cX6_addPair 3 none ∈ BIG := big_in (i := 473) (by decide +kernel) (by decide +kernel)
theorem bL_X6_35 : Cond.methodLink RX6 35 yX1_ticksWith ∈ BIG := big_in (i := 474) (by decide +kernel) (by decide +kernel)
theorem bL_X6_50 : Cond.methodLink RX6 50 yX1_productWith ∈ BIG := big_in (i := 475) (by decide +kernel) (by decide +kernel)
theorem bL_X7_153 : Cond.methodLink RX7 153 yX6_beamAt ∈ BIG := big_in (i := 476) (by decide +kernel) (by decide +kernel)
theorem bI_X6_beamAt : Cond.instanceMethod yX6_beamAt ∈ BIG := big_in (i := 477) (by decide +kernel) (by decide +kernel)
theorem bV_X6_beamAt : Cond.selects RX6 yX6_beamAt yX6_beamAt ∈ BIG := big_in (i := 478) (by decide +kernel) (by decide +kernel)
theorem bC_X6_beamAt : Cond.code yX6_beamAt cX6_beamAt 5 (some .int) ∈ BIG := big_in (i := 479) (by decide +kernel) (by decide +kernel)
theorem bL_X6_57 : Cond.methodLink RX6 57 yX6_waveOf ∈ BIG := big_in (i := 480) (by decide +kernel) (by decide +kernel)
theorem bI_X6_waveOf : Cond.instanceMethod yX6_waveOf ∈ BIG := big_in (i := 482) (by decide +kernel) (by decide +kernel)
theorem bC_X6_waveOf : Cond.code yX6_waveOf cX6_waveOf 4 (some .int) ∈ BIG := big_in (i := 483) (by decide +kernel) (by decide +kernel)
theorem bF_X6_54 : Cond.fieldLink RX6 54 "DishHouse$Spacings" "WAVE" "[I" ∈ BIG := big_in (i := 484) (by decide +kernel) (by decide +kernel)
theorem bL_L_80 : Cond.methodLink RL 80 yX7_point ∈ BIG := big_in (i := 486) (by decide +kernel) (by decide +kernel)
theorem bI_X7_point : Cond.instanceMethod yX7_point ∈ BIG := big_in (i := 487) (by decide +kernel) (by decide +kernel)
theorem bV_X7_point : Cond.selects RX7 yX7_point yX7_point ∈ BIG := big_in (i := 488) (by decide +kernel) (by decide +kernel)
theorem bC_X7_point : Cond.code yX7_point cX7_point 4 (some .int) ∈ BIG := big_in (i := 489) (by decide +kernel) (by decide +kernel)
theorem bL_X7_156 : Cond.methodLink RX7 156 yX7_isCell ∈ BIG := big_in (i := 490) (by decide +kernel) (by decide +kernel)
theorem bS_X7_isCell : Cond.static yX7_isCell ∈ BIG := big_in (i := 491) (by decide +kernel) (by decide +kernel)
theorem bC_X7_isCell : Cond.code yX7_isCell cX7_isCell 2 (some .boolean) ∈ BIG := big_in (i := 492) (by decide +kernel) (by decide +kernel)
theorem bL_X7_159 : Cond.methodLink RX7 159 yX2_add ∈ BIG := big_in (i := 493) (by decide +kernel) (by decide +kernel)
theorem bI_X2_add : Cond.instanceMethod yX2_add ∈ BIG := big_in (i := 494) (by decide +kernel) (by decide +kernel)
theorem bV_X2_add : Cond.selects RX2 yX2_add yX2_add ∈ BIG := big_in (i := 495) (by decide +kernel) (by decide +kernel)
theorem bC_X2_add : Cond.code yX2_add cX2_add 4 (some .int) ∈ BIG := big_in (i := 496) (by decide +kernel) (by decide +kernel)
theorem bL_L_84 : Cond.methodLink RL 84 yX7_dark ∈ BIG := big_in (i := 497) (by decide +kernel) (by decide +kernel)
theorem bI_X7_dark : Cond.instanceMethod yX7_dark ∈ BIG := big_in (i := 498) (by decide +kernel) (by decide +kernel)
theorem bV_X7_dark : Cond.selects RX7 yX7_dark yX7_dark ∈ BIG := big_in (i := 499) (by decide +kernel) (by decide +kernel)
theorem bC_X7_dark : Cond.code yX7_dark cX7_dark 2 (some .int) ∈ BIG := big_in (i := 500) (by decide +kernel) (by decide +kernel)
theorem bL_L_88 : Cond.methodLink RL 88 yX7_board ∈ BIG := big_in (i := 501) (by decide +kernel) (by decide +kernel)
theorem bI_X7_board : Cond.instanceMethod yX7_board ∈ BIG := big_in (i := 502) (by decide +kernel) (by decide +kernel)
theorem bV_X7_board : Cond.selects RX7 yX7_board yX7_board ∈ BIG := big_in (i := 503) (by decide +kernel) (by decide +kernel)
theorem bC_X7_board : Cond.code yX7_board cX7_board 2 (some .int) ∈ BIG := big_in (i := 504) (by decide +kernel) (by decide +kernel)
theorem bL_X7_166 : Cond.methodLink RX7 166 yX0_startWith ∈ BIG := big_in (i := 505) (by decide +kernel) (by decide +kernel)
theorem bI_X0_startWith : Cond.instanceMethod yX0_startWith ∈ BIG := big_in (i := 506) (by decide +kernel) (by decide +kernel)
theorem bV_X0_startWith : Cond.selects RX0 yX0_startWith yX0_startWith ∈ BIG := big_in (i := 507) (by decide +kernel) (by decide +kernel)
theorem bC_X0_startWith : Cond.code yX0_startWith cX0_startWith 3 none ∈ BIG := big_in (i := 508) (by decide +kernel) (by decide +kernel)
theorem bL_X0_41 : Cond.methodLink RX0 41 yX0_look ∈ BIG := big_in (i := 509) (by decide +kernel) (by decide +kernel)
theorem bI_X0_look : Cond.instanceMethod yX0_look ∈ BIG := big_in (i := 510) (by decide +kernel) (by decide +kernel)
theorem bV_X0_look : Cond.selects RX0 yX0_look yX0_look ∈ BIG := big_in (i := 511) (by decide +kernel) (by decide +kernel)
theorem bC_X0_look : Cond.code yX0_look cX0_look 5 none ∈ BIG := big_in (i := 512) (by decide +kernel) (by decide +kernel)
theorem bL_X0_45 : Cond.methodLink RX0 45 yJ7_fill_d0a16 ∈ BIG := big_in (i := 513) (by decide +kernel) (by decide +kernel)
theorem bS_J7_fill_d0a16 : Cond.static yJ7_fill_d0a16 ∈ BIG := big_in (i := 514) (by decide +kernel) (by decide +kernel)
theorem bC_J7_fill_d0a16 : Cond.code yJ7_fill_d0a16 cJ7_fill_d0a16 5 none ∈ BIG := big_in (i := 515) (by decide +kernel) (by decide +kernel)
theorem bL_X0_51 : Cond.methodLink RX0 51 yX6_beamAt ∈ BIG := big_in (i := 516) (by decide +kernel) (by decide +kernel)
theorem bL_X7_170 : Cond.methodLink RX7 170 yX0_sumProducts ∈ BIG := big_in (i := 517) (by decide +kernel) (by decide +kernel)
theorem bI_X0_sumProducts : Cond.instanceMethod yX0_sumProducts ∈ BIG := big_in (i := 518) (by decide +kernel) (by decide +kernel)
theorem bV_X0_sumProducts : Cond.selects RX0 yX0_sumProducts yX0_sumProducts ∈ BIG := big_in (i := 519) (by decide +kernel) (by decide +kernel)
theorem bC_X0_sumProducts : Cond.code yX0_sumProducts cX0_sumProducts 3 none ∈ BIG := big_in (i := 520) (by decide +kernel) (by decide +kernel)
theorem bL_X0_57 : Cond.methodLink RX0 57 yX6_productsAt ∈ BIG := big_in (i := 521) (by decide +kernel) (by decide +kernel)
theorem bI_X6_productsAt : Cond.instanceMethod yX6_productsAt ∈ BIG := big_in (i := 522) (by decide +kernel) (by decide +kernel)
theorem bV_X6_productsAt : Cond.selects RX6 yX6_productsAt yX6_productsAt ∈ BIG := big_in (i := 523) (by decide +kernel) (by decide +kernel)
theorem bC_X6_productsAt : Cond.code yX6_productsAt cX6_productsAt 6 (some .long) ∈ BIG := big_in (i := 524) (by decide +kernel) (by decide +kernel)
theorem bL_X7_173 : Cond.methodLink RX7 173 yX0_sumPoints ∈ BIG := big_in (i := 525) (by decide +kernel) (by decide +kernel)
theorem bI_X0_sumPoints : Cond.instanceMethod yX0_sumPoints ∈ BIG := big_in (i := 526) (by decide +kernel) (by decide +kernel)
theorem bV_X0_sumPoints : Cond.selects RX0 yX0_sumPoints yX0_sumPoints ∈ BIG := big_in (i := 527) (by decide +kernel) (by decide +kernel)
theorem bC_X0_sumPoints : Cond.code yX0_sumPoints cX0_sumPoints 3 none ∈ BIG := big_in (i := 528) (by decide +kernel) (by decide +kernel)
theorem bL_X0_75 : Cond.methodLink RX0 75 yX0_addBeam ∈ BIG := big_in (i := 529) (by decide +kernel) (by decide +kernel)
theorem bI_X0_addBeam : Cond.instanceMethod yX0_addBeam ∈ BIG := big_in (i := 531) (by decide +kernel) (by decide +kernel)
theorem bC_X0_addBeam : Cond.code yX0_addBeam cX0_addBeam 6 none ∈ BIG := big_in (i := 532) (by decide +kernel) (by decide +kernel)
theorem bL_X0_79 : Cond.methodLink RX0 79 yX0_keptAt ∈ BIG := big_in (i := 533) (by decide +kernel) (by decide +kernel)
theorem bI_X0_keptAt : Cond.instanceMethod yX0_keptAt ∈ BIG := big_in (i := 535) (by decide +kernel) (by decide +kernel)
theorem bC_X0_keptAt : Cond.code yX0_keptAt cX0_keptAt 3 (some .int) ∈ BIG := big_in (i := 536) (by decide +kernel) (by decide +kernel)
theorem bL_L_92 : Cond.methodLink RL 92 yX7_at ∈ BIG := big_in (i := 537) (by decide +kernel) (by decide +kernel)
theorem bI_X7_at : Cond.instanceMethod yX7_at ∈ BIG := big_in (i := 538) (by decide +kernel) (by decide +kernel)
theorem bV_X7_at : Cond.selects RX7 yX7_at yX7_at ∈ BIG := big_in (i := 539) (by decide +kernel) (by decide +kernel)
theorem bC_X7_at : Cond.code yX7_at cX7_at 3 (some .long) ∈ BIG := big_in (i := 540) (by decide +kernel) (by decide +kernel)
theorem bL_L_96 : Cond.methodLink RL 96 yX7_window ∈ BIG := big_in (i := 541) (by decide +kernel) (by decide +kernel)
theorem bI_X7_window : Cond.instanceMethod yX7_window ∈ BIG := big_in (i := 542) (by decide +kernel) (by decide +kernel)
theorem bV_X7_window : Cond.selects RX7 yX7_window yX7_window ∈ BIG := big_in (i := 543) (by decide +kernel) (by decide +kernel)
theorem bC_X7_window : Cond.code yX7_window cX7_window 5 (some .int) ∈ BIG := big_in (i := 544) (by decide +kernel) (by decide +kernel)
theorem bL_X7_182 : Cond.methodLink RX7 182 yX0_look ∈ BIG := big_in (i := 545) (by decide +kernel) (by decide +kernel)
theorem bL_X7_186 : Cond.methodLink RX7 186 yX0_windowCells ∈ BIG := big_in (i := 546) (by decide +kernel) (by decide +kernel)
theorem bI_X0_windowCells : Cond.instanceMethod yX0_windowCells ∈ BIG := big_in (i := 547) (by decide +kernel) (by decide +kernel)
theorem bV_X0_windowCells : Cond.selects RX0 yX0_windowCells yX0_windowCells ∈ BIG := big_in (i := 548) (by decide +kernel) (by decide +kernel)
theorem bC_X0_windowCells : Cond.code yX0_windowCells cX0_windowCells 1 (some .int) ∈ BIG := big_in (i := 549) (by decide +kernel) (by decide +kernel)
theorem bL_L_100 : Cond.methodLink RL 100 yX7_peak ∈ BIG := big_in (i := 550) (by decide +kernel) (by decide +kernel)
theorem bI_X7_peak : Cond.instanceMethod yX7_peak ∈ BIG := big_in (i := 551) (by decide +kernel) (by decide +kernel)
theorem bV_X7_peak : Cond.selects RX7 yX7_peak yX7_peak ∈ BIG := big_in (i := 552) (by decide +kernel) (by decide +kernel)
theorem bC_X7_peak : Cond.code yX7_peak cX7_peak 1 (some .int) ∈ BIG := big_in (i := 553) (by decide +kernel) (by decide +kernel)
theorem bL_X7_189 : Cond.methodLink RX7 189 yX0_greatestCell ∈ BIG := big_in (i := 554) (by decide +kernel) (by decide +kernel)
theorem bI_X0_greatestCell : Cond.instanceMethod yX0_greatestCell ∈ BIG := big_in (i := 555) (by decide +kernel) (by decide +kernel)
theorem bV_X0_greatestCell : Cond.selects RX0 yX0_greatestCell yX0_greatestCell ∈ BIG := big_in (i := 556) (by decide +kernel) (by decide +kernel)
theorem bC_X0_greatestCell : Cond.code yX0_greatestCell cX0_greatestCell 5 (some .int) ∈ BIG := big_in (i := 557) (by decide +kernel) (by decide +kernel)
theorem bL_X0_82 : Cond.methodLink RX0 82 yX0_amountAt ∈ BIG := big_in (i := 558) (by decide +kernel) (by decide +kernel)
theorem bI_X0_amountAt : Cond.instanceMethod yX0_amountAt ∈ BIG := big_in (i := 560) (by decide +kernel) (by decide +kernel)
theorem bC_X0_amountAt : Cond.code yX0_amountAt cX0_amountAt 2 (some .long) ∈ BIG := big_in (i := 561) (by decide +kernel) (by decide +kernel)
theorem bL_X0_86 : Cond.methodLink RX0 86 Lib.MathLoose.abs_long.x ∈ BIG := big_in (i := 562) (by decide +kernel) (by decide +kernel)
theorem bS_mabsl : Cond.static Lib.MathLoose.abs_long.x ∈ BIG := big_in (i := 563) (by decide +kernel) (by decide +kernel)
theorem bC_mabsl : Cond.code Lib.MathLoose.abs_long.x Lib.MathLoose.abs_long.code 2 (some .long) ∈ BIG := big_in (i := 564) (by decide +kernel) (by decide +kernel)
theorem bL_L_104 : Cond.methodLink RL 104 yX7_take ∈ BIG := big_in (i := 565) (by decide +kernel) (by decide +kernel)
theorem bI_X7_take : Cond.instanceMethod yX7_take ∈ BIG := big_in (i := 566) (by decide +kernel) (by decide +kernel)
theorem bV_X7_take : Cond.selects RX7 yX7_take yX7_take ∈ BIG := big_in (i := 567) (by decide +kernel) (by decide +kernel)
theorem bC_X7_take : Cond.code yX7_take cX7_take 3 (some .int) ∈ BIG := big_in (i := 568) (by decide +kernel) (by decide +kernel)
theorem bL_X7_195 : Cond.methodLink RX7 195 yX0_takeOff ∈ BIG := big_in (i := 569) (by decide +kernel) (by decide +kernel)
theorem bI_X0_takeOff : Cond.instanceMethod yX0_takeOff ∈ BIG := big_in (i := 570) (by decide +kernel) (by decide +kernel)
theorem bV_X0_takeOff : Cond.selects RX0 yX0_takeOff yX0_takeOff ∈ BIG := big_in (i := 571) (by decide +kernel) (by decide +kernel)
theorem bC_X0_takeOff : Cond.code yX0_takeOff cX0_takeOff 9 none ∈ BIG := big_in (i := 572) (by decide +kernel) (by decide +kernel)
theorem bQ_X0_92 : Cond.constantLong RX0 92 (100) ∈ BIG := big_in (i := 573) (by decide +kernel) (by decide +kernel)
theorem bL_X0_94 : Cond.methodLink RX0 94 yX0_greatestCell ∈ BIG := big_in (i := 574) (by decide +kernel) (by decide +kernel)
theorem bL_L_108 : Cond.methodLink RL 108 yX7_part ∈ BIG := big_in (i := 575) (by decide +kernel) (by decide +kernel)
theorem bI_X7_part : Cond.instanceMethod yX7_part ∈ BIG := big_in (i := 576) (by decide +kernel) (by decide +kernel)
theorem bV_X7_part : Cond.selects RX7 yX7_part yX7_part ∈ BIG := big_in (i := 577) (by decide +kernel) (by decide +kernel)
theorem bC_X7_part : Cond.code yX7_part cX7_part 3 (some .long) ∈ BIG := big_in (i := 578) (by decide +kernel) (by decide +kernel)
theorem bL_L_112 : Cond.methodLink RL 112 yX7_back ∈ BIG := big_in (i := 579) (by decide +kernel) (by decide +kernel)
theorem bI_X7_back : Cond.instanceMethod yX7_back ∈ BIG := big_in (i := 580) (by decide +kernel) (by decide +kernel)
theorem bV_X7_back : Cond.selects RX7 yX7_back yX7_back ∈ BIG := big_in (i := 581) (by decide +kernel) (by decide +kernel)
theorem bC_X7_back : Cond.code yX7_back cX7_back 1 (some .int) ∈ BIG := big_in (i := 582) (by decide +kernel) (by decide +kernel)
theorem bL_X7_204 : Cond.methodLink RX7 204 yX0_putBack ∈ BIG := big_in (i := 583) (by decide +kernel) (by decide +kernel)
theorem bI_X0_putBack : Cond.instanceMethod yX0_putBack ∈ BIG := big_in (i := 584) (by decide +kernel) (by decide +kernel)
theorem bV_X0_putBack : Cond.selects RX0 yX0_putBack yX0_putBack ∈ BIG := big_in (i := 585) (by decide +kernel) (by decide +kernel)
theorem bC_X0_putBack : Cond.code yX0_putBack cX0_putBack 2 none ∈ BIG := big_in (i := 586) (by decide +kernel) (by decide +kernel)
theorem bL_L_116 : Cond.methodLink RL 116 yX7_source ∈ BIG := big_in (i := 587) (by decide +kernel) (by decide +kernel)
theorem bI_X7_source : Cond.instanceMethod yX7_source ∈ BIG := big_in (i := 588) (by decide +kernel) (by decide +kernel)
theorem bV_X7_source : Cond.selects RX7 yX7_source yX7_source ∈ BIG := big_in (i := 589) (by decide +kernel) (by decide +kernel)
theorem bC_X7_source : Cond.code yX7_source cX7_source 4 (some .int) ∈ BIG := big_in (i := 590) (by decide +kernel) (by decide +kernel)
theorem bL_L_120 : Cond.methodLink RL 120 yX7_order ∈ BIG := big_in (i := 591) (by decide +kernel) (by decide +kernel)
theorem bI_X7_order : Cond.instanceMethod yX7_order ∈ BIG := big_in (i := 592) (by decide +kernel) (by decide +kernel)
theorem bV_X7_order : Cond.selects RX7 yX7_order yX7_order ∈ BIG := big_in (i := 593) (by decide +kernel) (by decide +kernel)
theorem bC_X7_order : Cond.code yX7_order cX7_order 4 (some .int) ∈ BIG := big_in (i := 594) (by decide +kernel) (by decide +kernel)
theorem bL_X7_213 : Cond.methodLink RX7 213 yX3_fits ∈ BIG := big_in (i := 595) (by decide +kernel) (by decide +kernel)
theorem bI_X3_fits : Cond.instanceMethod yX3_fits ∈ BIG := big_in (i := 596) (by decide +kernel) (by decide +kernel)
theorem bV_X3_fits : Cond.selects RX3 yX3_fits yX3_fits ∈ BIG := big_in (i := 597) (by decide +kernel) (by decide +kernel)
theorem bC_X3_fits : Cond.code yX3_fits cX3_fits 4 (some .boolean) ∈ BIG := big_in (i := 598) (by decide +kernel) (by decide +kernel)
theorem bL_X7_216 : Cond.methodLink RX7 216 yX3_add ∈ BIG := big_in (i := 600) (by decide +kernel) (by decide +kernel)
theorem bI_X3_add : Cond.instanceMethod yX3_add ∈ BIG := big_in (i := 601) (by decide +kernel) (by decide +kernel)
theorem bV_X3_add : Cond.selects RX3 yX3_add yX3_add ∈ BIG := big_in (i := 602) (by decide +kernel) (by decide +kernel)
theorem bC_X3_add : Cond.code yX3_add cX3_add 4 (some .int) ∈ BIG := big_in (i := 603) (by decide +kernel) (by decide +kernel)
theorem bL_L_124 : Cond.methodLink RL 124 yX7_wipe ∈ BIG := big_in (i := 604) (by decide +kernel) (by decide +kernel)
theorem bI_X7_wipe : Cond.instanceMethod yX7_wipe ∈ BIG := big_in (i := 605) (by decide +kernel) (by decide +kernel)
theorem bV_X7_wipe : Cond.selects RX7 yX7_wipe yX7_wipe ∈ BIG := big_in (i := 606) (by decide +kernel) (by decide +kernel)
theorem bC_X7_wipe : Cond.code yX7_wipe cX7_wipe 2 (some .int) ∈ BIG := big_in (i := 607) (by decide +kernel) (by decide +kernel)
theorem bL_L_128 : Cond.methodLink RL 128 yX7_night ∈ BIG := big_in (i := 608) (by decide +kernel) (by decide +kernel)
theorem bI_X7_night : Cond.instanceMethod yX7_night ∈ BIG := big_in (i := 609) (by decide +kernel) (by decide +kernel)
theorem bV_X7_night : Cond.selects RX7 yX7_night yX7_night ∈ BIG := big_in (i := 610) (by decide +kernel) (by decide +kernel)
theorem bC_X7_night : Cond.code yX7_night cX7_night 2 (some .int) ∈ BIG := big_in (i := 611) (by decide +kernel) (by decide +kernel)
theorem bQ_X7_218 : Cond.constant RX7 218 (100000) ∈ BIG := big_in (i := 612) (by decide +kernel) (by decide +kernel)
theorem bL_X7_219 : Cond.methodLink RX7 219 yX5_follow ∈ BIG := big_in (i := 613) (by decide +kernel) (by decide +kernel)
theorem bI_X5_follow : Cond.instanceMethod yX5_follow ∈ BIG := big_in (i := 614) (by decide +kernel) (by decide +kernel)
theorem bV_X5_follow : Cond.selects RX5 yX5_follow yX5_follow ∈ BIG := big_in (i := 615) (by decide +kernel) (by decide +kernel)
theorem bC_X5_follow : Cond.code yX5_follow cX5_follow 6 (some .int) ∈ BIG := big_in (i := 616) (by decide +kernel) (by decide +kernel)
theorem bL_X5_24 : Cond.methodLink RX5 24 yX5_startOver ∈ BIG := big_in (i := 617) (by decide +kernel) (by decide +kernel)
theorem bI_X5_startOver : Cond.instanceMethod yX5_startOver ∈ BIG := big_in (i := 619) (by decide +kernel) (by decide +kernel)
theorem bC_X5_startOver : Cond.code yX5_startOver cX5_startOver 3 none ∈ BIG := big_in (i := 620) (by decide +kernel) (by decide +kernel)
theorem bL_X5_57 : Cond.methodLink RX5 57 yJ7_fill_53178 ∈ BIG := big_in (i := 621) (by decide +kernel) (by decide +kernel)
theorem bL_X5_31 : Cond.methodLink RX5 31 yX5_whyNot ∈ BIG := big_in (i := 622) (by decide +kernel) (by decide +kernel)
theorem bI_X5_whyNot : Cond.instanceMethod yX5_whyNot ∈ BIG := big_in (i := 624) (by decide +kernel) (by decide +kernel)
theorem bC_X5_whyNot : Cond.code yX5_whyNot cX5_whyNot 5 (some .int) ∈ BIG := big_in (i := 625) (by decide +kernel) (by decide +kernel)
theorem bL_X5_66 : Cond.methodLink RX5 66 yX5_minutesOf ∈ BIG := big_in (i := 626) (by decide +kernel) (by decide +kernel)
theorem bI_X5_minutesOf : Cond.instanceMethod yX5_minutesOf ∈ BIG := big_in (i := 628) (by decide +kernel) (by decide +kernel)
theorem bC_X5_minutesOf : Cond.code yX5_minutesOf cX5_minutesOf 3 (some .int) ∈ BIG := big_in (i := 629) (by decide +kernel) (by decide +kernel)
theorem bL_X5_79 : Cond.methodLink RX5 79 yX5_turnTo ∈ BIG := big_in (i := 630) (by decide +kernel) (by decide +kernel)
theorem bI_X5_turnTo : Cond.instanceMethod yX5_turnTo ∈ BIG := big_in (i := 632) (by decide +kernel) (by decide +kernel)
theorem bC_X5_turnTo : Cond.code yX5_turnTo cX5_turnTo 4 (some .int) ∈ BIG := big_in (i := 633) (by decide +kernel) (by decide +kernel)
theorem bL_X5_83 : Cond.methodLink RX5 83 Lib.Math.abs.name ∈ BIG := big_in (i := 634) (by decide +kernel) (by decide +kernel)
theorem bS_mabs : Cond.static Lib.Math.abs.name ∈ BIG := big_in (i := 635) (by decide +kernel) (by decide +kernel)
theorem bC_mabs : Cond.code Lib.Math.abs.name Lib.Math.abs.code 1 (some .int) ∈ BIG := big_in (i := 636) (by decide +kernel) (by decide +kernel)
theorem bL_X5_88 : Cond.methodLink RX5 88 Lib.Math.min.name ∈ BIG := big_in (i := 637) (by decide +kernel) (by decide +kernel)
theorem bL_X5_72 : Cond.methodLink RX5 72 yX3_isUp ∈ BIG := big_in (i := 638) (by decide +kernel) (by decide +kernel)
theorem bI_X3_isUp : Cond.instanceMethod yX3_isUp ∈ BIG := big_in (i := 639) (by decide +kernel) (by decide +kernel)
theorem bV_X3_isUp : Cond.selects RX3 yX3_isUp yX3_isUp ∈ BIG := big_in (i := 640) (by decide +kernel) (by decide +kernel)
theorem bC_X3_isUp : Cond.code yX3_isUp cX3_isUp 5 (some .boolean) ∈ BIG := big_in (i := 641) (by decide +kernel) (by decide +kernel)
theorem bL_X5_35 : Cond.methodLink RX5 35 yX5_perform ∈ BIG := big_in (i := 642) (by decide +kernel) (by decide +kernel)
theorem bI_X5_perform : Cond.instanceMethod yX5_perform ∈ BIG := big_in (i := 644) (by decide +kernel) (by decide +kernel)
theorem bC_X5_perform : Cond.code yX5_perform cX5_perform 4 (some .int) ∈ BIG := big_in (i := 645) (by decide +kernel) (by decide +kernel)
theorem bL_X5_92 : Cond.methodLink RX5 92 yX5_watch ∈ BIG := big_in (i := 646) (by decide +kernel) (by decide +kernel)
theorem bI_X5_watch : Cond.instanceMethod yX5_watch ∈ BIG := big_in (i := 648) (by decide +kernel) (by decide +kernel)
theorem bC_X5_watch : Cond.code yX5_watch cX5_watch 4 none ∈ BIG := big_in (i := 649) (by decide +kernel) (by decide +kernel)
theorem bL_X5_99 : Cond.methodLink RX5 99 Lib.Math.max.name ∈ BIG := big_in (i := 650) (by decide +kernel) (by decide +kernel)
theorem bL_X5_96 : Cond.methodLink RX5 96 yX5_repeat ∈ BIG := big_in (i := 651) (by decide +kernel) (by decide +kernel)
theorem bI_X5_repeat : Cond.instanceMethod yX5_repeat ∈ BIG := big_in (i := 653) (by decide +kernel) (by decide +kernel)
theorem bC_X5_repeat : Cond.code yX5_repeat cX5_repeat 3 (some .int) ∈ BIG := big_in (i := 654) (by decide +kernel) (by decide +kernel)
theorem bL_L_132 : Cond.methodLink RL 132 yX7_told ∈ BIG := big_in (i := 655) (by decide +kernel) (by decide +kernel)
theorem bI_X7_told : Cond.instanceMethod yX7_told ∈ BIG := big_in (i := 656) (by decide +kernel) (by decide +kernel)
theorem bV_X7_told : Cond.selects RX7 yX7_told yX7_told ∈ BIG := big_in (i := 657) (by decide +kernel) (by decide +kernel)
theorem bC_X7_told : Cond.code yX7_told cX7_told 3 (some .int) ∈ BIG := big_in (i := 658) (by decide +kernel) (by decide +kernel)
theorem bL_L_136 : Cond.methodLink RL 136 yX7_count ∈ BIG := big_in (i := 659) (by decide +kernel) (by decide +kernel)
theorem bI_X7_count : Cond.instanceMethod yX7_count ∈ BIG := big_in (i := 660) (by decide +kernel) (by decide +kernel)
theorem bV_X7_count : Cond.selects RX7 yX7_count yX7_count ∈ BIG := big_in (i := 661) (by decide +kernel) (by decide +kernel)
theorem bC_X7_count : Cond.code yX7_count cX7_count 2 (some .int) ∈ BIG := big_in (i := 662) (by decide +kernel) (by decide +kernel)
theorem bL_L_140 : Cond.methodLink RL 140 yX7_digest ∈ BIG := big_in (i := 663) (by decide +kernel) (by decide +kernel)
theorem bI_X7_digest : Cond.instanceMethod yX7_digest ∈ BIG := big_in (i := 664) (by decide +kernel) (by decide +kernel)
theorem bV_X7_digest : Cond.selects RX7 yX7_digest yX7_digest ∈ BIG := big_in (i := 665) (by decide +kernel) (by decide +kernel)
theorem bC_X7_digest : Cond.code yX7_digest cX7_digest 5 (some .long) ∈ BIG := big_in (i := 666) (by decide +kernel) (by decide +kernel)
theorem bQ_X7_251 : Cond.constantLong RX7 251 (17) ∈ BIG := big_in (i := 667) (by decide +kernel) (by decide +kernel)
theorem bQ_X7_253 : Cond.constantLong RX7 253 (31) ∈ BIG := big_in (i := 668) (by decide +kernel) (by decide +kernel)
theorem bL_X7_255 : Cond.methodLink RX7 255 yX7_count ∈ BIG := big_in (i := 669) (by decide +kernel) (by decide +kernel)
theorem bL_X7_258 : Cond.methodLink RX7 258 yX7_ticks ∈ BIG := big_in (i := 670) (by decide +kernel) (by decide +kernel)
theorem bL_X7_261 : Cond.methodLink RX7 261 yX7_product ∈ BIG := big_in (i := 671) (by decide +kernel) (by decide +kernel)
theorem bK_L_10 : Cond.classLink RL 10 RX8 ∈ BIG := big_in (i := 672) (by decide +kernel) (by decide +kernel)
theorem bT_X8 : Cond.instantiable RX8 52 ∈ BIG := big_in (i := 673) (by decide +kernel) (by decide +kernel)
theorem bL_L_12 : Cond.methodLink RL 12 yX8_init ∈ BIG := big_in (i := 674) (by decide +kernel) (by decide +kernel)
theorem bI_X8_init : Cond.instanceMethod yX8_init ∈ BIG := big_in (i := 675) (by decide +kernel) (by decide +kernel)
theorem bC_X8_init : Cond.code yX8_init cX8_init 2 none ∈ BIG := big_in (i := 676) (by decide +kernel) (by decide +kernel)
theorem bL_X8_1 : Cond.methodLink RX8 1 objectInit ∈ BIG := big_in (i := 677) (by decide +kernel) (by decide +kernel)
theorem bL_X8_112 : Cond.methodLink RX8 112 yX8_all ∈ BIG := big_in (i := 678) (by decide +kernel) (by decide +kernel)
theorem bI_X8_all : Cond.instanceMethod yX8_all ∈ BIG := big_in (i := 680) (by decide +kernel) (by decide +kernel)
theorem bC_X8_all : Cond.code yX8_all cX8_all 1 none ∈ BIG := big_in (i := 681) (by decide +kernel) (by decide +kernel)
theorem bF_X8_118 : Cond.fieldLink RX8 118 "DishHouseModel" "dishes" "I" ∈ BIG := big_in (i := 682) (by decide +kernel) (by decide +kernel)
theorem bF_X8_7 : Cond.fieldLink RX8 7 "DishHouseModel" "placeX" "[I" ∈ BIG := big_in (i := 683) (by decide +kernel) (by decide +kernel)
theorem bF_X8_13 : Cond.fieldLink RX8 13 "DishHouseModel" "placeY" "[I" ∈ BIG := big_in (i := 684) (by decide +kernel) (by decide +kernel)
theorem bF_X8_16 : Cond.fieldLink RX8 16 "DishHouseModel" "delays" "[I" ∈ BIG := big_in (i := 685) (by decide +kernel) (by decide +kernel)
theorem bF_X8_19 : Cond.fieldLink RX8 19 "DishHouseModel" "gains" "[I" ∈ BIG := big_in (i := 686) (by decide +kernel) (by decide +kernel)
theorem bF_X8_22 : Cond.fieldLink RX8 22 "DishHouseModel" "isThere" "[Z" ∈ BIG := big_in (i := 687) (by decide +kernel) (by decide +kernel)
theorem bF_X8_26 : Cond.fieldLink RX8 26 "DishHouseModel" "forms" "[I" ∈ BIG := big_in (i := 688) (by decide +kernel) (by decide +kernel)
theorem bF_X8_29 : Cond.fieldLink RX8 29 "DishHouseModel" "sizes" "[I" ∈ BIG := big_in (i := 689) (by decide +kernel) (by decide +kernel)
theorem bF_X8_32 : Cond.fieldLink RX8 32 "DishHouseModel" "items" "[I" ∈ BIG := big_in (i := 690) (by decide +kernel) (by decide +kernel)
theorem bF_X8_35 : Cond.fieldLink RX8 35 "DishHouseModel" "moved" "[I" ∈ BIG := big_in (i := 691) (by decide +kernel) (by decide +kernel)
theorem bF_X8_115 : Cond.fieldLink RX8 115 "DishHouseModel" "finding" "I" ∈ BIG := big_in (i := 692) (by decide +kernel) (by decide +kernel)
theorem bF_X8_150 : Cond.fieldLink RX8 150 "DishHouseModel" "flags" "I" ∈ BIG := big_in (i := 693) (by decide +kernel) (by decide +kernel)
theorem bF_X8_38 : Cond.fieldLink RX8 38 "DishHouseModel" "flagDish" "[I" ∈ BIG := big_in (i := 694) (by decide +kernel) (by decide +kernel)
theorem bF_X8_41 : Cond.fieldLink RX8 41 "DishHouseModel" "flagFrom" "[I" ∈ BIG := big_in (i := 695) (by decide +kernel) (by decide +kernel)
theorem bF_X8_44 : Cond.fieldLink RX8 44 "DishHouseModel" "flagTo" "[I" ∈ BIG := big_in (i := 696) (by decide +kernel) (by decide +kernel)
theorem bF_X8_157 : Cond.fieldLink RX8 157 "DishHouseModel" "counted" "I" ∈ BIG := big_in (i := 697) (by decide +kernel) (by decide +kernel)
theorem bF_X8_47 : Cond.fieldLink RX8 47 "DishHouseModel" "waves" "[I" ∈ BIG := big_in (i := 698) (by decide +kernel) (by decide +kernel)
theorem bF_X8_50 : Cond.fieldLink RX8 50 "DishHouseModel" "board" "[J" ∈ BIG := big_in (i := 699) (by decide +kernel) (by decide +kernel)
theorem bF_X8_193 : Cond.fieldLink RX8 193 "DishHouseModel" "spacings" "I" ∈ BIG := big_in (i := 700) (by decide +kernel) (by decide +kernel)
theorem bF_X8_54 : Cond.fieldLink RX8 54 "DishHouseModel" "spaceU" "[I" ∈ BIG := big_in (i := 701) (by decide +kernel) (by decide +kernel)
theorem bF_X8_57 : Cond.fieldLink RX8 57 "DishHouseModel" "spaceV" "[I" ∈ BIG := big_in (i := 702) (by decide +kernel) (by decide +kernel)
theorem bF_X8_60 : Cond.fieldLink RX8 60 "DishHouseModel" "spaceProduct" "[J" ∈ BIG := big_in (i := 703) (by decide +kernel) (by decide +kernel)
theorem bF_X8_199 : Cond.fieldLink RX8 199 "DishHouseModel" "keptMany" "I" ∈ BIG := big_in (i := 704) (by decide +kernel) (by decide +kernel)
theorem bF_X8_63 : Cond.fieldLink RX8 63 "DishHouseModel" "keptU" "[I" ∈ BIG := big_in (i := 705) (by decide +kernel) (by decide +kernel)
theorem bF_X8_66 : Cond.fieldLink RX8 66 "DishHouseModel" "keptV" "[I" ∈ BIG := big_in (i := 706) (by decide +kernel) (by decide +kernel)
theorem bF_X8_218 : Cond.fieldLink RX8 218 "DishHouseModel" "points" "I" ∈ BIG := big_in (i := 707) (by decide +kernel) (by decide +kernel)
theorem bF_X8_69 : Cond.fieldLink RX8 69 "DishHouseModel" "pointX" "[I" ∈ BIG := big_in (i := 708) (by decide +kernel) (by decide +kernel)
theorem bF_X8_72 : Cond.fieldLink RX8 72 "DishHouseModel" "pointY" "[I" ∈ BIG := big_in (i := 709) (by decide +kernel) (by decide +kernel)
theorem bF_X8_75 : Cond.fieldLink RX8 75 "DishHouseModel" "flux" "[I" ∈ BIG := big_in (i := 710) (by decide +kernel) (by decide +kernel)
theorem bF_X8_225 : Cond.fieldLink RX8 225 "DishHouseModel" "parts" "I" ∈ BIG := big_in (i := 711) (by decide +kernel) (by decide +kernel)
theorem bF_X8_78 : Cond.fieldLink RX8 78 "DishHouseModel" "partCell" "[I" ∈ BIG := big_in (i := 712) (by decide +kernel) (by decide +kernel)
theorem bF_X8_81 : Cond.fieldLink RX8 81 "DishHouseModel" "partA" "[J" ∈ BIG := big_in (i := 713) (by decide +kernel) (by decide +kernel)
theorem bF_X8_181 : Cond.fieldLink RX8 181 "DishHouseModel" "lowX" "I" ∈ BIG := big_in (i := 714) (by decide +kernel) (by decide +kernel)
theorem bF_X8_184 : Cond.fieldLink RX8 184 "DishHouseModel" "highX" "I" ∈ BIG := big_in (i := 715) (by decide +kernel) (by decide +kernel)
theorem bF_X8_187 : Cond.fieldLink RX8 187 "DishHouseModel" "lowY" "I" ∈ BIG := big_in (i := 716) (by decide +kernel) (by decide +kernel)
theorem bF_X8_190 : Cond.fieldLink RX8 190 "DishHouseModel" "highY" "I" ∈ BIG := big_in (i := 717) (by decide +kernel) (by decide +kernel)
theorem bF_X8_84 : Cond.fieldLink RX8 84 "DishHouseModel" "rises" "[Z" ∈ BIG := big_in (i := 718) (by decide +kernel) (by decide +kernel)
theorem bF_X8_87 : Cond.fieldLink RX8 87 "DishHouseModel" "riseAt" "[I" ∈ BIG := big_in (i := 719) (by decide +kernel) (by decide +kernel)
theorem bF_X8_90 : Cond.fieldLink RX8 90 "DishHouseModel" "setAt" "[I" ∈ BIG := big_in (i := 720) (by decide +kernel) (by decide +kernel)
theorem bF_X8_254 : Cond.fieldLink RX8 254 "DishHouseModel" "orders" "I" ∈ BIG := big_in (i := 721) (by decide +kernel) (by decide +kernel)
theorem bF_X8_93 : Cond.fieldLink RX8 93 "DishHouseModel" "kinds" "[I" ∈ BIG := big_in (i := 722) (by decide +kernel) (by decide +kernel)
theorem bF_X8_96 : Cond.fieldLink RX8 96 "DishHouseModel" "first" "[I" ∈ BIG := big_in (i := 723) (by decide +kernel) (by decide +kernel)
theorem bF_X8_99 : Cond.fieldLink RX8 99 "DishHouseModel" "second" "[I" ∈ BIG := big_in (i := 724) (by decide +kernel) (by decide +kernel)
theorem bF_X8_102 : Cond.fieldLink RX8 102 "DishHouseModel" "left" "[I" ∈ BIG := big_in (i := 725) (by decide +kernel) (by decide +kernel)
theorem bF_X8_267 : Cond.fieldLink RX8 267 "DishHouseModel" "minute" "I" ∈ BIG := big_in (i := 726) (by decide +kernel) (by decide +kernel)
theorem bF_X8_261 : Cond.fieldLink RX8 261 "DishHouseModel" "azimuth" "I" ∈ BIG := big_in (i := 727) (by decide +kernel) (by decide +kernel)
theorem bF_X8_285 : Cond.fieldLink RX8 285 "DishHouseModel" "watched" "I" ∈ BIG := big_in (i := 728) (by decide +kernel) (by decide +kernel)
theorem bF_X8_276 : Cond.fieldLink RX8 276 "DishHouseModel" "done" "I" ∈ BIG := big_in (i := 729) (by decide +kernel) (by decide +kernel)
theorem bF_X8_105 : Cond.fieldLink RX8 105 "DishHouseModel" "endedAt" "I" ∈ BIG := big_in (i := 730) (by decide +kernel) (by decide +kernel)
theorem bF_X8_282 : Cond.fieldLink RX8 282 "DishHouseModel" "turning" "I" ∈ BIG := big_in (i := 731) (by decide +kernel) (by decide +kernel)
theorem bF_X8_279 : Cond.fieldLink RX8 279 "DishHouseModel" "stormEnd" "I" ∈ BIG := big_in (i := 732) (by decide +kernel) (by decide +kernel)
theorem bF_X8_109 : Cond.fieldLink RX8 109 "DishHouseModel" "watchedOf" "[I" ∈ BIG := big_in (i := 733) (by decide +kernel) (by decide +kernel)
theorem bA_boolean : Cond.arrayClass .boolean ∈ BIG := big_in (i := 839) (by decide +kernel) (by decide +kernel)
theorem bL_L_17 : Cond.methodLink RL 17 yX8_dish ∈ BIG := big_in (i := 840) (by decide +kernel) (by decide +kernel)
theorem bI_X8_dish : Cond.instanceMethod yX8_dish ∈ BIG := big_in (i := 841) (by decide +kernel) (by decide +kernel)
theorem bV_X8_dish : Cond.selects RX8 yX8_dish yX8_dish ∈ BIG := big_in (i := 842) (by decide +kernel) (by decide +kernel)
theorem bC_X8_dish : Cond.code yX8_dish cX8_dish 3 (some .int) ∈ BIG := big_in (i := 843) (by decide +kernel) (by decide +kernel)
theorem bQ_X8_125 : Cond.constantLong RX8 125 (-100) ∈ BIG := big_in (i := 844) (by decide +kernel) (by decide +kernel)
theorem bQ_X8_127 : Cond.constantLong RX8 127 (100) ∈ BIG := big_in (i := 845) (by decide +kernel) (by decide +kernel)
theorem bL_X8_121 : Cond.methodLink RX8 121 yX8_in ∈ BIG := big_in (i := 846) (by decide +kernel) (by decide +kernel)
theorem bS_X8_in : Cond.static yX8_in ∈ BIG := big_in (i := 847) (by decide +kernel) (by decide +kernel)
theorem bC_X8_in : Cond.code yX8_in cX8_in 6 (some .boolean) ∈ BIG := big_in (i := 848) (by decide +kernel) (by decide +kernel)
theorem bL_L_22 : Cond.methodLink RL 22 yX8_tune ∈ BIG := big_in (i := 849) (by decide +kernel) (by decide +kernel)
theorem bI_X8_tune : Cond.instanceMethod yX8_tune ∈ BIG := big_in (i := 850) (by decide +kernel) (by decide +kernel)
theorem bV_X8_tune : Cond.selects RX8 yX8_tune yX8_tune ∈ BIG := big_in (i := 851) (by decide +kernel) (by decide +kernel)
theorem bC_X8_tune : Cond.code yX8_tune cX8_tune 4 (some .int) ∈ BIG := big_in (i := 852) (by decide +kernel) (by decide +kernel)
theorem bL_X8_129 : Cond.methodLink RX8 129 yX8_isDish ∈ BIG := big_in (i := 853) (by decide +kernel) (by decide +kernel)
theorem bI_X8_isDish : Cond.instanceMethod yX8_isDish ∈ BIG := big_in (i := 855) (by decide +kernel) (by decide +kernel)
theorem bC_X8_isDish : Cond.code yX8_isDish cX8_isDish 2 (some .boolean) ∈ BIG := big_in (i := 856) (by decide +kernel) (by decide +kernel)
theorem bQ_X8_133 : Cond.constantLong RX8 133 (30) ∈ BIG := big_in (i := 857) (by decide +kernel) (by decide +kernel)
theorem bQ_X8_135 : Cond.constantLong RX8 135 (-9) ∈ BIG := big_in (i := 858) (by decide +kernel) (by decide +kernel)
theorem bQ_X8_137 : Cond.constantLong RX8 137 (9) ∈ BIG := big_in (i := 859) (by decide +kernel) (by decide +kernel)
theorem bL_L_26 : Cond.methodLink RL 26 yX8_reel ∈ BIG := big_in (i := 860) (by decide +kernel) (by decide +kernel)
theorem bI_X8_reel : Cond.instanceMethod yX8_reel ∈ BIG := big_in (i := 861) (by decide +kernel) (by decide +kernel)
theorem bV_X8_reel : Cond.selects RX8 yX8_reel yX8_reel ∈ BIG := big_in (i := 862) (by decide +kernel) (by decide +kernel)
theorem bC_X8_reel : Cond.code yX8_reel cX8_reel 5 (some .int) ∈ BIG := big_in (i := 863) (by decide +kernel) (by decide +kernel)
theorem bQ_X8_139 : Cond.constantLong RX8 139 (2) ∈ BIG := big_in (i := 864) (by decide +kernel) (by decide +kernel)
theorem bL_X8_141 : Cond.methodLink RX8 141 yX8_meets ∈ BIG := big_in (i := 865) (by decide +kernel) (by decide +kernel)
theorem bI_X8_meets : Cond.instanceMethod yX8_meets ∈ BIG := big_in (i := 867) (by decide +kernel) (by decide +kernel)
theorem bC_X8_meets : Cond.code yX8_meets cX8_meets 2 (some .int) ∈ BIG := big_in (i := 868) (by decide +kernel) (by decide +kernel)
theorem bL_L_31 : Cond.methodLink RL 31 yX8_lose ∈ BIG := big_in (i := 869) (by decide +kernel) (by decide +kernel)
theorem bI_X8_lose : Cond.instanceMethod yX8_lose ∈ BIG := big_in (i := 870) (by decide +kernel) (by decide +kernel)
theorem bV_X8_lose : Cond.selects RX8 yX8_lose yX8_lose ∈ BIG := big_in (i := 871) (by decide +kernel) (by decide +kernel)
theorem bC_X8_lose : Cond.code yX8_lose cX8_lose 2 (some .int) ∈ BIG := big_in (i := 872) (by decide +kernel) (by decide +kernel)
theorem bL_L_36 : Cond.methodLink RL 36 yX8_put ∈ BIG := big_in (i := 873) (by decide +kernel) (by decide +kernel)
theorem bI_X8_put : Cond.instanceMethod yX8_put ∈ BIG := big_in (i := 874) (by decide +kernel) (by decide +kernel)
theorem bV_X8_put : Cond.selects RX8 yX8_put yX8_put ∈ BIG := big_in (i := 875) (by decide +kernel) (by decide +kernel)
theorem bC_X8_put : Cond.code yX8_put cX8_put 6 (some .int) ∈ BIG := big_in (i := 876) (by decide +kernel) (by decide +kernel)
theorem bL_X8_145 : Cond.methodLink RX8 145 yX8_lacks ∈ BIG := big_in (i := 877) (by decide +kernel) (by decide +kernel)
theorem bI_X8_lacks : Cond.instanceMethod yX8_lacks ∈ BIG := big_in (i := 879) (by decide +kernel) (by decide +kernel)
theorem bC_X8_lacks : Cond.code yX8_lacks cX8_lacks 4 (some .int) ∈ BIG := big_in (i := 880) (by decide +kernel) (by decide +kernel)
theorem bL_L_40 : Cond.methodLink RL 40 yX8_get ∈ BIG := big_in (i := 881) (by decide +kernel) (by decide +kernel)
theorem bI_X8_get : Cond.instanceMethod yX8_get ∈ BIG := big_in (i := 882) (by decide +kernel) (by decide +kernel)
theorem bV_X8_get : Cond.selects RX8 yX8_get yX8_get ∈ BIG := big_in (i := 883) (by decide +kernel) (by decide +kernel)
theorem bC_X8_get : Cond.code yX8_get cX8_get 5 (some .int) ∈ BIG := big_in (i := 884) (by decide +kernel) (by decide +kernel)
theorem bQ_X8_149 : Cond.constant RX8 149 (-2147483648) ∈ BIG := big_in (i := 885) (by decide +kernel) (by decide +kernel)
theorem bL_L_45 : Cond.methodLink RL 45 yX8_copy ∈ BIG := big_in (i := 886) (by decide +kernel) (by decide +kernel)
theorem bI_X8_copy : Cond.instanceMethod yX8_copy ∈ BIG := big_in (i := 887) (by decide +kernel) (by decide +kernel)
theorem bV_X8_copy : Cond.selects RX8 yX8_copy yX8_copy ∈ BIG := big_in (i := 888) (by decide +kernel) (by decide +kernel)
theorem bC_X8_copy : Cond.code yX8_copy cX8_copy 7 (some .int) ∈ BIG := big_in (i := 889) (by decide +kernel) (by decide +kernel)
theorem bL_L_49 : Cond.methodLink RL 49 yX8_flag ∈ BIG := big_in (i := 890) (by decide +kernel) (by decide +kernel)
theorem bI_X8_flag : Cond.instanceMethod yX8_flag ∈ BIG := big_in (i := 891) (by decide +kernel) (by decide +kernel)
theorem bV_X8_flag : Cond.selects RX8 yX8_flag yX8_flag ∈ BIG := big_in (i := 892) (by decide +kernel) (by decide +kernel)
theorem bC_X8_flag : Cond.code yX8_flag cX8_flag 4 (some .int) ∈ BIG := big_in (i := 893) (by decide +kernel) (by decide +kernel)
theorem bL_L_54 : Cond.methodLink RL 54 yX8_unflag ∈ BIG := big_in (i := 894) (by decide +kernel) (by decide +kernel)
theorem bI_X8_unflag : Cond.instanceMethod yX8_unflag ∈ BIG := big_in (i := 895) (by decide +kernel) (by decide +kernel)
theorem bV_X8_unflag : Cond.selects RX8 yX8_unflag yX8_unflag ∈ BIG := big_in (i := 896) (by decide +kernel) (by decide +kernel)
theorem bC_X8_unflag : Cond.code yX8_unflag cX8_unflag 1 (some .int) ∈ BIG := big_in (i := 897) (by decide +kernel) (by decide +kernel)
theorem bL_L_58 : Cond.methodLink RL 58 yX8_ticks ∈ BIG := big_in (i := 898) (by decide +kernel) (by decide +kernel)
theorem bI_X8_ticks : Cond.instanceMethod yX8_ticks ∈ BIG := big_in (i := 899) (by decide +kernel) (by decide +kernel)
theorem bV_X8_ticks : Cond.selects RX8 yX8_ticks yX8_ticks ∈ BIG := big_in (i := 900) (by decide +kernel) (by decide +kernel)
theorem bC_X8_ticks : Cond.code yX8_ticks cX8_ticks 5 (some .int) ∈ BIG := big_in (i := 901) (by decide +kernel) (by decide +kernel)
theorem bL_X8_172 : Cond.methodLink RX8 172 yX8_productOf ∈ BIG := big_in (i := 902) (by decide +kernel) (by decide +kernel)
theorem bI_X8_productOf : Cond.instanceMethod yX8_productOf ∈ BIG := big_in (i := 904) (by decide +kernel) (by decide +kernel)
theorem bC_X8_productOf : Cond.code yX8_productOf cX8_productOf 3 (some .long) ∈ BIG := big_in (i := 905) (by decide +kernel) (by decide +kernel)
theorem bL_X8_168 : Cond.methodLink RX8 168 yX8_multiply ∈ BIG := big_in (i := 906) (by decide +kernel) (by decide +kernel)
theorem bI_X8_multiply : Cond.instanceMethod yX8_multiply ∈ BIG := big_in (i := 908) (by decide +kernel) (by decide +kernel)
theorem bC_X8_multiply : Cond.code yX8_multiply cX8_multiply 8 (some .long) ∈ BIG := big_in (i := 909) (by decide +kernel) (by decide +kernel)
theorem bL_X8_160 : Cond.methodLink RX8 160 yX8_isSample ∈ BIG := big_in (i := 910) (by decide +kernel) (by decide +kernel)
theorem bI_X8_isSample : Cond.instanceMethod yX8_isSample ∈ BIG := big_in (i := 912) (by decide +kernel) (by decide +kernel)
theorem bC_X8_isSample : Cond.code yX8_isSample cX8_isSample 4 (some .boolean) ∈ BIG := big_in (i := 913) (by decide +kernel) (by decide +kernel)
theorem bL_X8_164 : Cond.methodLink RX8 164 yX8_sampleAt ∈ BIG := big_in (i := 914) (by decide +kernel) (by decide +kernel)
theorem bI_X8_sampleAt : Cond.instanceMethod yX8_sampleAt ∈ BIG := big_in (i := 916) (by decide +kernel) (by decide +kernel)
theorem bC_X8_sampleAt : Cond.code yX8_sampleAt cX8_sampleAt 4 (some .long) ∈ BIG := big_in (i := 917) (by decide +kernel) (by decide +kernel)
theorem bQ_X8_153 : Cond.constantLong RX8 153 (500) ∈ BIG := big_in (i := 918) (by decide +kernel) (by decide +kernel)
theorem bQ_X8_155 : Cond.constantLong RX8 155 (-500) ∈ BIG := big_in (i := 919) (by decide +kernel) (by decide +kernel)
theorem bL_L_63 : Cond.methodLink RL 63 yX8_product ∈ BIG := big_in (i := 920) (by decide +kernel) (by decide +kernel)
theorem bI_X8_product : Cond.instanceMethod yX8_product ∈ BIG := big_in (i := 921) (by decide +kernel) (by decide +kernel)
theorem bV_X8_product : Cond.selects RX8 yX8_product yX8_product ∈ BIG := big_in (i := 922) (by decide +kernel) (by decide +kernel)
theorem bC_X8_product : Cond.code yX8_product cX8_product 3 (some .long) ∈ BIG := big_in (i := 923) (by decide +kernel) (by decide +kernel)
theorem bQ_X8_175 : Cond.constantLong RX8 175 (-9223372036854775808) ∈ BIG := big_in (i := 924) (by decide +kernel) (by decide +kernel)
theorem bL_L_67 : Cond.methodLink RL 67 yX8_delay ∈ BIG := big_in (i := 925) (by decide +kernel) (by decide +kernel)
theorem bI_X8_delay : Cond.instanceMethod yX8_delay ∈ BIG := big_in (i := 926) (by decide +kernel) (by decide +kernel)
theorem bV_X8_delay : Cond.selects RX8 yX8_delay yX8_delay ∈ BIG := big_in (i := 927) (by decide +kernel) (by decide +kernel)
theorem bC_X8_delay : Cond.code yX8_delay cX8_delay 9 (some .int) ∈ BIG := big_in (i := 928) (by decide +kernel) (by decide +kernel)
theorem bL_L_71 : Cond.methodLink RL 71 yX8_three ∈ BIG := big_in (i := 929) (by decide +kernel) (by decide +kernel)
theorem bI_X8_three : Cond.instanceMethod yX8_three ∈ BIG := big_in (i := 930) (by decide +kernel) (by decide +kernel)
theorem bV_X8_three : Cond.selects RX8 yX8_three yX8_three ∈ BIG := big_in (i := 931) (by decide +kernel) (by decide +kernel)
theorem bC_X8_three : Cond.code yX8_three cX8_three 4 (some .int) ∈ BIG := big_in (i := 932) (by decide +kernel) (by decide +kernel)
theorem bL_X8_177 : Cond.methodLink RX8 177 yX8_sign ∈ BIG := big_in (i := 933) (by decide +kernel) (by decide +kernel)
theorem bS_X8_sign : Cond.static yX8_sign ∈ BIG := big_in (i := 934) (by decide +kernel) (by decide +kernel)
theorem bC_X8_sign : Cond.code yX8_sign cX8_sign 2 (some .int) ∈ BIG := big_in (i := 935) (by decide +kernel) (by decide +kernel)
theorem bL_L_75 : Cond.methodLink RL 75 yX8_four ∈ BIG := big_in (i := 936) (by decide +kernel) (by decide +kernel)
theorem bI_X8_four : Cond.instanceMethod yX8_four ∈ BIG := big_in (i := 937) (by decide +kernel) (by decide +kernel)
theorem bV_X8_four : Cond.selects RX8 yX8_four yX8_four ∈ BIG := big_in (i := 938) (by decide +kernel) (by decide +kernel)
theorem bC_X8_four : Cond.code yX8_four cX8_four 5 (some .int) ∈ BIG := big_in (i := 939) (by decide +kernel) (by decide +kernel)
theorem bL_L_79 : Cond.methodLink RL 79 yX8_beam ∈ BIG := big_in (i := 940) (by decide +kernel) (by decide +kernel)
theorem bI_X8_beam : Cond.instanceMethod yX8_beam ∈ BIG := big_in (i := 941) (by decide +kernel) (by decide +kernel)
theorem bV_X8_beam : Cond.selects RX8 yX8_beam yX8_beam ∈ BIG := big_in (i := 942) (by decide +kernel) (by decide +kernel)
theorem bC_X8_beam : Cond.code yX8_beam cX8_beam 3 (some .int) ∈ BIG := big_in (i := 943) (by decide +kernel) (by decide +kernel)
theorem bQ_X8_202 : Cond.constantLong RX8 202 (-1000) ∈ BIG := big_in (i := 944) (by decide +kernel) (by decide +kernel)
theorem bQ_X8_204 : Cond.constantLong RX8 204 (1000) ∈ BIG := big_in (i := 945) (by decide +kernel) (by decide +kernel)
theorem bL_X8_206 : Cond.methodLink RX8 206 yX8_space ∈ BIG := big_in (i := 946) (by decide +kernel) (by decide +kernel)
theorem bI_X8_space : Cond.instanceMethod yX8_space ∈ BIG := big_in (i := 948) (by decide +kernel) (by decide +kernel)
theorem bC_X8_space : Cond.code yX8_space cX8_space 5 none ∈ BIG := big_in (i := 949) (by decide +kernel) (by decide +kernel)
theorem bL_X8_209 : Cond.methodLink RX8 209 yX8_beamNow ∈ BIG := big_in (i := 950) (by decide +kernel) (by decide +kernel)
theorem bI_X8_beamNow : Cond.instanceMethod yX8_beamNow ∈ BIG := big_in (i := 952) (by decide +kernel) (by decide +kernel)
theorem bC_X8_beamNow : Cond.code yX8_beamNow cX8_beamNow 5 (some .int) ∈ BIG := big_in (i := 953) (by decide +kernel) (by decide +kernel)
theorem bL_X8_196 : Cond.methodLink RX8 196 yX8_wave ∈ BIG := big_in (i := 954) (by decide +kernel) (by decide +kernel)
theorem bI_X8_wave : Cond.instanceMethod yX8_wave ∈ BIG := big_in (i := 956) (by decide +kernel) (by decide +kernel)
theorem bC_X8_wave : Cond.code yX8_wave cX8_wave 2 (some .int) ∈ BIG := big_in (i := 957) (by decide +kernel) (by decide +kernel)
theorem bL_L_83 : Cond.methodLink RL 83 yX8_point ∈ BIG := big_in (i := 958) (by decide +kernel) (by decide +kernel)
theorem bI_X8_point : Cond.instanceMethod yX8_point ∈ BIG := big_in (i := 959) (by decide +kernel) (by decide +kernel)
theorem bV_X8_point : Cond.selects RX8 yX8_point yX8_point ∈ BIG := big_in (i := 960) (by decide +kernel) (by decide +kernel)
theorem bC_X8_point : Cond.code yX8_point cX8_point 4 (some .int) ∈ BIG := big_in (i := 961) (by decide +kernel) (by decide +kernel)
theorem bL_X8_215 : Cond.methodLink RX8 215 yX8_isCell ∈ BIG := big_in (i := 962) (by decide +kernel) (by decide +kernel)
theorem bS_X8_isCell : Cond.static yX8_isCell ∈ BIG := big_in (i := 963) (by decide +kernel) (by decide +kernel)
theorem bC_X8_isCell : Cond.code yX8_isCell cX8_isCell 2 (some .boolean) ∈ BIG := big_in (i := 964) (by decide +kernel) (by decide +kernel)
theorem bQ_X8_213 : Cond.constantLong RX8 213 (15) ∈ BIG := big_in (i := 965) (by decide +kernel) (by decide +kernel)
theorem bL_L_87 : Cond.methodLink RL 87 yX8_dark ∈ BIG := big_in (i := 966) (by decide +kernel) (by decide +kernel)
theorem bI_X8_dark : Cond.instanceMethod yX8_dark ∈ BIG := big_in (i := 967) (by decide +kernel) (by decide +kernel)
theorem bV_X8_dark : Cond.selects RX8 yX8_dark yX8_dark ∈ BIG := big_in (i := 968) (by decide +kernel) (by decide +kernel)
theorem bC_X8_dark : Cond.code yX8_dark cX8_dark 2 (some .int) ∈ BIG := big_in (i := 969) (by decide +kernel) (by decide +kernel)
theorem bL_L_91 : Cond.methodLink RL 91 yX8_board ∈ BIG := big_in (i := 970) (by decide +kernel) (by decide +kernel)
theorem bI_X8_board : Cond.instanceMethod yX8_board ∈ BIG := big_in (i := 971) (by decide +kernel) (by decide +kernel)
theorem bV_X8_board : Cond.selects RX8 yX8_board yX8_board ∈ BIG := big_in (i := 972) (by decide +kernel) (by decide +kernel)
theorem bC_X8_board : Cond.code yX8_board cX8_board 4 (some .int) ∈ BIG := big_in (i := 973) (by decide +kernel) (by decide +kernel)
theorem bL_X8_221 : Cond.methodLink RX8 221 yX8_cellOf ∈ BIG := big_in (i := 974) (by decide +kernel) (by decide +kernel)
theorem bI_X8_cellOf : Cond.instanceMethod yX8_cellOf ∈ BIG := big_in (i := 976) (by decide +kernel) (by decide +kernel)
theorem bC_X8_cellOf : Cond.code yX8_cellOf cX8_cellOf 7 (some .long) ∈ BIG := big_in (i := 977) (by decide +kernel) (by decide +kernel)
theorem bL_L_95 : Cond.methodLink RL 95 yX8_at ∈ BIG := big_in (i := 978) (by decide +kernel) (by decide +kernel)
theorem bI_X8_at : Cond.instanceMethod yX8_at ∈ BIG := big_in (i := 979) (by decide +kernel) (by decide +kernel)
theorem bV_X8_at : Cond.selects RX8 yX8_at yX8_at ∈ BIG := big_in (i := 980) (by decide +kernel) (by decide +kernel)
theorem bC_X8_at : Cond.code yX8_at cX8_at 3 (some .long) ∈ BIG := big_in (i := 981) (by decide +kernel) (by decide +kernel)
theorem bL_L_99 : Cond.methodLink RL 99 yX8_window ∈ BIG := big_in (i := 982) (by decide +kernel) (by decide +kernel)
theorem bI_X8_window : Cond.instanceMethod yX8_window ∈ BIG := big_in (i := 983) (by decide +kernel) (by decide +kernel)
theorem bV_X8_window : Cond.selects RX8 yX8_window yX8_window ∈ BIG := big_in (i := 984) (by decide +kernel) (by decide +kernel)
theorem bC_X8_window : Cond.code yX8_window cX8_window 5 (some .int) ∈ BIG := big_in (i := 985) (by decide +kernel) (by decide +kernel)
theorem bL_X8_228 : Cond.methodLink RX8 228 yX8_cells ∈ BIG := big_in (i := 986) (by decide +kernel) (by decide +kernel)
theorem bI_X8_cells : Cond.instanceMethod yX8_cells ∈ BIG := big_in (i := 988) (by decide +kernel) (by decide +kernel)
theorem bC_X8_cells : Cond.code yX8_cells cX8_cells 1 (some .int) ∈ BIG := big_in (i := 989) (by decide +kernel) (by decide +kernel)
theorem bL_L_103 : Cond.methodLink RL 103 yX8_peak ∈ BIG := big_in (i := 990) (by decide +kernel) (by decide +kernel)
theorem bI_X8_peak : Cond.instanceMethod yX8_peak ∈ BIG := big_in (i := 991) (by decide +kernel) (by decide +kernel)
theorem bV_X8_peak : Cond.selects RX8 yX8_peak yX8_peak ∈ BIG := big_in (i := 992) (by decide +kernel) (by decide +kernel)
theorem bC_X8_peak : Cond.code yX8_peak cX8_peak 4 (some .int) ∈ BIG := big_in (i := 993) (by decide +kernel) (by decide +kernel)
theorem bL_X8_232 : Cond.methodLink RX8 232 yX8_amount ∈ BIG := big_in (i := 994) (by decide +kernel) (by decide +kernel)
theorem bS_X8_amount : Cond.static yX8_amount ∈ BIG := big_in (i := 995) (by decide +kernel) (by decide +kernel)
theorem bC_X8_amount : Cond.code yX8_amount cX8_amount 2 (some .long) ∈ BIG := big_in (i := 996) (by decide +kernel) (by decide +kernel)
theorem bL_L_107 : Cond.methodLink RL 107 yX8_take ∈ BIG := big_in (i := 997) (by decide +kernel) (by decide +kernel)
theorem bI_X8_take : Cond.instanceMethod yX8_take ∈ BIG := big_in (i := 998) (by decide +kernel) (by decide +kernel)
theorem bV_X8_take : Cond.selects RX8 yX8_take yX8_take ∈ BIG := big_in (i := 999) (by decide +kernel) (by decide +kernel)
theorem bC_X8_take : Cond.code yX8_take cX8_take 9 (some .int) ∈ BIG := big_in (i := 1000) (by decide +kernel) (by decide +kernel)
theorem bQ_X8_239 : Cond.constantLong RX8 239 (50) ∈ BIG := big_in (i := 1001) (by decide +kernel) (by decide +kernel)
theorem bL_X8_241 : Cond.methodLink RX8 241 yX8_peak ∈ BIG := big_in (i := 1002) (by decide +kernel) (by decide +kernel)
theorem bL_X8_236 : Cond.methodLink RX8 236 yX8_keptBeam ∈ BIG := big_in (i := 1003) (by decide +kernel) (by decide +kernel)
theorem bI_X8_keptBeam : Cond.instanceMethod yX8_keptBeam ∈ BIG := big_in (i := 1005) (by decide +kernel) (by decide +kernel)
theorem bC_X8_keptBeam : Cond.code yX8_keptBeam cX8_keptBeam 5 (some .int) ∈ BIG := big_in (i := 1006) (by decide +kernel) (by decide +kernel)
theorem bL_X8_244 : Cond.methodLink RX8 244 yX8_lays ∈ BIG := big_in (i := 1007) (by decide +kernel) (by decide +kernel)
theorem bI_X8_lays : Cond.instanceMethod yX8_lays ∈ BIG := big_in (i := 1009) (by decide +kernel) (by decide +kernel)
theorem bC_X8_lays : Cond.code yX8_lays cX8_lays 6 none ∈ BIG := big_in (i := 1010) (by decide +kernel) (by decide +kernel)
theorem bL_L_111 : Cond.methodLink RL 111 yX8_part ∈ BIG := big_in (i := 1011) (by decide +kernel) (by decide +kernel)
theorem bI_X8_part : Cond.instanceMethod yX8_part ∈ BIG := big_in (i := 1012) (by decide +kernel) (by decide +kernel)
theorem bV_X8_part : Cond.selects RX8 yX8_part yX8_part ∈ BIG := big_in (i := 1013) (by decide +kernel) (by decide +kernel)
theorem bC_X8_part : Cond.code yX8_part cX8_part 3 (some .long) ∈ BIG := big_in (i := 1014) (by decide +kernel) (by decide +kernel)
theorem bL_L_115 : Cond.methodLink RL 115 yX8_back ∈ BIG := big_in (i := 1015) (by decide +kernel) (by decide +kernel)
theorem bI_X8_back : Cond.instanceMethod yX8_back ∈ BIG := big_in (i := 1016) (by decide +kernel) (by decide +kernel)
theorem bV_X8_back : Cond.selects RX8 yX8_back yX8_back ∈ BIG := big_in (i := 1017) (by decide +kernel) (by decide +kernel)
theorem bC_X8_back : Cond.code yX8_back cX8_back 1 (some .int) ∈ BIG := big_in (i := 1018) (by decide +kernel) (by decide +kernel)
theorem bL_L_119 : Cond.methodLink RL 119 yX8_source ∈ BIG := big_in (i := 1019) (by decide +kernel) (by decide +kernel)
theorem bI_X8_source : Cond.instanceMethod yX8_source ∈ BIG := big_in (i := 1020) (by decide +kernel) (by decide +kernel)
theorem bV_X8_source : Cond.selects RX8 yX8_source yX8_source ∈ BIG := big_in (i := 1021) (by decide +kernel) (by decide +kernel)
theorem bC_X8_source : Cond.code yX8_source cX8_source 4 (some .int) ∈ BIG := big_in (i := 1022) (by decide +kernel) (by decide +kernel)
theorem bQ_X8_248 : Cond.constantLong RX8 248 (7) ∈ BIG := big_in (i := 1023) (by decide +kernel) (by decide +kernel)
theorem bL_L_123 : Cond.methodLink RL 123 yX8_order ∈ BIG := big_in (i := 1024) (by decide +kernel) (by decide +kernel)
theorem bI_X8_order : Cond.instanceMethod yX8_order ∈ BIG := big_in (i := 1025) (by decide +kernel) (by decide +kernel)
theorem bV_X8_order : Cond.selects RX8 yX8_order yX8_order ∈ BIG := big_in (i := 1026) (by decide +kernel) (by decide +kernel)
theorem bC_X8_order : Cond.code yX8_order cX8_order 4 (some .int) ∈ BIG := big_in (i := 1027) (by decide +kernel) (by decide +kernel)
theorem bL_X8_257 : Cond.methodLink RX8 257 yX8_isOrder ∈ BIG := big_in (i := 1028) (by decide +kernel) (by decide +kernel)
theorem bI_X8_isOrder : Cond.instanceMethod yX8_isOrder ∈ BIG := big_in (i := 1030) (by decide +kernel) (by decide +kernel)
theorem bC_X8_isOrder : Cond.code yX8_isOrder cX8_isOrder 4 (some .boolean) ∈ BIG := big_in (i := 1031) (by decide +kernel) (by decide +kernel)
theorem bQ_X8_250 : Cond.constantLong RX8 250 (600) ∈ BIG := big_in (i := 1032) (by decide +kernel) (by decide +kernel)
theorem bQ_X8_252 : Cond.constantLong RX8 252 (359) ∈ BIG := big_in (i := 1033) (by decide +kernel) (by decide +kernel)
theorem bL_L_127 : Cond.methodLink RL 127 yX8_wipe ∈ BIG := big_in (i := 1034) (by decide +kernel) (by decide +kernel)
theorem bI_X8_wipe : Cond.instanceMethod yX8_wipe ∈ BIG := big_in (i := 1035) (by decide +kernel) (by decide +kernel)
theorem bV_X8_wipe : Cond.selects RX8 yX8_wipe yX8_wipe ∈ BIG := big_in (i := 1036) (by decide +kernel) (by decide +kernel)
theorem bC_X8_wipe : Cond.code yX8_wipe cX8_wipe 2 (some .int) ∈ BIG := big_in (i := 1037) (by decide +kernel) (by decide +kernel)
theorem bL_L_131 : Cond.methodLink RL 131 yX8_night ∈ BIG := big_in (i := 1038) (by decide +kernel) (by decide +kernel)
theorem bI_X8_night : Cond.instanceMethod yX8_night ∈ BIG := big_in (i := 1039) (by decide +kernel) (by decide +kernel)
theorem bV_X8_night : Cond.selects RX8 yX8_night yX8_night ∈ BIG := big_in (i := 1040) (by decide +kernel) (by decide +kernel)
theorem bC_X8_night : Cond.code yX8_night cX8_night 3 (some .int) ∈ BIG := big_in (i := 1041) (by decide +kernel) (by decide +kernel)
theorem bQ_X8_288 : Cond.constantLong RX8 288 (100000) ∈ BIG := big_in (i := 1042) (by decide +kernel) (by decide +kernel)
theorem bL_X8_273 : Cond.methodLink RX8 273 yX8_lengthOf ∈ BIG := big_in (i := 1043) (by decide +kernel) (by decide +kernel)
theorem bI_X8_lengthOf : Cond.instanceMethod yX8_lengthOf ∈ BIG := big_in (i := 1045) (by decide +kernel) (by decide +kernel)
theorem bC_X8_lengthOf : Cond.code yX8_lengthOf cX8_lengthOf 2 (some .int) ∈ BIG := big_in (i := 1046) (by decide +kernel) (by decide +kernel)
theorem bL_X8_264 : Cond.methodLink RX8 264 yX8_turnOf ∈ BIG := big_in (i := 1047) (by decide +kernel) (by decide +kernel)
theorem bI_X8_turnOf : Cond.instanceMethod yX8_turnOf ∈ BIG := big_in (i := 1049) (by decide +kernel) (by decide +kernel)
theorem bC_X8_turnOf : Cond.code yX8_turnOf cX8_turnOf 4 (some .int) ∈ BIG := big_in (i := 1050) (by decide +kernel) (by decide +kernel)
theorem bL_X8_290 : Cond.methodLink RX8 290 yX8_isUpAll ∈ BIG := big_in (i := 1051) (by decide +kernel) (by decide +kernel)
theorem bI_X8_isUpAll : Cond.instanceMethod yX8_isUpAll ∈ BIG := big_in (i := 1053) (by decide +kernel) (by decide +kernel)
theorem bC_X8_isUpAll : Cond.code yX8_isUpAll cX8_isUpAll 3 (some .boolean) ∈ BIG := big_in (i := 1054) (by decide +kernel) (by decide +kernel)
theorem bL_X8_270 : Cond.methodLink RX8 270 yX8_isUp ∈ BIG := big_in (i := 1055) (by decide +kernel) (by decide +kernel)
theorem bI_X8_isUp : Cond.instanceMethod yX8_isUp ∈ BIG := big_in (i := 1057) (by decide +kernel) (by decide +kernel)
theorem bC_X8_isUp : Cond.code yX8_isUp cX8_isUp 3 (some .boolean) ∈ BIG := big_in (i := 1058) (by decide +kernel) (by decide +kernel)
theorem bL_X8_293 : Cond.methodLink RX8 293 yX8_does ∈ BIG := big_in (i := 1059) (by decide +kernel) (by decide +kernel)
theorem bI_X8_does : Cond.instanceMethod yX8_does ∈ BIG := big_in (i := 1061) (by decide +kernel) (by decide +kernel)
theorem bC_X8_does : Cond.code yX8_does cX8_does 4 (some .int) ∈ BIG := big_in (i := 1062) (by decide +kernel) (by decide +kernel)
theorem bL_L_135 : Cond.methodLink RL 135 yX8_told ∈ BIG := big_in (i := 1063) (by decide +kernel) (by decide +kernel)
theorem bI_X8_told : Cond.instanceMethod yX8_told ∈ BIG := big_in (i := 1064) (by decide +kernel) (by decide +kernel)
theorem bV_X8_told : Cond.selects RX8 yX8_told yX8_told ∈ BIG := big_in (i := 1065) (by decide +kernel) (by decide +kernel)
theorem bC_X8_told : Cond.code yX8_told cX8_told 2 (some .int) ∈ BIG := big_in (i := 1066) (by decide +kernel) (by decide +kernel)
theorem bQ_X8_296 : Cond.constantLong RX8 296 (10) ∈ BIG := big_in (i := 1067) (by decide +kernel) (by decide +kernel)
theorem bQ_X8_298 : Cond.constantLong RX8 298 (17) ∈ BIG := big_in (i := 1068) (by decide +kernel) (by decide +kernel)
theorem bL_L_139 : Cond.methodLink RL 139 yX8_count ∈ BIG := big_in (i := 1069) (by decide +kernel) (by decide +kernel)
theorem bI_X8_count : Cond.instanceMethod yX8_count ∈ BIG := big_in (i := 1070) (by decide +kernel) (by decide +kernel)
theorem bV_X8_count : Cond.selects RX8 yX8_count yX8_count ∈ BIG := big_in (i := 1071) (by decide +kernel) (by decide +kernel)
theorem bC_X8_count : Cond.code yX8_count cX8_count 2 (some .int) ∈ BIG := big_in (i := 1072) (by decide +kernel) (by decide +kernel)
theorem bL_L_144 : Cond.methodLink RL 144 yX8_digest ∈ BIG := big_in (i := 1073) (by decide +kernel) (by decide +kernel)
theorem bI_X8_digest : Cond.instanceMethod yX8_digest ∈ BIG := big_in (i := 1074) (by decide +kernel) (by decide +kernel)
theorem bV_X8_digest : Cond.selects RX8 yX8_digest yX8_digest ∈ BIG := big_in (i := 1075) (by decide +kernel) (by decide +kernel)
theorem bC_X8_digest : Cond.code yX8_digest cX8_digest 5 (some .long) ∈ BIG := big_in (i := 1076) (by decide +kernel) (by decide +kernel)
theorem bQ_X8_300 : Cond.constantLong RX8 300 (31) ∈ BIG := big_in (i := 1077) (by decide +kernel) (by decide +kernel)
theorem bL_X8_302 : Cond.methodLink RX8 302 yX8_count ∈ BIG := big_in (i := 1078) (by decide +kernel) (by decide +kernel)
theorem bL_X8_305 : Cond.methodLink RX8 305 yX8_ticks ∈ BIG := big_in (i := 1079) (by decide +kernel) (by decide +kernel)
theorem bL_X8_308 : Cond.methodLink RX8 308 yX8_product ∈ BIG := big_in (i := 1080) (by decide +kernel) (by decide +kernel)
theorem inB_X0 : ∀ w ∈ u_ws RX0 TX0 9, w ∈ BIG := big_all [151, 153, 155, 157, 159, 161, 163, 165, 167] (by decide +kernel) (by decide +kernel)
theorem inB_X1 : ∀ w ∈ u_ws RX1 TX1 8, w ∈ BIG := big_all [300, 302, 304, 306, 308, 310, 312, 314] (by decide +kernel) (by decide +kernel)
theorem inB_X2 : ∀ w ∈ u_ws RX2 TX2 4, w ∈ BIG := big_all [123, 125, 127, 129] (by decide +kernel) (by decide +kernel)
theorem inB_X3 : ∀ w ∈ u_ws RX3 TX3 6, w ∈ BIG := big_all [192, 194, 196, 198, 200, 202] (by decide +kernel) (by decide +kernel)
theorem inB_X4 : ∀ w ∈ u_ws RX4 TX4 6, w ∈ BIG := big_all [73, 75, 77, 79, 81, 83] (by decide +kernel) (by decide +kernel)
theorem inB_X5 : ∀ w ∈ u_ws RX5 TX5 9, w ∈ BIG := big_all [227, 229, 231, 233, 235, 237, 239, 241, 243] (by decide +kernel) (by decide +kernel)
theorem inB_X6 : ∀ w ∈ u_ws RX6 TX6 4, w ∈ BIG := big_all [98, 100, 102, 104] (by decide +kernel) (by decide +kernel)
theorem inB_X7 : ∀ w ∈ u_ws RX7 TX7 7, w ∈ BIG := big_all [253, 255, 257, 259, 261, 263, 265] (by decide +kernel) (by decide +kernel)
theorem inB_X8 : ∀ w ∈ u_ws RX8 TX8 52, w ∈ BIG := big_all [734, 736, 738, 740, 742, 744, 746, 748, 750, 752, 754, 756, 758, 760, 762, 764, 766, 768, 770, 772, 774, 776, 778, 780, 782, 784, 786, 788, 790, 792, 794, 796, 798, 800, 802, 804, 806, 808, 810, 812, 814, 816, 818, 820, 822, 824, 826, 828, 830, 832, 834, 836] (by decide +kernel) (by decide +kernel)
end
section
/-! A world as a row of n cells: cell k at the address q k holds E k. What is fixed in a method (CX), what moves (WB), a contract's start (PW) and its world's end (BW). -/
def wl (n : Nat) (q : Nat → Nat) (E : Nat → va_E) : va_W := (List.range n).map (fun k => (q k, E k))
theorem wl_len (n : Nat) (q : Nat → Nat) (E : Nat → va_E) : (wl n q E).length = n := by simp [wl]
theorem wl_at {n : Nat} {q : Nat → Nat} {E : Nat → va_E} {k : Nat} (h : k < n) : (wl n q E)[k]? = some (q k, E k) := by simp [wl, h]
theorem wl_of {n : Nat} {q : Nat → Nat} {E : Nat → va_E} {k : Nat} {x : Nat × va_E} (h : (wl n q E)[k]? = some x) : k < n ∧ x = (q k, E k) := by
  have hk : k < n := by
    have := (List.getElem?_eq_some_iff.mp h).1
    rwa [wl_len] at this
  rw [wl_at hk] at h
  exact ⟨hk, (Option.some.inj h).symm⟩
theorem wl_set {n : Nat} {q : Nat → Nat} {E : Nat → va_E} {k : Nat} (h : k < n) (v : va_E) : (wl n q E).set k (q k, v) = wl n q (va_up E k v) := by
  apply List.ext_getElem?
  intro j
  by_cases hj : j < n
  · rw [wl_at hj]
    by_cases e : j = k
    · subst e
      rw [List.getElem?_set_self (by rw [wl_len]; exact hj)]
      simp [va_up]
    · rw [List.getElem?_set_ne (Ne.symm e), wl_at hj]
      simp [va_up, e]
  · rw [List.getElem?_eq_none (by rw [List.length_set, wl_len]; omega), List.getElem?_eq_none (by rw [wl_len]; omega)]
theorem wl_congr {n : Nat} {q : Nat → Nat} {E E' : Nat → va_E} (h : ∀ k, k < n → E k = E' k) : wl n q E = wl n q E' := by
  apply List.ext_getElem?
  intro j
  by_cases hj : j < n
  · rw [wl_at hj, wl_at hj, h j hj]
  · rw [List.getElem?_eq_none (by rw [wl_len]; omega), List.getElem?_eq_none (by rw [wl_len]; omega)]
def inj (n : Nat) (q : Nat → Nat) : Prop := ∀ i j, i < n → j < n → q i = q j → i = j
/-- what a method of this world may change: its cells, and new ones -/
def FA (n : Nat) (q : Nat → Nat) (sz : Nat) : Nat → Prop := fun a => (∃ k, k < n ∧ q k = a) ∨ sz ≤ a
theorem wl_D {n : Nat} {q : Nat → Nat} {E : Nat → va_E} (h : inj n q) (sz : Nat) : va_D (FA n q sz) (wl n q E) := by
  refine ⟨fun i j x y hi hj e => ?_, fun k x hk => ?_⟩
  · obtain ⟨h1, rfl⟩ := wl_of hi
    obtain ⟨h2, rfl⟩ := wl_of hj
    exact h i j h1 h2 e
  · obtain ⟨h1, rfl⟩ := wl_of hk
    exact Or.inl ⟨k, h1, rfl⟩
/-- the launch's own: the classes' slots, the array classes (int, long, boolean, Dish), WAVE's address -/
abbrev GG : Type := va_G × (ClassId × ClassId × ClassId × ClassId) × Nat
def gT (G : GG) : List (ClassId × FieldType) := [(G.2.1.1, .int), (G.2.1.2.1, .long), (G.2.1.2.2.1, .boolean), (G.2.1.2.2.2, .object RX1)]
def gE (G : GG) (U : State) : Prop := va_K G.1 vwCl (gT G) U ∧ va_Nw (.methodLinkNest RX3 33 yX7_isWithin RX7) U
def wvL : List Int32 := [1000, 924, 707, 383, 0, -383, -707, -924, -1000, -924, -707, -383, 0, 383, 707, 924]
def wv (k : Nat) : Int32 := wvL.getD k 0
def gZ (G : GG) (A : Nat → Prop) (U : State) (H : Heap) : Prop := va_Z RX6 "WAVE" "[I" (.ref G.2.2) A U H ∧ va_T .int G.2.2 16 (fun j => .int (wv j)) A U H
theorem gE.moved {G : GG} {u U : State} (h : gE G u) (hW : u.WarmedH U.vm) : gE G U := ⟨va_K.moved hW.alike h.1, va_Nw.warmM hW h.2⟩
theorem gE.calling {G : GG} {U : State} {g : JFrame} {mk : MethodId} {a : Array Value} (h : gE G U) : gE G (U.calling g mk a) :=
  ⟨va_K.moved (u := U) (U := U.calling g mk a) (Vm.Alike.refl U.vm) h.1, va_Nw.same (u := U) (U := U.calling g mk a) rfl rfl h.2⟩
theorem gZ.moved {G : GG} {A : Nat → Prop} {u U : State} {H : Heap} (hvm : u.vm.Alike U.vm) (h : gZ G A u H) : gZ G A U H := ⟨va_Z.moved hvm h.1, va_T.moved hvm h.2⟩
theorem gZ.kept {G : GG} {A : Nat → Prop} {U : State} {H H1 : Heap} (h : gZ G A U H) (hq : ∀ a : Nat, a < H.size → ¬ A a → H1[a]? = H[a]?) : gZ G A U H1 := ⟨va_Z.kept h.1 hq, va_T.kept h.2 hq⟩
theorem gZ.narrow {G : GG} {A B : Nat → Prop} {U : State} {H : Heap} (h : gZ G A U H) (hAB : ∀ q, B q → A q) : gZ G B U H := ⟨va_Z.narrow h.1 hAB, va_T.narrow h.2 hAB⟩
def PW (G : GG) (n : Nat) (q : Nat → Nat) (sz : Nat) (E : Nat → va_E) (U : State) : Prop := U.heap.size = sz ∧ gE G U ∧ inj n q ∧ gZ G (FA n q sz) U U.heap ∧ va_P G.1 vwCl (wl n q E) U.heap
def BW (G : GG) (n : Nat) (q : Nat → Nat) (E : Nat → va_E) (t : State) : Prop := va_P G.1 vwCl (wl n q E) t.heap
abbrev WSb (y : MethodName) (cc : ByteArray) (nL : Nat) (ret : Option FieldType) : List Cond := Cond.code y cc nL ret :: BIG
theorem wsb_good {y : MethodName} {cc : ByteArray} {nL : Nat} {ret : Option FieldType} (h : Cond.code y cc nL ret ∈ BIG) : GoodIn BIG (WSb y cc nL ret) := fun w hw => (List.mem_cons.mp hw).elim (fun e => by rw [e]; exact big_good _ h) (fun h => big_good w h)
def CX (G : GG) (p : Program) (s : State) (m : MethodId) (args : Array Value) (c : Code) (cc : ByteArray) (nL : Nat) (own : String) (n : Nat) (q : Nat → Nat) : Prop :=
  p.tables.exec = Jvm.exec ∧ c.code = cc ∧ c.maxLocals = nL ∧ s.vm.findClass own = some m.cls ∧ (∀ w ∈ BIG, w.before args s = true) ∧ gE G s ∧ inj n q ∧ gZ G (FA n q s.heap.size) s s.heap
def WB (G : GG) (n : Nat) (q : Nat → Nat) (E : Nat → va_E) (s : State) (H : Heap) (locs : List Loc) : Prop := va_P G.1 vwCl (wl n q E) H ∧ va_S (FA n q s.heap.size) s.heap H locs
theorem WB.to {G : GG} {n : Nat} {q : Nat → Nat} {E E' : Nat → va_E} {s : State} {H : Heap} {locs : List Loc} (h : WB G n q E s H locs) (hE : ∀ k, k < n → E k = E' k) : WB G n q E' s H locs := by
  refine ⟨?_, h.2⟩
  rw [← wl_congr hE]
  exact h.1
section BASE
variable {G : GG} {p : Program} {l : Launch} {e : Env} {R : Room} {s : State} {m : MethodId} {args : Array Value} {below : List Frame} {meth : Method} {c : Code} {H : Heap} {locs : List Loc} {cells slots : Nat} {Q : State → Prop}
variable {cc : ByteArray} {pc : Nat} {ls : Array Slot} {rest : List Value} {nL n : Nat} {own : String} {q : Nat → Nat} {E : Nat → va_E}
theorem r_get (C : CX G p s m args c cc nL own n q) (hW : WB G n q E s H locs) {o k idx ci N : Nat} {fs : List Value} {Cn : String} {T : u_T} {v : Value} (ho : o < n) (he : E o = .inr (ci, fs)) (hc : vwCl[ci]? = some (Cn, T, N)) (hk : k < N)
    (hlink : Cond.fieldLink own idx Cn (T k).2.1 (T k).2.2.1 ∈ BIG) (hdecl : (T k).1 = Cn) (hin : ∀ w ∈ u_ws Cn T N, w ∈ BIG) (hv : fs[k]? = some v) (hdg : decode cc pc = .ok (.getfield idx, 3))
    (kk : W p l e R s m args below meth c H locs cells slots Q (F0 m (pc + 3) ls (v :: rest))) : W p l e R s m args below meth c H locs cells slots Q (F0 m pc ls (.ref (q o) :: rest)) := by
  obtain ⟨hx, hb, -, hown, hts, hE, -, -⟩ := C
  exact va_get hx hb hts hin hown hE.1 hW.1 o (fs := fs) (by rw [wl_at ho, he]) hc k hk (hts _ hlink) (fun x h => by rw [← hdecl]; exact h) hv hdg kk
theorem r_put (C : CX G p s m args c cc nL own n q) (hW : WB G n q E s H locs) {o k idx ci N : Nat} {fs : List Value} {Cn : String} {T : u_T} {v : Value} {ty : FieldType} (ho : o < n) (he : E o = .inr (ci, fs)) (hc : vwCl[ci]? = some (Cn, T, N)) (hk : k < N)
    (hlink : Cond.fieldLink own idx Cn (T k).2.1 (T k).2.2.1 ∈ BIG) (hdecl : (T k).1 = Cn) (hin : ∀ w ∈ u_ws Cn T N, w ∈ BIG) (ty0 : Nat → FieldType) (hty : ∀ k, k < N → parseFieldDescriptor (T k).2.2.1 = some (ty0 k)) (hnm : ∀ a, a < N → ∀ b, b < N → a ≠ b → (T a).2.1 ≠ (T b).2.1)
    (hfin : (T k).2.2.2 = false) (hd : parseFieldDescriptor (T k).2.2.1 = some ty) (hn : narrow ty v = v) (hfit : fits ty v = true) (hl : k < fs.length) (hdg : decode cc pc = .ok (.putfield idx, 3)) {E' : Nat → va_E} (hE' : ∀ j, j < n → va_up E o (.inr (ci, fs.set k v)) j = E' j)
    (kk : ∀ (H1 : Heap) (locs1 : List Loc), WB G n q E' s H1 locs1 → W p l e R s m args below meth c H1 locs1 cells slots Q (F0 m (pc + 3) ls rest)) : W p l e R s m args below meth c H locs cells slots Q (F0 m pc ls (v :: .ref (q o) :: rest)) := by
  obtain ⟨hx, hb, -, hown, hts, hE, hi, -⟩ := C
  refine va_put hx hb hts hin ty0 hty hnm hown hE.1 hW.1 (wl_D hi _) hW.2 o (fs := fs) (by rw [wl_at ho, he]) hc k hk (hts _ hlink) (fun x h => by rw [← hdecl]; exact h) hfin hd hn hfit hl hdg (fun H1 locs1 hP _ hS => kk H1 locs1 (WB.to ⟨?_, hS⟩ hE'))
  rw [← wl_set ho]
  exact hP
theorem r_iald (C : CX G p s m args c cc nL own n q) (hW : WB G n q E s H locs) {o z : Nat} {f : Nat → Int32} (ho : o < n) (he : E o = .inl (G.2.1.1, z, .inl f)) {i : Int32} {k : Nat} (hi : i.toInt = (k : Int)) (hk : k < z) {v : Int32} (hv : f k = v) (hdg : decode cc pc = .ok (.iaload, 1))
    (kk : W p l e R s m args below meth c H locs cells slots Q (F0 m (pc + 1) ls (.int v :: rest))) : W p l e R s m args below meth c H locs cells slots Q (F0 m pc ls (.int i :: .ref (q o) :: rest)) := by
  obtain ⟨hx, hb, -, -, -, hE, -, -⟩ := C
  have e : i.toNatClampNeg = k := by show i.toInt.toNat = k; rw [hi]; rfl
  refine va_iald hx hb hE.1 hW.1 o 0 (f := f) (n := z) (by rw [wl_at ho, he]) rfl (vp_in_iff.mpr (by omega)) hdg ?_
  rw [e, hv]
  exact kk
theorem r_zald (C : CX G p s m args c cc nL own n q) (hW : WB G n q E s H locs) {o z : Nat} {f : Nat → Int32} (ho : o < n) (he : E o = .inl (G.2.1.2.2.1, z, .inl f)) {i : Int32} {k : Nat} (hi : i.toInt = (k : Int)) (hk : k < z) {v : Int32} (hv : f k = v) (hdg : decode cc pc = .ok (.baload, 1))
    (kk : W p l e R s m args below meth c H locs cells slots Q (F0 m (pc + 1) ls (.int v :: rest))) : W p l e R s m args below meth c H locs cells slots Q (F0 m pc ls (.int i :: .ref (q o) :: rest)) := by
  obtain ⟨hx, hb, -, -, -, hE, -, -⟩ := C
  have e : i.toNatClampNeg = k := by show i.toInt.toNat = k; rw [hi]; rfl
  refine va_zald hx hb hE.1 hW.1 o 2 (f := f) (n := z) (by rw [wl_at ho, he]) rfl (vp_in_iff.mpr (by omega)) hdg ?_
  rw [e, hv]
  exact kk
theorem r_lald (C : CX G p s m args c cc nL own n q) (hW : WB G n q E s H locs) {o z : Nat} {f : Nat → Int64} (ho : o < n) (he : E o = .inl (G.2.1.2.1, z, .inr (.inl f))) {i : Int32} {k : Nat} (hi : i.toInt = (k : Int)) (hk : k < z) {v : Int64} (hv : f k = v) (hdg : decode cc pc = .ok (.laload, 1))
    (kk : W p l e R s m args below meth c H locs cells slots Q (F0 m (pc + 1) ls (.long v :: rest))) : W p l e R s m args below meth c H locs cells slots Q (F0 m pc ls (.int i :: .ref (q o) :: rest)) := by
  obtain ⟨hx, hb, -, -, -, hE, -, -⟩ := C
  have e : i.toNatClampNeg = k := by show i.toInt.toNat = k; rw [hi]; rfl
  refine va_lald hx hb hE.1 hW.1 o 1 (f := f) (n := z) (by rw [wl_at ho, he]) rfl (vp_in_iff.mpr (by omega)) hdg ?_
  rw [e, hv]
  exact kk
theorem r_iast (C : CX G p s m args c cc nL own n q) (hW : WB G n q E s H locs) {o z : Nat} {f : Nat → Int32} (ho : o < n) (he : E o = .inl (G.2.1.1, z, .inl f)) {i x : Int32} {k : Nat} (hi : i.toInt = (k : Int)) (hk : k < z) (hdg : decode cc pc = .ok (.iastore, 1)) {E' : Nat → va_E} (hE' : ∀ j, j < n → va_up E o (.inl (G.2.1.1, z, .inl (upd f k x))) j = E' j)
    (kk : ∀ (H1 : Heap) (locs1 : List Loc), WB G n q E' s H1 locs1 → W p l e R s m args below meth c H1 locs1 cells slots Q (F0 m (pc + 1) ls rest)) : W p l e R s m args below meth c H locs cells slots Q (F0 m pc ls (.int x :: .int i :: .ref (q o) :: rest)) := by
  obtain ⟨hx, hb, -, -, -, hE, hj, -⟩ := C
  have e : i.toNatClampNeg = k := by show i.toInt.toNat = k; rw [hi]; rfl
  refine va_iast hx hb hE.1 hW.1 (wl_D hj _) hW.2 o 0 (f := f) (n := z) (by rw [wl_at ho, he]) rfl (vp_in_iff.mpr (by omega)) hdg (fun H1 locs1 hP _ hS => kk H1 locs1 (WB.to ⟨?_, hS⟩ hE'))
  rw [← wl_set ho, ← e]
  exact hP
theorem r_zast (C : CX G p s m args c cc nL own n q) (hW : WB G n q E s H locs) {o z : Nat} {f : Nat → Int32} (ho : o < n) (he : E o = .inl (G.2.1.2.2.1, z, .inl f)) {i x : Int32} {k : Nat} (hi : i.toInt = (k : Int)) (hk : k < z) (hx1 : vp_nar .boolean x = x) (hdg : decode cc pc = .ok (.bastore, 1)) {E' : Nat → va_E} (hE' : ∀ j, j < n → va_up E o (.inl (G.2.1.2.2.1, z, .inl (upd f k x))) j = E' j)
    (kk : ∀ (H1 : Heap) (locs1 : List Loc), WB G n q E' s H1 locs1 → W p l e R s m args below meth c H1 locs1 cells slots Q (F0 m (pc + 1) ls rest)) : W p l e R s m args below meth c H locs cells slots Q (F0 m pc ls (.int x :: .int i :: .ref (q o) :: rest)) := by
  obtain ⟨hx, hb, -, -, -, hE, hj, -⟩ := C
  have e : i.toNatClampNeg = k := by show i.toInt.toNat = k; rw [hi]; rfl
  refine va_zast hx hb hE.1 hW.1 (wl_D hj _) hW.2 o 2 (f := f) (n := z) (by rw [wl_at ho, he]) rfl (vp_in_iff.mpr (by omega)) hdg (fun H1 locs1 hP _ hS => kk H1 locs1 (WB.to ⟨?_, hS⟩ hE'))
  rw [hx1, e] at hP
  rw [← wl_set ho]
  exact hP
theorem r_last (C : CX G p s m args c cc nL own n q) (hW : WB G n q E s H locs) {o z : Nat} {f : Nat → Int64} (ho : o < n) (he : E o = .inl (G.2.1.2.1, z, .inr (.inl f))) {i : Int32} {x : Int64} {k : Nat} (hi : i.toInt = (k : Int)) (hk : k < z) (hdg : decode cc pc = .ok (.lastore, 1)) {E' : Nat → va_E} (hE' : ∀ j, j < n → va_up E o (.inl (G.2.1.2.1, z, .inr (.inl (vp_updL f k x)))) j = E' j)
    (kk : ∀ (H1 : Heap) (locs1 : List Loc), WB G n q E' s H1 locs1 → W p l e R s m args below meth c H1 locs1 cells slots Q (F0 m (pc + 1) ls rest)) : W p l e R s m args below meth c H locs cells slots Q (F0 m pc ls (.long x :: .int i :: .ref (q o) :: rest)) := by
  obtain ⟨hx, hb, -, -, -, hE, hj, -⟩ := C
  have e : i.toNatClampNeg = k := by show i.toInt.toNat = k; rw [hi]; rfl
  refine va_last hx hb hE.1 hW.1 (wl_D hj _) hW.2 o 1 (f := f) (n := z) (by rw [wl_at ho, he]) rfl (vp_in_iff.mpr (by omega)) hdg (fun H1 locs1 hP _ hS => kk H1 locs1 (WB.to ⟨?_, hS⟩ hE'))
  rw [← wl_set ho, ← e]
  exact hP
/-- ends -/
theorem r_iret {S : Type} {post : Int32 → S → Prop} {EE : S → Nat → va_E} {r : Int32} (u : S) (C : CX G p s m args c cc nL own n q) (hW : WB G n q (EE u) s H locs) (hr : meth.sig.returnType = some .int) (hk : meth.locks = false) (hdg : decode cc pc = .ok (.ireturn, 1)) (hp : post r u) :
    W p l e R s m args below meth c H locs cells slots (MQ below (va_Qi post (fun u => BW G n q (EE u)) (FA n q s.heap.size)) args s cells slots (FA n q s.heap.size)) (F0 m pc ls [.int r]) :=
  W.iret C.1 C.2.1 hr (fun t ht _ => ⟨⟨r, u, rfl, hp, by show va_P _ _ _ t.heap; rw [ht]; exact hW.1⟩, hW.2.F ht⟩) hW.2.2.2 hdg hk
theorem r_zret {S : Type} {post : Int32 → S → Prop} {EE : S → Nat → va_E} {r : Int32} (u : S) (C : CX G p s m args c cc nL own n q) (hW : WB G n q (EE u) s H locs) (hr : meth.sig.returnType = some .boolean) (hn : narrow .boolean (.int r) = .int r) (hk : meth.locks = false) (hdg : decode cc pc = .ok (.ireturn, 1)) (hp : post r u) :
    W p l e R s m args below meth c H locs cells slots (MQ below (va_Qi post (fun u => BW G n q (EE u)) (FA n q s.heap.size)) args s cells slots (FA n q s.heap.size)) (F0 m pc ls [.int r]) :=
  W.zret C.1 C.2.1 hr hn (fun t ht _ => ⟨⟨r, u, rfl, hp, by show va_P _ _ _ t.heap; rw [ht]; exact hW.1⟩, hW.2.F ht⟩) hW.2.2.2 hdg hk
theorem r_lret {S : Type} {post : Int64 → S → Prop} {EE : S → Nat → va_E} {r : Int64} (u : S) (C : CX G p s m args c cc nL own n q) (hW : WB G n q (EE u) s H locs) (hr : meth.sig.returnType = some .long) (hk : meth.locks = false) (hdg : decode cc pc = .ok (.lreturn, 1)) (hp : post r u) :
    W p l e R s m args below meth c H locs cells slots (MQ below (va_Ql post (fun u => BW G n q (EE u)) (FA n q s.heap.size)) args s cells slots (FA n q s.heap.size)) (F0 m pc ls [.long r]) :=
  W.lret C.1 C.2.1 hr (fun t ht _ => ⟨⟨r, u, rfl, hp, by show va_P _ _ _ t.heap; rw [ht]; exact hW.1⟩, hW.2.F ht⟩) hW.2.2.2 hdg hk
theorem r_vret {S : Type} {post : S → Prop} {EE : S → Nat → va_E} (u : S) (C : CX G p s m args c cc nL own n q) (hW : WB G n q (EE u) s H locs) (hr : meth.sig.returnType = none) (hk : meth.locks = false) (hdg : decode cc pc = .ok (.return_, 1)) (hp : post u) :
    W p l e R s m args below meth c H locs cells slots (MQ below (va_Qv post (fun u => BW G n q (EE u)) (FA n q s.heap.size)) args s cells slots (FA n q s.heap.size)) (F0 m pc ls []) :=
  W.vret C.1 C.2.1 hr (fun t ht _ => ⟨⟨u, rfl, hp, by show va_P _ _ _ t.heap; rw [ht]; exact hW.1⟩, hW.2.F ht⟩) hW.2.2.2 hdg hk
theorem r_qret {S : Type} {post : Option Nat → S → Prop} {EE : S → Nat → va_E} {r : Option Nat} {rt : FieldType} (u : S) (C : CX G p s m args c cc nL own n q) (hW : WB G n q (EE u) s H locs) (hr : meth.sig.returnType = some rt) (hrt : (∃ n, rt = .object n) ∨ ∃ t, rt = .array t) (hk : meth.locks = false) (hdg : decode cc pc = .ok (.areturn, 1)) (hp : post r u) :
    W p l e R s m args below meth c H locs cells slots (MQ below (va_Qq post (fun u => BW G n q (EE u)) (FA n q s.heap.size)) args s cells slots (FA n q s.heap.size)) (F0 m pc ls [va_rf r]) :=
  W.aret C.1 C.2.1 hr hrt (va_rf_or r) (fun t ht _ => ⟨⟨r, u, rfl, hp, by show va_P _ _ _ t.heap; rw [ht]; exact hW.1⟩, hW.2.F ht⟩) hW.2.2.2 hdg hk
/-- calls inside one world -/
theorem FA_mono {n : Nat} {q : Nat → Nat} {a b x : Nat} (h : a ≤ b) (hx : FA n q b x) : FA n q a x := hx.elim Or.inl (fun h2 => Or.inr (Nat.le_trans h h2))
theorem PW_blind (av : List Value) (sz : Nat) : FrameBlind (va_Pc av (PW G n q sz E)) := fun a U g mk h => ⟨h.1, h.2.1, h.2.2.1.calling, h.2.2.2.1, h.2.2.2.2.1.moved (u := U) (U := U.calling g mk a) (Vm.Alike.refl U.vm), h.2.2.2.2.2⟩
theorem PW_at (C : CX G p s m args c cc nL own n q) (hW : WB G n q E s H locs) (av : List Value) : ∀ U : State, U.heap = H → s.WarmedH U.vm → va_Pc av (PW G n q H.size E) av.toArray U := by
  intro U hU hWm
  obtain ⟨-, -, -, -, -, hE, hi, hZ⟩ := C
  have hz : gZ G (FA n q H.size) U H := ((hZ.kept (fun a h1 h2 => hW.2.2.1 a h1 h2)).narrow (fun _ h => FA_mono hW.2.1 h)).moved hWm.alike
  exact ⟨rfl, by rw [hU], hE.moved hWm, hi, by rw [hU]; exact hz, by rw [hU]; exact hW.1⟩
theorem WB_after (hW : WB G n q E s H locs) {E1 : Nat → va_E} {t : State} {H1 : Heap} {locs1 : List Loc} (ht : t.heap = H1) (hB : BW G n q E1 t) (hS : va_S (FA n q s.heap.size) s.heap H1 locs1) : WB G n q E1 s H1 locs1 := ⟨by rw [← ht]; exact hB, hS⟩
variable {y : MethodName} {bytes : ByteArray} {maxL idx : Nat} {rm : Room} {As st0 : List Value}
theorem cw_V {ret : Option FieldType} {Cn : String} (N : Nat) (C : CX G p s m args c cc nL own n q) (hl : Cond.methodLink own idx y ∈ BIG) (hi : Cond.instanceMethod y ∈ BIG) (hv : Cond.selects Cn y y ∈ BIG) (hn : Cond.initialized Cn ∈ BIG) (hc : Cond.code y bytes maxL ret ∈ BIG) (hrc : rm.cells = 0 ∧ rm.slots = 0)
    (hd : y.cls = Cn ∧ y.cls ≠ "java/lang/invoke/MethodHandle" ∧ y.cls ≠ "java/lang/invoke/VarHandle" ∧ (parseMethodDescriptor y.desc).map (fun d => d.parameters.length) = some N) (hR : rm.frames + 1 ≤ R.frames ∧ 8 + (maxL + 11) + rm.locals ≤ R.locals) : CallW R s args own Cn idx y bytes maxL ret (WSb y bytes maxL ret) rm 0 0 N :=
  cwV N C.2.2.2.2.1 (fun w hw => by
    rcases List.mem_append.mp hw with h | h
    · have : w ∈ BIG := by
        rcases List.mem_cons.mp h with rfl | h
        · exact hl
        rcases List.mem_cons.mp h with rfl | h
        · exact hi
        rcases List.mem_cons.mp h with rfl | h
        · exact hv
        rcases List.mem_cons.mp h with rfl | h
        · exact hn
        cases h
      exact big_good w this
    · exact wsb_good hc w h) rfl hrc.1 hrc.2 hd hR
theorem cw_S {ret : Option FieldType} (N : Nat) (C : CX G p s m args c cc nL own n q) (hl : Cond.methodLink own idx y ∈ BIG) (hi : Cond.static y ∈ BIG) (hn : Cond.initialized y.cls ∈ BIG) (hc : Cond.code y bytes maxL ret ∈ BIG) (hrc : rm.cells = 0 ∧ rm.slots = 0)
    (hd : y.cls ≠ "java/lang/invoke/MethodHandle" ∧ y.cls ≠ "java/lang/invoke/VarHandle" ∧ (parseMethodDescriptor y.desc).map (fun d => d.parameters.length) = some N) (hR : rm.frames + 1 ≤ R.frames ∧ 8 + (maxL + 11) + rm.locals ≤ R.locals) : CallB R s args own idx y bytes maxL ret (WSb y bytes maxL ret) rm 0 0 N ∧ (Cond.static y).before args s = true :=
  va_cwS N C.2.2.2.2.1 (fun w hw => by
    rcases List.mem_append.mp hw with h | h
    · have : w ∈ BIG := by
        rcases List.mem_cons.mp h with rfl | h
        · exact hl
        rcases List.mem_cons.mp h with rfl | h
        · exact hi
        rcases List.mem_cons.mp h with rfl | h
        · exact hn
        cases h
      exact big_good w this
    · exact wsb_good hc w h) rfl hrc.1 hrc.2 hd hR
theorem run_V {ret : Option FieldType} {Cn : String} {N ci : Nat} {fs : List Value} {o : Nat} {T : u_T} {NN : Nat} {Qc : Array Value → State → Outcome → State → Prop} (C : CX G p s m args c cc nL own n q) (hW : WB G n q E s H locs) (ho : o < n) (he : E o = .inr (ci, fs)) (hcl : vwCl[ci]? = some (Cn, T, NN))
    (hM : Met l y (WSb y bytes maxL ret) rm (va_Pc (.ref (q o) :: As) (PW G n q H.size E)) Qc 0 0 (FA n q H.size)) (cw : CallW R s args own Cn idx y bytes maxL ret (WSb y bytes maxL ret) rm 0 0 N) (hN : As.length = N) (hl : ls.size = nL) (hst : st0 = As.reverse ++ .ref (q o) :: rest) (hcat : (rest.map fun v => v.category).sum ≤ 8) (hdg : decode cc pc = .ok (.invokevirtual idx, 3)) (hf : cells ≤ R.cells ∧ slots ≤ R.slots) :
    va_Run p l e R s m args below meth c H locs cells slots 0 0 (F0 m pc ls st0) rest (Qc (Value.ref (q o) :: As).toArray) (FA n q H.size) :=
  va_runV (As := As) (rest := rest) (b := q o) (C := Cn) ⟨C.1, C.2.1, C.2.2.1, C.2.2.2.1, C.2.2.2.2.1⟩ hM cw ⟨PW_blind _ _, va_recv C.2.2.2.2.2.1.1 hW.1 (ci := ci) (q0 := o) (q := (Cn, T, NN)) (fs := fs) hcl (by rw [wl_at ho, he]), PW_at C hW _⟩ rfl hN hl hst (lv_room hcat) hdg hf
theorem run_S {ret : Option FieldType} {N : Nat} {Qc : Array Value → State → Outcome → State → Prop} (C : CX G p s m args c cc nL own n q) (hW : WB G n q E s H locs)
    (hM : Met l y (WSb y bytes maxL ret) rm (va_Pc As (PW G n q H.size E)) Qc 0 0 (FA n q H.size)) (cw : CallB R s args own idx y bytes maxL ret (WSb y bytes maxL ret) rm 0 0 N ∧ (Cond.static y).before args s = true) (hN : As.length = N) (hl : ls.size = nL) (hst : st0 = As.reverse ++ rest) (hcat : (rest.map fun v => v.category).sum ≤ 8) (hdg : decode cc pc = .ok (.invokestatic idx, 3)) (hf : cells ≤ R.cells ∧ slots ≤ R.slots) :
    va_Run p l e R s m args below meth c H locs cells slots 0 0 (F0 m pc ls st0) rest (Qc As.toArray) (FA n q H.size) :=
  va_runS (As := As) (rest := rest) ⟨C.1, C.2.1, C.2.2.1, C.2.2.2.1, C.2.2.2.2.1⟩ hM cw ⟨PW_blind _ _, PW_at C hW _⟩ rfl hN hl hst (lv_room hcat) hdg hf
theorem go_i {S : Type} {post : Int32 → S → Prop} {EE : S → Nat → va_E} {a : Array Value} (hW : WB G n q E s H locs) (hr : va_Run p l e R s m args below meth c H locs cells slots 0 0 (F0 m pc ls st0) rest (va_Qi post (fun u => BW G n q (EE u)) (FA n q H.size) a) (FA n q H.size))
    (kk : ∀ (r : Int32) (u : S) (H1 : Heap) (locs1 : List Loc), post r u → WB G n q (EE u) s H1 locs1 → W p l e R s m args below meth c H1 locs1 cells slots Q (F0 m (pc + 3) ls (.int r :: rest))) : W p l e R s m args below meth c H locs cells slots Q (F0 m pc ls st0) :=
  va_calli hr hW.2 (fun _ _ h => FA_mono hW.2.1 h) (fun _ h => FA_mono hW.2.1 h) (fun r u t H1 locs1 ht _ hp hB _ _ hS => kk r u H1 locs1 hp (WB_after hW ht hB hS))
theorem go_l {S : Type} {post : Int64 → S → Prop} {EE : S → Nat → va_E} {a : Array Value} (hW : WB G n q E s H locs) (hr : va_Run p l e R s m args below meth c H locs cells slots 0 0 (F0 m pc ls st0) rest (va_Ql post (fun u => BW G n q (EE u)) (FA n q H.size) a) (FA n q H.size))
    (kk : ∀ (r : Int64) (u : S) (H1 : Heap) (locs1 : List Loc), post r u → WB G n q (EE u) s H1 locs1 → W p l e R s m args below meth c H1 locs1 cells slots Q (F0 m (pc + 3) ls (.long r :: rest))) : W p l e R s m args below meth c H locs cells slots Q (F0 m pc ls st0) :=
  va_calll hr hW.2 (fun _ _ h => FA_mono hW.2.1 h) (fun _ h => FA_mono hW.2.1 h) (fun r u t H1 locs1 ht _ hp hB _ _ hS => kk r u H1 locs1 hp (WB_after hW ht hB hS))
theorem go_v {S : Type} {post : S → Prop} {EE : S → Nat → va_E} {a : Array Value} (hW : WB G n q E s H locs) (hr : va_Run p l e R s m args below meth c H locs cells slots 0 0 (F0 m pc ls st0) rest (va_Qv post (fun u => BW G n q (EE u)) (FA n q H.size) a) (FA n q H.size))
    (kk : ∀ (u : S) (H1 : Heap) (locs1 : List Loc), post u → WB G n q (EE u) s H1 locs1 → W p l e R s m args below meth c H1 locs1 cells slots Q (F0 m (pc + 3) ls rest)) : W p l e R s m args below meth c H locs cells slots Q (F0 m pc ls st0) :=
  va_callv hr hW.2 (fun _ _ h => FA_mono hW.2.1 h) (fun _ h => FA_mono hW.2.1 h) (fun u t H1 locs1 ht _ hp hB _ _ hS => kk u H1 locs1 hp (WB_after hW ht hB hS))
theorem go_q {S : Type} {post : Option Nat → S → Prop} {EE : S → Nat → va_E} {a : Array Value} (hW : WB G n q E s H locs) (hr : va_Run p l e R s m args below meth c H locs cells slots 0 0 (F0 m pc ls st0) rest (va_Qq post (fun u => BW G n q (EE u)) (FA n q H.size) a) (FA n q H.size))
    (kk : ∀ (r : Option Nat) (u : S) (H1 : Heap) (locs1 : List Loc), post r u → WB G n q (EE u) s H1 locs1 → W p l e R s m args below meth c H1 locs1 cells slots Q (F0 m (pc + 3) ls (va_rf r :: rest))) : W p l e R s m args below meth c H locs cells slots Q (F0 m pc ls st0) :=
  va_callq hr hW.2 (fun _ _ h => FA_mono hW.2.1 h) (fun _ h => FA_mono hW.2.1 h) (fun r u t H1 locs1 ht _ hp hB _ _ hS => kk r u H1 locs1 hp (WB_after hW ht hB hS))
end BASE
/-- a method's body, from its entry -/
theorem Met_W {l : Launch} {G : GG} {y : MethodName} {cc : ByteArray} {nL sz n : Nat} {ret : Option FieldType} {rm : Room} {av : List Value} {q : Nat → Nat} {E : Nat → va_E} {Qc : Array Value → State → Outcome → State → Prop} (hy : plainName y.cls = true) (hL : (lg_sl av).length ≤ nL)
    (body : ∀ (p : Program) (e : Env) (s : State) (m : MethodId) (below : List Frame) (meth : Method) (c : Code) (ls : Array Slot), s.heap.size = sz → CX G p s m av.toArray c cc nL y.cls n q → WB G n q E s s.heap [] → meth.sig.returnType = ret → meth.locks = false → lv_has ls nL (lv_args 0 av) →
      W p l e rm s m av.toArray below meth c s.heap [] 0 0 (MQ below Qc av.toArray s 0 0 (FA n q sz)) (F0 m 0 ls [])) : Met l y (WSb y cc nL ret) rm (va_Pc av (PW G n q sz E)) Qc 0 0 (FA n q sz) := by
  refine Met.ofW (cc := cc) (maxL := nL) (ret := ret) hy rfl ?_
  intro p e s m args below meth c s₁ B hml hv
  obtain ⟨rfl, hsz, hE, hi, hZ, hP⟩ := hv
  have hts := atoms_spec (ws := WSb y cc nL ret) B.pre
  have hl := lv_entry av (n := nL) hL
  rw [lg_entry_eq]
  exact body p e s m below meth c _ hsz ⟨B.exec, B.bytes, hml, findClass_of_methodNamed B.named, fun w hw => hts w (List.mem_cons_of_mem _ hw), hE, hi, by rw [hsz]; exact hZ⟩ ⟨hP, va_S.rf⟩ B.returns B.notSynchronized hl
end
section
/-! the common state: numbers (.1), rows of ints (.2.1), rows of longs (.2.2); by place, as wip/whole/regs.py lists them -/
abbrev ST : Type := (Nat → Int32) × (Nat → Nat → Int32) × (Nat → Nat → Int64)
def sg (τ : ST) (k : Nat) (v : Int32) : ST := (upd τ.1 k v, τ.2)
def sa (τ : ST) (k j : Nat) (v : Int32) : ST := (τ.1, va_up τ.2.1 k (upd (τ.2.1 k) j v), τ.2.2)
def sb (τ : ST) (k j : Nat) (v : Int64) : ST := (τ.1, τ.2.1, va_up τ.2.2 k (vp_updL (τ.2.2 k) j v))
def mArr (G : GG) (τ ξ : ST) : Nat → va_E := fun k => match k with
  | 0 => .inl (G.2.1.1, 6, .inl (τ.2.1 0))
  | 1 => .inl (G.2.1.1, 6, .inl (τ.2.1 1))
  | 2 => .inl (G.2.1.1, 6, .inl (τ.2.1 2))
  | 3 => .inl (G.2.1.1, 6, .inl (τ.2.1 3))
  | 4 => .inl (G.2.1.2.2.1, 6, .inl (τ.2.1 4))
  | 5 => .inl (G.2.1.1, 6, .inl (τ.2.1 5))
  | 6 => .inl (G.2.1.1, 6, .inl (τ.2.1 6))
  | 7 => .inl (G.2.1.1, 600, .inl (τ.2.1 7))
  | 8 => .inl (G.2.1.1, 100, .inl (ξ.2.1 3))
  | 9 => .inl (G.2.1.1, 40, .inl (τ.2.1 8))
  | 10 => .inl (G.2.1.1, 40, .inl (τ.2.1 9))
  | 11 => .inl (G.2.1.1, 40, .inl (τ.2.1 10))
  | 12 => .inl (G.2.1.1, 16, .inl wv)
  | 13 => .inl (G.2.1.2.1, 256, .inr (.inl (τ.2.2 0)))
  | 14 => .inl (G.2.1.1, 15, .inl (ξ.2.1 0))
  | 15 => .inl (G.2.1.1, 15, .inl (ξ.2.1 1))
  | 16 => .inl (G.2.1.2.1, 15, .inr (.inl (ξ.2.2 0)))
  | 17 => .inl (G.2.1.1, 15, .inl (τ.2.1 22))
  | 18 => .inl (G.2.1.1, 15, .inl (τ.2.1 23))
  | 19 => .inl (G.2.1.1, 10, .inl (τ.2.1 11))
  | 20 => .inl (G.2.1.1, 10, .inl (τ.2.1 12))
  | 21 => .inl (G.2.1.1, 10, .inl (τ.2.1 13))
  | 22 => .inl (G.2.1.1, 200, .inl (τ.2.1 14))
  | 23 => .inl (G.2.1.2.1, 200, .inr (.inl (τ.2.2 1)))
  | 24 => .inl (G.2.1.2.2.1, 8, .inl (τ.2.1 15))
  | 25 => .inl (G.2.1.1, 8, .inl (τ.2.1 16))
  | 26 => .inl (G.2.1.1, 8, .inl (τ.2.1 17))
  | 27 => .inl (G.2.1.1, 60, .inl (τ.2.1 18))
  | 28 => .inl (G.2.1.1, 60, .inl (τ.2.1 19))
  | 29 => .inl (G.2.1.1, 60, .inl (τ.2.1 20))
  | 30 => .inl (G.2.1.1, 60, .inl (ξ.2.1 2))
  | _ => .inl (G.2.1.1, 8, .inl (τ.2.1 21))
def mObj (q : Nat → Nat) (τ ξ : ST) : List Value := [.int (τ.1 0), .ref (q 1), .ref (q 2), .ref (q 3), .ref (q 4), .ref (q 5), .ref (q 6), .ref (q 7), .ref (q 8), .ref (q 9), .int (τ.1 1), .int (τ.1 2), .ref (q 10), .ref (q 11), .ref (q 12), .int (ξ.1 1), .ref (q 13), .ref (q 14), .int (ξ.1 0), .ref (q 15), .ref (q 16), .ref (q 17), .int (τ.1 17), .ref (q 18), .ref (q 19), .int (τ.1 3), .ref (q 20), .ref (q 21), .ref (q 22), .int (τ.1 4), .ref (q 23), .ref (q 24), .int (τ.1 5), .int (τ.1 6), .int (τ.1 7), .int (τ.1 8), .ref (q 25), .ref (q 26), .ref (q 27), .int (τ.1 9), .ref (q 28), .ref (q 29), .ref (q 30), .ref (q 31), .int (τ.1 10), .int (τ.1 11), .int (τ.1 12), .int (τ.1 13), .int (τ.1 14), .int (τ.1 15), .int (τ.1 16), .ref (q 32)]
def eM (G : GG) (q : Nat → Nat) (τ ξ : ST) : Nat → va_E := fun k => match k with
  | 0 => .inr (8, mObj q τ ξ)
  | k + 1 => mArr G τ ξ k
section MROWS
variable {G : GG} {p : Program} {l : Launch} {e : Env} {R : Room} {s : State} {m : MethodId} {args : Array Value} {below : List Frame} {meth : Method} {c : Code} {H : Heap} {locs : List Loc} {cells slots : Nat} {Q : State → Prop}
variable {cc : ByteArray} {pc : Nat} {ls : Array Slot} {rest : List Value} {nL : Nat} {q : Nat → Nat} {τ ξ : ST}
theorem mG_dishes (C : CX G p s m args c cc nL RX8 33 q) (hW : WB G 33 q (eM G q τ ξ) s H locs) {v : Int32} (hv : τ.1 0 = v) (hdg : decode cc pc = .ok (.getfield 118, 3)) (kk : W p l e R s m args below meth c H locs cells slots Q (F0 m (pc + 3) ls (.int v :: rest))) : W p l e R s m args below meth c H locs cells slots Q (F0 m pc ls (.ref (q 0) :: rest)) := by
  subst hv
  exact r_get C hW (o := 0) (k := 0) (by decide) rfl rfl (by decide) bF_X8_118 rfl inB_X8 rfl hdg kk
theorem mP_dishes (C : CX G p s m args c cc nL RX8 33 q) (hW : WB G 33 q (eM G q τ ξ) s H locs) {v : Int32} (hdg : decode cc pc = .ok (.putfield 118, 3)) (kk : ∀ (H1 : Heap) (locs1 : List Loc), WB G 33 q (eM G q (sg τ 0 v) ξ) s H1 locs1 → W p l e R s m args below meth c H1 locs1 cells slots Q (F0 m (pc + 3) ls rest)) : W p l e R s m args below meth c H locs cells slots Q (F0 m pc ls (.int v :: .ref (q 0) :: rest)) := r_put C hW (o := 0) (k := 0) (ty := .int) (by decide) rfl rfl (by decide) bF_X8_118 rfl inB_X8 tyX8 tyX8_ok nmX8 rfl (by decide +kernel) rfl rfl (Nat.le_of_ble_eq_true rfl) hdg (fun j hj => match j, hj with
  | 0, _ => rfl
  | 1, _ => rfl
  | 2, _ => rfl
  | 3, _ => rfl
  | 4, _ => rfl
  | 5, _ => rfl
  | 6, _ => rfl
  | 7, _ => rfl
  | 8, _ => rfl
  | 9, _ => rfl
  | 10, _ => rfl
  | 11, _ => rfl
  | 12, _ => rfl
  | 13, _ => rfl
  | 14, _ => rfl
  | 15, _ => rfl
  | 16, _ => rfl
  | 17, _ => rfl
  | 18, _ => rfl
  | 19, _ => rfl
  | 20, _ => rfl
  | 21, _ => rfl
  | 22, _ => rfl
  | 23, _ => rfl
  | 24, _ => rfl
  | 25, _ => rfl
  | 26, _ => rfl
  | 27, _ => rfl
  | 28, _ => rfl
  | 29, _ => rfl
  | 30, _ => rfl
  | 31, _ => rfl
  | 32, _ => rfl
  | j + 33, hj => absurd hj (by omega)) kk
theorem mG_placeX (C : CX G p s m args c cc nL RX8 33 q) (hW : WB G 33 q (eM G q τ ξ) s H locs) (hdg : decode cc pc = .ok (.getfield 7, 3)) (kk : W p l e R s m args below meth c H locs cells slots Q (F0 m (pc + 3) ls (.ref (q 1) :: rest))) : W p l e R s m args below meth c H locs cells slots Q (F0 m pc ls (.ref (q 0) :: rest)) := r_get C hW (o := 0) (k := 1) (by decide) rfl rfl (by decide) bF_X8_7 rfl inB_X8 rfl hdg kk
theorem mG_placeY (C : CX G p s m args c cc nL RX8 33 q) (hW : WB G 33 q (eM G q τ ξ) s H locs) (hdg : decode cc pc = .ok (.getfield 13, 3)) (kk : W p l e R s m args below meth c H locs cells slots Q (F0 m (pc + 3) ls (.ref (q 2) :: rest))) : W p l e R s m args below meth c H locs cells slots Q (F0 m pc ls (.ref (q 0) :: rest)) := r_get C hW (o := 0) (k := 2) (by decide) rfl rfl (by decide) bF_X8_13 rfl inB_X8 rfl hdg kk
theorem mG_delays (C : CX G p s m args c cc nL RX8 33 q) (hW : WB G 33 q (eM G q τ ξ) s H locs) (hdg : decode cc pc = .ok (.getfield 16, 3)) (kk : W p l e R s m args below meth c H locs cells slots Q (F0 m (pc + 3) ls (.ref (q 3) :: rest))) : W p l e R s m args below meth c H locs cells slots Q (F0 m pc ls (.ref (q 0) :: rest)) := r_get C hW (o := 0) (k := 3) (by decide) rfl rfl (by decide) bF_X8_16 rfl inB_X8 rfl hdg kk
theorem mG_gains (C : CX G p s m args c cc nL RX8 33 q) (hW : WB G 33 q (eM G q τ ξ) s H locs) (hdg : decode cc pc = .ok (.getfield 19, 3)) (kk : W p l e R s m args below meth c H locs cells slots Q (F0 m (pc + 3) ls (.ref (q 4) :: rest))) : W p l e R s m args below meth c H locs cells slots Q (F0 m pc ls (.ref (q 0) :: rest)) := r_get C hW (o := 0) (k := 4) (by decide) rfl rfl (by decide) bF_X8_19 rfl inB_X8 rfl hdg kk
theorem mG_isThere (C : CX G p s m args c cc nL RX8 33 q) (hW : WB G 33 q (eM G q τ ξ) s H locs) (hdg : decode cc pc = .ok (.getfield 22, 3)) (kk : W p l e R s m args below meth c H locs cells slots Q (F0 m (pc + 3) ls (.ref (q 5) :: rest))) : W p l e R s m args below meth c H locs cells slots Q (F0 m pc ls (.ref (q 0) :: rest)) := r_get C hW (o := 0) (k := 5) (by decide) rfl rfl (by decide) bF_X8_22 rfl inB_X8 rfl hdg kk
theorem mG_forms (C : CX G p s m args c cc nL RX8 33 q) (hW : WB G 33 q (eM G q τ ξ) s H locs) (hdg : decode cc pc = .ok (.getfield 26, 3)) (kk : W p l e R s m args below meth c H locs cells slots Q (F0 m (pc + 3) ls (.ref (q 6) :: rest))) : W p l e R s m args below meth c H locs cells slots Q (F0 m pc ls (.ref (q 0) :: rest)) := r_get C hW (o := 0) (k := 6) (by decide) rfl rfl (by decide) bF_X8_26 rfl inB_X8 rfl hdg kk
theorem mG_sizes (C : CX G p s m args c cc nL RX8 33 q) (hW : WB G 33 q (eM G q τ ξ) s H locs) (hdg : decode cc pc = .ok (.getfield 29, 3)) (kk : W p l e R s m args below meth c H locs cells slots Q (F0 m (pc + 3) ls (.ref (q 7) :: rest))) : W p l e R s m args below meth c H locs cells slots Q (F0 m pc ls (.ref (q 0) :: rest)) := r_get C hW (o := 0) (k := 7) (by decide) rfl rfl (by decide) bF_X8_29 rfl inB_X8 rfl hdg kk
theorem mG_items (C : CX G p s m args c cc nL RX8 33 q) (hW : WB G 33 q (eM G q τ ξ) s H locs) (hdg : decode cc pc = .ok (.getfield 32, 3)) (kk : W p l e R s m args below meth c H locs cells slots Q (F0 m (pc + 3) ls (.ref (q 8) :: rest))) : W p l e R s m args below meth c H locs cells slots Q (F0 m pc ls (.ref (q 0) :: rest)) := r_get C hW (o := 0) (k := 8) (by decide) rfl rfl (by decide) bF_X8_32 rfl inB_X8 rfl hdg kk
theorem mG_moved (C : CX G p s m args c cc nL RX8 33 q) (hW : WB G 33 q (eM G q τ ξ) s H locs) (hdg : decode cc pc = .ok (.getfield 35, 3)) (kk : W p l e R s m args below meth c H locs cells slots Q (F0 m (pc + 3) ls (.ref (q 9) :: rest))) : W p l e R s m args below meth c H locs cells slots Q (F0 m pc ls (.ref (q 0) :: rest)) := r_get C hW (o := 0) (k := 9) (by decide) rfl rfl (by decide) bF_X8_35 rfl inB_X8 rfl hdg kk
theorem mG_finding (C : CX G p s m args c cc nL RX8 33 q) (hW : WB G 33 q (eM G q τ ξ) s H locs) {v : Int32} (hv : τ.1 1 = v) (hdg : decode cc pc = .ok (.getfield 115, 3)) (kk : W p l e R s m args below meth c H locs cells slots Q (F0 m (pc + 3) ls (.int v :: rest))) : W p l e R s m args below meth c H locs cells slots Q (F0 m pc ls (.ref (q 0) :: rest)) := by
  subst hv
  exact r_get C hW (o := 0) (k := 10) (by decide) rfl rfl (by decide) bF_X8_115 rfl inB_X8 rfl hdg kk
theorem mP_finding (C : CX G p s m args c cc nL RX8 33 q) (hW : WB G 33 q (eM G q τ ξ) s H locs) {v : Int32} (hdg : decode cc pc = .ok (.putfield 115, 3)) (kk : ∀ (H1 : Heap) (locs1 : List Loc), WB G 33 q (eM G q (sg τ 1 v) ξ) s H1 locs1 → W p l e R s m args below meth c H1 locs1 cells slots Q (F0 m (pc + 3) ls rest)) : W p l e R s m args below meth c H locs cells slots Q (F0 m pc ls (.int v :: .ref (q 0) :: rest)) := r_put C hW (o := 0) (k := 10) (ty := .int) (by decide) rfl rfl (by decide) bF_X8_115 rfl inB_X8 tyX8 tyX8_ok nmX8 rfl (by decide +kernel) rfl rfl (Nat.le_of_ble_eq_true rfl) hdg (fun j hj => match j, hj with
  | 0, _ => rfl
  | 1, _ => rfl
  | 2, _ => rfl
  | 3, _ => rfl
  | 4, _ => rfl
  | 5, _ => rfl
  | 6, _ => rfl
  | 7, _ => rfl
  | 8, _ => rfl
  | 9, _ => rfl
  | 10, _ => rfl
  | 11, _ => rfl
  | 12, _ => rfl
  | 13, _ => rfl
  | 14, _ => rfl
  | 15, _ => rfl
  | 16, _ => rfl
  | 17, _ => rfl
  | 18, _ => rfl
  | 19, _ => rfl
  | 20, _ => rfl
  | 21, _ => rfl
  | 22, _ => rfl
  | 23, _ => rfl
  | 24, _ => rfl
  | 25, _ => rfl
  | 26, _ => rfl
  | 27, _ => rfl
  | 28, _ => rfl
  | 29, _ => rfl
  | 30, _ => rfl
  | 31, _ => rfl
  | 32, _ => rfl
  | j + 33, hj => absurd hj (by omega)) kk
theorem mG_flags (C : CX G p s m args c cc nL RX8 33 q) (hW : WB G 33 q (eM G q τ ξ) s H locs) {v : Int32} (hv : τ.1 2 = v) (hdg : decode cc pc = .ok (.getfield 150, 3)) (kk : W p l e R s m args below meth c H locs cells slots Q (F0 m (pc + 3) ls (.int v :: rest))) : W p l e R s m args below meth c H locs cells slots Q (F0 m pc ls (.ref (q 0) :: rest)) := by
  subst hv
  exact r_get C hW (o := 0) (k := 11) (by decide) rfl rfl (by decide) bF_X8_150 rfl inB_X8 rfl hdg kk
theorem mP_flags (C : CX G p s m args c cc nL RX8 33 q) (hW : WB G 33 q (eM G q τ ξ) s H locs) {v : Int32} (hdg : decode cc pc = .ok (.putfield 150, 3)) (kk : ∀ (H1 : Heap) (locs1 : List Loc), WB G 33 q (eM G q (sg τ 2 v) ξ) s H1 locs1 → W p l e R s m args below meth c H1 locs1 cells slots Q (F0 m (pc + 3) ls rest)) : W p l e R s m args below meth c H locs cells slots Q (F0 m pc ls (.int v :: .ref (q 0) :: rest)) := r_put C hW (o := 0) (k := 11) (ty := .int) (by decide) rfl rfl (by decide) bF_X8_150 rfl inB_X8 tyX8 tyX8_ok nmX8 rfl (by decide +kernel) rfl rfl (Nat.le_of_ble_eq_true rfl) hdg (fun j hj => match j, hj with
  | 0, _ => rfl
  | 1, _ => rfl
  | 2, _ => rfl
  | 3, _ => rfl
  | 4, _ => rfl
  | 5, _ => rfl
  | 6, _ => rfl
  | 7, _ => rfl
  | 8, _ => rfl
  | 9, _ => rfl
  | 10, _ => rfl
  | 11, _ => rfl
  | 12, _ => rfl
  | 13, _ => rfl
  | 14, _ => rfl
  | 15, _ => rfl
  | 16, _ => rfl
  | 17, _ => rfl
  | 18, _ => rfl
  | 19, _ => rfl
  | 20, _ => rfl
  | 21, _ => rfl
  | 22, _ => rfl
  | 23, _ => rfl
  | 24, _ => rfl
  | 25, _ => rfl
  | 26, _ => rfl
  | 27, _ => rfl
  | 28, _ => rfl
  | 29, _ => rfl
  | 30, _ => rfl
  | 31, _ => rfl
  | 32, _ => rfl
  | j + 33, hj => absurd hj (by omega)) kk
theorem mG_flagDish (C : CX G p s m args c cc nL RX8 33 q) (hW : WB G 33 q (eM G q τ ξ) s H locs) (hdg : decode cc pc = .ok (.getfield 38, 3)) (kk : W p l e R s m args below meth c H locs cells slots Q (F0 m (pc + 3) ls (.ref (q 10) :: rest))) : W p l e R s m args below meth c H locs cells slots Q (F0 m pc ls (.ref (q 0) :: rest)) := r_get C hW (o := 0) (k := 12) (by decide) rfl rfl (by decide) bF_X8_38 rfl inB_X8 rfl hdg kk
theorem mG_flagFrom (C : CX G p s m args c cc nL RX8 33 q) (hW : WB G 33 q (eM G q τ ξ) s H locs) (hdg : decode cc pc = .ok (.getfield 41, 3)) (kk : W p l e R s m args below meth c H locs cells slots Q (F0 m (pc + 3) ls (.ref (q 11) :: rest))) : W p l e R s m args below meth c H locs cells slots Q (F0 m pc ls (.ref (q 0) :: rest)) := r_get C hW (o := 0) (k := 13) (by decide) rfl rfl (by decide) bF_X8_41 rfl inB_X8 rfl hdg kk
theorem mG_flagTo (C : CX G p s m args c cc nL RX8 33 q) (hW : WB G 33 q (eM G q τ ξ) s H locs) (hdg : decode cc pc = .ok (.getfield 44, 3)) (kk : W p l e R s m args below meth c H locs cells slots Q (F0 m (pc + 3) ls (.ref (q 12) :: rest))) : W p l e R s m args below meth c H locs cells slots Q (F0 m pc ls (.ref (q 0) :: rest)) := r_get C hW (o := 0) (k := 14) (by decide) rfl rfl (by decide) bF_X8_44 rfl inB_X8 rfl hdg kk
theorem mG_counted (C : CX G p s m args c cc nL RX8 33 q) (hW : WB G 33 q (eM G q τ ξ) s H locs) {v : Int32} (hv : ξ.1 1 = v) (hdg : decode cc pc = .ok (.getfield 157, 3)) (kk : W p l e R s m args below meth c H locs cells slots Q (F0 m (pc + 3) ls (.int v :: rest))) : W p l e R s m args below meth c H locs cells slots Q (F0 m pc ls (.ref (q 0) :: rest)) := by
  subst hv
  exact r_get C hW (o := 0) (k := 15) (by decide) rfl rfl (by decide) bF_X8_157 rfl inB_X8 rfl hdg kk
theorem mP_counted (C : CX G p s m args c cc nL RX8 33 q) (hW : WB G 33 q (eM G q τ ξ) s H locs) {v : Int32} (hdg : decode cc pc = .ok (.putfield 157, 3)) (kk : ∀ (H1 : Heap) (locs1 : List Loc), WB G 33 q (eM G q τ (sg ξ 1 v)) s H1 locs1 → W p l e R s m args below meth c H1 locs1 cells slots Q (F0 m (pc + 3) ls rest)) : W p l e R s m args below meth c H locs cells slots Q (F0 m pc ls (.int v :: .ref (q 0) :: rest)) := r_put C hW (o := 0) (k := 15) (ty := .int) (by decide) rfl rfl (by decide) bF_X8_157 rfl inB_X8 tyX8 tyX8_ok nmX8 rfl (by decide +kernel) rfl rfl (Nat.le_of_ble_eq_true rfl) hdg (fun j hj => match j, hj with
  | 0, _ => rfl
  | 1, _ => rfl
  | 2, _ => rfl
  | 3, _ => rfl
  | 4, _ => rfl
  | 5, _ => rfl
  | 6, _ => rfl
  | 7, _ => rfl
  | 8, _ => rfl
  | 9, _ => rfl
  | 10, _ => rfl
  | 11, _ => rfl
  | 12, _ => rfl
  | 13, _ => rfl
  | 14, _ => rfl
  | 15, _ => rfl
  | 16, _ => rfl
  | 17, _ => rfl
  | 18, _ => rfl
  | 19, _ => rfl
  | 20, _ => rfl
  | 21, _ => rfl
  | 22, _ => rfl
  | 23, _ => rfl
  | 24, _ => rfl
  | 25, _ => rfl
  | 26, _ => rfl
  | 27, _ => rfl
  | 28, _ => rfl
  | 29, _ => rfl
  | 30, _ => rfl
  | 31, _ => rfl
  | 32, _ => rfl
  | j + 33, hj => absurd hj (by omega)) kk
theorem mG_waves (C : CX G p s m args c cc nL RX8 33 q) (hW : WB G 33 q (eM G q τ ξ) s H locs) (hdg : decode cc pc = .ok (.getfield 47, 3)) (kk : W p l e R s m args below meth c H locs cells slots Q (F0 m (pc + 3) ls (.ref (q 13) :: rest))) : W p l e R s m args below meth c H locs cells slots Q (F0 m pc ls (.ref (q 0) :: rest)) := r_get C hW (o := 0) (k := 16) (by decide) rfl rfl (by decide) bF_X8_47 rfl inB_X8 rfl hdg kk
theorem mG_board (C : CX G p s m args c cc nL RX8 33 q) (hW : WB G 33 q (eM G q τ ξ) s H locs) (hdg : decode cc pc = .ok (.getfield 50, 3)) (kk : W p l e R s m args below meth c H locs cells slots Q (F0 m (pc + 3) ls (.ref (q 14) :: rest))) : W p l e R s m args below meth c H locs cells slots Q (F0 m pc ls (.ref (q 0) :: rest)) := r_get C hW (o := 0) (k := 17) (by decide) rfl rfl (by decide) bF_X8_50 rfl inB_X8 rfl hdg kk
theorem mG_spacings (C : CX G p s m args c cc nL RX8 33 q) (hW : WB G 33 q (eM G q τ ξ) s H locs) {v : Int32} (hv : ξ.1 0 = v) (hdg : decode cc pc = .ok (.getfield 193, 3)) (kk : W p l e R s m args below meth c H locs cells slots Q (F0 m (pc + 3) ls (.int v :: rest))) : W p l e R s m args below meth c H locs cells slots Q (F0 m pc ls (.ref (q 0) :: rest)) := by
  subst hv
  exact r_get C hW (o := 0) (k := 18) (by decide) rfl rfl (by decide) bF_X8_193 rfl inB_X8 rfl hdg kk
theorem mP_spacings (C : CX G p s m args c cc nL RX8 33 q) (hW : WB G 33 q (eM G q τ ξ) s H locs) {v : Int32} (hdg : decode cc pc = .ok (.putfield 193, 3)) (kk : ∀ (H1 : Heap) (locs1 : List Loc), WB G 33 q (eM G q τ (sg ξ 0 v)) s H1 locs1 → W p l e R s m args below meth c H1 locs1 cells slots Q (F0 m (pc + 3) ls rest)) : W p l e R s m args below meth c H locs cells slots Q (F0 m pc ls (.int v :: .ref (q 0) :: rest)) := r_put C hW (o := 0) (k := 18) (ty := .int) (by decide) rfl rfl (by decide) bF_X8_193 rfl inB_X8 tyX8 tyX8_ok nmX8 rfl (by decide +kernel) rfl rfl (Nat.le_of_ble_eq_true rfl) hdg (fun j hj => match j, hj with
  | 0, _ => rfl
  | 1, _ => rfl
  | 2, _ => rfl
  | 3, _ => rfl
  | 4, _ => rfl
  | 5, _ => rfl
  | 6, _ => rfl
  | 7, _ => rfl
  | 8, _ => rfl
  | 9, _ => rfl
  | 10, _ => rfl
  | 11, _ => rfl
  | 12, _ => rfl
  | 13, _ => rfl
  | 14, _ => rfl
  | 15, _ => rfl
  | 16, _ => rfl
  | 17, _ => rfl
  | 18, _ => rfl
  | 19, _ => rfl
  | 20, _ => rfl
  | 21, _ => rfl
  | 22, _ => rfl
  | 23, _ => rfl
  | 24, _ => rfl
  | 25, _ => rfl
  | 26, _ => rfl
  | 27, _ => rfl
  | 28, _ => rfl
  | 29, _ => rfl
  | 30, _ => rfl
  | 31, _ => rfl
  | 32, _ => rfl
  | j + 33, hj => absurd hj (by omega)) kk
theorem mG_spaceU (C : CX G p s m args c cc nL RX8 33 q) (hW : WB G 33 q (eM G q τ ξ) s H locs) (hdg : decode cc pc = .ok (.getfield 54, 3)) (kk : W p l e R s m args below meth c H locs cells slots Q (F0 m (pc + 3) ls (.ref (q 15) :: rest))) : W p l e R s m args below meth c H locs cells slots Q (F0 m pc ls (.ref (q 0) :: rest)) := r_get C hW (o := 0) (k := 19) (by decide) rfl rfl (by decide) bF_X8_54 rfl inB_X8 rfl hdg kk
theorem mG_spaceV (C : CX G p s m args c cc nL RX8 33 q) (hW : WB G 33 q (eM G q τ ξ) s H locs) (hdg : decode cc pc = .ok (.getfield 57, 3)) (kk : W p l e R s m args below meth c H locs cells slots Q (F0 m (pc + 3) ls (.ref (q 16) :: rest))) : W p l e R s m args below meth c H locs cells slots Q (F0 m pc ls (.ref (q 0) :: rest)) := r_get C hW (o := 0) (k := 20) (by decide) rfl rfl (by decide) bF_X8_57 rfl inB_X8 rfl hdg kk
theorem mG_spaceProduct (C : CX G p s m args c cc nL RX8 33 q) (hW : WB G 33 q (eM G q τ ξ) s H locs) (hdg : decode cc pc = .ok (.getfield 60, 3)) (kk : W p l e R s m args below meth c H locs cells slots Q (F0 m (pc + 3) ls (.ref (q 17) :: rest))) : W p l e R s m args below meth c H locs cells slots Q (F0 m pc ls (.ref (q 0) :: rest)) := r_get C hW (o := 0) (k := 21) (by decide) rfl rfl (by decide) bF_X8_60 rfl inB_X8 rfl hdg kk
theorem mG_keptMany (C : CX G p s m args c cc nL RX8 33 q) (hW : WB G 33 q (eM G q τ ξ) s H locs) {v : Int32} (hv : τ.1 17 = v) (hdg : decode cc pc = .ok (.getfield 199, 3)) (kk : W p l e R s m args below meth c H locs cells slots Q (F0 m (pc + 3) ls (.int v :: rest))) : W p l e R s m args below meth c H locs cells slots Q (F0 m pc ls (.ref (q 0) :: rest)) := by
  subst hv
  exact r_get C hW (o := 0) (k := 22) (by decide) rfl rfl (by decide) bF_X8_199 rfl inB_X8 rfl hdg kk
theorem mP_keptMany (C : CX G p s m args c cc nL RX8 33 q) (hW : WB G 33 q (eM G q τ ξ) s H locs) {v : Int32} (hdg : decode cc pc = .ok (.putfield 199, 3)) (kk : ∀ (H1 : Heap) (locs1 : List Loc), WB G 33 q (eM G q (sg τ 17 v) ξ) s H1 locs1 → W p l e R s m args below meth c H1 locs1 cells slots Q (F0 m (pc + 3) ls rest)) : W p l e R s m args below meth c H locs cells slots Q (F0 m pc ls (.int v :: .ref (q 0) :: rest)) := r_put C hW (o := 0) (k := 22) (ty := .int) (by decide) rfl rfl (by decide) bF_X8_199 rfl inB_X8 tyX8 tyX8_ok nmX8 rfl (by decide +kernel) rfl rfl (Nat.le_of_ble_eq_true rfl) hdg (fun j hj => match j, hj with
  | 0, _ => rfl
  | 1, _ => rfl
  | 2, _ => rfl
  | 3, _ => rfl
  | 4, _ => rfl
  | 5, _ => rfl
  | 6, _ => rfl
  | 7, _ => rfl
  | 8, _ => rfl
  | 9, _ => rfl
  | 10, _ => rfl
  | 11, _ => rfl
  | 12, _ => rfl
  | 13, _ => rfl
  | 14, _ => rfl
  | 15, _ => rfl
  | 16, _ => rfl
  | 17, _ => rfl
  | 18, _ => rfl
  | 19, _ => rfl
  | 20, _ => rfl
  | 21, _ => rfl
  | 22, _ => rfl
  | 23, _ => rfl
  | 24, _ => rfl
  | 25, _ => rfl
  | 26, _ => rfl
  | 27, _ => rfl
  | 28, _ => rfl
  | 29, _ => rfl
  | 30, _ => rfl
  | 31, _ => rfl
  | 32, _ => rfl
  | j + 33, hj => absurd hj (by omega)) kk
theorem mG_keptU (C : CX G p s m args c cc nL RX8 33 q) (hW : WB G 33 q (eM G q τ ξ) s H locs) (hdg : decode cc pc = .ok (.getfield 63, 3)) (kk : W p l e R s m args below meth c H locs cells slots Q (F0 m (pc + 3) ls (.ref (q 18) :: rest))) : W p l e R s m args below meth c H locs cells slots Q (F0 m pc ls (.ref (q 0) :: rest)) := r_get C hW (o := 0) (k := 23) (by decide) rfl rfl (by decide) bF_X8_63 rfl inB_X8 rfl hdg kk
theorem mG_keptV (C : CX G p s m args c cc nL RX8 33 q) (hW : WB G 33 q (eM G q τ ξ) s H locs) (hdg : decode cc pc = .ok (.getfield 66, 3)) (kk : W p l e R s m args below meth c H locs cells slots Q (F0 m (pc + 3) ls (.ref (q 19) :: rest))) : W p l e R s m args below meth c H locs cells slots Q (F0 m pc ls (.ref (q 0) :: rest)) := r_get C hW (o := 0) (k := 24) (by decide) rfl rfl (by decide) bF_X8_66 rfl inB_X8 rfl hdg kk
theorem mG_points (C : CX G p s m args c cc nL RX8 33 q) (hW : WB G 33 q (eM G q τ ξ) s H locs) {v : Int32} (hv : τ.1 3 = v) (hdg : decode cc pc = .ok (.getfield 218, 3)) (kk : W p l e R s m args below meth c H locs cells slots Q (F0 m (pc + 3) ls (.int v :: rest))) : W p l e R s m args below meth c H locs cells slots Q (F0 m pc ls (.ref (q 0) :: rest)) := by
  subst hv
  exact r_get C hW (o := 0) (k := 25) (by decide) rfl rfl (by decide) bF_X8_218 rfl inB_X8 rfl hdg kk
theorem mP_points (C : CX G p s m args c cc nL RX8 33 q) (hW : WB G 33 q (eM G q τ ξ) s H locs) {v : Int32} (hdg : decode cc pc = .ok (.putfield 218, 3)) (kk : ∀ (H1 : Heap) (locs1 : List Loc), WB G 33 q (eM G q (sg τ 3 v) ξ) s H1 locs1 → W p l e R s m args below meth c H1 locs1 cells slots Q (F0 m (pc + 3) ls rest)) : W p l e R s m args below meth c H locs cells slots Q (F0 m pc ls (.int v :: .ref (q 0) :: rest)) := r_put C hW (o := 0) (k := 25) (ty := .int) (by decide) rfl rfl (by decide) bF_X8_218 rfl inB_X8 tyX8 tyX8_ok nmX8 rfl (by decide +kernel) rfl rfl (Nat.le_of_ble_eq_true rfl) hdg (fun j hj => match j, hj with
  | 0, _ => rfl
  | 1, _ => rfl
  | 2, _ => rfl
  | 3, _ => rfl
  | 4, _ => rfl
  | 5, _ => rfl
  | 6, _ => rfl
  | 7, _ => rfl
  | 8, _ => rfl
  | 9, _ => rfl
  | 10, _ => rfl
  | 11, _ => rfl
  | 12, _ => rfl
  | 13, _ => rfl
  | 14, _ => rfl
  | 15, _ => rfl
  | 16, _ => rfl
  | 17, _ => rfl
  | 18, _ => rfl
  | 19, _ => rfl
  | 20, _ => rfl
  | 21, _ => rfl
  | 22, _ => rfl
  | 23, _ => rfl
  | 24, _ => rfl
  | 25, _ => rfl
  | 26, _ => rfl
  | 27, _ => rfl
  | 28, _ => rfl
  | 29, _ => rfl
  | 30, _ => rfl
  | 31, _ => rfl
  | 32, _ => rfl
  | j + 33, hj => absurd hj (by omega)) kk
theorem mG_pointX (C : CX G p s m args c cc nL RX8 33 q) (hW : WB G 33 q (eM G q τ ξ) s H locs) (hdg : decode cc pc = .ok (.getfield 69, 3)) (kk : W p l e R s m args below meth c H locs cells slots Q (F0 m (pc + 3) ls (.ref (q 20) :: rest))) : W p l e R s m args below meth c H locs cells slots Q (F0 m pc ls (.ref (q 0) :: rest)) := r_get C hW (o := 0) (k := 26) (by decide) rfl rfl (by decide) bF_X8_69 rfl inB_X8 rfl hdg kk
theorem mG_pointY (C : CX G p s m args c cc nL RX8 33 q) (hW : WB G 33 q (eM G q τ ξ) s H locs) (hdg : decode cc pc = .ok (.getfield 72, 3)) (kk : W p l e R s m args below meth c H locs cells slots Q (F0 m (pc + 3) ls (.ref (q 21) :: rest))) : W p l e R s m args below meth c H locs cells slots Q (F0 m pc ls (.ref (q 0) :: rest)) := r_get C hW (o := 0) (k := 27) (by decide) rfl rfl (by decide) bF_X8_72 rfl inB_X8 rfl hdg kk
theorem mG_flux (C : CX G p s m args c cc nL RX8 33 q) (hW : WB G 33 q (eM G q τ ξ) s H locs) (hdg : decode cc pc = .ok (.getfield 75, 3)) (kk : W p l e R s m args below meth c H locs cells slots Q (F0 m (pc + 3) ls (.ref (q 22) :: rest))) : W p l e R s m args below meth c H locs cells slots Q (F0 m pc ls (.ref (q 0) :: rest)) := r_get C hW (o := 0) (k := 28) (by decide) rfl rfl (by decide) bF_X8_75 rfl inB_X8 rfl hdg kk
theorem mG_parts (C : CX G p s m args c cc nL RX8 33 q) (hW : WB G 33 q (eM G q τ ξ) s H locs) {v : Int32} (hv : τ.1 4 = v) (hdg : decode cc pc = .ok (.getfield 225, 3)) (kk : W p l e R s m args below meth c H locs cells slots Q (F0 m (pc + 3) ls (.int v :: rest))) : W p l e R s m args below meth c H locs cells slots Q (F0 m pc ls (.ref (q 0) :: rest)) := by
  subst hv
  exact r_get C hW (o := 0) (k := 29) (by decide) rfl rfl (by decide) bF_X8_225 rfl inB_X8 rfl hdg kk
theorem mP_parts (C : CX G p s m args c cc nL RX8 33 q) (hW : WB G 33 q (eM G q τ ξ) s H locs) {v : Int32} (hdg : decode cc pc = .ok (.putfield 225, 3)) (kk : ∀ (H1 : Heap) (locs1 : List Loc), WB G 33 q (eM G q (sg τ 4 v) ξ) s H1 locs1 → W p l e R s m args below meth c H1 locs1 cells slots Q (F0 m (pc + 3) ls rest)) : W p l e R s m args below meth c H locs cells slots Q (F0 m pc ls (.int v :: .ref (q 0) :: rest)) := r_put C hW (o := 0) (k := 29) (ty := .int) (by decide) rfl rfl (by decide) bF_X8_225 rfl inB_X8 tyX8 tyX8_ok nmX8 rfl (by decide +kernel) rfl rfl (Nat.le_of_ble_eq_true rfl) hdg (fun j hj => match j, hj with
  | 0, _ => rfl
  | 1, _ => rfl
  | 2, _ => rfl
  | 3, _ => rfl
  | 4, _ => rfl
  | 5, _ => rfl
  | 6, _ => rfl
  | 7, _ => rfl
  | 8, _ => rfl
  | 9, _ => rfl
  | 10, _ => rfl
  | 11, _ => rfl
  | 12, _ => rfl
  | 13, _ => rfl
  | 14, _ => rfl
  | 15, _ => rfl
  | 16, _ => rfl
  | 17, _ => rfl
  | 18, _ => rfl
  | 19, _ => rfl
  | 20, _ => rfl
  | 21, _ => rfl
  | 22, _ => rfl
  | 23, _ => rfl
  | 24, _ => rfl
  | 25, _ => rfl
  | 26, _ => rfl
  | 27, _ => rfl
  | 28, _ => rfl
  | 29, _ => rfl
  | 30, _ => rfl
  | 31, _ => rfl
  | 32, _ => rfl
  | j + 33, hj => absurd hj (by omega)) kk
theorem mG_partCell (C : CX G p s m args c cc nL RX8 33 q) (hW : WB G 33 q (eM G q τ ξ) s H locs) (hdg : decode cc pc = .ok (.getfield 78, 3)) (kk : W p l e R s m args below meth c H locs cells slots Q (F0 m (pc + 3) ls (.ref (q 23) :: rest))) : W p l e R s m args below meth c H locs cells slots Q (F0 m pc ls (.ref (q 0) :: rest)) := r_get C hW (o := 0) (k := 30) (by decide) rfl rfl (by decide) bF_X8_78 rfl inB_X8 rfl hdg kk
theorem mG_partA (C : CX G p s m args c cc nL RX8 33 q) (hW : WB G 33 q (eM G q τ ξ) s H locs) (hdg : decode cc pc = .ok (.getfield 81, 3)) (kk : W p l e R s m args below meth c H locs cells slots Q (F0 m (pc + 3) ls (.ref (q 24) :: rest))) : W p l e R s m args below meth c H locs cells slots Q (F0 m pc ls (.ref (q 0) :: rest)) := r_get C hW (o := 0) (k := 31) (by decide) rfl rfl (by decide) bF_X8_81 rfl inB_X8 rfl hdg kk
theorem mG_lowX (C : CX G p s m args c cc nL RX8 33 q) (hW : WB G 33 q (eM G q τ ξ) s H locs) {v : Int32} (hv : τ.1 5 = v) (hdg : decode cc pc = .ok (.getfield 181, 3)) (kk : W p l e R s m args below meth c H locs cells slots Q (F0 m (pc + 3) ls (.int v :: rest))) : W p l e R s m args below meth c H locs cells slots Q (F0 m pc ls (.ref (q 0) :: rest)) := by
  subst hv
  exact r_get C hW (o := 0) (k := 32) (by decide) rfl rfl (by decide) bF_X8_181 rfl inB_X8 rfl hdg kk
theorem mP_lowX (C : CX G p s m args c cc nL RX8 33 q) (hW : WB G 33 q (eM G q τ ξ) s H locs) {v : Int32} (hdg : decode cc pc = .ok (.putfield 181, 3)) (kk : ∀ (H1 : Heap) (locs1 : List Loc), WB G 33 q (eM G q (sg τ 5 v) ξ) s H1 locs1 → W p l e R s m args below meth c H1 locs1 cells slots Q (F0 m (pc + 3) ls rest)) : W p l e R s m args below meth c H locs cells slots Q (F0 m pc ls (.int v :: .ref (q 0) :: rest)) := r_put C hW (o := 0) (k := 32) (ty := .int) (by decide) rfl rfl (by decide) bF_X8_181 rfl inB_X8 tyX8 tyX8_ok nmX8 rfl (by decide +kernel) rfl rfl (Nat.le_of_ble_eq_true rfl) hdg (fun j hj => match j, hj with
  | 0, _ => rfl
  | 1, _ => rfl
  | 2, _ => rfl
  | 3, _ => rfl
  | 4, _ => rfl
  | 5, _ => rfl
  | 6, _ => rfl
  | 7, _ => rfl
  | 8, _ => rfl
  | 9, _ => rfl
  | 10, _ => rfl
  | 11, _ => rfl
  | 12, _ => rfl
  | 13, _ => rfl
  | 14, _ => rfl
  | 15, _ => rfl
  | 16, _ => rfl
  | 17, _ => rfl
  | 18, _ => rfl
  | 19, _ => rfl
  | 20, _ => rfl
  | 21, _ => rfl
  | 22, _ => rfl
  | 23, _ => rfl
  | 24, _ => rfl
  | 25, _ => rfl
  | 26, _ => rfl
  | 27, _ => rfl
  | 28, _ => rfl
  | 29, _ => rfl
  | 30, _ => rfl
  | 31, _ => rfl
  | 32, _ => rfl
  | j + 33, hj => absurd hj (by omega)) kk
theorem mG_highX (C : CX G p s m args c cc nL RX8 33 q) (hW : WB G 33 q (eM G q τ ξ) s H locs) {v : Int32} (hv : τ.1 6 = v) (hdg : decode cc pc = .ok (.getfield 184, 3)) (kk : W p l e R s m args below meth c H locs cells slots Q (F0 m (pc + 3) ls (.int v :: rest))) : W p l e R s m args below meth c H locs cells slots Q (F0 m pc ls (.ref (q 0) :: rest)) := by
  subst hv
  exact r_get C hW (o := 0) (k := 33) (by decide) rfl rfl (by decide) bF_X8_184 rfl inB_X8 rfl hdg kk
theorem mP_highX (C : CX G p s m args c cc nL RX8 33 q) (hW : WB G 33 q (eM G q τ ξ) s H locs) {v : Int32} (hdg : decode cc pc = .ok (.putfield 184, 3)) (kk : ∀ (H1 : Heap) (locs1 : List Loc), WB G 33 q (eM G q (sg τ 6 v) ξ) s H1 locs1 → W p l e R s m args below meth c H1 locs1 cells slots Q (F0 m (pc + 3) ls rest)) : W p l e R s m args below meth c H locs cells slots Q (F0 m pc ls (.int v :: .ref (q 0) :: rest)) := r_put C hW (o := 0) (k := 33) (ty := .int) (by decide) rfl rfl (by decide) bF_X8_184 rfl inB_X8 tyX8 tyX8_ok nmX8 rfl (by decide +kernel) rfl rfl (Nat.le_of_ble_eq_true rfl) hdg (fun j hj => match j, hj with
  | 0, _ => rfl
  | 1, _ => rfl
  | 2, _ => rfl
  | 3, _ => rfl
  | 4, _ => rfl
  | 5, _ => rfl
  | 6, _ => rfl
  | 7, _ => rfl
  | 8, _ => rfl
  | 9, _ => rfl
  | 10, _ => rfl
  | 11, _ => rfl
  | 12, _ => rfl
  | 13, _ => rfl
  | 14, _ => rfl
  | 15, _ => rfl
  | 16, _ => rfl
  | 17, _ => rfl
  | 18, _ => rfl
  | 19, _ => rfl
  | 20, _ => rfl
  | 21, _ => rfl
  | 22, _ => rfl
  | 23, _ => rfl
  | 24, _ => rfl
  | 25, _ => rfl
  | 26, _ => rfl
  | 27, _ => rfl
  | 28, _ => rfl
  | 29, _ => rfl
  | 30, _ => rfl
  | 31, _ => rfl
  | 32, _ => rfl
  | j + 33, hj => absurd hj (by omega)) kk
theorem mG_lowY (C : CX G p s m args c cc nL RX8 33 q) (hW : WB G 33 q (eM G q τ ξ) s H locs) {v : Int32} (hv : τ.1 7 = v) (hdg : decode cc pc = .ok (.getfield 187, 3)) (kk : W p l e R s m args below meth c H locs cells slots Q (F0 m (pc + 3) ls (.int v :: rest))) : W p l e R s m args below meth c H locs cells slots Q (F0 m pc ls (.ref (q 0) :: rest)) := by
  subst hv
  exact r_get C hW (o := 0) (k := 34) (by decide) rfl rfl (by decide) bF_X8_187 rfl inB_X8 rfl hdg kk
theorem mP_lowY (C : CX G p s m args c cc nL RX8 33 q) (hW : WB G 33 q (eM G q τ ξ) s H locs) {v : Int32} (hdg : decode cc pc = .ok (.putfield 187, 3)) (kk : ∀ (H1 : Heap) (locs1 : List Loc), WB G 33 q (eM G q (sg τ 7 v) ξ) s H1 locs1 → W p l e R s m args below meth c H1 locs1 cells slots Q (F0 m (pc + 3) ls rest)) : W p l e R s m args below meth c H locs cells slots Q (F0 m pc ls (.int v :: .ref (q 0) :: rest)) := r_put C hW (o := 0) (k := 34) (ty := .int) (by decide) rfl rfl (by decide) bF_X8_187 rfl inB_X8 tyX8 tyX8_ok nmX8 rfl (by decide +kernel) rfl rfl (Nat.le_of_ble_eq_true rfl) hdg (fun j hj => match j, hj with
  | 0, _ => rfl
  | 1, _ => rfl
  | 2, _ => rfl
  | 3, _ => rfl
  | 4, _ => rfl
  | 5, _ => rfl
  | 6, _ => rfl
  | 7, _ => rfl
  | 8, _ => rfl
  | 9, _ => rfl
  | 10, _ => rfl
  | 11, _ => rfl
  | 12, _ => rfl
  | 13, _ => rfl
  | 14, _ => rfl
  | 15, _ => rfl
  | 16, _ => rfl
  | 17, _ => rfl
  | 18, _ => rfl
  | 19, _ => rfl
  | 20, _ => rfl
  | 21, _ => rfl
  | 22, _ => rfl
  | 23, _ => rfl
  | 24, _ => rfl
  | 25, _ => rfl
  | 26, _ => rfl
  | 27, _ => rfl
  | 28, _ => rfl
  | 29, _ => rfl
  | 30, _ => rfl
  | 31, _ => rfl
  | 32, _ => rfl
  | j + 33, hj => absurd hj (by omega)) kk
theorem mG_highY (C : CX G p s m args c cc nL RX8 33 q) (hW : WB G 33 q (eM G q τ ξ) s H locs) {v : Int32} (hv : τ.1 8 = v) (hdg : decode cc pc = .ok (.getfield 190, 3)) (kk : W p l e R s m args below meth c H locs cells slots Q (F0 m (pc + 3) ls (.int v :: rest))) : W p l e R s m args below meth c H locs cells slots Q (F0 m pc ls (.ref (q 0) :: rest)) := by
  subst hv
  exact r_get C hW (o := 0) (k := 35) (by decide) rfl rfl (by decide) bF_X8_190 rfl inB_X8 rfl hdg kk
theorem mP_highY (C : CX G p s m args c cc nL RX8 33 q) (hW : WB G 33 q (eM G q τ ξ) s H locs) {v : Int32} (hdg : decode cc pc = .ok (.putfield 190, 3)) (kk : ∀ (H1 : Heap) (locs1 : List Loc), WB G 33 q (eM G q (sg τ 8 v) ξ) s H1 locs1 → W p l e R s m args below meth c H1 locs1 cells slots Q (F0 m (pc + 3) ls rest)) : W p l e R s m args below meth c H locs cells slots Q (F0 m pc ls (.int v :: .ref (q 0) :: rest)) := r_put C hW (o := 0) (k := 35) (ty := .int) (by decide) rfl rfl (by decide) bF_X8_190 rfl inB_X8 tyX8 tyX8_ok nmX8 rfl (by decide +kernel) rfl rfl (Nat.le_of_ble_eq_true rfl) hdg (fun j hj => match j, hj with
  | 0, _ => rfl
  | 1, _ => rfl
  | 2, _ => rfl
  | 3, _ => rfl
  | 4, _ => rfl
  | 5, _ => rfl
  | 6, _ => rfl
  | 7, _ => rfl
  | 8, _ => rfl
  | 9, _ => rfl
  | 10, _ => rfl
  | 11, _ => rfl
  | 12, _ => rfl
  | 13, _ => rfl
  | 14, _ => rfl
  | 15, _ => rfl
  | 16, _ => rfl
  | 17, _ => rfl
  | 18, _ => rfl
  | 19, _ => rfl
  | 20, _ => rfl
  | 21, _ => rfl
  | 22, _ => rfl
  | 23, _ => rfl
  | 24, _ => rfl
  | 25, _ => rfl
  | 26, _ => rfl
  | 27, _ => rfl
  | 28, _ => rfl
  | 29, _ => rfl
  | 30, _ => rfl
  | 31, _ => rfl
  | 32, _ => rfl
  | j + 33, hj => absurd hj (by omega)) kk
theorem mG_rises (C : CX G p s m args c cc nL RX8 33 q) (hW : WB G 33 q (eM G q τ ξ) s H locs) (hdg : decode cc pc = .ok (.getfield 84, 3)) (kk : W p l e R s m args below meth c H locs cells slots Q (F0 m (pc + 3) ls (.ref (q 25) :: rest))) : W p l e R s m args below meth c H locs cells slots Q (F0 m pc ls (.ref (q 0) :: rest)) := r_get C hW (o := 0) (k := 36) (by decide) rfl rfl (by decide) bF_X8_84 rfl inB_X8 rfl hdg kk
theorem mG_riseAt (C : CX G p s m args c cc nL RX8 33 q) (hW : WB G 33 q (eM G q τ ξ) s H locs) (hdg : decode cc pc = .ok (.getfield 87, 3)) (kk : W p l e R s m args below meth c H locs cells slots Q (F0 m (pc + 3) ls (.ref (q 26) :: rest))) : W p l e R s m args below meth c H locs cells slots Q (F0 m pc ls (.ref (q 0) :: rest)) := r_get C hW (o := 0) (k := 37) (by decide) rfl rfl (by decide) bF_X8_87 rfl inB_X8 rfl hdg kk
theorem mG_setAt (C : CX G p s m args c cc nL RX8 33 q) (hW : WB G 33 q (eM G q τ ξ) s H locs) (hdg : decode cc pc = .ok (.getfield 90, 3)) (kk : W p l e R s m args below meth c H locs cells slots Q (F0 m (pc + 3) ls (.ref (q 27) :: rest))) : W p l e R s m args below meth c H locs cells slots Q (F0 m pc ls (.ref (q 0) :: rest)) := r_get C hW (o := 0) (k := 38) (by decide) rfl rfl (by decide) bF_X8_90 rfl inB_X8 rfl hdg kk
theorem mG_orders (C : CX G p s m args c cc nL RX8 33 q) (hW : WB G 33 q (eM G q τ ξ) s H locs) {v : Int32} (hv : τ.1 9 = v) (hdg : decode cc pc = .ok (.getfield 254, 3)) (kk : W p l e R s m args below meth c H locs cells slots Q (F0 m (pc + 3) ls (.int v :: rest))) : W p l e R s m args below meth c H locs cells slots Q (F0 m pc ls (.ref (q 0) :: rest)) := by
  subst hv
  exact r_get C hW (o := 0) (k := 39) (by decide) rfl rfl (by decide) bF_X8_254 rfl inB_X8 rfl hdg kk
theorem mP_orders (C : CX G p s m args c cc nL RX8 33 q) (hW : WB G 33 q (eM G q τ ξ) s H locs) {v : Int32} (hdg : decode cc pc = .ok (.putfield 254, 3)) (kk : ∀ (H1 : Heap) (locs1 : List Loc), WB G 33 q (eM G q (sg τ 9 v) ξ) s H1 locs1 → W p l e R s m args below meth c H1 locs1 cells slots Q (F0 m (pc + 3) ls rest)) : W p l e R s m args below meth c H locs cells slots Q (F0 m pc ls (.int v :: .ref (q 0) :: rest)) := r_put C hW (o := 0) (k := 39) (ty := .int) (by decide) rfl rfl (by decide) bF_X8_254 rfl inB_X8 tyX8 tyX8_ok nmX8 rfl (by decide +kernel) rfl rfl (Nat.le_of_ble_eq_true rfl) hdg (fun j hj => match j, hj with
  | 0, _ => rfl
  | 1, _ => rfl
  | 2, _ => rfl
  | 3, _ => rfl
  | 4, _ => rfl
  | 5, _ => rfl
  | 6, _ => rfl
  | 7, _ => rfl
  | 8, _ => rfl
  | 9, _ => rfl
  | 10, _ => rfl
  | 11, _ => rfl
  | 12, _ => rfl
  | 13, _ => rfl
  | 14, _ => rfl
  | 15, _ => rfl
  | 16, _ => rfl
  | 17, _ => rfl
  | 18, _ => rfl
  | 19, _ => rfl
  | 20, _ => rfl
  | 21, _ => rfl
  | 22, _ => rfl
  | 23, _ => rfl
  | 24, _ => rfl
  | 25, _ => rfl
  | 26, _ => rfl
  | 27, _ => rfl
  | 28, _ => rfl
  | 29, _ => rfl
  | 30, _ => rfl
  | 31, _ => rfl
  | 32, _ => rfl
  | j + 33, hj => absurd hj (by omega)) kk
theorem mG_kinds (C : CX G p s m args c cc nL RX8 33 q) (hW : WB G 33 q (eM G q τ ξ) s H locs) (hdg : decode cc pc = .ok (.getfield 93, 3)) (kk : W p l e R s m args below meth c H locs cells slots Q (F0 m (pc + 3) ls (.ref (q 28) :: rest))) : W p l e R s m args below meth c H locs cells slots Q (F0 m pc ls (.ref (q 0) :: rest)) := r_get C hW (o := 0) (k := 40) (by decide) rfl rfl (by decide) bF_X8_93 rfl inB_X8 rfl hdg kk
theorem mG_first (C : CX G p s m args c cc nL RX8 33 q) (hW : WB G 33 q (eM G q τ ξ) s H locs) (hdg : decode cc pc = .ok (.getfield 96, 3)) (kk : W p l e R s m args below meth c H locs cells slots Q (F0 m (pc + 3) ls (.ref (q 29) :: rest))) : W p l e R s m args below meth c H locs cells slots Q (F0 m pc ls (.ref (q 0) :: rest)) := r_get C hW (o := 0) (k := 41) (by decide) rfl rfl (by decide) bF_X8_96 rfl inB_X8 rfl hdg kk
theorem mG_second (C : CX G p s m args c cc nL RX8 33 q) (hW : WB G 33 q (eM G q τ ξ) s H locs) (hdg : decode cc pc = .ok (.getfield 99, 3)) (kk : W p l e R s m args below meth c H locs cells slots Q (F0 m (pc + 3) ls (.ref (q 30) :: rest))) : W p l e R s m args below meth c H locs cells slots Q (F0 m pc ls (.ref (q 0) :: rest)) := r_get C hW (o := 0) (k := 42) (by decide) rfl rfl (by decide) bF_X8_99 rfl inB_X8 rfl hdg kk
theorem mG_left (C : CX G p s m args c cc nL RX8 33 q) (hW : WB G 33 q (eM G q τ ξ) s H locs) (hdg : decode cc pc = .ok (.getfield 102, 3)) (kk : W p l e R s m args below meth c H locs cells slots Q (F0 m (pc + 3) ls (.ref (q 31) :: rest))) : W p l e R s m args below meth c H locs cells slots Q (F0 m pc ls (.ref (q 0) :: rest)) := r_get C hW (o := 0) (k := 43) (by decide) rfl rfl (by decide) bF_X8_102 rfl inB_X8 rfl hdg kk
theorem mG_minute (C : CX G p s m args c cc nL RX8 33 q) (hW : WB G 33 q (eM G q τ ξ) s H locs) {v : Int32} (hv : τ.1 10 = v) (hdg : decode cc pc = .ok (.getfield 267, 3)) (kk : W p l e R s m args below meth c H locs cells slots Q (F0 m (pc + 3) ls (.int v :: rest))) : W p l e R s m args below meth c H locs cells slots Q (F0 m pc ls (.ref (q 0) :: rest)) := by
  subst hv
  exact r_get C hW (o := 0) (k := 44) (by decide) rfl rfl (by decide) bF_X8_267 rfl inB_X8 rfl hdg kk
theorem mP_minute (C : CX G p s m args c cc nL RX8 33 q) (hW : WB G 33 q (eM G q τ ξ) s H locs) {v : Int32} (hdg : decode cc pc = .ok (.putfield 267, 3)) (kk : ∀ (H1 : Heap) (locs1 : List Loc), WB G 33 q (eM G q (sg τ 10 v) ξ) s H1 locs1 → W p l e R s m args below meth c H1 locs1 cells slots Q (F0 m (pc + 3) ls rest)) : W p l e R s m args below meth c H locs cells slots Q (F0 m pc ls (.int v :: .ref (q 0) :: rest)) := r_put C hW (o := 0) (k := 44) (ty := .int) (by decide) rfl rfl (by decide) bF_X8_267 rfl inB_X8 tyX8 tyX8_ok nmX8 rfl (by decide +kernel) rfl rfl (Nat.le_of_ble_eq_true rfl) hdg (fun j hj => match j, hj with
  | 0, _ => rfl
  | 1, _ => rfl
  | 2, _ => rfl
  | 3, _ => rfl
  | 4, _ => rfl
  | 5, _ => rfl
  | 6, _ => rfl
  | 7, _ => rfl
  | 8, _ => rfl
  | 9, _ => rfl
  | 10, _ => rfl
  | 11, _ => rfl
  | 12, _ => rfl
  | 13, _ => rfl
  | 14, _ => rfl
  | 15, _ => rfl
  | 16, _ => rfl
  | 17, _ => rfl
  | 18, _ => rfl
  | 19, _ => rfl
  | 20, _ => rfl
  | 21, _ => rfl
  | 22, _ => rfl
  | 23, _ => rfl
  | 24, _ => rfl
  | 25, _ => rfl
  | 26, _ => rfl
  | 27, _ => rfl
  | 28, _ => rfl
  | 29, _ => rfl
  | 30, _ => rfl
  | 31, _ => rfl
  | 32, _ => rfl
  | j + 33, hj => absurd hj (by omega)) kk
theorem mG_azimuth (C : CX G p s m args c cc nL RX8 33 q) (hW : WB G 33 q (eM G q τ ξ) s H locs) {v : Int32} (hv : τ.1 11 = v) (hdg : decode cc pc = .ok (.getfield 261, 3)) (kk : W p l e R s m args below meth c H locs cells slots Q (F0 m (pc + 3) ls (.int v :: rest))) : W p l e R s m args below meth c H locs cells slots Q (F0 m pc ls (.ref (q 0) :: rest)) := by
  subst hv
  exact r_get C hW (o := 0) (k := 45) (by decide) rfl rfl (by decide) bF_X8_261 rfl inB_X8 rfl hdg kk
theorem mP_azimuth (C : CX G p s m args c cc nL RX8 33 q) (hW : WB G 33 q (eM G q τ ξ) s H locs) {v : Int32} (hdg : decode cc pc = .ok (.putfield 261, 3)) (kk : ∀ (H1 : Heap) (locs1 : List Loc), WB G 33 q (eM G q (sg τ 11 v) ξ) s H1 locs1 → W p l e R s m args below meth c H1 locs1 cells slots Q (F0 m (pc + 3) ls rest)) : W p l e R s m args below meth c H locs cells slots Q (F0 m pc ls (.int v :: .ref (q 0) :: rest)) := r_put C hW (o := 0) (k := 45) (ty := .int) (by decide) rfl rfl (by decide) bF_X8_261 rfl inB_X8 tyX8 tyX8_ok nmX8 rfl (by decide +kernel) rfl rfl (Nat.le_of_ble_eq_true rfl) hdg (fun j hj => match j, hj with
  | 0, _ => rfl
  | 1, _ => rfl
  | 2, _ => rfl
  | 3, _ => rfl
  | 4, _ => rfl
  | 5, _ => rfl
  | 6, _ => rfl
  | 7, _ => rfl
  | 8, _ => rfl
  | 9, _ => rfl
  | 10, _ => rfl
  | 11, _ => rfl
  | 12, _ => rfl
  | 13, _ => rfl
  | 14, _ => rfl
  | 15, _ => rfl
  | 16, _ => rfl
  | 17, _ => rfl
  | 18, _ => rfl
  | 19, _ => rfl
  | 20, _ => rfl
  | 21, _ => rfl
  | 22, _ => rfl
  | 23, _ => rfl
  | 24, _ => rfl
  | 25, _ => rfl
  | 26, _ => rfl
  | 27, _ => rfl
  | 28, _ => rfl
  | 29, _ => rfl
  | 30, _ => rfl
  | 31, _ => rfl
  | 32, _ => rfl
  | j + 33, hj => absurd hj (by omega)) kk
theorem mG_watched (C : CX G p s m args c cc nL RX8 33 q) (hW : WB G 33 q (eM G q τ ξ) s H locs) {v : Int32} (hv : τ.1 12 = v) (hdg : decode cc pc = .ok (.getfield 285, 3)) (kk : W p l e R s m args below meth c H locs cells slots Q (F0 m (pc + 3) ls (.int v :: rest))) : W p l e R s m args below meth c H locs cells slots Q (F0 m pc ls (.ref (q 0) :: rest)) := by
  subst hv
  exact r_get C hW (o := 0) (k := 46) (by decide) rfl rfl (by decide) bF_X8_285 rfl inB_X8 rfl hdg kk
theorem mP_watched (C : CX G p s m args c cc nL RX8 33 q) (hW : WB G 33 q (eM G q τ ξ) s H locs) {v : Int32} (hdg : decode cc pc = .ok (.putfield 285, 3)) (kk : ∀ (H1 : Heap) (locs1 : List Loc), WB G 33 q (eM G q (sg τ 12 v) ξ) s H1 locs1 → W p l e R s m args below meth c H1 locs1 cells slots Q (F0 m (pc + 3) ls rest)) : W p l e R s m args below meth c H locs cells slots Q (F0 m pc ls (.int v :: .ref (q 0) :: rest)) := r_put C hW (o := 0) (k := 46) (ty := .int) (by decide) rfl rfl (by decide) bF_X8_285 rfl inB_X8 tyX8 tyX8_ok nmX8 rfl (by decide +kernel) rfl rfl (Nat.le_of_ble_eq_true rfl) hdg (fun j hj => match j, hj with
  | 0, _ => rfl
  | 1, _ => rfl
  | 2, _ => rfl
  | 3, _ => rfl
  | 4, _ => rfl
  | 5, _ => rfl
  | 6, _ => rfl
  | 7, _ => rfl
  | 8, _ => rfl
  | 9, _ => rfl
  | 10, _ => rfl
  | 11, _ => rfl
  | 12, _ => rfl
  | 13, _ => rfl
  | 14, _ => rfl
  | 15, _ => rfl
  | 16, _ => rfl
  | 17, _ => rfl
  | 18, _ => rfl
  | 19, _ => rfl
  | 20, _ => rfl
  | 21, _ => rfl
  | 22, _ => rfl
  | 23, _ => rfl
  | 24, _ => rfl
  | 25, _ => rfl
  | 26, _ => rfl
  | 27, _ => rfl
  | 28, _ => rfl
  | 29, _ => rfl
  | 30, _ => rfl
  | 31, _ => rfl
  | 32, _ => rfl
  | j + 33, hj => absurd hj (by omega)) kk
theorem mG_done (C : CX G p s m args c cc nL RX8 33 q) (hW : WB G 33 q (eM G q τ ξ) s H locs) {v : Int32} (hv : τ.1 13 = v) (hdg : decode cc pc = .ok (.getfield 276, 3)) (kk : W p l e R s m args below meth c H locs cells slots Q (F0 m (pc + 3) ls (.int v :: rest))) : W p l e R s m args below meth c H locs cells slots Q (F0 m pc ls (.ref (q 0) :: rest)) := by
  subst hv
  exact r_get C hW (o := 0) (k := 47) (by decide) rfl rfl (by decide) bF_X8_276 rfl inB_X8 rfl hdg kk
theorem mP_done (C : CX G p s m args c cc nL RX8 33 q) (hW : WB G 33 q (eM G q τ ξ) s H locs) {v : Int32} (hdg : decode cc pc = .ok (.putfield 276, 3)) (kk : ∀ (H1 : Heap) (locs1 : List Loc), WB G 33 q (eM G q (sg τ 13 v) ξ) s H1 locs1 → W p l e R s m args below meth c H1 locs1 cells slots Q (F0 m (pc + 3) ls rest)) : W p l e R s m args below meth c H locs cells slots Q (F0 m pc ls (.int v :: .ref (q 0) :: rest)) := r_put C hW (o := 0) (k := 47) (ty := .int) (by decide) rfl rfl (by decide) bF_X8_276 rfl inB_X8 tyX8 tyX8_ok nmX8 rfl (by decide +kernel) rfl rfl (Nat.le_of_ble_eq_true rfl) hdg (fun j hj => match j, hj with
  | 0, _ => rfl
  | 1, _ => rfl
  | 2, _ => rfl
  | 3, _ => rfl
  | 4, _ => rfl
  | 5, _ => rfl
  | 6, _ => rfl
  | 7, _ => rfl
  | 8, _ => rfl
  | 9, _ => rfl
  | 10, _ => rfl
  | 11, _ => rfl
  | 12, _ => rfl
  | 13, _ => rfl
  | 14, _ => rfl
  | 15, _ => rfl
  | 16, _ => rfl
  | 17, _ => rfl
  | 18, _ => rfl
  | 19, _ => rfl
  | 20, _ => rfl
  | 21, _ => rfl
  | 22, _ => rfl
  | 23, _ => rfl
  | 24, _ => rfl
  | 25, _ => rfl
  | 26, _ => rfl
  | 27, _ => rfl
  | 28, _ => rfl
  | 29, _ => rfl
  | 30, _ => rfl
  | 31, _ => rfl
  | 32, _ => rfl
  | j + 33, hj => absurd hj (by omega)) kk
theorem mG_endedAt (C : CX G p s m args c cc nL RX8 33 q) (hW : WB G 33 q (eM G q τ ξ) s H locs) {v : Int32} (hv : τ.1 14 = v) (hdg : decode cc pc = .ok (.getfield 105, 3)) (kk : W p l e R s m args below meth c H locs cells slots Q (F0 m (pc + 3) ls (.int v :: rest))) : W p l e R s m args below meth c H locs cells slots Q (F0 m pc ls (.ref (q 0) :: rest)) := by
  subst hv
  exact r_get C hW (o := 0) (k := 48) (by decide) rfl rfl (by decide) bF_X8_105 rfl inB_X8 rfl hdg kk
theorem mP_endedAt (C : CX G p s m args c cc nL RX8 33 q) (hW : WB G 33 q (eM G q τ ξ) s H locs) {v : Int32} (hdg : decode cc pc = .ok (.putfield 105, 3)) (kk : ∀ (H1 : Heap) (locs1 : List Loc), WB G 33 q (eM G q (sg τ 14 v) ξ) s H1 locs1 → W p l e R s m args below meth c H1 locs1 cells slots Q (F0 m (pc + 3) ls rest)) : W p l e R s m args below meth c H locs cells slots Q (F0 m pc ls (.int v :: .ref (q 0) :: rest)) := r_put C hW (o := 0) (k := 48) (ty := .int) (by decide) rfl rfl (by decide) bF_X8_105 rfl inB_X8 tyX8 tyX8_ok nmX8 rfl (by decide +kernel) rfl rfl (Nat.le_of_ble_eq_true rfl) hdg (fun j hj => match j, hj with
  | 0, _ => rfl
  | 1, _ => rfl
  | 2, _ => rfl
  | 3, _ => rfl
  | 4, _ => rfl
  | 5, _ => rfl
  | 6, _ => rfl
  | 7, _ => rfl
  | 8, _ => rfl
  | 9, _ => rfl
  | 10, _ => rfl
  | 11, _ => rfl
  | 12, _ => rfl
  | 13, _ => rfl
  | 14, _ => rfl
  | 15, _ => rfl
  | 16, _ => rfl
  | 17, _ => rfl
  | 18, _ => rfl
  | 19, _ => rfl
  | 20, _ => rfl
  | 21, _ => rfl
  | 22, _ => rfl
  | 23, _ => rfl
  | 24, _ => rfl
  | 25, _ => rfl
  | 26, _ => rfl
  | 27, _ => rfl
  | 28, _ => rfl
  | 29, _ => rfl
  | 30, _ => rfl
  | 31, _ => rfl
  | 32, _ => rfl
  | j + 33, hj => absurd hj (by omega)) kk
theorem mG_turning (C : CX G p s m args c cc nL RX8 33 q) (hW : WB G 33 q (eM G q τ ξ) s H locs) {v : Int32} (hv : τ.1 15 = v) (hdg : decode cc pc = .ok (.getfield 282, 3)) (kk : W p l e R s m args below meth c H locs cells slots Q (F0 m (pc + 3) ls (.int v :: rest))) : W p l e R s m args below meth c H locs cells slots Q (F0 m pc ls (.ref (q 0) :: rest)) := by
  subst hv
  exact r_get C hW (o := 0) (k := 49) (by decide) rfl rfl (by decide) bF_X8_282 rfl inB_X8 rfl hdg kk
theorem mP_turning (C : CX G p s m args c cc nL RX8 33 q) (hW : WB G 33 q (eM G q τ ξ) s H locs) {v : Int32} (hdg : decode cc pc = .ok (.putfield 282, 3)) (kk : ∀ (H1 : Heap) (locs1 : List Loc), WB G 33 q (eM G q (sg τ 15 v) ξ) s H1 locs1 → W p l e R s m args below meth c H1 locs1 cells slots Q (F0 m (pc + 3) ls rest)) : W p l e R s m args below meth c H locs cells slots Q (F0 m pc ls (.int v :: .ref (q 0) :: rest)) := r_put C hW (o := 0) (k := 49) (ty := .int) (by decide) rfl rfl (by decide) bF_X8_282 rfl inB_X8 tyX8 tyX8_ok nmX8 rfl (by decide +kernel) rfl rfl (Nat.le_of_ble_eq_true rfl) hdg (fun j hj => match j, hj with
  | 0, _ => rfl
  | 1, _ => rfl
  | 2, _ => rfl
  | 3, _ => rfl
  | 4, _ => rfl
  | 5, _ => rfl
  | 6, _ => rfl
  | 7, _ => rfl
  | 8, _ => rfl
  | 9, _ => rfl
  | 10, _ => rfl
  | 11, _ => rfl
  | 12, _ => rfl
  | 13, _ => rfl
  | 14, _ => rfl
  | 15, _ => rfl
  | 16, _ => rfl
  | 17, _ => rfl
  | 18, _ => rfl
  | 19, _ => rfl
  | 20, _ => rfl
  | 21, _ => rfl
  | 22, _ => rfl
  | 23, _ => rfl
  | 24, _ => rfl
  | 25, _ => rfl
  | 26, _ => rfl
  | 27, _ => rfl
  | 28, _ => rfl
  | 29, _ => rfl
  | 30, _ => rfl
  | 31, _ => rfl
  | 32, _ => rfl
  | j + 33, hj => absurd hj (by omega)) kk
theorem mG_stormEnd (C : CX G p s m args c cc nL RX8 33 q) (hW : WB G 33 q (eM G q τ ξ) s H locs) {v : Int32} (hv : τ.1 16 = v) (hdg : decode cc pc = .ok (.getfield 279, 3)) (kk : W p l e R s m args below meth c H locs cells slots Q (F0 m (pc + 3) ls (.int v :: rest))) : W p l e R s m args below meth c H locs cells slots Q (F0 m pc ls (.ref (q 0) :: rest)) := by
  subst hv
  exact r_get C hW (o := 0) (k := 50) (by decide) rfl rfl (by decide) bF_X8_279 rfl inB_X8 rfl hdg kk
theorem mP_stormEnd (C : CX G p s m args c cc nL RX8 33 q) (hW : WB G 33 q (eM G q τ ξ) s H locs) {v : Int32} (hdg : decode cc pc = .ok (.putfield 279, 3)) (kk : ∀ (H1 : Heap) (locs1 : List Loc), WB G 33 q (eM G q (sg τ 16 v) ξ) s H1 locs1 → W p l e R s m args below meth c H1 locs1 cells slots Q (F0 m (pc + 3) ls rest)) : W p l e R s m args below meth c H locs cells slots Q (F0 m pc ls (.int v :: .ref (q 0) :: rest)) := r_put C hW (o := 0) (k := 50) (ty := .int) (by decide) rfl rfl (by decide) bF_X8_279 rfl inB_X8 tyX8 tyX8_ok nmX8 rfl (by decide +kernel) rfl rfl (Nat.le_of_ble_eq_true rfl) hdg (fun j hj => match j, hj with
  | 0, _ => rfl
  | 1, _ => rfl
  | 2, _ => rfl
  | 3, _ => rfl
  | 4, _ => rfl
  | 5, _ => rfl
  | 6, _ => rfl
  | 7, _ => rfl
  | 8, _ => rfl
  | 9, _ => rfl
  | 10, _ => rfl
  | 11, _ => rfl
  | 12, _ => rfl
  | 13, _ => rfl
  | 14, _ => rfl
  | 15, _ => rfl
  | 16, _ => rfl
  | 17, _ => rfl
  | 18, _ => rfl
  | 19, _ => rfl
  | 20, _ => rfl
  | 21, _ => rfl
  | 22, _ => rfl
  | 23, _ => rfl
  | 24, _ => rfl
  | 25, _ => rfl
  | 26, _ => rfl
  | 27, _ => rfl
  | 28, _ => rfl
  | 29, _ => rfl
  | 30, _ => rfl
  | 31, _ => rfl
  | 32, _ => rfl
  | j + 33, hj => absurd hj (by omega)) kk
theorem mG_watchedOf (C : CX G p s m args c cc nL RX8 33 q) (hW : WB G 33 q (eM G q τ ξ) s H locs) (hdg : decode cc pc = .ok (.getfield 109, 3)) (kk : W p l e R s m args below meth c H locs cells slots Q (F0 m (pc + 3) ls (.ref (q 32) :: rest))) : W p l e R s m args below meth c H locs cells slots Q (F0 m pc ls (.ref (q 0) :: rest)) := r_get C hW (o := 0) (k := 51) (by decide) rfl rfl (by decide) bF_X8_109 rfl inB_X8 rfl hdg kk
theorem mL_placeX (C : CX G p s m args c cc nL RX8 33 q) (hW : WB G 33 q (eM G q τ ξ) s H locs) {i : Int32} (k : Nat) (hi : i.toInt = (k : Int)) (hk : k < 6) {v : Int32} (hv : τ.2.1 0 k = v) (hdg : decode cc pc = .ok (.iaload, 1)) (kk : W p l e R s m args below meth c H locs cells slots Q (F0 m (pc + 1) ls (.int v :: rest))) : W p l e R s m args below meth c H locs cells slots Q (F0 m pc ls (.int i :: .ref (q 1) :: rest)) := r_iald C hW (o := 1) (by decide) rfl hi hk hv hdg kk
theorem mS_placeX (C : CX G p s m args c cc nL RX8 33 q) (hW : WB G 33 q (eM G q τ ξ) s H locs) {i x : Int32} (k : Nat) (hi : i.toInt = (k : Int)) (hk : k < 6) (hdg : decode cc pc = .ok (.iastore, 1)) (kk : ∀ (H1 : Heap) (locs1 : List Loc), WB G 33 q (eM G q (sa τ 0 k x) ξ) s H1 locs1 → W p l e R s m args below meth c H1 locs1 cells slots Q (F0 m (pc + 1) ls rest)) : W p l e R s m args below meth c H locs cells slots Q (F0 m pc ls (.int x :: .int i :: .ref (q 1) :: rest)) := r_iast C hW (o := 1) (by decide) rfl hi hk hdg (fun j hj => match j, hj with
  | 0, _ => rfl
  | 1, _ => rfl
  | 2, _ => rfl
  | 3, _ => rfl
  | 4, _ => rfl
  | 5, _ => rfl
  | 6, _ => rfl
  | 7, _ => rfl
  | 8, _ => rfl
  | 9, _ => rfl
  | 10, _ => rfl
  | 11, _ => rfl
  | 12, _ => rfl
  | 13, _ => rfl
  | 14, _ => rfl
  | 15, _ => rfl
  | 16, _ => rfl
  | 17, _ => rfl
  | 18, _ => rfl
  | 19, _ => rfl
  | 20, _ => rfl
  | 21, _ => rfl
  | 22, _ => rfl
  | 23, _ => rfl
  | 24, _ => rfl
  | 25, _ => rfl
  | 26, _ => rfl
  | 27, _ => rfl
  | 28, _ => rfl
  | 29, _ => rfl
  | 30, _ => rfl
  | 31, _ => rfl
  | 32, _ => rfl
  | j + 33, hj => absurd hj (by omega)) kk
theorem mL_placeY (C : CX G p s m args c cc nL RX8 33 q) (hW : WB G 33 q (eM G q τ ξ) s H locs) {i : Int32} (k : Nat) (hi : i.toInt = (k : Int)) (hk : k < 6) {v : Int32} (hv : τ.2.1 1 k = v) (hdg : decode cc pc = .ok (.iaload, 1)) (kk : W p l e R s m args below meth c H locs cells slots Q (F0 m (pc + 1) ls (.int v :: rest))) : W p l e R s m args below meth c H locs cells slots Q (F0 m pc ls (.int i :: .ref (q 2) :: rest)) := r_iald C hW (o := 2) (by decide) rfl hi hk hv hdg kk
theorem mS_placeY (C : CX G p s m args c cc nL RX8 33 q) (hW : WB G 33 q (eM G q τ ξ) s H locs) {i x : Int32} (k : Nat) (hi : i.toInt = (k : Int)) (hk : k < 6) (hdg : decode cc pc = .ok (.iastore, 1)) (kk : ∀ (H1 : Heap) (locs1 : List Loc), WB G 33 q (eM G q (sa τ 1 k x) ξ) s H1 locs1 → W p l e R s m args below meth c H1 locs1 cells slots Q (F0 m (pc + 1) ls rest)) : W p l e R s m args below meth c H locs cells slots Q (F0 m pc ls (.int x :: .int i :: .ref (q 2) :: rest)) := r_iast C hW (o := 2) (by decide) rfl hi hk hdg (fun j hj => match j, hj with
  | 0, _ => rfl
  | 1, _ => rfl
  | 2, _ => rfl
  | 3, _ => rfl
  | 4, _ => rfl
  | 5, _ => rfl
  | 6, _ => rfl
  | 7, _ => rfl
  | 8, _ => rfl
  | 9, _ => rfl
  | 10, _ => rfl
  | 11, _ => rfl
  | 12, _ => rfl
  | 13, _ => rfl
  | 14, _ => rfl
  | 15, _ => rfl
  | 16, _ => rfl
  | 17, _ => rfl
  | 18, _ => rfl
  | 19, _ => rfl
  | 20, _ => rfl
  | 21, _ => rfl
  | 22, _ => rfl
  | 23, _ => rfl
  | 24, _ => rfl
  | 25, _ => rfl
  | 26, _ => rfl
  | 27, _ => rfl
  | 28, _ => rfl
  | 29, _ => rfl
  | 30, _ => rfl
  | 31, _ => rfl
  | 32, _ => rfl
  | j + 33, hj => absurd hj (by omega)) kk
theorem mL_delays (C : CX G p s m args c cc nL RX8 33 q) (hW : WB G 33 q (eM G q τ ξ) s H locs) {i : Int32} (k : Nat) (hi : i.toInt = (k : Int)) (hk : k < 6) {v : Int32} (hv : τ.2.1 2 k = v) (hdg : decode cc pc = .ok (.iaload, 1)) (kk : W p l e R s m args below meth c H locs cells slots Q (F0 m (pc + 1) ls (.int v :: rest))) : W p l e R s m args below meth c H locs cells slots Q (F0 m pc ls (.int i :: .ref (q 3) :: rest)) := r_iald C hW (o := 3) (by decide) rfl hi hk hv hdg kk
theorem mS_delays (C : CX G p s m args c cc nL RX8 33 q) (hW : WB G 33 q (eM G q τ ξ) s H locs) {i x : Int32} (k : Nat) (hi : i.toInt = (k : Int)) (hk : k < 6) (hdg : decode cc pc = .ok (.iastore, 1)) (kk : ∀ (H1 : Heap) (locs1 : List Loc), WB G 33 q (eM G q (sa τ 2 k x) ξ) s H1 locs1 → W p l e R s m args below meth c H1 locs1 cells slots Q (F0 m (pc + 1) ls rest)) : W p l e R s m args below meth c H locs cells slots Q (F0 m pc ls (.int x :: .int i :: .ref (q 3) :: rest)) := r_iast C hW (o := 3) (by decide) rfl hi hk hdg (fun j hj => match j, hj with
  | 0, _ => rfl
  | 1, _ => rfl
  | 2, _ => rfl
  | 3, _ => rfl
  | 4, _ => rfl
  | 5, _ => rfl
  | 6, _ => rfl
  | 7, _ => rfl
  | 8, _ => rfl
  | 9, _ => rfl
  | 10, _ => rfl
  | 11, _ => rfl
  | 12, _ => rfl
  | 13, _ => rfl
  | 14, _ => rfl
  | 15, _ => rfl
  | 16, _ => rfl
  | 17, _ => rfl
  | 18, _ => rfl
  | 19, _ => rfl
  | 20, _ => rfl
  | 21, _ => rfl
  | 22, _ => rfl
  | 23, _ => rfl
  | 24, _ => rfl
  | 25, _ => rfl
  | 26, _ => rfl
  | 27, _ => rfl
  | 28, _ => rfl
  | 29, _ => rfl
  | 30, _ => rfl
  | 31, _ => rfl
  | 32, _ => rfl
  | j + 33, hj => absurd hj (by omega)) kk
theorem mL_gains (C : CX G p s m args c cc nL RX8 33 q) (hW : WB G 33 q (eM G q τ ξ) s H locs) {i : Int32} (k : Nat) (hi : i.toInt = (k : Int)) (hk : k < 6) {v : Int32} (hv : τ.2.1 3 k = v) (hdg : decode cc pc = .ok (.iaload, 1)) (kk : W p l e R s m args below meth c H locs cells slots Q (F0 m (pc + 1) ls (.int v :: rest))) : W p l e R s m args below meth c H locs cells slots Q (F0 m pc ls (.int i :: .ref (q 4) :: rest)) := r_iald C hW (o := 4) (by decide) rfl hi hk hv hdg kk
theorem mS_gains (C : CX G p s m args c cc nL RX8 33 q) (hW : WB G 33 q (eM G q τ ξ) s H locs) {i x : Int32} (k : Nat) (hi : i.toInt = (k : Int)) (hk : k < 6) (hdg : decode cc pc = .ok (.iastore, 1)) (kk : ∀ (H1 : Heap) (locs1 : List Loc), WB G 33 q (eM G q (sa τ 3 k x) ξ) s H1 locs1 → W p l e R s m args below meth c H1 locs1 cells slots Q (F0 m (pc + 1) ls rest)) : W p l e R s m args below meth c H locs cells slots Q (F0 m pc ls (.int x :: .int i :: .ref (q 4) :: rest)) := r_iast C hW (o := 4) (by decide) rfl hi hk hdg (fun j hj => match j, hj with
  | 0, _ => rfl
  | 1, _ => rfl
  | 2, _ => rfl
  | 3, _ => rfl
  | 4, _ => rfl
  | 5, _ => rfl
  | 6, _ => rfl
  | 7, _ => rfl
  | 8, _ => rfl
  | 9, _ => rfl
  | 10, _ => rfl
  | 11, _ => rfl
  | 12, _ => rfl
  | 13, _ => rfl
  | 14, _ => rfl
  | 15, _ => rfl
  | 16, _ => rfl
  | 17, _ => rfl
  | 18, _ => rfl
  | 19, _ => rfl
  | 20, _ => rfl
  | 21, _ => rfl
  | 22, _ => rfl
  | 23, _ => rfl
  | 24, _ => rfl
  | 25, _ => rfl
  | 26, _ => rfl
  | 27, _ => rfl
  | 28, _ => rfl
  | 29, _ => rfl
  | 30, _ => rfl
  | 31, _ => rfl
  | 32, _ => rfl
  | j + 33, hj => absurd hj (by omega)) kk
theorem mL_isThere (C : CX G p s m args c cc nL RX8 33 q) (hW : WB G 33 q (eM G q τ ξ) s H locs) {i : Int32} (k : Nat) (hi : i.toInt = (k : Int)) (hk : k < 6) {v : Int32} (hv : τ.2.1 4 k = v) (hdg : decode cc pc = .ok (.baload, 1)) (kk : W p l e R s m args below meth c H locs cells slots Q (F0 m (pc + 1) ls (.int v :: rest))) : W p l e R s m args below meth c H locs cells slots Q (F0 m pc ls (.int i :: .ref (q 5) :: rest)) := r_zald C hW (o := 5) (by decide) rfl hi hk hv hdg kk
theorem mS_isThere (C : CX G p s m args c cc nL RX8 33 q) (hW : WB G 33 q (eM G q τ ξ) s H locs) {i x : Int32} (k : Nat) (hi : i.toInt = (k : Int)) (hk : k < 6) (hx1 : vp_nar .boolean x = x) (hdg : decode cc pc = .ok (.bastore, 1)) (kk : ∀ (H1 : Heap) (locs1 : List Loc), WB G 33 q (eM G q (sa τ 4 k x) ξ) s H1 locs1 → W p l e R s m args below meth c H1 locs1 cells slots Q (F0 m (pc + 1) ls rest)) : W p l e R s m args below meth c H locs cells slots Q (F0 m pc ls (.int x :: .int i :: .ref (q 5) :: rest)) := r_zast C hW (o := 5) (by decide) rfl hi hk hx1 hdg (fun j hj => match j, hj with
  | 0, _ => rfl
  | 1, _ => rfl
  | 2, _ => rfl
  | 3, _ => rfl
  | 4, _ => rfl
  | 5, _ => rfl
  | 6, _ => rfl
  | 7, _ => rfl
  | 8, _ => rfl
  | 9, _ => rfl
  | 10, _ => rfl
  | 11, _ => rfl
  | 12, _ => rfl
  | 13, _ => rfl
  | 14, _ => rfl
  | 15, _ => rfl
  | 16, _ => rfl
  | 17, _ => rfl
  | 18, _ => rfl
  | 19, _ => rfl
  | 20, _ => rfl
  | 21, _ => rfl
  | 22, _ => rfl
  | 23, _ => rfl
  | 24, _ => rfl
  | 25, _ => rfl
  | 26, _ => rfl
  | 27, _ => rfl
  | 28, _ => rfl
  | 29, _ => rfl
  | 30, _ => rfl
  | 31, _ => rfl
  | 32, _ => rfl
  | j + 33, hj => absurd hj (by omega)) kk
theorem mL_forms (C : CX G p s m args c cc nL RX8 33 q) (hW : WB G 33 q (eM G q τ ξ) s H locs) {i : Int32} (k : Nat) (hi : i.toInt = (k : Int)) (hk : k < 6) {v : Int32} (hv : τ.2.1 5 k = v) (hdg : decode cc pc = .ok (.iaload, 1)) (kk : W p l e R s m args below meth c H locs cells slots Q (F0 m (pc + 1) ls (.int v :: rest))) : W p l e R s m args below meth c H locs cells slots Q (F0 m pc ls (.int i :: .ref (q 6) :: rest)) := r_iald C hW (o := 6) (by decide) rfl hi hk hv hdg kk
theorem mS_forms (C : CX G p s m args c cc nL RX8 33 q) (hW : WB G 33 q (eM G q τ ξ) s H locs) {i x : Int32} (k : Nat) (hi : i.toInt = (k : Int)) (hk : k < 6) (hdg : decode cc pc = .ok (.iastore, 1)) (kk : ∀ (H1 : Heap) (locs1 : List Loc), WB G 33 q (eM G q (sa τ 5 k x) ξ) s H1 locs1 → W p l e R s m args below meth c H1 locs1 cells slots Q (F0 m (pc + 1) ls rest)) : W p l e R s m args below meth c H locs cells slots Q (F0 m pc ls (.int x :: .int i :: .ref (q 6) :: rest)) := r_iast C hW (o := 6) (by decide) rfl hi hk hdg (fun j hj => match j, hj with
  | 0, _ => rfl
  | 1, _ => rfl
  | 2, _ => rfl
  | 3, _ => rfl
  | 4, _ => rfl
  | 5, _ => rfl
  | 6, _ => rfl
  | 7, _ => rfl
  | 8, _ => rfl
  | 9, _ => rfl
  | 10, _ => rfl
  | 11, _ => rfl
  | 12, _ => rfl
  | 13, _ => rfl
  | 14, _ => rfl
  | 15, _ => rfl
  | 16, _ => rfl
  | 17, _ => rfl
  | 18, _ => rfl
  | 19, _ => rfl
  | 20, _ => rfl
  | 21, _ => rfl
  | 22, _ => rfl
  | 23, _ => rfl
  | 24, _ => rfl
  | 25, _ => rfl
  | 26, _ => rfl
  | 27, _ => rfl
  | 28, _ => rfl
  | 29, _ => rfl
  | 30, _ => rfl
  | 31, _ => rfl
  | 32, _ => rfl
  | j + 33, hj => absurd hj (by omega)) kk
theorem mL_sizes (C : CX G p s m args c cc nL RX8 33 q) (hW : WB G 33 q (eM G q τ ξ) s H locs) {i : Int32} (k : Nat) (hi : i.toInt = (k : Int)) (hk : k < 6) {v : Int32} (hv : τ.2.1 6 k = v) (hdg : decode cc pc = .ok (.iaload, 1)) (kk : W p l e R s m args below meth c H locs cells slots Q (F0 m (pc + 1) ls (.int v :: rest))) : W p l e R s m args below meth c H locs cells slots Q (F0 m pc ls (.int i :: .ref (q 7) :: rest)) := r_iald C hW (o := 7) (by decide) rfl hi hk hv hdg kk
theorem mS_sizes (C : CX G p s m args c cc nL RX8 33 q) (hW : WB G 33 q (eM G q τ ξ) s H locs) {i x : Int32} (k : Nat) (hi : i.toInt = (k : Int)) (hk : k < 6) (hdg : decode cc pc = .ok (.iastore, 1)) (kk : ∀ (H1 : Heap) (locs1 : List Loc), WB G 33 q (eM G q (sa τ 6 k x) ξ) s H1 locs1 → W p l e R s m args below meth c H1 locs1 cells slots Q (F0 m (pc + 1) ls rest)) : W p l e R s m args below meth c H locs cells slots Q (F0 m pc ls (.int x :: .int i :: .ref (q 7) :: rest)) := r_iast C hW (o := 7) (by decide) rfl hi hk hdg (fun j hj => match j, hj with
  | 0, _ => rfl
  | 1, _ => rfl
  | 2, _ => rfl
  | 3, _ => rfl
  | 4, _ => rfl
  | 5, _ => rfl
  | 6, _ => rfl
  | 7, _ => rfl
  | 8, _ => rfl
  | 9, _ => rfl
  | 10, _ => rfl
  | 11, _ => rfl
  | 12, _ => rfl
  | 13, _ => rfl
  | 14, _ => rfl
  | 15, _ => rfl
  | 16, _ => rfl
  | 17, _ => rfl
  | 18, _ => rfl
  | 19, _ => rfl
  | 20, _ => rfl
  | 21, _ => rfl
  | 22, _ => rfl
  | 23, _ => rfl
  | 24, _ => rfl
  | 25, _ => rfl
  | 26, _ => rfl
  | 27, _ => rfl
  | 28, _ => rfl
  | 29, _ => rfl
  | 30, _ => rfl
  | 31, _ => rfl
  | 32, _ => rfl
  | j + 33, hj => absurd hj (by omega)) kk
theorem mL_items (C : CX G p s m args c cc nL RX8 33 q) (hW : WB G 33 q (eM G q τ ξ) s H locs) {i : Int32} (k : Nat) (hi : i.toInt = (k : Int)) (hk : k < 600) {v : Int32} (hv : τ.2.1 7 k = v) (hdg : decode cc pc = .ok (.iaload, 1)) (kk : W p l e R s m args below meth c H locs cells slots Q (F0 m (pc + 1) ls (.int v :: rest))) : W p l e R s m args below meth c H locs cells slots Q (F0 m pc ls (.int i :: .ref (q 8) :: rest)) := r_iald C hW (o := 8) (by decide) rfl hi hk hv hdg kk
theorem mS_items (C : CX G p s m args c cc nL RX8 33 q) (hW : WB G 33 q (eM G q τ ξ) s H locs) {i x : Int32} (k : Nat) (hi : i.toInt = (k : Int)) (hk : k < 600) (hdg : decode cc pc = .ok (.iastore, 1)) (kk : ∀ (H1 : Heap) (locs1 : List Loc), WB G 33 q (eM G q (sa τ 7 k x) ξ) s H1 locs1 → W p l e R s m args below meth c H1 locs1 cells slots Q (F0 m (pc + 1) ls rest)) : W p l e R s m args below meth c H locs cells slots Q (F0 m pc ls (.int x :: .int i :: .ref (q 8) :: rest)) := r_iast C hW (o := 8) (by decide) rfl hi hk hdg (fun j hj => match j, hj with
  | 0, _ => rfl
  | 1, _ => rfl
  | 2, _ => rfl
  | 3, _ => rfl
  | 4, _ => rfl
  | 5, _ => rfl
  | 6, _ => rfl
  | 7, _ => rfl
  | 8, _ => rfl
  | 9, _ => rfl
  | 10, _ => rfl
  | 11, _ => rfl
  | 12, _ => rfl
  | 13, _ => rfl
  | 14, _ => rfl
  | 15, _ => rfl
  | 16, _ => rfl
  | 17, _ => rfl
  | 18, _ => rfl
  | 19, _ => rfl
  | 20, _ => rfl
  | 21, _ => rfl
  | 22, _ => rfl
  | 23, _ => rfl
  | 24, _ => rfl
  | 25, _ => rfl
  | 26, _ => rfl
  | 27, _ => rfl
  | 28, _ => rfl
  | 29, _ => rfl
  | 30, _ => rfl
  | 31, _ => rfl
  | 32, _ => rfl
  | j + 33, hj => absurd hj (by omega)) kk
theorem mL_moved (C : CX G p s m args c cc nL RX8 33 q) (hW : WB G 33 q (eM G q τ ξ) s H locs) {i : Int32} (k : Nat) (hi : i.toInt = (k : Int)) (hk : k < 100) {v : Int32} (hv : ξ.2.1 3 k = v) (hdg : decode cc pc = .ok (.iaload, 1)) (kk : W p l e R s m args below meth c H locs cells slots Q (F0 m (pc + 1) ls (.int v :: rest))) : W p l e R s m args below meth c H locs cells slots Q (F0 m pc ls (.int i :: .ref (q 9) :: rest)) := r_iald C hW (o := 9) (by decide) rfl hi hk hv hdg kk
theorem mS_moved (C : CX G p s m args c cc nL RX8 33 q) (hW : WB G 33 q (eM G q τ ξ) s H locs) {i x : Int32} (k : Nat) (hi : i.toInt = (k : Int)) (hk : k < 100) (hdg : decode cc pc = .ok (.iastore, 1)) (kk : ∀ (H1 : Heap) (locs1 : List Loc), WB G 33 q (eM G q τ (sa ξ 3 k x)) s H1 locs1 → W p l e R s m args below meth c H1 locs1 cells slots Q (F0 m (pc + 1) ls rest)) : W p l e R s m args below meth c H locs cells slots Q (F0 m pc ls (.int x :: .int i :: .ref (q 9) :: rest)) := r_iast C hW (o := 9) (by decide) rfl hi hk hdg (fun j hj => match j, hj with
  | 0, _ => rfl
  | 1, _ => rfl
  | 2, _ => rfl
  | 3, _ => rfl
  | 4, _ => rfl
  | 5, _ => rfl
  | 6, _ => rfl
  | 7, _ => rfl
  | 8, _ => rfl
  | 9, _ => rfl
  | 10, _ => rfl
  | 11, _ => rfl
  | 12, _ => rfl
  | 13, _ => rfl
  | 14, _ => rfl
  | 15, _ => rfl
  | 16, _ => rfl
  | 17, _ => rfl
  | 18, _ => rfl
  | 19, _ => rfl
  | 20, _ => rfl
  | 21, _ => rfl
  | 22, _ => rfl
  | 23, _ => rfl
  | 24, _ => rfl
  | 25, _ => rfl
  | 26, _ => rfl
  | 27, _ => rfl
  | 28, _ => rfl
  | 29, _ => rfl
  | 30, _ => rfl
  | 31, _ => rfl
  | 32, _ => rfl
  | j + 33, hj => absurd hj (by omega)) kk
theorem mL_flagDish (C : CX G p s m args c cc nL RX8 33 q) (hW : WB G 33 q (eM G q τ ξ) s H locs) {i : Int32} (k : Nat) (hi : i.toInt = (k : Int)) (hk : k < 40) {v : Int32} (hv : τ.2.1 8 k = v) (hdg : decode cc pc = .ok (.iaload, 1)) (kk : W p l e R s m args below meth c H locs cells slots Q (F0 m (pc + 1) ls (.int v :: rest))) : W p l e R s m args below meth c H locs cells slots Q (F0 m pc ls (.int i :: .ref (q 10) :: rest)) := r_iald C hW (o := 10) (by decide) rfl hi hk hv hdg kk
theorem mS_flagDish (C : CX G p s m args c cc nL RX8 33 q) (hW : WB G 33 q (eM G q τ ξ) s H locs) {i x : Int32} (k : Nat) (hi : i.toInt = (k : Int)) (hk : k < 40) (hdg : decode cc pc = .ok (.iastore, 1)) (kk : ∀ (H1 : Heap) (locs1 : List Loc), WB G 33 q (eM G q (sa τ 8 k x) ξ) s H1 locs1 → W p l e R s m args below meth c H1 locs1 cells slots Q (F0 m (pc + 1) ls rest)) : W p l e R s m args below meth c H locs cells slots Q (F0 m pc ls (.int x :: .int i :: .ref (q 10) :: rest)) := r_iast C hW (o := 10) (by decide) rfl hi hk hdg (fun j hj => match j, hj with
  | 0, _ => rfl
  | 1, _ => rfl
  | 2, _ => rfl
  | 3, _ => rfl
  | 4, _ => rfl
  | 5, _ => rfl
  | 6, _ => rfl
  | 7, _ => rfl
  | 8, _ => rfl
  | 9, _ => rfl
  | 10, _ => rfl
  | 11, _ => rfl
  | 12, _ => rfl
  | 13, _ => rfl
  | 14, _ => rfl
  | 15, _ => rfl
  | 16, _ => rfl
  | 17, _ => rfl
  | 18, _ => rfl
  | 19, _ => rfl
  | 20, _ => rfl
  | 21, _ => rfl
  | 22, _ => rfl
  | 23, _ => rfl
  | 24, _ => rfl
  | 25, _ => rfl
  | 26, _ => rfl
  | 27, _ => rfl
  | 28, _ => rfl
  | 29, _ => rfl
  | 30, _ => rfl
  | 31, _ => rfl
  | 32, _ => rfl
  | j + 33, hj => absurd hj (by omega)) kk
theorem mL_flagFrom (C : CX G p s m args c cc nL RX8 33 q) (hW : WB G 33 q (eM G q τ ξ) s H locs) {i : Int32} (k : Nat) (hi : i.toInt = (k : Int)) (hk : k < 40) {v : Int32} (hv : τ.2.1 9 k = v) (hdg : decode cc pc = .ok (.iaload, 1)) (kk : W p l e R s m args below meth c H locs cells slots Q (F0 m (pc + 1) ls (.int v :: rest))) : W p l e R s m args below meth c H locs cells slots Q (F0 m pc ls (.int i :: .ref (q 11) :: rest)) := r_iald C hW (o := 11) (by decide) rfl hi hk hv hdg kk
theorem mS_flagFrom (C : CX G p s m args c cc nL RX8 33 q) (hW : WB G 33 q (eM G q τ ξ) s H locs) {i x : Int32} (k : Nat) (hi : i.toInt = (k : Int)) (hk : k < 40) (hdg : decode cc pc = .ok (.iastore, 1)) (kk : ∀ (H1 : Heap) (locs1 : List Loc), WB G 33 q (eM G q (sa τ 9 k x) ξ) s H1 locs1 → W p l e R s m args below meth c H1 locs1 cells slots Q (F0 m (pc + 1) ls rest)) : W p l e R s m args below meth c H locs cells slots Q (F0 m pc ls (.int x :: .int i :: .ref (q 11) :: rest)) := r_iast C hW (o := 11) (by decide) rfl hi hk hdg (fun j hj => match j, hj with
  | 0, _ => rfl
  | 1, _ => rfl
  | 2, _ => rfl
  | 3, _ => rfl
  | 4, _ => rfl
  | 5, _ => rfl
  | 6, _ => rfl
  | 7, _ => rfl
  | 8, _ => rfl
  | 9, _ => rfl
  | 10, _ => rfl
  | 11, _ => rfl
  | 12, _ => rfl
  | 13, _ => rfl
  | 14, _ => rfl
  | 15, _ => rfl
  | 16, _ => rfl
  | 17, _ => rfl
  | 18, _ => rfl
  | 19, _ => rfl
  | 20, _ => rfl
  | 21, _ => rfl
  | 22, _ => rfl
  | 23, _ => rfl
  | 24, _ => rfl
  | 25, _ => rfl
  | 26, _ => rfl
  | 27, _ => rfl
  | 28, _ => rfl
  | 29, _ => rfl
  | 30, _ => rfl
  | 31, _ => rfl
  | 32, _ => rfl
  | j + 33, hj => absurd hj (by omega)) kk
theorem mL_flagTo (C : CX G p s m args c cc nL RX8 33 q) (hW : WB G 33 q (eM G q τ ξ) s H locs) {i : Int32} (k : Nat) (hi : i.toInt = (k : Int)) (hk : k < 40) {v : Int32} (hv : τ.2.1 10 k = v) (hdg : decode cc pc = .ok (.iaload, 1)) (kk : W p l e R s m args below meth c H locs cells slots Q (F0 m (pc + 1) ls (.int v :: rest))) : W p l e R s m args below meth c H locs cells slots Q (F0 m pc ls (.int i :: .ref (q 12) :: rest)) := r_iald C hW (o := 12) (by decide) rfl hi hk hv hdg kk
theorem mS_flagTo (C : CX G p s m args c cc nL RX8 33 q) (hW : WB G 33 q (eM G q τ ξ) s H locs) {i x : Int32} (k : Nat) (hi : i.toInt = (k : Int)) (hk : k < 40) (hdg : decode cc pc = .ok (.iastore, 1)) (kk : ∀ (H1 : Heap) (locs1 : List Loc), WB G 33 q (eM G q (sa τ 10 k x) ξ) s H1 locs1 → W p l e R s m args below meth c H1 locs1 cells slots Q (F0 m (pc + 1) ls rest)) : W p l e R s m args below meth c H locs cells slots Q (F0 m pc ls (.int x :: .int i :: .ref (q 12) :: rest)) := r_iast C hW (o := 12) (by decide) rfl hi hk hdg (fun j hj => match j, hj with
  | 0, _ => rfl
  | 1, _ => rfl
  | 2, _ => rfl
  | 3, _ => rfl
  | 4, _ => rfl
  | 5, _ => rfl
  | 6, _ => rfl
  | 7, _ => rfl
  | 8, _ => rfl
  | 9, _ => rfl
  | 10, _ => rfl
  | 11, _ => rfl
  | 12, _ => rfl
  | 13, _ => rfl
  | 14, _ => rfl
  | 15, _ => rfl
  | 16, _ => rfl
  | 17, _ => rfl
  | 18, _ => rfl
  | 19, _ => rfl
  | 20, _ => rfl
  | 21, _ => rfl
  | 22, _ => rfl
  | 23, _ => rfl
  | 24, _ => rfl
  | 25, _ => rfl
  | 26, _ => rfl
  | 27, _ => rfl
  | 28, _ => rfl
  | 29, _ => rfl
  | 30, _ => rfl
  | 31, _ => rfl
  | 32, _ => rfl
  | j + 33, hj => absurd hj (by omega)) kk
theorem mL_waves (C : CX G p s m args c cc nL RX8 33 q) (hW : WB G 33 q (eM G q τ ξ) s H locs) {i : Int32} (k : Nat) (hi : i.toInt = (k : Int)) (hk : k < 16) {v : Int32} (hv : wv k = v) (hdg : decode cc pc = .ok (.iaload, 1)) (kk : W p l e R s m args below meth c H locs cells slots Q (F0 m (pc + 1) ls (.int v :: rest))) : W p l e R s m args below meth c H locs cells slots Q (F0 m pc ls (.int i :: .ref (q 13) :: rest)) := r_iald C hW (o := 13) (by decide) rfl hi hk hv hdg kk
theorem mL_board (C : CX G p s m args c cc nL RX8 33 q) (hW : WB G 33 q (eM G q τ ξ) s H locs) {i : Int32} (k : Nat) (hi : i.toInt = (k : Int)) (hk : k < 256) {v : Int64} (hv : τ.2.2 0 k = v) (hdg : decode cc pc = .ok (.laload, 1)) (kk : W p l e R s m args below meth c H locs cells slots Q (F0 m (pc + 1) ls (.long v :: rest))) : W p l e R s m args below meth c H locs cells slots Q (F0 m pc ls (.int i :: .ref (q 14) :: rest)) := r_lald C hW (o := 14) (by decide) rfl hi hk hv hdg kk
theorem mS_board (C : CX G p s m args c cc nL RX8 33 q) (hW : WB G 33 q (eM G q τ ξ) s H locs) {i : Int32} {x : Int64} (k : Nat) (hi : i.toInt = (k : Int)) (hk : k < 256) (hdg : decode cc pc = .ok (.lastore, 1)) (kk : ∀ (H1 : Heap) (locs1 : List Loc), WB G 33 q (eM G q (sb τ 0 k x) ξ) s H1 locs1 → W p l e R s m args below meth c H1 locs1 cells slots Q (F0 m (pc + 1) ls rest)) : W p l e R s m args below meth c H locs cells slots Q (F0 m pc ls (.long x :: .int i :: .ref (q 14) :: rest)) := r_last C hW (o := 14) (by decide) rfl hi hk hdg (fun j hj => match j, hj with
  | 0, _ => rfl
  | 1, _ => rfl
  | 2, _ => rfl
  | 3, _ => rfl
  | 4, _ => rfl
  | 5, _ => rfl
  | 6, _ => rfl
  | 7, _ => rfl
  | 8, _ => rfl
  | 9, _ => rfl
  | 10, _ => rfl
  | 11, _ => rfl
  | 12, _ => rfl
  | 13, _ => rfl
  | 14, _ => rfl
  | 15, _ => rfl
  | 16, _ => rfl
  | 17, _ => rfl
  | 18, _ => rfl
  | 19, _ => rfl
  | 20, _ => rfl
  | 21, _ => rfl
  | 22, _ => rfl
  | 23, _ => rfl
  | 24, _ => rfl
  | 25, _ => rfl
  | 26, _ => rfl
  | 27, _ => rfl
  | 28, _ => rfl
  | 29, _ => rfl
  | 30, _ => rfl
  | 31, _ => rfl
  | 32, _ => rfl
  | j + 33, hj => absurd hj (by omega)) kk
theorem mL_spaceU (C : CX G p s m args c cc nL RX8 33 q) (hW : WB G 33 q (eM G q τ ξ) s H locs) {i : Int32} (k : Nat) (hi : i.toInt = (k : Int)) (hk : k < 15) {v : Int32} (hv : ξ.2.1 0 k = v) (hdg : decode cc pc = .ok (.iaload, 1)) (kk : W p l e R s m args below meth c H locs cells slots Q (F0 m (pc + 1) ls (.int v :: rest))) : W p l e R s m args below meth c H locs cells slots Q (F0 m pc ls (.int i :: .ref (q 15) :: rest)) := r_iald C hW (o := 15) (by decide) rfl hi hk hv hdg kk
theorem mS_spaceU (C : CX G p s m args c cc nL RX8 33 q) (hW : WB G 33 q (eM G q τ ξ) s H locs) {i x : Int32} (k : Nat) (hi : i.toInt = (k : Int)) (hk : k < 15) (hdg : decode cc pc = .ok (.iastore, 1)) (kk : ∀ (H1 : Heap) (locs1 : List Loc), WB G 33 q (eM G q τ (sa ξ 0 k x)) s H1 locs1 → W p l e R s m args below meth c H1 locs1 cells slots Q (F0 m (pc + 1) ls rest)) : W p l e R s m args below meth c H locs cells slots Q (F0 m pc ls (.int x :: .int i :: .ref (q 15) :: rest)) := r_iast C hW (o := 15) (by decide) rfl hi hk hdg (fun j hj => match j, hj with
  | 0, _ => rfl
  | 1, _ => rfl
  | 2, _ => rfl
  | 3, _ => rfl
  | 4, _ => rfl
  | 5, _ => rfl
  | 6, _ => rfl
  | 7, _ => rfl
  | 8, _ => rfl
  | 9, _ => rfl
  | 10, _ => rfl
  | 11, _ => rfl
  | 12, _ => rfl
  | 13, _ => rfl
  | 14, _ => rfl
  | 15, _ => rfl
  | 16, _ => rfl
  | 17, _ => rfl
  | 18, _ => rfl
  | 19, _ => rfl
  | 20, _ => rfl
  | 21, _ => rfl
  | 22, _ => rfl
  | 23, _ => rfl
  | 24, _ => rfl
  | 25, _ => rfl
  | 26, _ => rfl
  | 27, _ => rfl
  | 28, _ => rfl
  | 29, _ => rfl
  | 30, _ => rfl
  | 31, _ => rfl
  | 32, _ => rfl
  | j + 33, hj => absurd hj (by omega)) kk
theorem mL_spaceV (C : CX G p s m args c cc nL RX8 33 q) (hW : WB G 33 q (eM G q τ ξ) s H locs) {i : Int32} (k : Nat) (hi : i.toInt = (k : Int)) (hk : k < 15) {v : Int32} (hv : ξ.2.1 1 k = v) (hdg : decode cc pc = .ok (.iaload, 1)) (kk : W p l e R s m args below meth c H locs cells slots Q (F0 m (pc + 1) ls (.int v :: rest))) : W p l e R s m args below meth c H locs cells slots Q (F0 m pc ls (.int i :: .ref (q 16) :: rest)) := r_iald C hW (o := 16) (by decide) rfl hi hk hv hdg kk
theorem mS_spaceV (C : CX G p s m args c cc nL RX8 33 q) (hW : WB G 33 q (eM G q τ ξ) s H locs) {i x : Int32} (k : Nat) (hi : i.toInt = (k : Int)) (hk : k < 15) (hdg : decode cc pc = .ok (.iastore, 1)) (kk : ∀ (H1 : Heap) (locs1 : List Loc), WB G 33 q (eM G q τ (sa ξ 1 k x)) s H1 locs1 → W p l e R s m args below meth c H1 locs1 cells slots Q (F0 m (pc + 1) ls rest)) : W p l e R s m args below meth c H locs cells slots Q (F0 m pc ls (.int x :: .int i :: .ref (q 16) :: rest)) := r_iast C hW (o := 16) (by decide) rfl hi hk hdg (fun j hj => match j, hj with
  | 0, _ => rfl
  | 1, _ => rfl
  | 2, _ => rfl
  | 3, _ => rfl
  | 4, _ => rfl
  | 5, _ => rfl
  | 6, _ => rfl
  | 7, _ => rfl
  | 8, _ => rfl
  | 9, _ => rfl
  | 10, _ => rfl
  | 11, _ => rfl
  | 12, _ => rfl
  | 13, _ => rfl
  | 14, _ => rfl
  | 15, _ => rfl
  | 16, _ => rfl
  | 17, _ => rfl
  | 18, _ => rfl
  | 19, _ => rfl
  | 20, _ => rfl
  | 21, _ => rfl
  | 22, _ => rfl
  | 23, _ => rfl
  | 24, _ => rfl
  | 25, _ => rfl
  | 26, _ => rfl
  | 27, _ => rfl
  | 28, _ => rfl
  | 29, _ => rfl
  | 30, _ => rfl
  | 31, _ => rfl
  | 32, _ => rfl
  | j + 33, hj => absurd hj (by omega)) kk
theorem mL_spaceProduct (C : CX G p s m args c cc nL RX8 33 q) (hW : WB G 33 q (eM G q τ ξ) s H locs) {i : Int32} (k : Nat) (hi : i.toInt = (k : Int)) (hk : k < 15) {v : Int64} (hv : ξ.2.2 0 k = v) (hdg : decode cc pc = .ok (.laload, 1)) (kk : W p l e R s m args below meth c H locs cells slots Q (F0 m (pc + 1) ls (.long v :: rest))) : W p l e R s m args below meth c H locs cells slots Q (F0 m pc ls (.int i :: .ref (q 17) :: rest)) := r_lald C hW (o := 17) (by decide) rfl hi hk hv hdg kk
theorem mS_spaceProduct (C : CX G p s m args c cc nL RX8 33 q) (hW : WB G 33 q (eM G q τ ξ) s H locs) {i : Int32} {x : Int64} (k : Nat) (hi : i.toInt = (k : Int)) (hk : k < 15) (hdg : decode cc pc = .ok (.lastore, 1)) (kk : ∀ (H1 : Heap) (locs1 : List Loc), WB G 33 q (eM G q τ (sb ξ 0 k x)) s H1 locs1 → W p l e R s m args below meth c H1 locs1 cells slots Q (F0 m (pc + 1) ls rest)) : W p l e R s m args below meth c H locs cells slots Q (F0 m pc ls (.long x :: .int i :: .ref (q 17) :: rest)) := r_last C hW (o := 17) (by decide) rfl hi hk hdg (fun j hj => match j, hj with
  | 0, _ => rfl
  | 1, _ => rfl
  | 2, _ => rfl
  | 3, _ => rfl
  | 4, _ => rfl
  | 5, _ => rfl
  | 6, _ => rfl
  | 7, _ => rfl
  | 8, _ => rfl
  | 9, _ => rfl
  | 10, _ => rfl
  | 11, _ => rfl
  | 12, _ => rfl
  | 13, _ => rfl
  | 14, _ => rfl
  | 15, _ => rfl
  | 16, _ => rfl
  | 17, _ => rfl
  | 18, _ => rfl
  | 19, _ => rfl
  | 20, _ => rfl
  | 21, _ => rfl
  | 22, _ => rfl
  | 23, _ => rfl
  | 24, _ => rfl
  | 25, _ => rfl
  | 26, _ => rfl
  | 27, _ => rfl
  | 28, _ => rfl
  | 29, _ => rfl
  | 30, _ => rfl
  | 31, _ => rfl
  | 32, _ => rfl
  | j + 33, hj => absurd hj (by omega)) kk
theorem mL_keptU (C : CX G p s m args c cc nL RX8 33 q) (hW : WB G 33 q (eM G q τ ξ) s H locs) {i : Int32} (k : Nat) (hi : i.toInt = (k : Int)) (hk : k < 15) {v : Int32} (hv : τ.2.1 22 k = v) (hdg : decode cc pc = .ok (.iaload, 1)) (kk : W p l e R s m args below meth c H locs cells slots Q (F0 m (pc + 1) ls (.int v :: rest))) : W p l e R s m args below meth c H locs cells slots Q (F0 m pc ls (.int i :: .ref (q 18) :: rest)) := r_iald C hW (o := 18) (by decide) rfl hi hk hv hdg kk
theorem mS_keptU (C : CX G p s m args c cc nL RX8 33 q) (hW : WB G 33 q (eM G q τ ξ) s H locs) {i x : Int32} (k : Nat) (hi : i.toInt = (k : Int)) (hk : k < 15) (hdg : decode cc pc = .ok (.iastore, 1)) (kk : ∀ (H1 : Heap) (locs1 : List Loc), WB G 33 q (eM G q (sa τ 22 k x) ξ) s H1 locs1 → W p l e R s m args below meth c H1 locs1 cells slots Q (F0 m (pc + 1) ls rest)) : W p l e R s m args below meth c H locs cells slots Q (F0 m pc ls (.int x :: .int i :: .ref (q 18) :: rest)) := r_iast C hW (o := 18) (by decide) rfl hi hk hdg (fun j hj => match j, hj with
  | 0, _ => rfl
  | 1, _ => rfl
  | 2, _ => rfl
  | 3, _ => rfl
  | 4, _ => rfl
  | 5, _ => rfl
  | 6, _ => rfl
  | 7, _ => rfl
  | 8, _ => rfl
  | 9, _ => rfl
  | 10, _ => rfl
  | 11, _ => rfl
  | 12, _ => rfl
  | 13, _ => rfl
  | 14, _ => rfl
  | 15, _ => rfl
  | 16, _ => rfl
  | 17, _ => rfl
  | 18, _ => rfl
  | 19, _ => rfl
  | 20, _ => rfl
  | 21, _ => rfl
  | 22, _ => rfl
  | 23, _ => rfl
  | 24, _ => rfl
  | 25, _ => rfl
  | 26, _ => rfl
  | 27, _ => rfl
  | 28, _ => rfl
  | 29, _ => rfl
  | 30, _ => rfl
  | 31, _ => rfl
  | 32, _ => rfl
  | j + 33, hj => absurd hj (by omega)) kk
theorem mL_keptV (C : CX G p s m args c cc nL RX8 33 q) (hW : WB G 33 q (eM G q τ ξ) s H locs) {i : Int32} (k : Nat) (hi : i.toInt = (k : Int)) (hk : k < 15) {v : Int32} (hv : τ.2.1 23 k = v) (hdg : decode cc pc = .ok (.iaload, 1)) (kk : W p l e R s m args below meth c H locs cells slots Q (F0 m (pc + 1) ls (.int v :: rest))) : W p l e R s m args below meth c H locs cells slots Q (F0 m pc ls (.int i :: .ref (q 19) :: rest)) := r_iald C hW (o := 19) (by decide) rfl hi hk hv hdg kk
theorem mS_keptV (C : CX G p s m args c cc nL RX8 33 q) (hW : WB G 33 q (eM G q τ ξ) s H locs) {i x : Int32} (k : Nat) (hi : i.toInt = (k : Int)) (hk : k < 15) (hdg : decode cc pc = .ok (.iastore, 1)) (kk : ∀ (H1 : Heap) (locs1 : List Loc), WB G 33 q (eM G q (sa τ 23 k x) ξ) s H1 locs1 → W p l e R s m args below meth c H1 locs1 cells slots Q (F0 m (pc + 1) ls rest)) : W p l e R s m args below meth c H locs cells slots Q (F0 m pc ls (.int x :: .int i :: .ref (q 19) :: rest)) := r_iast C hW (o := 19) (by decide) rfl hi hk hdg (fun j hj => match j, hj with
  | 0, _ => rfl
  | 1, _ => rfl
  | 2, _ => rfl
  | 3, _ => rfl
  | 4, _ => rfl
  | 5, _ => rfl
  | 6, _ => rfl
  | 7, _ => rfl
  | 8, _ => rfl
  | 9, _ => rfl
  | 10, _ => rfl
  | 11, _ => rfl
  | 12, _ => rfl
  | 13, _ => rfl
  | 14, _ => rfl
  | 15, _ => rfl
  | 16, _ => rfl
  | 17, _ => rfl
  | 18, _ => rfl
  | 19, _ => rfl
  | 20, _ => rfl
  | 21, _ => rfl
  | 22, _ => rfl
  | 23, _ => rfl
  | 24, _ => rfl
  | 25, _ => rfl
  | 26, _ => rfl
  | 27, _ => rfl
  | 28, _ => rfl
  | 29, _ => rfl
  | 30, _ => rfl
  | 31, _ => rfl
  | 32, _ => rfl
  | j + 33, hj => absurd hj (by omega)) kk
theorem mL_pointX (C : CX G p s m args c cc nL RX8 33 q) (hW : WB G 33 q (eM G q τ ξ) s H locs) {i : Int32} (k : Nat) (hi : i.toInt = (k : Int)) (hk : k < 10) {v : Int32} (hv : τ.2.1 11 k = v) (hdg : decode cc pc = .ok (.iaload, 1)) (kk : W p l e R s m args below meth c H locs cells slots Q (F0 m (pc + 1) ls (.int v :: rest))) : W p l e R s m args below meth c H locs cells slots Q (F0 m pc ls (.int i :: .ref (q 20) :: rest)) := r_iald C hW (o := 20) (by decide) rfl hi hk hv hdg kk
theorem mS_pointX (C : CX G p s m args c cc nL RX8 33 q) (hW : WB G 33 q (eM G q τ ξ) s H locs) {i x : Int32} (k : Nat) (hi : i.toInt = (k : Int)) (hk : k < 10) (hdg : decode cc pc = .ok (.iastore, 1)) (kk : ∀ (H1 : Heap) (locs1 : List Loc), WB G 33 q (eM G q (sa τ 11 k x) ξ) s H1 locs1 → W p l e R s m args below meth c H1 locs1 cells slots Q (F0 m (pc + 1) ls rest)) : W p l e R s m args below meth c H locs cells slots Q (F0 m pc ls (.int x :: .int i :: .ref (q 20) :: rest)) := r_iast C hW (o := 20) (by decide) rfl hi hk hdg (fun j hj => match j, hj with
  | 0, _ => rfl
  | 1, _ => rfl
  | 2, _ => rfl
  | 3, _ => rfl
  | 4, _ => rfl
  | 5, _ => rfl
  | 6, _ => rfl
  | 7, _ => rfl
  | 8, _ => rfl
  | 9, _ => rfl
  | 10, _ => rfl
  | 11, _ => rfl
  | 12, _ => rfl
  | 13, _ => rfl
  | 14, _ => rfl
  | 15, _ => rfl
  | 16, _ => rfl
  | 17, _ => rfl
  | 18, _ => rfl
  | 19, _ => rfl
  | 20, _ => rfl
  | 21, _ => rfl
  | 22, _ => rfl
  | 23, _ => rfl
  | 24, _ => rfl
  | 25, _ => rfl
  | 26, _ => rfl
  | 27, _ => rfl
  | 28, _ => rfl
  | 29, _ => rfl
  | 30, _ => rfl
  | 31, _ => rfl
  | 32, _ => rfl
  | j + 33, hj => absurd hj (by omega)) kk
theorem mL_pointY (C : CX G p s m args c cc nL RX8 33 q) (hW : WB G 33 q (eM G q τ ξ) s H locs) {i : Int32} (k : Nat) (hi : i.toInt = (k : Int)) (hk : k < 10) {v : Int32} (hv : τ.2.1 12 k = v) (hdg : decode cc pc = .ok (.iaload, 1)) (kk : W p l e R s m args below meth c H locs cells slots Q (F0 m (pc + 1) ls (.int v :: rest))) : W p l e R s m args below meth c H locs cells slots Q (F0 m pc ls (.int i :: .ref (q 21) :: rest)) := r_iald C hW (o := 21) (by decide) rfl hi hk hv hdg kk
theorem mS_pointY (C : CX G p s m args c cc nL RX8 33 q) (hW : WB G 33 q (eM G q τ ξ) s H locs) {i x : Int32} (k : Nat) (hi : i.toInt = (k : Int)) (hk : k < 10) (hdg : decode cc pc = .ok (.iastore, 1)) (kk : ∀ (H1 : Heap) (locs1 : List Loc), WB G 33 q (eM G q (sa τ 12 k x) ξ) s H1 locs1 → W p l e R s m args below meth c H1 locs1 cells slots Q (F0 m (pc + 1) ls rest)) : W p l e R s m args below meth c H locs cells slots Q (F0 m pc ls (.int x :: .int i :: .ref (q 21) :: rest)) := r_iast C hW (o := 21) (by decide) rfl hi hk hdg (fun j hj => match j, hj with
  | 0, _ => rfl
  | 1, _ => rfl
  | 2, _ => rfl
  | 3, _ => rfl
  | 4, _ => rfl
  | 5, _ => rfl
  | 6, _ => rfl
  | 7, _ => rfl
  | 8, _ => rfl
  | 9, _ => rfl
  | 10, _ => rfl
  | 11, _ => rfl
  | 12, _ => rfl
  | 13, _ => rfl
  | 14, _ => rfl
  | 15, _ => rfl
  | 16, _ => rfl
  | 17, _ => rfl
  | 18, _ => rfl
  | 19, _ => rfl
  | 20, _ => rfl
  | 21, _ => rfl
  | 22, _ => rfl
  | 23, _ => rfl
  | 24, _ => rfl
  | 25, _ => rfl
  | 26, _ => rfl
  | 27, _ => rfl
  | 28, _ => rfl
  | 29, _ => rfl
  | 30, _ => rfl
  | 31, _ => rfl
  | 32, _ => rfl
  | j + 33, hj => absurd hj (by omega)) kk
theorem mL_flux (C : CX G p s m args c cc nL RX8 33 q) (hW : WB G 33 q (eM G q τ ξ) s H locs) {i : Int32} (k : Nat) (hi : i.toInt = (k : Int)) (hk : k < 10) {v : Int32} (hv : τ.2.1 13 k = v) (hdg : decode cc pc = .ok (.iaload, 1)) (kk : W p l e R s m args below meth c H locs cells slots Q (F0 m (pc + 1) ls (.int v :: rest))) : W p l e R s m args below meth c H locs cells slots Q (F0 m pc ls (.int i :: .ref (q 22) :: rest)) := r_iald C hW (o := 22) (by decide) rfl hi hk hv hdg kk
theorem mS_flux (C : CX G p s m args c cc nL RX8 33 q) (hW : WB G 33 q (eM G q τ ξ) s H locs) {i x : Int32} (k : Nat) (hi : i.toInt = (k : Int)) (hk : k < 10) (hdg : decode cc pc = .ok (.iastore, 1)) (kk : ∀ (H1 : Heap) (locs1 : List Loc), WB G 33 q (eM G q (sa τ 13 k x) ξ) s H1 locs1 → W p l e R s m args below meth c H1 locs1 cells slots Q (F0 m (pc + 1) ls rest)) : W p l e R s m args below meth c H locs cells slots Q (F0 m pc ls (.int x :: .int i :: .ref (q 22) :: rest)) := r_iast C hW (o := 22) (by decide) rfl hi hk hdg (fun j hj => match j, hj with
  | 0, _ => rfl
  | 1, _ => rfl
  | 2, _ => rfl
  | 3, _ => rfl
  | 4, _ => rfl
  | 5, _ => rfl
  | 6, _ => rfl
  | 7, _ => rfl
  | 8, _ => rfl
  | 9, _ => rfl
  | 10, _ => rfl
  | 11, _ => rfl
  | 12, _ => rfl
  | 13, _ => rfl
  | 14, _ => rfl
  | 15, _ => rfl
  | 16, _ => rfl
  | 17, _ => rfl
  | 18, _ => rfl
  | 19, _ => rfl
  | 20, _ => rfl
  | 21, _ => rfl
  | 22, _ => rfl
  | 23, _ => rfl
  | 24, _ => rfl
  | 25, _ => rfl
  | 26, _ => rfl
  | 27, _ => rfl
  | 28, _ => rfl
  | 29, _ => rfl
  | 30, _ => rfl
  | 31, _ => rfl
  | 32, _ => rfl
  | j + 33, hj => absurd hj (by omega)) kk
theorem mL_partCell (C : CX G p s m args c cc nL RX8 33 q) (hW : WB G 33 q (eM G q τ ξ) s H locs) {i : Int32} (k : Nat) (hi : i.toInt = (k : Int)) (hk : k < 200) {v : Int32} (hv : τ.2.1 14 k = v) (hdg : decode cc pc = .ok (.iaload, 1)) (kk : W p l e R s m args below meth c H locs cells slots Q (F0 m (pc + 1) ls (.int v :: rest))) : W p l e R s m args below meth c H locs cells slots Q (F0 m pc ls (.int i :: .ref (q 23) :: rest)) := r_iald C hW (o := 23) (by decide) rfl hi hk hv hdg kk
theorem mS_partCell (C : CX G p s m args c cc nL RX8 33 q) (hW : WB G 33 q (eM G q τ ξ) s H locs) {i x : Int32} (k : Nat) (hi : i.toInt = (k : Int)) (hk : k < 200) (hdg : decode cc pc = .ok (.iastore, 1)) (kk : ∀ (H1 : Heap) (locs1 : List Loc), WB G 33 q (eM G q (sa τ 14 k x) ξ) s H1 locs1 → W p l e R s m args below meth c H1 locs1 cells slots Q (F0 m (pc + 1) ls rest)) : W p l e R s m args below meth c H locs cells slots Q (F0 m pc ls (.int x :: .int i :: .ref (q 23) :: rest)) := r_iast C hW (o := 23) (by decide) rfl hi hk hdg (fun j hj => match j, hj with
  | 0, _ => rfl
  | 1, _ => rfl
  | 2, _ => rfl
  | 3, _ => rfl
  | 4, _ => rfl
  | 5, _ => rfl
  | 6, _ => rfl
  | 7, _ => rfl
  | 8, _ => rfl
  | 9, _ => rfl
  | 10, _ => rfl
  | 11, _ => rfl
  | 12, _ => rfl
  | 13, _ => rfl
  | 14, _ => rfl
  | 15, _ => rfl
  | 16, _ => rfl
  | 17, _ => rfl
  | 18, _ => rfl
  | 19, _ => rfl
  | 20, _ => rfl
  | 21, _ => rfl
  | 22, _ => rfl
  | 23, _ => rfl
  | 24, _ => rfl
  | 25, _ => rfl
  | 26, _ => rfl
  | 27, _ => rfl
  | 28, _ => rfl
  | 29, _ => rfl
  | 30, _ => rfl
  | 31, _ => rfl
  | 32, _ => rfl
  | j + 33, hj => absurd hj (by omega)) kk
theorem mL_partA (C : CX G p s m args c cc nL RX8 33 q) (hW : WB G 33 q (eM G q τ ξ) s H locs) {i : Int32} (k : Nat) (hi : i.toInt = (k : Int)) (hk : k < 200) {v : Int64} (hv : τ.2.2 1 k = v) (hdg : decode cc pc = .ok (.laload, 1)) (kk : W p l e R s m args below meth c H locs cells slots Q (F0 m (pc + 1) ls (.long v :: rest))) : W p l e R s m args below meth c H locs cells slots Q (F0 m pc ls (.int i :: .ref (q 24) :: rest)) := r_lald C hW (o := 24) (by decide) rfl hi hk hv hdg kk
theorem mS_partA (C : CX G p s m args c cc nL RX8 33 q) (hW : WB G 33 q (eM G q τ ξ) s H locs) {i : Int32} {x : Int64} (k : Nat) (hi : i.toInt = (k : Int)) (hk : k < 200) (hdg : decode cc pc = .ok (.lastore, 1)) (kk : ∀ (H1 : Heap) (locs1 : List Loc), WB G 33 q (eM G q (sb τ 1 k x) ξ) s H1 locs1 → W p l e R s m args below meth c H1 locs1 cells slots Q (F0 m (pc + 1) ls rest)) : W p l e R s m args below meth c H locs cells slots Q (F0 m pc ls (.long x :: .int i :: .ref (q 24) :: rest)) := r_last C hW (o := 24) (by decide) rfl hi hk hdg (fun j hj => match j, hj with
  | 0, _ => rfl
  | 1, _ => rfl
  | 2, _ => rfl
  | 3, _ => rfl
  | 4, _ => rfl
  | 5, _ => rfl
  | 6, _ => rfl
  | 7, _ => rfl
  | 8, _ => rfl
  | 9, _ => rfl
  | 10, _ => rfl
  | 11, _ => rfl
  | 12, _ => rfl
  | 13, _ => rfl
  | 14, _ => rfl
  | 15, _ => rfl
  | 16, _ => rfl
  | 17, _ => rfl
  | 18, _ => rfl
  | 19, _ => rfl
  | 20, _ => rfl
  | 21, _ => rfl
  | 22, _ => rfl
  | 23, _ => rfl
  | 24, _ => rfl
  | 25, _ => rfl
  | 26, _ => rfl
  | 27, _ => rfl
  | 28, _ => rfl
  | 29, _ => rfl
  | 30, _ => rfl
  | 31, _ => rfl
  | 32, _ => rfl
  | j + 33, hj => absurd hj (by omega)) kk
theorem mL_rises (C : CX G p s m args c cc nL RX8 33 q) (hW : WB G 33 q (eM G q τ ξ) s H locs) {i : Int32} (k : Nat) (hi : i.toInt = (k : Int)) (hk : k < 8) {v : Int32} (hv : τ.2.1 15 k = v) (hdg : decode cc pc = .ok (.baload, 1)) (kk : W p l e R s m args below meth c H locs cells slots Q (F0 m (pc + 1) ls (.int v :: rest))) : W p l e R s m args below meth c H locs cells slots Q (F0 m pc ls (.int i :: .ref (q 25) :: rest)) := r_zald C hW (o := 25) (by decide) rfl hi hk hv hdg kk
theorem mS_rises (C : CX G p s m args c cc nL RX8 33 q) (hW : WB G 33 q (eM G q τ ξ) s H locs) {i x : Int32} (k : Nat) (hi : i.toInt = (k : Int)) (hk : k < 8) (hx1 : vp_nar .boolean x = x) (hdg : decode cc pc = .ok (.bastore, 1)) (kk : ∀ (H1 : Heap) (locs1 : List Loc), WB G 33 q (eM G q (sa τ 15 k x) ξ) s H1 locs1 → W p l e R s m args below meth c H1 locs1 cells slots Q (F0 m (pc + 1) ls rest)) : W p l e R s m args below meth c H locs cells slots Q (F0 m pc ls (.int x :: .int i :: .ref (q 25) :: rest)) := r_zast C hW (o := 25) (by decide) rfl hi hk hx1 hdg (fun j hj => match j, hj with
  | 0, _ => rfl
  | 1, _ => rfl
  | 2, _ => rfl
  | 3, _ => rfl
  | 4, _ => rfl
  | 5, _ => rfl
  | 6, _ => rfl
  | 7, _ => rfl
  | 8, _ => rfl
  | 9, _ => rfl
  | 10, _ => rfl
  | 11, _ => rfl
  | 12, _ => rfl
  | 13, _ => rfl
  | 14, _ => rfl
  | 15, _ => rfl
  | 16, _ => rfl
  | 17, _ => rfl
  | 18, _ => rfl
  | 19, _ => rfl
  | 20, _ => rfl
  | 21, _ => rfl
  | 22, _ => rfl
  | 23, _ => rfl
  | 24, _ => rfl
  | 25, _ => rfl
  | 26, _ => rfl
  | 27, _ => rfl
  | 28, _ => rfl
  | 29, _ => rfl
  | 30, _ => rfl
  | 31, _ => rfl
  | 32, _ => rfl
  | j + 33, hj => absurd hj (by omega)) kk
theorem mL_riseAt (C : CX G p s m args c cc nL RX8 33 q) (hW : WB G 33 q (eM G q τ ξ) s H locs) {i : Int32} (k : Nat) (hi : i.toInt = (k : Int)) (hk : k < 8) {v : Int32} (hv : τ.2.1 16 k = v) (hdg : decode cc pc = .ok (.iaload, 1)) (kk : W p l e R s m args below meth c H locs cells slots Q (F0 m (pc + 1) ls (.int v :: rest))) : W p l e R s m args below meth c H locs cells slots Q (F0 m pc ls (.int i :: .ref (q 26) :: rest)) := r_iald C hW (o := 26) (by decide) rfl hi hk hv hdg kk
theorem mS_riseAt (C : CX G p s m args c cc nL RX8 33 q) (hW : WB G 33 q (eM G q τ ξ) s H locs) {i x : Int32} (k : Nat) (hi : i.toInt = (k : Int)) (hk : k < 8) (hdg : decode cc pc = .ok (.iastore, 1)) (kk : ∀ (H1 : Heap) (locs1 : List Loc), WB G 33 q (eM G q (sa τ 16 k x) ξ) s H1 locs1 → W p l e R s m args below meth c H1 locs1 cells slots Q (F0 m (pc + 1) ls rest)) : W p l e R s m args below meth c H locs cells slots Q (F0 m pc ls (.int x :: .int i :: .ref (q 26) :: rest)) := r_iast C hW (o := 26) (by decide) rfl hi hk hdg (fun j hj => match j, hj with
  | 0, _ => rfl
  | 1, _ => rfl
  | 2, _ => rfl
  | 3, _ => rfl
  | 4, _ => rfl
  | 5, _ => rfl
  | 6, _ => rfl
  | 7, _ => rfl
  | 8, _ => rfl
  | 9, _ => rfl
  | 10, _ => rfl
  | 11, _ => rfl
  | 12, _ => rfl
  | 13, _ => rfl
  | 14, _ => rfl
  | 15, _ => rfl
  | 16, _ => rfl
  | 17, _ => rfl
  | 18, _ => rfl
  | 19, _ => rfl
  | 20, _ => rfl
  | 21, _ => rfl
  | 22, _ => rfl
  | 23, _ => rfl
  | 24, _ => rfl
  | 25, _ => rfl
  | 26, _ => rfl
  | 27, _ => rfl
  | 28, _ => rfl
  | 29, _ => rfl
  | 30, _ => rfl
  | 31, _ => rfl
  | 32, _ => rfl
  | j + 33, hj => absurd hj (by omega)) kk
theorem mL_setAt (C : CX G p s m args c cc nL RX8 33 q) (hW : WB G 33 q (eM G q τ ξ) s H locs) {i : Int32} (k : Nat) (hi : i.toInt = (k : Int)) (hk : k < 8) {v : Int32} (hv : τ.2.1 17 k = v) (hdg : decode cc pc = .ok (.iaload, 1)) (kk : W p l e R s m args below meth c H locs cells slots Q (F0 m (pc + 1) ls (.int v :: rest))) : W p l e R s m args below meth c H locs cells slots Q (F0 m pc ls (.int i :: .ref (q 27) :: rest)) := r_iald C hW (o := 27) (by decide) rfl hi hk hv hdg kk
theorem mS_setAt (C : CX G p s m args c cc nL RX8 33 q) (hW : WB G 33 q (eM G q τ ξ) s H locs) {i x : Int32} (k : Nat) (hi : i.toInt = (k : Int)) (hk : k < 8) (hdg : decode cc pc = .ok (.iastore, 1)) (kk : ∀ (H1 : Heap) (locs1 : List Loc), WB G 33 q (eM G q (sa τ 17 k x) ξ) s H1 locs1 → W p l e R s m args below meth c H1 locs1 cells slots Q (F0 m (pc + 1) ls rest)) : W p l e R s m args below meth c H locs cells slots Q (F0 m pc ls (.int x :: .int i :: .ref (q 27) :: rest)) := r_iast C hW (o := 27) (by decide) rfl hi hk hdg (fun j hj => match j, hj with
  | 0, _ => rfl
  | 1, _ => rfl
  | 2, _ => rfl
  | 3, _ => rfl
  | 4, _ => rfl
  | 5, _ => rfl
  | 6, _ => rfl
  | 7, _ => rfl
  | 8, _ => rfl
  | 9, _ => rfl
  | 10, _ => rfl
  | 11, _ => rfl
  | 12, _ => rfl
  | 13, _ => rfl
  | 14, _ => rfl
  | 15, _ => rfl
  | 16, _ => rfl
  | 17, _ => rfl
  | 18, _ => rfl
  | 19, _ => rfl
  | 20, _ => rfl
  | 21, _ => rfl
  | 22, _ => rfl
  | 23, _ => rfl
  | 24, _ => rfl
  | 25, _ => rfl
  | 26, _ => rfl
  | 27, _ => rfl
  | 28, _ => rfl
  | 29, _ => rfl
  | 30, _ => rfl
  | 31, _ => rfl
  | 32, _ => rfl
  | j + 33, hj => absurd hj (by omega)) kk
theorem mL_kinds (C : CX G p s m args c cc nL RX8 33 q) (hW : WB G 33 q (eM G q τ ξ) s H locs) {i : Int32} (k : Nat) (hi : i.toInt = (k : Int)) (hk : k < 60) {v : Int32} (hv : τ.2.1 18 k = v) (hdg : decode cc pc = .ok (.iaload, 1)) (kk : W p l e R s m args below meth c H locs cells slots Q (F0 m (pc + 1) ls (.int v :: rest))) : W p l e R s m args below meth c H locs cells slots Q (F0 m pc ls (.int i :: .ref (q 28) :: rest)) := r_iald C hW (o := 28) (by decide) rfl hi hk hv hdg kk
theorem mS_kinds (C : CX G p s m args c cc nL RX8 33 q) (hW : WB G 33 q (eM G q τ ξ) s H locs) {i x : Int32} (k : Nat) (hi : i.toInt = (k : Int)) (hk : k < 60) (hdg : decode cc pc = .ok (.iastore, 1)) (kk : ∀ (H1 : Heap) (locs1 : List Loc), WB G 33 q (eM G q (sa τ 18 k x) ξ) s H1 locs1 → W p l e R s m args below meth c H1 locs1 cells slots Q (F0 m (pc + 1) ls rest)) : W p l e R s m args below meth c H locs cells slots Q (F0 m pc ls (.int x :: .int i :: .ref (q 28) :: rest)) := r_iast C hW (o := 28) (by decide) rfl hi hk hdg (fun j hj => match j, hj with
  | 0, _ => rfl
  | 1, _ => rfl
  | 2, _ => rfl
  | 3, _ => rfl
  | 4, _ => rfl
  | 5, _ => rfl
  | 6, _ => rfl
  | 7, _ => rfl
  | 8, _ => rfl
  | 9, _ => rfl
  | 10, _ => rfl
  | 11, _ => rfl
  | 12, _ => rfl
  | 13, _ => rfl
  | 14, _ => rfl
  | 15, _ => rfl
  | 16, _ => rfl
  | 17, _ => rfl
  | 18, _ => rfl
  | 19, _ => rfl
  | 20, _ => rfl
  | 21, _ => rfl
  | 22, _ => rfl
  | 23, _ => rfl
  | 24, _ => rfl
  | 25, _ => rfl
  | 26, _ => rfl
  | 27, _ => rfl
  | 28, _ => rfl
  | 29, _ => rfl
  | 30, _ => rfl
  | 31, _ => rfl
  | 32, _ => rfl
  | j + 33, hj => absurd hj (by omega)) kk
theorem mL_first (C : CX G p s m args c cc nL RX8 33 q) (hW : WB G 33 q (eM G q τ ξ) s H locs) {i : Int32} (k : Nat) (hi : i.toInt = (k : Int)) (hk : k < 60) {v : Int32} (hv : τ.2.1 19 k = v) (hdg : decode cc pc = .ok (.iaload, 1)) (kk : W p l e R s m args below meth c H locs cells slots Q (F0 m (pc + 1) ls (.int v :: rest))) : W p l e R s m args below meth c H locs cells slots Q (F0 m pc ls (.int i :: .ref (q 29) :: rest)) := r_iald C hW (o := 29) (by decide) rfl hi hk hv hdg kk
theorem mS_first (C : CX G p s m args c cc nL RX8 33 q) (hW : WB G 33 q (eM G q τ ξ) s H locs) {i x : Int32} (k : Nat) (hi : i.toInt = (k : Int)) (hk : k < 60) (hdg : decode cc pc = .ok (.iastore, 1)) (kk : ∀ (H1 : Heap) (locs1 : List Loc), WB G 33 q (eM G q (sa τ 19 k x) ξ) s H1 locs1 → W p l e R s m args below meth c H1 locs1 cells slots Q (F0 m (pc + 1) ls rest)) : W p l e R s m args below meth c H locs cells slots Q (F0 m pc ls (.int x :: .int i :: .ref (q 29) :: rest)) := r_iast C hW (o := 29) (by decide) rfl hi hk hdg (fun j hj => match j, hj with
  | 0, _ => rfl
  | 1, _ => rfl
  | 2, _ => rfl
  | 3, _ => rfl
  | 4, _ => rfl
  | 5, _ => rfl
  | 6, _ => rfl
  | 7, _ => rfl
  | 8, _ => rfl
  | 9, _ => rfl
  | 10, _ => rfl
  | 11, _ => rfl
  | 12, _ => rfl
  | 13, _ => rfl
  | 14, _ => rfl
  | 15, _ => rfl
  | 16, _ => rfl
  | 17, _ => rfl
  | 18, _ => rfl
  | 19, _ => rfl
  | 20, _ => rfl
  | 21, _ => rfl
  | 22, _ => rfl
  | 23, _ => rfl
  | 24, _ => rfl
  | 25, _ => rfl
  | 26, _ => rfl
  | 27, _ => rfl
  | 28, _ => rfl
  | 29, _ => rfl
  | 30, _ => rfl
  | 31, _ => rfl
  | 32, _ => rfl
  | j + 33, hj => absurd hj (by omega)) kk
theorem mL_second (C : CX G p s m args c cc nL RX8 33 q) (hW : WB G 33 q (eM G q τ ξ) s H locs) {i : Int32} (k : Nat) (hi : i.toInt = (k : Int)) (hk : k < 60) {v : Int32} (hv : τ.2.1 20 k = v) (hdg : decode cc pc = .ok (.iaload, 1)) (kk : W p l e R s m args below meth c H locs cells slots Q (F0 m (pc + 1) ls (.int v :: rest))) : W p l e R s m args below meth c H locs cells slots Q (F0 m pc ls (.int i :: .ref (q 30) :: rest)) := r_iald C hW (o := 30) (by decide) rfl hi hk hv hdg kk
theorem mS_second (C : CX G p s m args c cc nL RX8 33 q) (hW : WB G 33 q (eM G q τ ξ) s H locs) {i x : Int32} (k : Nat) (hi : i.toInt = (k : Int)) (hk : k < 60) (hdg : decode cc pc = .ok (.iastore, 1)) (kk : ∀ (H1 : Heap) (locs1 : List Loc), WB G 33 q (eM G q (sa τ 20 k x) ξ) s H1 locs1 → W p l e R s m args below meth c H1 locs1 cells slots Q (F0 m (pc + 1) ls rest)) : W p l e R s m args below meth c H locs cells slots Q (F0 m pc ls (.int x :: .int i :: .ref (q 30) :: rest)) := r_iast C hW (o := 30) (by decide) rfl hi hk hdg (fun j hj => match j, hj with
  | 0, _ => rfl
  | 1, _ => rfl
  | 2, _ => rfl
  | 3, _ => rfl
  | 4, _ => rfl
  | 5, _ => rfl
  | 6, _ => rfl
  | 7, _ => rfl
  | 8, _ => rfl
  | 9, _ => rfl
  | 10, _ => rfl
  | 11, _ => rfl
  | 12, _ => rfl
  | 13, _ => rfl
  | 14, _ => rfl
  | 15, _ => rfl
  | 16, _ => rfl
  | 17, _ => rfl
  | 18, _ => rfl
  | 19, _ => rfl
  | 20, _ => rfl
  | 21, _ => rfl
  | 22, _ => rfl
  | 23, _ => rfl
  | 24, _ => rfl
  | 25, _ => rfl
  | 26, _ => rfl
  | 27, _ => rfl
  | 28, _ => rfl
  | 29, _ => rfl
  | 30, _ => rfl
  | 31, _ => rfl
  | 32, _ => rfl
  | j + 33, hj => absurd hj (by omega)) kk
theorem mL_left (C : CX G p s m args c cc nL RX8 33 q) (hW : WB G 33 q (eM G q τ ξ) s H locs) {i : Int32} (k : Nat) (hi : i.toInt = (k : Int)) (hk : k < 60) {v : Int32} (hv : ξ.2.1 2 k = v) (hdg : decode cc pc = .ok (.iaload, 1)) (kk : W p l e R s m args below meth c H locs cells slots Q (F0 m (pc + 1) ls (.int v :: rest))) : W p l e R s m args below meth c H locs cells slots Q (F0 m pc ls (.int i :: .ref (q 31) :: rest)) := r_iald C hW (o := 31) (by decide) rfl hi hk hv hdg kk
theorem mS_left (C : CX G p s m args c cc nL RX8 33 q) (hW : WB G 33 q (eM G q τ ξ) s H locs) {i x : Int32} (k : Nat) (hi : i.toInt = (k : Int)) (hk : k < 60) (hdg : decode cc pc = .ok (.iastore, 1)) (kk : ∀ (H1 : Heap) (locs1 : List Loc), WB G 33 q (eM G q τ (sa ξ 2 k x)) s H1 locs1 → W p l e R s m args below meth c H1 locs1 cells slots Q (F0 m (pc + 1) ls rest)) : W p l e R s m args below meth c H locs cells slots Q (F0 m pc ls (.int x :: .int i :: .ref (q 31) :: rest)) := r_iast C hW (o := 31) (by decide) rfl hi hk hdg (fun j hj => match j, hj with
  | 0, _ => rfl
  | 1, _ => rfl
  | 2, _ => rfl
  | 3, _ => rfl
  | 4, _ => rfl
  | 5, _ => rfl
  | 6, _ => rfl
  | 7, _ => rfl
  | 8, _ => rfl
  | 9, _ => rfl
  | 10, _ => rfl
  | 11, _ => rfl
  | 12, _ => rfl
  | 13, _ => rfl
  | 14, _ => rfl
  | 15, _ => rfl
  | 16, _ => rfl
  | 17, _ => rfl
  | 18, _ => rfl
  | 19, _ => rfl
  | 20, _ => rfl
  | 21, _ => rfl
  | 22, _ => rfl
  | 23, _ => rfl
  | 24, _ => rfl
  | 25, _ => rfl
  | 26, _ => rfl
  | 27, _ => rfl
  | 28, _ => rfl
  | 29, _ => rfl
  | 30, _ => rfl
  | 31, _ => rfl
  | 32, _ => rfl
  | j + 33, hj => absurd hj (by omega)) kk
theorem mL_watchedOf (C : CX G p s m args c cc nL RX8 33 q) (hW : WB G 33 q (eM G q τ ξ) s H locs) {i : Int32} (k : Nat) (hi : i.toInt = (k : Int)) (hk : k < 8) {v : Int32} (hv : τ.2.1 21 k = v) (hdg : decode cc pc = .ok (.iaload, 1)) (kk : W p l e R s m args below meth c H locs cells slots Q (F0 m (pc + 1) ls (.int v :: rest))) : W p l e R s m args below meth c H locs cells slots Q (F0 m pc ls (.int i :: .ref (q 32) :: rest)) := r_iald C hW (o := 32) (by decide) rfl hi hk hv hdg kk
theorem mS_watchedOf (C : CX G p s m args c cc nL RX8 33 q) (hW : WB G 33 q (eM G q τ ξ) s H locs) {i x : Int32} (k : Nat) (hi : i.toInt = (k : Int)) (hk : k < 8) (hdg : decode cc pc = .ok (.iastore, 1)) (kk : ∀ (H1 : Heap) (locs1 : List Loc), WB G 33 q (eM G q (sa τ 21 k x) ξ) s H1 locs1 → W p l e R s m args below meth c H1 locs1 cells slots Q (F0 m (pc + 1) ls rest)) : W p l e R s m args below meth c H locs cells slots Q (F0 m pc ls (.int x :: .int i :: .ref (q 32) :: rest)) := r_iast C hW (o := 32) (by decide) rfl hi hk hdg (fun j hj => match j, hj with
  | 0, _ => rfl
  | 1, _ => rfl
  | 2, _ => rfl
  | 3, _ => rfl
  | 4, _ => rfl
  | 5, _ => rfl
  | 6, _ => rfl
  | 7, _ => rfl
  | 8, _ => rfl
  | 9, _ => rfl
  | 10, _ => rfl
  | 11, _ => rfl
  | 12, _ => rfl
  | 13, _ => rfl
  | 14, _ => rfl
  | 15, _ => rfl
  | 16, _ => rfl
  | 17, _ => rfl
  | 18, _ => rfl
  | 19, _ => rfl
  | 20, _ => rfl
  | 21, _ => rfl
  | 22, _ => rfl
  | 23, _ => rfl
  | 24, _ => rfl
  | 25, _ => rfl
  | 26, _ => rfl
  | 27, _ => rfl
  | 28, _ => rfl
  | 29, _ => rfl
  | 30, _ => rfl
  | 31, _ => rfl
  | 32, _ => rfl
  | j + 33, hj => absurd hj (by omega)) kk
end MROWS
end
section
/-! numbers by their values, and a method's body with its end named -/
theorem ti_bm {a : Int} (h1 : -2147483648 ≤ a) (h2 : a < 2147483648) : a.bmod (2 ^ 32) = a := by
  rw [Int.bmod_def]
  split <;> omega
theorem ti_add {x y : Int32} {a b : Int} (hx : x.toInt = a) (hy : y.toInt = b) (h1 : -2147483648 ≤ a + b) (h2 : a + b < 2147483648) : (x + y).toInt = a + b := by
  rw [Int32.toInt_add, hx, hy, ti_bm h1 h2]
theorem ti_sub {x y : Int32} {a b : Int} (hx : x.toInt = a) (hy : y.toInt = b) (h1 : -2147483648 ≤ a - b) (h2 : a - b < 2147483648) : (x - y).toInt = a - b := by
  rw [Int32.toInt_sub, hx, hy, ti_bm h1 h2]
theorem ti_mul {x y : Int32} {a b : Int} (hx : x.toInt = a) (hy : y.toInt = b) (h1 : -2147483648 ≤ a * b) (h2 : a * b < 2147483648) : (x * y).toInt = a * b := by
  rw [Int32.toInt_mul, hx, hy, ti_bm h1 h2]
theorem ti_neg {x : Int32} {a : Int} (hx : x.toInt = a) (h1 : -2147483648 ≤ -a) (h2 : -a < 2147483648) : (-x).toInt = -a := by
  rw [Int32.toInt_neg, hx, ti_bm h1 h2]
theorem ti_div {x y : Int32} {a b : Int} (hx : x.toInt = a) (hy : y.toInt = b) (h1 : 0 ≤ a) (h2 : 0 < b) : (x / y).toInt = a / b := by
  have hb : a < 2147483648 := by rw [← hx]; exact Int32.toInt_lt x
  have h3 : a / b ≤ a := Int.ediv_le_self _ h1
  have h4 : 0 ≤ a / b := Int.ediv_nonneg h1 (by omega)
  rw [Int32.toInt_div, hx, hy, Int.tdiv_eq_ediv_of_nonneg h1, ti_bm (by omega) (by omega)]
theorem ti_rem {x y : Int32} {a b : Int} (hx : x.toInt = a) (hy : y.toInt = b) (h1 : 0 ≤ a) (h2 : 0 < b) : (x - x / y * y).toInt = a % b := by
  have hb : a < 2147483648 := by rw [← hx]; exact Int32.toInt_lt x
  have h4 : 0 ≤ a / b := Int.ediv_nonneg h1 (by omega)
  have h5 : a / b * b ≤ a := Int.ediv_mul_le a (by omega)
  have h6 : 0 ≤ a / b * b := Int.mul_nonneg h4 (by omega)
  have e : a - a / b * b = a % b := by rw [Int.emod_def, Int.mul_comm]
  have := ti_sub hx (ti_mul (ti_div hx hy h1 h2) hy (by omega) (by omega)) (by omega) (by omega)
  rw [this, e]
theorem ti_i2l {x : Int32} {a : Int} (hx : x.toInt = a) : x.toInt64.toInt = a := by rw [Int32.toInt_toInt64, hx]
theorem tl_bm {a : Int} (h1 : -9223372036854775808 ≤ a) (h2 : a < 9223372036854775808) : a.bmod (2 ^ 64) = a := by
  rw [Int.bmod_def]
  split <;> omega
theorem tl_add {x y : Int64} {a b : Int} (hx : x.toInt = a) (hy : y.toInt = b) (h1 : -9223372036854775808 ≤ a + b) (h2 : a + b < 9223372036854775808) : (x + y).toInt = a + b := by
  rw [Int64.toInt_add, hx, hy, tl_bm h1 h2]
theorem tl_sub {x y : Int64} {a b : Int} (hx : x.toInt = a) (hy : y.toInt = b) (h1 : -9223372036854775808 ≤ a - b) (h2 : a - b < 9223372036854775808) : (x - y).toInt = a - b := by
  rw [Int64.toInt_sub, hx, hy, tl_bm h1 h2]
theorem tl_mul {x y : Int64} {a b : Int} (hx : x.toInt = a) (hy : y.toInt = b) (h1 : -9223372036854775808 ≤ a * b) (h2 : a * b < 9223372036854775808) : (x * y).toInt = a * b := by
  rw [Int64.toInt_mul, hx, hy, tl_bm h1 h2]
theorem tl_neg {x : Int64} {a : Int} (hx : x.toInt = a) (h1 : -9223372036854775808 ≤ -a) (h2 : -a < 9223372036854775808) : (-x).toInt = -a := by
  rw [Int64.toInt_neg, hx, tl_bm h1 h2]
theorem tc_lt {x y : Int32} {a b : Int} (hx : x.toInt = a) (hy : y.toInt = b) : x < y ↔ a < b := by rw [← hx, ← hy]; exact Int32.lt_iff_toInt_lt
theorem tc_le {x y : Int32} {a b : Int} (hx : x.toInt = a) (hy : y.toInt = b) : x ≤ y ↔ a ≤ b := by rw [← hx, ← hy]; exact Int32.le_iff_toInt_le
theorem tc_eq {x y : Int32} {a b : Int} (hx : x.toInt = a) (hy : y.toInt = b) : x = y ↔ a = b := by rw [← hx, ← hy]; exact Int32.toInt_inj.symm
theorem tn_lt {x y : Int32} {a b : Int} (hx : x.toInt = a) (hy : y.toInt = b) : ¬ x < y ↔ ¬ a < b := not_congr (tc_lt hx hy)
theorem tn_le {x y : Int32} {a b : Int} (hx : x.toInt = a) (hy : y.toInt = b) : ¬ x ≤ y ↔ ¬ a ≤ b := not_congr (tc_le hx hy)
theorem tn_eq {x y : Int32} {a b : Int} (hx : x.toInt = a) (hy : y.toInt = b) : ¬ x = y ↔ ¬ a = b := not_congr (tc_eq hx hy)
theorem lc_lt {x y : Int64} {a b : Int} (hx : x.toInt = a) (hy : y.toInt = b) : lg_cmp x y < 0 ↔ a < b := by rw [lg_cmp_lt, ← hx, ← hy]; exact Int64.lt_iff_toInt_lt
theorem lc_le {x y : Int64} {a b : Int} (hx : x.toInt = a) (hy : y.toInt = b) : lg_cmp x y ≤ 0 ↔ a ≤ b := by rw [lg_cmp_le, ← hx, ← hy]; exact Int64.le_iff_toInt_le
theorem lc_ge {x y : Int64} {a b : Int} (hx : x.toInt = a) (hy : y.toInt = b) : 0 ≤ lg_cmp x y ↔ b ≤ a := by rw [lg_cmp_ge, ← hx, ← hy]; exact Int64.le_iff_toInt_le
theorem lc_gt {x y : Int64} {a b : Int} (hx : x.toInt = a) (hy : y.toInt = b) : 0 < lg_cmp x y ↔ b < a := by rw [lg_cmp_gt, ← hx, ← hy]; exact Int64.lt_iff_toInt_lt
theorem lc_eq {x y : Int64} {a b : Int} (hx : x.toInt = a) (hy : y.toInt = b) : lg_cmp x y = 0 ↔ a = b := by rw [lg_cmp_eq, ← hx, ← hy]; exact Int64.toInt_inj.symm
theorem ln_lt {x y : Int64} {a b : Int} (hx : x.toInt = a) (hy : y.toInt = b) : ¬ lg_cmp x y < 0 ↔ ¬ a < b := not_congr (lc_lt hx hy)
theorem ln_le {x y : Int64} {a b : Int} (hx : x.toInt = a) (hy : y.toInt = b) : ¬ lg_cmp x y ≤ 0 ↔ ¬ a ≤ b := not_congr (lc_le hx hy)
theorem ln_ge {x y : Int64} {a b : Int} (hx : x.toInt = a) (hy : y.toInt = b) : ¬ 0 ≤ lg_cmp x y ↔ ¬ b ≤ a := not_congr (lc_ge hx hy)
theorem ln_gt {x y : Int64} {a b : Int} (hx : x.toInt = a) (hy : y.toInt = b) : ¬ 0 < lg_cmp x y ↔ ¬ b < a := not_congr (lc_gt hx hy)
theorem ln_eq {x y : Int64} {a b : Int} (hx : x.toInt = a) (hy : y.toInt = b) : ¬ lg_cmp x y = 0 ↔ ¬ a = b := not_congr (lc_eq hx hy)
abbrev rmA (f k : Nat) : Room := { frames := f, cells := 0, slots := 0, locals := k }
theorem nameQ {p : Program} {l : Launch} {e : Env} {R : Room} {s : State} {m : MethodId} {args : Array Value} {below : List Frame} {meth : Method} {c : Code} {H : Heap} {locs : List Loc} {cells slots : Nat} {Q : State → Prop} {g : JFrame} (k : ∀ QQ : State → Prop, QQ = Q → W p l e R s m args below meth c H locs cells slots QQ g) : W p l e R s m args below meth c H locs cells slots Q g := k Q rfl
theorem Met_B {l : Launch} {G : GG} {y : MethodName} {cc : ByteArray} {nL sz n : Nat} {ret : Option FieldType} {rm : Room} {av : List Value} {q : Nat → Nat} {E : Nat → va_E} {Qc : Array Value → State → Outcome → State → Prop} {own : String} (hown : y.cls = own) (hy : plainName y.cls = true) (hL : (lg_sl av).length ≤ nL)
    (body : ∀ (p : Program) (e : Env) (s : State) (m : MethodId) (args : Array Value) (below : List Frame) (meth : Method) (c : Code) (ls : Array Slot), s.heap.size = sz → CX G p s m args c cc nL own n q → WB G n q E s s.heap [] → meth.sig.returnType = ret → meth.locks = false → lv_has ls nL (lv_args 0 av) → ∀ QQ : State → Prop, QQ = MQ below Qc args s 0 0 (FA n q sz) →
      W p l e rm s m args below meth c s.heap [] 0 0 QQ (F0 m 0 ls [])) : Met l y (WSb y cc nL ret) rm (va_Pc av (PW G n q sz E)) Qc 0 0 (FA n q sz) :=
  Met_W hy hL (fun p e s m below meth c ls h1 h2 h3 h4 h5 h6 => body p e s m av.toArray below meth c ls h1 (by rw [← hown]; exact h2) h3 h4 h5 h6 _ rfl)
end
section
/-! the reference's small methods -/
theorem sg_sg {τ : ST} {k : Nat} {a b : Int32} : sg (sg τ k a) k b = sg τ k b := by
  unfold sg
  congr 1
  funext j
  simp only [upd]
  split <;> rfl
theorem st_g {a b : ST} (h : ∀ j, a.1 j = b.1 j) (h2 : a.2 = b.2) : a = b := Prod.ext (funext h) h2
def smp (τ : ST) (d i : Nat) : Prop := ¬ (τ.2.1 4 d).toInt = 0 ∧ (i : Int) < (τ.2.1 6 d).toInt ∧ ∀ f : Nat, (f : Int) < (τ.1 2).toInt → ¬ ((τ.2.1 8 f).toInt = d ∧ (τ.2.1 9 f).toInt ≤ i ∧ (i : Int) ≤ (τ.2.1 10 f).toInt)
def smpV (τ : ST) (d i : Nat) : Int64 := if 500 < (τ.2.1 7 (100 * d + i)).toInt then 500 else if (τ.2.1 7 (100 * d + i)).toInt < -500 then -500 else (τ.2.1 7 (100 * d + i)).toInt64
def sgn (v : Int64) : Int32 := if 0 < v.toInt then 1 else if v.toInt < 0 then -1 else 0
def amt (v : Int64) : Int64 := if v.toInt < 0 then -v else v
theorem and15 (x : Int32) : 0 ≤ (x &&& 15).toInt ∧ (x &&& 15).toInt < 16 := by
  obtain ⟨j, hj, e⟩ := pk_andE x (m := 15) 4 (by decide)
  rw [e, nI_toInt (by omega)]; omega
set_option maxHeartbeats 4000000 in
set_option maxRecDepth 100000 in
theorem c_X8_in (l : Launch) (G : GG) (q : Nat → Nat) (sz : Nat) (τ ξ : ST) (v : Int64) (lo : Int64) (hi : Int64) (vZ : Int) (loZ : Int) (hiZ : Int) (hv : v.toInt = vZ) (hlo : lo.toInt = loZ) (hhi : hi.toInt = hiZ) : Met l yX8_in (WSb yX8_in cX8_in 6 (some .boolean)) (rmA 0 0) (va_Pc [.long v, .long lo, .long hi] (PW G 33 q sz (eM G q τ ξ))) (va_Qi (fun (r : Int32) (u : (ST × ST)) => (r = 1 ∧ u = (τ, ξ) ∧ (loZ ≤ vZ) ∧ (vZ ≤ hiZ)) ∨ (r = 0 ∧ u = (τ, ξ) ∧ (¬ (loZ ≤ vZ ∧ vZ ≤ hiZ)))) (fun u => BW G 33 q (eM G q u.1 u.2)) (FA 33 q sz)) 0 0 (FA 33 q sz) := by
  refine Met_B (own := RX8) rfl (by decide) (Nat.le_of_ble_eq_true rfl) (fun p e s m args below meth c ls hsz C hW hr hk hl QQ hQ => ?_)
  subst hsz
  have hl : lv_has ls 6 [(0, .long v), (2, .long lo), (4, .long hi)] := hl
  refine lv_lload_n C.1 C.2.1 dX8_in_0 rfl (lv_at hl 0 rfl) ?_
  refine lv_lload_n C.1 C.2.1 dX8_in_1 rfl (lv_at hl 1 rfl) ?_
  refine W.lcmp C.1 C.2.1 dX8_in_2 ?_
  refine lv_if_lt C.1 C.2.1 (tgt := 17) dX8_in_3 (by decide) (fun c_1 => ?_) (fun c_1 => ?_)
  · skip
    have k_1 := (lc_lt hv hlo).mp c_1
    refine lv_iconst C.1 C.2.1 (v := 0) dX8_in_17 (by decide) ?_
    subst hQ
    exact r_zret (τ, ξ) C hW hr rfl hk dX8_in_18 (by first | exact Or.inl ⟨rfl, rfl, (by omega), (by omega)⟩ | exact Or.inr (⟨rfl, rfl, (by omega)⟩))
  · skip
    have k_1 := (ln_lt hv hlo).mp c_1
    refine lv_lload_n C.1 C.2.1 dX8_in_6 rfl (lv_at hl 0 rfl) ?_
    refine lv_lload C.1 C.2.1 dX8_in_7 (lv_at hl 2 rfl) ?_
    refine W.lcmp C.1 C.2.1 dX8_in_9 ?_
    refine lv_if_gt C.1 C.2.1 (tgt := 17) dX8_in_10 (by decide) (fun c_2 => ?_) (fun c_2 => ?_)
    · skip
      have k_2 := (lc_gt hv hhi).mp c_2
      refine lv_iconst C.1 C.2.1 (v := 0) dX8_in_17 (by decide) ?_
      subst hQ
      exact r_zret (τ, ξ) C hW hr rfl hk dX8_in_18 (by first | exact Or.inl ⟨rfl, rfl, (by omega), (by omega)⟩ | exact Or.inr (⟨rfl, rfl, (by omega)⟩))
    · skip
      have k_2 := (ln_gt hv hhi).mp c_2
      refine lv_iconst C.1 C.2.1 (v := 1) dX8_in_13 (by decide) ?_
      refine lv_goto C.1 C.2.1 (tgt := 18) dX8_in_14 (by decide) ?_
      subst hQ
      exact r_zret (τ, ξ) C hW hr rfl hk dX8_in_18 (by first | exact Or.inl ⟨rfl, rfl, (by omega), (by omega)⟩ | exact Or.inr (⟨rfl, rfl, (by omega)⟩))
set_option maxHeartbeats 4000000 in
set_option maxRecDepth 100000 in
theorem c_X8_meets (l : Launch) (G : GG) (q : Nat → Nat) (sz : Nat) (τ ξ : ST) (x1 : Int32) : Met l yX8_meets (WSb yX8_meets cX8_meets 2 (some .int)) (rmA 0 0) (va_Pc [.ref (q 0), .int x1] (PW G 33 q sz (eM G q τ ξ))) (va_Qi (fun (r : Int32) (u : (ST × ST)) => r = -10 - x1 ∧ u = ((sg τ 1 x1), ξ)) (fun u => BW G 33 q (eM G q u.1 u.2)) (FA 33 q sz)) 0 0 (FA 33 q sz) := by
  refine Met_B (own := RX8) rfl (by decide) (Nat.le_of_ble_eq_true rfl) (fun p e s m args below meth c ls hsz C hW hr hk hl QQ hQ => ?_)
  subst hsz
  have hl : lv_has ls 2 [(0, .ref (q 0)), (1, .int x1)] := hl
  refine lv_aload_n C.1 C.2.1 dX8_meets_0 rfl (lv_at hl 0 rfl) ?_
  refine lv_iload_n C.1 C.2.1 dX8_meets_1 rfl (lv_at hl 1 rfl) ?_
  refine mP_finding C hW dX8_meets_2 (fun H locs hW => ?_)
  refine lv_bipush C.1 C.2.1 (v := (-10)) dX8_meets_5 (by decide) ?_
  refine lv_iload_n C.1 C.2.1 dX8_meets_7 rfl (lv_at hl 1 rfl) ?_
  refine lv_isub C.1 C.2.1 dX8_meets_8 ?_
  subst hQ
  exact r_iret ((sg τ 1 x1), ξ) C hW hr hk dX8_meets_9 (⟨rfl, rfl⟩)
set_option maxHeartbeats 4000000 in
set_option maxRecDepth 100000 in
theorem c_X8_isDish (l : Launch) (G : GG) (q : Nat → Nat) (sz : Nat) (τ ξ : ST) (d : Int32) (h_d : 0 ≤ (τ.1 0).toInt ∧ (τ.1 0).toInt ≤ 6) : Met l yX8_isDish (WSb yX8_isDish cX8_isDish 2 (some .boolean)) (rmA 1 25) (va_Pc [.ref (q 0), .int d] (PW G 33 q sz (eM G q τ ξ))) (va_Qi (fun (r : Int32) (u : (ST × ST)) => (r = 1 ∧ u = (τ, ξ) ∧ (0 ≤ d.toInt) ∧ (d.toInt < (τ.1 0).toInt)) ∨ (r = 0 ∧ u = (τ, ξ) ∧ (¬ (0 ≤ d.toInt ∧ d.toInt < (τ.1 0).toInt)))) (fun u => BW G 33 q (eM G q u.1 u.2)) (FA 33 q sz)) 0 0 (FA 33 q sz) := by
  refine Met_B (own := RX8) rfl (by decide) (Nat.le_of_ble_eq_true rfl) (fun p e s m args below meth c ls hsz C hW hr hk hl QQ hQ => ?_)
  subst hsz
  have hl : lv_has ls 2 [(0, .ref (q 0)), (1, .int d)] := hl
  refine lv_iload_n C.1 C.2.1 dX8_isDish_0 rfl (lv_at hl 1 rfl) ?_
  refine lv_i2l C.1 C.2.1 dX8_isDish_1 rfl ?_
  refine lv_lconst C.1 C.2.1 (v := 0) dX8_isDish_2 (by decide) ?_
  refine lv_aload_n C.1 C.2.1 dX8_isDish_3 rfl (lv_at hl 0 rfl) ?_
  refine mG_dishes C hW (v := (τ.1 0)) rfl dX8_isDish_4 ?_
  refine lv_iconst C.1 C.2.1 (v := 1) dX8_isDish_7 (by decide) ?_
  refine lv_isub C.1 C.2.1 dX8_isDish_8 ?_
  refine lv_i2l C.1 C.2.1 dX8_isDish_9 rfl ?_
  refine go_i hW (run_S (As := [.long ((d).toInt64), .long 0, .long (((τ.1 0) - 1).toInt64)]) (rest := []) C hW (c_X8_in l G q _ τ ξ ((d).toInt64) 0 (((τ.1 0) - 1).toInt64) ((d).toInt) 0 (((τ.1 0)).toInt - 1) (ti_i2l (rfl : (d).toInt = (d).toInt)) (show (0 : Int64).toInt = 0 from by decide) (ti_i2l (ti_sub (rfl : ((τ.1 0)).toInt = ((τ.1 0)).toInt) (show (1 : Int32).toInt = 1 from by decide) (by omega) (by omega)))) (cw_S 3 C bL_X8_121 bS_X8_in bN_X8 bC_X8_in ⟨rfl, rfl⟩ (by decide +kernel) ⟨Nat.le_of_ble_eq_true rfl, Nat.le_of_ble_eq_true rfl⟩) rfl hl.1 rfl (by decide) dX8_isDish_10 ⟨Nat.le_refl _, Nat.le_refl _⟩) (fun r_1 u_1 H locs hp_1 hW => ?_)
  rcases hp_1 with ⟨rfl, rfl, k_1_0, k_1_1⟩ | ⟨rfl, rfl, k_1⟩
  · skip
    have hW : WB G 33 q (eM G q τ ξ) s H locs := hW
    subst hQ
    exact r_zret (τ, ξ) C hW hr rfl hk dX8_isDish_13 (by first | exact Or.inl ⟨rfl, rfl, (by omega), (by omega)⟩ | exact Or.inr (⟨rfl, rfl, (by omega)⟩))
  · skip
    have hW : WB G 33 q (eM G q τ ξ) s H locs := hW
    subst hQ
    exact r_zret (τ, ξ) C hW hr rfl hk dX8_isDish_13 (by first | exact Or.inl ⟨rfl, rfl, (by omega), (by omega)⟩ | exact Or.inr (⟨rfl, rfl, (by omega)⟩))
set_option maxHeartbeats 4000000 in
set_option maxRecDepth 100000 in
theorem c_X8_lacks (l : Launch) (G : GG) (q : Nat → Nat) (sz : Nat) (τ ξ : ST) (d : Int32) (f : Int32) (i : Int32) (dN : Nat) (hd : d.toInt = (dN : Int)) (hdN : dN < 6) (h_s : 0 ≤ (τ.2.1 6 dN).toInt ∧ (τ.2.1 6 dN).toInt ≤ 100) : Met l yX8_lacks (WSb yX8_lacks cX8_lacks 4 (some .int)) (rmA 1 25) (va_Pc [.ref (q 0), .int d, .int f, .int i] (PW G 33 q sz (eM G q τ ξ))) (va_Qi (fun (r : Int32) (u : (ST × ST)) => (r = 1 ∧ u = (τ, ξ) ∧ ((τ.2.1 4 dN).toInt = 0)) ∨ (r = 3 ∧ u = (τ, ξ) ∧ (¬ (τ.2.1 4 dN).toInt = 0) ∧ (¬ (τ.2.1 5 dN).toInt = f.toInt)) ∨ (r = 0 ∧ u = (τ, ξ) ∧ (¬ (τ.2.1 4 dN).toInt = 0) ∧ ((τ.2.1 5 dN).toInt = f.toInt) ∧ (0 ≤ i.toInt) ∧ (i.toInt < (τ.2.1 6 dN).toInt)) ∨ (r = 2 ∧ u = (τ, ξ) ∧ (¬ (τ.2.1 4 dN).toInt = 0) ∧ ((τ.2.1 5 dN).toInt = f.toInt) ∧ (¬ (0 ≤ i.toInt ∧ i.toInt < (τ.2.1 6 dN).toInt)))) (fun u => BW G 33 q (eM G q u.1 u.2)) (FA 33 q sz)) 0 0 (FA 33 q sz) := by
  refine Met_B (own := RX8) rfl (by decide) (Nat.le_of_ble_eq_true rfl) (fun p e s m args below meth c ls hsz C hW hr hk hl QQ hQ => ?_)
  subst hsz
  have hl : lv_has ls 4 [(0, .ref (q 0)), (1, .int d), (2, .int f), (3, .int i)] := hl
  refine lv_aload_n C.1 C.2.1 dX8_lacks_0 rfl (lv_at hl 0 rfl) ?_
  refine mG_isThere C hW dX8_lacks_1 ?_
  refine lv_iload_n C.1 C.2.1 dX8_lacks_4 rfl (lv_at hl 1 rfl) ?_
  refine mL_isThere C hW dN (hd.trans (by omega)) (by omega) (v := (τ.2.1 4 dN)) rfl dX8_lacks_5 ?_
  refine lv_if_ne C.1 C.2.1 (tgt := 13) dX8_lacks_6 (by decide) (fun c_1 => ?_) (fun c_1 => ?_)
  · skip
    have k_1 := (tn_eq (rfl : ((τ.2.1 4 dN)).toInt = ((τ.2.1 4 dN)).toInt) (show (0 : Int32).toInt = 0 from by decide)).mp c_1
    refine lv_aload_n C.1 C.2.1 dX8_lacks_13 rfl (lv_at hl 0 rfl) ?_
    refine mG_forms C hW dX8_lacks_14 ?_
    refine lv_iload_n C.1 C.2.1 dX8_lacks_17 rfl (lv_at hl 1 rfl) ?_
    refine mL_forms C hW dN (hd.trans (by omega)) (by omega) (v := (τ.2.1 5 dN)) rfl dX8_lacks_18 ?_
    refine lv_iload_n C.1 C.2.1 dX8_lacks_19 rfl (lv_at hl 2 rfl) ?_
    refine lv_icmp_eq C.1 C.2.1 (tgt := 27) dX8_lacks_20 (by decide) (fun c_2 => ?_) (fun c_2 => ?_)
    · skip
      have k_2 := (tc_eq (rfl : ((τ.2.1 5 dN)).toInt = ((τ.2.1 5 dN)).toInt) (rfl : (f).toInt = (f).toInt)).mp c_2
      refine lv_iload_n C.1 C.2.1 dX8_lacks_27 rfl (lv_at hl 3 rfl) ?_
      refine lv_i2l C.1 C.2.1 dX8_lacks_28 rfl ?_
      refine lv_lconst C.1 C.2.1 (v := 0) dX8_lacks_29 (by decide) ?_
      refine lv_aload_n C.1 C.2.1 dX8_lacks_30 rfl (lv_at hl 0 rfl) ?_
      refine mG_sizes C hW dX8_lacks_31 ?_
      refine lv_iload_n C.1 C.2.1 dX8_lacks_34 rfl (lv_at hl 1 rfl) ?_
      refine mL_sizes C hW dN (hd.trans (by omega)) (by omega) (v := (τ.2.1 6 dN)) rfl dX8_lacks_35 ?_
      refine lv_iconst C.1 C.2.1 (v := 1) dX8_lacks_36 (by decide) ?_
      refine lv_isub C.1 C.2.1 dX8_lacks_37 ?_
      refine lv_i2l C.1 C.2.1 dX8_lacks_38 rfl ?_
      refine go_i hW (run_S (As := [.long ((i).toInt64), .long 0, .long (((τ.2.1 6 dN) - 1).toInt64)]) (rest := []) C hW (c_X8_in l G q _ τ ξ ((i).toInt64) 0 (((τ.2.1 6 dN) - 1).toInt64) ((i).toInt) 0 (((τ.2.1 6 dN)).toInt - 1) (ti_i2l (rfl : (i).toInt = (i).toInt)) (show (0 : Int64).toInt = 0 from by decide) (ti_i2l (ti_sub (rfl : ((τ.2.1 6 dN)).toInt = ((τ.2.1 6 dN)).toInt) (show (1 : Int32).toInt = 1 from by decide) (by omega) (by omega)))) (cw_S 3 C bL_X8_121 bS_X8_in bN_X8 bC_X8_in ⟨rfl, rfl⟩ (by decide +kernel) ⟨Nat.le_of_ble_eq_true rfl, Nat.le_of_ble_eq_true rfl⟩) rfl hl.1 rfl (by decide) dX8_lacks_39 ⟨Nat.le_refl _, Nat.le_refl _⟩) (fun r_3 u_3 H locs hp_3 hW => ?_)
      rcases hp_3 with ⟨rfl, rfl, k_3_0, k_3_1⟩ | ⟨rfl, rfl, k_3⟩
      · skip
        have hW : WB G 33 q (eM G q τ ξ) s H locs := hW
        refine lv_if_eq C.1 C.2.1 (tgt := 49) dX8_lacks_42 (by decide) (fun c => absurd c (by decide)) (fun _ => ?_)
        refine lv_iconst C.1 C.2.1 (v := 0) dX8_lacks_45 (by decide) ?_
        refine lv_goto C.1 C.2.1 (tgt := 50) dX8_lacks_46 (by decide) ?_
        subst hQ
        exact r_iret (τ, ξ) C hW hr hk dX8_lacks_50 (by first | exact Or.inl ⟨rfl, rfl, (by omega)⟩ | exact Or.inr (Or.inl ⟨rfl, rfl, (by omega), (by omega)⟩) | exact Or.inr (Or.inr (Or.inl ⟨rfl, rfl, (by omega), (by omega), (by omega), (by omega)⟩)) | exact Or.inr (Or.inr (Or.inr (⟨rfl, rfl, (by omega), (by omega), (by omega)⟩))))
      · skip
        have hW : WB G 33 q (eM G q τ ξ) s H locs := hW
        refine lv_if_eq C.1 C.2.1 (tgt := 49) dX8_lacks_42 (by decide) (fun _ => ?_) (fun c => absurd c (by decide))
        refine lv_iconst C.1 C.2.1 (v := 2) dX8_lacks_49 (by decide) ?_
        subst hQ
        exact r_iret (τ, ξ) C hW hr hk dX8_lacks_50 (by first | exact Or.inl ⟨rfl, rfl, (by omega)⟩ | exact Or.inr (Or.inl ⟨rfl, rfl, (by omega), (by omega)⟩) | exact Or.inr (Or.inr (Or.inl ⟨rfl, rfl, (by omega), (by omega), (by omega), (by omega)⟩)) | exact Or.inr (Or.inr (Or.inr (⟨rfl, rfl, (by omega), (by omega), (by omega)⟩))))
    · skip
      have k_2 := (tn_eq (rfl : ((τ.2.1 5 dN)).toInt = ((τ.2.1 5 dN)).toInt) (rfl : (f).toInt = (f).toInt)).mp c_2
      refine lv_iconst C.1 C.2.1 (v := 3) dX8_lacks_23 (by decide) ?_
      refine lv_goto C.1 C.2.1 (tgt := 50) dX8_lacks_24 (by decide) ?_
      subst hQ
      exact r_iret (τ, ξ) C hW hr hk dX8_lacks_50 (by first | exact Or.inl ⟨rfl, rfl, (by omega)⟩ | exact Or.inr (Or.inl ⟨rfl, rfl, (by omega), (by omega)⟩) | exact Or.inr (Or.inr (Or.inl ⟨rfl, rfl, (by omega), (by omega), (by omega), (by omega)⟩)) | exact Or.inr (Or.inr (Or.inr (⟨rfl, rfl, (by omega), (by omega), (by omega)⟩))))
  · skip
    have k_1 := (tc_eq (rfl : ((τ.2.1 4 dN)).toInt = ((τ.2.1 4 dN)).toInt) (show (0 : Int32).toInt = 0 from by decide)).mp c_1
    refine lv_iconst C.1 C.2.1 (v := 1) dX8_lacks_9 (by decide) ?_
    refine lv_goto C.1 C.2.1 (tgt := 50) dX8_lacks_10 (by decide) ?_
    subst hQ
    exact r_iret (τ, ξ) C hW hr hk dX8_lacks_50 (by first | exact Or.inl ⟨rfl, rfl, (by omega)⟩ | exact Or.inr (Or.inl ⟨rfl, rfl, (by omega), (by omega)⟩) | exact Or.inr (Or.inr (Or.inl ⟨rfl, rfl, (by omega), (by omega), (by omega), (by omega)⟩)) | exact Or.inr (Or.inr (Or.inr (⟨rfl, rfl, (by omega), (by omega), (by omega)⟩))))
set_option maxHeartbeats 4000000 in
set_option maxRecDepth 100000 in
theorem c_X8_isSample (l : Launch) (G : GG) (q : Nat → Nat) (sz : Nat) (τ ξ : ST) (d : Int32) (i : Int32) (dN : Nat) (iN : Nat) (hd : d.toInt = (dN : Int)) (hi : i.toInt = (iN : Int)) (hdN : dN < 6) (hiN : iN < 1000) (h_f : 0 ≤ (τ.1 2).toInt ∧ (τ.1 2).toInt ≤ 40) : Met l yX8_isSample (WSb yX8_isSample cX8_isSample 4 (some .boolean)) (rmA 1 25) (va_Pc [.ref (q 0), .int d, .int i] (PW G 33 q sz (eM G q τ ξ))) (va_Qi (fun (r : Int32) (u : (ST × ST)) => (r = 1 ∧ u = (τ, ξ) ∧ (smp τ dN iN)) ∨ (r = 0 ∧ u = (τ, ξ) ∧ (¬ smp τ dN iN))) (fun u => BW G 33 q (eM G q u.1 u.2)) (FA 33 q sz)) 0 0 (FA 33 q sz) := by
  refine Met_B (own := RX8) rfl (by decide) (Nat.le_of_ble_eq_true rfl) (fun p e s m args below meth c ls hsz C hW hr hk hl QQ hQ => ?_)
  subst hsz
  have hl : lv_has ls 4 [(0, .ref (q 0)), (1, .int d), (2, .int i)] := hl
  refine lv_aload_n C.1 C.2.1 dX8_isSample_0 rfl (lv_at hl 0 rfl) ?_
  refine mG_isThere C hW dX8_isSample_1 ?_
  refine lv_iload_n C.1 C.2.1 dX8_isSample_4 rfl (lv_at hl 1 rfl) ?_
  refine mL_isThere C hW dN (hd.trans (by omega)) (by omega) (v := (τ.2.1 4 dN)) rfl dX8_isSample_5 ?_
  refine lv_if_eq C.1 C.2.1 (tgt := 19) dX8_isSample_6 (by decide) (fun c_1 => ?_) (fun c_1 => ?_)
  · skip
    have k_1 := (tc_eq (rfl : ((τ.2.1 4 dN)).toInt = ((τ.2.1 4 dN)).toInt) (show (0 : Int32).toInt = 0 from by decide)).mp c_1
    refine lv_iconst C.1 C.2.1 (v := 0) dX8_isSample_19 (by decide) ?_
    subst hQ
    exact r_zret (τ, ξ) C hW hr rfl hk dX8_isSample_20 (Or.inr ⟨rfl, rfl, (by intro h; have h1 := h.1; have h2 := h.2.1; omega)⟩)
  · skip
    have k_1 := (tn_eq (rfl : ((τ.2.1 4 dN)).toInt = ((τ.2.1 4 dN)).toInt) (show (0 : Int32).toInt = 0 from by decide)).mp c_1
    refine lv_iload_n C.1 C.2.1 dX8_isSample_9 rfl (lv_at hl 2 rfl) ?_
    refine lv_aload_n C.1 C.2.1 dX8_isSample_10 rfl (lv_at hl 0 rfl) ?_
    refine mG_sizes C hW dX8_isSample_11 ?_
    refine lv_iload_n C.1 C.2.1 dX8_isSample_14 rfl (lv_at hl 1 rfl) ?_
    refine mL_sizes C hW dN (hd.trans (by omega)) (by omega) (v := (τ.2.1 6 dN)) rfl dX8_isSample_15 ?_
    refine lv_icmp_lt C.1 C.2.1 (tgt := 21) dX8_isSample_16 (by decide) (fun c_2 => ?_) (fun c_2 => ?_)
    · skip
      have k_2 := (tc_lt hi (rfl : ((τ.2.1 6 dN)).toInt = ((τ.2.1 6 dN)).toInt)).mp c_2
      refine lv_iconst C.1 C.2.1 (v := 0) dX8_isSample_21 (by decide) ?_
      refine lv_istore_n (lv' := [(3, .int 0), (0, .ref (q 0)), (1, .int d), (2, .int i)]) C.1 C.2.1 dX8_isSample_22 rfl hl (by decide) rfl (fun ls hl => ?_)
      have L_23_3 : ∀ (fuel : Nat) (g : Nat) (x3 : Int32), (τ.1 2).toInt.toNat - g < fuel → (x3.toInt = (g : Int)) → ((g : Int) ≤ (τ.1 2).toInt) → (∀ f : Nat, f < g → ¬ ((τ.2.1 8 f).toInt = dN ∧ (τ.2.1 9 f).toInt ≤ iN ∧ (iN : Int) ≤ (τ.2.1 10 f).toInt)) → ∀ (H : Heap) (locs : List Loc) (ls : Array Slot), WB G 33 q (eM G q τ ξ) s H locs → lv_has ls 4 [(3, .int x3), (0, .ref (q 0)), (1, .int d), (2, .int i)] → W p l e (rmA 1 25) s m args below meth c H locs 0 0 QQ (F0 m 23 ls []) := by
        intro fuel; induction fuel with
        | zero => intro g x3 hf; exact absurd hf (Nat.not_lt_zero _)
        | succ fuel ih =>
          intro g x3 hf hg hle hff H locs ls hW hl
          refine lv_iload_n C.1 C.2.1 dX8_isSample_23 rfl (lv_at hl 0 rfl) ?_
          refine lv_aload_n C.1 C.2.1 dX8_isSample_24 rfl (lv_at hl 1 rfl) ?_
          refine mG_flags C hW (v := (τ.1 2)) rfl dX8_isSample_25 ?_
          refine lv_icmp_ge C.1 C.2.1 (tgt := 71) dX8_isSample_28 (by decide) (fun c_4 => ?_) (fun c_4 => ?_)
          · skip
            have k_4 := (tc_le (rfl : ((τ.1 2)).toInt = ((τ.1 2)).toInt) hg).mp c_4
            refine lv_iconst C.1 C.2.1 (v := 1) dX8_isSample_71 (by decide) ?_
            subst hQ
            exact r_zret (τ, ξ) C hW hr rfl hk dX8_isSample_72 (Or.inl ⟨rfl, rfl, by omega, by omega, fun f hf => hff f (by omega)⟩)
          · skip
            have k_4 := (tn_le (rfl : ((τ.1 2)).toInt = ((τ.1 2)).toInt) hg).mp c_4
            refine lv_aload_n C.1 C.2.1 dX8_isSample_31 rfl (lv_at hl 1 rfl) ?_
            refine mG_flagDish C hW dX8_isSample_32 ?_
            refine lv_iload_n C.1 C.2.1 dX8_isSample_35 rfl (lv_at hl 0 rfl) ?_
            refine mL_flagDish C hW g (hg.trans (by omega)) (by omega) (v := (τ.2.1 8 g)) rfl dX8_isSample_36 ?_
            refine lv_iload_n C.1 C.2.1 dX8_isSample_37 rfl (lv_at hl 2 rfl) ?_
            refine lv_icmp_ne C.1 C.2.1 (tgt := 65) dX8_isSample_38 (by decide) (fun c_5 => ?_) (fun c_5 => ?_)
            · skip
              have k_5 := (tn_eq (rfl : ((τ.2.1 8 g)).toInt = ((τ.2.1 8 g)).toInt) hd).mp c_5
              refine lv_iinc (v := (x3 + 1)) (lv' := [(3, .int (x3 + 1)), (0, .ref (q 0)), (1, .int d), (2, .int i)]) C.1 C.2.1 dX8_isSample_65 hl (k := 0) rfl rfl (by decide) rfl (fun ls hl => ?_)
              refine lv_goto C.1 C.2.1 (tgt := 23) dX8_isSample_68 (by decide) ?_
              exact ih (g + 1) (x3 + 1) (by omega) ((ti_add hg (show (1 : Int32).toInt = 1 from by decide) (by omega) (by omega)).trans (by omega)) (by omega) (fun f hf => (Nat.lt_succ_iff_lt_or_eq.mp hf).elim (hff f) (fun h => by subst h; omega)) _ _ _ hW (lv_sub hl [0, 1, 2, 3] rfl)
            · skip
              have k_5 := (tc_eq (rfl : ((τ.2.1 8 g)).toInt = ((τ.2.1 8 g)).toInt) hd).mp c_5
              refine lv_iload_n C.1 C.2.1 dX8_isSample_41 rfl (lv_at hl 3 rfl) ?_
              refine lv_i2l C.1 C.2.1 dX8_isSample_42 rfl ?_
              refine lv_aload_n C.1 C.2.1 dX8_isSample_43 rfl (lv_at hl 1 rfl) ?_
              refine mG_flagFrom C hW dX8_isSample_44 ?_
              refine lv_iload_n C.1 C.2.1 dX8_isSample_47 rfl (lv_at hl 0 rfl) ?_
              refine mL_flagFrom C hW g (hg.trans (by omega)) (by omega) (v := (τ.2.1 9 g)) rfl dX8_isSample_48 ?_
              refine lv_i2l C.1 C.2.1 dX8_isSample_49 rfl ?_
              refine lv_aload_n C.1 C.2.1 dX8_isSample_50 rfl (lv_at hl 1 rfl) ?_
              refine mG_flagTo C hW dX8_isSample_51 ?_
              refine lv_iload_n C.1 C.2.1 dX8_isSample_54 rfl (lv_at hl 0 rfl) ?_
              refine mL_flagTo C hW g (hg.trans (by omega)) (by omega) (v := (τ.2.1 10 g)) rfl dX8_isSample_55 ?_
              refine lv_i2l C.1 C.2.1 dX8_isSample_56 rfl ?_
              refine go_i hW (run_S (As := [.long ((i).toInt64), .long ((τ.2.1 9 g).toInt64), .long ((τ.2.1 10 g).toInt64)]) (rest := []) C hW (c_X8_in l G q _ τ ξ ((i).toInt64) ((τ.2.1 9 g).toInt64) ((τ.2.1 10 g).toInt64) (iN : Int) (((τ.2.1 9 g)).toInt) (((τ.2.1 10 g)).toInt) (ti_i2l hi) (ti_i2l (rfl : ((τ.2.1 9 g)).toInt = ((τ.2.1 9 g)).toInt)) (ti_i2l (rfl : ((τ.2.1 10 g)).toInt = ((τ.2.1 10 g)).toInt))) (cw_S 3 C bL_X8_121 bS_X8_in bN_X8 bC_X8_in ⟨rfl, rfl⟩ (by decide +kernel) ⟨Nat.le_of_ble_eq_true rfl, Nat.le_of_ble_eq_true rfl⟩) rfl hl.1 rfl (by decide) dX8_isSample_57 ⟨Nat.le_refl _, Nat.le_refl _⟩) (fun r_6 u_6 H locs hp_6 hW => ?_)
              rcases hp_6 with ⟨rfl, rfl, k_6_0, k_6_1⟩ | ⟨rfl, rfl, k_6⟩
              · skip
                have hW : WB G 33 q (eM G q τ ξ) s H locs := hW
                refine lv_if_eq C.1 C.2.1 (tgt := 65) dX8_isSample_60 (by decide) (fun c => absurd c (by decide)) (fun _ => ?_)
                refine lv_iconst C.1 C.2.1 (v := 0) dX8_isSample_63 (by decide) ?_
                subst hQ
                exact r_zret (τ, ξ) C hW hr rfl hk dX8_isSample_64 (Or.inr ⟨rfl, rfl, fun h => h.2.2 g (by omega) ⟨by omega, by omega, by omega⟩⟩)
              · skip
                have hW : WB G 33 q (eM G q τ ξ) s H locs := hW
                refine lv_if_eq C.1 C.2.1 (tgt := 65) dX8_isSample_60 (by decide) (fun _ => ?_) (fun c => absurd c (by decide))
                refine lv_iinc (v := (x3 + 1)) (lv' := [(3, .int (x3 + 1)), (0, .ref (q 0)), (1, .int d), (2, .int i)]) C.1 C.2.1 dX8_isSample_65 hl (k := 0) rfl rfl (by decide) rfl (fun ls hl => ?_)
                refine lv_goto C.1 C.2.1 (tgt := 23) dX8_isSample_68 (by decide) ?_
                exact ih (g + 1) (x3 + 1) (by omega) ((ti_add hg (show (1 : Int32).toInt = 1 from by decide) (by omega) (by omega)).trans (by omega)) (by omega) (fun f hf => (Nat.lt_succ_iff_lt_or_eq.mp hf).elim (hff f) (fun h => by subst h; omega)) _ _ _ hW (lv_sub hl [0, 1, 2, 3] rfl)
      exact L_23_3 _ 0 0 (Nat.lt_succ_self _) (by decide) (by omega) (fun f h => absurd h (Nat.not_lt_zero _)) _ _ _ hW (lv_sub hl [0, 1, 2, 3] rfl)
    · skip
      have k_2 := (tn_lt hi (rfl : ((τ.2.1 6 dN)).toInt = ((τ.2.1 6 dN)).toInt)).mp c_2
      refine lv_iconst C.1 C.2.1 (v := 0) dX8_isSample_19 (by decide) ?_
      subst hQ
      exact r_zret (τ, ξ) C hW hr rfl hk dX8_isSample_20 (Or.inr ⟨rfl, rfl, (by intro h; have h1 := h.1; have h2 := h.2.1; omega)⟩)
set_option maxHeartbeats 4000000 in
set_option maxRecDepth 100000 in
theorem c_X8_sampleAt (l : Launch) (G : GG) (q : Nat → Nat) (sz : Nat) (τ ξ : ST) (d : Int32) (i : Int32) (dN : Nat) (iN : Nat) (hd : d.toInt = (dN : Int)) (hi : i.toInt = (iN : Int)) (hdN : dN < 6) (hiN : iN < 100) : Met l yX8_sampleAt (WSb yX8_sampleAt cX8_sampleAt 4 (some .long)) (rmA 0 0) (va_Pc [.ref (q 0), .int d, .int i] (PW G 33 q sz (eM G q τ ξ))) (va_Ql (fun (r : Int64) (u : (ST × ST)) => r = smpV τ dN iN ∧ u = (τ, ξ)) (fun u => BW G 33 q (eM G q u.1 u.2)) (FA 33 q sz)) 0 0 (FA 33 q sz) := by
  refine Met_B (own := RX8) rfl (by decide) (Nat.le_of_ble_eq_true rfl) (fun p e s m args below meth c ls hsz C hW hr hk hl QQ hQ => ?_)
  subst hsz
  have hl : lv_has ls 4 [(0, .ref (q 0)), (1, .int d), (2, .int i)] := hl
  refine lv_aload_n C.1 C.2.1 dX8_sampleAt_0 rfl (lv_at hl 0 rfl) ?_
  refine mG_items C hW dX8_sampleAt_1 ?_
  refine lv_bipush C.1 C.2.1 (v := 100) dX8_sampleAt_4 (by decide) ?_
  refine lv_iload_n C.1 C.2.1 dX8_sampleAt_6 rfl (lv_at hl 1 rfl) ?_
  refine lv_imul C.1 C.2.1 dX8_sampleAt_7 ?_
  refine lv_iload_n C.1 C.2.1 dX8_sampleAt_8 rfl (lv_at hl 2 rfl) ?_
  refine lv_iadd C.1 C.2.1 dX8_sampleAt_9 ?_
  refine mL_items C hW ((100 * dN) + iN) ((ti_add (ti_mul (show (100 : Int32).toInt = 100 from by decide) hd (by omega) (by omega)) hi (by omega) (by omega)).trans (by omega)) (by omega) (v := (τ.2.1 7 ((100 * dN) + iN))) rfl dX8_sampleAt_10 ?_
  refine lv_istore_n (lv' := [(3, .int (τ.2.1 7 ((100 * dN) + iN))), (0, .ref (q 0)), (1, .int d), (2, .int i)]) C.1 C.2.1 dX8_sampleAt_11 rfl hl (by decide) rfl (fun ls hl => ?_)
  refine lv_iload_n C.1 C.2.1 dX8_sampleAt_12 rfl (lv_at hl 0 rfl) ?_
  refine lv_sipush C.1 C.2.1 (v := 500) dX8_sampleAt_13 (by decide) ?_
  refine lv_icmp_le C.1 C.2.1 (tgt := 25) dX8_sampleAt_16 (by decide) (fun c_1 => ?_) (fun c_1 => ?_)
  · skip
    have k_1 := (tc_le (rfl : ((τ.2.1 7 ((100 * dN) + iN))).toInt = ((τ.2.1 7 ((100 * dN) + iN))).toInt) (show (500 : Int32).toInt = 500 from by decide)).mp c_1
    refine lv_iload_n C.1 C.2.1 dX8_sampleAt_25 rfl (lv_at hl 0 rfl) ?_
    refine lv_sipush C.1 C.2.1 (v := (-500)) dX8_sampleAt_26 (by decide) ?_
    refine lv_icmp_ge C.1 C.2.1 (tgt := 38) dX8_sampleAt_29 (by decide) (fun c_2 => ?_) (fun c_2 => ?_)
    · skip
      have k_2 := (tc_le (show (-500 : Int32).toInt = -500 from by decide) (rfl : ((τ.2.1 7 ((100 * dN) + iN))).toInt = ((τ.2.1 7 ((100 * dN) + iN))).toInt)).mp c_2
      refine lv_iload_n C.1 C.2.1 dX8_sampleAt_38 rfl (lv_at hl 0 rfl) ?_
      refine lv_i2l C.1 C.2.1 dX8_sampleAt_39 rfl ?_
      subst hQ
      exact r_lret (τ, ξ) C hW hr hk dX8_sampleAt_40 ⟨by unfold smpV; repeat (first | rw [if_pos (by omega)] | rw [if_neg (by omega)]), rfl⟩
    · skip
      have k_2 := (tn_le (show (-500 : Int32).toInt = -500 from by decide) (rfl : ((τ.2.1 7 ((100 * dN) + iN))).toInt = ((τ.2.1 7 ((100 * dN) + iN))).toInt)).mp c_2
      refine lv_ldc2 C.1 C.2.1 C.2.2.2.1 (C.2.2.2.2.1 _ bQ_X8_155) dX8_sampleAt_32 ?_
      refine lv_goto C.1 C.2.1 (tgt := 40) dX8_sampleAt_35 (by decide) ?_
      subst hQ
      exact r_lret (τ, ξ) C hW hr hk dX8_sampleAt_40 ⟨by unfold smpV; repeat (first | rw [if_pos (by omega)] | rw [if_neg (by omega)]), rfl⟩
  · skip
    have k_1 := (tn_le (rfl : ((τ.2.1 7 ((100 * dN) + iN))).toInt = ((τ.2.1 7 ((100 * dN) + iN))).toInt) (show (500 : Int32).toInt = 500 from by decide)).mp c_1
    refine lv_ldc2 C.1 C.2.1 C.2.2.2.1 (C.2.2.2.2.1 _ bQ_X8_153) dX8_sampleAt_19 ?_
    refine lv_goto C.1 C.2.1 (tgt := 40) dX8_sampleAt_22 (by decide) ?_
    subst hQ
    exact r_lret (τ, ξ) C hW hr hk dX8_sampleAt_40 ⟨by unfold smpV; repeat (first | rw [if_pos (by omega)] | rw [if_neg (by omega)]), rfl⟩
set_option maxHeartbeats 4000000 in
set_option maxRecDepth 100000 in
theorem c_X8_sign (l : Launch) (G : GG) (q : Nat → Nat) (sz : Nat) (τ ξ : ST) (v : Int64) : Met l yX8_sign (WSb yX8_sign cX8_sign 2 (some .int)) (rmA 0 0) (va_Pc [.long v] (PW G 33 q sz (eM G q τ ξ))) (va_Qi (fun (r : Int32) (u : (ST × ST)) => r = sgn v ∧ u = (τ, ξ)) (fun u => BW G 33 q (eM G q u.1 u.2)) (FA 33 q sz)) 0 0 (FA 33 q sz) := by
  refine Met_B (own := RX8) rfl (by decide) (Nat.le_of_ble_eq_true rfl) (fun p e s m args below meth c ls hsz C hW hr hk hl QQ hQ => ?_)
  subst hsz
  have hl : lv_has ls 2 [(0, .long v)] := hl
  refine lv_lload_n C.1 C.2.1 dX8_sign_0 rfl (lv_at hl 0 rfl) ?_
  refine lv_lconst C.1 C.2.1 (v := 0) dX8_sign_1 (by decide) ?_
  refine W.lcmp C.1 C.2.1 dX8_sign_2 ?_
  refine lv_if_le C.1 C.2.1 (tgt := 10) dX8_sign_3 (by decide) (fun c_1 => ?_) (fun c_1 => ?_)
  · skip
    have k_1 := (lc_le (rfl : (v).toInt = (v).toInt) (show (0 : Int64).toInt = 0 from by decide)).mp c_1
    refine lv_lload_n C.1 C.2.1 dX8_sign_10 rfl (lv_at hl 0 rfl) ?_
    refine lv_lconst C.1 C.2.1 (v := 0) dX8_sign_11 (by decide) ?_
    refine W.lcmp C.1 C.2.1 dX8_sign_12 ?_
    refine lv_if_ge C.1 C.2.1 (tgt := 20) dX8_sign_13 (by decide) (fun c_2 => ?_) (fun c_2 => ?_)
    · skip
      have k_2 := (lc_ge (rfl : (v).toInt = (v).toInt) (show (0 : Int64).toInt = 0 from by decide)).mp c_2
      refine lv_iconst C.1 C.2.1 (v := 0) dX8_sign_20 (by decide) ?_
      subst hQ
      exact r_iret (τ, ξ) C hW hr hk dX8_sign_21 ⟨by unfold sgn; repeat (first | rw [if_pos (by omega)] | rw [if_neg (by omega)]), rfl⟩
    · skip
      have k_2 := (ln_ge (rfl : (v).toInt = (v).toInt) (show (0 : Int64).toInt = 0 from by decide)).mp c_2
      refine lv_iconst C.1 C.2.1 (v := (-1)) dX8_sign_16 (by decide) ?_
      refine lv_goto C.1 C.2.1 (tgt := 21) dX8_sign_17 (by decide) ?_
      subst hQ
      exact r_iret (τ, ξ) C hW hr hk dX8_sign_21 ⟨by unfold sgn; repeat (first | rw [if_pos (by omega)] | rw [if_neg (by omega)]), rfl⟩
  · skip
    have k_1 := (ln_le (rfl : (v).toInt = (v).toInt) (show (0 : Int64).toInt = 0 from by decide)).mp c_1
    refine lv_iconst C.1 C.2.1 (v := 1) dX8_sign_6 (by decide) ?_
    refine lv_goto C.1 C.2.1 (tgt := 21) dX8_sign_7 (by decide) ?_
    subst hQ
    exact r_iret (τ, ξ) C hW hr hk dX8_sign_21 ⟨by unfold sgn; repeat (first | rw [if_pos (by omega)] | rw [if_neg (by omega)]), rfl⟩
set_option maxHeartbeats 4000000 in
set_option maxRecDepth 100000 in
theorem c_X8_amount (l : Launch) (G : GG) (q : Nat → Nat) (sz : Nat) (τ ξ : ST) (v : Int64) : Met l yX8_amount (WSb yX8_amount cX8_amount 2 (some .long)) (rmA 0 0) (va_Pc [.long v] (PW G 33 q sz (eM G q τ ξ))) (va_Ql (fun (r : Int64) (u : (ST × ST)) => r = amt v ∧ u = (τ, ξ)) (fun u => BW G 33 q (eM G q u.1 u.2)) (FA 33 q sz)) 0 0 (FA 33 q sz) := by
  refine Met_B (own := RX8) rfl (by decide) (Nat.le_of_ble_eq_true rfl) (fun p e s m args below meth c ls hsz C hW hr hk hl QQ hQ => ?_)
  subst hsz
  have hl : lv_has ls 2 [(0, .long v)] := hl
  refine lv_lload_n C.1 C.2.1 dX8_amount_0 rfl (lv_at hl 0 rfl) ?_
  refine lv_lconst C.1 C.2.1 (v := 0) dX8_amount_1 (by decide) ?_
  refine W.lcmp C.1 C.2.1 dX8_amount_2 ?_
  refine lv_if_ge C.1 C.2.1 (tgt := 11) dX8_amount_3 (by decide) (fun c_1 => ?_) (fun c_1 => ?_)
  · skip
    have k_1 := (lc_ge (rfl : (v).toInt = (v).toInt) (show (0 : Int64).toInt = 0 from by decide)).mp c_1
    refine lv_lload_n C.1 C.2.1 dX8_amount_11 rfl (lv_at hl 0 rfl) ?_
    subst hQ
    exact r_lret (τ, ξ) C hW hr hk dX8_amount_12 ⟨by unfold amt; repeat (first | rw [if_pos (by omega)] | rw [if_neg (by omega)]), rfl⟩
  · skip
    have k_1 := (ln_ge (rfl : (v).toInt = (v).toInt) (show (0 : Int64).toInt = 0 from by decide)).mp c_1
    refine lv_lload_n C.1 C.2.1 dX8_amount_6 rfl (lv_at hl 0 rfl) ?_
    refine lv_lneg C.1 C.2.1 dX8_amount_7 ?_
    refine lv_goto C.1 C.2.1 (tgt := 12) dX8_amount_8 (by decide) ?_
    subst hQ
    exact r_lret (τ, ξ) C hW hr hk dX8_amount_12 ⟨by unfold amt; repeat (first | rw [if_pos (by omega)] | rw [if_neg (by omega)]), rfl⟩
set_option maxHeartbeats 4000000 in
set_option maxRecDepth 100000 in
theorem c_X8_wave (l : Launch) (G : GG) (q : Nat → Nat) (sz : Nat) (τ ξ : ST) (k : Int32) : Met l yX8_wave (WSb yX8_wave cX8_wave 2 (some .int)) (rmA 0 0) (va_Pc [.ref (q 0), .int k] (PW G 33 q sz (eM G q τ ξ))) (va_Qi (fun (r : Int32) (u : (ST × ST)) => r = wv (k &&& 15).toInt.toNat ∧ u = (τ, ξ)) (fun u => BW G 33 q (eM G q u.1 u.2)) (FA 33 q sz)) 0 0 (FA 33 q sz) := by
  refine Met_B (own := RX8) rfl (by decide) (Nat.le_of_ble_eq_true rfl) (fun p e s m args below meth c ls hsz C hW hr hk hl QQ hQ => ?_)
  subst hsz
  have hl : lv_has ls 2 [(0, .ref (q 0)), (1, .int k)] := hl
  have hq := and15 k
  refine lv_aload_n C.1 C.2.1 dX8_wave_0 rfl (lv_at hl 0 rfl) ?_
  refine mG_waves C hW dX8_wave_1 ?_
  refine lv_iload_n C.1 C.2.1 dX8_wave_4 rfl (lv_at hl 1 rfl) ?_
  refine lv_bipush C.1 C.2.1 (v := 15) dX8_wave_5 (by decide) ?_
  refine lv_iand C.1 C.2.1 dX8_wave_7 ?_
  refine mL_waves C hW (((k &&& 15).toInt).toNat) ((rfl : (k &&& 15).toInt = _).trans (by omega)) (by omega) (v := (wv (((k &&& 15).toInt).toNat))) rfl dX8_wave_8 ?_
  subst hQ
  exact r_iret (τ, ξ) C hW hr hk dX8_wave_9 (⟨rfl, rfl⟩)
set_option maxHeartbeats 4000000 in
set_option maxRecDepth 100000 in
theorem c_X8_cells (l : Launch) (G : GG) (q : Nat → Nat) (sz : Nat) (τ ξ : ST) : Met l yX8_cells (WSb yX8_cells cX8_cells 1 (some .int)) (rmA 0 0) (va_Pc [.ref (q 0)] (PW G 33 q sz (eM G q τ ξ))) (va_Qi (fun (r : Int32) (u : (ST × ST)) => r = (τ.1 6 - τ.1 5 + 1) * (τ.1 8 - τ.1 7 + 1) ∧ u = (τ, ξ)) (fun u => BW G 33 q (eM G q u.1 u.2)) (FA 33 q sz)) 0 0 (FA 33 q sz) := by
  refine Met_B (own := RX8) rfl (by decide) (Nat.le_of_ble_eq_true rfl) (fun p e s m args below meth c ls hsz C hW hr hk hl QQ hQ => ?_)
  subst hsz
  have hl : lv_has ls 1 [(0, .ref (q 0))] := hl
  refine lv_aload_n C.1 C.2.1 dX8_cells_0 rfl (lv_at hl 0 rfl) ?_
  refine mG_highX C hW (v := (τ.1 6)) rfl dX8_cells_1 ?_
  refine lv_aload_n C.1 C.2.1 dX8_cells_4 rfl (lv_at hl 0 rfl) ?_
  refine mG_lowX C hW (v := (τ.1 5)) rfl dX8_cells_5 ?_
  refine lv_isub C.1 C.2.1 dX8_cells_8 ?_
  refine lv_iconst C.1 C.2.1 (v := 1) dX8_cells_9 (by decide) ?_
  refine lv_iadd C.1 C.2.1 dX8_cells_10 ?_
  refine lv_aload_n C.1 C.2.1 dX8_cells_11 rfl (lv_at hl 0 rfl) ?_
  refine mG_highY C hW (v := (τ.1 8)) rfl dX8_cells_12 ?_
  refine lv_aload_n C.1 C.2.1 dX8_cells_15 rfl (lv_at hl 0 rfl) ?_
  refine mG_lowY C hW (v := (τ.1 7)) rfl dX8_cells_16 ?_
  refine lv_isub C.1 C.2.1 dX8_cells_19 ?_
  refine lv_iconst C.1 C.2.1 (v := 1) dX8_cells_20 (by decide) ?_
  refine lv_iadd C.1 C.2.1 dX8_cells_21 ?_
  refine lv_imul C.1 C.2.1 dX8_cells_22 ?_
  subst hQ
  exact r_iret (τ, ξ) C hW hr hk dX8_cells_23 (⟨rfl, rfl⟩)
set_option maxHeartbeats 4000000 in
set_option maxRecDepth 100000 in
theorem c_X8_isCell (l : Launch) (G : GG) (q : Nat → Nat) (sz : Nat) (τ ξ : ST) (x : Int32) (y : Int32) : Met l yX8_isCell (WSb yX8_isCell cX8_isCell 2 (some .boolean)) (rmA 1 25) (va_Pc [.int x, .int y] (PW G 33 q sz (eM G q τ ξ))) (va_Qi (fun (r : Int32) (u : (ST × ST)) => (r = 1 ∧ u = (τ, ξ) ∧ (0 ≤ x.toInt) ∧ (x.toInt ≤ 15) ∧ (0 ≤ y.toInt) ∧ (y.toInt ≤ 15)) ∨ (r = 0 ∧ u = (τ, ξ) ∧ (¬ (0 ≤ x.toInt ∧ x.toInt ≤ 15 ∧ 0 ≤ y.toInt ∧ y.toInt ≤ 15)))) (fun u => BW G 33 q (eM G q u.1 u.2)) (FA 33 q sz)) 0 0 (FA 33 q sz) := by
  refine Met_B (own := RX8) rfl (by decide) (Nat.le_of_ble_eq_true rfl) (fun p e s m args below meth c ls hsz C hW hr hk hl QQ hQ => ?_)
  subst hsz
  have hl : lv_has ls 2 [(0, .int x), (1, .int y)] := hl
  refine lv_iload_n C.1 C.2.1 dX8_isCell_0 rfl (lv_at hl 0 rfl) ?_
  refine lv_i2l C.1 C.2.1 dX8_isCell_1 rfl ?_
  refine lv_lconst C.1 C.2.1 (v := 0) dX8_isCell_2 (by decide) ?_
  refine lv_ldc2 C.1 C.2.1 C.2.2.2.1 (C.2.2.2.2.1 _ bQ_X8_213) dX8_isCell_3 ?_
  refine go_i hW (run_S (As := [.long ((x).toInt64), .long 0, .long 15]) (rest := []) C hW (c_X8_in l G q _ τ ξ ((x).toInt64) 0 15 ((x).toInt) 0 15 (ti_i2l (rfl : (x).toInt = (x).toInt)) (show (0 : Int64).toInt = 0 from by decide) (show (15 : Int64).toInt = 15 from by decide)) (cw_S 3 C bL_X8_121 bS_X8_in bN_X8 bC_X8_in ⟨rfl, rfl⟩ (by decide +kernel) ⟨Nat.le_of_ble_eq_true rfl, Nat.le_of_ble_eq_true rfl⟩) rfl hl.1 rfl (by decide) dX8_isCell_6 ⟨Nat.le_refl _, Nat.le_refl _⟩) (fun r_1 u_1 H locs hp_1 hW => ?_)
  rcases hp_1 with ⟨rfl, rfl, k_1_0, k_1_1⟩ | ⟨rfl, rfl, k_1⟩
  · skip
    have hW : WB G 33 q (eM G q τ ξ) s H locs := hW
    refine lv_if_eq C.1 C.2.1 (tgt := 28) dX8_isCell_9 (by decide) (fun c => absurd c (by decide)) (fun _ => ?_)
    refine lv_iload_n C.1 C.2.1 dX8_isCell_12 rfl (lv_at hl 1 rfl) ?_
    refine lv_i2l C.1 C.2.1 dX8_isCell_13 rfl ?_
    refine lv_lconst C.1 C.2.1 (v := 0) dX8_isCell_14 (by decide) ?_
    refine lv_ldc2 C.1 C.2.1 C.2.2.2.1 (C.2.2.2.2.1 _ bQ_X8_213) dX8_isCell_15 ?_
    refine go_i hW (run_S (As := [.long ((y).toInt64), .long 0, .long 15]) (rest := []) C hW (c_X8_in l G q _ τ ξ ((y).toInt64) 0 15 ((y).toInt) 0 15 (ti_i2l (rfl : (y).toInt = (y).toInt)) (show (0 : Int64).toInt = 0 from by decide) (show (15 : Int64).toInt = 15 from by decide)) (cw_S 3 C bL_X8_121 bS_X8_in bN_X8 bC_X8_in ⟨rfl, rfl⟩ (by decide +kernel) ⟨Nat.le_of_ble_eq_true rfl, Nat.le_of_ble_eq_true rfl⟩) rfl hl.1 rfl (by decide) dX8_isCell_18 ⟨Nat.le_refl _, Nat.le_refl _⟩) (fun r_3 u_3 H locs hp_3 hW => ?_)
    rcases hp_3 with ⟨rfl, rfl, k_3_0, k_3_1⟩ | ⟨rfl, rfl, k_3⟩
    · skip
      have hW : WB G 33 q (eM G q τ ξ) s H locs := hW
      refine lv_if_eq C.1 C.2.1 (tgt := 28) dX8_isCell_21 (by decide) (fun c => absurd c (by decide)) (fun _ => ?_)
      refine lv_iconst C.1 C.2.1 (v := 1) dX8_isCell_24 (by decide) ?_
      refine lv_goto C.1 C.2.1 (tgt := 29) dX8_isCell_25 (by decide) ?_
      subst hQ
      exact r_zret (τ, ξ) C hW hr rfl hk dX8_isCell_29 (by first | exact Or.inl ⟨rfl, rfl, (by omega), (by omega), (by omega), (by omega)⟩ | exact Or.inr (⟨rfl, rfl, (by omega)⟩))
    · skip
      have hW : WB G 33 q (eM G q τ ξ) s H locs := hW
      refine lv_if_eq C.1 C.2.1 (tgt := 28) dX8_isCell_21 (by decide) (fun _ => ?_) (fun c => absurd c (by decide))
      refine lv_iconst C.1 C.2.1 (v := 0) dX8_isCell_28 (by decide) ?_
      subst hQ
      exact r_zret (τ, ξ) C hW hr rfl hk dX8_isCell_29 (by first | exact Or.inl ⟨rfl, rfl, (by omega), (by omega), (by omega), (by omega)⟩ | exact Or.inr (⟨rfl, rfl, (by omega)⟩))
  · skip
    have hW : WB G 33 q (eM G q τ ξ) s H locs := hW
    refine lv_if_eq C.1 C.2.1 (tgt := 28) dX8_isCell_9 (by decide) (fun _ => ?_) (fun c => absurd c (by decide))
    refine lv_iconst C.1 C.2.1 (v := 0) dX8_isCell_28 (by decide) ?_
    subst hQ
    exact r_zret (τ, ξ) C hW hr rfl hk dX8_isCell_29 (by first | exact Or.inl ⟨rfl, rfl, (by omega), (by omega), (by omega), (by omega)⟩ | exact Or.inr (⟨rfl, rfl, (by omega)⟩))
set_option maxHeartbeats 4000000 in
set_option maxRecDepth 100000 in
theorem c_X8_all (l : Launch) (G : GG) (q : Nat → Nat) (sz : Nat) (τ ξ : ST) : Met l yX8_all (WSb yX8_all cX8_all 1 none) (rmA 0 0) (va_Pc [.ref (q 0)] (PW G 33 q sz (eM G q τ ξ))) (va_Qv (fun (u : (ST × ST)) => u = ((sg (sg (sg (sg τ 5 0) 6 15) 7 0) 8 15), ξ)) (fun u => BW G 33 q (eM G q u.1 u.2)) (FA 33 q sz)) 0 0 (FA 33 q sz) := by
  refine Met_B (own := RX8) rfl (by decide) (Nat.le_of_ble_eq_true rfl) (fun p e s m args below meth c ls hsz C hW hr hk hl QQ hQ => ?_)
  subst hsz
  have hl : lv_has ls 1 [(0, .ref (q 0))] := hl
  refine lv_aload_n C.1 C.2.1 dX8_all_0 rfl (lv_at hl 0 rfl) ?_
  refine lv_iconst C.1 C.2.1 (v := 0) dX8_all_1 (by decide) ?_
  refine mP_lowX C hW dX8_all_2 (fun H locs hW => ?_)
  refine lv_aload_n C.1 C.2.1 dX8_all_5 rfl (lv_at hl 0 rfl) ?_
  refine lv_bipush C.1 C.2.1 (v := 15) dX8_all_6 (by decide) ?_
  refine mP_highX C hW dX8_all_8 (fun H locs hW => ?_)
  refine lv_aload_n C.1 C.2.1 dX8_all_11 rfl (lv_at hl 0 rfl) ?_
  refine lv_iconst C.1 C.2.1 (v := 0) dX8_all_12 (by decide) ?_
  refine mP_lowY C hW dX8_all_13 (fun H locs hW => ?_)
  refine lv_aload_n C.1 C.2.1 dX8_all_16 rfl (lv_at hl 0 rfl) ?_
  refine lv_bipush C.1 C.2.1 (v := 15) dX8_all_17 (by decide) ?_
  refine mP_highY C hW dX8_all_19 (fun H locs hW => ?_)
  subst hQ
  exact r_vret ((sg (sg (sg (sg τ 5 0) 6 15) 7 0) 8 15), ξ) C hW hr hk dX8_all_22 (rfl)
end
section
/-! products: the reference's sums, and the calls that they answer -/
noncomputable def cIf {α : Type} (P : Prop) (a b : α) : α := @ite α P (Classical.propDecidable P) a b
theorem cIf_pos {α : Type} {P : Prop} (h : P) (a b : α) : cIf P a b = a := by unfold cIf; exact if_pos h
theorem cIf_neg {α : Type} {P : Prop} (h : ¬ P) (a b : α) : cIf P a b = b := by unfold cIf; exact if_neg h
/-- THE PRODUCT's sum over the first t ticks, with two delays; and how many of them count -/
noncomputable def mulS (τ : ST) (i a j b : Nat) : Nat → Int64
  | 0 => 0
  | t + 1 => cIf (smp τ i (t + a) ∧ smp τ j (t + b)) (mulS τ i a j b t + smpV τ i (t + a) * smpV τ j (t + b)) (mulS τ i a j b t)
noncomputable def mulC (τ : ST) (i a j b : Nat) : Nat → Nat
  | 0 => 0
  | t + 1 => cIf (smp τ i (t + a) ∧ smp τ j (t + b)) (mulC τ i a j b t + 1) (mulC τ i a j b t)
noncomputable def prdF (τ : ST) (i a j b : Nat) : Int64 := mulS τ i a j b 100 * (τ.2.1 3 i).toInt64 * (τ.2.1 3 j).toInt64
def dl (τ : ST) (i : Nat) : Nat := (τ.2.1 2 i).toInt.toNat
noncomputable def prd (τ : ST) (i j : Nat) : Int64 := prdF τ i (dl τ i) j (dl τ j)
noncomputable def tck (τ : ST) (i j : Nat) : Nat := mulC τ i (dl τ i) j (dl τ j) 100
theorem mul_y {τ : ST} {i a j b t : Nat} (h1 : smp τ i (t + a)) (h2 : smp τ j (t + b)) : mulS τ i a j b (t + 1) = mulS τ i a j b t + smpV τ i (t + a) * smpV τ j (t + b) ∧ nI (mulC τ i a j b (t + 1)) = nI (mulC τ i a j b t) + 1 := by
  refine ⟨cIf_pos ⟨h1, h2⟩ _ _, ?_⟩
  rw [show mulC τ i a j b (t + 1) = mulC τ i a j b t + 1 from cIf_pos ⟨h1, h2⟩ _ _]
  exact nI_succ _
theorem mul_n {τ : ST} {i a j b t : Nat} (h : ¬ (smp τ i (t + a) ∧ smp τ j (t + b))) : mulS τ i a j b (t + 1) = mulS τ i a j b t ∧ nI (mulC τ i a j b (t + 1)) = nI (mulC τ i a j b t) :=
  ⟨cIf_neg h _ _, congrArg nI (cIf_neg h _ _)⟩
theorem mulC_le (τ : ST) (i a j b t : Nat) : mulC τ i a j b t ≤ t := by
  induction t with
  | zero => exact Nat.le_refl _
  | succ t ih =>
    by_cases h : smp τ i (t + a) ∧ smp τ j (t + b)
    · rw [show mulC τ i a j b (t + 1) = mulC τ i a j b t + 1 from cIf_pos h _ _]; omega
    · rw [show mulC τ i a j b (t + 1) = mulC τ i a j b t from cIf_neg h _ _]; omega
noncomputable def bstD (τ : ST) (i j : Nat) : Nat → Nat
  | 0 => 0
  | d + 1 => if (prdF τ i (dl τ i) j (bstD τ i j d)).toInt < (prdF τ i (dl τ i) j (d + 1)).toInt then d + 1 else bstD τ i j d
theorem bstD_le (τ : ST) (i j d : Nat) : bstD τ i j d ≤ d := by
  induction d with
  | zero => exact Nat.le_refl _
  | succ d ih => unfold bstD; split <;> omega
noncomputable def sp_ticks (τ : ST) (i j : Int32) : Int32 × ST := if (0 ≤ i.toInt ∧ i.toInt < (τ.1 0).toInt) ∧ 0 ≤ j.toInt ∧ j.toInt < (τ.1 0).toInt then (nI (tck τ i.toInt.toNat j.toInt.toNat), τ) else (-2, τ)
noncomputable def sp_product (τ : ST) (i j : Int32) : Int64 × ST := if (0 ≤ i.toInt ∧ i.toInt < (τ.1 0).toInt) ∧ 0 ≤ j.toInt ∧ j.toInt < (τ.1 0).toInt then (prd τ i.toInt.toNat j.toInt.toNat, τ) else (-9223372036854775808, τ)
noncomputable def sp_delay (τ : ST) (i j : Int32) : Int32 × ST := if (0 ≤ i.toInt ∧ i.toInt < (τ.1 0).toInt) ∧ 0 ≤ j.toInt ∧ j.toInt < (τ.1 0).toInt then (nI (bstD τ i.toInt.toNat j.toInt.toNat 30), τ) else (-2, τ)
noncomputable def sp_three (τ : ST) (i j k : Int32) : Int32 × ST := if ((0 ≤ i.toInt ∧ i.toInt < (τ.1 0).toInt) ∧ (0 ≤ j.toInt ∧ j.toInt < (τ.1 0).toInt) ∧ 0 ≤ k.toInt ∧ k.toInt < (τ.1 0).toInt) ∧ ¬ i.toInt = j.toInt ∧ ¬ j.toInt = k.toInt ∧ ¬ i.toInt = k.toInt then (sgn (prd τ i.toInt.toNat j.toInt.toNat) * sgn (prd τ j.toInt.toNat k.toInt.toNat) * sgn (prd τ i.toInt.toNat k.toInt.toNat), τ) else (-2, τ)
noncomputable def sp_four (τ : ST) (i j k n : Int32) : Int32 × ST := if ((0 ≤ i.toInt ∧ i.toInt < (τ.1 0).toInt) ∧ (0 ≤ j.toInt ∧ j.toInt < (τ.1 0).toInt) ∧ (0 ≤ k.toInt ∧ k.toInt < (τ.1 0).toInt) ∧ 0 ≤ n.toInt ∧ n.toInt < (τ.1 0).toInt) ∧ (¬ i.toInt = j.toInt ∧ ¬ i.toInt = k.toInt ∧ ¬ i.toInt = n.toInt ∧ ¬ j.toInt = k.toInt ∧ ¬ j.toInt = n.toInt ∧ ¬ k.toInt = n.toInt) then (sgn (prd τ i.toInt.toNat j.toInt.toNat * prd τ k.toInt.toNat n.toInt.toNat - prd τ i.toInt.toNat k.toInt.toNat * prd τ j.toInt.toNat n.toInt.toNat), τ) else (-2, τ)
set_option maxHeartbeats 4000000 in
set_option maxRecDepth 100000 in
theorem c_X8_multiply (l : Launch) (G : GG) (q : Nat → Nat) (sz : Nat) (τ ξ : ST) (i : Int32) (a : Int32) (j : Int32) (b : Int32) (iN : Nat) (aN : Nat) (jN : Nat) (bN : Nat) (hi : i.toInt = (iN : Int)) (ha : a.toInt = (aN : Int)) (hj : j.toInt = (jN : Int)) (hb : b.toInt = (bN : Int)) (hi6 : iN < 6) (hj6 : jN < 6) (ha : aN ≤ 30) (hb : bN ≤ 30) (h_f : 0 ≤ (τ.1 2).toInt ∧ (τ.1 2).toInt ≤ 40) (h_s : ∀ d : Nat, d < 6 → 0 ≤ (τ.2.1 6 d).toInt ∧ (τ.2.1 6 d).toInt ≤ 100) : Met l yX8_multiply (WSb yX8_multiply cX8_multiply 8 (some .long)) (rmA 2 48) (va_Pc [.ref (q 0), .int i, .int a, .int j, .int b] (PW G 33 q sz (eM G q τ ξ))) (va_Ql (fun (r : Int64) (u : (ST × ST)) => r = prdF τ iN aN jN bN ∧ u = (τ, (sg ξ 1 (nI (mulC τ iN aN jN bN 100))))) (fun u => BW G 33 q (eM G q u.1 u.2)) (FA 33 q sz)) 0 0 (FA 33 q sz) := by
  refine Met_B (own := RX8) rfl (by decide) (Nat.le_of_ble_eq_true rfl) (fun p e s m args below meth c ls hsz C hW hr hk hl QQ hQ => ?_)
  subst hsz
  have hl : lv_has ls 8 [(0, .ref (q 0)), (1, .int i), (2, .int a), (3, .int j), (4, .int b)] := hl
  refine lv_aload_n C.1 C.2.1 dX8_multiply_0 rfl (lv_at hl 0 rfl) ?_
  refine lv_iconst C.1 C.2.1 (v := 0) dX8_multiply_1 (by decide) ?_
  refine mP_counted C hW dX8_multiply_2 (fun H locs hW => ?_)
  refine lv_lconst C.1 C.2.1 (v := 0) dX8_multiply_5 (by decide) ?_
  refine lv_lstore (lv' := [(5, .long 0), (0, .ref (q 0)), (1, .int i), (2, .int a), (3, .int j), (4, .int b)]) C.1 C.2.1 dX8_multiply_6 hl (by decide) rfl (fun ls hl => ?_)
  refine lv_iconst C.1 C.2.1 (v := 0) dX8_multiply_8 (by decide) ?_
  refine lv_istore (lv' := [(7, .int 0), (5, .long 0), (0, .ref (q 0)), (1, .int i), (2, .int a), (3, .int j), (4, .int b)]) C.1 C.2.1 dX8_multiply_9 hl (by decide) rfl (fun ls hl => ?_)
  have L_11_1 : ∀ (fuel : Nat) (t : Nat) (x5 : Int64) (x7 : Int32), 100 - t < fuel → (x7.toInt = (t : Int)) → (t ≤ 100) → (x5 = mulS τ iN aN jN bN t) → ∀ (H : Heap) (locs : List Loc) (ls : Array Slot), WB G 33 q (eM G q τ (sg ξ 1 (nI (mulC τ iN aN jN bN t)))) s H locs → lv_has ls 8 [(7, .int x7), (5, .long x5), (0, .ref (q 0)), (1, .int i), (2, .int a), (3, .int j), (4, .int b)] → W p l e (rmA 2 48) s m args below meth c H locs 0 0 QQ (F0 m 11 ls []) := by
    intro fuel; induction fuel with
    | zero => intro t x5 x7 hf; exact absurd hf (Nat.not_lt_zero _)
    | succ fuel ih =>
      intro t x5 x7 hf ht hle hs H locs ls hW hl
      refine lv_iload C.1 C.2.1 dX8_multiply_11 (lv_at hl 0 rfl) ?_
      refine lv_bipush C.1 C.2.1 (v := 100) dX8_multiply_13 (by decide) ?_
      refine lv_icmp_ge C.1 C.2.1 (tgt := 84) dX8_multiply_15 (by decide) (fun c_2 => ?_) (fun c_2 => ?_)
      · skip
        have k_2 := (tc_le (show (100 : Int32).toInt = 100 from by decide) ht).mp c_2
        refine lv_lload C.1 C.2.1 dX8_multiply_84 (lv_at hl 1 rfl) ?_
        refine lv_aload_n C.1 C.2.1 dX8_multiply_86 rfl (lv_at hl 2 rfl) ?_
        refine mG_gains C hW dX8_multiply_87 ?_
        refine lv_iload_n C.1 C.2.1 dX8_multiply_90 rfl (lv_at hl 3 rfl) ?_
        refine mL_gains C hW iN (hi.trans (by omega)) (by omega) (v := (τ.2.1 3 iN)) rfl dX8_multiply_91 ?_
        refine lv_i2l C.1 C.2.1 dX8_multiply_92 rfl ?_
        refine lv_lmul C.1 C.2.1 dX8_multiply_93 ?_
        refine lv_aload_n C.1 C.2.1 dX8_multiply_94 rfl (lv_at hl 2 rfl) ?_
        refine mG_gains C hW dX8_multiply_95 ?_
        refine lv_iload_n C.1 C.2.1 dX8_multiply_98 rfl (lv_at hl 5 rfl) ?_
        refine mL_gains C hW jN (hj.trans (by omega)) (by omega) (v := (τ.2.1 3 jN)) rfl dX8_multiply_99 ?_
        refine lv_i2l C.1 C.2.1 dX8_multiply_100 rfl ?_
        refine lv_lmul C.1 C.2.1 dX8_multiply_101 ?_
        subst hQ
        exact r_lret (τ, (sg ξ 1 (nI (mulC τ iN aN jN bN t)))) C hW hr hk dX8_multiply_102 (⟨rfl, rfl⟩)
      · skip
        have k_2 := (tn_le (show (100 : Int32).toInt = 100 from by decide) ht).mp c_2
        refine lv_aload_n C.1 C.2.1 dX8_multiply_18 rfl (lv_at hl 2 rfl) ?_
        refine lv_iload_n C.1 C.2.1 dX8_multiply_19 rfl (lv_at hl 3 rfl) ?_
        refine lv_iload C.1 C.2.1 dX8_multiply_20 (lv_at hl 0 rfl) ?_
        refine lv_iload_n C.1 C.2.1 dX8_multiply_22 rfl (lv_at hl 4 rfl) ?_
        refine lv_iadd C.1 C.2.1 dX8_multiply_23 ?_
        refine go_i hW (run_V (o := 0) (As := [.int i, .int (x7 + a)]) (rest := []) C hW (by decide) rfl rfl (c_X8_isSample l G q _ τ (sg ξ 1 (nI (mulC τ iN aN jN bN t))) i (x7 + a) iN (t + aN) (hi.trans (by omega)) ((ti_add ht ha (by omega) (by omega)).trans (by omega)) (by omega) (by omega) h_f) (cw_V 2 C bL_X8_160 bI_X8_isSample bV_X8_isSample bN_X8 bC_X8_isSample ⟨rfl, rfl⟩ (by decide +kernel) ⟨Nat.le_of_ble_eq_true rfl, Nat.le_of_ble_eq_true rfl⟩) rfl hl.1 rfl (by decide) dX8_multiply_24 ⟨Nat.le_refl _, Nat.le_refl _⟩) (fun r_3 u_3 H locs hp_3 hW => ?_)
        rcases hp_3 with ⟨rfl, rfl, k_3⟩ | ⟨rfl, rfl, k_3⟩
        · skip
          have hW : WB G 33 q (eM G q τ (sg ξ 1 (nI (mulC τ iN aN jN bN t)))) s H locs := hW
          have ks := k_3
          refine lv_if_eq C.1 C.2.1 (tgt := 78) dX8_multiply_27 (by decide) (fun c => absurd c (by decide)) (fun _ => ?_)
          refine lv_aload_n C.1 C.2.1 dX8_multiply_30 rfl (lv_at hl 2 rfl) ?_
          refine lv_iload_n C.1 C.2.1 dX8_multiply_31 rfl (lv_at hl 5 rfl) ?_
          refine lv_iload C.1 C.2.1 dX8_multiply_32 (lv_at hl 0 rfl) ?_
          refine lv_iload C.1 C.2.1 dX8_multiply_34 (lv_at hl 6 rfl) ?_
          refine lv_iadd C.1 C.2.1 dX8_multiply_36 ?_
          refine go_i hW (run_V (o := 0) (As := [.int j, .int (x7 + b)]) (rest := []) C hW (by decide) rfl rfl (c_X8_isSample l G q _ τ (sg ξ 1 (nI (mulC τ iN aN jN bN t))) j (x7 + b) jN (t + bN) (hj.trans (by omega)) ((ti_add ht hb (by omega) (by omega)).trans (by omega)) (by omega) (by omega) h_f) (cw_V 2 C bL_X8_160 bI_X8_isSample bV_X8_isSample bN_X8 bC_X8_isSample ⟨rfl, rfl⟩ (by decide +kernel) ⟨Nat.le_of_ble_eq_true rfl, Nat.le_of_ble_eq_true rfl⟩) rfl hl.1 rfl (by decide) dX8_multiply_37 ⟨Nat.le_refl _, Nat.le_refl _⟩) (fun r_5 u_5 H locs hp_5 hW => ?_)
          rcases hp_5 with ⟨rfl, rfl, k_5⟩ | ⟨rfl, rfl, k_5⟩
          · skip
            have hW : WB G 33 q (eM G q τ (sg ξ 1 (nI (mulC τ iN aN jN bN t)))) s H locs := hW
            obtain ⟨es, ec⟩ := mul_y (τ := τ) (i := iN) (a := aN) (j := jN) (b := bN) (t := t) ks k_5
            have l1 := ks.2.1
            have l2 := k_5.2.1
            have l3 := h_s iN hi6
            have l4 := h_s jN hj6
            refine lv_if_eq C.1 C.2.1 (tgt := 78) dX8_multiply_40 (by decide) (fun c => absurd c (by decide)) (fun _ => ?_)
            refine lv_aload_n C.1 C.2.1 dX8_multiply_43 rfl (lv_at hl 2 rfl) ?_
            refine lv_dup C.1 C.2.1 dX8_multiply_44 rfl ?_
            refine mG_counted C hW (v := (nI (mulC τ iN aN jN bN t))) rfl dX8_multiply_45 ?_
            refine lv_iconst C.1 C.2.1 (v := 1) dX8_multiply_48 (by decide) ?_
            refine lv_iadd C.1 C.2.1 dX8_multiply_49 ?_
            refine mP_counted C hW dX8_multiply_50 (fun H locs hW => ?_)
            rw [sg_sg] at hW
            refine lv_lload C.1 C.2.1 dX8_multiply_53 (lv_at hl 1 rfl) ?_
            refine lv_aload_n C.1 C.2.1 dX8_multiply_55 rfl (lv_at hl 2 rfl) ?_
            refine lv_iload_n C.1 C.2.1 dX8_multiply_56 rfl (lv_at hl 3 rfl) ?_
            refine lv_iload C.1 C.2.1 dX8_multiply_57 (lv_at hl 0 rfl) ?_
            refine lv_iload_n C.1 C.2.1 dX8_multiply_59 rfl (lv_at hl 4 rfl) ?_
            refine lv_iadd C.1 C.2.1 dX8_multiply_60 ?_
            refine go_l hW (run_V (o := 0) (As := [.int i, .int (x7 + a)]) (rest := [.long x5]) C hW (by decide) rfl rfl (c_X8_sampleAt l G q _ τ (sg ξ 1 ((nI (mulC τ iN aN jN bN t)) + 1)) i (x7 + a) iN (t + aN) (hi.trans (by omega)) ((ti_add ht ha (by omega) (by omega)).trans (by omega)) (by omega) (by omega)) (cw_V 2 C bL_X8_164 bI_X8_sampleAt bV_X8_sampleAt bN_X8 bC_X8_sampleAt ⟨rfl, rfl⟩ (by decide +kernel) ⟨Nat.le_of_ble_eq_true rfl, Nat.le_of_ble_eq_true rfl⟩) rfl hl.1 rfl (by decide) dX8_multiply_61 ⟨Nat.le_refl _, Nat.le_refl _⟩) (fun r_7 u_7 H locs hp_7 hW => ?_)
            rcases hp_7 with ⟨rfl, rfl⟩
            have hW : WB G 33 q (eM G q τ (sg ξ 1 ((nI (mulC τ iN aN jN bN t)) + 1))) s H locs := hW
            refine lv_aload_n C.1 C.2.1 dX8_multiply_64 rfl (lv_at hl 2 rfl) ?_
            refine lv_iload_n C.1 C.2.1 dX8_multiply_65 rfl (lv_at hl 5 rfl) ?_
            refine lv_iload C.1 C.2.1 dX8_multiply_66 (lv_at hl 0 rfl) ?_
            refine lv_iload C.1 C.2.1 dX8_multiply_68 (lv_at hl 6 rfl) ?_
            refine lv_iadd C.1 C.2.1 dX8_multiply_70 ?_
            refine go_l hW (run_V (o := 0) (As := [.int j, .int (x7 + b)]) (rest := [.long (smpV τ iN (t + aN)), .long x5]) C hW (by decide) rfl rfl (c_X8_sampleAt l G q _ τ (sg ξ 1 ((nI (mulC τ iN aN jN bN t)) + 1)) j (x7 + b) jN (t + bN) (hj.trans (by omega)) ((ti_add ht hb (by omega) (by omega)).trans (by omega)) (by omega) (by omega)) (cw_V 2 C bL_X8_164 bI_X8_sampleAt bV_X8_sampleAt bN_X8 bC_X8_sampleAt ⟨rfl, rfl⟩ (by decide +kernel) ⟨Nat.le_of_ble_eq_true rfl, Nat.le_of_ble_eq_true rfl⟩) rfl hl.1 rfl (by decide) dX8_multiply_71 ⟨Nat.le_refl _, Nat.le_refl _⟩) (fun r_8 u_8 H locs hp_8 hW => ?_)
            rcases hp_8 with ⟨rfl, rfl⟩
            have hW : WB G 33 q (eM G q τ (sg ξ 1 ((nI (mulC τ iN aN jN bN t)) + 1))) s H locs := hW
            refine lv_lmul C.1 C.2.1 dX8_multiply_74 ?_
            refine lv_ladd C.1 C.2.1 dX8_multiply_75 ?_
            refine lv_lstore (lv' := [(5, .long (x5 + ((smpV τ iN (t + aN)) * (smpV τ jN (t + bN))))), (7, .int x7), (0, .ref (q 0)), (1, .int i), (2, .int a), (3, .int j), (4, .int b)]) C.1 C.2.1 dX8_multiply_76 hl (by decide) rfl (fun ls hl => ?_)
            refine lv_iinc (v := (x7 + 1)) (lv' := [(7, .int (x7 + 1)), (5, .long (x5 + ((smpV τ iN (t + aN)) * (smpV τ jN (t + bN))))), (0, .ref (q 0)), (1, .int i), (2, .int a), (3, .int j), (4, .int b)]) C.1 C.2.1 dX8_multiply_78 hl (k := 1) rfl rfl (by decide) rfl (fun ls hl => ?_)
            refine lv_goto C.1 C.2.1 (tgt := 11) dX8_multiply_81 (by decide) ?_
            exact ih (t + 1) (x5 + ((smpV τ iN (t + aN)) * (smpV τ jN (t + bN)))) (x7 + 1) (by omega) ((ti_add ht (show (1 : Int32).toInt = 1 from by decide) (by omega) (by omega)).trans (by omega)) (by omega) (by rw [es, hs]) _ _ _ (by rw [ec]; exact hW) (lv_sub hl [0, 1, 2, 3, 4, 5, 6] rfl)
          · skip
            have hW : WB G 33 q (eM G q τ (sg ξ 1 (nI (mulC τ iN aN jN bN t)))) s H locs := hW
            obtain ⟨es, ec⟩ := mul_n (τ := τ) (i := iN) (a := aN) (j := jN) (b := bN) (t := t) (fun h => k_5 h.2)
            refine lv_if_eq C.1 C.2.1 (tgt := 78) dX8_multiply_40 (by decide) (fun _ => ?_) (fun c => absurd c (by decide))
            refine lv_iinc (v := (x7 + 1)) (lv' := [(7, .int (x7 + 1)), (5, .long x5), (0, .ref (q 0)), (1, .int i), (2, .int a), (3, .int j), (4, .int b)]) C.1 C.2.1 dX8_multiply_78 hl (k := 0) rfl rfl (by decide) rfl (fun ls hl => ?_)
            refine lv_goto C.1 C.2.1 (tgt := 11) dX8_multiply_81 (by decide) ?_
            exact ih (t + 1) x5 (x7 + 1) (by omega) ((ti_add ht (show (1 : Int32).toInt = 1 from by decide) (by omega) (by omega)).trans (by omega)) (by omega) (by rw [es, hs]) _ _ _ (by rw [ec]; exact hW) (lv_sub hl [0, 1, 2, 3, 4, 5, 6] rfl)
        · skip
          have hW : WB G 33 q (eM G q τ (sg ξ 1 (nI (mulC τ iN aN jN bN t)))) s H locs := hW
          obtain ⟨es, ec⟩ := mul_n (τ := τ) (i := iN) (a := aN) (j := jN) (b := bN) (t := t) (fun h => k_3 h.1)
          refine lv_if_eq C.1 C.2.1 (tgt := 78) dX8_multiply_27 (by decide) (fun _ => ?_) (fun c => absurd c (by decide))
          refine lv_iinc (v := (x7 + 1)) (lv' := [(7, .int (x7 + 1)), (5, .long x5), (0, .ref (q 0)), (1, .int i), (2, .int a), (3, .int j), (4, .int b)]) C.1 C.2.1 dX8_multiply_78 hl (k := 0) rfl rfl (by decide) rfl (fun ls hl => ?_)
          refine lv_goto C.1 C.2.1 (tgt := 11) dX8_multiply_81 (by decide) ?_
          exact ih (t + 1) x5 (x7 + 1) (by omega) ((ti_add ht (show (1 : Int32).toInt = 1 from by decide) (by omega) (by omega)).trans (by omega)) (by omega) (by rw [es, hs]) _ _ _ (by rw [ec]; exact hW) (lv_sub hl [0, 1, 2, 3, 4, 5, 6] rfl)
  exact L_11_1 _ 0 0 0 (Nat.lt_succ_self _) (by decide) (by omega) rfl _ _ _ hW (lv_sub hl [0, 1, 2, 3, 4, 5, 6] rfl)
set_option maxHeartbeats 4000000 in
set_option maxRecDepth 100000 in
theorem c_X8_productOf (l : Launch) (G : GG) (q : Nat → Nat) (sz : Nat) (τ ξ : ST) (i : Int32) (j : Int32) (iN : Nat) (jN : Nat) (hi : i.toInt = (iN : Int)) (hj : j.toInt = (jN : Int)) (hi6 : iN < 6) (hj6 : jN < 6) (h_l : ∀ d : Nat, d < 6 → 0 ≤ (τ.2.1 2 d).toInt ∧ (τ.2.1 2 d).toInt ≤ 30) (h_f : 0 ≤ (τ.1 2).toInt ∧ (τ.1 2).toInt ≤ 40) (h_s : ∀ d : Nat, d < 6 → 0 ≤ (τ.2.1 6 d).toInt ∧ (τ.2.1 6 d).toInt ≤ 100) : Met l yX8_productOf (WSb yX8_productOf cX8_productOf 3 (some .long)) (rmA 3 75) (va_Pc [.ref (q 0), .int i, .int j] (PW G 33 q sz (eM G q τ ξ))) (va_Ql (fun (r : Int64) (u : (ST × ST)) => r = prd τ iN jN ∧ u = (τ, (sg ξ 1 (nI (tck τ iN jN))))) (fun u => BW G 33 q (eM G q u.1 u.2)) (FA 33 q sz)) 0 0 (FA 33 q sz) := by
  refine Met_B (own := RX8) rfl (by decide) (Nat.le_of_ble_eq_true rfl) (fun p e s m args below meth c ls hsz C hW hr hk hl QQ hQ => ?_)
  subst hsz
  have hl : lv_has ls 3 [(0, .ref (q 0)), (1, .int i), (2, .int j)] := hl
  have l1 := h_l iN hi6
  have l2 := h_l jN hj6
  refine lv_aload_n C.1 C.2.1 dX8_productOf_0 rfl (lv_at hl 0 rfl) ?_
  refine lv_iload_n C.1 C.2.1 dX8_productOf_1 rfl (lv_at hl 1 rfl) ?_
  refine lv_aload_n C.1 C.2.1 dX8_productOf_2 rfl (lv_at hl 0 rfl) ?_
  refine mG_delays C hW dX8_productOf_3 ?_
  refine lv_iload_n C.1 C.2.1 dX8_productOf_6 rfl (lv_at hl 1 rfl) ?_
  refine mL_delays C hW iN (hi.trans (by omega)) (by omega) (v := (τ.2.1 2 iN)) rfl dX8_productOf_7 ?_
  refine lv_iload_n C.1 C.2.1 dX8_productOf_8 rfl (lv_at hl 2 rfl) ?_
  refine lv_aload_n C.1 C.2.1 dX8_productOf_9 rfl (lv_at hl 0 rfl) ?_
  refine mG_delays C hW dX8_productOf_10 ?_
  refine lv_iload_n C.1 C.2.1 dX8_productOf_13 rfl (lv_at hl 2 rfl) ?_
  refine mL_delays C hW jN (hj.trans (by omega)) (by omega) (v := (τ.2.1 2 jN)) rfl dX8_productOf_14 ?_
  refine go_l hW (run_V (o := 0) (As := [.int i, .int (τ.2.1 2 iN), .int j, .int (τ.2.1 2 jN)]) (rest := []) C hW (by decide) rfl rfl (c_X8_multiply l G q _ τ ξ i (τ.2.1 2 iN) j (τ.2.1 2 jN) iN ((((τ.2.1 2 iN)).toInt).toNat) jN ((((τ.2.1 2 jN)).toInt).toNat) (hi.trans (by omega)) ((rfl : ((τ.2.1 2 iN)).toInt = ((τ.2.1 2 iN)).toInt).trans (by omega)) (hj.trans (by omega)) ((rfl : ((τ.2.1 2 jN)).toInt = ((τ.2.1 2 jN)).toInt).trans (by omega)) (by omega) (by omega) ((rfl : ((τ.2.1 2 iN)).toInt = ((τ.2.1 2 iN)).toInt).trans (by omega)) ((rfl : ((τ.2.1 2 jN)).toInt = ((τ.2.1 2 jN)).toInt).trans (by omega)) h_f h_s) (cw_V 4 C bL_X8_168 bI_X8_multiply bV_X8_multiply bN_X8 bC_X8_multiply ⟨rfl, rfl⟩ (by decide +kernel) ⟨Nat.le_of_ble_eq_true rfl, Nat.le_of_ble_eq_true rfl⟩) rfl hl.1 rfl (by decide) dX8_productOf_15 ⟨Nat.le_refl _, Nat.le_refl _⟩) (fun r_1 u_1 H locs hp_1 hW => ?_)
  rcases hp_1 with ⟨rfl, rfl⟩
  have hW : WB G 33 q (eM G q τ (sg ξ 1 (nI (mulC τ iN ((((τ.2.1 2 iN)).toInt).toNat) jN ((((τ.2.1 2 jN)).toInt).toNat) 100)))) s H locs := hW
  subst hQ
  exact r_lret (τ, (sg ξ 1 (nI (mulC τ iN ((((τ.2.1 2 iN)).toInt).toNat) jN ((((τ.2.1 2 jN)).toInt).toNat) 100)))) C hW hr hk dX8_productOf_18 (⟨rfl, rfl⟩)
set_option maxHeartbeats 4000000 in
set_option maxRecDepth 100000 in
theorem c_X8_ticks (l : Launch) (G : GG) (q : Nat → Nat) (sz : Nat) (τ ξ : ST) (i : Int32) (j : Int32) (h_d : 0 ≤ (τ.1 0).toInt ∧ (τ.1 0).toInt ≤ 6) (h_l : ∀ d : Nat, d < 6 → 0 ≤ (τ.2.1 2 d).toInt ∧ (τ.2.1 2 d).toInt ≤ 30) (h_f : 0 ≤ (τ.1 2).toInt ∧ (τ.1 2).toInt ≤ 40) (h_s : ∀ d : Nat, d < 6 → 0 ≤ (τ.2.1 6 d).toInt ∧ (τ.2.1 6 d).toInt ≤ 100) : Met l yX8_ticks (WSb yX8_ticks cX8_ticks 5 (some .int)) (rmA 4 97) (va_Pc [.ref (q 0), .int i, .int j] (PW G 33 q sz (eM G q τ ξ))) (va_Qi (fun (r : Int32) (u : (ST × ST)) => sp_ticks τ i j = (r, u.1)) (fun u => BW G 33 q (eM G q u.1 u.2)) (FA 33 q sz)) 0 0 (FA 33 q sz) := by
  refine Met_B (own := RX8) rfl (by decide) (Nat.le_of_ble_eq_true rfl) (fun p e s m args below meth c ls hsz C hW hr hk hl QQ hQ => ?_)
  subst hsz
  have hl : lv_has ls 5 [(0, .ref (q 0)), (1, .int i), (2, .int j)] := hl
  refine lv_aload_n C.1 C.2.1 dX8_ticks_0 rfl (lv_at hl 0 rfl) ?_
  refine lv_iload_n C.1 C.2.1 dX8_ticks_1 rfl (lv_at hl 1 rfl) ?_
  refine go_i hW (run_V (o := 0) (As := [.int i]) (rest := []) C hW (by decide) rfl rfl (c_X8_isDish l G q _ τ ξ i  h_d) (cw_V 1 C bL_X8_129 bI_X8_isDish bV_X8_isDish bN_X8 bC_X8_isDish ⟨rfl, rfl⟩ (by decide +kernel) ⟨Nat.le_of_ble_eq_true rfl, Nat.le_of_ble_eq_true rfl⟩) rfl hl.1 rfl (by decide) dX8_ticks_2 ⟨Nat.le_refl _, Nat.le_refl _⟩) (fun r_1 u_1 H locs hp_1 hW => ?_)
  rcases hp_1 with ⟨rfl, rfl, k_1_0, k_1_1⟩ | ⟨rfl, rfl, k_1⟩
  · skip
    have hW : WB G 33 q (eM G q τ ξ) s H locs := hW
    refine lv_if_eq C.1 C.2.1 (tgt := 16) dX8_ticks_5 (by decide) (fun c => absurd c (by decide)) (fun _ => ?_)
    refine lv_aload_n C.1 C.2.1 dX8_ticks_8 rfl (lv_at hl 0 rfl) ?_
    refine lv_iload_n C.1 C.2.1 dX8_ticks_9 rfl (lv_at hl 2 rfl) ?_
    refine go_i hW (run_V (o := 0) (As := [.int j]) (rest := []) C hW (by decide) rfl rfl (c_X8_isDish l G q _ τ ξ j  h_d) (cw_V 1 C bL_X8_129 bI_X8_isDish bV_X8_isDish bN_X8 bC_X8_isDish ⟨rfl, rfl⟩ (by decide +kernel) ⟨Nat.le_of_ble_eq_true rfl, Nat.le_of_ble_eq_true rfl⟩) rfl hl.1 rfl (by decide) dX8_ticks_10 ⟨Nat.le_refl _, Nat.le_refl _⟩) (fun r_3 u_3 H locs hp_3 hW => ?_)
    rcases hp_3 with ⟨rfl, rfl, k_3_0, k_3_1⟩ | ⟨rfl, rfl, k_3⟩
    · skip
      have hW : WB G 33 q (eM G q τ ξ) s H locs := hW
      refine lv_if_ne C.1 C.2.1 (tgt := 19) dX8_ticks_13 (by decide) (fun _ => ?_) (fun c => absurd c (by decide))
      refine lv_aload_n C.1 C.2.1 dX8_ticks_19 rfl (lv_at hl 0 rfl) ?_
      refine lv_iload_n C.1 C.2.1 dX8_ticks_20 rfl (lv_at hl 1 rfl) ?_
      refine lv_iload_n C.1 C.2.1 dX8_ticks_21 rfl (lv_at hl 2 rfl) ?_
      refine go_l hW (run_V (o := 0) (As := [.int i, .int j]) (rest := []) C hW (by decide) rfl rfl (c_X8_productOf l G q _ τ ξ i j (((i).toInt).toNat) (((j).toInt).toNat) ((rfl : (i).toInt = (i).toInt).trans (by omega)) ((rfl : (j).toInt = (j).toInt).trans (by omega)) (by omega) (by omega) h_l h_f h_s) (cw_V 2 C bL_X8_172 bI_X8_productOf bV_X8_productOf bN_X8 bC_X8_productOf ⟨rfl, rfl⟩ (by decide +kernel) ⟨Nat.le_of_ble_eq_true rfl, Nat.le_of_ble_eq_true rfl⟩) rfl hl.1 rfl (by decide) dX8_ticks_22 ⟨Nat.le_refl _, Nat.le_refl _⟩) (fun r_5 u_5 H locs hp_5 hW => ?_)
      rcases hp_5 with ⟨rfl, rfl⟩
      have hW : WB G 33 q (eM G q τ (sg ξ 1 (nI (tck τ (((i).toInt).toNat) (((j).toInt).toNat))))) s H locs := hW
      refine lv_lstore_n (lv' := [(3, .long (prd τ (((i).toInt).toNat) (((j).toInt).toNat))), (0, .ref (q 0)), (1, .int i), (2, .int j)]) C.1 C.2.1 dX8_ticks_25 rfl hl (by decide) rfl (fun ls hl => ?_)
      refine lv_aload_n C.1 C.2.1 dX8_ticks_26 rfl (lv_at hl 1 rfl) ?_
      refine mG_counted C hW (v := (nI (tck τ (((i).toInt).toNat) (((j).toInt).toNat)))) rfl dX8_ticks_27 ?_
      subst hQ
      exact r_iret (τ, (sg ξ 1 (nI (tck τ (((i).toInt).toNat) (((j).toInt).toNat))))) C hW hr hk dX8_ticks_30 (show sp_ticks τ i j = ((nI (tck τ (((i).toInt).toNat) (((j).toInt).toNat))), τ) from by unfold sp_ticks; repeat (first | rw [if_pos (by omega)] | rw [if_neg (by omega)]))
    · skip
      have hW : WB G 33 q (eM G q τ ξ) s H locs := hW
      refine lv_if_ne C.1 C.2.1 (tgt := 19) dX8_ticks_13 (by decide) (fun c => absurd c (by decide)) (fun _ => ?_)
      refine lv_bipush C.1 C.2.1 (v := (-2)) dX8_ticks_16 (by decide) ?_
      subst hQ
      exact r_iret (τ, ξ) C hW hr hk dX8_ticks_18 (show sp_ticks τ i j = ((-2), τ) from by unfold sp_ticks; repeat (first | rw [if_pos (by omega)] | rw [if_neg (by omega)]))
  · skip
    have hW : WB G 33 q (eM G q τ ξ) s H locs := hW
    refine lv_if_eq C.1 C.2.1 (tgt := 16) dX8_ticks_5 (by decide) (fun _ => ?_) (fun c => absurd c (by decide))
    refine lv_bipush C.1 C.2.1 (v := (-2)) dX8_ticks_16 (by decide) ?_
    subst hQ
    exact r_iret (τ, ξ) C hW hr hk dX8_ticks_18 (show sp_ticks τ i j = ((-2), τ) from by unfold sp_ticks; repeat (first | rw [if_pos (by omega)] | rw [if_neg (by omega)]))
set_option maxHeartbeats 4000000 in
set_option maxRecDepth 100000 in
theorem c_X8_product (l : Launch) (G : GG) (q : Nat → Nat) (sz : Nat) (τ ξ : ST) (i : Int32) (j : Int32) (h_d : 0 ≤ (τ.1 0).toInt ∧ (τ.1 0).toInt ≤ 6) (h_l : ∀ d : Nat, d < 6 → 0 ≤ (τ.2.1 2 d).toInt ∧ (τ.2.1 2 d).toInt ≤ 30) (h_f : 0 ≤ (τ.1 2).toInt ∧ (τ.1 2).toInt ≤ 40) (h_s : ∀ d : Nat, d < 6 → 0 ≤ (τ.2.1 6 d).toInt ∧ (τ.2.1 6 d).toInt ≤ 100) : Met l yX8_product (WSb yX8_product cX8_product 3 (some .long)) (rmA 4 97) (va_Pc [.ref (q 0), .int i, .int j] (PW G 33 q sz (eM G q τ ξ))) (va_Ql (fun (r : Int64) (u : (ST × ST)) => sp_product τ i j = (r, u.1)) (fun u => BW G 33 q (eM G q u.1 u.2)) (FA 33 q sz)) 0 0 (FA 33 q sz) := by
  refine Met_B (own := RX8) rfl (by decide) (Nat.le_of_ble_eq_true rfl) (fun p e s m args below meth c ls hsz C hW hr hk hl QQ hQ => ?_)
  subst hsz
  have hl : lv_has ls 3 [(0, .ref (q 0)), (1, .int i), (2, .int j)] := hl
  refine lv_aload_n C.1 C.2.1 dX8_product_0 rfl (lv_at hl 0 rfl) ?_
  refine lv_iload_n C.1 C.2.1 dX8_product_1 rfl (lv_at hl 1 rfl) ?_
  refine go_i hW (run_V (o := 0) (As := [.int i]) (rest := []) C hW (by decide) rfl rfl (c_X8_isDish l G q _ τ ξ i  h_d) (cw_V 1 C bL_X8_129 bI_X8_isDish bV_X8_isDish bN_X8 bC_X8_isDish ⟨rfl, rfl⟩ (by decide +kernel) ⟨Nat.le_of_ble_eq_true rfl, Nat.le_of_ble_eq_true rfl⟩) rfl hl.1 rfl (by decide) dX8_product_2 ⟨Nat.le_refl _, Nat.le_refl _⟩) (fun r_1 u_1 H locs hp_1 hW => ?_)
  rcases hp_1 with ⟨rfl, rfl, k_1_0, k_1_1⟩ | ⟨rfl, rfl, k_1⟩
  · skip
    have hW : WB G 33 q (eM G q τ ξ) s H locs := hW
    refine lv_if_eq C.1 C.2.1 (tgt := 25) dX8_product_5 (by decide) (fun c => absurd c (by decide)) (fun _ => ?_)
    refine lv_aload_n C.1 C.2.1 dX8_product_8 rfl (lv_at hl 0 rfl) ?_
    refine lv_iload_n C.1 C.2.1 dX8_product_9 rfl (lv_at hl 2 rfl) ?_
    refine go_i hW (run_V (o := 0) (As := [.int j]) (rest := []) C hW (by decide) rfl rfl (c_X8_isDish l G q _ τ ξ j  h_d) (cw_V 1 C bL_X8_129 bI_X8_isDish bV_X8_isDish bN_X8 bC_X8_isDish ⟨rfl, rfl⟩ (by decide +kernel) ⟨Nat.le_of_ble_eq_true rfl, Nat.le_of_ble_eq_true rfl⟩) rfl hl.1 rfl (by decide) dX8_product_10 ⟨Nat.le_refl _, Nat.le_refl _⟩) (fun r_3 u_3 H locs hp_3 hW => ?_)
    rcases hp_3 with ⟨rfl, rfl, k_3_0, k_3_1⟩ | ⟨rfl, rfl, k_3⟩
    · skip
      have hW : WB G 33 q (eM G q τ ξ) s H locs := hW
      refine lv_if_eq C.1 C.2.1 (tgt := 25) dX8_product_13 (by decide) (fun c => absurd c (by decide)) (fun _ => ?_)
      refine lv_aload_n C.1 C.2.1 dX8_product_16 rfl (lv_at hl 0 rfl) ?_
      refine lv_iload_n C.1 C.2.1 dX8_product_17 rfl (lv_at hl 1 rfl) ?_
      refine lv_iload_n C.1 C.2.1 dX8_product_18 rfl (lv_at hl 2 rfl) ?_
      refine go_l hW (run_V (o := 0) (As := [.int i, .int j]) (rest := []) C hW (by decide) rfl rfl (c_X8_productOf l G q _ τ ξ i j (((i).toInt).toNat) (((j).toInt).toNat) ((rfl : (i).toInt = (i).toInt).trans (by omega)) ((rfl : (j).toInt = (j).toInt).trans (by omega)) (by omega) (by omega) h_l h_f h_s) (cw_V 2 C bL_X8_172 bI_X8_productOf bV_X8_productOf bN_X8 bC_X8_productOf ⟨rfl, rfl⟩ (by decide +kernel) ⟨Nat.le_of_ble_eq_true rfl, Nat.le_of_ble_eq_true rfl⟩) rfl hl.1 rfl (by decide) dX8_product_19 ⟨Nat.le_refl _, Nat.le_refl _⟩) (fun r_5 u_5 H locs hp_5 hW => ?_)
      rcases hp_5 with ⟨rfl, rfl⟩
      have hW : WB G 33 q (eM G q τ (sg ξ 1 (nI (tck τ (((i).toInt).toNat) (((j).toInt).toNat))))) s H locs := hW
      refine lv_goto C.1 C.2.1 (tgt := 28) dX8_product_22 (by decide) ?_
      subst hQ
      exact r_lret (τ, (sg ξ 1 (nI (tck τ (((i).toInt).toNat) (((j).toInt).toNat))))) C hW hr hk dX8_product_28 (show sp_product τ i j = ((prd τ (((i).toInt).toNat) (((j).toInt).toNat)), τ) from by unfold sp_product; repeat (first | rw [if_pos (by omega)] | rw [if_neg (by omega)]))
    · skip
      have hW : WB G 33 q (eM G q τ ξ) s H locs := hW
      refine lv_if_eq C.1 C.2.1 (tgt := 25) dX8_product_13 (by decide) (fun _ => ?_) (fun c => absurd c (by decide))
      refine lv_ldc2 C.1 C.2.1 C.2.2.2.1 (C.2.2.2.2.1 _ bQ_X8_175) dX8_product_25 ?_
      subst hQ
      exact r_lret (τ, ξ) C hW hr hk dX8_product_28 (show sp_product τ i j = ((-9223372036854775808), τ) from by unfold sp_product; repeat (first | rw [if_pos (by omega)] | rw [if_neg (by omega)]))
  · skip
    have hW : WB G 33 q (eM G q τ ξ) s H locs := hW
    refine lv_if_eq C.1 C.2.1 (tgt := 25) dX8_product_5 (by decide) (fun _ => ?_) (fun c => absurd c (by decide))
    refine lv_ldc2 C.1 C.2.1 C.2.2.2.1 (C.2.2.2.2.1 _ bQ_X8_175) dX8_product_25 ?_
    subst hQ
    exact r_lret (τ, ξ) C hW hr hk dX8_product_28 (show sp_product τ i j = ((-9223372036854775808), τ) from by unfold sp_product; repeat (first | rw [if_pos (by omega)] | rw [if_neg (by omega)]))
set_option maxHeartbeats 4000000 in
set_option maxRecDepth 100000 in
theorem c_X8_three (l : Launch) (G : GG) (q : Nat → Nat) (sz : Nat) (τ ξ : ST) (i : Int32) (j : Int32) (k : Int32) (h_d : 0 ≤ (τ.1 0).toInt ∧ (τ.1 0).toInt ≤ 6) (h_l : ∀ d : Nat, d < 6 → 0 ≤ (τ.2.1 2 d).toInt ∧ (τ.2.1 2 d).toInt ≤ 30) (h_f : 0 ≤ (τ.1 2).toInt ∧ (τ.1 2).toInt ≤ 40) (h_s : ∀ d : Nat, d < 6 → 0 ≤ (τ.2.1 6 d).toInt ∧ (τ.2.1 6 d).toInt ≤ 100) : Met l yX8_three (WSb yX8_three cX8_three 4 (some .int)) (rmA 4 97) (va_Pc [.ref (q 0), .int i, .int j, .int k] (PW G 33 q sz (eM G q τ ξ))) (va_Qi (fun (r : Int32) (u : (ST × ST)) => sp_three τ i j k = (r, u.1)) (fun u => BW G 33 q (eM G q u.1 u.2)) (FA 33 q sz)) 0 0 (FA 33 q sz) := by
  refine Met_B (own := RX8) rfl (by decide) (Nat.le_of_ble_eq_true rfl) (fun p e s m args below meth c ls hsz C hW hr hk hl QQ hQ => ?_)
  subst hsz
  have hl : lv_has ls 4 [(0, .ref (q 0)), (1, .int i), (2, .int j), (3, .int k)] := hl
  refine lv_aload_n C.1 C.2.1 dX8_three_0 rfl (lv_at hl 0 rfl) ?_
  refine lv_iload_n C.1 C.2.1 dX8_three_1 rfl (lv_at hl 1 rfl) ?_
  refine go_i hW (run_V (o := 0) (As := [.int i]) (rest := []) C hW (by decide) rfl rfl (c_X8_isDish l G q _ τ ξ i  h_d) (cw_V 1 C bL_X8_129 bI_X8_isDish bV_X8_isDish bN_X8 bC_X8_isDish ⟨rfl, rfl⟩ (by decide +kernel) ⟨Nat.le_of_ble_eq_true rfl, Nat.le_of_ble_eq_true rfl⟩) rfl hl.1 rfl (by decide) dX8_three_2 ⟨Nat.le_refl _, Nat.le_refl _⟩) (fun r_1 u_1 H locs hp_1 hW => ?_)
  rcases hp_1 with ⟨rfl, rfl, k_1_0, k_1_1⟩ | ⟨rfl, rfl, k_1⟩
  · skip
    have hW : WB G 33 q (eM G q τ ξ) s H locs := hW
    refine lv_if_eq C.1 C.2.1 (tgt := 39) dX8_three_5 (by decide) (fun c => absurd c (by decide)) (fun _ => ?_)
    refine lv_aload_n C.1 C.2.1 dX8_three_8 rfl (lv_at hl 0 rfl) ?_
    refine lv_iload_n C.1 C.2.1 dX8_three_9 rfl (lv_at hl 2 rfl) ?_
    refine go_i hW (run_V (o := 0) (As := [.int j]) (rest := []) C hW (by decide) rfl rfl (c_X8_isDish l G q _ τ ξ j  h_d) (cw_V 1 C bL_X8_129 bI_X8_isDish bV_X8_isDish bN_X8 bC_X8_isDish ⟨rfl, rfl⟩ (by decide +kernel) ⟨Nat.le_of_ble_eq_true rfl, Nat.le_of_ble_eq_true rfl⟩) rfl hl.1 rfl (by decide) dX8_three_10 ⟨Nat.le_refl _, Nat.le_refl _⟩) (fun r_3 u_3 H locs hp_3 hW => ?_)
    rcases hp_3 with ⟨rfl, rfl, k_3_0, k_3_1⟩ | ⟨rfl, rfl, k_3⟩
    · skip
      have hW : WB G 33 q (eM G q τ ξ) s H locs := hW
      refine lv_if_eq C.1 C.2.1 (tgt := 39) dX8_three_13 (by decide) (fun c => absurd c (by decide)) (fun _ => ?_)
      refine lv_aload_n C.1 C.2.1 dX8_three_16 rfl (lv_at hl 0 rfl) ?_
      refine lv_iload_n C.1 C.2.1 dX8_three_17 rfl (lv_at hl 3 rfl) ?_
      refine go_i hW (run_V (o := 0) (As := [.int k]) (rest := []) C hW (by decide) rfl rfl (c_X8_isDish l G q _ τ ξ k  h_d) (cw_V 1 C bL_X8_129 bI_X8_isDish bV_X8_isDish bN_X8 bC_X8_isDish ⟨rfl, rfl⟩ (by decide +kernel) ⟨Nat.le_of_ble_eq_true rfl, Nat.le_of_ble_eq_true rfl⟩) rfl hl.1 rfl (by decide) dX8_three_18 ⟨Nat.le_refl _, Nat.le_refl _⟩) (fun r_5 u_5 H locs hp_5 hW => ?_)
      rcases hp_5 with ⟨rfl, rfl, k_5_0, k_5_1⟩ | ⟨rfl, rfl, k_5⟩
      · skip
        have hW : WB G 33 q (eM G q τ ξ) s H locs := hW
        refine lv_if_eq C.1 C.2.1 (tgt := 39) dX8_three_21 (by decide) (fun c => absurd c (by decide)) (fun _ => ?_)
        refine lv_iload_n C.1 C.2.1 dX8_three_24 rfl (lv_at hl 1 rfl) ?_
        refine lv_iload_n C.1 C.2.1 dX8_three_25 rfl (lv_at hl 2 rfl) ?_
        refine lv_icmp_eq C.1 C.2.1 (tgt := 39) dX8_three_26 (by decide) (fun c_7 => ?_) (fun c_7 => ?_)
        · skip
          have k_7 := (tc_eq (rfl : (i).toInt = (i).toInt) (rfl : (j).toInt = (j).toInt)).mp c_7
          refine lv_bipush C.1 C.2.1 (v := (-2)) dX8_three_39 (by decide) ?_
          subst hQ
          exact r_iret (τ, ξ) C hW hr hk dX8_three_41 (show sp_three τ i j k = ((-2), τ) from by unfold sp_three; repeat (first | rw [if_pos (by omega)] | rw [if_neg (by omega)]))
        · skip
          have k_7 := (tn_eq (rfl : (i).toInt = (i).toInt) (rfl : (j).toInt = (j).toInt)).mp c_7
          refine lv_iload_n C.1 C.2.1 dX8_three_29 rfl (lv_at hl 2 rfl) ?_
          refine lv_iload_n C.1 C.2.1 dX8_three_30 rfl (lv_at hl 3 rfl) ?_
          refine lv_icmp_eq C.1 C.2.1 (tgt := 39) dX8_three_31 (by decide) (fun c_8 => ?_) (fun c_8 => ?_)
          · skip
            have k_8 := (tc_eq (rfl : (j).toInt = (j).toInt) (rfl : (k).toInt = (k).toInt)).mp c_8
            refine lv_bipush C.1 C.2.1 (v := (-2)) dX8_three_39 (by decide) ?_
            subst hQ
            exact r_iret (τ, ξ) C hW hr hk dX8_three_41 (show sp_three τ i j k = ((-2), τ) from by unfold sp_three; repeat (first | rw [if_pos (by omega)] | rw [if_neg (by omega)]))
          · skip
            have k_8 := (tn_eq (rfl : (j).toInt = (j).toInt) (rfl : (k).toInt = (k).toInt)).mp c_8
            refine lv_iload_n C.1 C.2.1 dX8_three_34 rfl (lv_at hl 1 rfl) ?_
            refine lv_iload_n C.1 C.2.1 dX8_three_35 rfl (lv_at hl 3 rfl) ?_
            refine lv_icmp_ne C.1 C.2.1 (tgt := 42) dX8_three_36 (by decide) (fun c_9 => ?_) (fun c_9 => ?_)
            · skip
              have k_9 := (tn_eq (rfl : (i).toInt = (i).toInt) (rfl : (k).toInt = (k).toInt)).mp c_9
              refine lv_aload_n C.1 C.2.1 dX8_three_42 rfl (lv_at hl 0 rfl) ?_
              refine lv_iload_n C.1 C.2.1 dX8_three_43 rfl (lv_at hl 1 rfl) ?_
              refine lv_iload_n C.1 C.2.1 dX8_three_44 rfl (lv_at hl 2 rfl) ?_
              refine go_l hW (run_V (o := 0) (As := [.int i, .int j]) (rest := []) C hW (by decide) rfl rfl (c_X8_productOf l G q _ τ ξ i j (((i).toInt).toNat) (((j).toInt).toNat) ((rfl : (i).toInt = (i).toInt).trans (by omega)) ((rfl : (j).toInt = (j).toInt).trans (by omega)) (by omega) (by omega) h_l h_f h_s) (cw_V 2 C bL_X8_172 bI_X8_productOf bV_X8_productOf bN_X8 bC_X8_productOf ⟨rfl, rfl⟩ (by decide +kernel) ⟨Nat.le_of_ble_eq_true rfl, Nat.le_of_ble_eq_true rfl⟩) rfl hl.1 rfl (by decide) dX8_three_45 ⟨Nat.le_refl _, Nat.le_refl _⟩) (fun r_10 u_10 H locs hp_10 hW => ?_)
              rcases hp_10 with ⟨rfl, rfl⟩
              have hW : WB G 33 q (eM G q τ (sg ξ 1 (nI (tck τ (((i).toInt).toNat) (((j).toInt).toNat))))) s H locs := hW
              refine go_i hW (run_S (As := [.long (prd τ (((i).toInt).toNat) (((j).toInt).toNat))]) (rest := []) C hW (c_X8_sign l G q _ τ (sg ξ 1 (nI (tck τ (((i).toInt).toNat) (((j).toInt).toNat)))) (prd τ (((i).toInt).toNat) (((j).toInt).toNat))  ) (cw_S 1 C bL_X8_177 bS_X8_sign bN_X8 bC_X8_sign ⟨rfl, rfl⟩ (by decide +kernel) ⟨Nat.le_of_ble_eq_true rfl, Nat.le_of_ble_eq_true rfl⟩) rfl hl.1 rfl (by decide) dX8_three_48 ⟨Nat.le_refl _, Nat.le_refl _⟩) (fun r_11 u_11 H locs hp_11 hW => ?_)
              rcases hp_11 with ⟨rfl, rfl⟩
              have hW : WB G 33 q (eM G q τ (sg ξ 1 (nI (tck τ (((i).toInt).toNat) (((j).toInt).toNat))))) s H locs := hW
              refine lv_aload_n C.1 C.2.1 dX8_three_51 rfl (lv_at hl 0 rfl) ?_
              refine lv_iload_n C.1 C.2.1 dX8_three_52 rfl (lv_at hl 2 rfl) ?_
              refine lv_iload_n C.1 C.2.1 dX8_three_53 rfl (lv_at hl 3 rfl) ?_
              refine go_l hW (run_V (o := 0) (As := [.int j, .int k]) (rest := [.int (sgn (prd τ (((i).toInt).toNat) (((j).toInt).toNat)))]) C hW (by decide) rfl rfl (c_X8_productOf l G q _ τ (sg ξ 1 (nI (tck τ (((i).toInt).toNat) (((j).toInt).toNat)))) j k (((j).toInt).toNat) (((k).toInt).toNat) ((rfl : (j).toInt = (j).toInt).trans (by omega)) ((rfl : (k).toInt = (k).toInt).trans (by omega)) (by omega) (by omega) h_l h_f h_s) (cw_V 2 C bL_X8_172 bI_X8_productOf bV_X8_productOf bN_X8 bC_X8_productOf ⟨rfl, rfl⟩ (by decide +kernel) ⟨Nat.le_of_ble_eq_true rfl, Nat.le_of_ble_eq_true rfl⟩) rfl hl.1 rfl (by decide) dX8_three_54 ⟨Nat.le_refl _, Nat.le_refl _⟩) (fun r_12 u_12 H locs hp_12 hW => ?_)
              rcases hp_12 with ⟨rfl, rfl⟩
              have hW : WB G 33 q (eM G q τ (sg (sg ξ 1 (nI (tck τ (((i).toInt).toNat) (((j).toInt).toNat)))) 1 (nI (tck τ (((j).toInt).toNat) (((k).toInt).toNat))))) s H locs := hW
              refine go_i hW (run_S (As := [.long (prd τ (((j).toInt).toNat) (((k).toInt).toNat))]) (rest := [.int (sgn (prd τ (((i).toInt).toNat) (((j).toInt).toNat)))]) C hW (c_X8_sign l G q _ τ (sg (sg ξ 1 (nI (tck τ (((i).toInt).toNat) (((j).toInt).toNat)))) 1 (nI (tck τ (((j).toInt).toNat) (((k).toInt).toNat)))) (prd τ (((j).toInt).toNat) (((k).toInt).toNat))  ) (cw_S 1 C bL_X8_177 bS_X8_sign bN_X8 bC_X8_sign ⟨rfl, rfl⟩ (by decide +kernel) ⟨Nat.le_of_ble_eq_true rfl, Nat.le_of_ble_eq_true rfl⟩) rfl hl.1 rfl (by decide) dX8_three_57 ⟨Nat.le_refl _, Nat.le_refl _⟩) (fun r_13 u_13 H locs hp_13 hW => ?_)
              rcases hp_13 with ⟨rfl, rfl⟩
              have hW : WB G 33 q (eM G q τ (sg (sg ξ 1 (nI (tck τ (((i).toInt).toNat) (((j).toInt).toNat)))) 1 (nI (tck τ (((j).toInt).toNat) (((k).toInt).toNat))))) s H locs := hW
              refine lv_imul C.1 C.2.1 dX8_three_60 ?_
              refine lv_aload_n C.1 C.2.1 dX8_three_61 rfl (lv_at hl 0 rfl) ?_
              refine lv_iload_n C.1 C.2.1 dX8_three_62 rfl (lv_at hl 1 rfl) ?_
              refine lv_iload_n C.1 C.2.1 dX8_three_63 rfl (lv_at hl 3 rfl) ?_
              refine go_l hW (run_V (o := 0) (As := [.int i, .int k]) (rest := [.int ((sgn (prd τ (((i).toInt).toNat) (((j).toInt).toNat))) * (sgn (prd τ (((j).toInt).toNat) (((k).toInt).toNat))))]) C hW (by decide) rfl rfl (c_X8_productOf l G q _ τ (sg (sg ξ 1 (nI (tck τ (((i).toInt).toNat) (((j).toInt).toNat)))) 1 (nI (tck τ (((j).toInt).toNat) (((k).toInt).toNat)))) i k (((i).toInt).toNat) (((k).toInt).toNat) ((rfl : (i).toInt = (i).toInt).trans (by omega)) ((rfl : (k).toInt = (k).toInt).trans (by omega)) (by omega) (by omega) h_l h_f h_s) (cw_V 2 C bL_X8_172 bI_X8_productOf bV_X8_productOf bN_X8 bC_X8_productOf ⟨rfl, rfl⟩ (by decide +kernel) ⟨Nat.le_of_ble_eq_true rfl, Nat.le_of_ble_eq_true rfl⟩) rfl hl.1 rfl (by decide) dX8_three_64 ⟨Nat.le_refl _, Nat.le_refl _⟩) (fun r_14 u_14 H locs hp_14 hW => ?_)
              rcases hp_14 with ⟨rfl, rfl⟩
              have hW : WB G 33 q (eM G q τ (sg (sg (sg ξ 1 (nI (tck τ (((i).toInt).toNat) (((j).toInt).toNat)))) 1 (nI (tck τ (((j).toInt).toNat) (((k).toInt).toNat)))) 1 (nI (tck τ (((i).toInt).toNat) (((k).toInt).toNat))))) s H locs := hW
              refine go_i hW (run_S (As := [.long (prd τ (((i).toInt).toNat) (((k).toInt).toNat))]) (rest := [.int ((sgn (prd τ (((i).toInt).toNat) (((j).toInt).toNat))) * (sgn (prd τ (((j).toInt).toNat) (((k).toInt).toNat))))]) C hW (c_X8_sign l G q _ τ (sg (sg (sg ξ 1 (nI (tck τ (((i).toInt).toNat) (((j).toInt).toNat)))) 1 (nI (tck τ (((j).toInt).toNat) (((k).toInt).toNat)))) 1 (nI (tck τ (((i).toInt).toNat) (((k).toInt).toNat)))) (prd τ (((i).toInt).toNat) (((k).toInt).toNat))  ) (cw_S 1 C bL_X8_177 bS_X8_sign bN_X8 bC_X8_sign ⟨rfl, rfl⟩ (by decide +kernel) ⟨Nat.le_of_ble_eq_true rfl, Nat.le_of_ble_eq_true rfl⟩) rfl hl.1 rfl (by decide) dX8_three_67 ⟨Nat.le_refl _, Nat.le_refl _⟩) (fun r_15 u_15 H locs hp_15 hW => ?_)
              rcases hp_15 with ⟨rfl, rfl⟩
              have hW : WB G 33 q (eM G q τ (sg (sg (sg ξ 1 (nI (tck τ (((i).toInt).toNat) (((j).toInt).toNat)))) 1 (nI (tck τ (((j).toInt).toNat) (((k).toInt).toNat)))) 1 (nI (tck τ (((i).toInt).toNat) (((k).toInt).toNat))))) s H locs := hW
              refine lv_imul C.1 C.2.1 dX8_three_70 ?_
              subst hQ
              exact r_iret (τ, (sg (sg (sg ξ 1 (nI (tck τ (((i).toInt).toNat) (((j).toInt).toNat)))) 1 (nI (tck τ (((j).toInt).toNat) (((k).toInt).toNat)))) 1 (nI (tck τ (((i).toInt).toNat) (((k).toInt).toNat))))) C hW hr hk dX8_three_71 (show sp_three τ i j k = ((((sgn (prd τ (((i).toInt).toNat) (((j).toInt).toNat))) * (sgn (prd τ (((j).toInt).toNat) (((k).toInt).toNat)))) * (sgn (prd τ (((i).toInt).toNat) (((k).toInt).toNat)))), τ) from by unfold sp_three; repeat (first | rw [if_pos (by omega)] | rw [if_neg (by omega)]))
            · skip
              have k_9 := (tc_eq (rfl : (i).toInt = (i).toInt) (rfl : (k).toInt = (k).toInt)).mp c_9
              refine lv_bipush C.1 C.2.1 (v := (-2)) dX8_three_39 (by decide) ?_
              subst hQ
              exact r_iret (τ, ξ) C hW hr hk dX8_three_41 (show sp_three τ i j k = ((-2), τ) from by unfold sp_three; repeat (first | rw [if_pos (by omega)] | rw [if_neg (by omega)]))
      · skip
        have hW : WB G 33 q (eM G q τ ξ) s H locs := hW
        refine lv_if_eq C.1 C.2.1 (tgt := 39) dX8_three_21 (by decide) (fun _ => ?_) (fun c => absurd c (by decide))
        refine lv_bipush C.1 C.2.1 (v := (-2)) dX8_three_39 (by decide) ?_
        subst hQ
        exact r_iret (τ, ξ) C hW hr hk dX8_three_41 (show sp_three τ i j k = ((-2), τ) from by unfold sp_three; repeat (first | rw [if_pos (by omega)] | rw [if_neg (by omega)]))
    · skip
      have hW : WB G 33 q (eM G q τ ξ) s H locs := hW
      refine lv_if_eq C.1 C.2.1 (tgt := 39) dX8_three_13 (by decide) (fun _ => ?_) (fun c => absurd c (by decide))
      refine lv_bipush C.1 C.2.1 (v := (-2)) dX8_three_39 (by decide) ?_
      subst hQ
      exact r_iret (τ, ξ) C hW hr hk dX8_three_41 (show sp_three τ i j k = ((-2), τ) from by unfold sp_three; repeat (first | rw [if_pos (by omega)] | rw [if_neg (by omega)]))
  · skip
    have hW : WB G 33 q (eM G q τ ξ) s H locs := hW
    refine lv_if_eq C.1 C.2.1 (tgt := 39) dX8_three_5 (by decide) (fun _ => ?_) (fun c => absurd c (by decide))
    refine lv_bipush C.1 C.2.1 (v := (-2)) dX8_three_39 (by decide) ?_
    subst hQ
    exact r_iret (τ, ξ) C hW hr hk dX8_three_41 (show sp_three τ i j k = ((-2), τ) from by unfold sp_three; repeat (first | rw [if_pos (by omega)] | rw [if_neg (by omega)]))
set_option maxHeartbeats 4000000 in
set_option maxRecDepth 100000 in
theorem c_X8_four (l : Launch) (G : GG) (q : Nat → Nat) (sz : Nat) (τ ξ : ST) (i : Int32) (j : Int32) (k : Int32) (n : Int32) (h_d : 0 ≤ (τ.1 0).toInt ∧ (τ.1 0).toInt ≤ 6) (h_l : ∀ d : Nat, d < 6 → 0 ≤ (τ.2.1 2 d).toInt ∧ (τ.2.1 2 d).toInt ≤ 30) (h_f : 0 ≤ (τ.1 2).toInt ∧ (τ.1 2).toInt ≤ 40) (h_s : ∀ d : Nat, d < 6 → 0 ≤ (τ.2.1 6 d).toInt ∧ (τ.2.1 6 d).toInt ≤ 100) : Met l yX8_four (WSb yX8_four cX8_four 5 (some .int)) (rmA 4 97) (va_Pc [.ref (q 0), .int i, .int j, .int k, .int n] (PW G 33 q sz (eM G q τ ξ))) (va_Qi (fun (r : Int32) (u : (ST × ST)) => sp_four τ i j k n = (r, u.1)) (fun u => BW G 33 q (eM G q u.1 u.2)) (FA 33 q sz)) 0 0 (FA 33 q sz) := by
  refine Met_B (own := RX8) rfl (by decide) (Nat.le_of_ble_eq_true rfl) (fun p e s m args below meth c ls hsz C hW hr hk hl QQ hQ => ?_)
  subst hsz
  have hl : lv_has ls 5 [(0, .ref (q 0)), (1, .int i), (2, .int j), (3, .int k), (4, .int n)] := hl
  refine lv_aload_n C.1 C.2.1 dX8_four_0 rfl (lv_at hl 0 rfl) ?_
  refine lv_iload_n C.1 C.2.1 dX8_four_1 rfl (lv_at hl 1 rfl) ?_
  refine go_i hW (run_V (o := 0) (As := [.int i]) (rest := []) C hW (by decide) rfl rfl (c_X8_isDish l G q _ τ ξ i  h_d) (cw_V 1 C bL_X8_129 bI_X8_isDish bV_X8_isDish bN_X8 bC_X8_isDish ⟨rfl, rfl⟩ (by decide +kernel) ⟨Nat.le_of_ble_eq_true rfl, Nat.le_of_ble_eq_true rfl⟩) rfl hl.1 rfl (by decide) dX8_four_2 ⟨Nat.le_refl _, Nat.le_refl _⟩) (fun r_1 u_1 H locs hp_1 hW => ?_)
  rcases hp_1 with ⟨rfl, rfl, k_1_0, k_1_1⟩ | ⟨rfl, rfl, k_1⟩
  · skip
    have hW : WB G 33 q (eM G q τ ξ) s H locs := hW
    refine lv_if_eq C.1 C.2.1 (tgt := 66) dX8_four_5 (by decide) (fun c => absurd c (by decide)) (fun _ => ?_)
    refine lv_aload_n C.1 C.2.1 dX8_four_8 rfl (lv_at hl 0 rfl) ?_
    refine lv_iload_n C.1 C.2.1 dX8_four_9 rfl (lv_at hl 2 rfl) ?_
    refine go_i hW (run_V (o := 0) (As := [.int j]) (rest := []) C hW (by decide) rfl rfl (c_X8_isDish l G q _ τ ξ j  h_d) (cw_V 1 C bL_X8_129 bI_X8_isDish bV_X8_isDish bN_X8 bC_X8_isDish ⟨rfl, rfl⟩ (by decide +kernel) ⟨Nat.le_of_ble_eq_true rfl, Nat.le_of_ble_eq_true rfl⟩) rfl hl.1 rfl (by decide) dX8_four_10 ⟨Nat.le_refl _, Nat.le_refl _⟩) (fun r_3 u_3 H locs hp_3 hW => ?_)
    rcases hp_3 with ⟨rfl, rfl, k_3_0, k_3_1⟩ | ⟨rfl, rfl, k_3⟩
    · skip
      have hW : WB G 33 q (eM G q τ ξ) s H locs := hW
      refine lv_if_eq C.1 C.2.1 (tgt := 66) dX8_four_13 (by decide) (fun c => absurd c (by decide)) (fun _ => ?_)
      refine lv_aload_n C.1 C.2.1 dX8_four_16 rfl (lv_at hl 0 rfl) ?_
      refine lv_iload_n C.1 C.2.1 dX8_four_17 rfl (lv_at hl 3 rfl) ?_
      refine go_i hW (run_V (o := 0) (As := [.int k]) (rest := []) C hW (by decide) rfl rfl (c_X8_isDish l G q _ τ ξ k  h_d) (cw_V 1 C bL_X8_129 bI_X8_isDish bV_X8_isDish bN_X8 bC_X8_isDish ⟨rfl, rfl⟩ (by decide +kernel) ⟨Nat.le_of_ble_eq_true rfl, Nat.le_of_ble_eq_true rfl⟩) rfl hl.1 rfl (by decide) dX8_four_18 ⟨Nat.le_refl _, Nat.le_refl _⟩) (fun r_5 u_5 H locs hp_5 hW => ?_)
      rcases hp_5 with ⟨rfl, rfl, k_5_0, k_5_1⟩ | ⟨rfl, rfl, k_5⟩
      · skip
        have hW : WB G 33 q (eM G q τ ξ) s H locs := hW
        refine lv_if_eq C.1 C.2.1 (tgt := 66) dX8_four_21 (by decide) (fun c => absurd c (by decide)) (fun _ => ?_)
        refine lv_aload_n C.1 C.2.1 dX8_four_24 rfl (lv_at hl 0 rfl) ?_
        refine lv_iload C.1 C.2.1 dX8_four_25 (lv_at hl 4 rfl) ?_
        refine go_i hW (run_V (o := 0) (As := [.int n]) (rest := []) C hW (by decide) rfl rfl (c_X8_isDish l G q _ τ ξ n  h_d) (cw_V 1 C bL_X8_129 bI_X8_isDish bV_X8_isDish bN_X8 bC_X8_isDish ⟨rfl, rfl⟩ (by decide +kernel) ⟨Nat.le_of_ble_eq_true rfl, Nat.le_of_ble_eq_true rfl⟩) rfl hl.1 rfl (by decide) dX8_four_27 ⟨Nat.le_refl _, Nat.le_refl _⟩) (fun r_7 u_7 H locs hp_7 hW => ?_)
        rcases hp_7 with ⟨rfl, rfl, k_7_0, k_7_1⟩ | ⟨rfl, rfl, k_7⟩
        · skip
          have hW : WB G 33 q (eM G q τ ξ) s H locs := hW
          refine lv_if_eq C.1 C.2.1 (tgt := 66) dX8_four_30 (by decide) (fun c => absurd c (by decide)) (fun _ => ?_)
          refine lv_iload_n C.1 C.2.1 dX8_four_33 rfl (lv_at hl 1 rfl) ?_
          refine lv_iload_n C.1 C.2.1 dX8_four_34 rfl (lv_at hl 2 rfl) ?_
          refine lv_icmp_eq C.1 C.2.1 (tgt := 66) dX8_four_35 (by decide) (fun c_9 => ?_) (fun c_9 => ?_)
          · skip
            have k_9 := (tc_eq (rfl : (i).toInt = (i).toInt) (rfl : (j).toInt = (j).toInt)).mp c_9
            refine lv_bipush C.1 C.2.1 (v := (-2)) dX8_four_66 (by decide) ?_
            subst hQ
            exact r_iret (τ, ξ) C hW hr hk dX8_four_68 (show sp_four τ i j k n = ((-2), τ) from by unfold sp_four; repeat (first | rw [if_pos (by omega)] | rw [if_neg (by omega)]))
          · skip
            have k_9 := (tn_eq (rfl : (i).toInt = (i).toInt) (rfl : (j).toInt = (j).toInt)).mp c_9
            refine lv_iload_n C.1 C.2.1 dX8_four_38 rfl (lv_at hl 1 rfl) ?_
            refine lv_iload_n C.1 C.2.1 dX8_four_39 rfl (lv_at hl 3 rfl) ?_
            refine lv_icmp_eq C.1 C.2.1 (tgt := 66) dX8_four_40 (by decide) (fun c_10 => ?_) (fun c_10 => ?_)
            · skip
              have k_10 := (tc_eq (rfl : (i).toInt = (i).toInt) (rfl : (k).toInt = (k).toInt)).mp c_10
              refine lv_bipush C.1 C.2.1 (v := (-2)) dX8_four_66 (by decide) ?_
              subst hQ
              exact r_iret (τ, ξ) C hW hr hk dX8_four_68 (show sp_four τ i j k n = ((-2), τ) from by unfold sp_four; repeat (first | rw [if_pos (by omega)] | rw [if_neg (by omega)]))
            · skip
              have k_10 := (tn_eq (rfl : (i).toInt = (i).toInt) (rfl : (k).toInt = (k).toInt)).mp c_10
              refine lv_iload_n C.1 C.2.1 dX8_four_43 rfl (lv_at hl 1 rfl) ?_
              refine lv_iload C.1 C.2.1 dX8_four_44 (lv_at hl 4 rfl) ?_
              refine lv_icmp_eq C.1 C.2.1 (tgt := 66) dX8_four_46 (by decide) (fun c_11 => ?_) (fun c_11 => ?_)
              · skip
                have k_11 := (tc_eq (rfl : (i).toInt = (i).toInt) (rfl : (n).toInt = (n).toInt)).mp c_11
                refine lv_bipush C.1 C.2.1 (v := (-2)) dX8_four_66 (by decide) ?_
                subst hQ
                exact r_iret (τ, ξ) C hW hr hk dX8_four_68 (show sp_four τ i j k n = ((-2), τ) from by unfold sp_four; repeat (first | rw [if_pos (by omega)] | rw [if_neg (by omega)]))
              · skip
                have k_11 := (tn_eq (rfl : (i).toInt = (i).toInt) (rfl : (n).toInt = (n).toInt)).mp c_11
                refine lv_iload_n C.1 C.2.1 dX8_four_49 rfl (lv_at hl 2 rfl) ?_
                refine lv_iload_n C.1 C.2.1 dX8_four_50 rfl (lv_at hl 3 rfl) ?_
                refine lv_icmp_eq C.1 C.2.1 (tgt := 66) dX8_four_51 (by decide) (fun c_12 => ?_) (fun c_12 => ?_)
                · skip
                  have k_12 := (tc_eq (rfl : (j).toInt = (j).toInt) (rfl : (k).toInt = (k).toInt)).mp c_12
                  refine lv_bipush C.1 C.2.1 (v := (-2)) dX8_four_66 (by decide) ?_
                  subst hQ
                  exact r_iret (τ, ξ) C hW hr hk dX8_four_68 (show sp_four τ i j k n = ((-2), τ) from by unfold sp_four; repeat (first | rw [if_pos (by omega)] | rw [if_neg (by omega)]))
                · skip
                  have k_12 := (tn_eq (rfl : (j).toInt = (j).toInt) (rfl : (k).toInt = (k).toInt)).mp c_12
                  refine lv_iload_n C.1 C.2.1 dX8_four_54 rfl (lv_at hl 2 rfl) ?_
                  refine lv_iload C.1 C.2.1 dX8_four_55 (lv_at hl 4 rfl) ?_
                  refine lv_icmp_eq C.1 C.2.1 (tgt := 66) dX8_four_57 (by decide) (fun c_13 => ?_) (fun c_13 => ?_)
                  · skip
                    have k_13 := (tc_eq (rfl : (j).toInt = (j).toInt) (rfl : (n).toInt = (n).toInt)).mp c_13
                    refine lv_bipush C.1 C.2.1 (v := (-2)) dX8_four_66 (by decide) ?_
                    subst hQ
                    exact r_iret (τ, ξ) C hW hr hk dX8_four_68 (show sp_four τ i j k n = ((-2), τ) from by unfold sp_four; repeat (first | rw [if_pos (by omega)] | rw [if_neg (by omega)]))
                  · skip
                    have k_13 := (tn_eq (rfl : (j).toInt = (j).toInt) (rfl : (n).toInt = (n).toInt)).mp c_13
                    refine lv_iload_n C.1 C.2.1 dX8_four_60 rfl (lv_at hl 3 rfl) ?_
                    refine lv_iload C.1 C.2.1 dX8_four_61 (lv_at hl 4 rfl) ?_
                    refine lv_icmp_ne C.1 C.2.1 (tgt := 69) dX8_four_63 (by decide) (fun c_14 => ?_) (fun c_14 => ?_)
                    · skip
                      have k_14 := (tn_eq (rfl : (k).toInt = (k).toInt) (rfl : (n).toInt = (n).toInt)).mp c_14
                      refine lv_aload_n C.1 C.2.1 dX8_four_69 rfl (lv_at hl 0 rfl) ?_
                      refine lv_iload_n C.1 C.2.1 dX8_four_70 rfl (lv_at hl 1 rfl) ?_
                      refine lv_iload_n C.1 C.2.1 dX8_four_71 rfl (lv_at hl 2 rfl) ?_
                      refine go_l hW (run_V (o := 0) (As := [.int i, .int j]) (rest := []) C hW (by decide) rfl rfl (c_X8_productOf l G q _ τ ξ i j (((i).toInt).toNat) (((j).toInt).toNat) ((rfl : (i).toInt = (i).toInt).trans (by omega)) ((rfl : (j).toInt = (j).toInt).trans (by omega)) (by omega) (by omega) h_l h_f h_s) (cw_V 2 C bL_X8_172 bI_X8_productOf bV_X8_productOf bN_X8 bC_X8_productOf ⟨rfl, rfl⟩ (by decide +kernel) ⟨Nat.le_of_ble_eq_true rfl, Nat.le_of_ble_eq_true rfl⟩) rfl hl.1 rfl (by decide) dX8_four_72 ⟨Nat.le_refl _, Nat.le_refl _⟩) (fun r_15 u_15 H locs hp_15 hW => ?_)
                      rcases hp_15 with ⟨rfl, rfl⟩
                      have hW : WB G 33 q (eM G q τ (sg ξ 1 (nI (tck τ (((i).toInt).toNat) (((j).toInt).toNat))))) s H locs := hW
                      refine lv_aload_n C.1 C.2.1 dX8_four_75 rfl (lv_at hl 0 rfl) ?_
                      refine lv_iload_n C.1 C.2.1 dX8_four_76 rfl (lv_at hl 3 rfl) ?_
                      refine lv_iload C.1 C.2.1 dX8_four_77 (lv_at hl 4 rfl) ?_
                      refine go_l hW (run_V (o := 0) (As := [.int k, .int n]) (rest := [.long (prd τ (((i).toInt).toNat) (((j).toInt).toNat))]) C hW (by decide) rfl rfl (c_X8_productOf l G q _ τ (sg ξ 1 (nI (tck τ (((i).toInt).toNat) (((j).toInt).toNat)))) k n (((k).toInt).toNat) (((n).toInt).toNat) ((rfl : (k).toInt = (k).toInt).trans (by omega)) ((rfl : (n).toInt = (n).toInt).trans (by omega)) (by omega) (by omega) h_l h_f h_s) (cw_V 2 C bL_X8_172 bI_X8_productOf bV_X8_productOf bN_X8 bC_X8_productOf ⟨rfl, rfl⟩ (by decide +kernel) ⟨Nat.le_of_ble_eq_true rfl, Nat.le_of_ble_eq_true rfl⟩) rfl hl.1 rfl (by decide) dX8_four_79 ⟨Nat.le_refl _, Nat.le_refl _⟩) (fun r_16 u_16 H locs hp_16 hW => ?_)
                      rcases hp_16 with ⟨rfl, rfl⟩
                      have hW : WB G 33 q (eM G q τ (sg (sg ξ 1 (nI (tck τ (((i).toInt).toNat) (((j).toInt).toNat)))) 1 (nI (tck τ (((k).toInt).toNat) (((n).toInt).toNat))))) s H locs := hW
                      refine lv_lmul C.1 C.2.1 dX8_four_82 ?_
                      refine lv_aload_n C.1 C.2.1 dX8_four_83 rfl (lv_at hl 0 rfl) ?_
                      refine lv_iload_n C.1 C.2.1 dX8_four_84 rfl (lv_at hl 1 rfl) ?_
                      refine lv_iload_n C.1 C.2.1 dX8_four_85 rfl (lv_at hl 3 rfl) ?_
                      refine go_l hW (run_V (o := 0) (As := [.int i, .int k]) (rest := [.long ((prd τ (((i).toInt).toNat) (((j).toInt).toNat)) * (prd τ (((k).toInt).toNat) (((n).toInt).toNat)))]) C hW (by decide) rfl rfl (c_X8_productOf l G q _ τ (sg (sg ξ 1 (nI (tck τ (((i).toInt).toNat) (((j).toInt).toNat)))) 1 (nI (tck τ (((k).toInt).toNat) (((n).toInt).toNat)))) i k (((i).toInt).toNat) (((k).toInt).toNat) ((rfl : (i).toInt = (i).toInt).trans (by omega)) ((rfl : (k).toInt = (k).toInt).trans (by omega)) (by omega) (by omega) h_l h_f h_s) (cw_V 2 C bL_X8_172 bI_X8_productOf bV_X8_productOf bN_X8 bC_X8_productOf ⟨rfl, rfl⟩ (by decide +kernel) ⟨Nat.le_of_ble_eq_true rfl, Nat.le_of_ble_eq_true rfl⟩) rfl hl.1 rfl (by decide) dX8_four_86 ⟨Nat.le_refl _, Nat.le_refl _⟩) (fun r_17 u_17 H locs hp_17 hW => ?_)
                      rcases hp_17 with ⟨rfl, rfl⟩
                      have hW : WB G 33 q (eM G q τ (sg (sg (sg ξ 1 (nI (tck τ (((i).toInt).toNat) (((j).toInt).toNat)))) 1 (nI (tck τ (((k).toInt).toNat) (((n).toInt).toNat)))) 1 (nI (tck τ (((i).toInt).toNat) (((k).toInt).toNat))))) s H locs := hW
                      refine lv_aload_n C.1 C.2.1 dX8_four_89 rfl (lv_at hl 0 rfl) ?_
                      refine lv_iload_n C.1 C.2.1 dX8_four_90 rfl (lv_at hl 2 rfl) ?_
                      refine lv_iload C.1 C.2.1 dX8_four_91 (lv_at hl 4 rfl) ?_
                      refine go_l hW (run_V (o := 0) (As := [.int j, .int n]) (rest := [.long (prd τ (((i).toInt).toNat) (((k).toInt).toNat)), .long ((prd τ (((i).toInt).toNat) (((j).toInt).toNat)) * (prd τ (((k).toInt).toNat) (((n).toInt).toNat)))]) C hW (by decide) rfl rfl (c_X8_productOf l G q _ τ (sg (sg (sg ξ 1 (nI (tck τ (((i).toInt).toNat) (((j).toInt).toNat)))) 1 (nI (tck τ (((k).toInt).toNat) (((n).toInt).toNat)))) 1 (nI (tck τ (((i).toInt).toNat) (((k).toInt).toNat)))) j n (((j).toInt).toNat) (((n).toInt).toNat) ((rfl : (j).toInt = (j).toInt).trans (by omega)) ((rfl : (n).toInt = (n).toInt).trans (by omega)) (by omega) (by omega) h_l h_f h_s) (cw_V 2 C bL_X8_172 bI_X8_productOf bV_X8_productOf bN_X8 bC_X8_productOf ⟨rfl, rfl⟩ (by decide +kernel) ⟨Nat.le_of_ble_eq_true rfl, Nat.le_of_ble_eq_true rfl⟩) rfl hl.1 rfl (by decide) dX8_four_93 ⟨Nat.le_refl _, Nat.le_refl _⟩) (fun r_18 u_18 H locs hp_18 hW => ?_)
                      rcases hp_18 with ⟨rfl, rfl⟩
                      have hW : WB G 33 q (eM G q τ (sg (sg (sg (sg ξ 1 (nI (tck τ (((i).toInt).toNat) (((j).toInt).toNat)))) 1 (nI (tck τ (((k).toInt).toNat) (((n).toInt).toNat)))) 1 (nI (tck τ (((i).toInt).toNat) (((k).toInt).toNat)))) 1 (nI (tck τ (((j).toInt).toNat) (((n).toInt).toNat))))) s H locs := hW
                      refine lv_lmul C.1 C.2.1 dX8_four_96 ?_
                      refine lv_lsub C.1 C.2.1 dX8_four_97 ?_
                      refine go_i hW (run_S (As := [.long (((prd τ (((i).toInt).toNat) (((j).toInt).toNat)) * (prd τ (((k).toInt).toNat) (((n).toInt).toNat))) - ((prd τ (((i).toInt).toNat) (((k).toInt).toNat)) * (prd τ (((j).toInt).toNat) (((n).toInt).toNat))))]) (rest := []) C hW (c_X8_sign l G q _ τ (sg (sg (sg (sg ξ 1 (nI (tck τ (((i).toInt).toNat) (((j).toInt).toNat)))) 1 (nI (tck τ (((k).toInt).toNat) (((n).toInt).toNat)))) 1 (nI (tck τ (((i).toInt).toNat) (((k).toInt).toNat)))) 1 (nI (tck τ (((j).toInt).toNat) (((n).toInt).toNat)))) (((prd τ (((i).toInt).toNat) (((j).toInt).toNat)) * (prd τ (((k).toInt).toNat) (((n).toInt).toNat))) - ((prd τ (((i).toInt).toNat) (((k).toInt).toNat)) * (prd τ (((j).toInt).toNat) (((n).toInt).toNat))))  ) (cw_S 1 C bL_X8_177 bS_X8_sign bN_X8 bC_X8_sign ⟨rfl, rfl⟩ (by decide +kernel) ⟨Nat.le_of_ble_eq_true rfl, Nat.le_of_ble_eq_true rfl⟩) rfl hl.1 rfl (by decide) dX8_four_98 ⟨Nat.le_refl _, Nat.le_refl _⟩) (fun r_19 u_19 H locs hp_19 hW => ?_)
                      rcases hp_19 with ⟨rfl, rfl⟩
                      have hW : WB G 33 q (eM G q τ (sg (sg (sg (sg ξ 1 (nI (tck τ (((i).toInt).toNat) (((j).toInt).toNat)))) 1 (nI (tck τ (((k).toInt).toNat) (((n).toInt).toNat)))) 1 (nI (tck τ (((i).toInt).toNat) (((k).toInt).toNat)))) 1 (nI (tck τ (((j).toInt).toNat) (((n).toInt).toNat))))) s H locs := hW
                      subst hQ
                      exact r_iret (τ, (sg (sg (sg (sg ξ 1 (nI (tck τ (((i).toInt).toNat) (((j).toInt).toNat)))) 1 (nI (tck τ (((k).toInt).toNat) (((n).toInt).toNat)))) 1 (nI (tck τ (((i).toInt).toNat) (((k).toInt).toNat)))) 1 (nI (tck τ (((j).toInt).toNat) (((n).toInt).toNat))))) C hW hr hk dX8_four_101 (show sp_four τ i j k n = ((sgn (((prd τ (((i).toInt).toNat) (((j).toInt).toNat)) * (prd τ (((k).toInt).toNat) (((n).toInt).toNat))) - ((prd τ (((i).toInt).toNat) (((k).toInt).toNat)) * (prd τ (((j).toInt).toNat) (((n).toInt).toNat))))), τ) from by unfold sp_four; repeat (first | rw [if_pos (by omega)] | rw [if_neg (by omega)]))
                    · skip
                      have k_14 := (tc_eq (rfl : (k).toInt = (k).toInt) (rfl : (n).toInt = (n).toInt)).mp c_14
                      refine lv_bipush C.1 C.2.1 (v := (-2)) dX8_four_66 (by decide) ?_
                      subst hQ
                      exact r_iret (τ, ξ) C hW hr hk dX8_four_68 (show sp_four τ i j k n = ((-2), τ) from by unfold sp_four; repeat (first | rw [if_pos (by omega)] | rw [if_neg (by omega)]))
        · skip
          have hW : WB G 33 q (eM G q τ ξ) s H locs := hW
          refine lv_if_eq C.1 C.2.1 (tgt := 66) dX8_four_30 (by decide) (fun _ => ?_) (fun c => absurd c (by decide))
          refine lv_bipush C.1 C.2.1 (v := (-2)) dX8_four_66 (by decide) ?_
          subst hQ
          exact r_iret (τ, ξ) C hW hr hk dX8_four_68 (show sp_four τ i j k n = ((-2), τ) from by unfold sp_four; repeat (first | rw [if_pos (by omega)] | rw [if_neg (by omega)]))
      · skip
        have hW : WB G 33 q (eM G q τ ξ) s H locs := hW
        refine lv_if_eq C.1 C.2.1 (tgt := 66) dX8_four_21 (by decide) (fun _ => ?_) (fun c => absurd c (by decide))
        refine lv_bipush C.1 C.2.1 (v := (-2)) dX8_four_66 (by decide) ?_
        subst hQ
        exact r_iret (τ, ξ) C hW hr hk dX8_four_68 (show sp_four τ i j k n = ((-2), τ) from by unfold sp_four; repeat (first | rw [if_pos (by omega)] | rw [if_neg (by omega)]))
    · skip
      have hW : WB G 33 q (eM G q τ ξ) s H locs := hW
      refine lv_if_eq C.1 C.2.1 (tgt := 66) dX8_four_13 (by decide) (fun _ => ?_) (fun c => absurd c (by decide))
      refine lv_bipush C.1 C.2.1 (v := (-2)) dX8_four_66 (by decide) ?_
      subst hQ
      exact r_iret (τ, ξ) C hW hr hk dX8_four_68 (show sp_four τ i j k n = ((-2), τ) from by unfold sp_four; repeat (first | rw [if_pos (by omega)] | rw [if_neg (by omega)]))
  · skip
    have hW : WB G 33 q (eM G q τ ξ) s H locs := hW
    refine lv_if_eq C.1 C.2.1 (tgt := 66) dX8_four_5 (by decide) (fun _ => ?_) (fun c => absurd c (by decide))
    refine lv_bipush C.1 C.2.1 (v := (-2)) dX8_four_66 (by decide) ?_
    subst hQ
    exact r_iret (τ, ξ) C hW hr hk dX8_four_68 (show sp_four τ i j k n = ((-2), τ) from by unfold sp_four; repeat (first | rw [if_pos (by omega)] | rw [if_neg (by omega)]))
set_option maxHeartbeats 4000000 in
set_option maxRecDepth 100000 in
theorem c_X8_delay (l : Launch) (G : GG) (q : Nat → Nat) (sz : Nat) (τ ξ : ST) (i : Int32) (j : Int32) (h_d : 0 ≤ (τ.1 0).toInt ∧ (τ.1 0).toInt ≤ 6) (h_l : ∀ d : Nat, d < 6 → 0 ≤ (τ.2.1 2 d).toInt ∧ (τ.2.1 2 d).toInt ≤ 30) (h_f : 0 ≤ (τ.1 2).toInt ∧ (τ.1 2).toInt ≤ 40) (h_s : ∀ d : Nat, d < 6 → 0 ≤ (τ.2.1 6 d).toInt ∧ (τ.2.1 6 d).toInt ≤ 100) : Met l yX8_delay (WSb yX8_delay cX8_delay 9 (some .int)) (rmA 3 75) (va_Pc [.ref (q 0), .int i, .int j] (PW G 33 q sz (eM G q τ ξ))) (va_Qi (fun (r : Int32) (u : (ST × ST)) => sp_delay τ i j = (r, u.1)) (fun u => BW G 33 q (eM G q u.1 u.2)) (FA 33 q sz)) 0 0 (FA 33 q sz) := by
  refine Met_B (own := RX8) rfl (by decide) (Nat.le_of_ble_eq_true rfl) (fun p e s m args below meth c ls hsz C hW hr hk hl QQ hQ => ?_)
  subst hsz
  have hl : lv_has ls 9 [(0, .ref (q 0)), (1, .int i), (2, .int j)] := hl
  have q1 := h_l i.toInt.toNat
  have q2 := h_l j.toInt.toNat
  refine lv_aload_n C.1 C.2.1 dX8_delay_0 rfl (lv_at hl 0 rfl) ?_
  refine lv_iload_n C.1 C.2.1 dX8_delay_1 rfl (lv_at hl 1 rfl) ?_
  refine go_i hW (run_V (o := 0) (As := [.int i]) (rest := []) C hW (by decide) rfl rfl (c_X8_isDish l G q _ τ ξ i  h_d) (cw_V 1 C bL_X8_129 bI_X8_isDish bV_X8_isDish bN_X8 bC_X8_isDish ⟨rfl, rfl⟩ (by decide +kernel) ⟨Nat.le_of_ble_eq_true rfl, Nat.le_of_ble_eq_true rfl⟩) rfl hl.1 rfl (by decide) dX8_delay_2 ⟨Nat.le_refl _, Nat.le_refl _⟩) (fun r_1 u_1 H locs hp_1 hW => ?_)
  rcases hp_1 with ⟨rfl, rfl, k_1_0, k_1_1⟩ | ⟨rfl, rfl, k_1⟩
  · skip
    have hW : WB G 33 q (eM G q τ ξ) s H locs := hW
    refine lv_if_eq C.1 C.2.1 (tgt := 16) dX8_delay_5 (by decide) (fun c => absurd c (by decide)) (fun _ => ?_)
    refine lv_aload_n C.1 C.2.1 dX8_delay_8 rfl (lv_at hl 0 rfl) ?_
    refine lv_iload_n C.1 C.2.1 dX8_delay_9 rfl (lv_at hl 2 rfl) ?_
    refine go_i hW (run_V (o := 0) (As := [.int j]) (rest := []) C hW (by decide) rfl rfl (c_X8_isDish l G q _ τ ξ j  h_d) (cw_V 1 C bL_X8_129 bI_X8_isDish bV_X8_isDish bN_X8 bC_X8_isDish ⟨rfl, rfl⟩ (by decide +kernel) ⟨Nat.le_of_ble_eq_true rfl, Nat.le_of_ble_eq_true rfl⟩) rfl hl.1 rfl (by decide) dX8_delay_10 ⟨Nat.le_refl _, Nat.le_refl _⟩) (fun r_3 u_3 H locs hp_3 hW => ?_)
    rcases hp_3 with ⟨rfl, rfl, k_3_0, k_3_1⟩ | ⟨rfl, rfl, k_3⟩
    · skip
      have hW : WB G 33 q (eM G q τ ξ) s H locs := hW
      refine lv_if_ne C.1 C.2.1 (tgt := 19) dX8_delay_13 (by decide) (fun _ => ?_) (fun c => absurd c (by decide))
      refine lv_iconst C.1 C.2.1 (v := 0) dX8_delay_19 (by decide) ?_
      refine lv_istore_n (lv' := [(3, .int 0), (0, .ref (q 0)), (1, .int i), (2, .int j)]) C.1 C.2.1 dX8_delay_20 rfl hl (by decide) rfl (fun ls hl => ?_)
      refine lv_aload_n C.1 C.2.1 dX8_delay_21 rfl (lv_at hl 1 rfl) ?_
      refine lv_iload_n C.1 C.2.1 dX8_delay_22 rfl (lv_at hl 2 rfl) ?_
      refine lv_aload_n C.1 C.2.1 dX8_delay_23 rfl (lv_at hl 1 rfl) ?_
      refine mG_delays C hW dX8_delay_24 ?_
      refine lv_iload_n C.1 C.2.1 dX8_delay_27 rfl (lv_at hl 2 rfl) ?_
      refine mL_delays C hW (((i).toInt).toNat) ((rfl : (i).toInt = (i).toInt).trans (by omega)) (by omega) (v := (τ.2.1 2 (((i).toInt).toNat))) rfl dX8_delay_28 ?_
      refine lv_iload_n C.1 C.2.1 dX8_delay_29 rfl (lv_at hl 3 rfl) ?_
      refine lv_iconst C.1 C.2.1 (v := 0) dX8_delay_30 (by decide) ?_
      refine go_l hW (run_V (o := 0) (As := [.int i, .int (τ.2.1 2 (((i).toInt).toNat)), .int j, .int 0]) (rest := []) C hW (by decide) rfl rfl (c_X8_multiply l G q _ τ ξ i (τ.2.1 2 (((i).toInt).toNat)) j 0 (((i).toInt).toNat) ((((τ.2.1 2 (((i).toInt).toNat))).toInt).toNat) (((j).toInt).toNat) 0 ((rfl : (i).toInt = (i).toInt).trans (by omega)) ((rfl : ((τ.2.1 2 (((i).toInt).toNat))).toInt = ((τ.2.1 2 (((i).toInt).toNat))).toInt).trans (by omega)) ((rfl : (j).toInt = (j).toInt).trans (by omega)) ((show (0 : Int32).toInt = 0 from by decide).trans (by omega)) (by omega) (by omega) ((rfl : ((τ.2.1 2 (((i).toInt).toNat))).toInt = ((τ.2.1 2 (((i).toInt).toNat))).toInt).trans (by omega)) ((show (0 : Int32).toInt = 0 from by decide).trans (by omega)) h_f h_s) (cw_V 4 C bL_X8_168 bI_X8_multiply bV_X8_multiply bN_X8 bC_X8_multiply ⟨rfl, rfl⟩ (by decide +kernel) ⟨Nat.le_of_ble_eq_true rfl, Nat.le_of_ble_eq_true rfl⟩) rfl hl.1 rfl (by decide) dX8_delay_31 ⟨Nat.le_refl _, Nat.le_refl _⟩) (fun r_5 u_5 H locs hp_5 hW => ?_)
      rcases hp_5 with ⟨rfl, rfl⟩
      have hW : WB G 33 q (eM G q τ (sg ξ 1 (nI (mulC τ (((i).toInt).toNat) ((((τ.2.1 2 (((i).toInt).toNat))).toInt).toNat) (((j).toInt).toNat) 0 100)))) s H locs := hW
      refine lv_lstore (lv' := [(4, .long (prdF τ (((i).toInt).toNat) ((((τ.2.1 2 (((i).toInt).toNat))).toInt).toNat) (((j).toInt).toNat) 0)), (3, .int 0), (0, .ref (q 0)), (1, .int i), (2, .int j)]) C.1 C.2.1 dX8_delay_34 hl (by decide) rfl (fun ls hl => ?_)
      refine lv_iconst C.1 C.2.1 (v := 1) dX8_delay_36 (by decide) ?_
      refine lv_istore (lv' := [(6, .int 1), (4, .long (prdF τ (((i).toInt).toNat) ((((τ.2.1 2 (((i).toInt).toNat))).toInt).toNat) (((j).toInt).toNat) 0)), (3, .int 0), (0, .ref (q 0)), (1, .int i), (2, .int j)]) C.1 C.2.1 dX8_delay_37 hl (by decide) rfl (fun ls hl => ?_)
      have L_39_6 : ∀ (fuel : Nat) (d : Nat) (ξ1 : ST) (x3 : Int32) (x4 : Int64) (x6 : Int32), 30 - d < fuel → (x6.toInt = ((d + 1 : Nat) : Int)) → (d ≤ 30) → (x3 = nI (bstD τ i.toInt.toNat j.toInt.toNat d)) → (x4 = prdF τ i.toInt.toNat (dl τ i.toInt.toNat) j.toInt.toNat (bstD τ i.toInt.toNat j.toInt.toNat d)) → ∀ (H : Heap) (locs : List Loc) (ls : Array Slot), WB G 33 q (eM G q τ ξ1) s H locs → lv_has ls 9 [(6, .int x6), (4, .long x4), (3, .int x3), (0, .ref (q 0)), (1, .int i), (2, .int j)] → W p l e (rmA 3 75) s m args below meth c H locs 0 0 QQ (F0 m 39 ls []) := by
        intro fuel; induction fuel with
        | zero => intro d ξ1 x3 x4 x6 hf; exact absurd hf (Nat.not_lt_zero _)
        | succ fuel ih =>
          intro d ξ1 x3 x4 x6 hf hd hle h3 h4 H locs ls hW hl
          refine lv_iload C.1 C.2.1 dX8_delay_39 (lv_at hl 0 rfl) ?_
          refine lv_bipush C.1 C.2.1 (v := 30) dX8_delay_41 (by decide) ?_
          refine lv_icmp_gt C.1 C.2.1 (tgt := 83) dX8_delay_43 (by decide) (fun c_7 => ?_) (fun c_7 => ?_)
          · skip
            have k_7 := (tc_lt (show (30 : Int32).toInt = 30 from by decide) hd).mp c_7
            refine lv_iload_n C.1 C.2.1 dX8_delay_83 rfl (lv_at hl 2 rfl) ?_
            subst hQ
            exact r_iret (τ, ξ1) C hW hr hk dX8_delay_84 (show sp_delay τ i j = (x3, τ) from by unfold sp_delay; repeat (first | rw [if_pos (by omega)] | rw [if_neg (by omega)]))
          · skip
            have k_7 := (tn_lt (show (30 : Int32).toInt = 30 from by decide) hd).mp c_7
            refine lv_aload_n C.1 C.2.1 dX8_delay_46 rfl (lv_at hl 3 rfl) ?_
            refine lv_iload_n C.1 C.2.1 dX8_delay_47 rfl (lv_at hl 4 rfl) ?_
            refine lv_aload_n C.1 C.2.1 dX8_delay_48 rfl (lv_at hl 3 rfl) ?_
            refine mG_delays C hW dX8_delay_49 ?_
            refine lv_iload_n C.1 C.2.1 dX8_delay_52 rfl (lv_at hl 4 rfl) ?_
            refine mL_delays C hW (((i).toInt).toNat) ((rfl : (i).toInt = (i).toInt).trans (by omega)) (by omega) (v := (τ.2.1 2 (((i).toInt).toNat))) rfl dX8_delay_53 ?_
            refine lv_iload_n C.1 C.2.1 dX8_delay_54 rfl (lv_at hl 5 rfl) ?_
            refine lv_iload C.1 C.2.1 dX8_delay_55 (lv_at hl 0 rfl) ?_
            refine go_l hW (run_V (o := 0) (As := [.int i, .int (τ.2.1 2 (((i).toInt).toNat)), .int j, .int x6]) (rest := []) C hW (by decide) rfl rfl (c_X8_multiply l G q _ τ ξ1 i (τ.2.1 2 (((i).toInt).toNat)) j x6 (((i).toInt).toNat) ((((τ.2.1 2 (((i).toInt).toNat))).toInt).toNat) (((j).toInt).toNat) (d + 1) ((rfl : (i).toInt = (i).toInt).trans (by omega)) ((rfl : ((τ.2.1 2 (((i).toInt).toNat))).toInt = ((τ.2.1 2 (((i).toInt).toNat))).toInt).trans (by omega)) ((rfl : (j).toInt = (j).toInt).trans (by omega)) (hd.trans (by omega)) (by omega) (by omega) ((rfl : ((τ.2.1 2 (((i).toInt).toNat))).toInt = ((τ.2.1 2 (((i).toInt).toNat))).toInt).trans (by omega)) (hd.trans (by omega)) h_f h_s) (cw_V 4 C bL_X8_168 bI_X8_multiply bV_X8_multiply bN_X8 bC_X8_multiply ⟨rfl, rfl⟩ (by decide +kernel) ⟨Nat.le_of_ble_eq_true rfl, Nat.le_of_ble_eq_true rfl⟩) rfl hl.1 rfl (by decide) dX8_delay_57 ⟨Nat.le_refl _, Nat.le_refl _⟩) (fun r_8 u_8 H locs hp_8 hW => ?_)
            rcases hp_8 with ⟨rfl, rfl⟩
            have hW : WB G 33 q (eM G q τ (sg ξ1 1 (nI (mulC τ (((i).toInt).toNat) ((((τ.2.1 2 (((i).toInt).toNat))).toInt).toNat) (((j).toInt).toNat) (d + 1) 100)))) s H locs := hW
            refine lv_lstore (lv' := [(7, .long (prdF τ (((i).toInt).toNat) ((((τ.2.1 2 (((i).toInt).toNat))).toInt).toNat) (((j).toInt).toNat) (d + 1))), (6, .int x6), (4, .long x4), (3, .int x3), (0, .ref (q 0)), (1, .int i), (2, .int j)]) C.1 C.2.1 dX8_delay_60 hl (by decide) rfl (fun ls hl => ?_)
            refine lv_lload C.1 C.2.1 dX8_delay_62 (lv_at hl 0 rfl) ?_
            refine lv_lload C.1 C.2.1 dX8_delay_64 (lv_at hl 2 rfl) ?_
            refine W.lcmp C.1 C.2.1 dX8_delay_66 ?_
            refine lv_if_le C.1 C.2.1 (tgt := 77) dX8_delay_67 (by decide) (fun c_9 => ?_) (fun c_9 => ?_)
            · skip
              have k_9 := (lc_le (rfl : ((prdF τ (((i).toInt).toNat) ((((τ.2.1 2 (((i).toInt).toNat))).toInt).toNat) (((j).toInt).toNat) (d + 1))).toInt = ((prdF τ (((i).toInt).toNat) ((((τ.2.1 2 (((i).toInt).toNat))).toInt).toNat) (((j).toInt).toNat) (d + 1))).toInt) (rfl : (x4).toInt = (x4).toInt)).mp c_9
              have eb : bstD τ i.toInt.toNat j.toInt.toNat (d + 1) = bstD τ i.toInt.toNat j.toInt.toNat d := if_neg (by rw [h4] at k_9; omega)
              refine lv_iinc (v := (x6 + 1)) (lv' := [(6, .int (x6 + 1)), (7, .long (prdF τ (((i).toInt).toNat) ((((τ.2.1 2 (((i).toInt).toNat))).toInt).toNat) (((j).toInt).toNat) (d + 1))), (4, .long x4), (3, .int x3), (0, .ref (q 0)), (1, .int i), (2, .int j)]) C.1 C.2.1 dX8_delay_77 hl (k := 1) rfl rfl (by decide) rfl (fun ls hl => ?_)
              refine lv_goto C.1 C.2.1 (tgt := 39) dX8_delay_80 (by decide) ?_
              exact ih (d + 1) (sg ξ1 1 (nI (mulC τ (((i).toInt).toNat) ((((τ.2.1 2 (((i).toInt).toNat))).toInt).toNat) (((j).toInt).toNat) (d + 1) 100))) x3 x4 (x6 + 1) (by omega) ((ti_add hd (show (1 : Int32).toInt = 1 from by decide) (by omega) (by omega)).trans (by omega)) (by omega) (by rw [eb]; first | exact h3 | exact e6) (by rw [eb]; first | exact h4 | rfl) _ _ _ hW (lv_sub hl [0, 2, 3, 4, 5, 6] rfl)
            · skip
              have k_9 := (ln_le (rfl : ((prdF τ (((i).toInt).toNat) ((((τ.2.1 2 (((i).toInt).toNat))).toInt).toNat) (((j).toInt).toNat) (d + 1))).toInt = ((prdF τ (((i).toInt).toNat) ((((τ.2.1 2 (((i).toInt).toNat))).toInt).toNat) (((j).toInt).toNat) (d + 1))).toInt) (rfl : (x4).toInt = (x4).toInt)).mp c_9
              have eb : bstD τ i.toInt.toNat j.toInt.toNat (d + 1) = d + 1 := if_pos (by rw [h4] at k_9; omega)
              have e6 : x6 = nI (d + 1) := Int32.toInt_inj.mp (by rw [hd, nI_toInt (by omega)])
              refine lv_lload C.1 C.2.1 dX8_delay_70 (lv_at hl 0 rfl) ?_
              refine lv_lstore (lv' := [(4, .long (prdF τ (((i).toInt).toNat) ((((τ.2.1 2 (((i).toInt).toNat))).toInt).toNat) (((j).toInt).toNat) (d + 1))), (7, .long (prdF τ (((i).toInt).toNat) ((((τ.2.1 2 (((i).toInt).toNat))).toInt).toNat) (((j).toInt).toNat) (d + 1))), (6, .int x6), (3, .int x3), (0, .ref (q 0)), (1, .int i), (2, .int j)]) C.1 C.2.1 dX8_delay_72 hl (by decide) rfl (fun ls hl => ?_)
              refine lv_iload C.1 C.2.1 dX8_delay_74 (lv_at hl 2 rfl) ?_
              refine lv_istore_n (lv' := [(3, .int x6), (4, .long (prdF τ (((i).toInt).toNat) ((((τ.2.1 2 (((i).toInt).toNat))).toInt).toNat) (((j).toInt).toNat) (d + 1))), (7, .long (prdF τ (((i).toInt).toNat) ((((τ.2.1 2 (((i).toInt).toNat))).toInt).toNat) (((j).toInt).toNat) (d + 1))), (6, .int x6), (0, .ref (q 0)), (1, .int i), (2, .int j)]) C.1 C.2.1 dX8_delay_76 rfl hl (by decide) rfl (fun ls hl => ?_)
              refine lv_iinc (v := (x6 + 1)) (lv' := [(6, .int (x6 + 1)), (3, .int x6), (4, .long (prdF τ (((i).toInt).toNat) ((((τ.2.1 2 (((i).toInt).toNat))).toInt).toNat) (((j).toInt).toNat) (d + 1))), (7, .long (prdF τ (((i).toInt).toNat) ((((τ.2.1 2 (((i).toInt).toNat))).toInt).toNat) (((j).toInt).toNat) (d + 1))), (0, .ref (q 0)), (1, .int i), (2, .int j)]) C.1 C.2.1 dX8_delay_77 hl (k := 3) rfl rfl (by decide) rfl (fun ls hl => ?_)
              refine lv_goto C.1 C.2.1 (tgt := 39) dX8_delay_80 (by decide) ?_
              exact ih (d + 1) (sg ξ1 1 (nI (mulC τ (((i).toInt).toNat) ((((τ.2.1 2 (((i).toInt).toNat))).toInt).toNat) (((j).toInt).toNat) (d + 1) 100))) x6 (prdF τ (((i).toInt).toNat) ((((τ.2.1 2 (((i).toInt).toNat))).toInt).toNat) (((j).toInt).toNat) (d + 1)) (x6 + 1) (by omega) ((ti_add hd (show (1 : Int32).toInt = 1 from by decide) (by omega) (by omega)).trans (by omega)) (by omega) (by rw [eb]; first | exact h3 | exact e6) (by rw [eb]; first | exact h4 | rfl) _ _ _ hW (lv_sub hl [0, 2, 1, 4, 5, 6] rfl)
      exact L_39_6 _ 0 (sg ξ 1 (nI (mulC τ (((i).toInt).toNat) ((((τ.2.1 2 (((i).toInt).toNat))).toInt).toNat) (((j).toInt).toNat) 0 100))) 0 (prdF τ (((i).toInt).toNat) ((((τ.2.1 2 (((i).toInt).toNat))).toInt).toNat) (((j).toInt).toNat) 0) 1 (Nat.lt_succ_self _) (by decide) (by omega) rfl rfl _ _ _ hW (lv_sub hl [0, 1, 2, 3, 4, 5] rfl)
    · skip
      have hW : WB G 33 q (eM G q τ ξ) s H locs := hW
      refine lv_if_ne C.1 C.2.1 (tgt := 19) dX8_delay_13 (by decide) (fun c => absurd c (by decide)) (fun _ => ?_)
      refine lv_bipush C.1 C.2.1 (v := (-2)) dX8_delay_16 (by decide) ?_
      subst hQ
      exact r_iret (τ, ξ) C hW hr hk dX8_delay_18 (show sp_delay τ i j = ((-2), τ) from by unfold sp_delay; repeat (first | rw [if_pos (by omega)] | rw [if_neg (by omega)]))
  · skip
    have hW : WB G 33 q (eM G q τ ξ) s H locs := hW
    refine lv_if_eq C.1 C.2.1 (tgt := 16) dX8_delay_5 (by decide) (fun _ => ?_) (fun c => absurd c (by decide))
    refine lv_bipush C.1 C.2.1 (v := (-2)) dX8_delay_16 (by decide) ?_
    subst hQ
    exact r_iret (τ, ξ) C hW hr hk dX8_delay_18 (show sp_delay τ i j = ((-2), τ) from by unfold sp_delay; repeat (first | rw [if_pos (by omega)] | rw [if_neg (by omega)]))
end
