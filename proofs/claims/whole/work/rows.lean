section
-- ===== PART A: goes FIRST, ahead of the names: the tables' words, and 'selects' of the private methods out of them =====
/-- a private method of a class that the tables say can be made, by its rows of tables_1 -/
def lw_okq (q : MethodName × Nat) : Prop := (q.1.cls ≠ "java/lang/invoke/MethodHandle" ∧ q.1.cls ≠ "java/lang/invoke/VarHandle") ∧ Cond.instantiable q.1.cls q.2 ∈ tables_1 ∧ Cond.privateMethod q.1 ∈ tables_1 ∧ Cond.instanceMethod q.1 ∈ tables_1
theorem lw_p0 : lw_okq (⟨"AgesFerry$Reader", "readItem", "(LAgesFerry$Roll;)Z"⟩, 3) := ⟨⟨by decide +kernel, by decide +kernel⟩, List.mem_of_getElem? (i := 51) (by decide +kernel), List.mem_of_getElem? (i := 342) (by decide +kernel), List.mem_of_getElem? (i := 343) (by decide +kernel)⟩
theorem lw_p1 : lw_okq (⟨"AgesFerry$Reader", "readNumbers", "(I)Z"⟩, 3) := ⟨⟨by decide +kernel, by decide +kernel⟩, List.mem_of_getElem? (i := 51) (by decide +kernel), List.mem_of_getElem? (i := 354) (by decide +kernel), List.mem_of_getElem? (i := 355) (by decide +kernel)⟩
theorem lw_p2 : lw_okq (⟨"AgesFerry$Reader", "readNumber", "()I"⟩, 3) := ⟨⟨by decide +kernel, by decide +kernel⟩, List.mem_of_getElem? (i := 51) (by decide +kernel), List.mem_of_getElem? (i := 358) (by decide +kernel), List.mem_of_getElem? (i := 359) (by decide +kernel)⟩
theorem lw_p3 : lw_okq (⟨"AgesFerry", "isPerson", "(I)Z"⟩, 11) := ⟨⟨by decide +kernel, by decide +kernel⟩, List.mem_of_getElem? (i := 19) (by decide +kernel), List.mem_of_getElem? (i := 447) (by decide +kernel), List.mem_of_getElem? (i := 448) (by decide +kernel)⟩
theorem lw_p4 : lw_okq (⟨"AgesFerry$State", "yearsOf", "(IZ)I"⟩, 8) := ⟨⟨by decide +kernel, by decide +kernel⟩, List.mem_of_getElem? (i := 126) (by decide +kernel), List.mem_of_getElem? (i := 474) (by decide +kernel), List.mem_of_getElem? (i := 475) (by decide +kernel)⟩
theorem lw_p5 : lw_okq (⟨"AgesFerry$State", "partsNoParty", "(I)Z"⟩, 8) := ⟨⟨by decide +kernel, by decide +kernel⟩, List.mem_of_getElem? (i := 126) (by decide +kernel), List.mem_of_getElem? (i := 485) (by decide +kernel), List.mem_of_getElem? (i := 486) (by decide +kernel)⟩
theorem lw_p6 : lw_okq (⟨"AgesFerry$Shelf", "dropOldest", "()V"⟩, 2) := ⟨⟨by decide +kernel, by decide +kernel⟩, List.mem_of_getElem? (i := 167) (by decide +kernel), List.mem_of_getElem? (i := 507) (by decide +kernel), List.mem_of_getElem? (i := 508) (by decide +kernel)⟩
theorem lw_p7 : lw_okq (⟨"AgesFerry$Shelf", "at", "(I)LAgesFerry$State;"⟩, 2) := ⟨⟨by decide +kernel, by decide +kernel⟩, List.mem_of_getElem? (i := 167) (by decide +kernel), List.mem_of_getElem? (i := 511) (by decide +kernel), List.mem_of_getElem? (i := 512) (by decide +kernel)⟩
theorem lw_p8 : lw_okq (⟨"AgesFerry$Sets", "costAll", "(I)V"⟩, 9) := ⟨⟨by decide +kernel, by decide +kernel⟩, List.mem_of_getElem? (i := 203) (by decide +kernel), List.mem_of_getElem? (i := 573) (by decide +kernel), List.mem_of_getElem? (i := 574) (by decide +kernel)⟩
theorem lw_p9 : lw_okq (⟨"AgesFerry$Sets", "isBetter", "(II)Z"⟩, 9) := ⟨⟨by decide +kernel, by decide +kernel⟩, List.mem_of_getElem? (i := 203) (by decide +kernel), List.mem_of_getElem? (i := 583) (by decide +kernel), List.mem_of_getElem? (i := 584) (by decide +kernel)⟩
theorem lw_p10 : lw_okq (⟨"AgesFerry$Sets", "waitFor", "(I)I"⟩, 9) := ⟨⟨by decide +kernel, by decide +kernel⟩, List.mem_of_getElem? (i := 203) (by decide +kernel), List.mem_of_getElem? (i := 597) (by decide +kernel), List.mem_of_getElem? (i := 598) (by decide +kernel)⟩
theorem lw_p11 : lw_okq (⟨"AgesFerry$Sets", "packExactly", "(I)V"⟩, 9) := ⟨⟨by decide +kernel, by decide +kernel⟩, List.mem_of_getElem? (i := 203) (by decide +kernel), List.mem_of_getElem? (i := 614) (by decide +kernel), List.mem_of_getElem? (i := 615) (by decide +kernel)⟩
theorem lw_p12 : lw_okq (⟨"AgesFerry$Sets", "compareWay", "(II)V"⟩, 9) := ⟨⟨by decide +kernel, by decide +kernel⟩, List.mem_of_getElem? (i := 203) (by decide +kernel), List.mem_of_getElem? (i := 618) (by decide +kernel), List.mem_of_getElem? (i := 619) (by decide +kernel)⟩
theorem lw_p13 : lw_okq (⟨"AgesFerry", "couldBeAnother", "(I)Z"⟩, 11) := ⟨⟨by decide +kernel, by decide +kernel⟩, List.mem_of_getElem? (i := 19) (by decide +kernel), List.mem_of_getElem? (i := 670) (by decide +kernel), List.mem_of_getElem? (i := 671) (by decide +kernel)⟩
theorem lw_p14 : lw_okq (⟨"AgesFerry$Sets", "nearer", "(II)I"⟩, 9) := ⟨⟨by decide +kernel, by decide +kernel⟩, List.mem_of_getElem? (i := 203) (by decide +kernel), List.mem_of_getElem? (i := 692) (by decide +kernel), List.mem_of_getElem? (i := 693) (by decide +kernel)⟩
theorem lw_p15 : lw_okq (⟨"AgesFerry$Chance", "isAble", "(I)Z"⟩, 4) := ⟨⟨by decide +kernel, by decide +kernel⟩, List.mem_of_getElem? (i := 242) (by decide +kernel), List.mem_of_getElem? (i := 710) (by decide +kernel), List.mem_of_getElem? (i := 711) (by decide +kernel)⟩
def lw_privs_1 : List (MethodName × Nat) := [(⟨"AgesFerry$Reader", "readItem", "(LAgesFerry$Roll;)Z"⟩, 3), (⟨"AgesFerry$Reader", "readNumbers", "(I)Z"⟩, 3), (⟨"AgesFerry$Reader", "readNumber", "()I"⟩, 3), (⟨"AgesFerry", "isPerson", "(I)Z"⟩, 11), (⟨"AgesFerry$State", "yearsOf", "(IZ)I"⟩, 8), (⟨"AgesFerry$State", "partsNoParty", "(I)Z"⟩, 8), (⟨"AgesFerry$Shelf", "dropOldest", "()V"⟩, 2), (⟨"AgesFerry$Shelf", "at", "(I)LAgesFerry$State;"⟩, 2), (⟨"AgesFerry$Sets", "costAll", "(I)V"⟩, 9), (⟨"AgesFerry$Sets", "isBetter", "(II)Z"⟩, 9), (⟨"AgesFerry$Sets", "waitFor", "(I)I"⟩, 9), (⟨"AgesFerry$Sets", "packExactly", "(I)V"⟩, 9), (⟨"AgesFerry$Sets", "compareWay", "(II)V"⟩, 9), (⟨"AgesFerry", "couldBeAnother", "(I)Z"⟩, 11), (⟨"AgesFerry$Sets", "nearer", "(II)I"⟩, 9), (⟨"AgesFerry$Chance", "isAble", "(I)Z"⟩, 4)]
theorem lw_r1 : ∀ q ∈ lw_privs_1, lw_okq q := List.forall_mem_cons.mpr ⟨lw_p0, List.forall_mem_cons.mpr ⟨lw_p1, List.forall_mem_cons.mpr ⟨lw_p2, List.forall_mem_cons.mpr ⟨lw_p3, List.forall_mem_cons.mpr ⟨lw_p4, List.forall_mem_cons.mpr ⟨lw_p5, List.forall_mem_cons.mpr ⟨lw_p6, List.forall_mem_cons.mpr ⟨lw_p7, List.forall_mem_cons.mpr ⟨lw_p8, List.forall_mem_cons.mpr ⟨lw_p9, List.forall_mem_cons.mpr ⟨lw_p10, List.forall_mem_cons.mpr ⟨lw_p11, List.forall_mem_cons.mpr ⟨lw_p12, List.forall_mem_cons.mpr ⟨lw_p13, List.forall_mem_cons.mpr ⟨lw_p14, List.forall_mem_cons.mpr ⟨lw_p15, fun _ h => absurd h List.not_mem_nil⟩⟩⟩⟩⟩⟩⟩⟩⟩⟩⟩⟩⟩⟩⟩⟩
theorem lw_p16 : lw_okq (⟨"AgesFerry$Chance", "reduce", "(JJ)V"⟩, 4) := ⟨⟨by decide +kernel, by decide +kernel⟩, List.mem_of_getElem? (i := 242) (by decide +kernel), List.mem_of_getElem? (i := 721) (by decide +kernel), List.mem_of_getElem? (i := 722) (by decide +kernel)⟩
theorem lw_p17 : lw_okq (⟨"AgesFerry$State", "move", "(IZ)V"⟩, 8) := ⟨⟨by decide +kernel, by decide +kernel⟩, List.mem_of_getElem? (i := 126) (by decide +kernel), List.mem_of_getElem? (i := 743) (by decide +kernel), List.mem_of_getElem? (i := 744) (by decide +kernel)⟩
theorem lw_p18 : lw_okq (⟨"AgesFerryModel", "begins", "()V"⟩, 15) := ⟨⟨by decide +kernel, by decide +kernel⟩, List.mem_of_getElem? (i := 764) (by decide +kernel), List.mem_of_getElem? (i := 770) (by decide +kernel), List.mem_of_getElem? (i := 771) (by decide +kernel)⟩
theorem lw_p19 : lw_okq (⟨"AgesFerryModel", "personOf", "(IIII)V"⟩, 15) := ⟨⟨by decide +kernel, by decide +kernel⟩, List.mem_of_getElem? (i := 764) (by decide +kernel), List.mem_of_getElem? (i := 774) (by decide +kernel), List.mem_of_getElem? (i := 775) (by decide +kernel)⟩
theorem lw_p20 : lw_okq (⟨"AgesFerryModel", "lays", "()V"⟩, 15) := ⟨⟨by decide +kernel, by decide +kernel⟩, List.mem_of_getElem? (i := 764) (by decide +kernel), List.mem_of_getElem? (i := 778) (by decide +kernel), List.mem_of_getElem? (i := 779) (by decide +kernel)⟩
theorem lw_p21 : lw_okq (⟨"AgesFerryModel", "readsAll", "()I"⟩, 15) := ⟨⟨by decide +kernel, by decide +kernel⟩, List.mem_of_getElem? (i := 764) (by decide +kernel), List.mem_of_getElem? (i := 843) (by decide +kernel), List.mem_of_getElem? (i := 844) (by decide +kernel)⟩
theorem lw_p22 : lw_okq (⟨"AgesFerryModel", "readsItem", "(I)Z"⟩, 15) := ⟨⟨by decide +kernel, by decide +kernel⟩, List.mem_of_getElem? (i := 764) (by decide +kernel), List.mem_of_getElem? (i := 847) (by decide +kernel), List.mem_of_getElem? (i := 848) (by decide +kernel)⟩
theorem lw_p23 : lw_okq (⟨"AgesFerryModel", "number", "(III)I"⟩, 15) := ⟨⟨by decide +kernel, by decide +kernel⟩, List.mem_of_getElem? (i := 764) (by decide +kernel), List.mem_of_getElem? (i := 851) (by decide +kernel), List.mem_of_getElem? (i := 852) (by decide +kernel)⟩
theorem lw_p24 : lw_okq (⟨"AgesFerryModel", "letterAt", "(I)I"⟩, 15) := ⟨⟨by decide +kernel, by decide +kernel⟩, List.mem_of_getElem? (i := 764) (by decide +kernel), List.mem_of_getElem? (i := 855) (by decide +kernel), List.mem_of_getElem? (i := 856) (by decide +kernel)⟩
theorem lw_p25 : lw_okq (⟨"AgesFerryModel", "isPerson", "(I)Z"⟩, 15) := ⟨⟨by decide +kernel, by decide +kernel⟩, List.mem_of_getElem? (i := 764) (by decide +kernel), List.mem_of_getElem? (i := 870) (by decide +kernel), List.mem_of_getElem? (i := 871) (by decide +kernel)⟩
theorem lw_p26 : lw_okq (⟨"AgesFerryModel", "where", "(I)I"⟩, 15) := ⟨⟨by decide +kernel, by decide +kernel⟩, List.mem_of_getElem? (i := 764) (by decide +kernel), List.mem_of_getElem? (i := 874) (by decide +kernel), List.mem_of_getElem? (i := 875) (by decide +kernel)⟩
theorem lw_p27 : lw_okq (⟨"AgesFerryModel", "allAt", "(I)I"⟩, 15) := ⟨⟨by decide +kernel, by decide +kernel⟩, List.mem_of_getElem? (i := 764) (by decide +kernel), List.mem_of_getElem? (i := 882) (by decide +kernel), List.mem_of_getElem? (i := 883) (by decide +kernel)⟩
theorem lw_p28 : lw_okq (⟨"AgesFerryModel", "sumOf", "(I)I"⟩, 15) := ⟨⟨by decide +kernel, by decide +kernel⟩, List.mem_of_getElem? (i := 764) (by decide +kernel), List.mem_of_getElem? (i := 886) (by decide +kernel), List.mem_of_getElem? (i := 887) (by decide +kernel)⟩
theorem lw_p29 : lw_okq (⟨"AgesFerryModel", "sails", "(I)Z"⟩, 15) := ⟨⟨by decide +kernel, by decide +kernel⟩, List.mem_of_getElem? (i := 764) (by decide +kernel), List.mem_of_getElem? (i := 890) (by decide +kernel), List.mem_of_getElem? (i := 891) (by decide +kernel)⟩
theorem lw_p30 : lw_okq (⟨"AgesFerryModel", "alive", "()I"⟩, 15) := ⟨⟨by decide +kernel, by decide +kernel⟩, List.mem_of_getElem? (i := 764) (by decide +kernel), List.mem_of_getElem? (i := 894) (by decide +kernel), List.mem_of_getElem? (i := 895) (by decide +kernel)⟩
theorem lw_p31 : lw_okq (⟨"AgesFerryModel", "coinsOf", "(I)I"⟩, 15) := ⟨⟨by decide +kernel, by decide +kernel⟩, List.mem_of_getElem? (i := 764) (by decide +kernel), List.mem_of_getElem? (i := 898) (by decide +kernel), List.mem_of_getElem? (i := 899) (by decide +kernel)⟩
def lw_privs_2 : List (MethodName × Nat) := [(⟨"AgesFerry$Chance", "reduce", "(JJ)V"⟩, 4), (⟨"AgesFerry$State", "move", "(IZ)V"⟩, 8), (⟨"AgesFerryModel", "begins", "()V"⟩, 15), (⟨"AgesFerryModel", "personOf", "(IIII)V"⟩, 15), (⟨"AgesFerryModel", "lays", "()V"⟩, 15), (⟨"AgesFerryModel", "readsAll", "()I"⟩, 15), (⟨"AgesFerryModel", "readsItem", "(I)Z"⟩, 15), (⟨"AgesFerryModel", "number", "(III)I"⟩, 15), (⟨"AgesFerryModel", "letterAt", "(I)I"⟩, 15), (⟨"AgesFerryModel", "isPerson", "(I)Z"⟩, 15), (⟨"AgesFerryModel", "where", "(I)I"⟩, 15), (⟨"AgesFerryModel", "allAt", "(I)I"⟩, 15), (⟨"AgesFerryModel", "sumOf", "(I)I"⟩, 15), (⟨"AgesFerryModel", "sails", "(I)Z"⟩, 15), (⟨"AgesFerryModel", "alive", "()I"⟩, 15), (⟨"AgesFerryModel", "coinsOf", "(I)I"⟩, 15)]
theorem lw_r2 : ∀ q ∈ lw_privs_2, lw_okq q := List.forall_mem_cons.mpr ⟨lw_p16, List.forall_mem_cons.mpr ⟨lw_p17, List.forall_mem_cons.mpr ⟨lw_p18, List.forall_mem_cons.mpr ⟨lw_p19, List.forall_mem_cons.mpr ⟨lw_p20, List.forall_mem_cons.mpr ⟨lw_p21, List.forall_mem_cons.mpr ⟨lw_p22, List.forall_mem_cons.mpr ⟨lw_p23, List.forall_mem_cons.mpr ⟨lw_p24, List.forall_mem_cons.mpr ⟨lw_p25, List.forall_mem_cons.mpr ⟨lw_p26, List.forall_mem_cons.mpr ⟨lw_p27, List.forall_mem_cons.mpr ⟨lw_p28, List.forall_mem_cons.mpr ⟨lw_p29, List.forall_mem_cons.mpr ⟨lw_p30, List.forall_mem_cons.mpr ⟨lw_p31, fun _ h => absurd h List.not_mem_nil⟩⟩⟩⟩⟩⟩⟩⟩⟩⟩⟩⟩⟩⟩⟩⟩
theorem lw_p32 : lw_okq (⟨"AgesFerryModel", "keeps", "()V"⟩, 15) := ⟨⟨by decide +kernel, by decide +kernel⟩, List.mem_of_getElem? (i := 764) (by decide +kernel), List.mem_of_getElem? (i := 906) (by decide +kernel), List.mem_of_getElem? (i := 907) (by decide +kernel)⟩
theorem lw_p33 : lw_okq (⟨"AgesFerryModel", "goes", "()I"⟩, 15) := ⟨⟨by decide +kernel, by decide +kernel⟩, List.mem_of_getElem? (i := 764) (by decide +kernel), List.mem_of_getElem? (i := 926) (by decide +kernel), List.mem_of_getElem? (i := 927) (by decide +kernel)⟩
theorem lw_p34 : lw_okq (⟨"AgesFerryModel", "present", "()I"⟩, 15) := ⟨⟨by decide +kernel, by decide +kernel⟩, List.mem_of_getElem? (i := 764) (by decide +kernel), List.mem_of_getElem? (i := 938) (by decide +kernel), List.mem_of_getElem? (i := 939) (by decide +kernel)⟩
theorem lw_p35 : lw_okq (⟨"AgesFerryModel", "isThere", "()Z"⟩, 15) := ⟨⟨by decide +kernel, by decide +kernel⟩, List.mem_of_getElem? (i := 764) (by decide +kernel), List.mem_of_getElem? (i := 949) (by decide +kernel), List.mem_of_getElem? (i := 950) (by decide +kernel)⟩
theorem lw_p36 : lw_okq (⟨"AgesFerryModel", "splits", "()V"⟩, 15) := ⟨⟨by decide +kernel, by decide +kernel⟩, List.mem_of_getElem? (i := 764) (by decide +kernel), List.mem_of_getElem? (i := 957) (by decide +kernel), List.mem_of_getElem? (i := 958) (by decide +kernel)⟩
theorem lw_p37 : lw_okq (⟨"AgesFerryModel", "setsWith", "(I)I"⟩, 15) := ⟨⟨by decide +kernel, by decide +kernel⟩, List.mem_of_getElem? (i := 764) (by decide +kernel), List.mem_of_getElem? (i := 967) (by decide +kernel), List.mem_of_getElem? (i := 968) (by decide +kernel)⟩
theorem lw_p38 : lw_okq (⟨"AgesFerryModel", "isSo", "(II)Z"⟩, 15) := ⟨⟨by decide +kernel, by decide +kernel⟩, List.mem_of_getElem? (i := 764) (by decide +kernel), List.mem_of_getElem? (i := 987) (by decide +kernel), List.mem_of_getElem? (i := 988) (by decide +kernel)⟩
theorem lw_p39 : lw_okq (⟨"AgesFerryModel", "turn", "(I)V"⟩, 15) := ⟨⟨by decide +kernel, by decide +kernel⟩, List.mem_of_getElem? (i := 764) (by decide +kernel), List.mem_of_getElem? (i := 1010) (by decide +kernel), List.mem_of_getElem? (i := 1011) (by decide +kernel)⟩
def lw_privs_3 : List (MethodName × Nat) := [(⟨"AgesFerryModel", "keeps", "()V"⟩, 15), (⟨"AgesFerryModel", "goes", "()I"⟩, 15), (⟨"AgesFerryModel", "present", "()I"⟩, 15), (⟨"AgesFerryModel", "isThere", "()Z"⟩, 15), (⟨"AgesFerryModel", "splits", "()V"⟩, 15), (⟨"AgesFerryModel", "setsWith", "(I)I"⟩, 15), (⟨"AgesFerryModel", "isSo", "(II)Z"⟩, 15), (⟨"AgesFerryModel", "turn", "(I)V"⟩, 15)]
theorem lw_r3 : ∀ q ∈ lw_privs_3, lw_okq q := List.forall_mem_cons.mpr ⟨lw_p32, List.forall_mem_cons.mpr ⟨lw_p33, List.forall_mem_cons.mpr ⟨lw_p34, List.forall_mem_cons.mpr ⟨lw_p35, List.forall_mem_cons.mpr ⟨lw_p36, List.forall_mem_cons.mpr ⟨lw_p37, List.forall_mem_cons.mpr ⟨lw_p38, List.forall_mem_cons.mpr ⟨lw_p39, fun _ h => absurd h List.not_mem_nil⟩⟩⟩⟩⟩⟩⟩⟩
def lw_privs : List (MethodName × Nat) := lw_privs_1 ++ (lw_privs_2 ++ (lw_privs_3))
def lw_tbl : List Cond := k2_sels lw_privs ++ tables_1
theorem lw_privs_ok : ∀ q ∈ lw_privs, lw_okq q := by
  show ∀ q ∈ lw_privs_1 ++ (lw_privs_2 ++ (lw_privs_3)), lw_okq q
  exact List.forall_mem_append.mpr ⟨lw_r1, List.forall_mem_append.mpr ⟨lw_r2, lw_r3⟩⟩
-- ===== end of PART A; then your names; then what follows =====
end
section
def RX0 : String := "AgesFerry$Chance"
def TX0 : u_T := fun k => match k with
  | 0 => ("AgesFerry$Chance", "now", "LAgesFerry$State;", true)
  | 1 => ("AgesFerry$Chance", "able", "LAgesFerry$Row;", true)
  | 2 => ("AgesFerry$Chance", "above", "I", false)
  | _ => ("AgesFerry$Chance", "below", "I", false)
def tyX0 : Nat → FieldType := fun k => match k with
  | 0 => .object "AgesFerry$State"
  | 1 => .object "AgesFerry$Row"
  | 2 => .int
  | _ => .int
abbrev wsX00 : List Cond := u_ws RX0 TX0 4
theorem nmX0 : ∀ a, a < 4 → ∀ b, b < 4 → a ≠ b → (TX0 a).2.1 ≠ (TX0 b).2.1 := by decide +kernel
theorem tyX0_ok : ∀ k, k < 4 → parseFieldDescriptor (TX0 k).2.2.1 = some (tyX0 k) := by decide +kernel
abbrev cX0_init : ByteArray := prog_2_method_1_code
def yX0_init : MethodName := ⟨RX0, "<init>", "(LAgesFerry$State;)V"⟩
abbrev cX0_reckon : ByteArray := prog_2_method_2_code
def yX0_reckon : MethodName := ⟨RX0, "reckon", "(I)V"⟩
abbrev cX0_isAble : ByteArray := prog_2_method_3_code
def yX0_isAble : MethodName := ⟨RX0, "isAble", "(I)Z"⟩
abbrev cX0_reduce : ByteArray := prog_2_method_4_code
def yX0_reduce : MethodName := ⟨RX0, "reduce", "(JJ)V"⟩
abbrev cX0_power : ByteArray := prog_2_method_5_code
def yX0_power : MethodName := ⟨RX0, "power", "(II)J"⟩
abbrev cX0_commonDivisor : ByteArray := prog_2_method_6_code
def yX0_commonDivisor : MethodName := ⟨RX0, "commonDivisor", "(JJ)J"⟩
def RX1 : String := "AgesFerry$Reader"
def TX1 : u_T := fun k => match k with
  | 0 => ("AgesFerry$Reader", "text", "LAgesFerry$Text;", true)
  | 1 => ("AgesFerry$Reader", "numbers", "LAgesFerry$Row;", true)
  | _ => ("AgesFerry$Reader", "place", "I", false)
def tyX1 : Nat → FieldType := fun k => match k with
  | 0 => .object "AgesFerry$Text"
  | 1 => .object "AgesFerry$Row"
  | _ => .int
abbrev wsX10 : List Cond := u_ws RX1 TX1 3
theorem nmX1 : ∀ a, a < 3 → ∀ b, b < 3 → a ≠ b → (TX1 a).2.1 ≠ (TX1 b).2.1 := by decide +kernel
theorem tyX1_ok : ∀ k, k < 3 → parseFieldDescriptor (TX1 k).2.2.1 = some (tyX1 k) := by decide +kernel
abbrev cX1_init : ByteArray := prog_3_method_1_code
def yX1_init : MethodName := ⟨RX1, "<init>", "(LAgesFerry$Text;)V"⟩
abbrev cX1_readInto : ByteArray := prog_3_method_2_code
def yX1_readInto : MethodName := ⟨RX1, "readInto", "(LAgesFerry$Roll;)I"⟩
abbrev cX1_readItem : ByteArray := prog_3_method_3_code
def yX1_readItem : MethodName := ⟨RX1, "readItem", "(LAgesFerry$Roll;)Z"⟩
abbrev cX1_readNumbers : ByteArray := prog_3_method_4_code
def yX1_readNumbers : MethodName := ⟨RX1, "readNumbers", "(I)Z"⟩
abbrev cX1_readNumber : ByteArray := prog_3_method_5_code
def yX1_readNumber : MethodName := ⟨RX1, "readNumber", "()I"⟩
abbrev cX1_isFigure : ByteArray := prog_3_method_6_code
def yX1_isFigure : MethodName := ⟨RX1, "isFigure", "(I)Z"⟩
def RX2 : String := "AgesFerry$Roll"
def TX2 : u_T := fun k => match k with
  | 0 => ("AgesFerry$Roll", "kinds", "LAgesFerry$Row;", true)
  | 1 => ("AgesFerry$Roll", "ages", "LAgesFerry$Row;", true)
  | 2 => ("AgesFerry$Roll", "comings", "LAgesFerry$Row;", true)
  | 3 => ("AgesFerry$Roll", "parties", "LAgesFerry$Row;", true)
  | 4 => ("AgesFerry$Roll", "members", "LAgesFerry$Row;", true)
  | 5 => ("AgesFerry$Roll", "soldiers", "I", false)
  | 6 => ("AgesFerry$Roll", "size", "I", false)
  | 7 => ("AgesFerry$Roll", "wants", "I", false)
  | 8 => ("AgesFerry$Roll", "bears", "I", false)
  | _ => ("AgesFerry$Roll", "price", "I", false)
def tyX2 : Nat → FieldType := fun k => match k with
  | 0 => .object "AgesFerry$Row"
  | 1 => .object "AgesFerry$Row"
  | 2 => .object "AgesFerry$Row"
  | 3 => .object "AgesFerry$Row"
  | 4 => .object "AgesFerry$Row"
  | 5 => .int
  | 6 => .int
  | 7 => .int
  | 8 => .int
  | _ => .int
abbrev wsX20 : List Cond := u_ws RX2 TX2 10
theorem nmX2 : ∀ a, a < 10 → ∀ b, b < 10 → a ≠ b → (TX2 a).2.1 ≠ (TX2 b).2.1 := by decide +kernel
theorem tyX2_ok : ∀ k, k < 10 → parseFieldDescriptor (TX2 k).2.2.1 = some (tyX2 k) := by decide +kernel
abbrev cX2_init : ByteArray := prog_4_method_1_code
def yX2_init : MethodName := ⟨RX2, "<init>", "()V"⟩
abbrev cX2_clear : ByteArray := prog_4_method_2_code
def yX2_clear : MethodName := ⟨RX2, "clear", "()V"⟩
abbrev cX2_setFerry : ByteArray := prog_4_method_3_code
def yX2_setFerry : MethodName := ⟨RX2, "setFerry", "(III)Z"⟩
abbrev cX2_addPerson : ByteArray := prog_4_method_4_code
def yX2_addPerson : MethodName := ⟨RX2, "addPerson", "(IIII)Z"⟩
abbrev cX2_everyone : ByteArray := prog_4_method_5_code
def yX2_everyone : MethodName := ⟨RX2, "everyone", "()I"⟩
abbrev cX2_agesOf : ByteArray := prog_4_method_6_code
def yX2_agesOf : MethodName := ⟨RX2, "agesOf", "(I)I"⟩
def RX3 : String := "AgesFerry$Row"
def TX3 : u_T := fun k => match k with
  | _ => ("AgesFerry$Row", "cells", "[I", true)
def tyX3 : Nat → FieldType := fun k => match k with
  | _ => .array .int
abbrev wsX30 : List Cond := u_ws RX3 TX3 1
theorem nmX3 : ∀ a, a < 1 → ∀ b, b < 1 → a ≠ b → (TX3 a).2.1 ≠ (TX3 b).2.1 := by decide +kernel
theorem tyX3_ok : ∀ k, k < 1 → parseFieldDescriptor (TX3 k).2.2.1 = some (tyX3 k) := by decide +kernel
abbrev cX3_init : ByteArray := prog_5_method_1_code
def yX3_init : MethodName := ⟨RX3, "<init>", "(I)V"⟩
abbrev cX3_at : ByteArray := prog_5_method_2_code
def yX3_at : MethodName := ⟨RX3, "at", "(I)I"⟩
abbrev cX3_put : ByteArray := prog_5_method_3_code
def yX3_put : MethodName := ⟨RX3, "put", "(II)V"⟩
abbrev cX3_fill : ByteArray := prog_5_method_4_code
def yX3_fill : MethodName := ⟨RX3, "fill", "(I)V"⟩
def RX4 : String := "AgesFerry$Sets"
def TX4 : u_T := fun k => match k with
  | 0 => ("AgesFerry$Sets", "roll", "LAgesFerry$Roll;", true)
  | 1 => ("AgesFerry$Sets", "now", "LAgesFerry$State;", true)
  | 2 => ("AgesFerry$Sets", "costs", "LAgesFerry$Row;", true)
  | 3 => ("AgesFerry$Sets", "most", "LAgesFerry$Row;", true)
  | 4 => ("AgesFerry$Sets", "least", "LAgesFerry$Row;", true)
  | 5 => ("AgesFerry$Sets", "seen", "LAgesFerry$Row;", true)
  | 6 => ("AgesFerry$Sets", "packed", "I", false)
  | 7 => ("AgesFerry$Sets", "packedCoins", "I", false)
  | _ => ("AgesFerry$Sets", "left", "I", false)
def tyX4 : Nat → FieldType := fun k => match k with
  | 0 => .object "AgesFerry$Roll"
  | 1 => .object "AgesFerry$State"
  | 2 => .object "AgesFerry$Row"
  | 3 => .object "AgesFerry$Row"
  | 4 => .object "AgesFerry$Row"
  | 5 => .object "AgesFerry$Row"
  | 6 => .int
  | 7 => .int
  | _ => .int
abbrev wsX40 : List Cond := u_ws RX4 TX4 9
theorem nmX4 : ∀ a, a < 9 → ∀ b, b < 9 → a ≠ b → (TX4 a).2.1 ≠ (TX4 b).2.1 := by decide +kernel
theorem tyX4_ok : ∀ k, k < 9 → parseFieldDescriptor (TX4 k).2.2.1 = some (tyX4 k) := by decide +kernel
abbrev cX4_init : ByteArray := prog_6_method_1_code
def yX4_init : MethodName := ⟨RX4, "<init>", "(LAgesFerry$Roll;LAgesFerry$State;)V"⟩
abbrev cX4_costAll : ByteArray := prog_6_method_2_code
def yX4_costAll : MethodName := ⟨RX4, "costAll", "(I)V"⟩
abbrev cX4_cheapest : ByteArray := prog_6_method_3_code
def yX4_cheapest : MethodName := ⟨RX4, "cheapest", "()I"⟩
abbrev cX4_isBetter : ByteArray := prog_6_method_4_code
def yX4_isBetter : MethodName := ⟨RX4, "isBetter", "(II)Z"⟩
abbrev cX4_shortestWait : ByteArray := prog_6_method_5_code
def yX4_shortestWait : MethodName := ⟨RX4, "shortestWait", "()I"⟩
abbrev cX4_waitFor : ByteArray := prog_6_method_6_code
def yX4_waitFor : MethodName := ⟨RX4, "waitFor", "(I)I"⟩
abbrev cX4_manyWith : ByteArray := prog_6_method_7_code
def yX4_manyWith : MethodName := ⟨RX4, "manyWith", "(I)I"⟩
abbrev cX4_inNone : ByteArray := prog_6_method_8_code
def yX4_inNone : MethodName := ⟨RX4, "inNone", "()I"⟩
abbrev cX4_pack : ByteArray := prog_6_method_9_code
def yX4_pack : MethodName := ⟨RX4, "pack", "()V"⟩
abbrev cX4_packExactly : ByteArray := prog_6_method_10_code
def yX4_packExactly : MethodName := ⟨RX4, "packExactly", "(I)V"⟩
abbrev cX4_compareWay : ByteArray := prog_6_method_11_code
def yX4_compareWay : MethodName := ⟨RX4, "compareWay", "(II)V"⟩
abbrev cX4_unlikeTotals : ByteArray := prog_6_method_12_code
def yX4_unlikeTotals : MethodName := ⟨RX4, "unlikeTotals", "()I"⟩
abbrev cX4_nearestTotal : ByteArray := prog_6_method_13_code
def yX4_nearestTotal : MethodName := ⟨RX4, "nearestTotal", "()I"⟩
abbrev cX4_nearer : ByteArray := prog_6_method_14_code
def yX4_nearer : MethodName := ⟨RX4, "nearer", "(II)I"⟩
def RX5 : String := "AgesFerry$Shelf"
def TX5 : u_T := fun k => match k with
  | 0 => ("AgesFerry$Shelf", "states", "[LAgesFerry$State;", true)
  | _ => ("AgesFerry$Shelf", "held", "I", false)
def tyX5 : Nat → FieldType := fun k => match k with
  | 0 => .array (.object "AgesFerry$State")
  | _ => .int
abbrev wsX50 : List Cond := u_ws RX5 TX5 2
theorem nmX5 : ∀ a, a < 2 → ∀ b, b < 2 → a ≠ b → (TX5 a).2.1 ≠ (TX5 b).2.1 := by decide +kernel
theorem tyX5_ok : ∀ k, k < 2 → parseFieldDescriptor (TX5 k).2.2.1 = some (tyX5 k) := by decide +kernel
abbrev cX5_init : ByteArray := prog_7_method_1_code
def yX5_init : MethodName := ⟨RX5, "<init>", "(ILAgesFerry$Roll;)V"⟩
abbrev cX5_clear : ByteArray := prog_7_method_2_code
def yX5_clear : MethodName := ⟨RX5, "clear", "()V"⟩
abbrev cX5_add : ByteArray := prog_7_method_3_code
def yX5_add : MethodName := ⟨RX5, "add", "(LAgesFerry$State;)V"⟩
abbrev cX5_takeInto : ByteArray := prog_7_method_4_code
def yX5_takeInto : MethodName := ⟨RX5, "takeInto", "(LAgesFerry$State;)Z"⟩
abbrev cX5_dropOldest : ByteArray := prog_7_method_5_code
def yX5_dropOldest : MethodName := ⟨RX5, "dropOldest", "()V"⟩
abbrev cX5_at : ByteArray := prog_7_method_6_code
def yX5_at : MethodName := ⟨RX5, "at", "(I)LAgesFerry$State;"⟩
def RX6 : String := "AgesFerry$State"
def TX6 : u_T := fun k => match k with
  | 0 => ("AgesFerry$State", "roll", "LAgesFerry$Roll;", true)
  | 1 => ("AgesFerry$State", "trips", "LAgesFerry$Row;", true)
  | 2 => ("AgesFerry$State", "minute", "I", false)
  | 3 => ("AgesFerry$State", "aboard", "I", false)
  | 4 => ("AgesFerry$State", "across", "I", false)
  | 5 => ("AgesFerry$State", "dead", "I", false)
  | 6 => ("AgesFerry$State", "sailed", "I", false)
  | _ => ("AgesFerry$State", "spent", "I", false)
def tyX6 : Nat → FieldType := fun k => match k with
  | 0 => .object "AgesFerry$Roll"
  | 1 => .object "AgesFerry$Row"
  | 2 => .int
  | 3 => .int
  | 4 => .int
  | 5 => .int
  | 6 => .int
  | _ => .int
abbrev wsX60 : List Cond := u_ws RX6 TX6 8
theorem nmX6 : ∀ a, a < 8 → ∀ b, b < 8 → a ≠ b → (TX6 a).2.1 ≠ (TX6 b).2.1 := by decide +kernel
theorem tyX6_ok : ∀ k, k < 8 → parseFieldDescriptor (TX6 k).2.2.1 = some (tyX6 k) := by decide +kernel
abbrev cX6_init : ByteArray := prog_8_method_1_code
def yX6_init : MethodName := ⟨RX6, "<init>", "(LAgesFerry$Roll;)V"⟩
abbrev cX6_reset : ByteArray := prog_8_method_2_code
def yX6_reset : MethodName := ⟨RX6, "reset", "()V"⟩
abbrev cX6_copyFrom : ByteArray := prog_8_method_3_code
def yX6_copyFrom : MethodName := ⟨RX6, "copyFrom", "(LAgesFerry$State;)V"⟩
abbrev cX6_remaining : ByteArray := prog_8_method_4_code
def yX6_remaining : MethodName := ⟨RX6, "remaining", "()I"⟩
abbrev cX6_present : ByteArray := prog_8_method_5_code
def yX6_present : MethodName := ⟨RX6, "present", "()I"⟩
abbrev cX6_placeOf : ByteArray := prog_8_method_6_code
def yX6_placeOf : MethodName := ⟨RX6, "placeOf", "(I)I"⟩
abbrev cX6_totalOf : ByteArray := prog_8_method_7_code
def yX6_totalOf : MethodName := ⟨RX6, "totalOf", "(I)I"⟩
abbrev cX6_yearsOf : ByteArray := prog_8_method_8_code
def yX6_yearsOf : MethodName := ⟨RX6, "yearsOf", "(IZ)I"⟩
abbrev cX6_costOf : ByteArray := prog_8_method_9_code
def yX6_costOf : MethodName := ⟨RX6, "costOf", "(I)I"⟩
abbrev cX6_partsNoParty : ByteArray := prog_8_method_10_code
def yX6_partsNoParty : MethodName := ⟨RX6, "partsNoParty", "(I)Z"⟩
abbrev cX6_takeOn : ByteArray := prog_8_method_11_code
def yX6_takeOn : MethodName := ⟨RX6, "takeOn", "(I)V"⟩
abbrev cX6_letOff : ByteArray := prog_8_method_12_code
def yX6_letOff : MethodName := ⟨RX6, "letOff", "(I)V"⟩
abbrev cX6_bury : ByteArray := prog_8_method_13_code
def yX6_bury : MethodName := ⟨RX6, "bury", "(I)V"⟩
abbrev cX6_depart : ByteArray := prog_8_method_14_code
def yX6_depart : MethodName := ⟨RX6, "depart", "(I)V"⟩
abbrev cX6_liveMinute : ByteArray := prog_8_method_15_code
def yX6_liveMinute : MethodName := ⟨RX6, "liveMinute", "(I)V"⟩
abbrev cX6_move : ByteArray := prog_8_method_16_code
def yX6_move : MethodName := ⟨RX6, "move", "(IZ)V"⟩
def RX7 : String := "AgesFerry$Text"
def TX7 : u_T := fun k => match k with
  | 0 => ("AgesFerry$Text", "letters", "LAgesFerry$Row;", true)
  | _ => ("AgesFerry$Text", "length", "I", false)
def tyX7 : Nat → FieldType := fun k => match k with
  | 0 => .object "AgesFerry$Row"
  | _ => .int
abbrev wsX70 : List Cond := u_ws RX7 TX7 2
theorem nmX7 : ∀ a, a < 2 → ∀ b, b < 2 → a ≠ b → (TX7 a).2.1 ≠ (TX7 b).2.1 := by decide +kernel
theorem tyX7_ok : ∀ k, k < 2 → parseFieldDescriptor (TX7 k).2.2.1 = some (tyX7 k) := by decide +kernel
abbrev cX7_init : ByteArray := prog_9_method_1_code
def yX7_init : MethodName := ⟨RX7, "<init>", "()V"⟩
abbrev cX7_length : ByteArray := prog_9_method_2_code
def yX7_length : MethodName := ⟨RX7, "length", "()I"⟩
abbrev cX7_clear : ByteArray := prog_9_method_3_code
def yX7_clear : MethodName := ⟨RX7, "clear", "()V"⟩
abbrev cX7_add : ByteArray := prog_9_method_4_code
def yX7_add : MethodName := ⟨RX7, "add", "(I)V"⟩
abbrev cX7_letterAt : ByteArray := prog_9_method_5_code
def yX7_letterAt : MethodName := ⟨RX7, "letterAt", "(I)I"⟩
def RX8 : String := "AgesFerry$Told"
def TX8 : u_T := fun k => match k with
  | 0 => ("AgesFerry$Told", "sets", "LAgesFerry$Row;", true)
  | 1 => ("AgesFerry$Told", "gaps", "LAgesFerry$Row;", true)
  | _ => ("AgesFerry$Told", "held", "I", false)
def tyX8 : Nat → FieldType := fun k => match k with
  | 0 => .object "AgesFerry$Row"
  | 1 => .object "AgesFerry$Row"
  | _ => .int
abbrev wsX80 : List Cond := u_ws RX8 TX8 3
theorem nmX8 : ∀ a, a < 3 → ∀ b, b < 3 → a ≠ b → (TX8 a).2.1 ≠ (TX8 b).2.1 := by decide +kernel
theorem tyX8_ok : ∀ k, k < 3 → parseFieldDescriptor (TX8 k).2.2.1 = some (tyX8 k) := by decide +kernel
abbrev cX8_init : ByteArray := prog_10_method_1_code
def yX8_init : MethodName := ⟨RX8, "<init>", "()V"⟩
abbrev cX8_clear : ByteArray := prog_10_method_2_code
def yX8_clear : MethodName := ⟨RX8, "clear", "()V"⟩
abbrev cX8_add : ByteArray := prog_10_method_3_code
def yX8_add : MethodName := ⟨RX8, "add", "(II)V"⟩
abbrev cX8_isSoIf : ByteArray := prog_10_method_4_code
def yX8_isSoIf : MethodName := ⟨RX8, "isSoIf", "(II)Z"⟩
def RX9 : String := "AgesFerry"
def TX9 : u_T := fun k => match k with
  | 0 => ("AgesFerry", "text", "LAgesFerry$Text;", true)
  | 1 => ("AgesFerry", "reader", "LAgesFerry$Reader;", true)
  | 2 => ("AgesFerry", "roll", "LAgesFerry$Roll;", true)
  | 3 => ("AgesFerry", "draft", "LAgesFerry$Roll;", true)
  | 4 => ("AgesFerry", "now", "LAgesFerry$State;", true)
  | 5 => ("AgesFerry", "trial", "LAgesFerry$State;", true)
  | 6 => ("AgesFerry", "past", "LAgesFerry$Shelf;", true)
  | 7 => ("AgesFerry", "kept", "LAgesFerry$Shelf;", true)
  | 8 => ("AgesFerry", "told", "LAgesFerry$Told;", true)
  | 9 => ("AgesFerry", "sets", "LAgesFerry$Sets;", true)
  | _ => ("AgesFerry", "chance", "LAgesFerry$Chance;", true)
def tyX9 : Nat → FieldType := fun k => match k with
  | 0 => .object "AgesFerry$Text"
  | 1 => .object "AgesFerry$Reader"
  | 2 => .object "AgesFerry$Roll"
  | 3 => .object "AgesFerry$Roll"
  | 4 => .object "AgesFerry$State"
  | 5 => .object "AgesFerry$State"
  | 6 => .object "AgesFerry$Shelf"
  | 7 => .object "AgesFerry$Shelf"
  | 8 => .object "AgesFerry$Told"
  | 9 => .object "AgesFerry$Sets"
  | _ => .object "AgesFerry$Chance"
abbrev wsX90 : List Cond := u_ws RX9 TX9 11
theorem nmX9 : ∀ a, a < 11 → ∀ b, b < 11 → a ≠ b → (TX9 a).2.1 ≠ (TX9 b).2.1 := by decide +kernel
theorem tyX9_ok : ∀ k, k < 11 → parseFieldDescriptor (TX9 k).2.2.1 = some (tyX9 k) := by decide +kernel
abbrev cX9_init : ByteArray := prog_1_method_1_code
def yX9_init : MethodName := ⟨RX9, "<init>", "()V"⟩
abbrev cX9_write : ByteArray := prog_1_method_2_code
def yX9_write : MethodName := ⟨RX9, "write", "(I)I"⟩
abbrev cX9_wipe : ByteArray := prog_1_method_3_code
def yX9_wipe : MethodName := ⟨RX9, "wipe", "()I"⟩
abbrev cX9_fault : ByteArray := prog_1_method_4_code
def yX9_fault : MethodName := ⟨RX9, "fault", "()I"⟩
abbrev cX9_lay : ByteArray := prog_1_method_5_code
def yX9_lay : MethodName := ⟨RX9, "lay", "()I"⟩
abbrev cX9_person : ByteArray := prog_1_method_6_code
def yX9_person : MethodName := ⟨RX9, "person", "(II)I"⟩
abbrev cX9_sum : ByteArray := prog_1_method_7_code
def yX9_sum : MethodName := ⟨RX9, "sum", "(I)I"⟩
abbrev cX9_pass : ByteArray := prog_1_method_8_code
def yX9_pass : MethodName := ⟨RX9, "pass", "(I)I"⟩
abbrev cX9_board : ByteArray := prog_1_method_9_code
def yX9_board : MethodName := ⟨RX9, "board", "(I)I"⟩
abbrev cX9_stepOff : ByteArray := prog_1_method_10_code
def yX9_stepOff : MethodName := ⟨RX9, "stepOff", "(I)I"⟩
abbrev cX9_die : ByteArray := prog_1_method_11_code
def yX9_die : MethodName := ⟨RX9, "die", "(I)I"⟩
abbrev cX9_sail : ByteArray := prog_1_method_12_code
def yX9_sail : MethodName := ⟨RX9, "sail", "()I"⟩
abbrev cX9_undo : ByteArray := prog_1_method_13_code
def yX9_undo : MethodName := ⟨RX9, "undo", "()I"⟩
abbrev cX9_best : ByteArray := prog_1_method_14_code
def yX9_best : MethodName := ⟨RX9, "best", "(I)I"⟩
abbrev cX9_waits : ByteArray := prog_1_method_15_code
def yX9_waits : MethodName := ⟨RX9, "waits", "()I"⟩
abbrev cX9_sailings : ByteArray := prog_1_method_16_code
def yX9_sailings : MethodName := ⟨RX9, "sailings", "(I)I"⟩
abbrev cX9_setsFor : ByteArray := prog_1_method_17_code
def yX9_setsFor : MethodName := ⟨RX9, "setsFor", "(I)I"⟩
abbrev cX9_oddOnes : ByteArray := prog_1_method_18_code
def yX9_oddOnes : MethodName := ⟨RX9, "oddOnes", "()I"⟩
abbrev cX9_tell : ByteArray := prog_1_method_19_code
def yX9_tell : MethodName := ⟨RX9, "tell", "(II)I"⟩
abbrev cX9_forget : ByteArray := prog_1_method_20_code
def yX9_forget : MethodName := ⟨RX9, "forget", "()I"⟩
abbrev cX9_liar : ByteArray := prog_1_method_21_code
def yX9_liar : MethodName := ⟨RX9, "liar", "()I"⟩
abbrev cX9_age : ByteArray := prog_1_method_22_code
def yX9_age : MethodName := ⟨RX9, "age", "(II)I"⟩
abbrev cX9_sums : ByteArray := prog_1_method_23_code
def yX9_sums : MethodName := ⟨RX9, "sums", "(I)I"⟩
abbrev cX9_stays : ByteArray := prog_1_method_24_code
def yX9_stays : MethodName := ⟨RX9, "stays", "(II)I"⟩
abbrev cX9_day : ByteArray := prog_1_method_25_code
def yX9_day : MethodName := ⟨RX9, "day", "(III)I"⟩
abbrev cX9_keep : ByteArray := prog_1_method_26_code
def yX9_keep : MethodName := ⟨RX9, "keep", "()I"⟩
abbrev cX9_back : ByteArray := prog_1_method_27_code
def yX9_back : MethodName := ⟨RX9, "back", "()I"⟩
abbrev cX9_count : ByteArray := prog_1_method_28_code
def yX9_count : MethodName := ⟨RX9, "count", "(I)I"⟩
abbrev cX9_isPerson : ByteArray := prog_1_method_29_code
def yX9_isPerson : MethodName := ⟨RX9, "isPerson", "(I)Z"⟩
abbrev cX9_couldBeAnother : ByteArray := prog_1_method_30_code
def yX9_couldBeAnother : MethodName := ⟨RX9, "couldBeAnother", "(I)Z"⟩
abbrev cX9_draw : ByteArray := prog_1_method_31_code
def yX9_draw : MethodName := ⟨RX9, "draw", "(II)I"⟩
abbrev cX9_has : ByteArray := prog_1_method_32_code
def yX9_has : MethodName := ⟨RX9, "has", "(II)Z"⟩
abbrev cX9_within : ByteArray := prog_1_method_33_code
def yX9_within : MethodName := ⟨RX9, "within", "(II)Z"⟩
def RX10 : String := "AgesFerryModel"
def TX10 : u_T := fun k => match k with
  | 0 => ("AgesFerryModel", "text", "[I", true)
  | 1 => ("AgesFerryModel", "typed", "I", false)
  | 2 => ("AgesFerryModel", "told", "[I", true)
  | 3 => ("AgesFerryModel", "draft", "[I", true)
  | 4 => ("AgesFerryModel", "s", "[I", true)
  | 5 => ("AgesFerryModel", "past", "[I", true)
  | 6 => ("AgesFerryModel", "known", "I", false)
  | 7 => ("AgesFerryModel", "images", "[I", true)
  | 8 => ("AgesFerryModel", "kept", "I", false)
  | 9 => ("AgesFerryModel", "notes", "[I", true)
  | 10 => ("AgesFerryModel", "noted", "I", false)
  | 11 => ("AgesFerryModel", "at", "I", false)
  | 12 => ("AgesFerryModel", "alone", "[I", true)
  | 13 => ("AgesFerryModel", "parts", "[I", true)
  | _ => ("AgesFerryModel", "held", "[I", true)
def tyX10 : Nat → FieldType := fun k => match k with
  | 0 => .array .int
  | 1 => .int
  | 2 => .array .int
  | 3 => .array .int
  | 4 => .array .int
  | 5 => .array .int
  | 6 => .int
  | 7 => .array .int
  | 8 => .int
  | 9 => .array .int
  | 10 => .int
  | 11 => .int
  | 12 => .array .int
  | 13 => .array .int
  | _ => .array .int
abbrev wsX100 : List Cond := u_ws RX10 TX10 15
theorem nmX10 : ∀ a, a < 15 → ∀ b, b < 15 → a ≠ b → (TX10 a).2.1 ≠ (TX10 b).2.1 := by decide +kernel
theorem tyX10_ok : ∀ k, k < 15 → parseFieldDescriptor (TX10 k).2.2.1 = some (tyX10 k) := by decide +kernel
abbrev cX10_init : ByteArray := prog_12_method_1_code
def yX10_init : MethodName := ⟨RX10, "<init>", "()V"⟩
abbrev cX10_in : ByteArray := prog_12_method_3_code
def yX10_in : MethodName := ⟨RX10, "in", "(III)Z"⟩
abbrev cX10_isPerson : ByteArray := prog_12_method_4_code
def yX10_isPerson : MethodName := ⟨RX10, "isPerson", "(I)Z"⟩
abbrev cX10_ones : ByteArray := prog_12_method_5_code
def yX10_ones : MethodName := ⟨RX10, "ones", "(I)I"⟩
abbrev cX10_write : ByteArray := prog_12_method_6_code
def yX10_write : MethodName := ⟨RX10, "write", "(I)I"⟩
abbrev cX10_wipe : ByteArray := prog_12_method_7_code
def yX10_wipe : MethodName := ⟨RX10, "wipe", "()I"⟩
abbrev cX10_letterAt : ByteArray := prog_12_method_8_code
def yX10_letterAt : MethodName := ⟨RX10, "letterAt", "(I)I"⟩
abbrev cX10_isFigure : ByteArray := prog_12_method_9_code
def yX10_isFigure : MethodName := ⟨RX10, "isFigure", "(I)Z"⟩
abbrev cX10_number : ByteArray := prog_12_method_10_code
def yX10_number : MethodName := ⟨RX10, "number", "(III)I"⟩
abbrev cX10_begins : ByteArray := prog_12_method_11_code
def yX10_begins : MethodName := ⟨RX10, "begins", "()V"⟩
abbrev cX10_personOf : ByteArray := prog_12_method_12_code
def yX10_personOf : MethodName := ⟨RX10, "personOf", "(IIII)V"⟩
abbrev cX10_readsItem : ByteArray := prog_12_method_13_code
def yX10_readsItem : MethodName := ⟨RX10, "readsItem", "(I)Z"⟩
abbrev cX10_readsAll : ByteArray := prog_12_method_14_code
def yX10_readsAll : MethodName := ⟨RX10, "readsAll", "()I"⟩
abbrev cX10_fault : ByteArray := prog_12_method_15_code
def yX10_fault : MethodName := ⟨RX10, "fault", "()I"⟩
abbrev cX10_lays : ByteArray := prog_12_method_16_code
def yX10_lays : MethodName := ⟨RX10, "lays", "()V"⟩
abbrev cX10_lay : ByteArray := prog_12_method_17_code
def yX10_lay : MethodName := ⟨RX10, "lay", "()I"⟩
abbrev cX10_where : ByteArray := prog_12_method_18_code
def yX10_where : MethodName := ⟨RX10, "where", "(I)I"⟩
abbrev cX10_allAt : ByteArray := prog_12_method_19_code
def yX10_allAt : MethodName := ⟨RX10, "allAt", "(I)I"⟩
abbrev cX10_present : ByteArray := prog_12_method_20_code
def yX10_present : MethodName := ⟨RX10, "present", "()I"⟩
abbrev cX10_alive : ByteArray := prog_12_method_21_code
def yX10_alive : MethodName := ⟨RX10, "alive", "()I"⟩
abbrev cX10_person : ByteArray := prog_12_method_22_code
def yX10_person : MethodName := ⟨RX10, "person", "(II)I"⟩
abbrev cX10_sumOf : ByteArray := prog_12_method_23_code
def yX10_sumOf : MethodName := ⟨RX10, "sumOf", "(I)I"⟩
abbrev cX10_sails : ByteArray := prog_12_method_24_code
def yX10_sails : MethodName := ⟨RX10, "sails", "(I)Z"⟩
abbrev cX10_coinsOf : ByteArray := prog_12_method_25_code
def yX10_coinsOf : MethodName := ⟨RX10, "coinsOf", "(I)I"⟩
abbrev cX10_sum : ByteArray := prog_12_method_26_code
def yX10_sum : MethodName := ⟨RX10, "sum", "(I)I"⟩
abbrev cX10_keeps : ByteArray := prog_12_method_27_code
def yX10_keeps : MethodName := ⟨RX10, "keeps", "()V"⟩
abbrev cX10_pass : ByteArray := prog_12_method_28_code
def yX10_pass : MethodName := ⟨RX10, "pass", "(I)I"⟩
abbrev cX10_board : ByteArray := prog_12_method_29_code
def yX10_board : MethodName := ⟨RX10, "board", "(I)I"⟩
abbrev cX10_stepOff : ByteArray := prog_12_method_30_code
def yX10_stepOff : MethodName := ⟨RX10, "stepOff", "(I)I"⟩
abbrev cX10_die : ByteArray := prog_12_method_31_code
def yX10_die : MethodName := ⟨RX10, "die", "(I)I"⟩
abbrev cX10_goes : ByteArray := prog_12_method_32_code
def yX10_goes : MethodName := ⟨RX10, "goes", "()I"⟩
abbrev cX10_sail : ByteArray := prog_12_method_33_code
def yX10_sail : MethodName := ⟨RX10, "sail", "()I"⟩
abbrev cX10_undo : ByteArray := prog_12_method_34_code
def yX10_undo : MethodName := ⟨RX10, "undo", "()I"⟩
abbrev cX10_best : ByteArray := prog_12_method_35_code
def yX10_best : MethodName := ⟨RX10, "best", "(I)I"⟩
abbrev cX10_isThere : ByteArray := prog_12_method_36_code
def yX10_isThere : MethodName := ⟨RX10, "isThere", "()Z"⟩
abbrev cX10_waits : ByteArray := prog_12_method_37_code
def yX10_waits : MethodName := ⟨RX10, "waits", "()I"⟩
abbrev cX10_splits : ByteArray := prog_12_method_38_code
def yX10_splits : MethodName := ⟨RX10, "splits", "()V"⟩
abbrev cX10_sailings : ByteArray := prog_12_method_39_code
def yX10_sailings : MethodName := ⟨RX10, "sailings", "(I)I"⟩
abbrev cX10_setsWith : ByteArray := prog_12_method_40_code
def yX10_setsWith : MethodName := ⟨RX10, "setsWith", "(I)I"⟩
abbrev cX10_setsFor : ByteArray := prog_12_method_41_code
def yX10_setsFor : MethodName := ⟨RX10, "setsFor", "(I)I"⟩
abbrev cX10_oddOnes : ByteArray := prog_12_method_42_code
def yX10_oddOnes : MethodName := ⟨RX10, "oddOnes", "()I"⟩
abbrev cX10_tell : ByteArray := prog_12_method_43_code
def yX10_tell : MethodName := ⟨RX10, "tell", "(II)I"⟩
abbrev cX10_forget : ByteArray := prog_12_method_44_code
def yX10_forget : MethodName := ⟨RX10, "forget", "()I"⟩
abbrev cX10_isSo : ByteArray := prog_12_method_45_code
def yX10_isSo : MethodName := ⟨RX10, "isSo", "(II)Z"⟩
abbrev cX10_liar : ByteArray := prog_12_method_46_code
def yX10_liar : MethodName := ⟨RX10, "liar", "()I"⟩
abbrev cX10_age : ByteArray := prog_12_method_47_code
def yX10_age : MethodName := ⟨RX10, "age", "(II)I"⟩
abbrev cX10_sums : ByteArray := prog_12_method_48_code
def yX10_sums : MethodName := ⟨RX10, "sums", "(I)I"⟩
abbrev cX10_stays : ByteArray := prog_12_method_49_code
def yX10_stays : MethodName := ⟨RX10, "stays", "(II)I"⟩
abbrev cX10_turn : ByteArray := prog_12_method_50_code
def yX10_turn : MethodName := ⟨RX10, "turn", "(I)V"⟩
abbrev cX10_day : ByteArray := prog_12_method_51_code
def yX10_day : MethodName := ⟨RX10, "day", "(III)I"⟩
abbrev cX10_keep : ByteArray := prog_12_method_52_code
def yX10_keep : MethodName := ⟨RX10, "keep", "()I"⟩
abbrev cX10_back : ByteArray := prog_12_method_53_code
def yX10_back : MethodName := ⟨RX10, "back", "()I"⟩
abbrev cX10_count : ByteArray := prog_12_method_54_code
def yX10_count : MethodName := ⟨RX10, "count", "(I)I"⟩
def RJ6 : String := "java/lang/Integer"
def TJ6 : u_T := fun k => match k with
  | _ => ("", "", "", false)
def tyJ6 : Nat → FieldType := fun k => match k with
  | _ => .int
abbrev wsJ60 : List Cond := u_ws RJ6 TJ6 0
theorem nmJ6 : ∀ a, a < 0 → ∀ b, b < 0 → a ≠ b → (TJ6 a).2.1 ≠ (TJ6 b).2.1 := by decide +kernel
theorem tyJ6_ok : ∀ k, k < 0 → parseFieldDescriptor (TJ6 k).2.2.1 = some (tyJ6 k) := by decide +kernel
abbrev cJ6_bitCount_0f7a4 : ByteArray := prog_13_method_49_code
def yJ6_bitCount_0f7a4 : MethodName := ⟨RJ6, "bitCount", "(I)I"⟩
def RJ9 : String := "java/lang/Math"
def TJ9 : u_T := fun k => match k with
  | _ => ("", "", "", false)
def tyJ9 : Nat → FieldType := fun k => match k with
  | _ => .int
abbrev wsJ90 : List Cond := u_ws RJ9 TJ9 0
theorem nmJ9 : ∀ a, a < 0 → ∀ b, b < 0 → a ≠ b → (TJ9 a).2.1 ≠ (TJ9 b).2.1 := by decide +kernel
theorem tyJ9_ok : ∀ k, k < 0 → parseFieldDescriptor (TJ9 k).2.2.1 = some (tyJ9 k) := by decide +kernel
abbrev cJ9_abs_0f7a4 : ByteArray := prog_14_method_59_code
def yJ9_abs_0f7a4 : MethodName := ⟨RJ9, "abs", "(I)I"⟩
abbrev cJ9_max_7cf53 : ByteArray := prog_14_method_65_code
def yJ9_max_7cf53 : MethodName := ⟨RJ9, "max", "(II)I"⟩
abbrev cJ9_min_7cf53 : ByteArray := prog_14_method_69_code
def yJ9_min_7cf53 : MethodName := ⟨RJ9, "min", "(II)I"⟩
def RJ0 : String := "java/lang/String"
def TJ0 : u_T := fun k => match k with
  | _ => ("", "", "", false)
def tyJ0 : Nat → FieldType := fun k => match k with
  | _ => .int
abbrev wsJ00 : List Cond := u_ws RJ0 TJ0 0
theorem nmJ0 : ∀ a, a < 0 → ∀ b, b < 0 → a ≠ b → (TJ0 a).2.1 ≠ (TJ0 b).2.1 := by decide +kernel
theorem tyJ0_ok : ∀ k, k < 0 → parseFieldDescriptor (TJ0 k).2.2.1 = some (tyJ0 k) := by decide +kernel
abbrev cJ0_length_8abf5 : ByteArray := prog_15_method_54_code
def yJ0_length_8abf5 : MethodName := ⟨RJ0, "length", "()I"⟩
abbrev cJ0_charAt_5068e : ByteArray := prog_15_method_56_code
def yJ0_charAt_5068e : MethodName := ⟨RJ0, "charAt", "(I)C"⟩
abbrev cJ0_coder_7d493 : ByteArray := prog_15_method_152_code
def yJ0_coder_7d493 : MethodName := ⟨RJ0, "coder", "()B"⟩
abbrev cJ0_isLatin1_aae02 : ByteArray := prog_15_method_154_code
def yJ0_isLatin1_aae02 : MethodName := ⟨RJ0, "isLatin1", "()Z"⟩
abbrev cJ0_checkIndex_df160 : ByteArray := prog_15_method_155_code
def yJ0_checkIndex_df160 : MethodName := ⟨RJ0, "checkIndex", "(II)V"⟩
def RJ1 : String := "java/lang/StringLatin1"
def TJ1 : u_T := fun k => match k with
  | _ => ("", "", "", false)
def tyJ1 : Nat → FieldType := fun k => match k with
  | _ => .int
abbrev wsJ10 : List Cond := u_ws RJ1 TJ1 0
theorem nmJ1 : ∀ a, a < 0 → ∀ b, b < 0 → a ≠ b → (TJ1 a).2.1 ≠ (TJ1 b).2.1 := by decide +kernel
theorem tyJ1_ok : ∀ k, k < 0 → parseFieldDescriptor (TJ1 k).2.2.1 = some (tyJ1 k) := by decide +kernel
abbrev cJ1_charAt_3b067 : ByteArray := prog_16_method_2_code
def yJ1_charAt_3b067 : MethodName := ⟨RJ1, "charAt", "([BI)C"⟩
def RJ2 : String := "java/lang/StringUTF16"
def TJ2 : u_T := fun k => match k with
  | _ => ("", "", "", false)
def tyJ2 : Nat → FieldType := fun k => match k with
  | _ => .int
abbrev wsJ20 : List Cond := u_ws RJ2 TJ2 0
theorem nmJ2 : ∀ a, a < 0 → ∀ b, b < 0 → a ≠ b → (TJ2 a).2.1 ≠ (TJ2 b).2.1 := by decide +kernel
theorem tyJ2_ok : ∀ k, k < 0 → parseFieldDescriptor (TJ2 k).2.2.1 = some (tyJ2 k) := by decide +kernel
abbrev cJ2_getChar_3b067 : ByteArray := prog_17_method_5_code
def yJ2_getChar_3b067 : MethodName := ⟨RJ2, "getChar", "([BI)C"⟩
abbrev cJ2_length_9d52b : ByteArray := prog_17_method_6_code
def yJ2_length_9d52b : MethodName := ⟨RJ2, "length", "([B)I"⟩
abbrev cJ2_charAt_3b067 : ByteArray := prog_17_method_83_code
def yJ2_charAt_3b067 : MethodName := ⟨RJ2, "charAt", "([BI)C"⟩
abbrev cJ2_checkIndex_2214a : ByteArray := prog_17_method_91_code
def yJ2_checkIndex_2214a : MethodName := ⟨RJ2, "checkIndex", "(I[B)V"⟩
def RJ3 : String := "jdk/internal/util/Preconditions"
def TJ3 : u_T := fun k => match k with
  | _ => ("", "", "", false)
def tyJ3 : Nat → FieldType := fun k => match k with
  | _ => .int
abbrev wsJ30 : List Cond := u_ws RJ3 TJ3 0
theorem nmJ3 : ∀ a, a < 0 → ∀ b, b < 0 → a ≠ b → (TJ3 a).2.1 ≠ (TJ3 b).2.1 := by decide +kernel
theorem tyJ3_ok : ∀ k, k < 0 → parseFieldDescriptor (TJ3 k).2.2.1 = some (tyJ3 k) := by decide +kernel
abbrev cJ3_checkIndex_8e157 : ByteArray := prog_18_method_11_code
def yJ3_checkIndex_8e157 : MethodName := ⟨RJ3, "checkIndex", "(IILjava/util/function/BiFunction;)I"⟩
def RL : String := "AgesFerryLaw"
abbrev cL_law : ByteArray := code
def yL_law : MethodName := ⟨RL, "law", "([I)Z"⟩
theorem dX0_init_0 : decode cX0_init 0 = .ok (.aload_n 0, 1) := by decide +kernel
theorem dX0_init_1 : decode cX0_init 1 = .ok (.invokespecial 3, 3) := by decide +kernel
theorem dX0_init_4 : decode cX0_init 4 = .ok (.aload_n 0, 1) := by decide +kernel
theorem dX0_init_5 : decode cX0_init 5 = .ok (.new 9, 3) := by decide +kernel
theorem dX0_init_8 : decode cX0_init 8 = .ok (.dup, 1) := by decide +kernel
theorem dX0_init_9 : decode cX0_init 9 = .ok (.sipush 512, 3) := by decide +kernel
theorem dX0_init_12 : decode cX0_init 12 = .ok (.invokespecial 11, 3) := by decide +kernel
theorem dX0_init_15 : decode cX0_init 15 = .ok (.putfield 14, 3) := by decide +kernel
theorem dX0_init_18 : decode cX0_init 18 = .ok (.aload_n 0, 1) := by decide +kernel
theorem dX0_init_19 : decode cX0_init 19 = .ok (.aload_n 1, 1) := by decide +kernel
theorem dX0_init_20 : decode cX0_init 20 = .ok (.putfield 20, 3) := by decide +kernel
theorem dX0_init_23 : decode cX0_init 23 = .ok (.return_, 1) := by decide +kernel
theorem dX0_reckon_0 : decode cX0_reckon 0 = .ok (.aload_n 0, 1) := by decide +kernel
theorem dX0_reckon_1 : decode cX0_reckon 1 = .ok (.getfield 20, 3) := by decide +kernel
theorem dX0_reckon_4 : decode cX0_reckon 4 = .ok (.invokevirtual 24, 3) := by decide +kernel
theorem dX0_reckon_7 : decode cX0_reckon 7 = .ok (.istore_n 2, 1) := by decide +kernel
theorem dX0_reckon_8 : decode cX0_reckon 8 = .ok (.iload_n 2, 1) := by decide +kernel
theorem dX0_reckon_9 : decode cX0_reckon 9 = .ok (.invokestatic 30, 3) := by decide +kernel
theorem dX0_reckon_12 : decode cX0_reckon 12 = .ok (.istore_n 3, 1) := by decide +kernel
theorem dX0_reckon_13 : decode cX0_reckon 13 = .ok (.lconst 0, 1) := by decide +kernel
theorem dX0_reckon_14 : decode cX0_reckon 14 = .ok (.lstore 4, 2) := by decide +kernel
theorem dX0_reckon_16 : decode cX0_reckon 16 = .ok (.iconst 0, 1) := by decide +kernel
theorem dX0_reckon_17 : decode cX0_reckon 17 = .ok (.istore 6, 2) := by decide +kernel
theorem dX0_reckon_19 : decode cX0_reckon 19 = .ok (.iload 6, 2) := by decide +kernel
theorem dX0_reckon_21 : decode cX0_reckon 21 = .ok (.sipush 512, 3) := by decide +kernel
theorem dX0_reckon_24 : decode cX0_reckon 24 = .ok (.if_icmp .ge 84, 3) := by decide +kernel
theorem dX0_reckon_27 : decode cX0_reckon 27 = .ok (.aload_n 0, 1) := by decide +kernel
theorem dX0_reckon_28 : decode cX0_reckon 28 = .ok (.getfield 14, 3) := by decide +kernel
theorem dX0_reckon_31 : decode cX0_reckon 31 = .ok (.iload 6, 2) := by decide +kernel
theorem dX0_reckon_33 : decode cX0_reckon 33 = .ok (.iload 6, 2) := by decide +kernel
theorem dX0_reckon_35 : decode cX0_reckon 35 = .ok (.iload_n 2, 1) := by decide +kernel
theorem dX0_reckon_36 : decode cX0_reckon 36 = .ok (.invokestatic 36, 3) := by decide +kernel
theorem dX0_reckon_39 : decode cX0_reckon 39 = .ok (.ifCond .eq 16, 3) := by decide +kernel
theorem dX0_reckon_42 : decode cX0_reckon 42 = .ok (.aload_n 0, 1) := by decide +kernel
theorem dX0_reckon_43 : decode cX0_reckon 43 = .ok (.iload 6, 2) := by decide +kernel
theorem dX0_reckon_45 : decode cX0_reckon 45 = .ok (.invokevirtual 40, 3) := by decide +kernel
theorem dX0_reckon_48 : decode cX0_reckon 48 = .ok (.ifCond .eq 7, 3) := by decide +kernel
theorem dX0_reckon_51 : decode cX0_reckon 51 = .ok (.iconst 1, 1) := by decide +kernel
theorem dX0_reckon_52 : decode cX0_reckon 52 = .ok (.goto 4, 3) := by decide +kernel
theorem dX0_reckon_55 : decode cX0_reckon 55 = .ok (.iconst 0, 1) := by decide +kernel
theorem dX0_reckon_56 : decode cX0_reckon 56 = .ok (.invokevirtual 44, 3) := by decide +kernel
theorem dX0_reckon_59 : decode cX0_reckon 59 = .ok (.aload_n 0, 1) := by decide +kernel
theorem dX0_reckon_60 : decode cX0_reckon 60 = .ok (.getfield 14, 3) := by decide +kernel
theorem dX0_reckon_63 : decode cX0_reckon 63 = .ok (.iload 6, 2) := by decide +kernel
theorem dX0_reckon_65 : decode cX0_reckon 65 = .ok (.invokevirtual 48, 3) := by decide +kernel
theorem dX0_reckon_68 : decode cX0_reckon 68 = .ok (.iconst 1, 1) := by decide +kernel
theorem dX0_reckon_69 : decode cX0_reckon 69 = .ok (.if_icmp .ne 33, 3) := by decide +kernel
theorem dX0_reckon_72 : decode cX0_reckon 72 = .ok (.iload 6, 2) := by decide +kernel
theorem dX0_reckon_74 : decode cX0_reckon 74 = .ok (.invokestatic 30, 3) := by decide +kernel
theorem dX0_reckon_77 : decode cX0_reckon 77 = .ok (.istore 7, 2) := by decide +kernel
theorem dX0_reckon_79 : decode cX0_reckon 79 = .ok (.lload 4, 2) := by decide +kernel
theorem dX0_reckon_81 : decode cX0_reckon 81 = .ok (.iload_n 1, 1) := by decide +kernel
theorem dX0_reckon_82 : decode cX0_reckon 82 = .ok (.iload 7, 2) := by decide +kernel
theorem dX0_reckon_84 : decode cX0_reckon 84 = .ok (.invokestatic 51, 3) := by decide +kernel
theorem dX0_reckon_87 : decode cX0_reckon 87 = .ok (.bipush 10, 2) := by decide +kernel
theorem dX0_reckon_89 : decode cX0_reckon 89 = .ok (.iload_n 1, 1) := by decide +kernel
theorem dX0_reckon_90 : decode cX0_reckon 90 = .ok (.isub, 1) := by decide +kernel
theorem dX0_reckon_91 : decode cX0_reckon 91 = .ok (.iload_n 3, 1) := by decide +kernel
theorem dX0_reckon_92 : decode cX0_reckon 92 = .ok (.iload 7, 2) := by decide +kernel
theorem dX0_reckon_94 : decode cX0_reckon 94 = .ok (.isub, 1) := by decide +kernel
theorem dX0_reckon_95 : decode cX0_reckon 95 = .ok (.invokestatic 51, 3) := by decide +kernel
theorem dX0_reckon_98 : decode cX0_reckon 98 = .ok (.lmul, 1) := by decide +kernel
theorem dX0_reckon_99 : decode cX0_reckon 99 = .ok (.ladd, 1) := by decide +kernel
theorem dX0_reckon_100 : decode cX0_reckon 100 = .ok (.lstore 4, 2) := by decide +kernel
theorem dX0_reckon_102 : decode cX0_reckon 102 = .ok (.iinc 6 1, 3) := by decide +kernel
theorem dX0_reckon_105 : decode cX0_reckon 105 = .ok (.goto (-86), 3) := by decide +kernel
theorem dX0_reckon_108 : decode cX0_reckon 108 = .ok (.aload_n 0, 1) := by decide +kernel
theorem dX0_reckon_109 : decode cX0_reckon 109 = .ok (.lload 4, 2) := by decide +kernel
theorem dX0_reckon_111 : decode cX0_reckon 111 = .ok (.bipush 10, 2) := by decide +kernel
theorem dX0_reckon_113 : decode cX0_reckon 113 = .ok (.iload_n 3, 1) := by decide +kernel
theorem dX0_reckon_114 : decode cX0_reckon 114 = .ok (.invokestatic 51, 3) := by decide +kernel
theorem dX0_reckon_117 : decode cX0_reckon 117 = .ok (.invokevirtual 55, 3) := by decide +kernel
theorem dX0_reckon_120 : decode cX0_reckon 120 = .ok (.return_, 1) := by decide +kernel
theorem dX0_isAble_0 : decode cX0_isAble 0 = .ok (.aload_n 0, 1) := by decide +kernel
theorem dX0_isAble_1 : decode cX0_isAble 1 = .ok (.getfield 20, 3) := by decide +kernel
theorem dX0_isAble_4 : decode cX0_isAble 4 = .ok (.iload_n 1, 1) := by decide +kernel
theorem dX0_isAble_5 : decode cX0_isAble 5 = .ok (.invokevirtual 59, 3) := by decide +kernel
theorem dX0_isAble_8 : decode cX0_isAble 8 = .ok (.bipush (-4), 2) := by decide +kernel
theorem dX0_isAble_10 : decode cX0_isAble 10 = .ok (.if_icmp .eq 5, 3) := by decide +kernel
theorem dX0_isAble_13 : decode cX0_isAble 13 = .ok (.iconst 1, 1) := by decide +kernel
theorem dX0_isAble_14 : decode cX0_isAble 14 = .ok (.ireturn, 1) := by decide +kernel
theorem dX0_isAble_15 : decode cX0_isAble 15 = .ok (.iconst 0, 1) := by decide +kernel
theorem dX0_isAble_16 : decode cX0_isAble 16 = .ok (.istore_n 2, 1) := by decide +kernel
theorem dX0_isAble_17 : decode cX0_isAble 17 = .ok (.iload_n 2, 1) := by decide +kernel
theorem dX0_isAble_18 : decode cX0_isAble 18 = .ok (.bipush 9, 2) := by decide +kernel
theorem dX0_isAble_20 : decode cX0_isAble 20 = .ok (.if_icmp .ge 37, 3) := by decide +kernel
theorem dX0_isAble_23 : decode cX0_isAble 23 = .ok (.iload_n 1, 1) := by decide +kernel
theorem dX0_isAble_24 : decode cX0_isAble 24 = .ok (.iload_n 2, 1) := by decide +kernel
theorem dX0_isAble_25 : decode cX0_isAble 25 = .ok (.invokestatic 62, 3) := by decide +kernel
theorem dX0_isAble_28 : decode cX0_isAble 28 = .ok (.ifCond .eq 23, 3) := by decide +kernel
theorem dX0_isAble_31 : decode cX0_isAble 31 = .ok (.aload_n 0, 1) := by decide +kernel
theorem dX0_isAble_32 : decode cX0_isAble 32 = .ok (.getfield 14, 3) := by decide +kernel
theorem dX0_isAble_35 : decode cX0_isAble 35 = .ok (.iload_n 1, 1) := by decide +kernel
theorem dX0_isAble_36 : decode cX0_isAble 36 = .ok (.iconst 1, 1) := by decide +kernel
theorem dX0_isAble_37 : decode cX0_isAble 37 = .ok (.iload_n 2, 1) := by decide +kernel
theorem dX0_isAble_38 : decode cX0_isAble 38 = .ok (.ishl, 1) := by decide +kernel
theorem dX0_isAble_39 : decode cX0_isAble 39 = .ok (.iconst (-1), 1) := by decide +kernel
theorem dX0_isAble_40 : decode cX0_isAble 40 = .ok (.ixor, 1) := by decide +kernel
theorem dX0_isAble_41 : decode cX0_isAble 41 = .ok (.iand, 1) := by decide +kernel
theorem dX0_isAble_42 : decode cX0_isAble 42 = .ok (.invokevirtual 48, 3) := by decide +kernel
theorem dX0_isAble_45 : decode cX0_isAble 45 = .ok (.iconst 1, 1) := by decide +kernel
theorem dX0_isAble_46 : decode cX0_isAble 46 = .ok (.if_icmp .ne 5, 3) := by decide +kernel
theorem dX0_isAble_49 : decode cX0_isAble 49 = .ok (.iconst 1, 1) := by decide +kernel
theorem dX0_isAble_50 : decode cX0_isAble 50 = .ok (.ireturn, 1) := by decide +kernel
theorem dX0_isAble_51 : decode cX0_isAble 51 = .ok (.iinc 2 1, 3) := by decide +kernel
theorem dX0_isAble_54 : decode cX0_isAble 54 = .ok (.goto (-37), 3) := by decide +kernel
theorem dX0_isAble_57 : decode cX0_isAble 57 = .ok (.iconst 0, 1) := by decide +kernel
theorem dX0_isAble_58 : decode cX0_isAble 58 = .ok (.ireturn, 1) := by decide +kernel
theorem dX0_reduce_0 : decode cX0_reduce 0 = .ok (.lload_n 1, 1) := by decide +kernel
theorem dX0_reduce_1 : decode cX0_reduce 1 = .ok (.lload_n 3, 1) := by decide +kernel
theorem dX0_reduce_2 : decode cX0_reduce 2 = .ok (.invokestatic 65, 3) := by decide +kernel
theorem dX0_reduce_5 : decode cX0_reduce 5 = .ok (.lstore 5, 2) := by decide +kernel
theorem dX0_reduce_7 : decode cX0_reduce 7 = .ok (.lload 5, 2) := by decide +kernel
theorem dX0_reduce_9 : decode cX0_reduce 9 = .ok (.lconst 0, 1) := by decide +kernel
theorem dX0_reduce_10 : decode cX0_reduce 10 = .ok (.lcmp, 1) := by decide +kernel
theorem dX0_reduce_11 : decode cX0_reduce 11 = .ok (.ifCond .le 21, 3) := by decide +kernel
theorem dX0_reduce_14 : decode cX0_reduce 14 = .ok (.aload_n 0, 1) := by decide +kernel
theorem dX0_reduce_15 : decode cX0_reduce 15 = .ok (.lload_n 1, 1) := by decide +kernel
theorem dX0_reduce_16 : decode cX0_reduce 16 = .ok (.lload 5, 2) := by decide +kernel
theorem dX0_reduce_18 : decode cX0_reduce 18 = .ok (.ldiv, 1) := by decide +kernel
theorem dX0_reduce_19 : decode cX0_reduce 19 = .ok (.l2i, 1) := by decide +kernel
theorem dX0_reduce_20 : decode cX0_reduce 20 = .ok (.putfield 69, 3) := by decide +kernel
theorem dX0_reduce_23 : decode cX0_reduce 23 = .ok (.aload_n 0, 1) := by decide +kernel
theorem dX0_reduce_24 : decode cX0_reduce 24 = .ok (.lload_n 3, 1) := by decide +kernel
theorem dX0_reduce_25 : decode cX0_reduce 25 = .ok (.lload 5, 2) := by decide +kernel
theorem dX0_reduce_27 : decode cX0_reduce 27 = .ok (.ldiv, 1) := by decide +kernel
theorem dX0_reduce_28 : decode cX0_reduce 28 = .ok (.l2i, 1) := by decide +kernel
theorem dX0_reduce_29 : decode cX0_reduce 29 = .ok (.putfield 73, 3) := by decide +kernel
theorem dX0_reduce_32 : decode cX0_reduce 32 = .ok (.return_, 1) := by decide +kernel
theorem dX0_power_0 : decode cX0_power 0 = .ok (.lconst 1, 1) := by decide +kernel
theorem dX0_power_1 : decode cX0_power 1 = .ok (.lstore_n 2, 1) := by decide +kernel
theorem dX0_power_2 : decode cX0_power 2 = .ok (.iconst 0, 1) := by decide +kernel
theorem dX0_power_3 : decode cX0_power 3 = .ok (.istore 4, 2) := by decide +kernel
theorem dX0_power_5 : decode cX0_power 5 = .ok (.iload 4, 2) := by decide +kernel
theorem dX0_power_7 : decode cX0_power 7 = .ok (.iload_n 1, 1) := by decide +kernel
theorem dX0_power_8 : decode cX0_power 8 = .ok (.if_icmp .ge 14, 3) := by decide +kernel
theorem dX0_power_11 : decode cX0_power 11 = .ok (.lload_n 2, 1) := by decide +kernel
theorem dX0_power_12 : decode cX0_power 12 = .ok (.iload_n 0, 1) := by decide +kernel
theorem dX0_power_13 : decode cX0_power 13 = .ok (.i2l, 1) := by decide +kernel
theorem dX0_power_14 : decode cX0_power 14 = .ok (.lmul, 1) := by decide +kernel
theorem dX0_power_15 : decode cX0_power 15 = .ok (.lstore_n 2, 1) := by decide +kernel
theorem dX0_power_16 : decode cX0_power 16 = .ok (.iinc 4 1, 3) := by decide +kernel
theorem dX0_power_19 : decode cX0_power 19 = .ok (.goto (-14), 3) := by decide +kernel
theorem dX0_power_22 : decode cX0_power 22 = .ok (.lload_n 2, 1) := by decide +kernel
theorem dX0_power_23 : decode cX0_power 23 = .ok (.lreturn, 1) := by decide +kernel
theorem dX0_commonDivisor_0 : decode cX0_commonDivisor 0 = .ok (.lload_n 0, 1) := by decide +kernel
theorem dX0_commonDivisor_1 : decode cX0_commonDivisor 1 = .ok (.lstore 4, 2) := by decide +kernel
theorem dX0_commonDivisor_3 : decode cX0_commonDivisor 3 = .ok (.lload_n 2, 1) := by decide +kernel
theorem dX0_commonDivisor_4 : decode cX0_commonDivisor 4 = .ok (.lstore 6, 2) := by decide +kernel
theorem dX0_commonDivisor_6 : decode cX0_commonDivisor 6 = .ok (.iconst 0, 1) := by decide +kernel
theorem dX0_commonDivisor_7 : decode cX0_commonDivisor 7 = .ok (.istore 8, 2) := by decide +kernel
theorem dX0_commonDivisor_9 : decode cX0_commonDivisor 9 = .ok (.iload 8, 2) := by decide +kernel
theorem dX0_commonDivisor_11 : decode cX0_commonDivisor 11 = .ok (.bipush 100, 2) := by decide +kernel
theorem dX0_commonDivisor_13 : decode cX0_commonDivisor 13 = .ok (.if_icmp .ge 31, 3) := by decide +kernel
theorem dX0_commonDivisor_16 : decode cX0_commonDivisor 16 = .ok (.lload 6, 2) := by decide +kernel
theorem dX0_commonDivisor_18 : decode cX0_commonDivisor 18 = .ok (.lconst 0, 1) := by decide +kernel
theorem dX0_commonDivisor_19 : decode cX0_commonDivisor 19 = .ok (.lcmp, 1) := by decide +kernel
theorem dX0_commonDivisor_20 : decode cX0_commonDivisor 20 = .ok (.ifCond .le 24, 3) := by decide +kernel
theorem dX0_commonDivisor_23 : decode cX0_commonDivisor 23 = .ok (.lload 4, 2) := by decide +kernel
theorem dX0_commonDivisor_25 : decode cX0_commonDivisor 25 = .ok (.lload 6, 2) := by decide +kernel
theorem dX0_commonDivisor_27 : decode cX0_commonDivisor 27 = .ok (.lrem, 1) := by decide +kernel
theorem dX0_commonDivisor_28 : decode cX0_commonDivisor 28 = .ok (.lstore 9, 2) := by decide +kernel
theorem dX0_commonDivisor_30 : decode cX0_commonDivisor 30 = .ok (.lload 6, 2) := by decide +kernel
theorem dX0_commonDivisor_32 : decode cX0_commonDivisor 32 = .ok (.lstore 4, 2) := by decide +kernel
theorem dX0_commonDivisor_34 : decode cX0_commonDivisor 34 = .ok (.lload 9, 2) := by decide +kernel
theorem dX0_commonDivisor_36 : decode cX0_commonDivisor 36 = .ok (.lstore 6, 2) := by decide +kernel
theorem dX0_commonDivisor_38 : decode cX0_commonDivisor 38 = .ok (.iinc 8 1, 3) := by decide +kernel
theorem dX0_commonDivisor_41 : decode cX0_commonDivisor 41 = .ok (.goto (-32), 3) := by decide +kernel
theorem dX0_commonDivisor_44 : decode cX0_commonDivisor 44 = .ok (.lload 4, 2) := by decide +kernel
theorem dX0_commonDivisor_46 : decode cX0_commonDivisor 46 = .ok (.lreturn, 1) := by decide +kernel
theorem dX1_init_0 : decode cX1_init 0 = .ok (.aload_n 0, 1) := by decide +kernel
theorem dX1_init_1 : decode cX1_init 1 = .ok (.invokespecial 3, 3) := by decide +kernel
theorem dX1_init_4 : decode cX1_init 4 = .ok (.aload_n 0, 1) := by decide +kernel
theorem dX1_init_5 : decode cX1_init 5 = .ok (.new 9, 3) := by decide +kernel
theorem dX1_init_8 : decode cX1_init 8 = .ok (.dup, 1) := by decide +kernel
theorem dX1_init_9 : decode cX1_init 9 = .ok (.iconst 4, 1) := by decide +kernel
theorem dX1_init_10 : decode cX1_init 10 = .ok (.invokespecial 13, 3) := by decide +kernel
theorem dX1_init_13 : decode cX1_init 13 = .ok (.putfield 16, 3) := by decide +kernel
theorem dX1_init_16 : decode cX1_init 16 = .ok (.aload_n 0, 1) := by decide +kernel
theorem dX1_init_17 : decode cX1_init 17 = .ok (.aload_n 1, 1) := by decide +kernel
theorem dX1_init_18 : decode cX1_init 18 = .ok (.putfield 20, 3) := by decide +kernel
theorem dX1_init_21 : decode cX1_init 21 = .ok (.return_, 1) := by decide +kernel
theorem dX1_readInto_0 : decode cX1_readInto 0 = .ok (.aload_n 1, 1) := by decide +kernel
theorem dX1_readInto_1 : decode cX1_readInto 1 = .ok (.invokevirtual 24, 3) := by decide +kernel
theorem dX1_readInto_4 : decode cX1_readInto 4 = .ok (.aload_n 0, 1) := by decide +kernel
theorem dX1_readInto_5 : decode cX1_readInto 5 = .ok (.iconst 0, 1) := by decide +kernel
theorem dX1_readInto_6 : decode cX1_readInto 6 = .ok (.putfield 29, 3) := by decide +kernel
theorem dX1_readInto_9 : decode cX1_readInto 9 = .ok (.iconst 0, 1) := by decide +kernel
theorem dX1_readInto_10 : decode cX1_readInto 10 = .ok (.istore_n 2, 1) := by decide +kernel
theorem dX1_readInto_11 : decode cX1_readInto 11 = .ok (.iload_n 2, 1) := by decide +kernel
theorem dX1_readInto_12 : decode cX1_readInto 12 = .ok (.sipush 200, 3) := by decide +kernel
theorem dX1_readInto_15 : decode cX1_readInto 15 = .ok (.if_icmp .ge 38, 3) := by decide +kernel
theorem dX1_readInto_18 : decode cX1_readInto 18 = .ok (.aload_n 0, 1) := by decide +kernel
theorem dX1_readInto_19 : decode cX1_readInto 19 = .ok (.getfield 29, 3) := by decide +kernel
theorem dX1_readInto_22 : decode cX1_readInto 22 = .ok (.aload_n 0, 1) := by decide +kernel
theorem dX1_readInto_23 : decode cX1_readInto 23 = .ok (.getfield 20, 3) := by decide +kernel
theorem dX1_readInto_26 : decode cX1_readInto 26 = .ok (.invokevirtual 33, 3) := by decide +kernel
theorem dX1_readInto_29 : decode cX1_readInto 29 = .ok (.if_icmp .ge 24, 3) := by decide +kernel
theorem dX1_readInto_32 : decode cX1_readInto 32 = .ok (.aload_n 0, 1) := by decide +kernel
theorem dX1_readInto_33 : decode cX1_readInto 33 = .ok (.getfield 29, 3) := by decide +kernel
theorem dX1_readInto_36 : decode cX1_readInto 36 = .ok (.istore_n 3, 1) := by decide +kernel
theorem dX1_readInto_37 : decode cX1_readInto 37 = .ok (.aload_n 0, 1) := by decide +kernel
theorem dX1_readInto_38 : decode cX1_readInto 38 = .ok (.aload_n 1, 1) := by decide +kernel
theorem dX1_readInto_39 : decode cX1_readInto 39 = .ok (.invokevirtual 39, 3) := by decide +kernel
theorem dX1_readInto_42 : decode cX1_readInto 42 = .ok (.ifCond .ne 5, 3) := by decide +kernel
theorem dX1_readInto_45 : decode cX1_readInto 45 = .ok (.iload_n 3, 1) := by decide +kernel
theorem dX1_readInto_46 : decode cX1_readInto 46 = .ok (.ireturn, 1) := by decide +kernel
theorem dX1_readInto_47 : decode cX1_readInto 47 = .ok (.iinc 2 1, 3) := by decide +kernel
theorem dX1_readInto_50 : decode cX1_readInto 50 = .ok (.goto (-39), 3) := by decide +kernel
theorem dX1_readInto_53 : decode cX1_readInto 53 = .ok (.bipush (-4), 2) := by decide +kernel
theorem dX1_readInto_55 : decode cX1_readInto 55 = .ok (.ireturn, 1) := by decide +kernel
theorem dX1_readItem_0 : decode cX1_readItem 0 = .ok (.aload_n 0, 1) := by decide +kernel
theorem dX1_readItem_1 : decode cX1_readItem 1 = .ok (.getfield 20, 3) := by decide +kernel
theorem dX1_readItem_4 : decode cX1_readItem 4 = .ok (.aload_n 0, 1) := by decide +kernel
theorem dX1_readItem_5 : decode cX1_readItem 5 = .ok (.getfield 29, 3) := by decide +kernel
theorem dX1_readItem_8 : decode cX1_readItem 8 = .ok (.invokevirtual 43, 3) := by decide +kernel
theorem dX1_readItem_11 : decode cX1_readItem 11 = .ok (.istore_n 2, 1) := by decide +kernel
theorem dX1_readItem_12 : decode cX1_readItem 12 = .ok (.aload_n 0, 1) := by decide +kernel
theorem dX1_readItem_13 : decode cX1_readItem 13 = .ok (.dup, 1) := by decide +kernel
theorem dX1_readItem_14 : decode cX1_readItem 14 = .ok (.getfield 29, 3) := by decide +kernel
theorem dX1_readItem_17 : decode cX1_readItem 17 = .ok (.iconst 1, 1) := by decide +kernel
theorem dX1_readItem_18 : decode cX1_readItem 18 = .ok (.iadd, 1) := by decide +kernel
theorem dX1_readItem_19 : decode cX1_readItem 19 = .ok (.putfield 29, 3) := by decide +kernel
theorem dX1_readItem_22 : decode cX1_readItem 22 = .ok (.iload_n 2, 1) := by decide +kernel
theorem dX1_readItem_23 : decode cX1_readItem 23 = .ok (.bipush 102, 2) := by decide +kernel
theorem dX1_readItem_25 : decode cX1_readItem 25 = .ok (.if_icmp .ne 48, 3) := by decide +kernel
theorem dX1_readItem_28 : decode cX1_readItem 28 = .ok (.aload_n 0, 1) := by decide +kernel
theorem dX1_readItem_29 : decode cX1_readItem 29 = .ok (.iconst 3, 1) := by decide +kernel
theorem dX1_readItem_30 : decode cX1_readItem 30 = .ok (.invokevirtual 47, 3) := by decide +kernel
theorem dX1_readItem_33 : decode cX1_readItem 33 = .ok (.ifCond .eq 38, 3) := by decide +kernel
theorem dX1_readItem_36 : decode cX1_readItem 36 = .ok (.aload_n 1, 1) := by decide +kernel
theorem dX1_readItem_37 : decode cX1_readItem 37 = .ok (.aload_n 0, 1) := by decide +kernel
theorem dX1_readItem_38 : decode cX1_readItem 38 = .ok (.getfield 16, 3) := by decide +kernel
theorem dX1_readItem_41 : decode cX1_readItem 41 = .ok (.iconst 0, 1) := by decide +kernel
theorem dX1_readItem_42 : decode cX1_readItem 42 = .ok (.invokevirtual 51, 3) := by decide +kernel
theorem dX1_readItem_45 : decode cX1_readItem 45 = .ok (.aload_n 0, 1) := by decide +kernel
theorem dX1_readItem_46 : decode cX1_readItem 46 = .ok (.getfield 16, 3) := by decide +kernel
theorem dX1_readItem_49 : decode cX1_readItem 49 = .ok (.iconst 1, 1) := by decide +kernel
theorem dX1_readItem_50 : decode cX1_readItem 50 = .ok (.invokevirtual 51, 3) := by decide +kernel
theorem dX1_readItem_53 : decode cX1_readItem 53 = .ok (.aload_n 0, 1) := by decide +kernel
theorem dX1_readItem_54 : decode cX1_readItem 54 = .ok (.getfield 16, 3) := by decide +kernel
theorem dX1_readItem_57 : decode cX1_readItem 57 = .ok (.iconst 2, 1) := by decide +kernel
theorem dX1_readItem_58 : decode cX1_readItem 58 = .ok (.invokevirtual 51, 3) := by decide +kernel
theorem dX1_readItem_61 : decode cX1_readItem 61 = .ok (.invokevirtual 54, 3) := by decide +kernel
theorem dX1_readItem_64 : decode cX1_readItem 64 = .ok (.ifCond .eq 7, 3) := by decide +kernel
theorem dX1_readItem_67 : decode cX1_readItem 67 = .ok (.iconst 1, 1) := by decide +kernel
theorem dX1_readItem_68 : decode cX1_readItem 68 = .ok (.goto 4, 3) := by decide +kernel
theorem dX1_readItem_71 : decode cX1_readItem 71 = .ok (.iconst 0, 1) := by decide +kernel
theorem dX1_readItem_72 : decode cX1_readItem 72 = .ok (.ireturn, 1) := by decide +kernel
theorem dX1_readItem_73 : decode cX1_readItem 73 = .ok (.iload_n 2, 1) := by decide +kernel
theorem dX1_readItem_74 : decode cX1_readItem 74 = .ok (.bipush 112, 2) := by decide +kernel
theorem dX1_readItem_76 : decode cX1_readItem 76 = .ok (.if_icmp .ne 56, 3) := by decide +kernel
theorem dX1_readItem_79 : decode cX1_readItem 79 = .ok (.aload_n 0, 1) := by decide +kernel
theorem dX1_readItem_80 : decode cX1_readItem 80 = .ok (.iconst 4, 1) := by decide +kernel
theorem dX1_readItem_81 : decode cX1_readItem 81 = .ok (.invokevirtual 47, 3) := by decide +kernel
theorem dX1_readItem_84 : decode cX1_readItem 84 = .ok (.ifCond .eq 46, 3) := by decide +kernel
theorem dX1_readItem_87 : decode cX1_readItem 87 = .ok (.aload_n 1, 1) := by decide +kernel
theorem dX1_readItem_88 : decode cX1_readItem 88 = .ok (.aload_n 0, 1) := by decide +kernel
theorem dX1_readItem_89 : decode cX1_readItem 89 = .ok (.getfield 16, 3) := by decide +kernel
theorem dX1_readItem_92 : decode cX1_readItem 92 = .ok (.iconst 0, 1) := by decide +kernel
theorem dX1_readItem_93 : decode cX1_readItem 93 = .ok (.invokevirtual 51, 3) := by decide +kernel
theorem dX1_readItem_96 : decode cX1_readItem 96 = .ok (.aload_n 0, 1) := by decide +kernel
theorem dX1_readItem_97 : decode cX1_readItem 97 = .ok (.getfield 16, 3) := by decide +kernel
theorem dX1_readItem_100 : decode cX1_readItem 100 = .ok (.iconst 1, 1) := by decide +kernel
theorem dX1_readItem_101 : decode cX1_readItem 101 = .ok (.invokevirtual 51, 3) := by decide +kernel
theorem dX1_readItem_104 : decode cX1_readItem 104 = .ok (.aload_n 0, 1) := by decide +kernel
theorem dX1_readItem_105 : decode cX1_readItem 105 = .ok (.getfield 16, 3) := by decide +kernel
theorem dX1_readItem_108 : decode cX1_readItem 108 = .ok (.iconst 2, 1) := by decide +kernel
theorem dX1_readItem_109 : decode cX1_readItem 109 = .ok (.invokevirtual 51, 3) := by decide +kernel
theorem dX1_readItem_112 : decode cX1_readItem 112 = .ok (.aload_n 0, 1) := by decide +kernel
theorem dX1_readItem_113 : decode cX1_readItem 113 = .ok (.getfield 16, 3) := by decide +kernel
theorem dX1_readItem_116 : decode cX1_readItem 116 = .ok (.iconst 3, 1) := by decide +kernel
theorem dX1_readItem_117 : decode cX1_readItem 117 = .ok (.invokevirtual 51, 3) := by decide +kernel
theorem dX1_readItem_120 : decode cX1_readItem 120 = .ok (.invokevirtual 58, 3) := by decide +kernel
theorem dX1_readItem_123 : decode cX1_readItem 123 = .ok (.ifCond .eq 7, 3) := by decide +kernel
theorem dX1_readItem_126 : decode cX1_readItem 126 = .ok (.iconst 1, 1) := by decide +kernel
theorem dX1_readItem_127 : decode cX1_readItem 127 = .ok (.goto 4, 3) := by decide +kernel
theorem dX1_readItem_130 : decode cX1_readItem 130 = .ok (.iconst 0, 1) := by decide +kernel
theorem dX1_readItem_131 : decode cX1_readItem 131 = .ok (.ireturn, 1) := by decide +kernel
theorem dX1_readItem_132 : decode cX1_readItem 132 = .ok (.iconst 0, 1) := by decide +kernel
theorem dX1_readItem_133 : decode cX1_readItem 133 = .ok (.ireturn, 1) := by decide +kernel
theorem dX1_readNumbers_0 : decode cX1_readNumbers 0 = .ok (.iconst 0, 1) := by decide +kernel
theorem dX1_readNumbers_1 : decode cX1_readNumbers 1 = .ok (.istore_n 2, 1) := by decide +kernel
theorem dX1_readNumbers_2 : decode cX1_readNumbers 2 = .ok (.iload_n 2, 1) := by decide +kernel
theorem dX1_readNumbers_3 : decode cX1_readNumbers 3 = .ok (.iload_n 1, 1) := by decide +kernel
theorem dX1_readNumbers_4 : decode cX1_readNumbers 4 = .ok (.if_icmp .ge 73, 3) := by decide +kernel
theorem dX1_readNumbers_7 : decode cX1_readNumbers 7 = .ok (.aload_n 0, 1) := by decide +kernel
theorem dX1_readNumbers_8 : decode cX1_readNumbers 8 = .ok (.invokevirtual 62, 3) := by decide +kernel
theorem dX1_readNumbers_11 : decode cX1_readNumbers 11 = .ok (.istore_n 3, 1) := by decide +kernel
theorem dX1_readNumbers_12 : decode cX1_readNumbers 12 = .ok (.iload_n 2, 1) := by decide +kernel
theorem dX1_readNumbers_13 : decode cX1_readNumbers 13 = .ok (.iload_n 1, 1) := by decide +kernel
theorem dX1_readNumbers_14 : decode cX1_readNumbers 14 = .ok (.iconst 1, 1) := by decide +kernel
theorem dX1_readNumbers_15 : decode cX1_readNumbers 15 = .ok (.isub, 1) := by decide +kernel
theorem dX1_readNumbers_16 : decode cX1_readNumbers 16 = .ok (.if_icmp .ne 8, 3) := by decide +kernel
theorem dX1_readNumbers_19 : decode cX1_readNumbers 19 = .ok (.bipush 59, 2) := by decide +kernel
theorem dX1_readNumbers_21 : decode cX1_readNumbers 21 = .ok (.goto 5, 3) := by decide +kernel
theorem dX1_readNumbers_24 : decode cX1_readNumbers 24 = .ok (.bipush 44, 2) := by decide +kernel
theorem dX1_readNumbers_26 : decode cX1_readNumbers 26 = .ok (.istore 4, 2) := by decide +kernel
theorem dX1_readNumbers_28 : decode cX1_readNumbers 28 = .ok (.iload_n 3, 1) := by decide +kernel
theorem dX1_readNumbers_29 : decode cX1_readNumbers 29 = .ok (.bipush (-4), 2) := by decide +kernel
theorem dX1_readNumbers_31 : decode cX1_readNumbers 31 = .ok (.if_icmp .eq 19, 3) := by decide +kernel
theorem dX1_readNumbers_34 : decode cX1_readNumbers 34 = .ok (.aload_n 0, 1) := by decide +kernel
theorem dX1_readNumbers_35 : decode cX1_readNumbers 35 = .ok (.getfield 20, 3) := by decide +kernel
theorem dX1_readNumbers_38 : decode cX1_readNumbers 38 = .ok (.aload_n 0, 1) := by decide +kernel
theorem dX1_readNumbers_39 : decode cX1_readNumbers 39 = .ok (.getfield 29, 3) := by decide +kernel
theorem dX1_readNumbers_42 : decode cX1_readNumbers 42 = .ok (.invokevirtual 43, 3) := by decide +kernel
theorem dX1_readNumbers_45 : decode cX1_readNumbers 45 = .ok (.iload 4, 2) := by decide +kernel
theorem dX1_readNumbers_47 : decode cX1_readNumbers 47 = .ok (.if_icmp .eq 5, 3) := by decide +kernel
theorem dX1_readNumbers_50 : decode cX1_readNumbers 50 = .ok (.iconst 0, 1) := by decide +kernel
theorem dX1_readNumbers_51 : decode cX1_readNumbers 51 = .ok (.ireturn, 1) := by decide +kernel
theorem dX1_readNumbers_52 : decode cX1_readNumbers 52 = .ok (.aload_n 0, 1) := by decide +kernel
theorem dX1_readNumbers_53 : decode cX1_readNumbers 53 = .ok (.dup, 1) := by decide +kernel
theorem dX1_readNumbers_54 : decode cX1_readNumbers 54 = .ok (.getfield 29, 3) := by decide +kernel
theorem dX1_readNumbers_57 : decode cX1_readNumbers 57 = .ok (.iconst 1, 1) := by decide +kernel
theorem dX1_readNumbers_58 : decode cX1_readNumbers 58 = .ok (.iadd, 1) := by decide +kernel
theorem dX1_readNumbers_59 : decode cX1_readNumbers 59 = .ok (.putfield 29, 3) := by decide +kernel
theorem dX1_readNumbers_62 : decode cX1_readNumbers 62 = .ok (.aload_n 0, 1) := by decide +kernel
theorem dX1_readNumbers_63 : decode cX1_readNumbers 63 = .ok (.getfield 16, 3) := by decide +kernel
theorem dX1_readNumbers_66 : decode cX1_readNumbers 66 = .ok (.iload_n 2, 1) := by decide +kernel
theorem dX1_readNumbers_67 : decode cX1_readNumbers 67 = .ok (.iload_n 3, 1) := by decide +kernel
theorem dX1_readNumbers_68 : decode cX1_readNumbers 68 = .ok (.invokevirtual 65, 3) := by decide +kernel
theorem dX1_readNumbers_71 : decode cX1_readNumbers 71 = .ok (.iinc 2 1, 3) := by decide +kernel
theorem dX1_readNumbers_74 : decode cX1_readNumbers 74 = .ok (.goto (-72), 3) := by decide +kernel
theorem dX1_readNumbers_77 : decode cX1_readNumbers 77 = .ok (.iconst 1, 1) := by decide +kernel
theorem dX1_readNumbers_78 : decode cX1_readNumbers 78 = .ok (.ireturn, 1) := by decide +kernel
theorem dX1_readNumber_0 : decode cX1_readNumber 0 = .ok (.aload_n 0, 1) := by decide +kernel
theorem dX1_readNumber_1 : decode cX1_readNumber 1 = .ok (.getfield 20, 3) := by decide +kernel
theorem dX1_readNumber_4 : decode cX1_readNumber 4 = .ok (.aload_n 0, 1) := by decide +kernel
theorem dX1_readNumber_5 : decode cX1_readNumber 5 = .ok (.getfield 29, 3) := by decide +kernel
theorem dX1_readNumber_8 : decode cX1_readNumber 8 = .ok (.invokevirtual 43, 3) := by decide +kernel
theorem dX1_readNumber_11 : decode cX1_readNumber 11 = .ok (.istore_n 1, 1) := by decide +kernel
theorem dX1_readNumber_12 : decode cX1_readNumber 12 = .ok (.iload_n 1, 1) := by decide +kernel
theorem dX1_readNumber_13 : decode cX1_readNumber 13 = .ok (.invokestatic 69, 3) := by decide +kernel
theorem dX1_readNumber_16 : decode cX1_readNumber 16 = .ok (.ifCond .ne 6, 3) := by decide +kernel
theorem dX1_readNumber_19 : decode cX1_readNumber 19 = .ok (.bipush (-4), 2) := by decide +kernel
theorem dX1_readNumber_21 : decode cX1_readNumber 21 = .ok (.ireturn, 1) := by decide +kernel
theorem dX1_readNumber_22 : decode cX1_readNumber 22 = .ok (.aload_n 0, 1) := by decide +kernel
theorem dX1_readNumber_23 : decode cX1_readNumber 23 = .ok (.dup, 1) := by decide +kernel
theorem dX1_readNumber_24 : decode cX1_readNumber 24 = .ok (.getfield 29, 3) := by decide +kernel
theorem dX1_readNumber_27 : decode cX1_readNumber 27 = .ok (.iconst 1, 1) := by decide +kernel
theorem dX1_readNumber_28 : decode cX1_readNumber 28 = .ok (.iadd, 1) := by decide +kernel
theorem dX1_readNumber_29 : decode cX1_readNumber 29 = .ok (.putfield 29, 3) := by decide +kernel
theorem dX1_readNumber_32 : decode cX1_readNumber 32 = .ok (.aload_n 0, 1) := by decide +kernel
theorem dX1_readNumber_33 : decode cX1_readNumber 33 = .ok (.getfield 20, 3) := by decide +kernel
theorem dX1_readNumber_36 : decode cX1_readNumber 36 = .ok (.aload_n 0, 1) := by decide +kernel
theorem dX1_readNumber_37 : decode cX1_readNumber 37 = .ok (.getfield 29, 3) := by decide +kernel
theorem dX1_readNumber_40 : decode cX1_readNumber 40 = .ok (.invokevirtual 43, 3) := by decide +kernel
theorem dX1_readNumber_43 : decode cX1_readNumber 43 = .ok (.istore_n 2, 1) := by decide +kernel
theorem dX1_readNumber_44 : decode cX1_readNumber 44 = .ok (.iload_n 2, 1) := by decide +kernel
theorem dX1_readNumber_45 : decode cX1_readNumber 45 = .ok (.invokestatic 69, 3) := by decide +kernel
theorem dX1_readNumber_48 : decode cX1_readNumber 48 = .ok (.ifCond .ne 8, 3) := by decide +kernel
theorem dX1_readNumber_51 : decode cX1_readNumber 51 = .ok (.iload_n 1, 1) := by decide +kernel
theorem dX1_readNumber_52 : decode cX1_readNumber 52 = .ok (.bipush 48, 2) := by decide +kernel
theorem dX1_readNumber_54 : decode cX1_readNumber 54 = .ok (.isub, 1) := by decide +kernel
theorem dX1_readNumber_55 : decode cX1_readNumber 55 = .ok (.ireturn, 1) := by decide +kernel
theorem dX1_readNumber_56 : decode cX1_readNumber 56 = .ok (.aload_n 0, 1) := by decide +kernel
theorem dX1_readNumber_57 : decode cX1_readNumber 57 = .ok (.dup, 1) := by decide +kernel
theorem dX1_readNumber_58 : decode cX1_readNumber 58 = .ok (.getfield 29, 3) := by decide +kernel
theorem dX1_readNumber_61 : decode cX1_readNumber 61 = .ok (.iconst 1, 1) := by decide +kernel
theorem dX1_readNumber_62 : decode cX1_readNumber 62 = .ok (.iadd, 1) := by decide +kernel
theorem dX1_readNumber_63 : decode cX1_readNumber 63 = .ok (.putfield 29, 3) := by decide +kernel
theorem dX1_readNumber_66 : decode cX1_readNumber 66 = .ok (.bipush 10, 2) := by decide +kernel
theorem dX1_readNumber_68 : decode cX1_readNumber 68 = .ok (.iload_n 1, 1) := by decide +kernel
theorem dX1_readNumber_69 : decode cX1_readNumber 69 = .ok (.bipush 48, 2) := by decide +kernel
theorem dX1_readNumber_71 : decode cX1_readNumber 71 = .ok (.isub, 1) := by decide +kernel
theorem dX1_readNumber_72 : decode cX1_readNumber 72 = .ok (.imul, 1) := by decide +kernel
theorem dX1_readNumber_73 : decode cX1_readNumber 73 = .ok (.iload_n 2, 1) := by decide +kernel
theorem dX1_readNumber_74 : decode cX1_readNumber 74 = .ok (.iadd, 1) := by decide +kernel
theorem dX1_readNumber_75 : decode cX1_readNumber 75 = .ok (.bipush 48, 2) := by decide +kernel
theorem dX1_readNumber_77 : decode cX1_readNumber 77 = .ok (.isub, 1) := by decide +kernel
theorem dX1_readNumber_78 : decode cX1_readNumber 78 = .ok (.ireturn, 1) := by decide +kernel
theorem dX1_isFigure_0 : decode cX1_isFigure 0 = .ok (.iload_n 0, 1) := by decide +kernel
theorem dX1_isFigure_1 : decode cX1_isFigure 1 = .ok (.bipush 48, 2) := by decide +kernel
theorem dX1_isFigure_3 : decode cX1_isFigure 3 = .ok (.if_icmp .lt 13, 3) := by decide +kernel
theorem dX1_isFigure_6 : decode cX1_isFigure 6 = .ok (.iload_n 0, 1) := by decide +kernel
theorem dX1_isFigure_7 : decode cX1_isFigure 7 = .ok (.bipush 57, 2) := by decide +kernel
theorem dX1_isFigure_9 : decode cX1_isFigure 9 = .ok (.if_icmp .gt 7, 3) := by decide +kernel
theorem dX1_isFigure_12 : decode cX1_isFigure 12 = .ok (.iconst 1, 1) := by decide +kernel
theorem dX1_isFigure_13 : decode cX1_isFigure 13 = .ok (.goto 4, 3) := by decide +kernel
theorem dX1_isFigure_16 : decode cX1_isFigure 16 = .ok (.iconst 0, 1) := by decide +kernel
theorem dX1_isFigure_17 : decode cX1_isFigure 17 = .ok (.ireturn, 1) := by decide +kernel
theorem dX2_init_0 : decode cX2_init 0 = .ok (.aload_n 0, 1) := by decide +kernel
theorem dX2_init_1 : decode cX2_init 1 = .ok (.invokespecial 3, 3) := by decide +kernel
theorem dX2_init_4 : decode cX2_init 4 = .ok (.aload_n 0, 1) := by decide +kernel
theorem dX2_init_5 : decode cX2_init 5 = .ok (.new 9, 3) := by decide +kernel
theorem dX2_init_8 : decode cX2_init 8 = .ok (.dup, 1) := by decide +kernel
theorem dX2_init_9 : decode cX2_init 9 = .ok (.bipush 9, 2) := by decide +kernel
theorem dX2_init_11 : decode cX2_init 11 = .ok (.invokespecial 11, 3) := by decide +kernel
theorem dX2_init_14 : decode cX2_init 14 = .ok (.putfield 14, 3) := by decide +kernel
theorem dX2_init_17 : decode cX2_init 17 = .ok (.aload_n 0, 1) := by decide +kernel
theorem dX2_init_18 : decode cX2_init 18 = .ok (.new 9, 3) := by decide +kernel
theorem dX2_init_21 : decode cX2_init 21 = .ok (.dup, 1) := by decide +kernel
theorem dX2_init_22 : decode cX2_init 22 = .ok (.bipush 9, 2) := by decide +kernel
theorem dX2_init_24 : decode cX2_init 24 = .ok (.invokespecial 11, 3) := by decide +kernel
theorem dX2_init_27 : decode cX2_init 27 = .ok (.putfield 20, 3) := by decide +kernel
theorem dX2_init_30 : decode cX2_init 30 = .ok (.aload_n 0, 1) := by decide +kernel
theorem dX2_init_31 : decode cX2_init 31 = .ok (.new 9, 3) := by decide +kernel
theorem dX2_init_34 : decode cX2_init 34 = .ok (.dup, 1) := by decide +kernel
theorem dX2_init_35 : decode cX2_init 35 = .ok (.bipush 9, 2) := by decide +kernel
theorem dX2_init_37 : decode cX2_init 37 = .ok (.invokespecial 11, 3) := by decide +kernel
theorem dX2_init_40 : decode cX2_init 40 = .ok (.putfield 23, 3) := by decide +kernel
theorem dX2_init_43 : decode cX2_init 43 = .ok (.aload_n 0, 1) := by decide +kernel
theorem dX2_init_44 : decode cX2_init 44 = .ok (.new 9, 3) := by decide +kernel
theorem dX2_init_47 : decode cX2_init 47 = .ok (.dup, 1) := by decide +kernel
theorem dX2_init_48 : decode cX2_init 48 = .ok (.bipush 9, 2) := by decide +kernel
theorem dX2_init_50 : decode cX2_init 50 = .ok (.invokespecial 11, 3) := by decide +kernel
theorem dX2_init_53 : decode cX2_init 53 = .ok (.putfield 26, 3) := by decide +kernel
theorem dX2_init_56 : decode cX2_init 56 = .ok (.aload_n 0, 1) := by decide +kernel
theorem dX2_init_57 : decode cX2_init 57 = .ok (.new 9, 3) := by decide +kernel
theorem dX2_init_60 : decode cX2_init 60 = .ok (.dup, 1) := by decide +kernel
theorem dX2_init_61 : decode cX2_init 61 = .ok (.bipush 6, 2) := by decide +kernel
theorem dX2_init_63 : decode cX2_init 63 = .ok (.invokespecial 11, 3) := by decide +kernel
theorem dX2_init_66 : decode cX2_init 66 = .ok (.putfield 29, 3) := by decide +kernel
theorem dX2_init_69 : decode cX2_init 69 = .ok (.return_, 1) := by decide +kernel
theorem dX2_clear_0 : decode cX2_clear 0 = .ok (.aload_n 0, 1) := by decide +kernel
theorem dX2_clear_1 : decode cX2_clear 1 = .ok (.getfield 29, 3) := by decide +kernel
theorem dX2_clear_4 : decode cX2_clear 4 = .ok (.iconst 0, 1) := by decide +kernel
theorem dX2_clear_5 : decode cX2_clear 5 = .ok (.invokevirtual 32, 3) := by decide +kernel
theorem dX2_clear_8 : decode cX2_clear 8 = .ok (.aload_n 0, 1) := by decide +kernel
theorem dX2_clear_9 : decode cX2_clear 9 = .ok (.iconst 0, 1) := by decide +kernel
theorem dX2_clear_10 : decode cX2_clear 10 = .ok (.putfield 35, 3) := by decide +kernel
theorem dX2_clear_13 : decode cX2_clear 13 = .ok (.aload_n 0, 1) := by decide +kernel
theorem dX2_clear_14 : decode cX2_clear 14 = .ok (.iconst 0, 1) := by decide +kernel
theorem dX2_clear_15 : decode cX2_clear 15 = .ok (.putfield 39, 3) := by decide +kernel
theorem dX2_clear_18 : decode cX2_clear 18 = .ok (.aload_n 0, 1) := by decide +kernel
theorem dX2_clear_19 : decode cX2_clear 19 = .ok (.bipush 10, 2) := by decide +kernel
theorem dX2_clear_21 : decode cX2_clear 21 = .ok (.bipush 9, 2) := by decide +kernel
theorem dX2_clear_23 : decode cX2_clear 23 = .ok (.iconst 1, 1) := by decide +kernel
theorem dX2_clear_24 : decode cX2_clear 24 = .ok (.invokevirtual 42, 3) := by decide +kernel
theorem dX2_clear_27 : decode cX2_clear 27 = .ok (.pop, 1) := by decide +kernel
theorem dX2_clear_28 : decode cX2_clear 28 = .ok (.return_, 1) := by decide +kernel
theorem dX2_setFerry_0 : decode cX2_setFerry 0 = .ok (.iload_n 1, 1) := by decide +kernel
theorem dX2_setFerry_1 : decode cX2_setFerry 1 = .ok (.iconst 1, 1) := by decide +kernel
theorem dX2_setFerry_2 : decode cX2_setFerry 2 = .ok (.if_icmp .lt 9, 3) := by decide +kernel
theorem dX2_setFerry_5 : decode cX2_setFerry 5 = .ok (.iload_n 3, 1) := by decide +kernel
theorem dX2_setFerry_6 : decode cX2_setFerry 6 = .ok (.bipush 9, 2) := by decide +kernel
theorem dX2_setFerry_8 : decode cX2_setFerry 8 = .ok (.if_icmp .le 5, 3) := by decide +kernel
theorem dX2_setFerry_11 : decode cX2_setFerry 11 = .ok (.iconst 0, 1) := by decide +kernel
theorem dX2_setFerry_12 : decode cX2_setFerry 12 = .ok (.ireturn, 1) := by decide +kernel
theorem dX2_setFerry_13 : decode cX2_setFerry 13 = .ok (.aload_n 0, 1) := by decide +kernel
theorem dX2_setFerry_14 : decode cX2_setFerry 14 = .ok (.bipush 10, 2) := by decide +kernel
theorem dX2_setFerry_16 : decode cX2_setFerry 16 = .ok (.iload_n 1, 1) := by decide +kernel
theorem dX2_setFerry_17 : decode cX2_setFerry 17 = .ok (.imul, 1) := by decide +kernel
theorem dX2_setFerry_18 : decode cX2_setFerry 18 = .ok (.putfield 46, 3) := by decide +kernel
theorem dX2_setFerry_21 : decode cX2_setFerry 21 = .ok (.aload_n 0, 1) := by decide +kernel
theorem dX2_setFerry_22 : decode cX2_setFerry 22 = .ok (.iload_n 2, 1) := by decide +kernel
theorem dX2_setFerry_23 : decode cX2_setFerry 23 = .ok (.putfield 49, 3) := by decide +kernel
theorem dX2_setFerry_26 : decode cX2_setFerry 26 = .ok (.aload_n 0, 1) := by decide +kernel
theorem dX2_setFerry_27 : decode cX2_setFerry 27 = .ok (.iload_n 3, 1) := by decide +kernel
theorem dX2_setFerry_28 : decode cX2_setFerry 28 = .ok (.putfield 52, 3) := by decide +kernel
theorem dX2_setFerry_31 : decode cX2_setFerry 31 = .ok (.iconst 1, 1) := by decide +kernel
theorem dX2_setFerry_32 : decode cX2_setFerry 32 = .ok (.ireturn, 1) := by decide +kernel
theorem dX2_addPerson_0 : decode cX2_addPerson 0 = .ok (.aload_n 0, 1) := by decide +kernel
theorem dX2_addPerson_1 : decode cX2_addPerson 1 = .ok (.getfield 39, 3) := by decide +kernel
theorem dX2_addPerson_4 : decode cX2_addPerson 4 = .ok (.bipush 9, 2) := by decide +kernel
theorem dX2_addPerson_6 : decode cX2_addPerson 6 = .ok (.if_icmp .ge 14, 3) := by decide +kernel
theorem dX2_addPerson_9 : decode cX2_addPerson 9 = .ok (.iload_n 1, 1) := by decide +kernel
theorem dX2_addPerson_10 : decode cX2_addPerson 10 = .ok (.iconst 3, 1) := by decide +kernel
theorem dX2_addPerson_11 : decode cX2_addPerson 11 = .ok (.if_icmp .gt 9, 3) := by decide +kernel
theorem dX2_addPerson_14 : decode cX2_addPerson 14 = .ok (.iload 4, 2) := by decide +kernel
theorem dX2_addPerson_16 : decode cX2_addPerson 16 = .ok (.iconst 5, 1) := by decide +kernel
theorem dX2_addPerson_17 : decode cX2_addPerson 17 = .ok (.if_icmp .le 5, 3) := by decide +kernel
theorem dX2_addPerson_20 : decode cX2_addPerson 20 = .ok (.iconst 0, 1) := by decide +kernel
theorem dX2_addPerson_21 : decode cX2_addPerson 21 = .ok (.ireturn, 1) := by decide +kernel
theorem dX2_addPerson_22 : decode cX2_addPerson 22 = .ok (.aload_n 0, 1) := by decide +kernel
theorem dX2_addPerson_23 : decode cX2_addPerson 23 = .ok (.getfield 14, 3) := by decide +kernel
theorem dX2_addPerson_26 : decode cX2_addPerson 26 = .ok (.aload_n 0, 1) := by decide +kernel
theorem dX2_addPerson_27 : decode cX2_addPerson 27 = .ok (.getfield 39, 3) := by decide +kernel
theorem dX2_addPerson_30 : decode cX2_addPerson 30 = .ok (.iload_n 1, 1) := by decide +kernel
theorem dX2_addPerson_31 : decode cX2_addPerson 31 = .ok (.invokevirtual 55, 3) := by decide +kernel
theorem dX2_addPerson_34 : decode cX2_addPerson 34 = .ok (.aload_n 0, 1) := by decide +kernel
theorem dX2_addPerson_35 : decode cX2_addPerson 35 = .ok (.getfield 20, 3) := by decide +kernel
theorem dX2_addPerson_38 : decode cX2_addPerson 38 = .ok (.aload_n 0, 1) := by decide +kernel
theorem dX2_addPerson_39 : decode cX2_addPerson 39 = .ok (.getfield 39, 3) := by decide +kernel
theorem dX2_addPerson_42 : decode cX2_addPerson 42 = .ok (.iload_n 2, 1) := by decide +kernel
theorem dX2_addPerson_43 : decode cX2_addPerson 43 = .ok (.invokevirtual 55, 3) := by decide +kernel
theorem dX2_addPerson_46 : decode cX2_addPerson 46 = .ok (.aload_n 0, 1) := by decide +kernel
theorem dX2_addPerson_47 : decode cX2_addPerson 47 = .ok (.getfield 23, 3) := by decide +kernel
theorem dX2_addPerson_50 : decode cX2_addPerson 50 = .ok (.aload_n 0, 1) := by decide +kernel
theorem dX2_addPerson_51 : decode cX2_addPerson 51 = .ok (.getfield 39, 3) := by decide +kernel
theorem dX2_addPerson_54 : decode cX2_addPerson 54 = .ok (.iload_n 3, 1) := by decide +kernel
theorem dX2_addPerson_55 : decode cX2_addPerson 55 = .ok (.invokevirtual 55, 3) := by decide +kernel
theorem dX2_addPerson_58 : decode cX2_addPerson 58 = .ok (.aload_n 0, 1) := by decide +kernel
theorem dX2_addPerson_59 : decode cX2_addPerson 59 = .ok (.getfield 26, 3) := by decide +kernel
theorem dX2_addPerson_62 : decode cX2_addPerson 62 = .ok (.aload_n 0, 1) := by decide +kernel
theorem dX2_addPerson_63 : decode cX2_addPerson 63 = .ok (.getfield 39, 3) := by decide +kernel
theorem dX2_addPerson_66 : decode cX2_addPerson 66 = .ok (.iload 4, 2) := by decide +kernel
theorem dX2_addPerson_68 : decode cX2_addPerson 68 = .ok (.invokevirtual 55, 3) := by decide +kernel
theorem dX2_addPerson_71 : decode cX2_addPerson 71 = .ok (.aload_n 0, 1) := by decide +kernel
theorem dX2_addPerson_72 : decode cX2_addPerson 72 = .ok (.getfield 29, 3) := by decide +kernel
theorem dX2_addPerson_75 : decode cX2_addPerson 75 = .ok (.iload 4, 2) := by decide +kernel
theorem dX2_addPerson_77 : decode cX2_addPerson 77 = .ok (.aload_n 0, 1) := by decide +kernel
theorem dX2_addPerson_78 : decode cX2_addPerson 78 = .ok (.getfield 29, 3) := by decide +kernel
theorem dX2_addPerson_81 : decode cX2_addPerson 81 = .ok (.iload 4, 2) := by decide +kernel
theorem dX2_addPerson_83 : decode cX2_addPerson 83 = .ok (.invokevirtual 59, 3) := by decide +kernel
theorem dX2_addPerson_86 : decode cX2_addPerson 86 = .ok (.iconst 1, 1) := by decide +kernel
theorem dX2_addPerson_87 : decode cX2_addPerson 87 = .ok (.aload_n 0, 1) := by decide +kernel
theorem dX2_addPerson_88 : decode cX2_addPerson 88 = .ok (.getfield 39, 3) := by decide +kernel
theorem dX2_addPerson_91 : decode cX2_addPerson 91 = .ok (.ishl, 1) := by decide +kernel
theorem dX2_addPerson_92 : decode cX2_addPerson 92 = .ok (.ior, 1) := by decide +kernel
theorem dX2_addPerson_93 : decode cX2_addPerson 93 = .ok (.invokevirtual 55, 3) := by decide +kernel
theorem dX2_addPerson_96 : decode cX2_addPerson 96 = .ok (.iload_n 1, 1) := by decide +kernel
theorem dX2_addPerson_97 : decode cX2_addPerson 97 = .ok (.iconst 3, 1) := by decide +kernel
theorem dX2_addPerson_98 : decode cX2_addPerson 98 = .ok (.if_icmp .ne 18, 3) := by decide +kernel
theorem dX2_addPerson_101 : decode cX2_addPerson 101 = .ok (.aload_n 0, 1) := by decide +kernel
theorem dX2_addPerson_102 : decode cX2_addPerson 102 = .ok (.dup, 1) := by decide +kernel
theorem dX2_addPerson_103 : decode cX2_addPerson 103 = .ok (.getfield 35, 3) := by decide +kernel
theorem dX2_addPerson_106 : decode cX2_addPerson 106 = .ok (.iconst 1, 1) := by decide +kernel
theorem dX2_addPerson_107 : decode cX2_addPerson 107 = .ok (.aload_n 0, 1) := by decide +kernel
theorem dX2_addPerson_108 : decode cX2_addPerson 108 = .ok (.getfield 39, 3) := by decide +kernel
theorem dX2_addPerson_111 : decode cX2_addPerson 111 = .ok (.ishl, 1) := by decide +kernel
theorem dX2_addPerson_112 : decode cX2_addPerson 112 = .ok (.ior, 1) := by decide +kernel
theorem dX2_addPerson_113 : decode cX2_addPerson 113 = .ok (.putfield 35, 3) := by decide +kernel
theorem dX2_addPerson_116 : decode cX2_addPerson 116 = .ok (.aload_n 0, 1) := by decide +kernel
theorem dX2_addPerson_117 : decode cX2_addPerson 117 = .ok (.dup, 1) := by decide +kernel
theorem dX2_addPerson_118 : decode cX2_addPerson 118 = .ok (.getfield 39, 3) := by decide +kernel
theorem dX2_addPerson_121 : decode cX2_addPerson 121 = .ok (.iconst 1, 1) := by decide +kernel
theorem dX2_addPerson_122 : decode cX2_addPerson 122 = .ok (.iadd, 1) := by decide +kernel
theorem dX2_addPerson_123 : decode cX2_addPerson 123 = .ok (.putfield 39, 3) := by decide +kernel
theorem dX2_addPerson_126 : decode cX2_addPerson 126 = .ok (.iconst 1, 1) := by decide +kernel
theorem dX2_addPerson_127 : decode cX2_addPerson 127 = .ok (.ireturn, 1) := by decide +kernel
theorem dX2_everyone_0 : decode cX2_everyone 0 = .ok (.iconst 1, 1) := by decide +kernel
theorem dX2_everyone_1 : decode cX2_everyone 1 = .ok (.aload_n 0, 1) := by decide +kernel
theorem dX2_everyone_2 : decode cX2_everyone 2 = .ok (.getfield 39, 3) := by decide +kernel
theorem dX2_everyone_5 : decode cX2_everyone 5 = .ok (.ishl, 1) := by decide +kernel
theorem dX2_everyone_6 : decode cX2_everyone 6 = .ok (.iconst 1, 1) := by decide +kernel
theorem dX2_everyone_7 : decode cX2_everyone 7 = .ok (.isub, 1) := by decide +kernel
theorem dX2_everyone_8 : decode cX2_everyone 8 = .ok (.ireturn, 1) := by decide +kernel
theorem dX2_agesOf_0 : decode cX2_agesOf 0 = .ok (.iconst 0, 1) := by decide +kernel
theorem dX2_agesOf_1 : decode cX2_agesOf 1 = .ok (.istore_n 2, 1) := by decide +kernel
theorem dX2_agesOf_2 : decode cX2_agesOf 2 = .ok (.iconst 0, 1) := by decide +kernel
theorem dX2_agesOf_3 : decode cX2_agesOf 3 = .ok (.istore_n 3, 1) := by decide +kernel
theorem dX2_agesOf_4 : decode cX2_agesOf 4 = .ok (.iload_n 3, 1) := by decide +kernel
theorem dX2_agesOf_5 : decode cX2_agesOf 5 = .ok (.aload_n 0, 1) := by decide +kernel
theorem dX2_agesOf_6 : decode cX2_agesOf 6 = .ok (.getfield 39, 3) := by decide +kernel
theorem dX2_agesOf_9 : decode cX2_agesOf 9 = .ok (.if_icmp .ge 32, 3) := by decide +kernel
theorem dX2_agesOf_12 : decode cX2_agesOf 12 = .ok (.iload_n 2, 1) := by decide +kernel
theorem dX2_agesOf_13 : decode cX2_agesOf 13 = .ok (.iload_n 1, 1) := by decide +kernel
theorem dX2_agesOf_14 : decode cX2_agesOf 14 = .ok (.iload_n 3, 1) := by decide +kernel
theorem dX2_agesOf_15 : decode cX2_agesOf 15 = .ok (.invokestatic 63, 3) := by decide +kernel
theorem dX2_agesOf_18 : decode cX2_agesOf 18 = .ok (.ifCond .eq 14, 3) := by decide +kernel
theorem dX2_agesOf_21 : decode cX2_agesOf 21 = .ok (.aload_n 0, 1) := by decide +kernel
theorem dX2_agesOf_22 : decode cX2_agesOf 22 = .ok (.getfield 20, 3) := by decide +kernel
theorem dX2_agesOf_25 : decode cX2_agesOf 25 = .ok (.iload_n 3, 1) := by decide +kernel
theorem dX2_agesOf_26 : decode cX2_agesOf 26 = .ok (.invokevirtual 59, 3) := by decide +kernel
theorem dX2_agesOf_29 : decode cX2_agesOf 29 = .ok (.goto 4, 3) := by decide +kernel
theorem dX2_agesOf_32 : decode cX2_agesOf 32 = .ok (.iconst 0, 1) := by decide +kernel
theorem dX2_agesOf_33 : decode cX2_agesOf 33 = .ok (.iadd, 1) := by decide +kernel
theorem dX2_agesOf_34 : decode cX2_agesOf 34 = .ok (.istore_n 2, 1) := by decide +kernel
theorem dX2_agesOf_35 : decode cX2_agesOf 35 = .ok (.iinc 3 1, 3) := by decide +kernel
theorem dX2_agesOf_38 : decode cX2_agesOf 38 = .ok (.goto (-34), 3) := by decide +kernel
theorem dX2_agesOf_41 : decode cX2_agesOf 41 = .ok (.iload_n 2, 1) := by decide +kernel
theorem dX2_agesOf_42 : decode cX2_agesOf 42 = .ok (.ireturn, 1) := by decide +kernel
theorem dX3_init_0 : decode cX3_init 0 = .ok (.aload_n 0, 1) := by decide +kernel
theorem dX3_init_1 : decode cX3_init 1 = .ok (.invokespecial 1, 3) := by decide +kernel
theorem dX3_init_4 : decode cX3_init 4 = .ok (.aload_n 0, 1) := by decide +kernel
theorem dX3_init_5 : decode cX3_init 5 = .ok (.iload_n 1, 1) := by decide +kernel
theorem dX3_init_6 : decode cX3_init 6 = .ok (.ifCond .ge 7, 3) := by decide +kernel
theorem dX3_init_9 : decode cX3_init 9 = .ok (.iconst 0, 1) := by decide +kernel
theorem dX3_init_10 : decode cX3_init 10 = .ok (.goto 4, 3) := by decide +kernel
theorem dX3_init_13 : decode cX3_init 13 = .ok (.iload_n 1, 1) := by decide +kernel
theorem dX3_init_14 : decode cX3_init 14 = .ok (.newarray .int, 2) := by decide +kernel
theorem dX3_init_16 : decode cX3_init 16 = .ok (.putfield 7, 3) := by decide +kernel
theorem dX3_init_19 : decode cX3_init 19 = .ok (.return_, 1) := by decide +kernel
theorem dX3_at_0 : decode cX3_at 0 = .ok (.iload_n 1, 1) := by decide +kernel
theorem dX3_at_1 : decode cX3_at 1 = .ok (.ifCond .lt 21, 3) := by decide +kernel
theorem dX3_at_4 : decode cX3_at 4 = .ok (.iload_n 1, 1) := by decide +kernel
theorem dX3_at_5 : decode cX3_at 5 = .ok (.aload_n 0, 1) := by decide +kernel
theorem dX3_at_6 : decode cX3_at 6 = .ok (.getfield 7, 3) := by decide +kernel
theorem dX3_at_9 : decode cX3_at 9 = .ok (.arraylength, 1) := by decide +kernel
theorem dX3_at_10 : decode cX3_at 10 = .ok (.if_icmp .ge 12, 3) := by decide +kernel
theorem dX3_at_13 : decode cX3_at 13 = .ok (.aload_n 0, 1) := by decide +kernel
theorem dX3_at_14 : decode cX3_at 14 = .ok (.getfield 7, 3) := by decide +kernel
theorem dX3_at_17 : decode cX3_at 17 = .ok (.iload_n 1, 1) := by decide +kernel
theorem dX3_at_18 : decode cX3_at 18 = .ok (.iaload, 1) := by decide +kernel
theorem dX3_at_19 : decode cX3_at 19 = .ok (.goto 4, 3) := by decide +kernel
theorem dX3_at_22 : decode cX3_at 22 = .ok (.iconst 0, 1) := by decide +kernel
theorem dX3_at_23 : decode cX3_at 23 = .ok (.ireturn, 1) := by decide +kernel
theorem dX3_put_0 : decode cX3_put 0 = .ok (.iload_n 1, 1) := by decide +kernel
theorem dX3_put_1 : decode cX3_put 1 = .ok (.ifCond .lt 19, 3) := by decide +kernel
theorem dX3_put_4 : decode cX3_put 4 = .ok (.iload_n 1, 1) := by decide +kernel
theorem dX3_put_5 : decode cX3_put 5 = .ok (.aload_n 0, 1) := by decide +kernel
theorem dX3_put_6 : decode cX3_put 6 = .ok (.getfield 7, 3) := by decide +kernel
theorem dX3_put_9 : decode cX3_put 9 = .ok (.arraylength, 1) := by decide +kernel
theorem dX3_put_10 : decode cX3_put 10 = .ok (.if_icmp .ge 10, 3) := by decide +kernel
theorem dX3_put_13 : decode cX3_put 13 = .ok (.aload_n 0, 1) := by decide +kernel
theorem dX3_put_14 : decode cX3_put 14 = .ok (.getfield 7, 3) := by decide +kernel
theorem dX3_put_17 : decode cX3_put 17 = .ok (.iload_n 1, 1) := by decide +kernel
theorem dX3_put_18 : decode cX3_put 18 = .ok (.iload_n 2, 1) := by decide +kernel
theorem dX3_put_19 : decode cX3_put 19 = .ok (.iastore, 1) := by decide +kernel
theorem dX3_put_20 : decode cX3_put 20 = .ok (.return_, 1) := by decide +kernel
theorem dX3_fill_0 : decode cX3_fill 0 = .ok (.iconst 0, 1) := by decide +kernel
theorem dX3_fill_1 : decode cX3_fill 1 = .ok (.istore_n 2, 1) := by decide +kernel
theorem dX3_fill_2 : decode cX3_fill 2 = .ok (.iload_n 2, 1) := by decide +kernel
theorem dX3_fill_3 : decode cX3_fill 3 = .ok (.aload_n 0, 1) := by decide +kernel
theorem dX3_fill_4 : decode cX3_fill 4 = .ok (.getfield 7, 3) := by decide +kernel
theorem dX3_fill_7 : decode cX3_fill 7 = .ok (.arraylength, 1) := by decide +kernel
theorem dX3_fill_8 : decode cX3_fill 8 = .ok (.if_icmp .ge 16, 3) := by decide +kernel
theorem dX3_fill_11 : decode cX3_fill 11 = .ok (.aload_n 0, 1) := by decide +kernel
theorem dX3_fill_12 : decode cX3_fill 12 = .ok (.getfield 7, 3) := by decide +kernel
theorem dX3_fill_15 : decode cX3_fill 15 = .ok (.iload_n 2, 1) := by decide +kernel
theorem dX3_fill_16 : decode cX3_fill 16 = .ok (.iload_n 1, 1) := by decide +kernel
theorem dX3_fill_17 : decode cX3_fill 17 = .ok (.iastore, 1) := by decide +kernel
theorem dX3_fill_18 : decode cX3_fill 18 = .ok (.iinc 2 1, 3) := by decide +kernel
theorem dX3_fill_21 : decode cX3_fill 21 = .ok (.goto (-19), 3) := by decide +kernel
theorem dX3_fill_24 : decode cX3_fill 24 = .ok (.return_, 1) := by decide +kernel
theorem dX4_init_0 : decode cX4_init 0 = .ok (.aload_n 0, 1) := by decide +kernel
theorem dX4_init_1 : decode cX4_init 1 = .ok (.invokespecial 3, 3) := by decide +kernel
theorem dX4_init_4 : decode cX4_init 4 = .ok (.aload_n 0, 1) := by decide +kernel
theorem dX4_init_5 : decode cX4_init 5 = .ok (.new 9, 3) := by decide +kernel
theorem dX4_init_8 : decode cX4_init 8 = .ok (.dup, 1) := by decide +kernel
theorem dX4_init_9 : decode cX4_init 9 = .ok (.sipush 512, 3) := by decide +kernel
theorem dX4_init_12 : decode cX4_init 12 = .ok (.invokespecial 11, 3) := by decide +kernel
theorem dX4_init_15 : decode cX4_init 15 = .ok (.putfield 14, 3) := by decide +kernel
theorem dX4_init_18 : decode cX4_init 18 = .ok (.aload_n 0, 1) := by decide +kernel
theorem dX4_init_19 : decode cX4_init 19 = .ok (.new 9, 3) := by decide +kernel
theorem dX4_init_22 : decode cX4_init 22 = .ok (.dup, 1) := by decide +kernel
theorem dX4_init_23 : decode cX4_init 23 = .ok (.sipush 512, 3) := by decide +kernel
theorem dX4_init_26 : decode cX4_init 26 = .ok (.invokespecial 11, 3) := by decide +kernel
theorem dX4_init_29 : decode cX4_init 29 = .ok (.putfield 20, 3) := by decide +kernel
theorem dX4_init_32 : decode cX4_init 32 = .ok (.aload_n 0, 1) := by decide +kernel
theorem dX4_init_33 : decode cX4_init 33 = .ok (.new 9, 3) := by decide +kernel
theorem dX4_init_36 : decode cX4_init 36 = .ok (.dup, 1) := by decide +kernel
theorem dX4_init_37 : decode cX4_init 37 = .ok (.sipush 512, 3) := by decide +kernel
theorem dX4_init_40 : decode cX4_init 40 = .ok (.invokespecial 11, 3) := by decide +kernel
theorem dX4_init_43 : decode cX4_init 43 = .ok (.putfield 23, 3) := by decide +kernel
theorem dX4_init_46 : decode cX4_init 46 = .ok (.aload_n 0, 1) := by decide +kernel
theorem dX4_init_47 : decode cX4_init 47 = .ok (.new 9, 3) := by decide +kernel
theorem dX4_init_50 : decode cX4_init 50 = .ok (.dup, 1) := by decide +kernel
theorem dX4_init_51 : decode cX4_init 51 = .ok (.sipush 892, 3) := by decide +kernel
theorem dX4_init_54 : decode cX4_init 54 = .ok (.invokespecial 11, 3) := by decide +kernel
theorem dX4_init_57 : decode cX4_init 57 = .ok (.putfield 26, 3) := by decide +kernel
theorem dX4_init_60 : decode cX4_init 60 = .ok (.aload_n 0, 1) := by decide +kernel
theorem dX4_init_61 : decode cX4_init 61 = .ok (.aload_n 1, 1) := by decide +kernel
theorem dX4_init_62 : decode cX4_init 62 = .ok (.putfield 29, 3) := by decide +kernel
theorem dX4_init_65 : decode cX4_init 65 = .ok (.aload_n 0, 1) := by decide +kernel
theorem dX4_init_66 : decode cX4_init 66 = .ok (.aload_n 2, 1) := by decide +kernel
theorem dX4_init_67 : decode cX4_init 67 = .ok (.putfield 33, 3) := by decide +kernel
theorem dX4_init_70 : decode cX4_init 70 = .ok (.return_, 1) := by decide +kernel
theorem dX4_costAll_0 : decode cX4_costAll 0 = .ok (.iconst 0, 1) := by decide +kernel
theorem dX4_costAll_1 : decode cX4_costAll 1 = .ok (.istore_n 2, 1) := by decide +kernel
theorem dX4_costAll_2 : decode cX4_costAll 2 = .ok (.iload_n 2, 1) := by decide +kernel
theorem dX4_costAll_3 : decode cX4_costAll 3 = .ok (.sipush 512, 3) := by decide +kernel
theorem dX4_costAll_6 : decode cX4_costAll 6 = .ok (.if_icmp .ge 38, 3) := by decide +kernel
theorem dX4_costAll_9 : decode cX4_costAll 9 = .ok (.aload_n 0, 1) := by decide +kernel
theorem dX4_costAll_10 : decode cX4_costAll 10 = .ok (.getfield 14, 3) := by decide +kernel
theorem dX4_costAll_13 : decode cX4_costAll 13 = .ok (.iload_n 2, 1) := by decide +kernel
theorem dX4_costAll_14 : decode cX4_costAll 14 = .ok (.iload_n 2, 1) := by decide +kernel
theorem dX4_costAll_15 : decode cX4_costAll 15 = .ok (.iload_n 1, 1) := by decide +kernel
theorem dX4_costAll_16 : decode cX4_costAll 16 = .ok (.invokestatic 37, 3) := by decide +kernel
theorem dX4_costAll_19 : decode cX4_costAll 19 = .ok (.ifCond .eq 14, 3) := by decide +kernel
theorem dX4_costAll_22 : decode cX4_costAll 22 = .ok (.aload_n 0, 1) := by decide +kernel
theorem dX4_costAll_23 : decode cX4_costAll 23 = .ok (.getfield 33, 3) := by decide +kernel
theorem dX4_costAll_26 : decode cX4_costAll 26 = .ok (.iload_n 2, 1) := by decide +kernel
theorem dX4_costAll_27 : decode cX4_costAll 27 = .ok (.invokevirtual 41, 3) := by decide +kernel
theorem dX4_costAll_30 : decode cX4_costAll 30 = .ok (.goto 5, 3) := by decide +kernel
theorem dX4_costAll_33 : decode cX4_costAll 33 = .ok (.bipush (-4), 2) := by decide +kernel
theorem dX4_costAll_35 : decode cX4_costAll 35 = .ok (.invokevirtual 47, 3) := by decide +kernel
theorem dX4_costAll_38 : decode cX4_costAll 38 = .ok (.iinc 2 1, 3) := by decide +kernel
theorem dX4_costAll_41 : decode cX4_costAll 41 = .ok (.goto (-39), 3) := by decide +kernel
theorem dX4_costAll_44 : decode cX4_costAll 44 = .ok (.return_, 1) := by decide +kernel
theorem dX4_cheapest_0 : decode cX4_cheapest 0 = .ok (.aload_n 0, 1) := by decide +kernel
theorem dX4_cheapest_1 : decode cX4_cheapest 1 = .ok (.aload_n 0, 1) := by decide +kernel
theorem dX4_cheapest_2 : decode cX4_cheapest 2 = .ok (.getfield 33, 3) := by decide +kernel
theorem dX4_cheapest_5 : decode cX4_cheapest 5 = .ok (.invokevirtual 51, 3) := by decide +kernel
theorem dX4_cheapest_8 : decode cX4_cheapest 8 = .ok (.invokevirtual 55, 3) := by decide +kernel
theorem dX4_cheapest_11 : decode cX4_cheapest 11 = .ok (.bipush (-4), 2) := by decide +kernel
theorem dX4_cheapest_13 : decode cX4_cheapest 13 = .ok (.istore_n 1, 1) := by decide +kernel
theorem dX4_cheapest_14 : decode cX4_cheapest 14 = .ok (.iconst 1, 1) := by decide +kernel
theorem dX4_cheapest_15 : decode cX4_cheapest 15 = .ok (.istore_n 2, 1) := by decide +kernel
theorem dX4_cheapest_16 : decode cX4_cheapest 16 = .ok (.iload_n 2, 1) := by decide +kernel
theorem dX4_cheapest_17 : decode cX4_cheapest 17 = .ok (.sipush 512, 3) := by decide +kernel
theorem dX4_cheapest_20 : decode cX4_cheapest 20 = .ok (.if_icmp .ge 39, 3) := by decide +kernel
theorem dX4_cheapest_23 : decode cX4_cheapest 23 = .ok (.aload_n 0, 1) := by decide +kernel
theorem dX4_cheapest_24 : decode cX4_cheapest 24 = .ok (.getfield 14, 3) := by decide +kernel
theorem dX4_cheapest_27 : decode cX4_cheapest 27 = .ok (.iload_n 2, 1) := by decide +kernel
theorem dX4_cheapest_28 : decode cX4_cheapest 28 = .ok (.invokevirtual 58, 3) := by decide +kernel
theorem dX4_cheapest_31 : decode cX4_cheapest 31 = .ok (.bipush (-4), 2) := by decide +kernel
theorem dX4_cheapest_33 : decode cX4_cheapest 33 = .ok (.if_icmp .eq 20, 3) := by decide +kernel
theorem dX4_cheapest_36 : decode cX4_cheapest 36 = .ok (.iload_n 1, 1) := by decide +kernel
theorem dX4_cheapest_37 : decode cX4_cheapest 37 = .ok (.bipush (-4), 2) := by decide +kernel
theorem dX4_cheapest_39 : decode cX4_cheapest 39 = .ok (.if_icmp .eq 12, 3) := by decide +kernel
theorem dX4_cheapest_42 : decode cX4_cheapest 42 = .ok (.aload_n 0, 1) := by decide +kernel
theorem dX4_cheapest_43 : decode cX4_cheapest 43 = .ok (.iload_n 2, 1) := by decide +kernel
theorem dX4_cheapest_44 : decode cX4_cheapest 44 = .ok (.iload_n 1, 1) := by decide +kernel
theorem dX4_cheapest_45 : decode cX4_cheapest 45 = .ok (.invokevirtual 61, 3) := by decide +kernel
theorem dX4_cheapest_48 : decode cX4_cheapest 48 = .ok (.ifCond .eq 5, 3) := by decide +kernel
theorem dX4_cheapest_51 : decode cX4_cheapest 51 = .ok (.iload_n 2, 1) := by decide +kernel
theorem dX4_cheapest_52 : decode cX4_cheapest 52 = .ok (.istore_n 1, 1) := by decide +kernel
theorem dX4_cheapest_53 : decode cX4_cheapest 53 = .ok (.iinc 2 1, 3) := by decide +kernel
theorem dX4_cheapest_56 : decode cX4_cheapest 56 = .ok (.goto (-40), 3) := by decide +kernel
theorem dX4_cheapest_59 : decode cX4_cheapest 59 = .ok (.iload_n 1, 1) := by decide +kernel
theorem dX4_cheapest_60 : decode cX4_cheapest 60 = .ok (.ireturn, 1) := by decide +kernel
theorem dX4_isBetter_0 : decode cX4_isBetter 0 = .ok (.aload_n 0, 1) := by decide +kernel
theorem dX4_isBetter_1 : decode cX4_isBetter 1 = .ok (.getfield 14, 3) := by decide +kernel
theorem dX4_isBetter_4 : decode cX4_isBetter 4 = .ok (.iload_n 1, 1) := by decide +kernel
theorem dX4_isBetter_5 : decode cX4_isBetter 5 = .ok (.invokevirtual 58, 3) := by decide +kernel
theorem dX4_isBetter_8 : decode cX4_isBetter 8 = .ok (.aload_n 0, 1) := by decide +kernel
theorem dX4_isBetter_9 : decode cX4_isBetter 9 = .ok (.getfield 14, 3) := by decide +kernel
theorem dX4_isBetter_12 : decode cX4_isBetter 12 = .ok (.iload_n 2, 1) := by decide +kernel
theorem dX4_isBetter_13 : decode cX4_isBetter 13 = .ok (.invokevirtual 58, 3) := by decide +kernel
theorem dX4_isBetter_16 : decode cX4_isBetter 16 = .ok (.if_icmp .eq 28, 3) := by decide +kernel
theorem dX4_isBetter_19 : decode cX4_isBetter 19 = .ok (.aload_n 0, 1) := by decide +kernel
theorem dX4_isBetter_20 : decode cX4_isBetter 20 = .ok (.getfield 14, 3) := by decide +kernel
theorem dX4_isBetter_23 : decode cX4_isBetter 23 = .ok (.iload_n 1, 1) := by decide +kernel
theorem dX4_isBetter_24 : decode cX4_isBetter 24 = .ok (.invokevirtual 58, 3) := by decide +kernel
theorem dX4_isBetter_27 : decode cX4_isBetter 27 = .ok (.aload_n 0, 1) := by decide +kernel
theorem dX4_isBetter_28 : decode cX4_isBetter 28 = .ok (.getfield 14, 3) := by decide +kernel
theorem dX4_isBetter_31 : decode cX4_isBetter 31 = .ok (.iload_n 2, 1) := by decide +kernel
theorem dX4_isBetter_32 : decode cX4_isBetter 32 = .ok (.invokevirtual 58, 3) := by decide +kernel
theorem dX4_isBetter_35 : decode cX4_isBetter 35 = .ok (.if_icmp .ge 7, 3) := by decide +kernel
theorem dX4_isBetter_38 : decode cX4_isBetter 38 = .ok (.iconst 1, 1) := by decide +kernel
theorem dX4_isBetter_39 : decode cX4_isBetter 39 = .ok (.goto 4, 3) := by decide +kernel
theorem dX4_isBetter_42 : decode cX4_isBetter 42 = .ok (.iconst 0, 1) := by decide +kernel
theorem dX4_isBetter_43 : decode cX4_isBetter 43 = .ok (.ireturn, 1) := by decide +kernel
theorem dX4_isBetter_44 : decode cX4_isBetter 44 = .ok (.iload_n 1, 1) := by decide +kernel
theorem dX4_isBetter_45 : decode cX4_isBetter 45 = .ok (.invokestatic 64, 3) := by decide +kernel
theorem dX4_isBetter_48 : decode cX4_isBetter 48 = .ok (.iload_n 2, 1) := by decide +kernel
theorem dX4_isBetter_49 : decode cX4_isBetter 49 = .ok (.invokestatic 64, 3) := by decide +kernel
theorem dX4_isBetter_52 : decode cX4_isBetter 52 = .ok (.if_icmp .ge 7, 3) := by decide +kernel
theorem dX4_isBetter_55 : decode cX4_isBetter 55 = .ok (.iconst 1, 1) := by decide +kernel
theorem dX4_isBetter_56 : decode cX4_isBetter 56 = .ok (.goto 4, 3) := by decide +kernel
theorem dX4_isBetter_59 : decode cX4_isBetter 59 = .ok (.iconst 0, 1) := by decide +kernel
theorem dX4_isBetter_60 : decode cX4_isBetter 60 = .ok (.ireturn, 1) := by decide +kernel
theorem dX4_shortestWait_0 : decode cX4_shortestWait 0 = .ok (.aload_n 0, 1) := by decide +kernel
theorem dX4_shortestWait_1 : decode cX4_shortestWait 1 = .ok (.aload_n 0, 1) := by decide +kernel
theorem dX4_shortestWait_2 : decode cX4_shortestWait 2 = .ok (.getfield 33, 3) := by decide +kernel
theorem dX4_shortestWait_5 : decode cX4_shortestWait 5 = .ok (.invokevirtual 69, 3) := by decide +kernel
theorem dX4_shortestWait_8 : decode cX4_shortestWait 8 = .ok (.invokevirtual 55, 3) := by decide +kernel
theorem dX4_shortestWait_11 : decode cX4_shortestWait 11 = .ok (.bipush (-4), 2) := by decide +kernel
theorem dX4_shortestWait_13 : decode cX4_shortestWait 13 = .ok (.istore_n 1, 1) := by decide +kernel
theorem dX4_shortestWait_14 : decode cX4_shortestWait 14 = .ok (.iconst 1, 1) := by decide +kernel
theorem dX4_shortestWait_15 : decode cX4_shortestWait 15 = .ok (.istore_n 2, 1) := by decide +kernel
theorem dX4_shortestWait_16 : decode cX4_shortestWait 16 = .ok (.iload_n 2, 1) := by decide +kernel
theorem dX4_shortestWait_17 : decode cX4_shortestWait 17 = .ok (.sipush 512, 3) := by decide +kernel
theorem dX4_shortestWait_20 : decode cX4_shortestWait 20 = .ok (.if_icmp .ge 44, 3) := by decide +kernel
theorem dX4_shortestWait_23 : decode cX4_shortestWait 23 = .ok (.aload_n 0, 1) := by decide +kernel
theorem dX4_shortestWait_24 : decode cX4_shortestWait 24 = .ok (.getfield 14, 3) := by decide +kernel
theorem dX4_shortestWait_27 : decode cX4_shortestWait 27 = .ok (.iload_n 2, 1) := by decide +kernel
theorem dX4_shortestWait_28 : decode cX4_shortestWait 28 = .ok (.invokevirtual 58, 3) := by decide +kernel
theorem dX4_shortestWait_31 : decode cX4_shortestWait 31 = .ok (.bipush (-4), 2) := by decide +kernel
theorem dX4_shortestWait_33 : decode cX4_shortestWait 33 = .ok (.if_icmp .eq 25, 3) := by decide +kernel
theorem dX4_shortestWait_36 : decode cX4_shortestWait 36 = .ok (.aload_n 0, 1) := by decide +kernel
theorem dX4_shortestWait_37 : decode cX4_shortestWait 37 = .ok (.iload_n 2, 1) := by decide +kernel
theorem dX4_shortestWait_38 : decode cX4_shortestWait 38 = .ok (.invokevirtual 72, 3) := by decide +kernel
theorem dX4_shortestWait_41 : decode cX4_shortestWait 41 = .ok (.istore_n 3, 1) := by decide +kernel
theorem dX4_shortestWait_42 : decode cX4_shortestWait 42 = .ok (.iload_n 1, 1) := by decide +kernel
theorem dX4_shortestWait_43 : decode cX4_shortestWait 43 = .ok (.bipush (-4), 2) := by decide +kernel
theorem dX4_shortestWait_45 : decode cX4_shortestWait 45 = .ok (.if_icmp .ne 7, 3) := by decide +kernel
theorem dX4_shortestWait_48 : decode cX4_shortestWait 48 = .ok (.iload_n 3, 1) := by decide +kernel
theorem dX4_shortestWait_49 : decode cX4_shortestWait 49 = .ok (.goto 8, 3) := by decide +kernel
theorem dX4_shortestWait_52 : decode cX4_shortestWait 52 = .ok (.iload_n 1, 1) := by decide +kernel
theorem dX4_shortestWait_53 : decode cX4_shortestWait 53 = .ok (.iload_n 3, 1) := by decide +kernel
theorem dX4_shortestWait_54 : decode cX4_shortestWait 54 = .ok (.invokestatic 75, 3) := by decide +kernel
theorem dX4_shortestWait_57 : decode cX4_shortestWait 57 = .ok (.istore_n 1, 1) := by decide +kernel
theorem dX4_shortestWait_58 : decode cX4_shortestWait 58 = .ok (.iinc 2 1, 3) := by decide +kernel
theorem dX4_shortestWait_61 : decode cX4_shortestWait 61 = .ok (.goto (-45), 3) := by decide +kernel
theorem dX4_shortestWait_64 : decode cX4_shortestWait 64 = .ok (.iload_n 1, 1) := by decide +kernel
theorem dX4_shortestWait_65 : decode cX4_shortestWait 65 = .ok (.ireturn, 1) := by decide +kernel
theorem dX4_waitFor_0 : decode cX4_waitFor 0 = .ok (.iconst 0, 1) := by decide +kernel
theorem dX4_waitFor_1 : decode cX4_waitFor 1 = .ok (.istore_n 2, 1) := by decide +kernel
theorem dX4_waitFor_2 : decode cX4_waitFor 2 = .ok (.iconst 0, 1) := by decide +kernel
theorem dX4_waitFor_3 : decode cX4_waitFor 3 = .ok (.istore_n 3, 1) := by decide +kernel
theorem dX4_waitFor_4 : decode cX4_waitFor 4 = .ok (.iload_n 3, 1) := by decide +kernel
theorem dX4_waitFor_5 : decode cX4_waitFor 5 = .ok (.aload_n 0, 1) := by decide +kernel
theorem dX4_waitFor_6 : decode cX4_waitFor 6 = .ok (.getfield 29, 3) := by decide +kernel
theorem dX4_waitFor_9 : decode cX4_waitFor 9 = .ok (.getfield 81, 3) := by decide +kernel
theorem dX4_waitFor_12 : decode cX4_waitFor 12 = .ok (.if_icmp .ge 41, 3) := by decide +kernel
theorem dX4_waitFor_15 : decode cX4_waitFor 15 = .ok (.iload_n 1, 1) := by decide +kernel
theorem dX4_waitFor_16 : decode cX4_waitFor 16 = .ok (.iload_n 3, 1) := by decide +kernel
theorem dX4_waitFor_17 : decode cX4_waitFor 17 = .ok (.invokestatic 87, 3) := by decide +kernel
theorem dX4_waitFor_20 : decode cX4_waitFor 20 = .ok (.ifCond .eq 27, 3) := by decide +kernel
theorem dX4_waitFor_23 : decode cX4_waitFor 23 = .ok (.iload_n 2, 1) := by decide +kernel
theorem dX4_waitFor_24 : decode cX4_waitFor 24 = .ok (.aload_n 0, 1) := by decide +kernel
theorem dX4_waitFor_25 : decode cX4_waitFor 25 = .ok (.getfield 29, 3) := by decide +kernel
theorem dX4_waitFor_28 : decode cX4_waitFor 28 = .ok (.getfield 90, 3) := by decide +kernel
theorem dX4_waitFor_31 : decode cX4_waitFor 31 = .ok (.iload_n 3, 1) := by decide +kernel
theorem dX4_waitFor_32 : decode cX4_waitFor 32 = .ok (.invokevirtual 58, 3) := by decide +kernel
theorem dX4_waitFor_35 : decode cX4_waitFor 35 = .ok (.aload_n 0, 1) := by decide +kernel
theorem dX4_waitFor_36 : decode cX4_waitFor 36 = .ok (.getfield 33, 3) := by decide +kernel
theorem dX4_waitFor_39 : decode cX4_waitFor 39 = .ok (.getfield 93, 3) := by decide +kernel
theorem dX4_waitFor_42 : decode cX4_waitFor 42 = .ok (.isub, 1) := by decide +kernel
theorem dX4_waitFor_43 : decode cX4_waitFor 43 = .ok (.invokestatic 96, 3) := by decide +kernel
theorem dX4_waitFor_46 : decode cX4_waitFor 46 = .ok (.istore_n 2, 1) := by decide +kernel
theorem dX4_waitFor_47 : decode cX4_waitFor 47 = .ok (.iinc 3 1, 3) := by decide +kernel
theorem dX4_waitFor_50 : decode cX4_waitFor 50 = .ok (.goto (-46), 3) := by decide +kernel
theorem dX4_waitFor_53 : decode cX4_waitFor 53 = .ok (.iload_n 2, 1) := by decide +kernel
theorem dX4_waitFor_54 : decode cX4_waitFor 54 = .ok (.ireturn, 1) := by decide +kernel
theorem dX4_manyWith_0 : decode cX4_manyWith 0 = .ok (.aload_n 0, 1) := by decide +kernel
theorem dX4_manyWith_1 : decode cX4_manyWith 1 = .ok (.aload_n 0, 1) := by decide +kernel
theorem dX4_manyWith_2 : decode cX4_manyWith 2 = .ok (.getfield 33, 3) := by decide +kernel
theorem dX4_manyWith_5 : decode cX4_manyWith 5 = .ok (.invokevirtual 51, 3) := by decide +kernel
theorem dX4_manyWith_8 : decode cX4_manyWith 8 = .ok (.invokevirtual 55, 3) := by decide +kernel
theorem dX4_manyWith_11 : decode cX4_manyWith 11 = .ok (.iconst 0, 1) := by decide +kernel
theorem dX4_manyWith_12 : decode cX4_manyWith 12 = .ok (.istore_n 2, 1) := by decide +kernel
theorem dX4_manyWith_13 : decode cX4_manyWith 13 = .ok (.iconst 1, 1) := by decide +kernel
theorem dX4_manyWith_14 : decode cX4_manyWith 14 = .ok (.istore_n 3, 1) := by decide +kernel
theorem dX4_manyWith_15 : decode cX4_manyWith 15 = .ok (.iload_n 3, 1) := by decide +kernel
theorem dX4_manyWith_16 : decode cX4_manyWith 16 = .ok (.sipush 512, 3) := by decide +kernel
theorem dX4_manyWith_19 : decode cX4_manyWith 19 = .ok (.if_icmp .ge 33, 3) := by decide +kernel
theorem dX4_manyWith_22 : decode cX4_manyWith 22 = .ok (.iload_n 3, 1) := by decide +kernel
theorem dX4_manyWith_23 : decode cX4_manyWith 23 = .ok (.iload_n 1, 1) := by decide +kernel
theorem dX4_manyWith_24 : decode cX4_manyWith 24 = .ok (.invokestatic 87, 3) := by decide +kernel
theorem dX4_manyWith_27 : decode cX4_manyWith 27 = .ok (.ifCond .eq 19, 3) := by decide +kernel
theorem dX4_manyWith_30 : decode cX4_manyWith 30 = .ok (.aload_n 0, 1) := by decide +kernel
theorem dX4_manyWith_31 : decode cX4_manyWith 31 = .ok (.getfield 14, 3) := by decide +kernel
theorem dX4_manyWith_34 : decode cX4_manyWith 34 = .ok (.iload_n 3, 1) := by decide +kernel
theorem dX4_manyWith_35 : decode cX4_manyWith 35 = .ok (.invokevirtual 58, 3) := by decide +kernel
theorem dX4_manyWith_38 : decode cX4_manyWith 38 = .ok (.bipush (-4), 2) := by decide +kernel
theorem dX4_manyWith_40 : decode cX4_manyWith 40 = .ok (.if_icmp .eq 6, 3) := by decide +kernel
theorem dX4_manyWith_43 : decode cX4_manyWith 43 = .ok (.iinc 2 1, 3) := by decide +kernel
theorem dX4_manyWith_46 : decode cX4_manyWith 46 = .ok (.iinc 3 1, 3) := by decide +kernel
theorem dX4_manyWith_49 : decode cX4_manyWith 49 = .ok (.goto (-34), 3) := by decide +kernel
theorem dX4_manyWith_52 : decode cX4_manyWith 52 = .ok (.iload_n 2, 1) := by decide +kernel
theorem dX4_manyWith_53 : decode cX4_manyWith 53 = .ok (.ireturn, 1) := by decide +kernel
theorem dX4_inNone_0 : decode cX4_inNone 0 = .ok (.aload_n 0, 1) := by decide +kernel
theorem dX4_inNone_1 : decode cX4_inNone 1 = .ok (.getfield 33, 3) := by decide +kernel
theorem dX4_inNone_4 : decode cX4_inNone 4 = .ok (.invokevirtual 51, 3) := by decide +kernel
theorem dX4_inNone_7 : decode cX4_inNone 7 = .ok (.istore_n 1, 1) := by decide +kernel
theorem dX4_inNone_8 : decode cX4_inNone 8 = .ok (.aload_n 0, 1) := by decide +kernel
theorem dX4_inNone_9 : decode cX4_inNone 9 = .ok (.iload_n 1, 1) := by decide +kernel
theorem dX4_inNone_10 : decode cX4_inNone 10 = .ok (.invokevirtual 55, 3) := by decide +kernel
theorem dX4_inNone_13 : decode cX4_inNone 13 = .ok (.iconst 1, 1) := by decide +kernel
theorem dX4_inNone_14 : decode cX4_inNone 14 = .ok (.istore_n 2, 1) := by decide +kernel
theorem dX4_inNone_15 : decode cX4_inNone 15 = .ok (.iload_n 2, 1) := by decide +kernel
theorem dX4_inNone_16 : decode cX4_inNone 16 = .ok (.sipush 512, 3) := by decide +kernel
theorem dX4_inNone_19 : decode cX4_inNone 19 = .ok (.if_icmp .ge 28, 3) := by decide +kernel
theorem dX4_inNone_22 : decode cX4_inNone 22 = .ok (.aload_n 0, 1) := by decide +kernel
theorem dX4_inNone_23 : decode cX4_inNone 23 = .ok (.getfield 14, 3) := by decide +kernel
theorem dX4_inNone_26 : decode cX4_inNone 26 = .ok (.iload_n 2, 1) := by decide +kernel
theorem dX4_inNone_27 : decode cX4_inNone 27 = .ok (.invokevirtual 58, 3) := by decide +kernel
theorem dX4_inNone_30 : decode cX4_inNone 30 = .ok (.bipush (-4), 2) := by decide +kernel
theorem dX4_inNone_32 : decode cX4_inNone 32 = .ok (.if_icmp .eq 9, 3) := by decide +kernel
theorem dX4_inNone_35 : decode cX4_inNone 35 = .ok (.iload_n 1, 1) := by decide +kernel
theorem dX4_inNone_36 : decode cX4_inNone 36 = .ok (.iload_n 2, 1) := by decide +kernel
theorem dX4_inNone_37 : decode cX4_inNone 37 = .ok (.iconst (-1), 1) := by decide +kernel
theorem dX4_inNone_38 : decode cX4_inNone 38 = .ok (.ixor, 1) := by decide +kernel
theorem dX4_inNone_39 : decode cX4_inNone 39 = .ok (.iand, 1) := by decide +kernel
theorem dX4_inNone_40 : decode cX4_inNone 40 = .ok (.istore_n 1, 1) := by decide +kernel
theorem dX4_inNone_41 : decode cX4_inNone 41 = .ok (.iinc 2 1, 3) := by decide +kernel
theorem dX4_inNone_44 : decode cX4_inNone 44 = .ok (.goto (-29), 3) := by decide +kernel
theorem dX4_inNone_47 : decode cX4_inNone 47 = .ok (.iload_n 1, 1) := by decide +kernel
theorem dX4_inNone_48 : decode cX4_inNone 48 = .ok (.ireturn, 1) := by decide +kernel
theorem dX4_pack_0 : decode cX4_pack 0 = .ok (.aload_n 0, 1) := by decide +kernel
theorem dX4_pack_1 : decode cX4_pack 1 = .ok (.getfield 33, 3) := by decide +kernel
theorem dX4_pack_4 : decode cX4_pack 4 = .ok (.invokevirtual 69, 3) := by decide +kernel
theorem dX4_pack_7 : decode cX4_pack 7 = .ok (.istore_n 1, 1) := by decide +kernel
theorem dX4_pack_8 : decode cX4_pack 8 = .ok (.aload_n 0, 1) := by decide +kernel
theorem dX4_pack_9 : decode cX4_pack 9 = .ok (.iload_n 1, 1) := by decide +kernel
theorem dX4_pack_10 : decode cX4_pack 10 = .ok (.invokevirtual 55, 3) := by decide +kernel
theorem dX4_pack_13 : decode cX4_pack 13 = .ok (.aload_n 0, 1) := by decide +kernel
theorem dX4_pack_14 : decode cX4_pack 14 = .ok (.iconst 0, 1) := by decide +kernel
theorem dX4_pack_15 : decode cX4_pack 15 = .ok (.putfield 99, 3) := by decide +kernel
theorem dX4_pack_18 : decode cX4_pack 18 = .ok (.aload_n 0, 1) := by decide +kernel
theorem dX4_pack_19 : decode cX4_pack 19 = .ok (.iconst 0, 1) := by decide +kernel
theorem dX4_pack_20 : decode cX4_pack 20 = .ok (.putfield 102, 3) := by decide +kernel
theorem dX4_pack_23 : decode cX4_pack 23 = .ok (.aload_n 0, 1) := by decide +kernel
theorem dX4_pack_24 : decode cX4_pack 24 = .ok (.iload_n 1, 1) := by decide +kernel
theorem dX4_pack_25 : decode cX4_pack 25 = .ok (.putfield 105, 3) := by decide +kernel
theorem dX4_pack_28 : decode cX4_pack 28 = .ok (.aload_n 0, 1) := by decide +kernel
theorem dX4_pack_29 : decode cX4_pack 29 = .ok (.getfield 20, 3) := by decide +kernel
theorem dX4_pack_32 : decode cX4_pack 32 = .ok (.iconst 0, 1) := by decide +kernel
theorem dX4_pack_33 : decode cX4_pack 33 = .ok (.iconst 0, 1) := by decide +kernel
theorem dX4_pack_34 : decode cX4_pack 34 = .ok (.invokevirtual 47, 3) := by decide +kernel
theorem dX4_pack_37 : decode cX4_pack 37 = .ok (.aload_n 0, 1) := by decide +kernel
theorem dX4_pack_38 : decode cX4_pack 38 = .ok (.getfield 23, 3) := by decide +kernel
theorem dX4_pack_41 : decode cX4_pack 41 = .ok (.iconst 0, 1) := by decide +kernel
theorem dX4_pack_42 : decode cX4_pack 42 = .ok (.iconst 0, 1) := by decide +kernel
theorem dX4_pack_43 : decode cX4_pack 43 = .ok (.invokevirtual 47, 3) := by decide +kernel
theorem dX4_pack_46 : decode cX4_pack 46 = .ok (.iconst 1, 1) := by decide +kernel
theorem dX4_pack_47 : decode cX4_pack 47 = .ok (.istore_n 2, 1) := by decide +kernel
theorem dX4_pack_48 : decode cX4_pack 48 = .ok (.iload_n 2, 1) := by decide +kernel
theorem dX4_pack_49 : decode cX4_pack 49 = .ok (.sipush 512, 3) := by decide +kernel
theorem dX4_pack_52 : decode cX4_pack 52 = .ok (.if_icmp .ge 37, 3) := by decide +kernel
theorem dX4_pack_55 : decode cX4_pack 55 = .ok (.aload_n 0, 1) := by decide +kernel
theorem dX4_pack_56 : decode cX4_pack 56 = .ok (.iload_n 2, 1) := by decide +kernel
theorem dX4_pack_57 : decode cX4_pack 57 = .ok (.invokevirtual 108, 3) := by decide +kernel
theorem dX4_pack_60 : decode cX4_pack 60 = .ok (.aload_n 0, 1) := by decide +kernel
theorem dX4_pack_61 : decode cX4_pack 61 = .ok (.getfield 20, 3) := by decide +kernel
theorem dX4_pack_64 : decode cX4_pack 64 = .ok (.iload_n 2, 1) := by decide +kernel
theorem dX4_pack_65 : decode cX4_pack 65 = .ok (.invokevirtual 58, 3) := by decide +kernel
theorem dX4_pack_68 : decode cX4_pack 68 = .ok (.bipush (-4), 2) := by decide +kernel
theorem dX4_pack_70 : decode cX4_pack 70 = .ok (.if_icmp .eq 13, 3) := by decide +kernel
theorem dX4_pack_73 : decode cX4_pack 73 = .ok (.aload_n 0, 1) := by decide +kernel
theorem dX4_pack_74 : decode cX4_pack 74 = .ok (.iload_n 2, 1) := by decide +kernel
theorem dX4_pack_75 : decode cX4_pack 75 = .ok (.iload_n 1, 1) := by decide +kernel
theorem dX4_pack_76 : decode cX4_pack 76 = .ok (.iload_n 2, 1) := by decide +kernel
theorem dX4_pack_77 : decode cX4_pack 77 = .ok (.iconst (-1), 1) := by decide +kernel
theorem dX4_pack_78 : decode cX4_pack 78 = .ok (.ixor, 1) := by decide +kernel
theorem dX4_pack_79 : decode cX4_pack 79 = .ok (.iand, 1) := by decide +kernel
theorem dX4_pack_80 : decode cX4_pack 80 = .ok (.invokevirtual 111, 3) := by decide +kernel
theorem dX4_pack_83 : decode cX4_pack 83 = .ok (.iinc 2 1, 3) := by decide +kernel
theorem dX4_pack_86 : decode cX4_pack 86 = .ok (.goto (-38), 3) := by decide +kernel
theorem dX4_pack_89 : decode cX4_pack 89 = .ok (.return_, 1) := by decide +kernel
theorem dX4_packExactly_0 : decode cX4_packExactly 0 = .ok (.iload_n 1, 1) := by decide +kernel
theorem dX4_packExactly_1 : decode cX4_packExactly 1 = .ok (.iload_n 1, 1) := by decide +kernel
theorem dX4_packExactly_2 : decode cX4_packExactly 2 = .ok (.ineg, 1) := by decide +kernel
theorem dX4_packExactly_3 : decode cX4_packExactly 3 = .ok (.iand, 1) := by decide +kernel
theorem dX4_packExactly_4 : decode cX4_packExactly 4 = .ok (.istore_n 2, 1) := by decide +kernel
theorem dX4_packExactly_5 : decode cX4_packExactly 5 = .ok (.aload_n 0, 1) := by decide +kernel
theorem dX4_packExactly_6 : decode cX4_packExactly 6 = .ok (.getfield 20, 3) := by decide +kernel
theorem dX4_packExactly_9 : decode cX4_packExactly 9 = .ok (.iload_n 1, 1) := by decide +kernel
theorem dX4_packExactly_10 : decode cX4_packExactly 10 = .ok (.bipush (-4), 2) := by decide +kernel
theorem dX4_packExactly_12 : decode cX4_packExactly 12 = .ok (.invokevirtual 47, 3) := by decide +kernel
theorem dX4_packExactly_15 : decode cX4_packExactly 15 = .ok (.aload_n 0, 1) := by decide +kernel
theorem dX4_packExactly_16 : decode cX4_packExactly 16 = .ok (.getfield 23, 3) := by decide +kernel
theorem dX4_packExactly_19 : decode cX4_packExactly 19 = .ok (.iload_n 1, 1) := by decide +kernel
theorem dX4_packExactly_20 : decode cX4_packExactly 20 = .ok (.iconst 0, 1) := by decide +kernel
theorem dX4_packExactly_21 : decode cX4_packExactly 21 = .ok (.invokevirtual 47, 3) := by decide +kernel
theorem dX4_packExactly_24 : decode cX4_packExactly 24 = .ok (.iload_n 1, 1) := by decide +kernel
theorem dX4_packExactly_25 : decode cX4_packExactly 25 = .ok (.istore_n 3, 1) := by decide +kernel
theorem dX4_packExactly_26 : decode cX4_packExactly 26 = .ok (.iconst 0, 1) := by decide +kernel
theorem dX4_packExactly_27 : decode cX4_packExactly 27 = .ok (.istore 4, 2) := by decide +kernel
theorem dX4_packExactly_29 : decode cX4_packExactly 29 = .ok (.iload 4, 2) := by decide +kernel
theorem dX4_packExactly_31 : decode cX4_packExactly 31 = .ok (.sipush 512, 3) := by decide +kernel
theorem dX4_packExactly_34 : decode cX4_packExactly 34 = .ok (.if_icmp .ge 151, 3) := by decide +kernel
theorem dX4_packExactly_37 : decode cX4_packExactly 37 = .ok (.iload_n 3, 1) := by decide +kernel
theorem dX4_packExactly_38 : decode cX4_packExactly 38 = .ok (.ifCond .le 147, 3) := by decide +kernel
theorem dX4_packExactly_41 : decode cX4_packExactly 41 = .ok (.iload_n 1, 1) := by decide +kernel
theorem dX4_packExactly_42 : decode cX4_packExactly 42 = .ok (.iload_n 3, 1) := by decide +kernel
theorem dX4_packExactly_43 : decode cX4_packExactly 43 = .ok (.iconst (-1), 1) := by decide +kernel
theorem dX4_packExactly_44 : decode cX4_packExactly 44 = .ok (.ixor, 1) := by decide +kernel
theorem dX4_packExactly_45 : decode cX4_packExactly 45 = .ok (.iand, 1) := by decide +kernel
theorem dX4_packExactly_46 : decode cX4_packExactly 46 = .ok (.istore 5, 2) := by decide +kernel
theorem dX4_packExactly_48 : decode cX4_packExactly 48 = .ok (.iload_n 3, 1) := by decide +kernel
theorem dX4_packExactly_49 : decode cX4_packExactly 49 = .ok (.iload_n 2, 1) := by decide +kernel
theorem dX4_packExactly_50 : decode cX4_packExactly 50 = .ok (.iand, 1) := by decide +kernel
theorem dX4_packExactly_51 : decode cX4_packExactly 51 = .ok (.ifCond .eq 122, 3) := by decide +kernel
theorem dX4_packExactly_54 : decode cX4_packExactly 54 = .ok (.aload_n 0, 1) := by decide +kernel
theorem dX4_packExactly_55 : decode cX4_packExactly 55 = .ok (.getfield 14, 3) := by decide +kernel
theorem dX4_packExactly_58 : decode cX4_packExactly 58 = .ok (.iload_n 3, 1) := by decide +kernel
theorem dX4_packExactly_59 : decode cX4_packExactly 59 = .ok (.invokevirtual 58, 3) := by decide +kernel
theorem dX4_packExactly_62 : decode cX4_packExactly 62 = .ok (.bipush (-4), 2) := by decide +kernel
theorem dX4_packExactly_64 : decode cX4_packExactly 64 = .ok (.if_icmp .eq 109, 3) := by decide +kernel
theorem dX4_packExactly_67 : decode cX4_packExactly 67 = .ok (.aload_n 0, 1) := by decide +kernel
theorem dX4_packExactly_68 : decode cX4_packExactly 68 = .ok (.getfield 20, 3) := by decide +kernel
theorem dX4_packExactly_71 : decode cX4_packExactly 71 = .ok (.iload 5, 2) := by decide +kernel
theorem dX4_packExactly_73 : decode cX4_packExactly 73 = .ok (.invokevirtual 58, 3) := by decide +kernel
theorem dX4_packExactly_76 : decode cX4_packExactly 76 = .ok (.bipush (-4), 2) := by decide +kernel
theorem dX4_packExactly_78 : decode cX4_packExactly 78 = .ok (.if_icmp .eq 95, 3) := by decide +kernel
theorem dX4_packExactly_81 : decode cX4_packExactly 81 = .ok (.aload_n 0, 1) := by decide +kernel
theorem dX4_packExactly_82 : decode cX4_packExactly 82 = .ok (.getfield 20, 3) := by decide +kernel
theorem dX4_packExactly_85 : decode cX4_packExactly 85 = .ok (.iload 5, 2) := by decide +kernel
theorem dX4_packExactly_87 : decode cX4_packExactly 87 = .ok (.invokevirtual 58, 3) := by decide +kernel
theorem dX4_packExactly_90 : decode cX4_packExactly 90 = .ok (.iconst 1, 1) := by decide +kernel
theorem dX4_packExactly_91 : decode cX4_packExactly 91 = .ok (.iadd, 1) := by decide +kernel
theorem dX4_packExactly_92 : decode cX4_packExactly 92 = .ok (.istore 6, 2) := by decide +kernel
theorem dX4_packExactly_94 : decode cX4_packExactly 94 = .ok (.aload_n 0, 1) := by decide +kernel
theorem dX4_packExactly_95 : decode cX4_packExactly 95 = .ok (.getfield 23, 3) := by decide +kernel
theorem dX4_packExactly_98 : decode cX4_packExactly 98 = .ok (.iload 5, 2) := by decide +kernel
theorem dX4_packExactly_100 : decode cX4_packExactly 100 = .ok (.invokevirtual 58, 3) := by decide +kernel
theorem dX4_packExactly_103 : decode cX4_packExactly 103 = .ok (.aload_n 0, 1) := by decide +kernel
theorem dX4_packExactly_104 : decode cX4_packExactly 104 = .ok (.getfield 14, 3) := by decide +kernel
theorem dX4_packExactly_107 : decode cX4_packExactly 107 = .ok (.iload_n 3, 1) := by decide +kernel
theorem dX4_packExactly_108 : decode cX4_packExactly 108 = .ok (.invokevirtual 58, 3) := by decide +kernel
theorem dX4_packExactly_111 : decode cX4_packExactly 111 = .ok (.iadd, 1) := by decide +kernel
theorem dX4_packExactly_112 : decode cX4_packExactly 112 = .ok (.istore 7, 2) := by decide +kernel
theorem dX4_packExactly_114 : decode cX4_packExactly 114 = .ok (.iload 6, 2) := by decide +kernel
theorem dX4_packExactly_116 : decode cX4_packExactly 116 = .ok (.aload_n 0, 1) := by decide +kernel
theorem dX4_packExactly_117 : decode cX4_packExactly 117 = .ok (.getfield 20, 3) := by decide +kernel
theorem dX4_packExactly_120 : decode cX4_packExactly 120 = .ok (.iload_n 1, 1) := by decide +kernel
theorem dX4_packExactly_121 : decode cX4_packExactly 121 = .ok (.invokevirtual 58, 3) := by decide +kernel
theorem dX4_packExactly_124 : decode cX4_packExactly 124 = .ok (.if_icmp .gt 29, 3) := by decide +kernel
theorem dX4_packExactly_127 : decode cX4_packExactly 127 = .ok (.iload 6, 2) := by decide +kernel
theorem dX4_packExactly_129 : decode cX4_packExactly 129 = .ok (.aload_n 0, 1) := by decide +kernel
theorem dX4_packExactly_130 : decode cX4_packExactly 130 = .ok (.getfield 20, 3) := by decide +kernel
theorem dX4_packExactly_133 : decode cX4_packExactly 133 = .ok (.iload_n 1, 1) := by decide +kernel
theorem dX4_packExactly_134 : decode cX4_packExactly 134 = .ok (.invokevirtual 58, 3) := by decide +kernel
theorem dX4_packExactly_137 : decode cX4_packExactly 137 = .ok (.if_icmp .ne 36, 3) := by decide +kernel
theorem dX4_packExactly_140 : decode cX4_packExactly 140 = .ok (.iload 7, 2) := by decide +kernel
theorem dX4_packExactly_142 : decode cX4_packExactly 142 = .ok (.aload_n 0, 1) := by decide +kernel
theorem dX4_packExactly_143 : decode cX4_packExactly 143 = .ok (.getfield 23, 3) := by decide +kernel
theorem dX4_packExactly_146 : decode cX4_packExactly 146 = .ok (.iload_n 1, 1) := by decide +kernel
theorem dX4_packExactly_147 : decode cX4_packExactly 147 = .ok (.invokevirtual 58, 3) := by decide +kernel
theorem dX4_packExactly_150 : decode cX4_packExactly 150 = .ok (.if_icmp .ge 23, 3) := by decide +kernel
theorem dX4_packExactly_153 : decode cX4_packExactly 153 = .ok (.aload_n 0, 1) := by decide +kernel
theorem dX4_packExactly_154 : decode cX4_packExactly 154 = .ok (.getfield 20, 3) := by decide +kernel
theorem dX4_packExactly_157 : decode cX4_packExactly 157 = .ok (.iload_n 1, 1) := by decide +kernel
theorem dX4_packExactly_158 : decode cX4_packExactly 158 = .ok (.iload 6, 2) := by decide +kernel
theorem dX4_packExactly_160 : decode cX4_packExactly 160 = .ok (.invokevirtual 47, 3) := by decide +kernel
theorem dX4_packExactly_163 : decode cX4_packExactly 163 = .ok (.aload_n 0, 1) := by decide +kernel
theorem dX4_packExactly_164 : decode cX4_packExactly 164 = .ok (.getfield 23, 3) := by decide +kernel
theorem dX4_packExactly_167 : decode cX4_packExactly 167 = .ok (.iload_n 1, 1) := by decide +kernel
theorem dX4_packExactly_168 : decode cX4_packExactly 168 = .ok (.iload 7, 2) := by decide +kernel
theorem dX4_packExactly_170 : decode cX4_packExactly 170 = .ok (.invokevirtual 47, 3) := by decide +kernel
theorem dX4_packExactly_173 : decode cX4_packExactly 173 = .ok (.iload_n 3, 1) := by decide +kernel
theorem dX4_packExactly_174 : decode cX4_packExactly 174 = .ok (.iconst 1, 1) := by decide +kernel
theorem dX4_packExactly_175 : decode cX4_packExactly 175 = .ok (.isub, 1) := by decide +kernel
theorem dX4_packExactly_176 : decode cX4_packExactly 176 = .ok (.iload_n 1, 1) := by decide +kernel
theorem dX4_packExactly_177 : decode cX4_packExactly 177 = .ok (.iand, 1) := by decide +kernel
theorem dX4_packExactly_178 : decode cX4_packExactly 178 = .ok (.istore_n 3, 1) := by decide +kernel
theorem dX4_packExactly_179 : decode cX4_packExactly 179 = .ok (.iinc 4 1, 3) := by decide +kernel
theorem dX4_packExactly_182 : decode cX4_packExactly 182 = .ok (.goto (-153), 3) := by decide +kernel
theorem dX4_packExactly_185 : decode cX4_packExactly 185 = .ok (.return_, 1) := by decide +kernel
theorem dX4_compareWay_0 : decode cX4_compareWay 0 = .ok (.aload_n 0, 1) := by decide +kernel
theorem dX4_compareWay_1 : decode cX4_compareWay 1 = .ok (.getfield 20, 3) := by decide +kernel
theorem dX4_compareWay_4 : decode cX4_compareWay 4 = .ok (.iload_n 1, 1) := by decide +kernel
theorem dX4_compareWay_5 : decode cX4_compareWay 5 = .ok (.invokevirtual 58, 3) := by decide +kernel
theorem dX4_compareWay_8 : decode cX4_compareWay 8 = .ok (.istore_n 3, 1) := by decide +kernel
theorem dX4_compareWay_9 : decode cX4_compareWay 9 = .ok (.aload_n 0, 1) := by decide +kernel
theorem dX4_compareWay_10 : decode cX4_compareWay 10 = .ok (.getfield 23, 3) := by decide +kernel
theorem dX4_compareWay_13 : decode cX4_compareWay 13 = .ok (.iload_n 1, 1) := by decide +kernel
theorem dX4_compareWay_14 : decode cX4_compareWay 14 = .ok (.invokevirtual 58, 3) := by decide +kernel
theorem dX4_compareWay_17 : decode cX4_compareWay 17 = .ok (.istore 4, 2) := by decide +kernel
theorem dX4_compareWay_19 : decode cX4_compareWay 19 = .ok (.iload_n 3, 1) := by decide +kernel
theorem dX4_compareWay_20 : decode cX4_compareWay 20 = .ok (.aload_n 0, 1) := by decide +kernel
theorem dX4_compareWay_21 : decode cX4_compareWay 21 = .ok (.getfield 99, 3) := by decide +kernel
theorem dX4_compareWay_24 : decode cX4_compareWay 24 = .ok (.if_icmp .eq 19, 3) := by decide +kernel
theorem dX4_compareWay_27 : decode cX4_compareWay 27 = .ok (.iload_n 3, 1) := by decide +kernel
theorem dX4_compareWay_28 : decode cX4_compareWay 28 = .ok (.aload_n 0, 1) := by decide +kernel
theorem dX4_compareWay_29 : decode cX4_compareWay 29 = .ok (.getfield 99, 3) := by decide +kernel
theorem dX4_compareWay_32 : decode cX4_compareWay 32 = .ok (.if_icmp .le 7, 3) := by decide +kernel
theorem dX4_compareWay_35 : decode cX4_compareWay 35 = .ok (.iconst 1, 1) := by decide +kernel
theorem dX4_compareWay_36 : decode cX4_compareWay 36 = .ok (.goto 46, 3) := by decide +kernel
theorem dX4_compareWay_39 : decode cX4_compareWay 39 = .ok (.iconst 0, 1) := by decide +kernel
theorem dX4_compareWay_40 : decode cX4_compareWay 40 = .ok (.goto 42, 3) := by decide +kernel
theorem dX4_compareWay_43 : decode cX4_compareWay 43 = .ok (.iload 4, 2) := by decide +kernel
theorem dX4_compareWay_45 : decode cX4_compareWay 45 = .ok (.aload_n 0, 1) := by decide +kernel
theorem dX4_compareWay_46 : decode cX4_compareWay 46 = .ok (.getfield 102, 3) := by decide +kernel
theorem dX4_compareWay_49 : decode cX4_compareWay 49 = .ok (.if_icmp .eq 20, 3) := by decide +kernel
theorem dX4_compareWay_52 : decode cX4_compareWay 52 = .ok (.iload 4, 2) := by decide +kernel
theorem dX4_compareWay_54 : decode cX4_compareWay 54 = .ok (.aload_n 0, 1) := by decide +kernel
theorem dX4_compareWay_55 : decode cX4_compareWay 55 = .ok (.getfield 102, 3) := by decide +kernel
theorem dX4_compareWay_58 : decode cX4_compareWay 58 = .ok (.if_icmp .ge 7, 3) := by decide +kernel
theorem dX4_compareWay_61 : decode cX4_compareWay 61 = .ok (.iconst 1, 1) := by decide +kernel
theorem dX4_compareWay_62 : decode cX4_compareWay 62 = .ok (.goto 20, 3) := by decide +kernel
theorem dX4_compareWay_65 : decode cX4_compareWay 65 = .ok (.iconst 0, 1) := by decide +kernel
theorem dX4_compareWay_66 : decode cX4_compareWay 66 = .ok (.goto 16, 3) := by decide +kernel
theorem dX4_compareWay_69 : decode cX4_compareWay 69 = .ok (.iload_n 2, 1) := by decide +kernel
theorem dX4_compareWay_70 : decode cX4_compareWay 70 = .ok (.aload_n 0, 1) := by decide +kernel
theorem dX4_compareWay_71 : decode cX4_compareWay 71 = .ok (.getfield 105, 3) := by decide +kernel
theorem dX4_compareWay_74 : decode cX4_compareWay 74 = .ok (.if_icmp .ge 7, 3) := by decide +kernel
theorem dX4_compareWay_77 : decode cX4_compareWay 77 = .ok (.iconst 1, 1) := by decide +kernel
theorem dX4_compareWay_78 : decode cX4_compareWay 78 = .ok (.goto 4, 3) := by decide +kernel
theorem dX4_compareWay_81 : decode cX4_compareWay 81 = .ok (.iconst 0, 1) := by decide +kernel
theorem dX4_compareWay_82 : decode cX4_compareWay 82 = .ok (.istore 5, 2) := by decide +kernel
theorem dX4_compareWay_84 : decode cX4_compareWay 84 = .ok (.iload 5, 2) := by decide +kernel
theorem dX4_compareWay_86 : decode cX4_compareWay 86 = .ok (.ifCond .eq 19, 3) := by decide +kernel
theorem dX4_compareWay_89 : decode cX4_compareWay 89 = .ok (.aload_n 0, 1) := by decide +kernel
theorem dX4_compareWay_90 : decode cX4_compareWay 90 = .ok (.iload_n 3, 1) := by decide +kernel
theorem dX4_compareWay_91 : decode cX4_compareWay 91 = .ok (.putfield 99, 3) := by decide +kernel
theorem dX4_compareWay_94 : decode cX4_compareWay 94 = .ok (.aload_n 0, 1) := by decide +kernel
theorem dX4_compareWay_95 : decode cX4_compareWay 95 = .ok (.iload 4, 2) := by decide +kernel
theorem dX4_compareWay_97 : decode cX4_compareWay 97 = .ok (.putfield 102, 3) := by decide +kernel
theorem dX4_compareWay_100 : decode cX4_compareWay 100 = .ok (.aload_n 0, 1) := by decide +kernel
theorem dX4_compareWay_101 : decode cX4_compareWay 101 = .ok (.iload_n 2, 1) := by decide +kernel
theorem dX4_compareWay_102 : decode cX4_compareWay 102 = .ok (.putfield 105, 3) := by decide +kernel
theorem dX4_compareWay_105 : decode cX4_compareWay 105 = .ok (.return_, 1) := by decide +kernel
theorem dX4_unlikeTotals_0 : decode cX4_unlikeTotals 0 = .ok (.aload_n 0, 1) := by decide +kernel
theorem dX4_unlikeTotals_1 : decode cX4_unlikeTotals 1 = .ok (.getfield 33, 3) := by decide +kernel
theorem dX4_unlikeTotals_4 : decode cX4_unlikeTotals 4 = .ok (.invokevirtual 51, 3) := by decide +kernel
theorem dX4_unlikeTotals_7 : decode cX4_unlikeTotals 7 = .ok (.istore_n 1, 1) := by decide +kernel
theorem dX4_unlikeTotals_8 : decode cX4_unlikeTotals 8 = .ok (.iconst 0, 1) := by decide +kernel
theorem dX4_unlikeTotals_9 : decode cX4_unlikeTotals 9 = .ok (.istore_n 2, 1) := by decide +kernel
theorem dX4_unlikeTotals_10 : decode cX4_unlikeTotals 10 = .ok (.aload_n 0, 1) := by decide +kernel
theorem dX4_unlikeTotals_11 : decode cX4_unlikeTotals 11 = .ok (.getfield 26, 3) := by decide +kernel
theorem dX4_unlikeTotals_14 : decode cX4_unlikeTotals 14 = .ok (.iconst 0, 1) := by decide +kernel
theorem dX4_unlikeTotals_15 : decode cX4_unlikeTotals 15 = .ok (.invokevirtual 114, 3) := by decide +kernel
theorem dX4_unlikeTotals_18 : decode cX4_unlikeTotals 18 = .ok (.iconst 1, 1) := by decide +kernel
theorem dX4_unlikeTotals_19 : decode cX4_unlikeTotals 19 = .ok (.istore_n 3, 1) := by decide +kernel
theorem dX4_unlikeTotals_20 : decode cX4_unlikeTotals 20 = .ok (.iload_n 3, 1) := by decide +kernel
theorem dX4_unlikeTotals_21 : decode cX4_unlikeTotals 21 = .ok (.sipush 512, 3) := by decide +kernel
theorem dX4_unlikeTotals_24 : decode cX4_unlikeTotals 24 = .ok (.if_icmp .ge 51, 3) := by decide +kernel
theorem dX4_unlikeTotals_27 : decode cX4_unlikeTotals 27 = .ok (.iload_n 3, 1) := by decide +kernel
theorem dX4_unlikeTotals_28 : decode cX4_unlikeTotals 28 = .ok (.iload_n 1, 1) := by decide +kernel
theorem dX4_unlikeTotals_29 : decode cX4_unlikeTotals 29 = .ok (.invokestatic 37, 3) := by decide +kernel
theorem dX4_unlikeTotals_32 : decode cX4_unlikeTotals 32 = .ok (.ifCond .eq 37, 3) := by decide +kernel
theorem dX4_unlikeTotals_35 : decode cX4_unlikeTotals 35 = .ok (.aload_n 0, 1) := by decide +kernel
theorem dX4_unlikeTotals_36 : decode cX4_unlikeTotals 36 = .ok (.getfield 33, 3) := by decide +kernel
theorem dX4_unlikeTotals_39 : decode cX4_unlikeTotals 39 = .ok (.iload_n 3, 1) := by decide +kernel
theorem dX4_unlikeTotals_40 : decode cX4_unlikeTotals 40 = .ok (.invokevirtual 117, 3) := by decide +kernel
theorem dX4_unlikeTotals_43 : decode cX4_unlikeTotals 43 = .ok (.istore 4, 2) := by decide +kernel
theorem dX4_unlikeTotals_45 : decode cX4_unlikeTotals 45 = .ok (.iload_n 2, 1) := by decide +kernel
theorem dX4_unlikeTotals_46 : decode cX4_unlikeTotals 46 = .ok (.iconst 1, 1) := by decide +kernel
theorem dX4_unlikeTotals_47 : decode cX4_unlikeTotals 47 = .ok (.aload_n 0, 1) := by decide +kernel
theorem dX4_unlikeTotals_48 : decode cX4_unlikeTotals 48 = .ok (.getfield 26, 3) := by decide +kernel
theorem dX4_unlikeTotals_51 : decode cX4_unlikeTotals 51 = .ok (.iload 4, 2) := by decide +kernel
theorem dX4_unlikeTotals_53 : decode cX4_unlikeTotals 53 = .ok (.invokevirtual 58, 3) := by decide +kernel
theorem dX4_unlikeTotals_56 : decode cX4_unlikeTotals 56 = .ok (.isub, 1) := by decide +kernel
theorem dX4_unlikeTotals_57 : decode cX4_unlikeTotals 57 = .ok (.iadd, 1) := by decide +kernel
theorem dX4_unlikeTotals_58 : decode cX4_unlikeTotals 58 = .ok (.istore_n 2, 1) := by decide +kernel
theorem dX4_unlikeTotals_59 : decode cX4_unlikeTotals 59 = .ok (.aload_n 0, 1) := by decide +kernel
theorem dX4_unlikeTotals_60 : decode cX4_unlikeTotals 60 = .ok (.getfield 26, 3) := by decide +kernel
theorem dX4_unlikeTotals_63 : decode cX4_unlikeTotals 63 = .ok (.iload 4, 2) := by decide +kernel
theorem dX4_unlikeTotals_65 : decode cX4_unlikeTotals 65 = .ok (.iconst 1, 1) := by decide +kernel
theorem dX4_unlikeTotals_66 : decode cX4_unlikeTotals 66 = .ok (.invokevirtual 47, 3) := by decide +kernel
theorem dX4_unlikeTotals_69 : decode cX4_unlikeTotals 69 = .ok (.iinc 3 1, 3) := by decide +kernel
theorem dX4_unlikeTotals_72 : decode cX4_unlikeTotals 72 = .ok (.goto (-52), 3) := by decide +kernel
theorem dX4_unlikeTotals_75 : decode cX4_unlikeTotals 75 = .ok (.iload_n 2, 1) := by decide +kernel
theorem dX4_unlikeTotals_76 : decode cX4_unlikeTotals 76 = .ok (.ireturn, 1) := by decide +kernel
theorem dX4_nearestTotal_0 : decode cX4_nearestTotal 0 = .ok (.aload_n 0, 1) := by decide +kernel
theorem dX4_nearestTotal_1 : decode cX4_nearestTotal 1 = .ok (.getfield 33, 3) := by decide +kernel
theorem dX4_nearestTotal_4 : decode cX4_nearestTotal 4 = .ok (.invokevirtual 51, 3) := by decide +kernel
theorem dX4_nearestTotal_7 : decode cX4_nearestTotal 7 = .ok (.istore_n 1, 1) := by decide +kernel
theorem dX4_nearestTotal_8 : decode cX4_nearestTotal 8 = .ok (.bipush (-4), 2) := by decide +kernel
theorem dX4_nearestTotal_10 : decode cX4_nearestTotal 10 = .ok (.istore_n 2, 1) := by decide +kernel
theorem dX4_nearestTotal_11 : decode cX4_nearestTotal 11 = .ok (.iconst 1, 1) := by decide +kernel
theorem dX4_nearestTotal_12 : decode cX4_nearestTotal 12 = .ok (.istore_n 3, 1) := by decide +kernel
theorem dX4_nearestTotal_13 : decode cX4_nearestTotal 13 = .ok (.iload_n 3, 1) := by decide +kernel
theorem dX4_nearestTotal_14 : decode cX4_nearestTotal 14 = .ok (.sipush 512, 3) := by decide +kernel
theorem dX4_nearestTotal_17 : decode cX4_nearestTotal 17 = .ok (.if_icmp .ge 46, 3) := by decide +kernel
theorem dX4_nearestTotal_20 : decode cX4_nearestTotal 20 = .ok (.iload_n 3, 1) := by decide +kernel
theorem dX4_nearestTotal_21 : decode cX4_nearestTotal 21 = .ok (.iload_n 1, 1) := by decide +kernel
theorem dX4_nearestTotal_22 : decode cX4_nearestTotal 22 = .ok (.invokestatic 37, 3) := by decide +kernel
theorem dX4_nearestTotal_25 : decode cX4_nearestTotal 25 = .ok (.ifCond .eq 32, 3) := by decide +kernel
theorem dX4_nearestTotal_28 : decode cX4_nearestTotal 28 = .ok (.aload_n 0, 1) := by decide +kernel
theorem dX4_nearestTotal_29 : decode cX4_nearestTotal 29 = .ok (.getfield 33, 3) := by decide +kernel
theorem dX4_nearestTotal_32 : decode cX4_nearestTotal 32 = .ok (.iload_n 3, 1) := by decide +kernel
theorem dX4_nearestTotal_33 : decode cX4_nearestTotal 33 = .ok (.invokevirtual 117, 3) := by decide +kernel
theorem dX4_nearestTotal_36 : decode cX4_nearestTotal 36 = .ok (.istore 4, 2) := by decide +kernel
theorem dX4_nearestTotal_38 : decode cX4_nearestTotal 38 = .ok (.iload_n 2, 1) := by decide +kernel
theorem dX4_nearestTotal_39 : decode cX4_nearestTotal 39 = .ok (.bipush (-4), 2) := by decide +kernel
theorem dX4_nearestTotal_41 : decode cX4_nearestTotal 41 = .ok (.if_icmp .ne 8, 3) := by decide +kernel
theorem dX4_nearestTotal_44 : decode cX4_nearestTotal 44 = .ok (.iload 4, 2) := by decide +kernel
theorem dX4_nearestTotal_46 : decode cX4_nearestTotal 46 = .ok (.goto 10, 3) := by decide +kernel
theorem dX4_nearestTotal_49 : decode cX4_nearestTotal 49 = .ok (.aload_n 0, 1) := by decide +kernel
theorem dX4_nearestTotal_50 : decode cX4_nearestTotal 50 = .ok (.iload 4, 2) := by decide +kernel
theorem dX4_nearestTotal_52 : decode cX4_nearestTotal 52 = .ok (.iload_n 2, 1) := by decide +kernel
theorem dX4_nearestTotal_53 : decode cX4_nearestTotal 53 = .ok (.invokevirtual 120, 3) := by decide +kernel
theorem dX4_nearestTotal_56 : decode cX4_nearestTotal 56 = .ok (.istore_n 2, 1) := by decide +kernel
theorem dX4_nearestTotal_57 : decode cX4_nearestTotal 57 = .ok (.iinc 3 1, 3) := by decide +kernel
theorem dX4_nearestTotal_60 : decode cX4_nearestTotal 60 = .ok (.goto (-47), 3) := by decide +kernel
theorem dX4_nearestTotal_63 : decode cX4_nearestTotal 63 = .ok (.iload_n 2, 1) := by decide +kernel
theorem dX4_nearestTotal_64 : decode cX4_nearestTotal 64 = .ok (.ireturn, 1) := by decide +kernel
theorem dX4_nearer_0 : decode cX4_nearer 0 = .ok (.iload_n 1, 1) := by decide +kernel
theorem dX4_nearer_1 : decode cX4_nearer 1 = .ok (.aload_n 0, 1) := by decide +kernel
theorem dX4_nearer_2 : decode cX4_nearer 2 = .ok (.getfield 29, 3) := by decide +kernel
theorem dX4_nearer_5 : decode cX4_nearer 5 = .ok (.getfield 123, 3) := by decide +kernel
theorem dX4_nearer_8 : decode cX4_nearer 8 = .ok (.isub, 1) := by decide +kernel
theorem dX4_nearer_9 : decode cX4_nearer 9 = .ok (.invokestatic 126, 3) := by decide +kernel
theorem dX4_nearer_12 : decode cX4_nearer 12 = .ok (.istore_n 3, 1) := by decide +kernel
theorem dX4_nearer_13 : decode cX4_nearer 13 = .ok (.iload_n 2, 1) := by decide +kernel
theorem dX4_nearer_14 : decode cX4_nearer 14 = .ok (.aload_n 0, 1) := by decide +kernel
theorem dX4_nearer_15 : decode cX4_nearer 15 = .ok (.getfield 29, 3) := by decide +kernel
theorem dX4_nearer_18 : decode cX4_nearer 18 = .ok (.getfield 123, 3) := by decide +kernel
theorem dX4_nearer_21 : decode cX4_nearer 21 = .ok (.isub, 1) := by decide +kernel
theorem dX4_nearer_22 : decode cX4_nearer 22 = .ok (.invokestatic 126, 3) := by decide +kernel
theorem dX4_nearer_25 : decode cX4_nearer 25 = .ok (.istore 4, 2) := by decide +kernel
theorem dX4_nearer_27 : decode cX4_nearer 27 = .ok (.iload_n 3, 1) := by decide +kernel
theorem dX4_nearer_28 : decode cX4_nearer 28 = .ok (.iload 4, 2) := by decide +kernel
theorem dX4_nearer_30 : decode cX4_nearer 30 = .ok (.if_icmp .ne 9, 3) := by decide +kernel
theorem dX4_nearer_33 : decode cX4_nearer 33 = .ok (.iload_n 1, 1) := by decide +kernel
theorem dX4_nearer_34 : decode cX4_nearer 34 = .ok (.iload_n 2, 1) := by decide +kernel
theorem dX4_nearer_35 : decode cX4_nearer 35 = .ok (.invokestatic 75, 3) := by decide +kernel
theorem dX4_nearer_38 : decode cX4_nearer 38 = .ok (.ireturn, 1) := by decide +kernel
theorem dX4_nearer_39 : decode cX4_nearer 39 = .ok (.iload_n 3, 1) := by decide +kernel
theorem dX4_nearer_40 : decode cX4_nearer 40 = .ok (.iload 4, 2) := by decide +kernel
theorem dX4_nearer_42 : decode cX4_nearer 42 = .ok (.if_icmp .ge 7, 3) := by decide +kernel
theorem dX4_nearer_45 : decode cX4_nearer 45 = .ok (.iload_n 1, 1) := by decide +kernel
theorem dX4_nearer_46 : decode cX4_nearer 46 = .ok (.goto 4, 3) := by decide +kernel
theorem dX4_nearer_49 : decode cX4_nearer 49 = .ok (.iload_n 2, 1) := by decide +kernel
theorem dX4_nearer_50 : decode cX4_nearer 50 = .ok (.ireturn, 1) := by decide +kernel
theorem dX5_init_0 : decode cX5_init 0 = .ok (.aload_n 0, 1) := by decide +kernel
theorem dX5_init_1 : decode cX5_init 1 = .ok (.invokespecial 1, 3) := by decide +kernel
theorem dX5_init_4 : decode cX5_init 4 = .ok (.aload_n 0, 1) := by decide +kernel
theorem dX5_init_5 : decode cX5_init 5 = .ok (.iload_n 1, 1) := by decide +kernel
theorem dX5_init_6 : decode cX5_init 6 = .ok (.ifCond .ge 7, 3) := by decide +kernel
theorem dX5_init_9 : decode cX5_init 9 = .ok (.iconst 0, 1) := by decide +kernel
theorem dX5_init_10 : decode cX5_init 10 = .ok (.goto 4, 3) := by decide +kernel
theorem dX5_init_13 : decode cX5_init 13 = .ok (.iload_n 1, 1) := by decide +kernel
theorem dX5_init_14 : decode cX5_init 14 = .ok (.anewarray 7, 3) := by decide +kernel
theorem dX5_init_17 : decode cX5_init 17 = .ok (.putfield 9, 3) := by decide +kernel
theorem dX5_init_20 : decode cX5_init 20 = .ok (.iconst 0, 1) := by decide +kernel
theorem dX5_init_21 : decode cX5_init 21 = .ok (.istore_n 3, 1) := by decide +kernel
theorem dX5_init_22 : decode cX5_init 22 = .ok (.iload_n 3, 1) := by decide +kernel
theorem dX5_init_23 : decode cX5_init 23 = .ok (.aload_n 0, 1) := by decide +kernel
theorem dX5_init_24 : decode cX5_init 24 = .ok (.getfield 9, 3) := by decide +kernel
theorem dX5_init_27 : decode cX5_init 27 = .ok (.arraylength, 1) := by decide +kernel
theorem dX5_init_28 : decode cX5_init 28 = .ok (.if_icmp .ge 23, 3) := by decide +kernel
theorem dX5_init_31 : decode cX5_init 31 = .ok (.aload_n 0, 1) := by decide +kernel
theorem dX5_init_32 : decode cX5_init 32 = .ok (.getfield 9, 3) := by decide +kernel
theorem dX5_init_35 : decode cX5_init 35 = .ok (.iload_n 3, 1) := by decide +kernel
theorem dX5_init_36 : decode cX5_init 36 = .ok (.new 7, 3) := by decide +kernel
theorem dX5_init_39 : decode cX5_init 39 = .ok (.dup, 1) := by decide +kernel
theorem dX5_init_40 : decode cX5_init 40 = .ok (.aload_n 2, 1) := by decide +kernel
theorem dX5_init_41 : decode cX5_init 41 = .ok (.invokespecial 15, 3) := by decide +kernel
theorem dX5_init_44 : decode cX5_init 44 = .ok (.aastore, 1) := by decide +kernel
theorem dX5_init_45 : decode cX5_init 45 = .ok (.iinc 3 1, 3) := by decide +kernel
theorem dX5_init_48 : decode cX5_init 48 = .ok (.goto (-26), 3) := by decide +kernel
theorem dX5_init_51 : decode cX5_init 51 = .ok (.return_, 1) := by decide +kernel
theorem dX5_clear_0 : decode cX5_clear 0 = .ok (.aload_n 0, 1) := by decide +kernel
theorem dX5_clear_1 : decode cX5_clear 1 = .ok (.iconst 0, 1) := by decide +kernel
theorem dX5_clear_2 : decode cX5_clear 2 = .ok (.putfield 18, 3) := by decide +kernel
theorem dX5_clear_5 : decode cX5_clear 5 = .ok (.return_, 1) := by decide +kernel
theorem dX5_add_0 : decode cX5_add 0 = .ok (.aload_n 0, 1) := by decide +kernel
theorem dX5_add_1 : decode cX5_add 1 = .ok (.getfield 18, 3) := by decide +kernel
theorem dX5_add_4 : decode cX5_add 4 = .ok (.aload_n 0, 1) := by decide +kernel
theorem dX5_add_5 : decode cX5_add 5 = .ok (.getfield 9, 3) := by decide +kernel
theorem dX5_add_8 : decode cX5_add 8 = .ok (.arraylength, 1) := by decide +kernel
theorem dX5_add_9 : decode cX5_add 9 = .ok (.if_icmp .lt 7, 3) := by decide +kernel
theorem dX5_add_12 : decode cX5_add 12 = .ok (.aload_n 0, 1) := by decide +kernel
theorem dX5_add_13 : decode cX5_add 13 = .ok (.invokevirtual 22, 3) := by decide +kernel
theorem dX5_add_16 : decode cX5_add 16 = .ok (.aload_n 0, 1) := by decide +kernel
theorem dX5_add_17 : decode cX5_add 17 = .ok (.aload_n 0, 1) := by decide +kernel
theorem dX5_add_18 : decode cX5_add 18 = .ok (.getfield 18, 3) := by decide +kernel
theorem dX5_add_21 : decode cX5_add 21 = .ok (.invokevirtual 25, 3) := by decide +kernel
theorem dX5_add_24 : decode cX5_add 24 = .ok (.astore_n 2, 1) := by decide +kernel
theorem dX5_add_25 : decode cX5_add 25 = .ok (.aload_n 2, 1) := by decide +kernel
theorem dX5_add_26 : decode cX5_add 26 = .ok (.ifnull 18, 3) := by decide +kernel
theorem dX5_add_29 : decode cX5_add 29 = .ok (.aload_n 2, 1) := by decide +kernel
theorem dX5_add_30 : decode cX5_add 30 = .ok (.aload_n 1, 1) := by decide +kernel
theorem dX5_add_31 : decode cX5_add 31 = .ok (.invokevirtual 29, 3) := by decide +kernel
theorem dX5_add_34 : decode cX5_add 34 = .ok (.aload_n 0, 1) := by decide +kernel
theorem dX5_add_35 : decode cX5_add 35 = .ok (.dup, 1) := by decide +kernel
theorem dX5_add_36 : decode cX5_add 36 = .ok (.getfield 18, 3) := by decide +kernel
theorem dX5_add_39 : decode cX5_add 39 = .ok (.iconst 1, 1) := by decide +kernel
theorem dX5_add_40 : decode cX5_add 40 = .ok (.iadd, 1) := by decide +kernel
theorem dX5_add_41 : decode cX5_add 41 = .ok (.putfield 18, 3) := by decide +kernel
theorem dX5_add_44 : decode cX5_add 44 = .ok (.return_, 1) := by decide +kernel
theorem dX5_takeInto_0 : decode cX5_takeInto 0 = .ok (.aload_n 0, 1) := by decide +kernel
theorem dX5_takeInto_1 : decode cX5_takeInto 1 = .ok (.aload_n 0, 1) := by decide +kernel
theorem dX5_takeInto_2 : decode cX5_takeInto 2 = .ok (.getfield 18, 3) := by decide +kernel
theorem dX5_takeInto_5 : decode cX5_takeInto 5 = .ok (.iconst 1, 1) := by decide +kernel
theorem dX5_takeInto_6 : decode cX5_takeInto 6 = .ok (.isub, 1) := by decide +kernel
theorem dX5_takeInto_7 : decode cX5_takeInto 7 = .ok (.invokevirtual 25, 3) := by decide +kernel
theorem dX5_takeInto_10 : decode cX5_takeInto 10 = .ok (.astore_n 2, 1) := by decide +kernel
theorem dX5_takeInto_11 : decode cX5_takeInto 11 = .ok (.aload_n 2, 1) := by decide +kernel
theorem dX5_takeInto_12 : decode cX5_takeInto 12 = .ok (.ifnonnull 5, 3) := by decide +kernel
theorem dX5_takeInto_15 : decode cX5_takeInto 15 = .ok (.iconst 0, 1) := by decide +kernel
theorem dX5_takeInto_16 : decode cX5_takeInto 16 = .ok (.ireturn, 1) := by decide +kernel
theorem dX5_takeInto_17 : decode cX5_takeInto 17 = .ok (.aload_n 1, 1) := by decide +kernel
theorem dX5_takeInto_18 : decode cX5_takeInto 18 = .ok (.aload_n 2, 1) := by decide +kernel
theorem dX5_takeInto_19 : decode cX5_takeInto 19 = .ok (.invokevirtual 29, 3) := by decide +kernel
theorem dX5_takeInto_22 : decode cX5_takeInto 22 = .ok (.aload_n 0, 1) := by decide +kernel
theorem dX5_takeInto_23 : decode cX5_takeInto 23 = .ok (.dup, 1) := by decide +kernel
theorem dX5_takeInto_24 : decode cX5_takeInto 24 = .ok (.getfield 18, 3) := by decide +kernel
theorem dX5_takeInto_27 : decode cX5_takeInto 27 = .ok (.iconst 1, 1) := by decide +kernel
theorem dX5_takeInto_28 : decode cX5_takeInto 28 = .ok (.isub, 1) := by decide +kernel
theorem dX5_takeInto_29 : decode cX5_takeInto 29 = .ok (.putfield 18, 3) := by decide +kernel
theorem dX5_takeInto_32 : decode cX5_takeInto 32 = .ok (.iconst 1, 1) := by decide +kernel
theorem dX5_takeInto_33 : decode cX5_takeInto 33 = .ok (.ireturn, 1) := by decide +kernel
theorem dX5_dropOldest_0 : decode cX5_dropOldest 0 = .ok (.aload_n 0, 1) := by decide +kernel
theorem dX5_dropOldest_1 : decode cX5_dropOldest 1 = .ok (.iconst 0, 1) := by decide +kernel
theorem dX5_dropOldest_2 : decode cX5_dropOldest 2 = .ok (.invokevirtual 25, 3) := by decide +kernel
theorem dX5_dropOldest_5 : decode cX5_dropOldest 5 = .ok (.astore_n 1, 1) := by decide +kernel
theorem dX5_dropOldest_6 : decode cX5_dropOldest 6 = .ok (.iconst 1, 1) := by decide +kernel
theorem dX5_dropOldest_7 : decode cX5_dropOldest 7 = .ok (.istore_n 2, 1) := by decide +kernel
theorem dX5_dropOldest_8 : decode cX5_dropOldest 8 = .ok (.iload_n 2, 1) := by decide +kernel
theorem dX5_dropOldest_9 : decode cX5_dropOldest 9 = .ok (.aload_n 0, 1) := by decide +kernel
theorem dX5_dropOldest_10 : decode cX5_dropOldest 10 = .ok (.getfield 9, 3) := by decide +kernel
theorem dX5_dropOldest_13 : decode cX5_dropOldest 13 = .ok (.arraylength, 1) := by decide +kernel
theorem dX5_dropOldest_14 : decode cX5_dropOldest 14 = .ok (.if_icmp .ge 23, 3) := by decide +kernel
theorem dX5_dropOldest_17 : decode cX5_dropOldest 17 = .ok (.aload_n 0, 1) := by decide +kernel
theorem dX5_dropOldest_18 : decode cX5_dropOldest 18 = .ok (.getfield 9, 3) := by decide +kernel
theorem dX5_dropOldest_21 : decode cX5_dropOldest 21 = .ok (.iload_n 2, 1) := by decide +kernel
theorem dX5_dropOldest_22 : decode cX5_dropOldest 22 = .ok (.iconst 1, 1) := by decide +kernel
theorem dX5_dropOldest_23 : decode cX5_dropOldest 23 = .ok (.isub, 1) := by decide +kernel
theorem dX5_dropOldest_24 : decode cX5_dropOldest 24 = .ok (.aload_n 0, 1) := by decide +kernel
theorem dX5_dropOldest_25 : decode cX5_dropOldest 25 = .ok (.getfield 9, 3) := by decide +kernel
theorem dX5_dropOldest_28 : decode cX5_dropOldest 28 = .ok (.iload_n 2, 1) := by decide +kernel
theorem dX5_dropOldest_29 : decode cX5_dropOldest 29 = .ok (.aaload, 1) := by decide +kernel
theorem dX5_dropOldest_30 : decode cX5_dropOldest 30 = .ok (.aastore, 1) := by decide +kernel
theorem dX5_dropOldest_31 : decode cX5_dropOldest 31 = .ok (.iinc 2 1, 3) := by decide +kernel
theorem dX5_dropOldest_34 : decode cX5_dropOldest 34 = .ok (.goto (-26), 3) := by decide +kernel
theorem dX5_dropOldest_37 : decode cX5_dropOldest 37 = .ok (.aload_n 0, 1) := by decide +kernel
theorem dX5_dropOldest_38 : decode cX5_dropOldest 38 = .ok (.getfield 18, 3) := by decide +kernel
theorem dX5_dropOldest_41 : decode cX5_dropOldest 41 = .ok (.ifCond .le 38, 3) := by decide +kernel
theorem dX5_dropOldest_44 : decode cX5_dropOldest 44 = .ok (.aload_n 1, 1) := by decide +kernel
theorem dX5_dropOldest_45 : decode cX5_dropOldest 45 = .ok (.ifnull 34, 3) := by decide +kernel
theorem dX5_dropOldest_48 : decode cX5_dropOldest 48 = .ok (.aload_n 0, 1) := by decide +kernel
theorem dX5_dropOldest_49 : decode cX5_dropOldest 49 = .ok (.getfield 9, 3) := by decide +kernel
theorem dX5_dropOldest_52 : decode cX5_dropOldest 52 = .ok (.arraylength, 1) := by decide +kernel
theorem dX5_dropOldest_53 : decode cX5_dropOldest 53 = .ok (.ifCond .le 26, 3) := by decide +kernel
theorem dX5_dropOldest_56 : decode cX5_dropOldest 56 = .ok (.aload_n 0, 1) := by decide +kernel
theorem dX5_dropOldest_57 : decode cX5_dropOldest 57 = .ok (.getfield 9, 3) := by decide +kernel
theorem dX5_dropOldest_60 : decode cX5_dropOldest 60 = .ok (.aload_n 0, 1) := by decide +kernel
theorem dX5_dropOldest_61 : decode cX5_dropOldest 61 = .ok (.getfield 9, 3) := by decide +kernel
theorem dX5_dropOldest_64 : decode cX5_dropOldest 64 = .ok (.arraylength, 1) := by decide +kernel
theorem dX5_dropOldest_65 : decode cX5_dropOldest 65 = .ok (.iconst 1, 1) := by decide +kernel
theorem dX5_dropOldest_66 : decode cX5_dropOldest 66 = .ok (.isub, 1) := by decide +kernel
theorem dX5_dropOldest_67 : decode cX5_dropOldest 67 = .ok (.aload_n 1, 1) := by decide +kernel
theorem dX5_dropOldest_68 : decode cX5_dropOldest 68 = .ok (.aastore, 1) := by decide +kernel
theorem dX5_dropOldest_69 : decode cX5_dropOldest 69 = .ok (.aload_n 0, 1) := by decide +kernel
theorem dX5_dropOldest_70 : decode cX5_dropOldest 70 = .ok (.dup, 1) := by decide +kernel
theorem dX5_dropOldest_71 : decode cX5_dropOldest 71 = .ok (.getfield 18, 3) := by decide +kernel
theorem dX5_dropOldest_74 : decode cX5_dropOldest 74 = .ok (.iconst 1, 1) := by decide +kernel
theorem dX5_dropOldest_75 : decode cX5_dropOldest 75 = .ok (.isub, 1) := by decide +kernel
theorem dX5_dropOldest_76 : decode cX5_dropOldest 76 = .ok (.putfield 18, 3) := by decide +kernel
theorem dX5_dropOldest_79 : decode cX5_dropOldest 79 = .ok (.return_, 1) := by decide +kernel
theorem dX5_at_0 : decode cX5_at 0 = .ok (.iload_n 1, 1) := by decide +kernel
theorem dX5_at_1 : decode cX5_at 1 = .ok (.ifCond .lt 21, 3) := by decide +kernel
theorem dX5_at_4 : decode cX5_at 4 = .ok (.iload_n 1, 1) := by decide +kernel
theorem dX5_at_5 : decode cX5_at 5 = .ok (.aload_n 0, 1) := by decide +kernel
theorem dX5_at_6 : decode cX5_at 6 = .ok (.getfield 9, 3) := by decide +kernel
theorem dX5_at_9 : decode cX5_at 9 = .ok (.arraylength, 1) := by decide +kernel
theorem dX5_at_10 : decode cX5_at 10 = .ok (.if_icmp .ge 12, 3) := by decide +kernel
theorem dX5_at_13 : decode cX5_at 13 = .ok (.aload_n 0, 1) := by decide +kernel
theorem dX5_at_14 : decode cX5_at 14 = .ok (.getfield 9, 3) := by decide +kernel
theorem dX5_at_17 : decode cX5_at 17 = .ok (.iload_n 1, 1) := by decide +kernel
theorem dX5_at_18 : decode cX5_at 18 = .ok (.aaload, 1) := by decide +kernel
theorem dX5_at_19 : decode cX5_at 19 = .ok (.goto 4, 3) := by decide +kernel
theorem dX5_at_22 : decode cX5_at 22 = .ok (.aconst_null, 1) := by decide +kernel
theorem dX5_at_23 : decode cX5_at 23 = .ok (.areturn, 1) := by decide +kernel
theorem dX6_init_0 : decode cX6_init 0 = .ok (.aload_n 0, 1) := by decide +kernel
theorem dX6_init_1 : decode cX6_init 1 = .ok (.invokespecial 3, 3) := by decide +kernel
theorem dX6_init_4 : decode cX6_init 4 = .ok (.aload_n 0, 1) := by decide +kernel
theorem dX6_init_5 : decode cX6_init 5 = .ok (.new 9, 3) := by decide +kernel
theorem dX6_init_8 : decode cX6_init 8 = .ok (.dup, 1) := by decide +kernel
theorem dX6_init_9 : decode cX6_init 9 = .ok (.bipush 9, 2) := by decide +kernel
theorem dX6_init_11 : decode cX6_init 11 = .ok (.invokespecial 11, 3) := by decide +kernel
theorem dX6_init_14 : decode cX6_init 14 = .ok (.putfield 14, 3) := by decide +kernel
theorem dX6_init_17 : decode cX6_init 17 = .ok (.aload_n 0, 1) := by decide +kernel
theorem dX6_init_18 : decode cX6_init 18 = .ok (.aload_n 1, 1) := by decide +kernel
theorem dX6_init_19 : decode cX6_init 19 = .ok (.putfield 20, 3) := by decide +kernel
theorem dX6_init_22 : decode cX6_init 22 = .ok (.return_, 1) := by decide +kernel
theorem dX6_reset_0 : decode cX6_reset 0 = .ok (.aload_n 0, 1) := by decide +kernel
theorem dX6_reset_1 : decode cX6_reset 1 = .ok (.getfield 14, 3) := by decide +kernel
theorem dX6_reset_4 : decode cX6_reset 4 = .ok (.iconst 0, 1) := by decide +kernel
theorem dX6_reset_5 : decode cX6_reset 5 = .ok (.invokevirtual 24, 3) := by decide +kernel
theorem dX6_reset_8 : decode cX6_reset 8 = .ok (.aload_n 0, 1) := by decide +kernel
theorem dX6_reset_9 : decode cX6_reset 9 = .ok (.iconst 0, 1) := by decide +kernel
theorem dX6_reset_10 : decode cX6_reset 10 = .ok (.putfield 27, 3) := by decide +kernel
theorem dX6_reset_13 : decode cX6_reset 13 = .ok (.aload_n 0, 1) := by decide +kernel
theorem dX6_reset_14 : decode cX6_reset 14 = .ok (.iconst 0, 1) := by decide +kernel
theorem dX6_reset_15 : decode cX6_reset 15 = .ok (.putfield 31, 3) := by decide +kernel
theorem dX6_reset_18 : decode cX6_reset 18 = .ok (.aload_n 0, 1) := by decide +kernel
theorem dX6_reset_19 : decode cX6_reset 19 = .ok (.iconst 0, 1) := by decide +kernel
theorem dX6_reset_20 : decode cX6_reset 20 = .ok (.putfield 34, 3) := by decide +kernel
theorem dX6_reset_23 : decode cX6_reset 23 = .ok (.aload_n 0, 1) := by decide +kernel
theorem dX6_reset_24 : decode cX6_reset 24 = .ok (.iconst 0, 1) := by decide +kernel
theorem dX6_reset_25 : decode cX6_reset 25 = .ok (.putfield 37, 3) := by decide +kernel
theorem dX6_reset_28 : decode cX6_reset 28 = .ok (.aload_n 0, 1) := by decide +kernel
theorem dX6_reset_29 : decode cX6_reset 29 = .ok (.iconst 0, 1) := by decide +kernel
theorem dX6_reset_30 : decode cX6_reset 30 = .ok (.putfield 40, 3) := by decide +kernel
theorem dX6_reset_33 : decode cX6_reset 33 = .ok (.aload_n 0, 1) := by decide +kernel
theorem dX6_reset_34 : decode cX6_reset 34 = .ok (.iconst 0, 1) := by decide +kernel
theorem dX6_reset_35 : decode cX6_reset 35 = .ok (.putfield 43, 3) := by decide +kernel
theorem dX6_reset_38 : decode cX6_reset 38 = .ok (.return_, 1) := by decide +kernel
theorem dX6_copyFrom_0 : decode cX6_copyFrom 0 = .ok (.iconst 0, 1) := by decide +kernel
theorem dX6_copyFrom_1 : decode cX6_copyFrom 1 = .ok (.istore_n 2, 1) := by decide +kernel
theorem dX6_copyFrom_2 : decode cX6_copyFrom 2 = .ok (.iload_n 2, 1) := by decide +kernel
theorem dX6_copyFrom_3 : decode cX6_copyFrom 3 = .ok (.bipush 9, 2) := by decide +kernel
theorem dX6_copyFrom_5 : decode cX6_copyFrom 5 = .ok (.if_icmp .ge 25, 3) := by decide +kernel
theorem dX6_copyFrom_8 : decode cX6_copyFrom 8 = .ok (.aload_n 0, 1) := by decide +kernel
theorem dX6_copyFrom_9 : decode cX6_copyFrom 9 = .ok (.getfield 14, 3) := by decide +kernel
theorem dX6_copyFrom_12 : decode cX6_copyFrom 12 = .ok (.iload_n 2, 1) := by decide +kernel
theorem dX6_copyFrom_13 : decode cX6_copyFrom 13 = .ok (.aload_n 1, 1) := by decide +kernel
theorem dX6_copyFrom_14 : decode cX6_copyFrom 14 = .ok (.getfield 14, 3) := by decide +kernel
theorem dX6_copyFrom_17 : decode cX6_copyFrom 17 = .ok (.iload_n 2, 1) := by decide +kernel
theorem dX6_copyFrom_18 : decode cX6_copyFrom 18 = .ok (.invokevirtual 46, 3) := by decide +kernel
theorem dX6_copyFrom_21 : decode cX6_copyFrom 21 = .ok (.invokevirtual 50, 3) := by decide +kernel
theorem dX6_copyFrom_24 : decode cX6_copyFrom 24 = .ok (.iinc 2 1, 3) := by decide +kernel
theorem dX6_copyFrom_27 : decode cX6_copyFrom 27 = .ok (.goto (-25), 3) := by decide +kernel
theorem dX6_copyFrom_30 : decode cX6_copyFrom 30 = .ok (.aload_n 0, 1) := by decide +kernel
theorem dX6_copyFrom_31 : decode cX6_copyFrom 31 = .ok (.aload_n 1, 1) := by decide +kernel
theorem dX6_copyFrom_32 : decode cX6_copyFrom 32 = .ok (.getfield 27, 3) := by decide +kernel
theorem dX6_copyFrom_35 : decode cX6_copyFrom 35 = .ok (.putfield 27, 3) := by decide +kernel
theorem dX6_copyFrom_38 : decode cX6_copyFrom 38 = .ok (.aload_n 0, 1) := by decide +kernel
theorem dX6_copyFrom_39 : decode cX6_copyFrom 39 = .ok (.aload_n 1, 1) := by decide +kernel
theorem dX6_copyFrom_40 : decode cX6_copyFrom 40 = .ok (.getfield 31, 3) := by decide +kernel
theorem dX6_copyFrom_43 : decode cX6_copyFrom 43 = .ok (.putfield 31, 3) := by decide +kernel
theorem dX6_copyFrom_46 : decode cX6_copyFrom 46 = .ok (.aload_n 0, 1) := by decide +kernel
theorem dX6_copyFrom_47 : decode cX6_copyFrom 47 = .ok (.aload_n 1, 1) := by decide +kernel
theorem dX6_copyFrom_48 : decode cX6_copyFrom 48 = .ok (.getfield 34, 3) := by decide +kernel
theorem dX6_copyFrom_51 : decode cX6_copyFrom 51 = .ok (.putfield 34, 3) := by decide +kernel
theorem dX6_copyFrom_54 : decode cX6_copyFrom 54 = .ok (.aload_n 0, 1) := by decide +kernel
theorem dX6_copyFrom_55 : decode cX6_copyFrom 55 = .ok (.aload_n 1, 1) := by decide +kernel
theorem dX6_copyFrom_56 : decode cX6_copyFrom 56 = .ok (.getfield 37, 3) := by decide +kernel
theorem dX6_copyFrom_59 : decode cX6_copyFrom 59 = .ok (.putfield 37, 3) := by decide +kernel
theorem dX6_copyFrom_62 : decode cX6_copyFrom 62 = .ok (.aload_n 0, 1) := by decide +kernel
theorem dX6_copyFrom_63 : decode cX6_copyFrom 63 = .ok (.aload_n 1, 1) := by decide +kernel
theorem dX6_copyFrom_64 : decode cX6_copyFrom 64 = .ok (.getfield 40, 3) := by decide +kernel
theorem dX6_copyFrom_67 : decode cX6_copyFrom 67 = .ok (.putfield 40, 3) := by decide +kernel
theorem dX6_copyFrom_70 : decode cX6_copyFrom 70 = .ok (.aload_n 0, 1) := by decide +kernel
theorem dX6_copyFrom_71 : decode cX6_copyFrom 71 = .ok (.aload_n 1, 1) := by decide +kernel
theorem dX6_copyFrom_72 : decode cX6_copyFrom 72 = .ok (.getfield 43, 3) := by decide +kernel
theorem dX6_copyFrom_75 : decode cX6_copyFrom 75 = .ok (.putfield 43, 3) := by decide +kernel
theorem dX6_copyFrom_78 : decode cX6_copyFrom 78 = .ok (.return_, 1) := by decide +kernel
theorem dX6_remaining_0 : decode cX6_remaining 0 = .ok (.aload_n 0, 1) := by decide +kernel
theorem dX6_remaining_1 : decode cX6_remaining 1 = .ok (.getfield 20, 3) := by decide +kernel
theorem dX6_remaining_4 : decode cX6_remaining 4 = .ok (.invokevirtual 54, 3) := by decide +kernel
theorem dX6_remaining_7 : decode cX6_remaining 7 = .ok (.aload_n 0, 1) := by decide +kernel
theorem dX6_remaining_8 : decode cX6_remaining 8 = .ok (.getfield 34, 3) := by decide +kernel
theorem dX6_remaining_11 : decode cX6_remaining 11 = .ok (.iconst (-1), 1) := by decide +kernel
theorem dX6_remaining_12 : decode cX6_remaining 12 = .ok (.ixor, 1) := by decide +kernel
theorem dX6_remaining_13 : decode cX6_remaining 13 = .ok (.iand, 1) := by decide +kernel
theorem dX6_remaining_14 : decode cX6_remaining 14 = .ok (.aload_n 0, 1) := by decide +kernel
theorem dX6_remaining_15 : decode cX6_remaining 15 = .ok (.getfield 37, 3) := by decide +kernel
theorem dX6_remaining_18 : decode cX6_remaining 18 = .ok (.iconst (-1), 1) := by decide +kernel
theorem dX6_remaining_19 : decode cX6_remaining 19 = .ok (.ixor, 1) := by decide +kernel
theorem dX6_remaining_20 : decode cX6_remaining 20 = .ok (.iand, 1) := by decide +kernel
theorem dX6_remaining_21 : decode cX6_remaining 21 = .ok (.ireturn, 1) := by decide +kernel
theorem dX6_present_0 : decode cX6_present 0 = .ok (.iconst 0, 1) := by decide +kernel
theorem dX6_present_1 : decode cX6_present 1 = .ok (.istore_n 1, 1) := by decide +kernel
theorem dX6_present_2 : decode cX6_present 2 = .ok (.iconst 0, 1) := by decide +kernel
theorem dX6_present_3 : decode cX6_present 3 = .ok (.istore_n 2, 1) := by decide +kernel
theorem dX6_present_4 : decode cX6_present 4 = .ok (.iload_n 2, 1) := by decide +kernel
theorem dX6_present_5 : decode cX6_present 5 = .ok (.aload_n 0, 1) := by decide +kernel
theorem dX6_present_6 : decode cX6_present 6 = .ok (.getfield 20, 3) := by decide +kernel
theorem dX6_present_9 : decode cX6_present 9 = .ok (.getfield 60, 3) := by decide +kernel
theorem dX6_present_12 : decode cX6_present 12 = .ok (.if_icmp .ge 33, 3) := by decide +kernel
theorem dX6_present_15 : decode cX6_present 15 = .ok (.aload_n 0, 1) := by decide +kernel
theorem dX6_present_16 : decode cX6_present 16 = .ok (.getfield 20, 3) := by decide +kernel
theorem dX6_present_19 : decode cX6_present 19 = .ok (.getfield 63, 3) := by decide +kernel
theorem dX6_present_22 : decode cX6_present 22 = .ok (.iload_n 2, 1) := by decide +kernel
theorem dX6_present_23 : decode cX6_present 23 = .ok (.invokevirtual 46, 3) := by decide +kernel
theorem dX6_present_26 : decode cX6_present 26 = .ok (.aload_n 0, 1) := by decide +kernel
theorem dX6_present_27 : decode cX6_present 27 = .ok (.getfield 27, 3) := by decide +kernel
theorem dX6_present_30 : decode cX6_present 30 = .ok (.if_icmp .gt 9, 3) := by decide +kernel
theorem dX6_present_33 : decode cX6_present 33 = .ok (.iload_n 1, 1) := by decide +kernel
theorem dX6_present_34 : decode cX6_present 34 = .ok (.iconst 1, 1) := by decide +kernel
theorem dX6_present_35 : decode cX6_present 35 = .ok (.iload_n 2, 1) := by decide +kernel
theorem dX6_present_36 : decode cX6_present 36 = .ok (.ishl, 1) := by decide +kernel
theorem dX6_present_37 : decode cX6_present 37 = .ok (.ior, 1) := by decide +kernel
theorem dX6_present_38 : decode cX6_present 38 = .ok (.istore_n 1, 1) := by decide +kernel
theorem dX6_present_39 : decode cX6_present 39 = .ok (.iinc 2 1, 3) := by decide +kernel
theorem dX6_present_42 : decode cX6_present 42 = .ok (.goto (-38), 3) := by decide +kernel
theorem dX6_present_45 : decode cX6_present 45 = .ok (.iload_n 1, 1) := by decide +kernel
theorem dX6_present_46 : decode cX6_present 46 = .ok (.aload_n 0, 1) := by decide +kernel
theorem dX6_present_47 : decode cX6_present 47 = .ok (.invokevirtual 66, 3) := by decide +kernel
theorem dX6_present_50 : decode cX6_present 50 = .ok (.iand, 1) := by decide +kernel
theorem dX6_present_51 : decode cX6_present 51 = .ok (.ireturn, 1) := by decide +kernel
theorem dX6_placeOf_0 : decode cX6_placeOf 0 = .ok (.aload_n 0, 1) := by decide +kernel
theorem dX6_placeOf_1 : decode cX6_placeOf 1 = .ok (.getfield 37, 3) := by decide +kernel
theorem dX6_placeOf_4 : decode cX6_placeOf 4 = .ok (.iload_n 1, 1) := by decide +kernel
theorem dX6_placeOf_5 : decode cX6_placeOf 5 = .ok (.invokestatic 69, 3) := by decide +kernel
theorem dX6_placeOf_8 : decode cX6_placeOf 8 = .ok (.ifCond .eq 5, 3) := by decide +kernel
theorem dX6_placeOf_11 : decode cX6_placeOf 11 = .ok (.iconst 4, 1) := by decide +kernel
theorem dX6_placeOf_12 : decode cX6_placeOf 12 = .ok (.ireturn, 1) := by decide +kernel
theorem dX6_placeOf_13 : decode cX6_placeOf 13 = .ok (.aload_n 0, 1) := by decide +kernel
theorem dX6_placeOf_14 : decode cX6_placeOf 14 = .ok (.getfield 34, 3) := by decide +kernel
theorem dX6_placeOf_17 : decode cX6_placeOf 17 = .ok (.iload_n 1, 1) := by decide +kernel
theorem dX6_placeOf_18 : decode cX6_placeOf 18 = .ok (.invokestatic 69, 3) := by decide +kernel
theorem dX6_placeOf_21 : decode cX6_placeOf 21 = .ok (.ifCond .eq 5, 3) := by decide +kernel
theorem dX6_placeOf_24 : decode cX6_placeOf 24 = .ok (.iconst 3, 1) := by decide +kernel
theorem dX6_placeOf_25 : decode cX6_placeOf 25 = .ok (.ireturn, 1) := by decide +kernel
theorem dX6_placeOf_26 : decode cX6_placeOf 26 = .ok (.aload_n 0, 1) := by decide +kernel
theorem dX6_placeOf_27 : decode cX6_placeOf 27 = .ok (.getfield 31, 3) := by decide +kernel
theorem dX6_placeOf_30 : decode cX6_placeOf 30 = .ok (.iload_n 1, 1) := by decide +kernel
theorem dX6_placeOf_31 : decode cX6_placeOf 31 = .ok (.invokestatic 69, 3) := by decide +kernel
theorem dX6_placeOf_34 : decode cX6_placeOf 34 = .ok (.ifCond .eq 5, 3) := by decide +kernel
theorem dX6_placeOf_37 : decode cX6_placeOf 37 = .ok (.iconst 2, 1) := by decide +kernel
theorem dX6_placeOf_38 : decode cX6_placeOf 38 = .ok (.ireturn, 1) := by decide +kernel
theorem dX6_placeOf_39 : decode cX6_placeOf 39 = .ok (.aload_n 0, 1) := by decide +kernel
theorem dX6_placeOf_40 : decode cX6_placeOf 40 = .ok (.getfield 20, 3) := by decide +kernel
theorem dX6_placeOf_43 : decode cX6_placeOf 43 = .ok (.getfield 63, 3) := by decide +kernel
theorem dX6_placeOf_46 : decode cX6_placeOf 46 = .ok (.iload_n 1, 1) := by decide +kernel
theorem dX6_placeOf_47 : decode cX6_placeOf 47 = .ok (.invokevirtual 46, 3) := by decide +kernel
theorem dX6_placeOf_50 : decode cX6_placeOf 50 = .ok (.aload_n 0, 1) := by decide +kernel
theorem dX6_placeOf_51 : decode cX6_placeOf 51 = .ok (.getfield 27, 3) := by decide +kernel
theorem dX6_placeOf_54 : decode cX6_placeOf 54 = .ok (.if_icmp .gt 7, 3) := by decide +kernel
theorem dX6_placeOf_57 : decode cX6_placeOf 57 = .ok (.iconst 1, 1) := by decide +kernel
theorem dX6_placeOf_58 : decode cX6_placeOf 58 = .ok (.goto 4, 3) := by decide +kernel
theorem dX6_placeOf_61 : decode cX6_placeOf 61 = .ok (.iconst 0, 1) := by decide +kernel
theorem dX6_placeOf_62 : decode cX6_placeOf 62 = .ok (.ireturn, 1) := by decide +kernel
theorem dX6_totalOf_0 : decode cX6_totalOf 0 = .ok (.iload_n 1, 1) := by decide +kernel
theorem dX6_totalOf_1 : decode cX6_totalOf 1 = .ok (.aload_n 0, 1) := by decide +kernel
theorem dX6_totalOf_2 : decode cX6_totalOf 2 = .ok (.getfield 20, 3) := by decide +kernel
theorem dX6_totalOf_5 : decode cX6_totalOf 5 = .ok (.getfield 73, 3) := by decide +kernel
theorem dX6_totalOf_8 : decode cX6_totalOf 8 = .ok (.iand, 1) := by decide +kernel
theorem dX6_totalOf_9 : decode cX6_totalOf 9 = .ok (.invokestatic 76, 3) := by decide +kernel
theorem dX6_totalOf_12 : decode cX6_totalOf 12 = .ok (.iconst 2, 1) := by decide +kernel
theorem dX6_totalOf_13 : decode cX6_totalOf 13 = .ok (.if_icmp .lt 7, 3) := by decide +kernel
theorem dX6_totalOf_16 : decode cX6_totalOf 16 = .ok (.iconst 1, 1) := by decide +kernel
theorem dX6_totalOf_17 : decode cX6_totalOf 17 = .ok (.goto 4, 3) := by decide +kernel
theorem dX6_totalOf_20 : decode cX6_totalOf 20 = .ok (.iconst 0, 1) := by decide +kernel
theorem dX6_totalOf_21 : decode cX6_totalOf 21 = .ok (.istore_n 2, 1) := by decide +kernel
theorem dX6_totalOf_22 : decode cX6_totalOf 22 = .ok (.iconst 0, 1) := by decide +kernel
theorem dX6_totalOf_23 : decode cX6_totalOf 23 = .ok (.istore_n 3, 1) := by decide +kernel
theorem dX6_totalOf_24 : decode cX6_totalOf 24 = .ok (.iconst 0, 1) := by decide +kernel
theorem dX6_totalOf_25 : decode cX6_totalOf 25 = .ok (.istore 4, 2) := by decide +kernel
theorem dX6_totalOf_27 : decode cX6_totalOf 27 = .ok (.iload 4, 2) := by decide +kernel
theorem dX6_totalOf_29 : decode cX6_totalOf 29 = .ok (.aload_n 0, 1) := by decide +kernel
theorem dX6_totalOf_30 : decode cX6_totalOf 30 = .ok (.getfield 20, 3) := by decide +kernel
theorem dX6_totalOf_33 : decode cX6_totalOf 33 = .ok (.getfield 60, 3) := by decide +kernel
theorem dX6_totalOf_36 : decode cX6_totalOf 36 = .ok (.if_icmp .ge 28, 3) := by decide +kernel
theorem dX6_totalOf_39 : decode cX6_totalOf 39 = .ok (.iload_n 1, 1) := by decide +kernel
theorem dX6_totalOf_40 : decode cX6_totalOf 40 = .ok (.iload 4, 2) := by decide +kernel
theorem dX6_totalOf_42 : decode cX6_totalOf 42 = .ok (.invokestatic 69, 3) := by decide +kernel
theorem dX6_totalOf_45 : decode cX6_totalOf 45 = .ok (.ifCond .eq 13, 3) := by decide +kernel
theorem dX6_totalOf_48 : decode cX6_totalOf 48 = .ok (.iload_n 3, 1) := by decide +kernel
theorem dX6_totalOf_49 : decode cX6_totalOf 49 = .ok (.aload_n 0, 1) := by decide +kernel
theorem dX6_totalOf_50 : decode cX6_totalOf 50 = .ok (.iload 4, 2) := by decide +kernel
theorem dX6_totalOf_52 : decode cX6_totalOf 52 = .ok (.iload_n 2, 1) := by decide +kernel
theorem dX6_totalOf_53 : decode cX6_totalOf 53 = .ok (.invokevirtual 81, 3) := by decide +kernel
theorem dX6_totalOf_56 : decode cX6_totalOf 56 = .ok (.iadd, 1) := by decide +kernel
theorem dX6_totalOf_57 : decode cX6_totalOf 57 = .ok (.istore_n 3, 1) := by decide +kernel
theorem dX6_totalOf_58 : decode cX6_totalOf 58 = .ok (.iinc 4 1, 3) := by decide +kernel
theorem dX6_totalOf_61 : decode cX6_totalOf 61 = .ok (.goto (-34), 3) := by decide +kernel
theorem dX6_totalOf_64 : decode cX6_totalOf 64 = .ok (.iload_n 3, 1) := by decide +kernel
theorem dX6_totalOf_65 : decode cX6_totalOf 65 = .ok (.ireturn, 1) := by decide +kernel
theorem dX6_yearsOf_0 : decode cX6_yearsOf 0 = .ok (.aload_n 0, 1) := by decide +kernel
theorem dX6_yearsOf_1 : decode cX6_yearsOf 1 = .ok (.getfield 20, 3) := by decide +kernel
theorem dX6_yearsOf_4 : decode cX6_yearsOf 4 = .ok (.getfield 85, 3) := by decide +kernel
theorem dX6_yearsOf_7 : decode cX6_yearsOf 7 = .ok (.iload_n 1, 1) := by decide +kernel
theorem dX6_yearsOf_8 : decode cX6_yearsOf 8 = .ok (.invokevirtual 46, 3) := by decide +kernel
theorem dX6_yearsOf_11 : decode cX6_yearsOf 11 = .ok (.istore_n 3, 1) := by decide +kernel
theorem dX6_yearsOf_12 : decode cX6_yearsOf 12 = .ok (.aload_n 0, 1) := by decide +kernel
theorem dX6_yearsOf_13 : decode cX6_yearsOf 13 = .ok (.getfield 20, 3) := by decide +kernel
theorem dX6_yearsOf_16 : decode cX6_yearsOf 16 = .ok (.getfield 88, 3) := by decide +kernel
theorem dX6_yearsOf_19 : decode cX6_yearsOf 19 = .ok (.iload_n 1, 1) := by decide +kernel
theorem dX6_yearsOf_20 : decode cX6_yearsOf 20 = .ok (.invokevirtual 46, 3) := by decide +kernel
theorem dX6_yearsOf_23 : decode cX6_yearsOf 23 = .ok (.tableswitch 55 1 3 #[25, 27, 45], 25) := by decide +kernel
theorem dX6_yearsOf_48 : decode cX6_yearsOf 48 = .ok (.iconst 1, 1) := by decide +kernel
theorem dX6_yearsOf_49 : decode cX6_yearsOf 49 = .ok (.ireturn, 1) := by decide +kernel
theorem dX6_yearsOf_50 : decode cX6_yearsOf 50 = .ok (.iconst 0, 1) := by decide +kernel
theorem dX6_yearsOf_51 : decode cX6_yearsOf 51 = .ok (.iload_n 3, 1) := by decide +kernel
theorem dX6_yearsOf_52 : decode cX6_yearsOf 52 = .ok (.bipush 10, 2) := by decide +kernel
theorem dX6_yearsOf_54 : decode cX6_yearsOf 54 = .ok (.aload_n 0, 1) := by decide +kernel
theorem dX6_yearsOf_55 : decode cX6_yearsOf 55 = .ok (.getfield 14, 3) := by decide +kernel
theorem dX6_yearsOf_58 : decode cX6_yearsOf 58 = .ok (.iload_n 1, 1) := by decide +kernel
theorem dX6_yearsOf_59 : decode cX6_yearsOf 59 = .ok (.invokevirtual 46, 3) := by decide +kernel
theorem dX6_yearsOf_62 : decode cX6_yearsOf 62 = .ok (.imul, 1) := by decide +kernel
theorem dX6_yearsOf_63 : decode cX6_yearsOf 63 = .ok (.isub, 1) := by decide +kernel
theorem dX6_yearsOf_64 : decode cX6_yearsOf 64 = .ok (.invokestatic 91, 3) := by decide +kernel
theorem dX6_yearsOf_67 : decode cX6_yearsOf 67 = .ok (.ireturn, 1) := by decide +kernel
theorem dX6_yearsOf_68 : decode cX6_yearsOf 68 = .ok (.iload_n 2, 1) := by decide +kernel
theorem dX6_yearsOf_69 : decode cX6_yearsOf 69 = .ok (.ifCond .eq 7, 3) := by decide +kernel
theorem dX6_yearsOf_72 : decode cX6_yearsOf 72 = .ok (.iload_n 3, 1) := by decide +kernel
theorem dX6_yearsOf_73 : decode cX6_yearsOf 73 = .ok (.goto 4, 3) := by decide +kernel
theorem dX6_yearsOf_76 : decode cX6_yearsOf 76 = .ok (.iconst 0, 1) := by decide +kernel
theorem dX6_yearsOf_77 : decode cX6_yearsOf 77 = .ok (.ireturn, 1) := by decide +kernel
theorem dX6_yearsOf_78 : decode cX6_yearsOf 78 = .ok (.iload_n 3, 1) := by decide +kernel
theorem dX6_yearsOf_79 : decode cX6_yearsOf 79 = .ok (.ireturn, 1) := by decide +kernel
theorem dX6_costOf_0 : decode cX6_costOf 0 = .ok (.aload_n 0, 1) := by decide +kernel
theorem dX6_costOf_1 : decode cX6_costOf 1 = .ok (.iload_n 1, 1) := by decide +kernel
theorem dX6_costOf_2 : decode cX6_costOf 2 = .ok (.invokevirtual 97, 3) := by decide +kernel
theorem dX6_costOf_5 : decode cX6_costOf 5 = .ok (.ifCond .ne 6, 3) := by decide +kernel
theorem dX6_costOf_8 : decode cX6_costOf 8 = .ok (.bipush (-4), 2) := by decide +kernel
theorem dX6_costOf_10 : decode cX6_costOf 10 = .ok (.ireturn, 1) := by decide +kernel
theorem dX6_costOf_11 : decode cX6_costOf 11 = .ok (.aload_n 0, 1) := by decide +kernel
theorem dX6_costOf_12 : decode cX6_costOf 12 = .ok (.iload_n 1, 1) := by decide +kernel
theorem dX6_costOf_13 : decode cX6_costOf 13 = .ok (.invokevirtual 101, 3) := by decide +kernel
theorem dX6_costOf_16 : decode cX6_costOf 16 = .ok (.aload_n 0, 1) := by decide +kernel
theorem dX6_costOf_17 : decode cX6_costOf 17 = .ok (.getfield 20, 3) := by decide +kernel
theorem dX6_costOf_20 : decode cX6_costOf 20 = .ok (.getfield 104, 3) := by decide +kernel
theorem dX6_costOf_23 : decode cX6_costOf 23 = .ok (.isub, 1) := by decide +kernel
theorem dX6_costOf_24 : decode cX6_costOf 24 = .ok (.istore_n 2, 1) := by decide +kernel
theorem dX6_costOf_25 : decode cX6_costOf 25 = .ok (.iload_n 2, 1) := by decide +kernel
theorem dX6_costOf_26 : decode cX6_costOf 26 = .ok (.ifCond .lt 14, 3) := by decide +kernel
theorem dX6_costOf_29 : decode cX6_costOf 29 = .ok (.iload_n 2, 1) := by decide +kernel
theorem dX6_costOf_30 : decode cX6_costOf 30 = .ok (.aload_n 0, 1) := by decide +kernel
theorem dX6_costOf_31 : decode cX6_costOf 31 = .ok (.getfield 20, 3) := by decide +kernel
theorem dX6_costOf_34 : decode cX6_costOf 34 = .ok (.getfield 107, 3) := by decide +kernel
theorem dX6_costOf_37 : decode cX6_costOf 37 = .ok (.if_icmp .le 8, 3) := by decide +kernel
theorem dX6_costOf_40 : decode cX6_costOf 40 = .ok (.bipush (-4), 2) := by decide +kernel
theorem dX6_costOf_42 : decode cX6_costOf 42 = .ok (.goto 12, 3) := by decide +kernel
theorem dX6_costOf_45 : decode cX6_costOf 45 = .ok (.iload_n 2, 1) := by decide +kernel
theorem dX6_costOf_46 : decode cX6_costOf 46 = .ok (.aload_n 0, 1) := by decide +kernel
theorem dX6_costOf_47 : decode cX6_costOf 47 = .ok (.getfield 20, 3) := by decide +kernel
theorem dX6_costOf_50 : decode cX6_costOf 50 = .ok (.getfield 110, 3) := by decide +kernel
theorem dX6_costOf_53 : decode cX6_costOf 53 = .ok (.imul, 1) := by decide +kernel
theorem dX6_costOf_54 : decode cX6_costOf 54 = .ok (.ireturn, 1) := by decide +kernel
theorem dX6_partsNoParty_0 : decode cX6_partsNoParty 0 = .ok (.iconst 1, 1) := by decide +kernel
theorem dX6_partsNoParty_1 : decode cX6_partsNoParty 1 = .ok (.istore_n 2, 1) := by decide +kernel
theorem dX6_partsNoParty_2 : decode cX6_partsNoParty 2 = .ok (.iload_n 2, 1) := by decide +kernel
theorem dX6_partsNoParty_3 : decode cX6_partsNoParty 3 = .ok (.iconst 5, 1) := by decide +kernel
theorem dX6_partsNoParty_4 : decode cX6_partsNoParty 4 = .ok (.if_icmp .gt 44, 3) := by decide +kernel
theorem dX6_partsNoParty_7 : decode cX6_partsNoParty 7 = .ok (.aload_n 0, 1) := by decide +kernel
theorem dX6_partsNoParty_8 : decode cX6_partsNoParty 8 = .ok (.getfield 20, 3) := by decide +kernel
theorem dX6_partsNoParty_11 : decode cX6_partsNoParty 11 = .ok (.getfield 113, 3) := by decide +kernel
theorem dX6_partsNoParty_14 : decode cX6_partsNoParty 14 = .ok (.iload_n 2, 1) := by decide +kernel
theorem dX6_partsNoParty_15 : decode cX6_partsNoParty 15 = .ok (.invokevirtual 46, 3) := by decide +kernel
theorem dX6_partsNoParty_18 : decode cX6_partsNoParty 18 = .ok (.aload_n 0, 1) := by decide +kernel
theorem dX6_partsNoParty_19 : decode cX6_partsNoParty 19 = .ok (.invokevirtual 66, 3) := by decide +kernel
theorem dX6_partsNoParty_22 : decode cX6_partsNoParty 22 = .ok (.iand, 1) := by decide +kernel
theorem dX6_partsNoParty_23 : decode cX6_partsNoParty 23 = .ok (.istore_n 3, 1) := by decide +kernel
theorem dX6_partsNoParty_24 : decode cX6_partsNoParty 24 = .ok (.iload_n 3, 1) := by decide +kernel
theorem dX6_partsNoParty_25 : decode cX6_partsNoParty 25 = .ok (.iload_n 1, 1) := by decide +kernel
theorem dX6_partsNoParty_26 : decode cX6_partsNoParty 26 = .ok (.iand, 1) := by decide +kernel
theorem dX6_partsNoParty_27 : decode cX6_partsNoParty 27 = .ok (.istore 4, 2) := by decide +kernel
theorem dX6_partsNoParty_29 : decode cX6_partsNoParty 29 = .ok (.iload 4, 2) := by decide +kernel
theorem dX6_partsNoParty_31 : decode cX6_partsNoParty 31 = .ok (.ifCond .eq 11, 3) := by decide +kernel
theorem dX6_partsNoParty_34 : decode cX6_partsNoParty 34 = .ok (.iload 4, 2) := by decide +kernel
theorem dX6_partsNoParty_36 : decode cX6_partsNoParty 36 = .ok (.iload_n 3, 1) := by decide +kernel
theorem dX6_partsNoParty_37 : decode cX6_partsNoParty 37 = .ok (.if_icmp .eq 5, 3) := by decide +kernel
theorem dX6_partsNoParty_40 : decode cX6_partsNoParty 40 = .ok (.iconst 0, 1) := by decide +kernel
theorem dX6_partsNoParty_41 : decode cX6_partsNoParty 41 = .ok (.ireturn, 1) := by decide +kernel
theorem dX6_partsNoParty_42 : decode cX6_partsNoParty 42 = .ok (.iinc 2 1, 3) := by decide +kernel
theorem dX6_partsNoParty_45 : decode cX6_partsNoParty 45 = .ok (.goto (-43), 3) := by decide +kernel
theorem dX6_partsNoParty_48 : decode cX6_partsNoParty 48 = .ok (.iconst 1, 1) := by decide +kernel
theorem dX6_partsNoParty_49 : decode cX6_partsNoParty 49 = .ok (.ireturn, 1) := by decide +kernel
theorem dX6_takeOn_0 : decode cX6_takeOn 0 = .ok (.aload_n 0, 1) := by decide +kernel
theorem dX6_takeOn_1 : decode cX6_takeOn 1 = .ok (.dup, 1) := by decide +kernel
theorem dX6_takeOn_2 : decode cX6_takeOn 2 = .ok (.getfield 31, 3) := by decide +kernel
theorem dX6_takeOn_5 : decode cX6_takeOn 5 = .ok (.iconst 1, 1) := by decide +kernel
theorem dX6_takeOn_6 : decode cX6_takeOn 6 = .ok (.iload_n 1, 1) := by decide +kernel
theorem dX6_takeOn_7 : decode cX6_takeOn 7 = .ok (.ishl, 1) := by decide +kernel
theorem dX6_takeOn_8 : decode cX6_takeOn 8 = .ok (.ior, 1) := by decide +kernel
theorem dX6_takeOn_9 : decode cX6_takeOn 9 = .ok (.putfield 31, 3) := by decide +kernel
theorem dX6_takeOn_12 : decode cX6_takeOn 12 = .ok (.return_, 1) := by decide +kernel
theorem dX6_letOff_0 : decode cX6_letOff 0 = .ok (.aload_n 0, 1) := by decide +kernel
theorem dX6_letOff_1 : decode cX6_letOff 1 = .ok (.dup, 1) := by decide +kernel
theorem dX6_letOff_2 : decode cX6_letOff 2 = .ok (.getfield 31, 3) := by decide +kernel
theorem dX6_letOff_5 : decode cX6_letOff 5 = .ok (.iconst 1, 1) := by decide +kernel
theorem dX6_letOff_6 : decode cX6_letOff 6 = .ok (.iload_n 1, 1) := by decide +kernel
theorem dX6_letOff_7 : decode cX6_letOff 7 = .ok (.ishl, 1) := by decide +kernel
theorem dX6_letOff_8 : decode cX6_letOff 8 = .ok (.iconst (-1), 1) := by decide +kernel
theorem dX6_letOff_9 : decode cX6_letOff 9 = .ok (.ixor, 1) := by decide +kernel
theorem dX6_letOff_10 : decode cX6_letOff 10 = .ok (.iand, 1) := by decide +kernel
theorem dX6_letOff_11 : decode cX6_letOff 11 = .ok (.putfield 31, 3) := by decide +kernel
theorem dX6_letOff_14 : decode cX6_letOff 14 = .ok (.return_, 1) := by decide +kernel
theorem dX6_bury_0 : decode cX6_bury 0 = .ok (.aload_n 0, 1) := by decide +kernel
theorem dX6_bury_1 : decode cX6_bury 1 = .ok (.iload_n 1, 1) := by decide +kernel
theorem dX6_bury_2 : decode cX6_bury 2 = .ok (.invokevirtual 116, 3) := by decide +kernel
theorem dX6_bury_5 : decode cX6_bury 5 = .ok (.aload_n 0, 1) := by decide +kernel
theorem dX6_bury_6 : decode cX6_bury 6 = .ok (.dup, 1) := by decide +kernel
theorem dX6_bury_7 : decode cX6_bury 7 = .ok (.getfield 37, 3) := by decide +kernel
theorem dX6_bury_10 : decode cX6_bury 10 = .ok (.iconst 1, 1) := by decide +kernel
theorem dX6_bury_11 : decode cX6_bury 11 = .ok (.iload_n 1, 1) := by decide +kernel
theorem dX6_bury_12 : decode cX6_bury 12 = .ok (.ishl, 1) := by decide +kernel
theorem dX6_bury_13 : decode cX6_bury 13 = .ok (.ior, 1) := by decide +kernel
theorem dX6_bury_14 : decode cX6_bury 14 = .ok (.putfield 37, 3) := by decide +kernel
theorem dX6_bury_17 : decode cX6_bury 17 = .ok (.return_, 1) := by decide +kernel
theorem dX6_depart_0 : decode cX6_depart 0 = .ok (.iconst 0, 1) := by decide +kernel
theorem dX6_depart_1 : decode cX6_depart 1 = .ok (.istore_n 2, 1) := by decide +kernel
theorem dX6_depart_2 : decode cX6_depart 2 = .ok (.iload_n 2, 1) := by decide +kernel
theorem dX6_depart_3 : decode cX6_depart 3 = .ok (.aload_n 0, 1) := by decide +kernel
theorem dX6_depart_4 : decode cX6_depart 4 = .ok (.getfield 20, 3) := by decide +kernel
theorem dX6_depart_7 : decode cX6_depart 7 = .ok (.getfield 60, 3) := by decide +kernel
theorem dX6_depart_10 : decode cX6_depart 10 = .ok (.if_icmp .ge 69, 3) := by decide +kernel
theorem dX6_depart_13 : decode cX6_depart 13 = .ok (.aload_n 0, 1) := by decide +kernel
theorem dX6_depart_14 : decode cX6_depart 14 = .ok (.getfield 31, 3) := by decide +kernel
theorem dX6_depart_17 : decode cX6_depart 17 = .ok (.iload_n 2, 1) := by decide +kernel
theorem dX6_depart_18 : decode cX6_depart 18 = .ok (.invokestatic 69, 3) := by decide +kernel
theorem dX6_depart_21 : decode cX6_depart 21 = .ok (.ifCond .eq 52, 3) := by decide +kernel
theorem dX6_depart_24 : decode cX6_depart 24 = .ok (.aload_n 0, 1) := by decide +kernel
theorem dX6_depart_25 : decode cX6_depart 25 = .ok (.getfield 14, 3) := by decide +kernel
theorem dX6_depart_28 : decode cX6_depart 28 = .ok (.iload_n 2, 1) := by decide +kernel
theorem dX6_depart_29 : decode cX6_depart 29 = .ok (.aload_n 0, 1) := by decide +kernel
theorem dX6_depart_30 : decode cX6_depart 30 = .ok (.getfield 14, 3) := by decide +kernel
theorem dX6_depart_33 : decode cX6_depart 33 = .ok (.iload_n 2, 1) := by decide +kernel
theorem dX6_depart_34 : decode cX6_depart 34 = .ok (.invokevirtual 46, 3) := by decide +kernel
theorem dX6_depart_37 : decode cX6_depart 37 = .ok (.iconst 1, 1) := by decide +kernel
theorem dX6_depart_38 : decode cX6_depart 38 = .ok (.iadd, 1) := by decide +kernel
theorem dX6_depart_39 : decode cX6_depart 39 = .ok (.invokevirtual 50, 3) := by decide +kernel
theorem dX6_depart_42 : decode cX6_depart 42 = .ok (.aload_n 0, 1) := by decide +kernel
theorem dX6_depart_43 : decode cX6_depart 43 = .ok (.dup, 1) := by decide +kernel
theorem dX6_depart_44 : decode cX6_depart 44 = .ok (.getfield 34, 3) := by decide +kernel
theorem dX6_depart_47 : decode cX6_depart 47 = .ok (.aload_n 0, 1) := by decide +kernel
theorem dX6_depart_48 : decode cX6_depart 48 = .ok (.getfield 20, 3) := by decide +kernel
theorem dX6_depart_51 : decode cX6_depart 51 = .ok (.getfield 88, 3) := by decide +kernel
theorem dX6_depart_54 : decode cX6_depart 54 = .ok (.iload_n 2, 1) := by decide +kernel
theorem dX6_depart_55 : decode cX6_depart 55 = .ok (.invokevirtual 46, 3) := by decide +kernel
theorem dX6_depart_58 : decode cX6_depart 58 = .ok (.iconst 2, 1) := by decide +kernel
theorem dX6_depart_59 : decode cX6_depart 59 = .ok (.if_icmp .ne 7, 3) := by decide +kernel
theorem dX6_depart_62 : decode cX6_depart 62 = .ok (.iconst 0, 1) := by decide +kernel
theorem dX6_depart_63 : decode cX6_depart 63 = .ok (.goto 6, 3) := by decide +kernel
theorem dX6_depart_66 : decode cX6_depart 66 = .ok (.iconst 1, 1) := by decide +kernel
theorem dX6_depart_67 : decode cX6_depart 67 = .ok (.iload_n 2, 1) := by decide +kernel
theorem dX6_depart_68 : decode cX6_depart 68 = .ok (.ishl, 1) := by decide +kernel
theorem dX6_depart_69 : decode cX6_depart 69 = .ok (.ior, 1) := by decide +kernel
theorem dX6_depart_70 : decode cX6_depart 70 = .ok (.putfield 34, 3) := by decide +kernel
theorem dX6_depart_73 : decode cX6_depart 73 = .ok (.iinc 2 1, 3) := by decide +kernel
theorem dX6_depart_76 : decode cX6_depart 76 = .ok (.goto (-74), 3) := by decide +kernel
theorem dX6_depart_79 : decode cX6_depart 79 = .ok (.aload_n 0, 1) := by decide +kernel
theorem dX6_depart_80 : decode cX6_depart 80 = .ok (.iconst 0, 1) := by decide +kernel
theorem dX6_depart_81 : decode cX6_depart 81 = .ok (.putfield 31, 3) := by decide +kernel
theorem dX6_depart_84 : decode cX6_depart 84 = .ok (.aload_n 0, 1) := by decide +kernel
theorem dX6_depart_85 : decode cX6_depart 85 = .ok (.dup, 1) := by decide +kernel
theorem dX6_depart_86 : decode cX6_depart 86 = .ok (.getfield 40, 3) := by decide +kernel
theorem dX6_depart_89 : decode cX6_depart 89 = .ok (.iconst 1, 1) := by decide +kernel
theorem dX6_depart_90 : decode cX6_depart 90 = .ok (.iadd, 1) := by decide +kernel
theorem dX6_depart_91 : decode cX6_depart 91 = .ok (.putfield 40, 3) := by decide +kernel
theorem dX6_depart_94 : decode cX6_depart 94 = .ok (.aload_n 0, 1) := by decide +kernel
theorem dX6_depart_95 : decode cX6_depart 95 = .ok (.dup, 1) := by decide +kernel
theorem dX6_depart_96 : decode cX6_depart 96 = .ok (.getfield 43, 3) := by decide +kernel
theorem dX6_depart_99 : decode cX6_depart 99 = .ok (.iload_n 1, 1) := by decide +kernel
theorem dX6_depart_100 : decode cX6_depart 100 = .ok (.iadd, 1) := by decide +kernel
theorem dX6_depart_101 : decode cX6_depart 101 = .ok (.putfield 43, 3) := by decide +kernel
theorem dX6_depart_104 : decode cX6_depart 104 = .ok (.return_, 1) := by decide +kernel
theorem dX6_liveMinute_0 : decode cX6_liveMinute 0 = .ok (.aload_n 0, 1) := by decide +kernel
theorem dX6_liveMinute_1 : decode cX6_liveMinute 1 = .ok (.getfield 20, 3) := by decide +kernel
theorem dX6_liveMinute_4 : decode cX6_liveMinute 4 = .ok (.getfield 60, 3) := by decide +kernel
theorem dX6_liveMinute_7 : decode cX6_liveMinute 7 = .ok (.ifCond .le 30, 3) := by decide +kernel
theorem dX6_liveMinute_10 : decode cX6_liveMinute 10 = .ok (.aload_n 0, 1) := by decide +kernel
theorem dX6_liveMinute_11 : decode cX6_liveMinute 11 = .ok (.iload_n 1, 1) := by decide +kernel
theorem dX6_liveMinute_12 : decode cX6_liveMinute 12 = .ok (.aload_n 0, 1) := by decide +kernel
theorem dX6_liveMinute_13 : decode cX6_liveMinute 13 = .ok (.getfield 20, 3) := by decide +kernel
theorem dX6_liveMinute_16 : decode cX6_liveMinute 16 = .ok (.getfield 60, 3) := by decide +kernel
theorem dX6_liveMinute_19 : decode cX6_liveMinute 19 = .ok (.irem, 1) := by decide +kernel
theorem dX6_liveMinute_20 : decode cX6_liveMinute 20 = .ok (.iload_n 1, 1) := by decide +kernel
theorem dX6_liveMinute_21 : decode cX6_liveMinute 21 = .ok (.bipush 16, 2) := by decide +kernel
theorem dX6_liveMinute_23 : decode cX6_liveMinute 23 = .ok (.idiv, 1) := by decide +kernel
theorem dX6_liveMinute_24 : decode cX6_liveMinute 24 = .ok (.iconst 2, 1) := by decide +kernel
theorem dX6_liveMinute_25 : decode cX6_liveMinute 25 = .ok (.irem, 1) := by decide +kernel
theorem dX6_liveMinute_26 : decode cX6_liveMinute 26 = .ok (.ifCond .ne 7, 3) := by decide +kernel
theorem dX6_liveMinute_29 : decode cX6_liveMinute 29 = .ok (.iconst 1, 1) := by decide +kernel
theorem dX6_liveMinute_30 : decode cX6_liveMinute 30 = .ok (.goto 4, 3) := by decide +kernel
theorem dX6_liveMinute_33 : decode cX6_liveMinute 33 = .ok (.iconst 0, 1) := by decide +kernel
theorem dX6_liveMinute_34 : decode cX6_liveMinute 34 = .ok (.invokevirtual 119, 3) := by decide +kernel
theorem dX6_liveMinute_37 : decode cX6_liveMinute 37 = .ok (.aload_n 0, 1) := by decide +kernel
theorem dX6_liveMinute_38 : decode cX6_liveMinute 38 = .ok (.aload_n 0, 1) := by decide +kernel
theorem dX6_liveMinute_39 : decode cX6_liveMinute 39 = .ok (.getfield 31, 3) := by decide +kernel
theorem dX6_liveMinute_42 : decode cX6_liveMinute 42 = .ok (.invokevirtual 123, 3) := by decide +kernel
theorem dX6_liveMinute_45 : decode cX6_liveMinute 45 = .ok (.istore_n 2, 1) := by decide +kernel
theorem dX6_liveMinute_46 : decode cX6_liveMinute 46 = .ok (.iload_n 2, 1) := by decide +kernel
theorem dX6_liveMinute_47 : decode cX6_liveMinute 47 = .ok (.bipush (-4), 2) := by decide +kernel
theorem dX6_liveMinute_49 : decode cX6_liveMinute 49 = .ok (.if_icmp .eq 8, 3) := by decide +kernel
theorem dX6_liveMinute_52 : decode cX6_liveMinute 52 = .ok (.aload_n 0, 1) := by decide +kernel
theorem dX6_liveMinute_53 : decode cX6_liveMinute 53 = .ok (.iload_n 2, 1) := by decide +kernel
theorem dX6_liveMinute_54 : decode cX6_liveMinute 54 = .ok (.invokevirtual 126, 3) := by decide +kernel
theorem dX6_liveMinute_57 : decode cX6_liveMinute 57 = .ok (.aload_n 0, 1) := by decide +kernel
theorem dX6_liveMinute_58 : decode cX6_liveMinute 58 = .ok (.dup, 1) := by decide +kernel
theorem dX6_liveMinute_59 : decode cX6_liveMinute 59 = .ok (.getfield 27, 3) := by decide +kernel
theorem dX6_liveMinute_62 : decode cX6_liveMinute 62 = .ok (.iconst 1, 1) := by decide +kernel
theorem dX6_liveMinute_63 : decode cX6_liveMinute 63 = .ok (.iadd, 1) := by decide +kernel
theorem dX6_liveMinute_64 : decode cX6_liveMinute 64 = .ok (.putfield 27, 3) := by decide +kernel
theorem dX6_liveMinute_67 : decode cX6_liveMinute 67 = .ok (.return_, 1) := by decide +kernel
theorem dX6_move_0 : decode cX6_move 0 = .ok (.aload_n 0, 1) := by decide +kernel
theorem dX6_move_1 : decode cX6_move 1 = .ok (.iload_n 1, 1) := by decide +kernel
theorem dX6_move_2 : decode cX6_move 2 = .ok (.invokevirtual 129, 3) := by decide +kernel
theorem dX6_move_5 : decode cX6_move 5 = .ok (.istore_n 3, 1) := by decide +kernel
theorem dX6_move_6 : decode cX6_move 6 = .ok (.iload_n 3, 1) := by decide +kernel
theorem dX6_move_7 : decode cX6_move 7 = .ok (.iconst 1, 1) := by decide +kernel
theorem dX6_move_8 : decode cX6_move 8 = .ok (.if_icmp .ne 11, 3) := by decide +kernel
theorem dX6_move_11 : decode cX6_move 11 = .ok (.aload_n 0, 1) := by decide +kernel
theorem dX6_move_12 : decode cX6_move 12 = .ok (.iload_n 1, 1) := by decide +kernel
theorem dX6_move_13 : decode cX6_move 13 = .ok (.invokevirtual 132, 3) := by decide +kernel
theorem dX6_move_16 : decode cX6_move 16 = .ok (.goto 17, 3) := by decide +kernel
theorem dX6_move_19 : decode cX6_move 19 = .ok (.iload_n 3, 1) := by decide +kernel
theorem dX6_move_20 : decode cX6_move 20 = .ok (.iconst 2, 1) := by decide +kernel
theorem dX6_move_21 : decode cX6_move 21 = .ok (.if_icmp .ne 12, 3) := by decide +kernel
theorem dX6_move_24 : decode cX6_move 24 = .ok (.iload_n 2, 1) := by decide +kernel
theorem dX6_move_25 : decode cX6_move 25 = .ok (.ifCond .eq 8, 3) := by decide +kernel
theorem dX6_move_28 : decode cX6_move 28 = .ok (.aload_n 0, 1) := by decide +kernel
theorem dX6_move_29 : decode cX6_move 29 = .ok (.iload_n 1, 1) := by decide +kernel
theorem dX6_move_30 : decode cX6_move 30 = .ok (.invokevirtual 116, 3) := by decide +kernel
theorem dX6_move_33 : decode cX6_move 33 = .ok (.return_, 1) := by decide +kernel
theorem dX7_init_0 : decode cX7_init 0 = .ok (.aload_n 0, 1) := by decide +kernel
theorem dX7_init_1 : decode cX7_init 1 = .ok (.invokespecial 3, 3) := by decide +kernel
theorem dX7_init_4 : decode cX7_init 4 = .ok (.aload_n 0, 1) := by decide +kernel
theorem dX7_init_5 : decode cX7_init 5 = .ok (.new 9, 3) := by decide +kernel
theorem dX7_init_8 : decode cX7_init 8 = .ok (.dup, 1) := by decide +kernel
theorem dX7_init_9 : decode cX7_init 9 = .ok (.sipush 200, 3) := by decide +kernel
theorem dX7_init_12 : decode cX7_init 12 = .ok (.invokespecial 11, 3) := by decide +kernel
theorem dX7_init_15 : decode cX7_init 15 = .ok (.putfield 14, 3) := by decide +kernel
theorem dX7_init_18 : decode cX7_init 18 = .ok (.return_, 1) := by decide +kernel
theorem dX7_length_0 : decode cX7_length 0 = .ok (.aload_n 0, 1) := by decide +kernel
theorem dX7_length_1 : decode cX7_length 1 = .ok (.getfield 20, 3) := by decide +kernel
theorem dX7_length_4 : decode cX7_length 4 = .ok (.ireturn, 1) := by decide +kernel
theorem dX7_clear_0 : decode cX7_clear 0 = .ok (.aload_n 0, 1) := by decide +kernel
theorem dX7_clear_1 : decode cX7_clear 1 = .ok (.iconst 0, 1) := by decide +kernel
theorem dX7_clear_2 : decode cX7_clear 2 = .ok (.putfield 20, 3) := by decide +kernel
theorem dX7_clear_5 : decode cX7_clear 5 = .ok (.return_, 1) := by decide +kernel
theorem dX7_add_0 : decode cX7_add 0 = .ok (.aload_n 0, 1) := by decide +kernel
theorem dX7_add_1 : decode cX7_add 1 = .ok (.getfield 20, 3) := by decide +kernel
theorem dX7_add_4 : decode cX7_add 4 = .ok (.sipush 200, 3) := by decide +kernel
theorem dX7_add_7 : decode cX7_add 7 = .ok (.if_icmp .ge 25, 3) := by decide +kernel
theorem dX7_add_10 : decode cX7_add 10 = .ok (.aload_n 0, 1) := by decide +kernel
theorem dX7_add_11 : decode cX7_add 11 = .ok (.getfield 14, 3) := by decide +kernel
theorem dX7_add_14 : decode cX7_add 14 = .ok (.aload_n 0, 1) := by decide +kernel
theorem dX7_add_15 : decode cX7_add 15 = .ok (.getfield 20, 3) := by decide +kernel
theorem dX7_add_18 : decode cX7_add 18 = .ok (.iload_n 1, 1) := by decide +kernel
theorem dX7_add_19 : decode cX7_add 19 = .ok (.invokevirtual 24, 3) := by decide +kernel
theorem dX7_add_22 : decode cX7_add 22 = .ok (.aload_n 0, 1) := by decide +kernel
theorem dX7_add_23 : decode cX7_add 23 = .ok (.dup, 1) := by decide +kernel
theorem dX7_add_24 : decode cX7_add 24 = .ok (.getfield 20, 3) := by decide +kernel
theorem dX7_add_27 : decode cX7_add 27 = .ok (.iconst 1, 1) := by decide +kernel
theorem dX7_add_28 : decode cX7_add 28 = .ok (.iadd, 1) := by decide +kernel
theorem dX7_add_29 : decode cX7_add 29 = .ok (.putfield 20, 3) := by decide +kernel
theorem dX7_add_32 : decode cX7_add 32 = .ok (.return_, 1) := by decide +kernel
theorem dX7_letterAt_0 : decode cX7_letterAt 0 = .ok (.iload_n 1, 1) := by decide +kernel
theorem dX7_letterAt_1 : decode cX7_letterAt 1 = .ok (.aload_n 0, 1) := by decide +kernel
theorem dX7_letterAt_2 : decode cX7_letterAt 2 = .ok (.getfield 20, 3) := by decide +kernel
theorem dX7_letterAt_5 : decode cX7_letterAt 5 = .ok (.if_icmp .ge 14, 3) := by decide +kernel
theorem dX7_letterAt_8 : decode cX7_letterAt 8 = .ok (.aload_n 0, 1) := by decide +kernel
theorem dX7_letterAt_9 : decode cX7_letterAt 9 = .ok (.getfield 14, 3) := by decide +kernel
theorem dX7_letterAt_12 : decode cX7_letterAt 12 = .ok (.iload_n 1, 1) := by decide +kernel
theorem dX7_letterAt_13 : decode cX7_letterAt 13 = .ok (.invokevirtual 28, 3) := by decide +kernel
theorem dX7_letterAt_16 : decode cX7_letterAt 16 = .ok (.goto 4, 3) := by decide +kernel
theorem dX7_letterAt_19 : decode cX7_letterAt 19 = .ok (.iconst 0, 1) := by decide +kernel
theorem dX7_letterAt_20 : decode cX7_letterAt 20 = .ok (.ireturn, 1) := by decide +kernel
theorem dX8_init_0 : decode cX8_init 0 = .ok (.aload_n 0, 1) := by decide +kernel
theorem dX8_init_1 : decode cX8_init 1 = .ok (.invokespecial 3, 3) := by decide +kernel
theorem dX8_init_4 : decode cX8_init 4 = .ok (.aload_n 0, 1) := by decide +kernel
theorem dX8_init_5 : decode cX8_init 5 = .ok (.new 9, 3) := by decide +kernel
theorem dX8_init_8 : decode cX8_init 8 = .ok (.dup, 1) := by decide +kernel
theorem dX8_init_9 : decode cX8_init 9 = .ok (.iconst 5, 1) := by decide +kernel
theorem dX8_init_10 : decode cX8_init 10 = .ok (.invokespecial 11, 3) := by decide +kernel
theorem dX8_init_13 : decode cX8_init 13 = .ok (.putfield 14, 3) := by decide +kernel
theorem dX8_init_16 : decode cX8_init 16 = .ok (.aload_n 0, 1) := by decide +kernel
theorem dX8_init_17 : decode cX8_init 17 = .ok (.new 9, 3) := by decide +kernel
theorem dX8_init_20 : decode cX8_init 20 = .ok (.dup, 1) := by decide +kernel
theorem dX8_init_21 : decode cX8_init 21 = .ok (.iconst 5, 1) := by decide +kernel
theorem dX8_init_22 : decode cX8_init 22 = .ok (.invokespecial 11, 3) := by decide +kernel
theorem dX8_init_25 : decode cX8_init 25 = .ok (.putfield 20, 3) := by decide +kernel
theorem dX8_init_28 : decode cX8_init 28 = .ok (.return_, 1) := by decide +kernel
theorem dX8_clear_0 : decode cX8_clear 0 = .ok (.aload_n 0, 1) := by decide +kernel
theorem dX8_clear_1 : decode cX8_clear 1 = .ok (.iconst 0, 1) := by decide +kernel
theorem dX8_clear_2 : decode cX8_clear 2 = .ok (.putfield 23, 3) := by decide +kernel
theorem dX8_clear_5 : decode cX8_clear 5 = .ok (.return_, 1) := by decide +kernel
theorem dX8_add_0 : decode cX8_add 0 = .ok (.aload_n 0, 1) := by decide +kernel
theorem dX8_add_1 : decode cX8_add 1 = .ok (.getfield 23, 3) := by decide +kernel
theorem dX8_add_4 : decode cX8_add 4 = .ok (.iconst 5, 1) := by decide +kernel
theorem dX8_add_5 : decode cX8_add 5 = .ok (.if_icmp .ge 37, 3) := by decide +kernel
theorem dX8_add_8 : decode cX8_add 8 = .ok (.aload_n 0, 1) := by decide +kernel
theorem dX8_add_9 : decode cX8_add 9 = .ok (.getfield 14, 3) := by decide +kernel
theorem dX8_add_12 : decode cX8_add 12 = .ok (.aload_n 0, 1) := by decide +kernel
theorem dX8_add_13 : decode cX8_add 13 = .ok (.getfield 23, 3) := by decide +kernel
theorem dX8_add_16 : decode cX8_add 16 = .ok (.iload_n 1, 1) := by decide +kernel
theorem dX8_add_17 : decode cX8_add 17 = .ok (.invokevirtual 27, 3) := by decide +kernel
theorem dX8_add_20 : decode cX8_add 20 = .ok (.aload_n 0, 1) := by decide +kernel
theorem dX8_add_21 : decode cX8_add 21 = .ok (.getfield 20, 3) := by decide +kernel
theorem dX8_add_24 : decode cX8_add 24 = .ok (.aload_n 0, 1) := by decide +kernel
theorem dX8_add_25 : decode cX8_add 25 = .ok (.getfield 23, 3) := by decide +kernel
theorem dX8_add_28 : decode cX8_add 28 = .ok (.iload_n 2, 1) := by decide +kernel
theorem dX8_add_29 : decode cX8_add 29 = .ok (.invokevirtual 27, 3) := by decide +kernel
theorem dX8_add_32 : decode cX8_add 32 = .ok (.aload_n 0, 1) := by decide +kernel
theorem dX8_add_33 : decode cX8_add 33 = .ok (.dup, 1) := by decide +kernel
theorem dX8_add_34 : decode cX8_add 34 = .ok (.getfield 23, 3) := by decide +kernel
theorem dX8_add_37 : decode cX8_add 37 = .ok (.iconst 1, 1) := by decide +kernel
theorem dX8_add_38 : decode cX8_add 38 = .ok (.iadd, 1) := by decide +kernel
theorem dX8_add_39 : decode cX8_add 39 = .ok (.putfield 23, 3) := by decide +kernel
theorem dX8_add_42 : decode cX8_add 42 = .ok (.return_, 1) := by decide +kernel
theorem dX8_isSoIf_0 : decode cX8_isSoIf 0 = .ok (.iconst 0, 1) := by decide +kernel
theorem dX8_isSoIf_1 : decode cX8_isSoIf 1 = .ok (.istore_n 3, 1) := by decide +kernel
theorem dX8_isSoIf_2 : decode cX8_isSoIf 2 = .ok (.iload_n 3, 1) := by decide +kernel
theorem dX8_isSoIf_3 : decode cX8_isSoIf 3 = .ok (.aload_n 0, 1) := by decide +kernel
theorem dX8_isSoIf_4 : decode cX8_isSoIf 4 = .ok (.getfield 23, 3) := by decide +kernel
theorem dX8_isSoIf_7 : decode cX8_isSoIf 7 = .ok (.if_icmp .ge 42, 3) := by decide +kernel
theorem dX8_isSoIf_10 : decode cX8_isSoIf 10 = .ok (.aload_n 0, 1) := by decide +kernel
theorem dX8_isSoIf_11 : decode cX8_isSoIf 11 = .ok (.getfield 20, 3) := by decide +kernel
theorem dX8_isSoIf_14 : decode cX8_isSoIf 14 = .ok (.iload_n 3, 1) := by decide +kernel
theorem dX8_isSoIf_15 : decode cX8_isSoIf 15 = .ok (.invokevirtual 31, 3) := by decide +kernel
theorem dX8_isSoIf_18 : decode cX8_isSoIf 18 = .ok (.aload_n 0, 1) := by decide +kernel
theorem dX8_isSoIf_19 : decode cX8_isSoIf 19 = .ok (.getfield 14, 3) := by decide +kernel
theorem dX8_isSoIf_22 : decode cX8_isSoIf 22 = .ok (.iload_n 3, 1) := by decide +kernel
theorem dX8_isSoIf_23 : decode cX8_isSoIf 23 = .ok (.invokevirtual 31, 3) := by decide +kernel
theorem dX8_isSoIf_26 : decode cX8_isSoIf 26 = .ok (.iload_n 1, 1) := by decide +kernel
theorem dX8_isSoIf_27 : decode cX8_isSoIf 27 = .ok (.invokestatic 35, 3) := by decide +kernel
theorem dX8_isSoIf_30 : decode cX8_isSoIf 30 = .ok (.ifCond .eq 7, 3) := by decide +kernel
theorem dX8_isSoIf_33 : decode cX8_isSoIf 33 = .ok (.iload_n 2, 1) := by decide +kernel
theorem dX8_isSoIf_34 : decode cX8_isSoIf 34 = .ok (.goto 4, 3) := by decide +kernel
theorem dX8_isSoIf_37 : decode cX8_isSoIf 37 = .ok (.iconst 0, 1) := by decide +kernel
theorem dX8_isSoIf_38 : decode cX8_isSoIf 38 = .ok (.if_icmp .eq 5, 3) := by decide +kernel
theorem dX8_isSoIf_41 : decode cX8_isSoIf 41 = .ok (.iconst 0, 1) := by decide +kernel
theorem dX8_isSoIf_42 : decode cX8_isSoIf 42 = .ok (.ireturn, 1) := by decide +kernel
theorem dX8_isSoIf_43 : decode cX8_isSoIf 43 = .ok (.iinc 3 1, 3) := by decide +kernel
theorem dX8_isSoIf_46 : decode cX8_isSoIf 46 = .ok (.goto (-44), 3) := by decide +kernel
theorem dX8_isSoIf_49 : decode cX8_isSoIf 49 = .ok (.iconst 1, 1) := by decide +kernel
theorem dX8_isSoIf_50 : decode cX8_isSoIf 50 = .ok (.ireturn, 1) := by decide +kernel
theorem dX9_init_0 : decode cX9_init 0 = .ok (.aload_n 0, 1) := by decide +kernel
theorem dX9_init_1 : decode cX9_init 1 = .ok (.invokespecial 3, 3) := by decide +kernel
theorem dX9_init_4 : decode cX9_init 4 = .ok (.aload_n 0, 1) := by decide +kernel
theorem dX9_init_5 : decode cX9_init 5 = .ok (.new 9, 3) := by decide +kernel
theorem dX9_init_8 : decode cX9_init 8 = .ok (.dup, 1) := by decide +kernel
theorem dX9_init_9 : decode cX9_init 9 = .ok (.invokespecial 11, 3) := by decide +kernel
theorem dX9_init_12 : decode cX9_init 12 = .ok (.putfield 12, 3) := by decide +kernel
theorem dX9_init_15 : decode cX9_init 15 = .ok (.aload_n 0, 1) := by decide +kernel
theorem dX9_init_16 : decode cX9_init 16 = .ok (.new 16, 3) := by decide +kernel
theorem dX9_init_19 : decode cX9_init 19 = .ok (.dup, 1) := by decide +kernel
theorem dX9_init_20 : decode cX9_init 20 = .ok (.aload_n 0, 1) := by decide +kernel
theorem dX9_init_21 : decode cX9_init 21 = .ok (.getfield 12, 3) := by decide +kernel
theorem dX9_init_24 : decode cX9_init 24 = .ok (.invokespecial 18, 3) := by decide +kernel
theorem dX9_init_27 : decode cX9_init 27 = .ok (.putfield 21, 3) := by decide +kernel
theorem dX9_init_30 : decode cX9_init 30 = .ok (.aload_n 0, 1) := by decide +kernel
theorem dX9_init_31 : decode cX9_init 31 = .ok (.new 25, 3) := by decide +kernel
theorem dX9_init_34 : decode cX9_init 34 = .ok (.dup, 1) := by decide +kernel
theorem dX9_init_35 : decode cX9_init 35 = .ok (.invokespecial 27, 3) := by decide +kernel
theorem dX9_init_38 : decode cX9_init 38 = .ok (.putfield 28, 3) := by decide +kernel
theorem dX9_init_41 : decode cX9_init 41 = .ok (.aload_n 0, 1) := by decide +kernel
theorem dX9_init_42 : decode cX9_init 42 = .ok (.new 25, 3) := by decide +kernel
theorem dX9_init_45 : decode cX9_init 45 = .ok (.dup, 1) := by decide +kernel
theorem dX9_init_46 : decode cX9_init 46 = .ok (.invokespecial 27, 3) := by decide +kernel
theorem dX9_init_49 : decode cX9_init 49 = .ok (.putfield 32, 3) := by decide +kernel
theorem dX9_init_52 : decode cX9_init 52 = .ok (.aload_n 0, 1) := by decide +kernel
theorem dX9_init_53 : decode cX9_init 53 = .ok (.new 35, 3) := by decide +kernel
theorem dX9_init_56 : decode cX9_init 56 = .ok (.dup, 1) := by decide +kernel
theorem dX9_init_57 : decode cX9_init 57 = .ok (.aload_n 0, 1) := by decide +kernel
theorem dX9_init_58 : decode cX9_init 58 = .ok (.getfield 28, 3) := by decide +kernel
theorem dX9_init_61 : decode cX9_init 61 = .ok (.invokespecial 37, 3) := by decide +kernel
theorem dX9_init_64 : decode cX9_init 64 = .ok (.putfield 40, 3) := by decide +kernel
theorem dX9_init_67 : decode cX9_init 67 = .ok (.aload_n 0, 1) := by decide +kernel
theorem dX9_init_68 : decode cX9_init 68 = .ok (.new 35, 3) := by decide +kernel
theorem dX9_init_71 : decode cX9_init 71 = .ok (.dup, 1) := by decide +kernel
theorem dX9_init_72 : decode cX9_init 72 = .ok (.aload_n 0, 1) := by decide +kernel
theorem dX9_init_73 : decode cX9_init 73 = .ok (.getfield 28, 3) := by decide +kernel
theorem dX9_init_76 : decode cX9_init 76 = .ok (.invokespecial 37, 3) := by decide +kernel
theorem dX9_init_79 : decode cX9_init 79 = .ok (.putfield 44, 3) := by decide +kernel
theorem dX9_init_82 : decode cX9_init 82 = .ok (.aload_n 0, 1) := by decide +kernel
theorem dX9_init_83 : decode cX9_init 83 = .ok (.new 47, 3) := by decide +kernel
theorem dX9_init_86 : decode cX9_init 86 = .ok (.dup, 1) := by decide +kernel
theorem dX9_init_87 : decode cX9_init 87 = .ok (.bipush 8, 2) := by decide +kernel
theorem dX9_init_89 : decode cX9_init 89 = .ok (.aload_n 0, 1) := by decide +kernel
theorem dX9_init_90 : decode cX9_init 90 = .ok (.getfield 28, 3) := by decide +kernel
theorem dX9_init_93 : decode cX9_init 93 = .ok (.invokespecial 49, 3) := by decide +kernel
theorem dX9_init_96 : decode cX9_init 96 = .ok (.putfield 52, 3) := by decide +kernel
theorem dX9_init_99 : decode cX9_init 99 = .ok (.aload_n 0, 1) := by decide +kernel
theorem dX9_init_100 : decode cX9_init 100 = .ok (.new 47, 3) := by decide +kernel
theorem dX9_init_103 : decode cX9_init 103 = .ok (.dup, 1) := by decide +kernel
theorem dX9_init_104 : decode cX9_init 104 = .ok (.iconst 2, 1) := by decide +kernel
theorem dX9_init_105 : decode cX9_init 105 = .ok (.aload_n 0, 1) := by decide +kernel
theorem dX9_init_106 : decode cX9_init 106 = .ok (.getfield 28, 3) := by decide +kernel
theorem dX9_init_109 : decode cX9_init 109 = .ok (.invokespecial 49, 3) := by decide +kernel
theorem dX9_init_112 : decode cX9_init 112 = .ok (.putfield 56, 3) := by decide +kernel
theorem dX9_init_115 : decode cX9_init 115 = .ok (.aload_n 0, 1) := by decide +kernel
theorem dX9_init_116 : decode cX9_init 116 = .ok (.new 59, 3) := by decide +kernel
theorem dX9_init_119 : decode cX9_init 119 = .ok (.dup, 1) := by decide +kernel
theorem dX9_init_120 : decode cX9_init 120 = .ok (.invokespecial 61, 3) := by decide +kernel
theorem dX9_init_123 : decode cX9_init 123 = .ok (.putfield 62, 3) := by decide +kernel
theorem dX9_init_126 : decode cX9_init 126 = .ok (.aload_n 0, 1) := by decide +kernel
theorem dX9_init_127 : decode cX9_init 127 = .ok (.new 66, 3) := by decide +kernel
theorem dX9_init_130 : decode cX9_init 130 = .ok (.dup, 1) := by decide +kernel
theorem dX9_init_131 : decode cX9_init 131 = .ok (.aload_n 0, 1) := by decide +kernel
theorem dX9_init_132 : decode cX9_init 132 = .ok (.getfield 28, 3) := by decide +kernel
theorem dX9_init_135 : decode cX9_init 135 = .ok (.aload_n 0, 1) := by decide +kernel
theorem dX9_init_136 : decode cX9_init 136 = .ok (.getfield 40, 3) := by decide +kernel
theorem dX9_init_139 : decode cX9_init 139 = .ok (.invokespecial 68, 3) := by decide +kernel
theorem dX9_init_142 : decode cX9_init 142 = .ok (.putfield 71, 3) := by decide +kernel
theorem dX9_init_145 : decode cX9_init 145 = .ok (.aload_n 0, 1) := by decide +kernel
theorem dX9_init_146 : decode cX9_init 146 = .ok (.new 75, 3) := by decide +kernel
theorem dX9_init_149 : decode cX9_init 149 = .ok (.dup, 1) := by decide +kernel
theorem dX9_init_150 : decode cX9_init 150 = .ok (.aload_n 0, 1) := by decide +kernel
theorem dX9_init_151 : decode cX9_init 151 = .ok (.getfield 40, 3) := by decide +kernel
theorem dX9_init_154 : decode cX9_init 154 = .ok (.invokespecial 77, 3) := by decide +kernel
theorem dX9_init_157 : decode cX9_init 157 = .ok (.putfield 80, 3) := by decide +kernel
theorem dX9_init_160 : decode cX9_init 160 = .ok (.iconst 0, 1) := by decide +kernel
theorem dX9_init_161 : decode cX9_init 161 = .ok (.istore_n 1, 1) := by decide +kernel
theorem dX9_init_162 : decode cX9_init 162 = .ok (.iload_n 1, 1) := by decide +kernel
theorem dX9_init_163 : decode cX9_init 163 = .ok (.ldc 84, 2) := by decide +kernel
theorem dX9_init_165 : decode cX9_init 165 = .ok (.invokevirtual 86, 3) := by decide +kernel
theorem dX9_init_168 : decode cX9_init 168 = .ok (.if_icmp .ge 22, 3) := by decide +kernel
theorem dX9_init_171 : decode cX9_init 171 = .ok (.aload_n 0, 1) := by decide +kernel
theorem dX9_init_172 : decode cX9_init 172 = .ok (.getfield 12, 3) := by decide +kernel
theorem dX9_init_175 : decode cX9_init 175 = .ok (.ldc 84, 2) := by decide +kernel
theorem dX9_init_177 : decode cX9_init 177 = .ok (.iload_n 1, 1) := by decide +kernel
theorem dX9_init_178 : decode cX9_init 178 = .ok (.invokevirtual 92, 3) := by decide +kernel
theorem dX9_init_181 : decode cX9_init 181 = .ok (.invokevirtual 96, 3) := by decide +kernel
theorem dX9_init_184 : decode cX9_init 184 = .ok (.iinc 1 1, 3) := by decide +kernel
theorem dX9_init_187 : decode cX9_init 187 = .ok (.goto (-25), 3) := by decide +kernel
theorem dX9_init_190 : decode cX9_init 190 = .ok (.aload_n 0, 1) := by decide +kernel
theorem dX9_init_191 : decode cX9_init 191 = .ok (.getfield 21, 3) := by decide +kernel
theorem dX9_init_194 : decode cX9_init 194 = .ok (.aload_n 0, 1) := by decide +kernel
theorem dX9_init_195 : decode cX9_init 195 = .ok (.getfield 28, 3) := by decide +kernel
theorem dX9_init_198 : decode cX9_init 198 = .ok (.invokevirtual 100, 3) := by decide +kernel
theorem dX9_init_201 : decode cX9_init 201 = .ok (.pop, 1) := by decide +kernel
theorem dX9_init_202 : decode cX9_init 202 = .ok (.aload_n 0, 1) := by decide +kernel
theorem dX9_init_203 : decode cX9_init 203 = .ok (.getfield 12, 3) := by decide +kernel
theorem dX9_init_206 : decode cX9_init 206 = .ok (.invokevirtual 104, 3) := by decide +kernel
theorem dX9_init_209 : decode cX9_init 209 = .ok (.return_, 1) := by decide +kernel
theorem dX9_write_0 : decode cX9_write 0 = .ok (.iload_n 1, 1) := by decide +kernel
theorem dX9_write_1 : decode cX9_write 1 = .ok (.bipush 32, 2) := by decide +kernel
theorem dX9_write_3 : decode cX9_write 3 = .ok (.if_icmp .lt 9, 3) := by decide +kernel
theorem dX9_write_6 : decode cX9_write 6 = .ok (.iload_n 1, 1) := by decide +kernel
theorem dX9_write_7 : decode cX9_write 7 = .ok (.bipush 126, 2) := by decide +kernel
theorem dX9_write_9 : decode cX9_write 9 = .ok (.if_icmp .le 5, 3) := by decide +kernel
theorem dX9_write_12 : decode cX9_write 12 = .ok (.iconst (-1), 1) := by decide +kernel
theorem dX9_write_13 : decode cX9_write 13 = .ok (.ireturn, 1) := by decide +kernel
theorem dX9_write_14 : decode cX9_write 14 = .ok (.aload_n 0, 1) := by decide +kernel
theorem dX9_write_15 : decode cX9_write 15 = .ok (.getfield 12, 3) := by decide +kernel
theorem dX9_write_18 : decode cX9_write 18 = .ok (.invokevirtual 107, 3) := by decide +kernel
theorem dX9_write_21 : decode cX9_write 21 = .ok (.sipush 200, 3) := by decide +kernel
theorem dX9_write_24 : decode cX9_write 24 = .ok (.if_icmp .lt 6, 3) := by decide +kernel
theorem dX9_write_27 : decode cX9_write 27 = .ok (.bipush (-3), 2) := by decide +kernel
theorem dX9_write_29 : decode cX9_write 29 = .ok (.ireturn, 1) := by decide +kernel
theorem dX9_write_30 : decode cX9_write 30 = .ok (.aload_n 0, 1) := by decide +kernel
theorem dX9_write_31 : decode cX9_write 31 = .ok (.getfield 12, 3) := by decide +kernel
theorem dX9_write_34 : decode cX9_write 34 = .ok (.iload_n 1, 1) := by decide +kernel
theorem dX9_write_35 : decode cX9_write 35 = .ok (.invokevirtual 96, 3) := by decide +kernel
theorem dX9_write_38 : decode cX9_write 38 = .ok (.aload_n 0, 1) := by decide +kernel
theorem dX9_write_39 : decode cX9_write 39 = .ok (.getfield 12, 3) := by decide +kernel
theorem dX9_write_42 : decode cX9_write 42 = .ok (.invokevirtual 107, 3) := by decide +kernel
theorem dX9_write_45 : decode cX9_write 45 = .ok (.ireturn, 1) := by decide +kernel
theorem dX9_wipe_0 : decode cX9_wipe 0 = .ok (.aload_n 0, 1) := by decide +kernel
theorem dX9_wipe_1 : decode cX9_wipe 1 = .ok (.getfield 12, 3) := by decide +kernel
theorem dX9_wipe_4 : decode cX9_wipe 4 = .ok (.invokevirtual 107, 3) := by decide +kernel
theorem dX9_wipe_7 : decode cX9_wipe 7 = .ok (.istore_n 1, 1) := by decide +kernel
theorem dX9_wipe_8 : decode cX9_wipe 8 = .ok (.aload_n 0, 1) := by decide +kernel
theorem dX9_wipe_9 : decode cX9_wipe 9 = .ok (.getfield 12, 3) := by decide +kernel
theorem dX9_wipe_12 : decode cX9_wipe 12 = .ok (.invokevirtual 104, 3) := by decide +kernel
theorem dX9_wipe_15 : decode cX9_wipe 15 = .ok (.iload_n 1, 1) := by decide +kernel
theorem dX9_wipe_16 : decode cX9_wipe 16 = .ok (.ireturn, 1) := by decide +kernel
theorem dX9_fault_0 : decode cX9_fault 0 = .ok (.aload_n 0, 1) := by decide +kernel
theorem dX9_fault_1 : decode cX9_fault 1 = .ok (.getfield 21, 3) := by decide +kernel
theorem dX9_fault_4 : decode cX9_fault 4 = .ok (.aload_n 0, 1) := by decide +kernel
theorem dX9_fault_5 : decode cX9_fault 5 = .ok (.getfield 32, 3) := by decide +kernel
theorem dX9_fault_8 : decode cX9_fault 8 = .ok (.invokevirtual 100, 3) := by decide +kernel
theorem dX9_fault_11 : decode cX9_fault 11 = .ok (.ireturn, 1) := by decide +kernel
theorem dX9_lay_0 : decode cX9_lay 0 = .ok (.aload_n 0, 1) := by decide +kernel
theorem dX9_lay_1 : decode cX9_lay 1 = .ok (.getfield 21, 3) := by decide +kernel
theorem dX9_lay_4 : decode cX9_lay 4 = .ok (.aload_n 0, 1) := by decide +kernel
theorem dX9_lay_5 : decode cX9_lay 5 = .ok (.getfield 32, 3) := by decide +kernel
theorem dX9_lay_8 : decode cX9_lay 8 = .ok (.invokevirtual 100, 3) := by decide +kernel
theorem dX9_lay_11 : decode cX9_lay 11 = .ok (.bipush (-4), 2) := by decide +kernel
theorem dX9_lay_13 : decode cX9_lay 13 = .ok (.if_icmp .ne 13, 3) := by decide +kernel
theorem dX9_lay_16 : decode cX9_lay 16 = .ok (.aload_n 0, 1) := by decide +kernel
theorem dX9_lay_17 : decode cX9_lay 17 = .ok (.getfield 32, 3) := by decide +kernel
theorem dX9_lay_20 : decode cX9_lay 20 = .ok (.getfield 108, 3) := by decide +kernel
theorem dX9_lay_23 : decode cX9_lay 23 = .ok (.ifCond .ne 6, 3) := by decide +kernel
theorem dX9_lay_26 : decode cX9_lay 26 = .ok (.bipush (-2), 2) := by decide +kernel
theorem dX9_lay_28 : decode cX9_lay 28 = .ok (.ireturn, 1) := by decide +kernel
theorem dX9_lay_29 : decode cX9_lay 29 = .ok (.aload_n 0, 1) := by decide +kernel
theorem dX9_lay_30 : decode cX9_lay 30 = .ok (.getfield 21, 3) := by decide +kernel
theorem dX9_lay_33 : decode cX9_lay 33 = .ok (.aload_n 0, 1) := by decide +kernel
theorem dX9_lay_34 : decode cX9_lay 34 = .ok (.getfield 28, 3) := by decide +kernel
theorem dX9_lay_37 : decode cX9_lay 37 = .ok (.invokevirtual 100, 3) := by decide +kernel
theorem dX9_lay_40 : decode cX9_lay 40 = .ok (.pop, 1) := by decide +kernel
theorem dX9_lay_41 : decode cX9_lay 41 = .ok (.aload_n 0, 1) := by decide +kernel
theorem dX9_lay_42 : decode cX9_lay 42 = .ok (.getfield 40, 3) := by decide +kernel
theorem dX9_lay_45 : decode cX9_lay 45 = .ok (.invokevirtual 112, 3) := by decide +kernel
theorem dX9_lay_48 : decode cX9_lay 48 = .ok (.aload_n 0, 1) := by decide +kernel
theorem dX9_lay_49 : decode cX9_lay 49 = .ok (.getfield 52, 3) := by decide +kernel
theorem dX9_lay_52 : decode cX9_lay 52 = .ok (.invokevirtual 115, 3) := by decide +kernel
theorem dX9_lay_55 : decode cX9_lay 55 = .ok (.aload_n 0, 1) := by decide +kernel
theorem dX9_lay_56 : decode cX9_lay 56 = .ok (.getfield 56, 3) := by decide +kernel
theorem dX9_lay_59 : decode cX9_lay 59 = .ok (.invokevirtual 115, 3) := by decide +kernel
theorem dX9_lay_62 : decode cX9_lay 62 = .ok (.aload_n 0, 1) := by decide +kernel
theorem dX9_lay_63 : decode cX9_lay 63 = .ok (.getfield 62, 3) := by decide +kernel
theorem dX9_lay_66 : decode cX9_lay 66 = .ok (.invokevirtual 116, 3) := by decide +kernel
theorem dX9_lay_69 : decode cX9_lay 69 = .ok (.aload_n 0, 1) := by decide +kernel
theorem dX9_lay_70 : decode cX9_lay 70 = .ok (.getfield 28, 3) := by decide +kernel
theorem dX9_lay_73 : decode cX9_lay 73 = .ok (.getfield 108, 3) := by decide +kernel
theorem dX9_lay_76 : decode cX9_lay 76 = .ok (.ireturn, 1) := by decide +kernel
theorem dX9_person_0 : decode cX9_person 0 = .ok (.aload_n 0, 1) := by decide +kernel
theorem dX9_person_1 : decode cX9_person 1 = .ok (.iload_n 1, 1) := by decide +kernel
theorem dX9_person_2 : decode cX9_person 2 = .ok (.invokevirtual 117, 3) := by decide +kernel
theorem dX9_person_5 : decode cX9_person 5 = .ok (.ifCond .ne 5, 3) := by decide +kernel
theorem dX9_person_8 : decode cX9_person 8 = .ok (.iconst (-1), 1) := by decide +kernel
theorem dX9_person_9 : decode cX9_person 9 = .ok (.ireturn, 1) := by decide +kernel
theorem dX9_person_10 : decode cX9_person 10 = .ok (.iload_n 2, 1) := by decide +kernel
theorem dX9_person_11 : decode cX9_person 11 = .ok (.tableswitch 106 0 5 #[37, 49, 61, 73, 85, 94], 37) := by decide +kernel
theorem dX9_person_48 : decode cX9_person 48 = .ok (.aload_n 0, 1) := by decide +kernel
theorem dX9_person_49 : decode cX9_person 49 = .ok (.getfield 28, 3) := by decide +kernel
theorem dX9_person_52 : decode cX9_person 52 = .ok (.getfield 121, 3) := by decide +kernel
theorem dX9_person_55 : decode cX9_person 55 = .ok (.iload_n 1, 1) := by decide +kernel
theorem dX9_person_56 : decode cX9_person 56 = .ok (.invokevirtual 125, 3) := by decide +kernel
theorem dX9_person_59 : decode cX9_person 59 = .ok (.ireturn, 1) := by decide +kernel
theorem dX9_person_60 : decode cX9_person 60 = .ok (.aload_n 0, 1) := by decide +kernel
theorem dX9_person_61 : decode cX9_person 61 = .ok (.getfield 28, 3) := by decide +kernel
theorem dX9_person_64 : decode cX9_person 64 = .ok (.getfield 131, 3) := by decide +kernel
theorem dX9_person_67 : decode cX9_person 67 = .ok (.iload_n 1, 1) := by decide +kernel
theorem dX9_person_68 : decode cX9_person 68 = .ok (.invokevirtual 125, 3) := by decide +kernel
theorem dX9_person_71 : decode cX9_person 71 = .ok (.ireturn, 1) := by decide +kernel
theorem dX9_person_72 : decode cX9_person 72 = .ok (.aload_n 0, 1) := by decide +kernel
theorem dX9_person_73 : decode cX9_person 73 = .ok (.getfield 28, 3) := by decide +kernel
theorem dX9_person_76 : decode cX9_person 76 = .ok (.getfield 134, 3) := by decide +kernel
theorem dX9_person_79 : decode cX9_person 79 = .ok (.iload_n 1, 1) := by decide +kernel
theorem dX9_person_80 : decode cX9_person 80 = .ok (.invokevirtual 125, 3) := by decide +kernel
theorem dX9_person_83 : decode cX9_person 83 = .ok (.ireturn, 1) := by decide +kernel
theorem dX9_person_84 : decode cX9_person 84 = .ok (.aload_n 0, 1) := by decide +kernel
theorem dX9_person_85 : decode cX9_person 85 = .ok (.getfield 28, 3) := by decide +kernel
theorem dX9_person_88 : decode cX9_person 88 = .ok (.getfield 137, 3) := by decide +kernel
theorem dX9_person_91 : decode cX9_person 91 = .ok (.iload_n 1, 1) := by decide +kernel
theorem dX9_person_92 : decode cX9_person 92 = .ok (.invokevirtual 125, 3) := by decide +kernel
theorem dX9_person_95 : decode cX9_person 95 = .ok (.ireturn, 1) := by decide +kernel
theorem dX9_person_96 : decode cX9_person 96 = .ok (.aload_n 0, 1) := by decide +kernel
theorem dX9_person_97 : decode cX9_person 97 = .ok (.getfield 40, 3) := by decide +kernel
theorem dX9_person_100 : decode cX9_person 100 = .ok (.iload_n 1, 1) := by decide +kernel
theorem dX9_person_101 : decode cX9_person 101 = .ok (.invokevirtual 140, 3) := by decide +kernel
theorem dX9_person_104 : decode cX9_person 104 = .ok (.ireturn, 1) := by decide +kernel
theorem dX9_person_105 : decode cX9_person 105 = .ok (.aload_n 0, 1) := by decide +kernel
theorem dX9_person_106 : decode cX9_person 106 = .ok (.getfield 40, 3) := by decide +kernel
theorem dX9_person_109 : decode cX9_person 109 = .ok (.getfield 143, 3) := by decide +kernel
theorem dX9_person_112 : decode cX9_person 112 = .ok (.iload_n 1, 1) := by decide +kernel
theorem dX9_person_113 : decode cX9_person 113 = .ok (.invokevirtual 125, 3) := by decide +kernel
theorem dX9_person_116 : decode cX9_person 116 = .ok (.ireturn, 1) := by decide +kernel
theorem dX9_person_117 : decode cX9_person 117 = .ok (.iconst (-1), 1) := by decide +kernel
theorem dX9_person_118 : decode cX9_person 118 = .ok (.ireturn, 1) := by decide +kernel
theorem dX9_sum_0 : decode cX9_sum 0 = .ok (.aload_n 0, 1) := by decide +kernel
theorem dX9_sum_1 : decode cX9_sum 1 = .ok (.getfield 40, 3) := by decide +kernel
theorem dX9_sum_4 : decode cX9_sum 4 = .ok (.aload_n 0, 1) := by decide +kernel
theorem dX9_sum_5 : decode cX9_sum 5 = .ok (.getfield 40, 3) := by decide +kernel
theorem dX9_sum_8 : decode cX9_sum 8 = .ok (.getfield 146, 3) := by decide +kernel
theorem dX9_sum_11 : decode cX9_sum 11 = .ok (.invokevirtual 149, 3) := by decide +kernel
theorem dX9_sum_14 : decode cX9_sum 14 = .ok (.aload_n 0, 1) := by decide +kernel
theorem dX9_sum_15 : decode cX9_sum 15 = .ok (.getfield 28, 3) := by decide +kernel
theorem dX9_sum_18 : decode cX9_sum 18 = .ok (.getfield 152, 3) := by decide +kernel
theorem dX9_sum_21 : decode cX9_sum 21 = .ok (.isub, 1) := by decide +kernel
theorem dX9_sum_22 : decode cX9_sum 22 = .ok (.istore_n 2, 1) := by decide +kernel
theorem dX9_sum_23 : decode cX9_sum 23 = .ok (.aload_n 0, 1) := by decide +kernel
theorem dX9_sum_24 : decode cX9_sum 24 = .ok (.getfield 40, 3) := by decide +kernel
theorem dX9_sum_27 : decode cX9_sum 27 = .ok (.aload_n 0, 1) := by decide +kernel
theorem dX9_sum_28 : decode cX9_sum 28 = .ok (.getfield 40, 3) := by decide +kernel
theorem dX9_sum_31 : decode cX9_sum 31 = .ok (.getfield 146, 3) := by decide +kernel
theorem dX9_sum_34 : decode cX9_sum 34 = .ok (.invokevirtual 155, 3) := by decide +kernel
theorem dX9_sum_37 : decode cX9_sum 37 = .ok (.istore_n 3, 1) := by decide +kernel
theorem dX9_sum_38 : decode cX9_sum 38 = .ok (.iload_n 1, 1) := by decide +kernel
theorem dX9_sum_39 : decode cX9_sum 39 = .ok (.tableswitch 70 0 4 #[33, 43, 50, 56, 68], 33) := by decide +kernel
theorem dX9_sum_72 : decode cX9_sum 72 = .ok (.iload_n 2, 1) := by decide +kernel
theorem dX9_sum_73 : decode cX9_sum 73 = .ok (.aload_n 0, 1) := by decide +kernel
theorem dX9_sum_74 : decode cX9_sum 74 = .ok (.getfield 28, 3) := by decide +kernel
theorem dX9_sum_77 : decode cX9_sum 77 = .ok (.getfield 152, 3) := by decide +kernel
theorem dX9_sum_80 : decode cX9_sum 80 = .ok (.iadd, 1) := by decide +kernel
theorem dX9_sum_81 : decode cX9_sum 81 = .ok (.ireturn, 1) := by decide +kernel
theorem dX9_sum_82 : decode cX9_sum 82 = .ok (.iconst 0, 1) := by decide +kernel
theorem dX9_sum_83 : decode cX9_sum 83 = .ok (.iload_n 2, 1) := by decide +kernel
theorem dX9_sum_84 : decode cX9_sum 84 = .ok (.ineg, 1) := by decide +kernel
theorem dX9_sum_85 : decode cX9_sum 85 = .ok (.invokestatic 158, 3) := by decide +kernel
theorem dX9_sum_88 : decode cX9_sum 88 = .ok (.ireturn, 1) := by decide +kernel
theorem dX9_sum_89 : decode cX9_sum 89 = .ok (.iconst 0, 1) := by decide +kernel
theorem dX9_sum_90 : decode cX9_sum 90 = .ok (.iload_n 2, 1) := by decide +kernel
theorem dX9_sum_91 : decode cX9_sum 91 = .ok (.invokestatic 158, 3) := by decide +kernel
theorem dX9_sum_94 : decode cX9_sum 94 = .ok (.ireturn, 1) := by decide +kernel
theorem dX9_sum_95 : decode cX9_sum 95 = .ok (.iload_n 3, 1) := by decide +kernel
theorem dX9_sum_96 : decode cX9_sum 96 = .ok (.bipush (-4), 2) := by decide +kernel
theorem dX9_sum_98 : decode cX9_sum 98 = .ok (.if_icmp .ne 7, 3) := by decide +kernel
theorem dX9_sum_101 : decode cX9_sum 101 = .ok (.iconst 0, 1) := by decide +kernel
theorem dX9_sum_102 : decode cX9_sum 102 = .ok (.goto 4, 3) := by decide +kernel
theorem dX9_sum_105 : decode cX9_sum 105 = .ok (.iconst 1, 1) := by decide +kernel
theorem dX9_sum_106 : decode cX9_sum 106 = .ok (.ireturn, 1) := by decide +kernel
theorem dX9_sum_107 : decode cX9_sum 107 = .ok (.iload_n 3, 1) := by decide +kernel
theorem dX9_sum_108 : decode cX9_sum 108 = .ok (.ireturn, 1) := by decide +kernel
theorem dX9_sum_109 : decode cX9_sum 109 = .ok (.iconst (-1), 1) := by decide +kernel
theorem dX9_sum_110 : decode cX9_sum 110 = .ok (.ireturn, 1) := by decide +kernel
theorem dX9_pass_0 : decode cX9_pass 0 = .ok (.iload_n 1, 1) := by decide +kernel
theorem dX9_pass_1 : decode cX9_pass 1 = .ok (.iconst 1, 1) := by decide +kernel
theorem dX9_pass_2 : decode cX9_pass 2 = .ok (.if_icmp .lt 9, 3) := by decide +kernel
theorem dX9_pass_5 : decode cX9_pass 5 = .ok (.iload_n 1, 1) := by decide +kernel
theorem dX9_pass_6 : decode cX9_pass 6 = .ok (.bipush 60, 2) := by decide +kernel
theorem dX9_pass_8 : decode cX9_pass 8 = .ok (.if_icmp .le 5, 3) := by decide +kernel
theorem dX9_pass_11 : decode cX9_pass 11 = .ok (.iconst (-1), 1) := by decide +kernel
theorem dX9_pass_12 : decode cX9_pass 12 = .ok (.ireturn, 1) := by decide +kernel
theorem dX9_pass_13 : decode cX9_pass 13 = .ok (.aload_n 0, 1) := by decide +kernel
theorem dX9_pass_14 : decode cX9_pass 14 = .ok (.getfield 52, 3) := by decide +kernel
theorem dX9_pass_17 : decode cX9_pass 17 = .ok (.aload_n 0, 1) := by decide +kernel
theorem dX9_pass_18 : decode cX9_pass 18 = .ok (.getfield 40, 3) := by decide +kernel
theorem dX9_pass_21 : decode cX9_pass 21 = .ok (.invokevirtual 164, 3) := by decide +kernel
theorem dX9_pass_24 : decode cX9_pass 24 = .ok (.aload_n 0, 1) := by decide +kernel
theorem dX9_pass_25 : decode cX9_pass 25 = .ok (.getfield 40, 3) := by decide +kernel
theorem dX9_pass_28 : decode cX9_pass 28 = .ok (.dup, 1) := by decide +kernel
theorem dX9_pass_29 : decode cX9_pass 29 = .ok (.getfield 166, 3) := by decide +kernel
theorem dX9_pass_32 : decode cX9_pass 32 = .ok (.iload_n 1, 1) := by decide +kernel
theorem dX9_pass_33 : decode cX9_pass 33 = .ok (.iadd, 1) := by decide +kernel
theorem dX9_pass_34 : decode cX9_pass 34 = .ok (.putfield 166, 3) := by decide +kernel
theorem dX9_pass_37 : decode cX9_pass 37 = .ok (.aload_n 0, 1) := by decide +kernel
theorem dX9_pass_38 : decode cX9_pass 38 = .ok (.getfield 40, 3) := by decide +kernel
theorem dX9_pass_41 : decode cX9_pass 41 = .ok (.getfield 166, 3) := by decide +kernel
theorem dX9_pass_44 : decode cX9_pass 44 = .ok (.ireturn, 1) := by decide +kernel
theorem dX9_board_0 : decode cX9_board 0 = .ok (.aload_n 0, 1) := by decide +kernel
theorem dX9_board_1 : decode cX9_board 1 = .ok (.iload_n 1, 1) := by decide +kernel
theorem dX9_board_2 : decode cX9_board 2 = .ok (.invokevirtual 117, 3) := by decide +kernel
theorem dX9_board_5 : decode cX9_board 5 = .ok (.ifCond .ne 5, 3) := by decide +kernel
theorem dX9_board_8 : decode cX9_board 8 = .ok (.iconst (-1), 1) := by decide +kernel
theorem dX9_board_9 : decode cX9_board 9 = .ok (.ireturn, 1) := by decide +kernel
theorem dX9_board_10 : decode cX9_board 10 = .ok (.aload_n 0, 1) := by decide +kernel
theorem dX9_board_11 : decode cX9_board 11 = .ok (.getfield 40, 3) := by decide +kernel
theorem dX9_board_14 : decode cX9_board 14 = .ok (.iload_n 1, 1) := by decide +kernel
theorem dX9_board_15 : decode cX9_board 15 = .ok (.invokevirtual 140, 3) := by decide +kernel
theorem dX9_board_18 : decode cX9_board 18 = .ok (.iconst 1, 1) := by decide +kernel
theorem dX9_board_19 : decode cX9_board 19 = .ok (.if_icmp .eq 6, 3) := by decide +kernel
theorem dX9_board_22 : decode cX9_board 22 = .ok (.bipush (-2), 2) := by decide +kernel
theorem dX9_board_24 : decode cX9_board 24 = .ok (.ireturn, 1) := by decide +kernel
theorem dX9_board_25 : decode cX9_board 25 = .ok (.aload_n 0, 1) := by decide +kernel
theorem dX9_board_26 : decode cX9_board 26 = .ok (.getfield 52, 3) := by decide +kernel
theorem dX9_board_29 : decode cX9_board 29 = .ok (.aload_n 0, 1) := by decide +kernel
theorem dX9_board_30 : decode cX9_board 30 = .ok (.getfield 40, 3) := by decide +kernel
theorem dX9_board_33 : decode cX9_board 33 = .ok (.invokevirtual 164, 3) := by decide +kernel
theorem dX9_board_36 : decode cX9_board 36 = .ok (.aload_n 0, 1) := by decide +kernel
theorem dX9_board_37 : decode cX9_board 37 = .ok (.getfield 40, 3) := by decide +kernel
theorem dX9_board_40 : decode cX9_board 40 = .ok (.iload_n 1, 1) := by decide +kernel
theorem dX9_board_41 : decode cX9_board 41 = .ok (.invokevirtual 169, 3) := by decide +kernel
theorem dX9_board_44 : decode cX9_board 44 = .ok (.aload_n 0, 1) := by decide +kernel
theorem dX9_board_45 : decode cX9_board 45 = .ok (.getfield 40, 3) := by decide +kernel
theorem dX9_board_48 : decode cX9_board 48 = .ok (.aload_n 0, 1) := by decide +kernel
theorem dX9_board_49 : decode cX9_board 49 = .ok (.getfield 40, 3) := by decide +kernel
theorem dX9_board_52 : decode cX9_board 52 = .ok (.getfield 146, 3) := by decide +kernel
theorem dX9_board_55 : decode cX9_board 55 = .ok (.invokevirtual 149, 3) := by decide +kernel
theorem dX9_board_58 : decode cX9_board 58 = .ok (.ireturn, 1) := by decide +kernel
theorem dX9_stepOff_0 : decode cX9_stepOff 0 = .ok (.aload_n 0, 1) := by decide +kernel
theorem dX9_stepOff_1 : decode cX9_stepOff 1 = .ok (.iload_n 1, 1) := by decide +kernel
theorem dX9_stepOff_2 : decode cX9_stepOff 2 = .ok (.invokevirtual 117, 3) := by decide +kernel
theorem dX9_stepOff_5 : decode cX9_stepOff 5 = .ok (.ifCond .ne 5, 3) := by decide +kernel
theorem dX9_stepOff_8 : decode cX9_stepOff 8 = .ok (.iconst (-1), 1) := by decide +kernel
theorem dX9_stepOff_9 : decode cX9_stepOff 9 = .ok (.ireturn, 1) := by decide +kernel
theorem dX9_stepOff_10 : decode cX9_stepOff 10 = .ok (.aload_n 0, 1) := by decide +kernel
theorem dX9_stepOff_11 : decode cX9_stepOff 11 = .ok (.getfield 40, 3) := by decide +kernel
theorem dX9_stepOff_14 : decode cX9_stepOff 14 = .ok (.iload_n 1, 1) := by decide +kernel
theorem dX9_stepOff_15 : decode cX9_stepOff 15 = .ok (.invokevirtual 140, 3) := by decide +kernel
theorem dX9_stepOff_18 : decode cX9_stepOff 18 = .ok (.iconst 2, 1) := by decide +kernel
theorem dX9_stepOff_19 : decode cX9_stepOff 19 = .ok (.if_icmp .eq 6, 3) := by decide +kernel
theorem dX9_stepOff_22 : decode cX9_stepOff 22 = .ok (.bipush (-2), 2) := by decide +kernel
theorem dX9_stepOff_24 : decode cX9_stepOff 24 = .ok (.ireturn, 1) := by decide +kernel
theorem dX9_stepOff_25 : decode cX9_stepOff 25 = .ok (.aload_n 0, 1) := by decide +kernel
theorem dX9_stepOff_26 : decode cX9_stepOff 26 = .ok (.getfield 52, 3) := by decide +kernel
theorem dX9_stepOff_29 : decode cX9_stepOff 29 = .ok (.aload_n 0, 1) := by decide +kernel
theorem dX9_stepOff_30 : decode cX9_stepOff 30 = .ok (.getfield 40, 3) := by decide +kernel
theorem dX9_stepOff_33 : decode cX9_stepOff 33 = .ok (.invokevirtual 164, 3) := by decide +kernel
theorem dX9_stepOff_36 : decode cX9_stepOff 36 = .ok (.aload_n 0, 1) := by decide +kernel
theorem dX9_stepOff_37 : decode cX9_stepOff 37 = .ok (.getfield 40, 3) := by decide +kernel
theorem dX9_stepOff_40 : decode cX9_stepOff 40 = .ok (.iload_n 1, 1) := by decide +kernel
theorem dX9_stepOff_41 : decode cX9_stepOff 41 = .ok (.invokevirtual 172, 3) := by decide +kernel
theorem dX9_stepOff_44 : decode cX9_stepOff 44 = .ok (.aload_n 0, 1) := by decide +kernel
theorem dX9_stepOff_45 : decode cX9_stepOff 45 = .ok (.getfield 40, 3) := by decide +kernel
theorem dX9_stepOff_48 : decode cX9_stepOff 48 = .ok (.aload_n 0, 1) := by decide +kernel
theorem dX9_stepOff_49 : decode cX9_stepOff 49 = .ok (.getfield 40, 3) := by decide +kernel
theorem dX9_stepOff_52 : decode cX9_stepOff 52 = .ok (.getfield 146, 3) := by decide +kernel
theorem dX9_stepOff_55 : decode cX9_stepOff 55 = .ok (.invokevirtual 149, 3) := by decide +kernel
theorem dX9_stepOff_58 : decode cX9_stepOff 58 = .ok (.ireturn, 1) := by decide +kernel
theorem dX9_die_0 : decode cX9_die 0 = .ok (.aload_n 0, 1) := by decide +kernel
theorem dX9_die_1 : decode cX9_die 1 = .ok (.iload_n 1, 1) := by decide +kernel
theorem dX9_die_2 : decode cX9_die 2 = .ok (.invokevirtual 117, 3) := by decide +kernel
theorem dX9_die_5 : decode cX9_die 5 = .ok (.ifCond .ne 5, 3) := by decide +kernel
theorem dX9_die_8 : decode cX9_die 8 = .ok (.iconst (-1), 1) := by decide +kernel
theorem dX9_die_9 : decode cX9_die 9 = .ok (.ireturn, 1) := by decide +kernel
theorem dX9_die_10 : decode cX9_die 10 = .ok (.aload_n 0, 1) := by decide +kernel
theorem dX9_die_11 : decode cX9_die 11 = .ok (.getfield 40, 3) := by decide +kernel
theorem dX9_die_14 : decode cX9_die 14 = .ok (.iload_n 1, 1) := by decide +kernel
theorem dX9_die_15 : decode cX9_die 15 = .ok (.invokevirtual 140, 3) := by decide +kernel
theorem dX9_die_18 : decode cX9_die 18 = .ok (.istore_n 2, 1) := by decide +kernel
theorem dX9_die_19 : decode cX9_die 19 = .ok (.iload_n 2, 1) := by decide +kernel
theorem dX9_die_20 : decode cX9_die 20 = .ok (.iconst 3, 1) := by decide +kernel
theorem dX9_die_21 : decode cX9_die 21 = .ok (.if_icmp .eq 8, 3) := by decide +kernel
theorem dX9_die_24 : decode cX9_die 24 = .ok (.iload_n 2, 1) := by decide +kernel
theorem dX9_die_25 : decode cX9_die 25 = .ok (.iconst 4, 1) := by decide +kernel
theorem dX9_die_26 : decode cX9_die 26 = .ok (.if_icmp .ne 6, 3) := by decide +kernel
theorem dX9_die_29 : decode cX9_die 29 = .ok (.bipush (-2), 2) := by decide +kernel
theorem dX9_die_31 : decode cX9_die 31 = .ok (.ireturn, 1) := by decide +kernel
theorem dX9_die_32 : decode cX9_die 32 = .ok (.aload_n 0, 1) := by decide +kernel
theorem dX9_die_33 : decode cX9_die 33 = .ok (.getfield 52, 3) := by decide +kernel
theorem dX9_die_36 : decode cX9_die 36 = .ok (.aload_n 0, 1) := by decide +kernel
theorem dX9_die_37 : decode cX9_die 37 = .ok (.getfield 40, 3) := by decide +kernel
theorem dX9_die_40 : decode cX9_die 40 = .ok (.invokevirtual 164, 3) := by decide +kernel
theorem dX9_die_43 : decode cX9_die 43 = .ok (.aload_n 0, 1) := by decide +kernel
theorem dX9_die_44 : decode cX9_die 44 = .ok (.getfield 40, 3) := by decide +kernel
theorem dX9_die_47 : decode cX9_die 47 = .ok (.iload_n 1, 1) := by decide +kernel
theorem dX9_die_48 : decode cX9_die 48 = .ok (.invokevirtual 175, 3) := by decide +kernel
theorem dX9_die_51 : decode cX9_die 51 = .ok (.iload_n 2, 1) := by decide +kernel
theorem dX9_die_52 : decode cX9_die 52 = .ok (.ireturn, 1) := by decide +kernel
theorem dX9_sail_0 : decode cX9_sail 0 = .ok (.aload_n 0, 1) := by decide +kernel
theorem dX9_sail_1 : decode cX9_sail 1 = .ok (.getfield 40, 3) := by decide +kernel
theorem dX9_sail_4 : decode cX9_sail 4 = .ok (.aload_n 0, 1) := by decide +kernel
theorem dX9_sail_5 : decode cX9_sail 5 = .ok (.getfield 40, 3) := by decide +kernel
theorem dX9_sail_8 : decode cX9_sail 8 = .ok (.getfield 146, 3) := by decide +kernel
theorem dX9_sail_11 : decode cX9_sail 11 = .ok (.invokevirtual 155, 3) := by decide +kernel
theorem dX9_sail_14 : decode cX9_sail 14 = .ok (.istore_n 1, 1) := by decide +kernel
theorem dX9_sail_15 : decode cX9_sail 15 = .ok (.iload_n 1, 1) := by decide +kernel
theorem dX9_sail_16 : decode cX9_sail 16 = .ok (.bipush (-4), 2) := by decide +kernel
theorem dX9_sail_18 : decode cX9_sail 18 = .ok (.if_icmp .ne 6, 3) := by decide +kernel
theorem dX9_sail_21 : decode cX9_sail 21 = .ok (.bipush (-2), 2) := by decide +kernel
theorem dX9_sail_23 : decode cX9_sail 23 = .ok (.ireturn, 1) := by decide +kernel
theorem dX9_sail_24 : decode cX9_sail 24 = .ok (.aload_n 0, 1) := by decide +kernel
theorem dX9_sail_25 : decode cX9_sail 25 = .ok (.getfield 52, 3) := by decide +kernel
theorem dX9_sail_28 : decode cX9_sail 28 = .ok (.aload_n 0, 1) := by decide +kernel
theorem dX9_sail_29 : decode cX9_sail 29 = .ok (.getfield 40, 3) := by decide +kernel
theorem dX9_sail_32 : decode cX9_sail 32 = .ok (.invokevirtual 164, 3) := by decide +kernel
theorem dX9_sail_35 : decode cX9_sail 35 = .ok (.aload_n 0, 1) := by decide +kernel
theorem dX9_sail_36 : decode cX9_sail 36 = .ok (.getfield 40, 3) := by decide +kernel
theorem dX9_sail_39 : decode cX9_sail 39 = .ok (.iload_n 1, 1) := by decide +kernel
theorem dX9_sail_40 : decode cX9_sail 40 = .ok (.invokevirtual 178, 3) := by decide +kernel
theorem dX9_sail_43 : decode cX9_sail 43 = .ok (.iload_n 1, 1) := by decide +kernel
theorem dX9_sail_44 : decode cX9_sail 44 = .ok (.ireturn, 1) := by decide +kernel
theorem dX9_undo_0 : decode cX9_undo 0 = .ok (.aload_n 0, 1) := by decide +kernel
theorem dX9_undo_1 : decode cX9_undo 1 = .ok (.getfield 52, 3) := by decide +kernel
theorem dX9_undo_4 : decode cX9_undo 4 = .ok (.aload_n 0, 1) := by decide +kernel
theorem dX9_undo_5 : decode cX9_undo 5 = .ok (.getfield 40, 3) := by decide +kernel
theorem dX9_undo_8 : decode cX9_undo 8 = .ok (.invokevirtual 181, 3) := by decide +kernel
theorem dX9_undo_11 : decode cX9_undo 11 = .ok (.ifCond .eq 13, 3) := by decide +kernel
theorem dX9_undo_14 : decode cX9_undo 14 = .ok (.aload_n 0, 1) := by decide +kernel
theorem dX9_undo_15 : decode cX9_undo 15 = .ok (.getfield 52, 3) := by decide +kernel
theorem dX9_undo_18 : decode cX9_undo 18 = .ok (.getfield 185, 3) := by decide +kernel
theorem dX9_undo_21 : decode cX9_undo 21 = .ok (.goto 5, 3) := by decide +kernel
theorem dX9_undo_24 : decode cX9_undo 24 = .ok (.bipush (-2), 2) := by decide +kernel
theorem dX9_undo_26 : decode cX9_undo 26 = .ok (.ireturn, 1) := by decide +kernel
theorem dX9_best_0 : decode cX9_best 0 = .ok (.iload_n 1, 1) := by decide +kernel
theorem dX9_best_1 : decode cX9_best 1 = .ok (.ifCond .lt 8, 3) := by decide +kernel
theorem dX9_best_4 : decode cX9_best 4 = .ok (.iload_n 1, 1) := by decide +kernel
theorem dX9_best_5 : decode cX9_best 5 = .ok (.iconst 1, 1) := by decide +kernel
theorem dX9_best_6 : decode cX9_best 6 = .ok (.if_icmp .le 5, 3) := by decide +kernel
theorem dX9_best_9 : decode cX9_best 9 = .ok (.iconst (-1), 1) := by decide +kernel
theorem dX9_best_10 : decode cX9_best 10 = .ok (.ireturn, 1) := by decide +kernel
theorem dX9_best_11 : decode cX9_best 11 = .ok (.aload_n 0, 1) := by decide +kernel
theorem dX9_best_12 : decode cX9_best 12 = .ok (.getfield 71, 3) := by decide +kernel
theorem dX9_best_15 : decode cX9_best 15 = .ok (.invokevirtual 188, 3) := by decide +kernel
theorem dX9_best_18 : decode cX9_best 18 = .ok (.istore_n 2, 1) := by decide +kernel
theorem dX9_best_19 : decode cX9_best 19 = .ok (.iload_n 1, 1) := by decide +kernel
theorem dX9_best_20 : decode cX9_best 20 = .ok (.ifCond .eq 9, 3) := by decide +kernel
theorem dX9_best_23 : decode cX9_best 23 = .ok (.iload_n 2, 1) := by decide +kernel
theorem dX9_best_24 : decode cX9_best 24 = .ok (.bipush (-4), 2) := by decide +kernel
theorem dX9_best_26 : decode cX9_best 26 = .ok (.if_icmp .ne 7, 3) := by decide +kernel
theorem dX9_best_29 : decode cX9_best 29 = .ok (.iload_n 2, 1) := by decide +kernel
theorem dX9_best_30 : decode cX9_best 30 = .ok (.goto 11, 3) := by decide +kernel
theorem dX9_best_33 : decode cX9_best 33 = .ok (.aload_n 0, 1) := by decide +kernel
theorem dX9_best_34 : decode cX9_best 34 = .ok (.getfield 40, 3) := by decide +kernel
theorem dX9_best_37 : decode cX9_best 37 = .ok (.iload_n 2, 1) := by decide +kernel
theorem dX9_best_38 : decode cX9_best 38 = .ok (.invokevirtual 155, 3) := by decide +kernel
theorem dX9_best_41 : decode cX9_best 41 = .ok (.ireturn, 1) := by decide +kernel
theorem dX9_waits_0 : decode cX9_waits 0 = .ok (.aload_n 0, 1) := by decide +kernel
theorem dX9_waits_1 : decode cX9_waits 1 = .ok (.getfield 71, 3) := by decide +kernel
theorem dX9_waits_4 : decode cX9_waits 4 = .ok (.invokevirtual 191, 3) := by decide +kernel
theorem dX9_waits_7 : decode cX9_waits 7 = .ok (.ireturn, 1) := by decide +kernel
theorem dX9_sailings_0 : decode cX9_sailings 0 = .ok (.iload_n 1, 1) := by decide +kernel
theorem dX9_sailings_1 : decode cX9_sailings 1 = .ok (.ifCond .lt 8, 3) := by decide +kernel
theorem dX9_sailings_4 : decode cX9_sailings 4 = .ok (.iload_n 1, 1) := by decide +kernel
theorem dX9_sailings_5 : decode cX9_sailings 5 = .ok (.iconst 2, 1) := by decide +kernel
theorem dX9_sailings_6 : decode cX9_sailings 6 = .ok (.if_icmp .le 5, 3) := by decide +kernel
theorem dX9_sailings_9 : decode cX9_sailings 9 = .ok (.iconst (-1), 1) := by decide +kernel
theorem dX9_sailings_10 : decode cX9_sailings 10 = .ok (.ireturn, 1) := by decide +kernel
theorem dX9_sailings_11 : decode cX9_sailings 11 = .ok (.aload_n 0, 1) := by decide +kernel
theorem dX9_sailings_12 : decode cX9_sailings 12 = .ok (.getfield 71, 3) := by decide +kernel
theorem dX9_sailings_15 : decode cX9_sailings 15 = .ok (.invokevirtual 194, 3) := by decide +kernel
theorem dX9_sailings_18 : decode cX9_sailings 18 = .ok (.iload_n 1, 1) := by decide +kernel
theorem dX9_sailings_19 : decode cX9_sailings 19 = .ok (.ifCond .ne 13, 3) := by decide +kernel
theorem dX9_sailings_22 : decode cX9_sailings 22 = .ok (.aload_n 0, 1) := by decide +kernel
theorem dX9_sailings_23 : decode cX9_sailings 23 = .ok (.getfield 71, 3) := by decide +kernel
theorem dX9_sailings_26 : decode cX9_sailings 26 = .ok (.getfield 197, 3) := by decide +kernel
theorem dX9_sailings_29 : decode cX9_sailings 29 = .ok (.goto 25, 3) := by decide +kernel
theorem dX9_sailings_32 : decode cX9_sailings 32 = .ok (.iload_n 1, 1) := by decide +kernel
theorem dX9_sailings_33 : decode cX9_sailings 33 = .ok (.iconst 1, 1) := by decide +kernel
theorem dX9_sailings_34 : decode cX9_sailings 34 = .ok (.if_icmp .ne 13, 3) := by decide +kernel
theorem dX9_sailings_37 : decode cX9_sailings 37 = .ok (.aload_n 0, 1) := by decide +kernel
theorem dX9_sailings_38 : decode cX9_sailings 38 = .ok (.getfield 71, 3) := by decide +kernel
theorem dX9_sailings_41 : decode cX9_sailings 41 = .ok (.getfield 200, 3) := by decide +kernel
theorem dX9_sailings_44 : decode cX9_sailings 44 = .ok (.goto 10, 3) := by decide +kernel
theorem dX9_sailings_47 : decode cX9_sailings 47 = .ok (.aload_n 0, 1) := by decide +kernel
theorem dX9_sailings_48 : decode cX9_sailings 48 = .ok (.getfield 71, 3) := by decide +kernel
theorem dX9_sailings_51 : decode cX9_sailings 51 = .ok (.getfield 203, 3) := by decide +kernel
theorem dX9_sailings_54 : decode cX9_sailings 54 = .ok (.ireturn, 1) := by decide +kernel
theorem dX9_setsFor_0 : decode cX9_setsFor 0 = .ok (.aload_n 0, 1) := by decide +kernel
theorem dX9_setsFor_1 : decode cX9_setsFor 1 = .ok (.iload_n 1, 1) := by decide +kernel
theorem dX9_setsFor_2 : decode cX9_setsFor 2 = .ok (.invokevirtual 117, 3) := by decide +kernel
theorem dX9_setsFor_5 : decode cX9_setsFor 5 = .ok (.ifCond .ne 5, 3) := by decide +kernel
theorem dX9_setsFor_8 : decode cX9_setsFor 8 = .ok (.iconst (-1), 1) := by decide +kernel
theorem dX9_setsFor_9 : decode cX9_setsFor 9 = .ok (.ireturn, 1) := by decide +kernel
theorem dX9_setsFor_10 : decode cX9_setsFor 10 = .ok (.aload_n 0, 1) := by decide +kernel
theorem dX9_setsFor_11 : decode cX9_setsFor 11 = .ok (.getfield 40, 3) := by decide +kernel
theorem dX9_setsFor_14 : decode cX9_setsFor 14 = .ok (.invokevirtual 206, 3) := by decide +kernel
theorem dX9_setsFor_17 : decode cX9_setsFor 17 = .ok (.iload_n 1, 1) := by decide +kernel
theorem dX9_setsFor_18 : decode cX9_setsFor 18 = .ok (.invokestatic 209, 3) := by decide +kernel
theorem dX9_setsFor_21 : decode cX9_setsFor 21 = .ok (.ifCond .eq 14, 3) := by decide +kernel
theorem dX9_setsFor_24 : decode cX9_setsFor 24 = .ok (.aload_n 0, 1) := by decide +kernel
theorem dX9_setsFor_25 : decode cX9_setsFor 25 = .ok (.getfield 71, 3) := by decide +kernel
theorem dX9_setsFor_28 : decode cX9_setsFor 28 = .ok (.iload_n 1, 1) := by decide +kernel
theorem dX9_setsFor_29 : decode cX9_setsFor 29 = .ok (.invokevirtual 213, 3) := by decide +kernel
theorem dX9_setsFor_32 : decode cX9_setsFor 32 = .ok (.goto 5, 3) := by decide +kernel
theorem dX9_setsFor_35 : decode cX9_setsFor 35 = .ok (.bipush (-2), 2) := by decide +kernel
theorem dX9_setsFor_37 : decode cX9_setsFor 37 = .ok (.ireturn, 1) := by decide +kernel
theorem dX9_oddOnes_0 : decode cX9_oddOnes 0 = .ok (.aload_n 0, 1) := by decide +kernel
theorem dX9_oddOnes_1 : decode cX9_oddOnes 1 = .ok (.getfield 71, 3) := by decide +kernel
theorem dX9_oddOnes_4 : decode cX9_oddOnes 4 = .ok (.invokevirtual 216, 3) := by decide +kernel
theorem dX9_oddOnes_7 : decode cX9_oddOnes 7 = .ok (.ireturn, 1) := by decide +kernel
theorem dX9_tell_0 : decode cX9_tell 0 = .ok (.iload_n 1, 1) := by decide +kernel
theorem dX9_tell_1 : decode cX9_tell 1 = .ok (.iconst 1, 1) := by decide +kernel
theorem dX9_tell_2 : decode cX9_tell 2 = .ok (.if_icmp .lt 28, 3) := by decide +kernel
theorem dX9_tell_5 : decode cX9_tell 5 = .ok (.iload_n 1, 1) := by decide +kernel
theorem dX9_tell_6 : decode cX9_tell 6 = .ok (.aload_n 0, 1) := by decide +kernel
theorem dX9_tell_7 : decode cX9_tell 7 = .ok (.getfield 28, 3) := by decide +kernel
theorem dX9_tell_10 : decode cX9_tell 10 = .ok (.invokevirtual 219, 3) := by decide +kernel
theorem dX9_tell_13 : decode cX9_tell 13 = .ok (.invokestatic 222, 3) := by decide +kernel
theorem dX9_tell_16 : decode cX9_tell 16 = .ok (.ifCond .eq 14, 3) := by decide +kernel
theorem dX9_tell_19 : decode cX9_tell 19 = .ok (.iload_n 2, 1) := by decide +kernel
theorem dX9_tell_20 : decode cX9_tell 20 = .ok (.ifCond .lt 10, 3) := by decide +kernel
theorem dX9_tell_23 : decode cX9_tell 23 = .ok (.iload_n 2, 1) := by decide +kernel
theorem dX9_tell_24 : decode cX9_tell 24 = .ok (.sipush 999, 3) := by decide +kernel
theorem dX9_tell_27 : decode cX9_tell 27 = .ok (.if_icmp .le 5, 3) := by decide +kernel
theorem dX9_tell_30 : decode cX9_tell 30 = .ok (.iconst (-1), 1) := by decide +kernel
theorem dX9_tell_31 : decode cX9_tell 31 = .ok (.ireturn, 1) := by decide +kernel
theorem dX9_tell_32 : decode cX9_tell 32 = .ok (.aload_n 0, 1) := by decide +kernel
theorem dX9_tell_33 : decode cX9_tell 33 = .ok (.getfield 62, 3) := by decide +kernel
theorem dX9_tell_36 : decode cX9_tell 36 = .ok (.getfield 225, 3) := by decide +kernel
theorem dX9_tell_39 : decode cX9_tell 39 = .ok (.iconst 5, 1) := by decide +kernel
theorem dX9_tell_40 : decode cX9_tell 40 = .ok (.if_icmp .lt 6, 3) := by decide +kernel
theorem dX9_tell_43 : decode cX9_tell 43 = .ok (.bipush (-3), 2) := by decide +kernel
theorem dX9_tell_45 : decode cX9_tell 45 = .ok (.ireturn, 1) := by decide +kernel
theorem dX9_tell_46 : decode cX9_tell 46 = .ok (.aload_n 0, 1) := by decide +kernel
theorem dX9_tell_47 : decode cX9_tell 47 = .ok (.getfield 62, 3) := by decide +kernel
theorem dX9_tell_50 : decode cX9_tell 50 = .ok (.iload_n 1, 1) := by decide +kernel
theorem dX9_tell_51 : decode cX9_tell 51 = .ok (.iload_n 2, 1) := by decide +kernel
theorem dX9_tell_52 : decode cX9_tell 52 = .ok (.aload_n 0, 1) := by decide +kernel
theorem dX9_tell_53 : decode cX9_tell 53 = .ok (.getfield 28, 3) := by decide +kernel
theorem dX9_tell_56 : decode cX9_tell 56 = .ok (.iload_n 1, 1) := by decide +kernel
theorem dX9_tell_57 : decode cX9_tell 57 = .ok (.invokevirtual 226, 3) := by decide +kernel
theorem dX9_tell_60 : decode cX9_tell 60 = .ok (.isub, 1) := by decide +kernel
theorem dX9_tell_61 : decode cX9_tell 61 = .ok (.invokevirtual 229, 3) := by decide +kernel
theorem dX9_tell_64 : decode cX9_tell 64 = .ok (.aload_n 0, 1) := by decide +kernel
theorem dX9_tell_65 : decode cX9_tell 65 = .ok (.getfield 62, 3) := by decide +kernel
theorem dX9_tell_68 : decode cX9_tell 68 = .ok (.getfield 225, 3) := by decide +kernel
theorem dX9_tell_71 : decode cX9_tell 71 = .ok (.ireturn, 1) := by decide +kernel
theorem dX9_forget_0 : decode cX9_forget 0 = .ok (.aload_n 0, 1) := by decide +kernel
theorem dX9_forget_1 : decode cX9_forget 1 = .ok (.getfield 62, 3) := by decide +kernel
theorem dX9_forget_4 : decode cX9_forget 4 = .ok (.getfield 225, 3) := by decide +kernel
theorem dX9_forget_7 : decode cX9_forget 7 = .ok (.istore_n 1, 1) := by decide +kernel
theorem dX9_forget_8 : decode cX9_forget 8 = .ok (.aload_n 0, 1) := by decide +kernel
theorem dX9_forget_9 : decode cX9_forget 9 = .ok (.getfield 62, 3) := by decide +kernel
theorem dX9_forget_12 : decode cX9_forget 12 = .ok (.invokevirtual 116, 3) := by decide +kernel
theorem dX9_forget_15 : decode cX9_forget 15 = .ok (.iload_n 1, 1) := by decide +kernel
theorem dX9_forget_16 : decode cX9_forget 16 = .ok (.ireturn, 1) := by decide +kernel
theorem dX9_liar_0 : decode cX9_liar 0 = .ok (.aload_n 0, 1) := by decide +kernel
theorem dX9_liar_1 : decode cX9_liar 1 = .ok (.getfield 62, 3) := by decide +kernel
theorem dX9_liar_4 : decode cX9_liar 4 = .ok (.iconst 0, 1) := by decide +kernel
theorem dX9_liar_5 : decode cX9_liar 5 = .ok (.iconst 0, 1) := by decide +kernel
theorem dX9_liar_6 : decode cX9_liar 6 = .ok (.invokevirtual 232, 3) := by decide +kernel
theorem dX9_liar_9 : decode cX9_liar 9 = .ok (.ifCond .eq 9, 3) := by decide +kernel
theorem dX9_liar_12 : decode cX9_liar 12 = .ok (.sipush 512, 3) := by decide +kernel
theorem dX9_liar_15 : decode cX9_liar 15 = .ok (.goto 4, 3) := by decide +kernel
theorem dX9_liar_18 : decode cX9_liar 18 = .ok (.iconst 0, 1) := by decide +kernel
theorem dX9_liar_19 : decode cX9_liar 19 = .ok (.istore_n 1, 1) := by decide +kernel
theorem dX9_liar_20 : decode cX9_liar 20 = .ok (.iconst 0, 1) := by decide +kernel
theorem dX9_liar_21 : decode cX9_liar 21 = .ok (.istore_n 2, 1) := by decide +kernel
theorem dX9_liar_22 : decode cX9_liar 22 = .ok (.iload_n 2, 1) := by decide +kernel
theorem dX9_liar_23 : decode cX9_liar 23 = .ok (.aload_n 0, 1) := by decide +kernel
theorem dX9_liar_24 : decode cX9_liar 24 = .ok (.getfield 28, 3) := by decide +kernel
theorem dX9_liar_27 : decode cX9_liar 27 = .ok (.getfield 108, 3) := by decide +kernel
theorem dX9_liar_30 : decode cX9_liar 30 = .ok (.if_icmp .ge 23, 3) := by decide +kernel
theorem dX9_liar_33 : decode cX9_liar 33 = .ok (.aload_n 0, 1) := by decide +kernel
theorem dX9_liar_34 : decode cX9_liar 34 = .ok (.iload_n 2, 1) := by decide +kernel
theorem dX9_liar_35 : decode cX9_liar 35 = .ok (.invokevirtual 235, 3) := by decide +kernel
theorem dX9_liar_38 : decode cX9_liar 38 = .ok (.ifCond .eq 9, 3) := by decide +kernel
theorem dX9_liar_41 : decode cX9_liar 41 = .ok (.iload_n 1, 1) := by decide +kernel
theorem dX9_liar_42 : decode cX9_liar 42 = .ok (.iconst 1, 1) := by decide +kernel
theorem dX9_liar_43 : decode cX9_liar 43 = .ok (.iload_n 2, 1) := by decide +kernel
theorem dX9_liar_44 : decode cX9_liar 44 = .ok (.ishl, 1) := by decide +kernel
theorem dX9_liar_45 : decode cX9_liar 45 = .ok (.ior, 1) := by decide +kernel
theorem dX9_liar_46 : decode cX9_liar 46 = .ok (.istore_n 1, 1) := by decide +kernel
theorem dX9_liar_47 : decode cX9_liar 47 = .ok (.iinc 2 1, 3) := by decide +kernel
theorem dX9_liar_50 : decode cX9_liar 50 = .ok (.goto (-28), 3) := by decide +kernel
theorem dX9_liar_53 : decode cX9_liar 53 = .ok (.iload_n 1, 1) := by decide +kernel
theorem dX9_liar_54 : decode cX9_liar 54 = .ok (.ireturn, 1) := by decide +kernel
theorem dX9_age_0 : decode cX9_age 0 = .ok (.aload_n 0, 1) := by decide +kernel
theorem dX9_age_1 : decode cX9_age 1 = .ok (.iload_n 1, 1) := by decide +kernel
theorem dX9_age_2 : decode cX9_age 2 = .ok (.invokevirtual 117, 3) := by decide +kernel
theorem dX9_age_5 : decode cX9_age 5 = .ok (.ifCond .eq 12, 3) := by decide +kernel
theorem dX9_age_8 : decode cX9_age 8 = .ok (.iload_n 2, 1) := by decide +kernel
theorem dX9_age_9 : decode cX9_age 9 = .ok (.ifCond .lt 8, 3) := by decide +kernel
theorem dX9_age_12 : decode cX9_age 12 = .ok (.iload_n 2, 1) := by decide +kernel
theorem dX9_age_13 : decode cX9_age 13 = .ok (.iconst 1, 1) := by decide +kernel
theorem dX9_age_14 : decode cX9_age 14 = .ok (.if_icmp .le 5, 3) := by decide +kernel
theorem dX9_age_17 : decode cX9_age 17 = .ok (.iconst (-1), 1) := by decide +kernel
theorem dX9_age_18 : decode cX9_age 18 = .ok (.ireturn, 1) := by decide +kernel
theorem dX9_age_19 : decode cX9_age 19 = .ok (.bipush (-4), 2) := by decide +kernel
theorem dX9_age_21 : decode cX9_age 21 = .ok (.istore_n 3, 1) := by decide +kernel
theorem dX9_age_22 : decode cX9_age 22 = .ok (.iconst 0, 1) := by decide +kernel
theorem dX9_age_23 : decode cX9_age 23 = .ok (.istore 4, 2) := by decide +kernel
theorem dX9_age_25 : decode cX9_age 25 = .ok (.iload 4, 2) := by decide +kernel
theorem dX9_age_27 : decode cX9_age 27 = .ok (.bipush 99, 2) := by decide +kernel
theorem dX9_age_29 : decode cX9_age 29 = .ok (.if_icmp .gt 48, 3) := by decide +kernel
theorem dX9_age_32 : decode cX9_age 32 = .ok (.aload_n 0, 1) := by decide +kernel
theorem dX9_age_33 : decode cX9_age 33 = .ok (.getfield 62, 3) := by decide +kernel
theorem dX9_age_36 : decode cX9_age 36 = .ok (.iload_n 1, 1) := by decide +kernel
theorem dX9_age_37 : decode cX9_age 37 = .ok (.iload 4, 2) := by decide +kernel
theorem dX9_age_39 : decode cX9_age 39 = .ok (.aload_n 0, 1) := by decide +kernel
theorem dX9_age_40 : decode cX9_age 40 = .ok (.getfield 28, 3) := by decide +kernel
theorem dX9_age_43 : decode cX9_age 43 = .ok (.getfield 131, 3) := by decide +kernel
theorem dX9_age_46 : decode cX9_age 46 = .ok (.iload_n 1, 1) := by decide +kernel
theorem dX9_age_47 : decode cX9_age 47 = .ok (.invokevirtual 125, 3) := by decide +kernel
theorem dX9_age_50 : decode cX9_age 50 = .ok (.isub, 1) := by decide +kernel
theorem dX9_age_51 : decode cX9_age 51 = .ok (.invokevirtual 232, 3) := by decide +kernel
theorem dX9_age_54 : decode cX9_age 54 = .ok (.ifCond .eq 17, 3) := by decide +kernel
theorem dX9_age_57 : decode cX9_age 57 = .ok (.iload_n 2, 1) := by decide +kernel
theorem dX9_age_58 : decode cX9_age 58 = .ok (.iconst 1, 1) := by decide +kernel
theorem dX9_age_59 : decode cX9_age 59 = .ok (.if_icmp .eq 9, 3) := by decide +kernel
theorem dX9_age_62 : decode cX9_age 62 = .ok (.iload_n 3, 1) := by decide +kernel
theorem dX9_age_63 : decode cX9_age 63 = .ok (.bipush (-4), 2) := by decide +kernel
theorem dX9_age_65 : decode cX9_age 65 = .ok (.if_icmp .ne 6, 3) := by decide +kernel
theorem dX9_age_68 : decode cX9_age 68 = .ok (.iload 4, 2) := by decide +kernel
theorem dX9_age_70 : decode cX9_age 70 = .ok (.istore_n 3, 1) := by decide +kernel
theorem dX9_age_71 : decode cX9_age 71 = .ok (.iinc 4 1, 3) := by decide +kernel
theorem dX9_age_74 : decode cX9_age 74 = .ok (.goto (-49), 3) := by decide +kernel
theorem dX9_age_77 : decode cX9_age 77 = .ok (.iload_n 3, 1) := by decide +kernel
theorem dX9_age_78 : decode cX9_age 78 = .ok (.ireturn, 1) := by decide +kernel
theorem dX9_sums_0 : decode cX9_sums 0 = .ok (.iload_n 1, 1) := by decide +kernel
theorem dX9_sums_1 : decode cX9_sums 1 = .ok (.ifCond .lt 8, 3) := by decide +kernel
theorem dX9_sums_4 : decode cX9_sums 4 = .ok (.iload_n 1, 1) := by decide +kernel
theorem dX9_sums_5 : decode cX9_sums 5 = .ok (.iconst 1, 1) := by decide +kernel
theorem dX9_sums_6 : decode cX9_sums 6 = .ok (.if_icmp .le 5, 3) := by decide +kernel
theorem dX9_sums_9 : decode cX9_sums 9 = .ok (.iconst (-1), 1) := by decide +kernel
theorem dX9_sums_10 : decode cX9_sums 10 = .ok (.ireturn, 1) := by decide +kernel
theorem dX9_sums_11 : decode cX9_sums 11 = .ok (.iload_n 1, 1) := by decide +kernel
theorem dX9_sums_12 : decode cX9_sums 12 = .ok (.ifCond .ne 13, 3) := by decide +kernel
theorem dX9_sums_15 : decode cX9_sums 15 = .ok (.aload_n 0, 1) := by decide +kernel
theorem dX9_sums_16 : decode cX9_sums 16 = .ok (.getfield 71, 3) := by decide +kernel
theorem dX9_sums_19 : decode cX9_sums 19 = .ok (.invokevirtual 238, 3) := by decide +kernel
theorem dX9_sums_22 : decode cX9_sums 22 = .ok (.goto 10, 3) := by decide +kernel
theorem dX9_sums_25 : decode cX9_sums 25 = .ok (.aload_n 0, 1) := by decide +kernel
theorem dX9_sums_26 : decode cX9_sums 26 = .ok (.getfield 71, 3) := by decide +kernel
theorem dX9_sums_29 : decode cX9_sums 29 = .ok (.invokevirtual 241, 3) := by decide +kernel
theorem dX9_sums_32 : decode cX9_sums 32 = .ok (.ireturn, 1) := by decide +kernel
theorem dX9_stays_0 : decode cX9_stays 0 = .ok (.iload_n 1, 1) := by decide +kernel
theorem dX9_stays_1 : decode cX9_stays 1 = .ok (.ifCond .lt 18, 3) := by decide +kernel
theorem dX9_stays_4 : decode cX9_stays 4 = .ok (.iload_n 1, 1) := by decide +kernel
theorem dX9_stays_5 : decode cX9_stays 5 = .ok (.bipush 10, 2) := by decide +kernel
theorem dX9_stays_7 : decode cX9_stays 7 = .ok (.if_icmp .gt 12, 3) := by decide +kernel
theorem dX9_stays_10 : decode cX9_stays 10 = .ok (.iload_n 2, 1) := by decide +kernel
theorem dX9_stays_11 : decode cX9_stays 11 = .ok (.ifCond .lt 8, 3) := by decide +kernel
theorem dX9_stays_14 : decode cX9_stays 14 = .ok (.iload_n 2, 1) := by decide +kernel
theorem dX9_stays_15 : decode cX9_stays 15 = .ok (.iconst 1, 1) := by decide +kernel
theorem dX9_stays_16 : decode cX9_stays 16 = .ok (.if_icmp .le 5, 3) := by decide +kernel
theorem dX9_stays_19 : decode cX9_stays 19 = .ok (.iconst (-1), 1) := by decide +kernel
theorem dX9_stays_20 : decode cX9_stays 20 = .ok (.ireturn, 1) := by decide +kernel
theorem dX9_stays_21 : decode cX9_stays 21 = .ok (.aload_n 0, 1) := by decide +kernel
theorem dX9_stays_22 : decode cX9_stays 22 = .ok (.getfield 80, 3) := by decide +kernel
theorem dX9_stays_25 : decode cX9_stays 25 = .ok (.iload_n 1, 1) := by decide +kernel
theorem dX9_stays_26 : decode cX9_stays 26 = .ok (.invokevirtual 244, 3) := by decide +kernel
theorem dX9_stays_29 : decode cX9_stays 29 = .ok (.iload_n 2, 1) := by decide +kernel
theorem dX9_stays_30 : decode cX9_stays 30 = .ok (.ifCond .ne 13, 3) := by decide +kernel
theorem dX9_stays_33 : decode cX9_stays 33 = .ok (.aload_n 0, 1) := by decide +kernel
theorem dX9_stays_34 : decode cX9_stays 34 = .ok (.getfield 80, 3) := by decide +kernel
theorem dX9_stays_37 : decode cX9_stays 37 = .ok (.getfield 247, 3) := by decide +kernel
theorem dX9_stays_40 : decode cX9_stays 40 = .ok (.goto 10, 3) := by decide +kernel
theorem dX9_stays_43 : decode cX9_stays 43 = .ok (.aload_n 0, 1) := by decide +kernel
theorem dX9_stays_44 : decode cX9_stays 44 = .ok (.getfield 80, 3) := by decide +kernel
theorem dX9_stays_47 : decode cX9_stays 47 = .ok (.getfield 250, 3) := by decide +kernel
theorem dX9_stays_50 : decode cX9_stays 50 = .ok (.ireturn, 1) := by decide +kernel
theorem dX9_day_0 : decode cX9_day 0 = .ok (.iload_n 1, 1) := by decide +kernel
theorem dX9_day_1 : decode cX9_day 1 = .ok (.ifCond .lt 30, 3) := by decide +kernel
theorem dX9_day_4 : decode cX9_day 4 = .ok (.iload_n 1, 1) := by decide +kernel
theorem dX9_day_5 : decode cX9_day 5 = .ok (.sipush 9999, 3) := by decide +kernel
theorem dX9_day_8 : decode cX9_day 8 = .ok (.if_icmp .gt 23, 3) := by decide +kernel
theorem dX9_day_11 : decode cX9_day 11 = .ok (.iload_n 2, 1) := by decide +kernel
theorem dX9_day_12 : decode cX9_day 12 = .ok (.iconst 1, 1) := by decide +kernel
theorem dX9_day_13 : decode cX9_day 13 = .ok (.if_icmp .lt 18, 3) := by decide +kernel
theorem dX9_day_16 : decode cX9_day 16 = .ok (.iload_n 2, 1) := by decide +kernel
theorem dX9_day_17 : decode cX9_day 17 = .ok (.bipush 60, 2) := by decide +kernel
theorem dX9_day_19 : decode cX9_day 19 = .ok (.if_icmp .gt 12, 3) := by decide +kernel
theorem dX9_day_22 : decode cX9_day 22 = .ok (.iload_n 3, 1) := by decide +kernel
theorem dX9_day_23 : decode cX9_day 23 = .ok (.ifCond .lt 8, 3) := by decide +kernel
theorem dX9_day_26 : decode cX9_day 26 = .ok (.iload_n 3, 1) := by decide +kernel
theorem dX9_day_27 : decode cX9_day 27 = .ok (.iconst 1, 1) := by decide +kernel
theorem dX9_day_28 : decode cX9_day 28 = .ok (.if_icmp .le 5, 3) := by decide +kernel
theorem dX9_day_31 : decode cX9_day 31 = .ok (.iconst (-1), 1) := by decide +kernel
theorem dX9_day_32 : decode cX9_day 32 = .ok (.ireturn, 1) := by decide +kernel
theorem dX9_day_33 : decode cX9_day 33 = .ok (.aload_n 0, 1) := by decide +kernel
theorem dX9_day_34 : decode cX9_day 34 = .ok (.getfield 44, 3) := by decide +kernel
theorem dX9_day_37 : decode cX9_day 37 = .ok (.aload_n 0, 1) := by decide +kernel
theorem dX9_day_38 : decode cX9_day 38 = .ok (.getfield 40, 3) := by decide +kernel
theorem dX9_day_41 : decode cX9_day 41 = .ok (.invokevirtual 253, 3) := by decide +kernel
theorem dX9_day_44 : decode cX9_day 44 = .ok (.iconst 0, 1) := by decide +kernel
theorem dX9_day_45 : decode cX9_day 45 = .ok (.istore 4, 2) := by decide +kernel
theorem dX9_day_47 : decode cX9_day 47 = .ok (.iload 4, 2) := by decide +kernel
theorem dX9_day_49 : decode cX9_day 49 = .ok (.iload_n 2, 1) := by decide +kernel
theorem dX9_day_50 : decode cX9_day 50 = .ok (.if_icmp .ge 22, 3) := by decide +kernel
theorem dX9_day_53 : decode cX9_day 53 = .ok (.aload_n 0, 1) := by decide +kernel
theorem dX9_day_54 : decode cX9_day 54 = .ok (.getfield 44, 3) := by decide +kernel
theorem dX9_day_57 : decode cX9_day 57 = .ok (.iload_n 1, 1) := by decide +kernel
theorem dX9_day_58 : decode cX9_day 58 = .ok (.iload 4, 2) := by decide +kernel
theorem dX9_day_60 : decode cX9_day 60 = .ok (.invokestatic 256, 3) := by decide +kernel
theorem dX9_day_63 : decode cX9_day 63 = .ok (.invokevirtual 259, 3) := by decide +kernel
theorem dX9_day_66 : decode cX9_day 66 = .ok (.iinc 4 1, 3) := by decide +kernel
theorem dX9_day_69 : decode cX9_day 69 = .ok (.goto (-22), 3) := by decide +kernel
theorem dX9_day_72 : decode cX9_day 72 = .ok (.iload_n 3, 1) := by decide +kernel
theorem dX9_day_73 : decode cX9_day 73 = .ok (.ifCond .ne 21, 3) := by decide +kernel
theorem dX9_day_76 : decode cX9_day 76 = .ok (.aload_n 0, 1) := by decide +kernel
theorem dX9_day_77 : decode cX9_day 77 = .ok (.getfield 44, 3) := by decide +kernel
theorem dX9_day_80 : decode cX9_day 80 = .ok (.getfield 262, 3) := by decide +kernel
theorem dX9_day_83 : decode cX9_day 83 = .ok (.aload_n 0, 1) := by decide +kernel
theorem dX9_day_84 : decode cX9_day 84 = .ok (.getfield 40, 3) := by decide +kernel
theorem dX9_day_87 : decode cX9_day 87 = .ok (.getfield 262, 3) := by decide +kernel
theorem dX9_day_90 : decode cX9_day 90 = .ok (.isub, 1) := by decide +kernel
theorem dX9_day_91 : decode cX9_day 91 = .ok (.goto 18, 3) := by decide +kernel
theorem dX9_day_94 : decode cX9_day 94 = .ok (.aload_n 0, 1) := by decide +kernel
theorem dX9_day_95 : decode cX9_day 95 = .ok (.getfield 44, 3) := by decide +kernel
theorem dX9_day_98 : decode cX9_day 98 = .ok (.getfield 265, 3) := by decide +kernel
theorem dX9_day_101 : decode cX9_day 101 = .ok (.aload_n 0, 1) := by decide +kernel
theorem dX9_day_102 : decode cX9_day 102 = .ok (.getfield 40, 3) := by decide +kernel
theorem dX9_day_105 : decode cX9_day 105 = .ok (.getfield 265, 3) := by decide +kernel
theorem dX9_day_108 : decode cX9_day 108 = .ok (.isub, 1) := by decide +kernel
theorem dX9_day_109 : decode cX9_day 109 = .ok (.ireturn, 1) := by decide +kernel
theorem dX9_keep_0 : decode cX9_keep 0 = .ok (.aload_n 0, 1) := by decide +kernel
theorem dX9_keep_1 : decode cX9_keep 1 = .ok (.getfield 56, 3) := by decide +kernel
theorem dX9_keep_4 : decode cX9_keep 4 = .ok (.getfield 185, 3) := by decide +kernel
theorem dX9_keep_7 : decode cX9_keep 7 = .ok (.iconst 2, 1) := by decide +kernel
theorem dX9_keep_8 : decode cX9_keep 8 = .ok (.if_icmp .lt 6, 3) := by decide +kernel
theorem dX9_keep_11 : decode cX9_keep 11 = .ok (.bipush (-3), 2) := by decide +kernel
theorem dX9_keep_13 : decode cX9_keep 13 = .ok (.ireturn, 1) := by decide +kernel
theorem dX9_keep_14 : decode cX9_keep 14 = .ok (.aload_n 0, 1) := by decide +kernel
theorem dX9_keep_15 : decode cX9_keep 15 = .ok (.getfield 56, 3) := by decide +kernel
theorem dX9_keep_18 : decode cX9_keep 18 = .ok (.aload_n 0, 1) := by decide +kernel
theorem dX9_keep_19 : decode cX9_keep 19 = .ok (.getfield 40, 3) := by decide +kernel
theorem dX9_keep_22 : decode cX9_keep 22 = .ok (.invokevirtual 164, 3) := by decide +kernel
theorem dX9_keep_25 : decode cX9_keep 25 = .ok (.aload_n 0, 1) := by decide +kernel
theorem dX9_keep_26 : decode cX9_keep 26 = .ok (.getfield 56, 3) := by decide +kernel
theorem dX9_keep_29 : decode cX9_keep 29 = .ok (.getfield 185, 3) := by decide +kernel
theorem dX9_keep_32 : decode cX9_keep 32 = .ok (.ireturn, 1) := by decide +kernel
theorem dX9_back_0 : decode cX9_back 0 = .ok (.aload_n 0, 1) := by decide +kernel
theorem dX9_back_1 : decode cX9_back 1 = .ok (.getfield 56, 3) := by decide +kernel
theorem dX9_back_4 : decode cX9_back 4 = .ok (.aload_n 0, 1) := by decide +kernel
theorem dX9_back_5 : decode cX9_back 5 = .ok (.getfield 40, 3) := by decide +kernel
theorem dX9_back_8 : decode cX9_back 8 = .ok (.invokevirtual 181, 3) := by decide +kernel
theorem dX9_back_11 : decode cX9_back 11 = .ok (.ifCond .ne 6, 3) := by decide +kernel
theorem dX9_back_14 : decode cX9_back 14 = .ok (.bipush (-2), 2) := by decide +kernel
theorem dX9_back_16 : decode cX9_back 16 = .ok (.ireturn, 1) := by decide +kernel
theorem dX9_back_17 : decode cX9_back 17 = .ok (.aload_n 0, 1) := by decide +kernel
theorem dX9_back_18 : decode cX9_back 18 = .ok (.getfield 52, 3) := by decide +kernel
theorem dX9_back_21 : decode cX9_back 21 = .ok (.invokevirtual 115, 3) := by decide +kernel
theorem dX9_back_24 : decode cX9_back 24 = .ok (.aload_n 0, 1) := by decide +kernel
theorem dX9_back_25 : decode cX9_back 25 = .ok (.getfield 56, 3) := by decide +kernel
theorem dX9_back_28 : decode cX9_back 28 = .ok (.getfield 185, 3) := by decide +kernel
theorem dX9_back_31 : decode cX9_back 31 = .ok (.ireturn, 1) := by decide +kernel
theorem dX9_count_0 : decode cX9_count 0 = .ok (.iload_n 1, 1) := by decide +kernel
theorem dX9_count_1 : decode cX9_count 1 = .ok (.tableswitch 193 0 12 #[67, 75, 83, 91, 112, 123, 134, 145, 153, 161, 169, 177, 185], 67) := by decide +kernel
theorem dX9_count_68 : decode cX9_count 68 = .ok (.aload_n 0, 1) := by decide +kernel
theorem dX9_count_69 : decode cX9_count 69 = .ok (.getfield 28, 3) := by decide +kernel
theorem dX9_count_72 : decode cX9_count 72 = .ok (.getfield 108, 3) := by decide +kernel
theorem dX9_count_75 : decode cX9_count 75 = .ok (.ireturn, 1) := by decide +kernel
theorem dX9_count_76 : decode cX9_count 76 = .ok (.aload_n 0, 1) := by decide +kernel
theorem dX9_count_77 : decode cX9_count 77 = .ok (.getfield 28, 3) := by decide +kernel
theorem dX9_count_80 : decode cX9_count 80 = .ok (.getfield 152, 3) := by decide +kernel
theorem dX9_count_83 : decode cX9_count 83 = .ok (.ireturn, 1) := by decide +kernel
theorem dX9_count_84 : decode cX9_count 84 = .ok (.aload_n 0, 1) := by decide +kernel
theorem dX9_count_85 : decode cX9_count 85 = .ok (.getfield 40, 3) := by decide +kernel
theorem dX9_count_88 : decode cX9_count 88 = .ok (.getfield 166, 3) := by decide +kernel
theorem dX9_count_91 : decode cX9_count 91 = .ok (.ireturn, 1) := by decide +kernel
theorem dX9_count_92 : decode cX9_count 92 = .ok (.aload_n 0, 1) := by decide +kernel
theorem dX9_count_93 : decode cX9_count 93 = .ok (.getfield 40, 3) := by decide +kernel
theorem dX9_count_96 : decode cX9_count 96 = .ok (.invokevirtual 206, 3) := by decide +kernel
theorem dX9_count_99 : decode cX9_count 99 = .ok (.aload_n 0, 1) := by decide +kernel
theorem dX9_count_100 : decode cX9_count 100 = .ok (.getfield 40, 3) := by decide +kernel
theorem dX9_count_103 : decode cX9_count 103 = .ok (.getfield 146, 3) := by decide +kernel
theorem dX9_count_106 : decode cX9_count 106 = .ok (.iconst (-1), 1) := by decide +kernel
theorem dX9_count_107 : decode cX9_count 107 = .ok (.ixor, 1) := by decide +kernel
theorem dX9_count_108 : decode cX9_count 108 = .ok (.iand, 1) := by decide +kernel
theorem dX9_count_109 : decode cX9_count 109 = .ok (.invokestatic 268, 3) := by decide +kernel
theorem dX9_count_112 : decode cX9_count 112 = .ok (.ireturn, 1) := by decide +kernel
theorem dX9_count_113 : decode cX9_count 113 = .ok (.aload_n 0, 1) := by decide +kernel
theorem dX9_count_114 : decode cX9_count 114 = .ok (.getfield 40, 3) := by decide +kernel
theorem dX9_count_117 : decode cX9_count 117 = .ok (.getfield 146, 3) := by decide +kernel
theorem dX9_count_120 : decode cX9_count 120 = .ok (.invokestatic 268, 3) := by decide +kernel
theorem dX9_count_123 : decode cX9_count 123 = .ok (.ireturn, 1) := by decide +kernel
theorem dX9_count_124 : decode cX9_count 124 = .ok (.aload_n 0, 1) := by decide +kernel
theorem dX9_count_125 : decode cX9_count 125 = .ok (.getfield 40, 3) := by decide +kernel
theorem dX9_count_128 : decode cX9_count 128 = .ok (.getfield 273, 3) := by decide +kernel
theorem dX9_count_131 : decode cX9_count 131 = .ok (.invokestatic 268, 3) := by decide +kernel
theorem dX9_count_134 : decode cX9_count 134 = .ok (.ireturn, 1) := by decide +kernel
theorem dX9_count_135 : decode cX9_count 135 = .ok (.aload_n 0, 1) := by decide +kernel
theorem dX9_count_136 : decode cX9_count 136 = .ok (.getfield 40, 3) := by decide +kernel
theorem dX9_count_139 : decode cX9_count 139 = .ok (.getfield 276, 3) := by decide +kernel
theorem dX9_count_142 : decode cX9_count 142 = .ok (.invokestatic 268, 3) := by decide +kernel
theorem dX9_count_145 : decode cX9_count 145 = .ok (.ireturn, 1) := by decide +kernel
theorem dX9_count_146 : decode cX9_count 146 = .ok (.aload_n 0, 1) := by decide +kernel
theorem dX9_count_147 : decode cX9_count 147 = .ok (.getfield 40, 3) := by decide +kernel
theorem dX9_count_150 : decode cX9_count 150 = .ok (.getfield 262, 3) := by decide +kernel
theorem dX9_count_153 : decode cX9_count 153 = .ok (.ireturn, 1) := by decide +kernel
theorem dX9_count_154 : decode cX9_count 154 = .ok (.aload_n 0, 1) := by decide +kernel
theorem dX9_count_155 : decode cX9_count 155 = .ok (.getfield 40, 3) := by decide +kernel
theorem dX9_count_158 : decode cX9_count 158 = .ok (.getfield 265, 3) := by decide +kernel
theorem dX9_count_161 : decode cX9_count 161 = .ok (.ireturn, 1) := by decide +kernel
theorem dX9_count_162 : decode cX9_count 162 = .ok (.aload_n 0, 1) := by decide +kernel
theorem dX9_count_163 : decode cX9_count 163 = .ok (.getfield 62, 3) := by decide +kernel
theorem dX9_count_166 : decode cX9_count 166 = .ok (.getfield 225, 3) := by decide +kernel
theorem dX9_count_169 : decode cX9_count 169 = .ok (.ireturn, 1) := by decide +kernel
theorem dX9_count_170 : decode cX9_count 170 = .ok (.aload_n 0, 1) := by decide +kernel
theorem dX9_count_171 : decode cX9_count 171 = .ok (.getfield 52, 3) := by decide +kernel
theorem dX9_count_174 : decode cX9_count 174 = .ok (.getfield 185, 3) := by decide +kernel
theorem dX9_count_177 : decode cX9_count 177 = .ok (.ireturn, 1) := by decide +kernel
theorem dX9_count_178 : decode cX9_count 178 = .ok (.aload_n 0, 1) := by decide +kernel
theorem dX9_count_179 : decode cX9_count 179 = .ok (.getfield 56, 3) := by decide +kernel
theorem dX9_count_182 : decode cX9_count 182 = .ok (.getfield 185, 3) := by decide +kernel
theorem dX9_count_185 : decode cX9_count 185 = .ok (.ireturn, 1) := by decide +kernel
theorem dX9_count_186 : decode cX9_count 186 = .ok (.aload_n 0, 1) := by decide +kernel
theorem dX9_count_187 : decode cX9_count 187 = .ok (.getfield 12, 3) := by decide +kernel
theorem dX9_count_190 : decode cX9_count 190 = .ok (.invokevirtual 107, 3) := by decide +kernel
theorem dX9_count_193 : decode cX9_count 193 = .ok (.ireturn, 1) := by decide +kernel
theorem dX9_count_194 : decode cX9_count 194 = .ok (.iconst (-1), 1) := by decide +kernel
theorem dX9_count_195 : decode cX9_count 195 = .ok (.ireturn, 1) := by decide +kernel
theorem dX9_isPerson_0 : decode cX9_isPerson 0 = .ok (.iload_n 1, 1) := by decide +kernel
theorem dX9_isPerson_1 : decode cX9_isPerson 1 = .ok (.ifCond .lt 18, 3) := by decide +kernel
theorem dX9_isPerson_4 : decode cX9_isPerson 4 = .ok (.iload_n 1, 1) := by decide +kernel
theorem dX9_isPerson_5 : decode cX9_isPerson 5 = .ok (.aload_n 0, 1) := by decide +kernel
theorem dX9_isPerson_6 : decode cX9_isPerson 6 = .ok (.getfield 28, 3) := by decide +kernel
theorem dX9_isPerson_9 : decode cX9_isPerson 9 = .ok (.getfield 108, 3) := by decide +kernel
theorem dX9_isPerson_12 : decode cX9_isPerson 12 = .ok (.if_icmp .ge 7, 3) := by decide +kernel
theorem dX9_isPerson_15 : decode cX9_isPerson 15 = .ok (.iconst 1, 1) := by decide +kernel
theorem dX9_isPerson_16 : decode cX9_isPerson 16 = .ok (.goto 4, 3) := by decide +kernel
theorem dX9_isPerson_19 : decode cX9_isPerson 19 = .ok (.iconst 0, 1) := by decide +kernel
theorem dX9_isPerson_20 : decode cX9_isPerson 20 = .ok (.ireturn, 1) := by decide +kernel
theorem dX9_couldBeAnother_0 : decode cX9_couldBeAnother 0 = .ok (.aload_n 0, 1) := by decide +kernel
theorem dX9_couldBeAnother_1 : decode cX9_couldBeAnother 1 = .ok (.getfield 28, 3) := by decide +kernel
theorem dX9_couldBeAnother_4 : decode cX9_couldBeAnother 4 = .ok (.getfield 131, 3) := by decide +kernel
theorem dX9_couldBeAnother_7 : decode cX9_couldBeAnother 7 = .ok (.iload_n 1, 1) := by decide +kernel
theorem dX9_couldBeAnother_8 : decode cX9_couldBeAnother 8 = .ok (.invokevirtual 125, 3) := by decide +kernel
theorem dX9_couldBeAnother_11 : decode cX9_couldBeAnother 11 = .ok (.istore_n 2, 1) := by decide +kernel
theorem dX9_couldBeAnother_12 : decode cX9_couldBeAnother 12 = .ok (.iconst 0, 1) := by decide +kernel
theorem dX9_couldBeAnother_13 : decode cX9_couldBeAnother 13 = .ok (.istore_n 3, 1) := by decide +kernel
theorem dX9_couldBeAnother_14 : decode cX9_couldBeAnother 14 = .ok (.iload_n 3, 1) := by decide +kernel
theorem dX9_couldBeAnother_15 : decode cX9_couldBeAnother 15 = .ok (.bipush 99, 2) := by decide +kernel
theorem dX9_couldBeAnother_17 : decode cX9_couldBeAnother 17 = .ok (.if_icmp .gt 30, 3) := by decide +kernel
theorem dX9_couldBeAnother_20 : decode cX9_couldBeAnother 20 = .ok (.iload_n 3, 1) := by decide +kernel
theorem dX9_couldBeAnother_21 : decode cX9_couldBeAnother 21 = .ok (.iload_n 2, 1) := by decide +kernel
theorem dX9_couldBeAnother_22 : decode cX9_couldBeAnother 22 = .ok (.if_icmp .eq 19, 3) := by decide +kernel
theorem dX9_couldBeAnother_25 : decode cX9_couldBeAnother 25 = .ok (.aload_n 0, 1) := by decide +kernel
theorem dX9_couldBeAnother_26 : decode cX9_couldBeAnother 26 = .ok (.getfield 62, 3) := by decide +kernel
theorem dX9_couldBeAnother_29 : decode cX9_couldBeAnother 29 = .ok (.iload_n 1, 1) := by decide +kernel
theorem dX9_couldBeAnother_30 : decode cX9_couldBeAnother 30 = .ok (.iload_n 3, 1) := by decide +kernel
theorem dX9_couldBeAnother_31 : decode cX9_couldBeAnother 31 = .ok (.iload_n 2, 1) := by decide +kernel
theorem dX9_couldBeAnother_32 : decode cX9_couldBeAnother 32 = .ok (.isub, 1) := by decide +kernel
theorem dX9_couldBeAnother_33 : decode cX9_couldBeAnother 33 = .ok (.invokevirtual 232, 3) := by decide +kernel
theorem dX9_couldBeAnother_36 : decode cX9_couldBeAnother 36 = .ok (.ifCond .eq 5, 3) := by decide +kernel
theorem dX9_couldBeAnother_39 : decode cX9_couldBeAnother 39 = .ok (.iconst 1, 1) := by decide +kernel
theorem dX9_couldBeAnother_40 : decode cX9_couldBeAnother 40 = .ok (.ireturn, 1) := by decide +kernel
theorem dX9_couldBeAnother_41 : decode cX9_couldBeAnother 41 = .ok (.iinc 3 1, 3) := by decide +kernel
theorem dX9_couldBeAnother_44 : decode cX9_couldBeAnother 44 = .ok (.goto (-30), 3) := by decide +kernel
theorem dX9_couldBeAnother_47 : decode cX9_couldBeAnother 47 = .ok (.iconst 0, 1) := by decide +kernel
theorem dX9_couldBeAnother_48 : decode cX9_couldBeAnother 48 = .ok (.ireturn, 1) := by decide +kernel
theorem dX9_draw_0 : decode cX9_draw 0 = .ok (.ldc2_w 279, 3) := by decide +kernel
theorem dX9_draw_3 : decode cX9_draw 3 = .ok (.iload_n 0, 1) := by decide +kernel
theorem dX9_draw_4 : decode cX9_draw 4 = .ok (.i2l, 1) := by decide +kernel
theorem dX9_draw_5 : decode cX9_draw 5 = .ok (.lmul, 1) := by decide +kernel
theorem dX9_draw_6 : decode cX9_draw 6 = .ok (.ldc2_w 281, 3) := by decide +kernel
theorem dX9_draw_9 : decode cX9_draw 9 = .ok (.iload_n 1, 1) := by decide +kernel
theorem dX9_draw_10 : decode cX9_draw 10 = .ok (.i2l, 1) := by decide +kernel
theorem dX9_draw_11 : decode cX9_draw 11 = .ok (.lmul, 1) := by decide +kernel
theorem dX9_draw_12 : decode cX9_draw 12 = .ok (.ladd, 1) := by decide +kernel
theorem dX9_draw_13 : decode cX9_draw 13 = .ok (.lconst 1, 1) := by decide +kernel
theorem dX9_draw_14 : decode cX9_draw 14 = .ok (.ladd, 1) := by decide +kernel
theorem dX9_draw_15 : decode cX9_draw 15 = .ok (.lstore_n 2, 1) := by decide +kernel
theorem dX9_draw_16 : decode cX9_draw 16 = .ok (.lload_n 2, 1) := by decide +kernel
theorem dX9_draw_17 : decode cX9_draw 17 = .ok (.lload_n 2, 1) := by decide +kernel
theorem dX9_draw_18 : decode cX9_draw 18 = .ok (.lmul, 1) := by decide +kernel
theorem dX9_draw_19 : decode cX9_draw 19 = .ok (.ldc2_w 283, 3) := by decide +kernel
theorem dX9_draw_22 : decode cX9_draw 22 = .ok (.lrem, 1) := by decide +kernel
theorem dX9_draw_23 : decode cX9_draw 23 = .ok (.l2i, 1) := by decide +kernel
theorem dX9_draw_24 : decode cX9_draw 24 = .ok (.ireturn, 1) := by decide +kernel
theorem dX9_has_0 : decode cX9_has 0 = .ok (.iload_n 1, 1) := by decide +kernel
theorem dX9_has_1 : decode cX9_has 1 = .ok (.ifCond .lt 22, 3) := by decide +kernel
theorem dX9_has_4 : decode cX9_has 4 = .ok (.iload_n 1, 1) := by decide +kernel
theorem dX9_has_5 : decode cX9_has 5 = .ok (.bipush 9, 2) := by decide +kernel
theorem dX9_has_7 : decode cX9_has 7 = .ok (.if_icmp .ge 16, 3) := by decide +kernel
theorem dX9_has_10 : decode cX9_has 10 = .ok (.iload_n 0, 1) := by decide +kernel
theorem dX9_has_11 : decode cX9_has 11 = .ok (.iload_n 1, 1) := by decide +kernel
theorem dX9_has_12 : decode cX9_has 12 = .ok (.ishr, 1) := by decide +kernel
theorem dX9_has_13 : decode cX9_has 13 = .ok (.iconst 1, 1) := by decide +kernel
theorem dX9_has_14 : decode cX9_has 14 = .ok (.iand, 1) := by decide +kernel
theorem dX9_has_15 : decode cX9_has 15 = .ok (.iconst 1, 1) := by decide +kernel
theorem dX9_has_16 : decode cX9_has 16 = .ok (.if_icmp .ne 7, 3) := by decide +kernel
theorem dX9_has_19 : decode cX9_has 19 = .ok (.iconst 1, 1) := by decide +kernel
theorem dX9_has_20 : decode cX9_has 20 = .ok (.goto 4, 3) := by decide +kernel
theorem dX9_has_23 : decode cX9_has 23 = .ok (.iconst 0, 1) := by decide +kernel
theorem dX9_has_24 : decode cX9_has 24 = .ok (.ireturn, 1) := by decide +kernel
theorem dX9_within_0 : decode cX9_within 0 = .ok (.iload_n 0, 1) := by decide +kernel
theorem dX9_within_1 : decode cX9_within 1 = .ok (.iload_n 1, 1) := by decide +kernel
theorem dX9_within_2 : decode cX9_within 2 = .ok (.iconst (-1), 1) := by decide +kernel
theorem dX9_within_3 : decode cX9_within 3 = .ok (.ixor, 1) := by decide +kernel
theorem dX9_within_4 : decode cX9_within 4 = .ok (.iand, 1) := by decide +kernel
theorem dX9_within_5 : decode cX9_within 5 = .ok (.ifCond .ne 7, 3) := by decide +kernel
theorem dX9_within_8 : decode cX9_within 8 = .ok (.iconst 1, 1) := by decide +kernel
theorem dX9_within_9 : decode cX9_within 9 = .ok (.goto 4, 3) := by decide +kernel
theorem dX9_within_12 : decode cX9_within 12 = .ok (.iconst 0, 1) := by decide +kernel
theorem dX9_within_13 : decode cX9_within 13 = .ok (.ireturn, 1) := by decide +kernel
theorem dX10_init_0 : decode cX10_init 0 = .ok (.aload_n 0, 1) := by decide +kernel
theorem dX10_init_1 : decode cX10_init 1 = .ok (.invokespecial 1, 3) := by decide +kernel
theorem dX10_init_4 : decode cX10_init 4 = .ok (.aload_n 0, 1) := by decide +kernel
theorem dX10_init_5 : decode cX10_init 5 = .ok (.sipush 200, 3) := by decide +kernel
theorem dX10_init_8 : decode cX10_init 8 = .ok (.newarray .int, 2) := by decide +kernel
theorem dX10_init_10 : decode cX10_init 10 = .ok (.putfield 7, 3) := by decide +kernel
theorem dX10_init_13 : decode cX10_init 13 = .ok (.aload_n 0, 1) := by decide +kernel
theorem dX10_init_14 : decode cX10_init 14 = .ok (.bipush 40, 2) := by decide +kernel
theorem dX10_init_16 : decode cX10_init 16 = .ok (.newarray .int, 2) := by decide +kernel
theorem dX10_init_18 : decode cX10_init 18 = .ok (.putfield 13, 3) := by decide +kernel
theorem dX10_init_21 : decode cX10_init 21 = .ok (.aload_n 0, 1) := by decide +kernel
theorem dX10_init_22 : decode cX10_init 22 = .ok (.bipush 40, 2) := by decide +kernel
theorem dX10_init_24 : decode cX10_init 24 = .ok (.newarray .int, 2) := by decide +kernel
theorem dX10_init_26 : decode cX10_init 26 = .ok (.putfield 16, 3) := by decide +kernel
theorem dX10_init_29 : decode cX10_init 29 = .ok (.aload_n 0, 1) := by decide +kernel
theorem dX10_init_30 : decode cX10_init 30 = .ok (.bipush 21, 2) := by decide +kernel
theorem dX10_init_32 : decode cX10_init 32 = .ok (.newarray .int, 2) := by decide +kernel
theorem dX10_init_34 : decode cX10_init 34 = .ok (.putfield 19, 3) := by decide +kernel
theorem dX10_init_37 : decode cX10_init 37 = .ok (.aload_n 0, 1) := by decide +kernel
theorem dX10_init_38 : decode cX10_init 38 = .ok (.sipush 168, 3) := by decide +kernel
theorem dX10_init_41 : decode cX10_init 41 = .ok (.newarray .int, 2) := by decide +kernel
theorem dX10_init_43 : decode cX10_init 43 = .ok (.putfield 22, 3) := by decide +kernel
theorem dX10_init_46 : decode cX10_init 46 = .ok (.aload_n 0, 1) := by decide +kernel
theorem dX10_init_47 : decode cX10_init 47 = .ok (.bipush 42, 2) := by decide +kernel
theorem dX10_init_49 : decode cX10_init 49 = .ok (.newarray .int, 2) := by decide +kernel
theorem dX10_init_51 : decode cX10_init 51 = .ok (.putfield 25, 3) := by decide +kernel
theorem dX10_init_54 : decode cX10_init 54 = .ok (.aload_n 0, 1) := by decide +kernel
theorem dX10_init_55 : decode cX10_init 55 = .ok (.iconst 5, 1) := by decide +kernel
theorem dX10_init_56 : decode cX10_init 56 = .ok (.newarray .int, 2) := by decide +kernel
theorem dX10_init_58 : decode cX10_init 58 = .ok (.putfield 28, 3) := by decide +kernel
theorem dX10_init_61 : decode cX10_init 61 = .ok (.aload_n 0, 1) := by decide +kernel
theorem dX10_init_62 : decode cX10_init 62 = .ok (.sipush 512, 3) := by decide +kernel
theorem dX10_init_65 : decode cX10_init 65 = .ok (.newarray .int, 2) := by decide +kernel
theorem dX10_init_67 : decode cX10_init 67 = .ok (.putfield 31, 3) := by decide +kernel
theorem dX10_init_70 : decode cX10_init 70 = .ok (.aload_n 0, 1) := by decide +kernel
theorem dX10_init_71 : decode cX10_init 71 = .ok (.sipush 512, 3) := by decide +kernel
theorem dX10_init_74 : decode cX10_init 74 = .ok (.newarray .int, 2) := by decide +kernel
theorem dX10_init_76 : decode cX10_init 76 = .ok (.putfield 34, 3) := by decide +kernel
theorem dX10_init_79 : decode cX10_init 79 = .ok (.aload_n 0, 1) := by decide +kernel
theorem dX10_init_80 : decode cX10_init 80 = .ok (.bipush 21, 2) := by decide +kernel
theorem dX10_init_82 : decode cX10_init 82 = .ok (.newarray .int, 2) := by decide +kernel
theorem dX10_init_84 : decode cX10_init 84 = .ok (.putfield 37, 3) := by decide +kernel
theorem dX10_init_87 : decode cX10_init 87 = .ok (.aload_n 0, 1) := by decide +kernel
theorem dX10_init_88 : decode cX10_init 88 = .ok (.invokevirtual 40, 3) := by decide +kernel
theorem dX10_init_91 : decode cX10_init 91 = .ok (.aload_n 0, 1) := by decide +kernel
theorem dX10_init_92 : decode cX10_init 92 = .ok (.getfield 16, 3) := by decide +kernel
theorem dX10_init_95 : decode cX10_init 95 = .ok (.iconst 1, 1) := by decide +kernel
theorem dX10_init_96 : decode cX10_init 96 = .ok (.bipush 120, 2) := by decide +kernel
theorem dX10_init_98 : decode cX10_init 98 = .ok (.iastore, 1) := by decide +kernel
theorem dX10_init_99 : decode cX10_init 99 = .ok (.aload_n 0, 1) := by decide +kernel
theorem dX10_init_100 : decode cX10_init 100 = .ok (.iconst 0, 1) := by decide +kernel
theorem dX10_init_101 : decode cX10_init 101 = .ok (.bipush 70, 2) := by decide +kernel
theorem dX10_init_103 : decode cX10_init 103 = .ok (.iconst 0, 1) := by decide +kernel
theorem dX10_init_104 : decode cX10_init 104 = .ok (.iconst 0, 1) := by decide +kernel
theorem dX10_init_105 : decode cX10_init 105 = .ok (.invokevirtual 43, 3) := by decide +kernel
theorem dX10_init_108 : decode cX10_init 108 = .ok (.aload_n 0, 1) := by decide +kernel
theorem dX10_init_109 : decode cX10_init 109 = .ok (.iconst 0, 1) := by decide +kernel
theorem dX10_init_110 : decode cX10_init 110 = .ok (.bipush 45, 2) := by decide +kernel
theorem dX10_init_112 : decode cX10_init 112 = .ok (.iconst 0, 1) := by decide +kernel
theorem dX10_init_113 : decode cX10_init 113 = .ok (.iconst 1, 1) := by decide +kernel
theorem dX10_init_114 : decode cX10_init 114 = .ok (.invokevirtual 43, 3) := by decide +kernel
theorem dX10_init_117 : decode cX10_init 117 = .ok (.aload_n 0, 1) := by decide +kernel
theorem dX10_init_118 : decode cX10_init 118 = .ok (.iconst 1, 1) := by decide +kernel
theorem dX10_init_119 : decode cX10_init 119 = .ok (.iconst 0, 1) := by decide +kernel
theorem dX10_init_120 : decode cX10_init 120 = .ok (.iconst 0, 1) := by decide +kernel
theorem dX10_init_121 : decode cX10_init 121 = .ok (.iconst 1, 1) := by decide +kernel
theorem dX10_init_122 : decode cX10_init 122 = .ok (.invokevirtual 43, 3) := by decide +kernel
theorem dX10_init_125 : decode cX10_init 125 = .ok (.aload_n 0, 1) := by decide +kernel
theorem dX10_init_126 : decode cX10_init 126 = .ok (.iconst 0, 1) := by decide +kernel
theorem dX10_init_127 : decode cX10_init 127 = .ok (.bipush 38, 2) := by decide +kernel
theorem dX10_init_129 : decode cX10_init 129 = .ok (.iconst 2, 1) := by decide +kernel
theorem dX10_init_130 : decode cX10_init 130 = .ok (.iconst 1, 1) := by decide +kernel
theorem dX10_init_131 : decode cX10_init 131 = .ok (.invokevirtual 43, 3) := by decide +kernel
theorem dX10_init_134 : decode cX10_init 134 = .ok (.aload_n 0, 1) := by decide +kernel
theorem dX10_init_135 : decode cX10_init 135 = .ok (.iconst 2, 1) := by decide +kernel
theorem dX10_init_136 : decode cX10_init 136 = .ok (.bipush 90, 2) := by decide +kernel
theorem dX10_init_138 : decode cX10_init 138 = .ok (.iconst 3, 1) := by decide +kernel
theorem dX10_init_139 : decode cX10_init 139 = .ok (.iconst 0, 1) := by decide +kernel
theorem dX10_init_140 : decode cX10_init 140 = .ok (.invokevirtual 43, 3) := by decide +kernel
theorem dX10_init_143 : decode cX10_init 143 = .ok (.aload_n 0, 1) := by decide +kernel
theorem dX10_init_144 : decode cX10_init 144 = .ok (.iconst 3, 1) := by decide +kernel
theorem dX10_init_145 : decode cX10_init 145 = .ok (.bipush 24, 2) := by decide +kernel
theorem dX10_init_147 : decode cX10_init 147 = .ok (.iconst 5, 1) := by decide +kernel
theorem dX10_init_148 : decode cX10_init 148 = .ok (.iconst 2, 1) := by decide +kernel
theorem dX10_init_149 : decode cX10_init 149 = .ok (.invokevirtual 43, 3) := by decide +kernel
theorem dX10_init_152 : decode cX10_init 152 = .ok (.aload_n 0, 1) := by decide +kernel
theorem dX10_init_153 : decode cX10_init 153 = .ok (.iconst 3, 1) := by decide +kernel
theorem dX10_init_154 : decode cX10_init 154 = .ok (.bipush 31, 2) := by decide +kernel
theorem dX10_init_156 : decode cX10_init 156 = .ok (.iconst 5, 1) := by decide +kernel
theorem dX10_init_157 : decode cX10_init 157 = .ok (.iconst 2, 1) := by decide +kernel
theorem dX10_init_158 : decode cX10_init 158 = .ok (.invokevirtual 43, 3) := by decide +kernel
theorem dX10_init_161 : decode cX10_init 161 = .ok (.aload_n 0, 1) := by decide +kernel
theorem dX10_init_162 : decode cX10_init 162 = .ok (.iconst 0, 1) := by decide +kernel
theorem dX10_init_163 : decode cX10_init 163 = .ok (.bipush 52, 2) := by decide +kernel
theorem dX10_init_165 : decode cX10_init 165 = .ok (.bipush 8, 2) := by decide +kernel
theorem dX10_init_167 : decode cX10_init 167 = .ok (.iconst 0, 1) := by decide +kernel
theorem dX10_init_168 : decode cX10_init 168 = .ok (.invokevirtual 43, 3) := by decide +kernel
theorem dX10_init_171 : decode cX10_init 171 = .ok (.aload_n 0, 1) := by decide +kernel
theorem dX10_init_172 : decode cX10_init 172 = .ok (.iconst 0, 1) := by decide +kernel
theorem dX10_init_173 : decode cX10_init 173 = .ok (.bipush 12, 2) := by decide +kernel
theorem dX10_init_175 : decode cX10_init 175 = .ok (.iconst 1, 1) := by decide +kernel
theorem dX10_init_176 : decode cX10_init 176 = .ok (.iconst 0, 1) := by decide +kernel
theorem dX10_init_177 : decode cX10_init 177 = .ok (.invokevirtual 43, 3) := by decide +kernel
theorem dX10_init_180 : decode cX10_init 180 = .ok (.aload_n 0, 1) := by decide +kernel
theorem dX10_init_181 : decode cX10_init 181 = .ok (.invokevirtual 47, 3) := by decide +kernel
theorem dX10_init_184 : decode cX10_init 184 = .ok (.return_, 1) := by decide +kernel
theorem dX10_in_0 : decode cX10_in 0 = .ok (.iload_n 0, 1) := by decide +kernel
theorem dX10_in_1 : decode cX10_in 1 = .ok (.iload_n 1, 1) := by decide +kernel
theorem dX10_in_2 : decode cX10_in 2 = .ok (.if_icmp .lt 12, 3) := by decide +kernel
theorem dX10_in_5 : decode cX10_in 5 = .ok (.iload_n 0, 1) := by decide +kernel
theorem dX10_in_6 : decode cX10_in 6 = .ok (.iload_n 2, 1) := by decide +kernel
theorem dX10_in_7 : decode cX10_in 7 = .ok (.if_icmp .gt 7, 3) := by decide +kernel
theorem dX10_in_10 : decode cX10_in 10 = .ok (.iconst 1, 1) := by decide +kernel
theorem dX10_in_11 : decode cX10_in 11 = .ok (.goto 4, 3) := by decide +kernel
theorem dX10_in_14 : decode cX10_in 14 = .ok (.iconst 0, 1) := by decide +kernel
theorem dX10_in_15 : decode cX10_in 15 = .ok (.ireturn, 1) := by decide +kernel
theorem dX10_isPerson_0 : decode cX10_isPerson 0 = .ok (.iload_n 1, 1) := by decide +kernel
theorem dX10_isPerson_1 : decode cX10_isPerson 1 = .ok (.iconst 0, 1) := by decide +kernel
theorem dX10_isPerson_2 : decode cX10_isPerson 2 = .ok (.aload_n 0, 1) := by decide +kernel
theorem dX10_isPerson_3 : decode cX10_isPerson 3 = .ok (.getfield 13, 3) := by decide +kernel
theorem dX10_isPerson_6 : decode cX10_isPerson 6 = .ok (.iconst 0, 1) := by decide +kernel
theorem dX10_isPerson_7 : decode cX10_isPerson 7 = .ok (.iaload, 1) := by decide +kernel
theorem dX10_isPerson_8 : decode cX10_isPerson 8 = .ok (.iconst 1, 1) := by decide +kernel
theorem dX10_isPerson_9 : decode cX10_isPerson 9 = .ok (.isub, 1) := by decide +kernel
theorem dX10_isPerson_10 : decode cX10_isPerson 10 = .ok (.invokestatic 50, 3) := by decide +kernel
theorem dX10_isPerson_13 : decode cX10_isPerson 13 = .ok (.ireturn, 1) := by decide +kernel
theorem dX10_ones_0 : decode cX10_ones 0 = .ok (.iconst 0, 1) := by decide +kernel
theorem dX10_ones_1 : decode cX10_ones 1 = .ok (.istore_n 1, 1) := by decide +kernel
theorem dX10_ones_2 : decode cX10_ones 2 = .ok (.iconst 0, 1) := by decide +kernel
theorem dX10_ones_3 : decode cX10_ones 3 = .ok (.istore_n 2, 1) := by decide +kernel
theorem dX10_ones_4 : decode cX10_ones 4 = .ok (.iload_n 2, 1) := by decide +kernel
theorem dX10_ones_5 : decode cX10_ones 5 = .ok (.bipush 9, 2) := by decide +kernel
theorem dX10_ones_7 : decode cX10_ones 7 = .ok (.if_icmp .ge 17, 3) := by decide +kernel
theorem dX10_ones_10 : decode cX10_ones 10 = .ok (.iload_n 1, 1) := by decide +kernel
theorem dX10_ones_11 : decode cX10_ones 11 = .ok (.iload_n 0, 1) := by decide +kernel
theorem dX10_ones_12 : decode cX10_ones 12 = .ok (.iload_n 2, 1) := by decide +kernel
theorem dX10_ones_13 : decode cX10_ones 13 = .ok (.ishr, 1) := by decide +kernel
theorem dX10_ones_14 : decode cX10_ones 14 = .ok (.iconst 1, 1) := by decide +kernel
theorem dX10_ones_15 : decode cX10_ones 15 = .ok (.iand, 1) := by decide +kernel
theorem dX10_ones_16 : decode cX10_ones 16 = .ok (.iadd, 1) := by decide +kernel
theorem dX10_ones_17 : decode cX10_ones 17 = .ok (.istore_n 1, 1) := by decide +kernel
theorem dX10_ones_18 : decode cX10_ones 18 = .ok (.iinc 2 1, 3) := by decide +kernel
theorem dX10_ones_21 : decode cX10_ones 21 = .ok (.goto (-17), 3) := by decide +kernel
theorem dX10_ones_24 : decode cX10_ones 24 = .ok (.iload_n 1, 1) := by decide +kernel
theorem dX10_ones_25 : decode cX10_ones 25 = .ok (.ireturn, 1) := by decide +kernel
theorem dX10_write_0 : decode cX10_write 0 = .ok (.iload_n 1, 1) := by decide +kernel
theorem dX10_write_1 : decode cX10_write 1 = .ok (.bipush 32, 2) := by decide +kernel
theorem dX10_write_3 : decode cX10_write 3 = .ok (.bipush 126, 2) := by decide +kernel
theorem dX10_write_5 : decode cX10_write 5 = .ok (.invokestatic 50, 3) := by decide +kernel
theorem dX10_write_8 : decode cX10_write 8 = .ok (.ifCond .ne 5, 3) := by decide +kernel
theorem dX10_write_11 : decode cX10_write 11 = .ok (.iconst (-1), 1) := by decide +kernel
theorem dX10_write_12 : decode cX10_write 12 = .ok (.ireturn, 1) := by decide +kernel
theorem dX10_write_13 : decode cX10_write 13 = .ok (.aload_n 0, 1) := by decide +kernel
theorem dX10_write_14 : decode cX10_write 14 = .ok (.getfield 54, 3) := by decide +kernel
theorem dX10_write_17 : decode cX10_write 17 = .ok (.sipush 200, 3) := by decide +kernel
theorem dX10_write_20 : decode cX10_write 20 = .ok (.if_icmp .ne 6, 3) := by decide +kernel
theorem dX10_write_23 : decode cX10_write 23 = .ok (.bipush (-3), 2) := by decide +kernel
theorem dX10_write_25 : decode cX10_write 25 = .ok (.ireturn, 1) := by decide +kernel
theorem dX10_write_26 : decode cX10_write 26 = .ok (.aload_n 0, 1) := by decide +kernel
theorem dX10_write_27 : decode cX10_write 27 = .ok (.getfield 7, 3) := by decide +kernel
theorem dX10_write_30 : decode cX10_write 30 = .ok (.aload_n 0, 1) := by decide +kernel
theorem dX10_write_31 : decode cX10_write 31 = .ok (.getfield 54, 3) := by decide +kernel
theorem dX10_write_34 : decode cX10_write 34 = .ok (.iload_n 1, 1) := by decide +kernel
theorem dX10_write_35 : decode cX10_write 35 = .ok (.iastore, 1) := by decide +kernel
theorem dX10_write_36 : decode cX10_write 36 = .ok (.aload_n 0, 1) := by decide +kernel
theorem dX10_write_37 : decode cX10_write 37 = .ok (.dup, 1) := by decide +kernel
theorem dX10_write_38 : decode cX10_write 38 = .ok (.getfield 54, 3) := by decide +kernel
theorem dX10_write_41 : decode cX10_write 41 = .ok (.iconst 1, 1) := by decide +kernel
theorem dX10_write_42 : decode cX10_write 42 = .ok (.iadd, 1) := by decide +kernel
theorem dX10_write_43 : decode cX10_write 43 = .ok (.putfield 54, 3) := by decide +kernel
theorem dX10_write_46 : decode cX10_write 46 = .ok (.aload_n 0, 1) := by decide +kernel
theorem dX10_write_47 : decode cX10_write 47 = .ok (.getfield 54, 3) := by decide +kernel
theorem dX10_write_50 : decode cX10_write 50 = .ok (.ireturn, 1) := by decide +kernel
theorem dX10_wipe_0 : decode cX10_wipe 0 = .ok (.aload_n 0, 1) := by decide +kernel
theorem dX10_wipe_1 : decode cX10_wipe 1 = .ok (.getfield 54, 3) := by decide +kernel
theorem dX10_wipe_4 : decode cX10_wipe 4 = .ok (.istore_n 1, 1) := by decide +kernel
theorem dX10_wipe_5 : decode cX10_wipe 5 = .ok (.aload_n 0, 1) := by decide +kernel
theorem dX10_wipe_6 : decode cX10_wipe 6 = .ok (.iconst 0, 1) := by decide +kernel
theorem dX10_wipe_7 : decode cX10_wipe 7 = .ok (.putfield 54, 3) := by decide +kernel
theorem dX10_wipe_10 : decode cX10_wipe 10 = .ok (.iload_n 1, 1) := by decide +kernel
theorem dX10_wipe_11 : decode cX10_wipe 11 = .ok (.ireturn, 1) := by decide +kernel
theorem dX10_letterAt_0 : decode cX10_letterAt 0 = .ok (.iload_n 1, 1) := by decide +kernel
theorem dX10_letterAt_1 : decode cX10_letterAt 1 = .ok (.aload_n 0, 1) := by decide +kernel
theorem dX10_letterAt_2 : decode cX10_letterAt 2 = .ok (.getfield 54, 3) := by decide +kernel
theorem dX10_letterAt_5 : decode cX10_letterAt 5 = .ok (.if_icmp .ge 12, 3) := by decide +kernel
theorem dX10_letterAt_8 : decode cX10_letterAt 8 = .ok (.aload_n 0, 1) := by decide +kernel
theorem dX10_letterAt_9 : decode cX10_letterAt 9 = .ok (.getfield 7, 3) := by decide +kernel
theorem dX10_letterAt_12 : decode cX10_letterAt 12 = .ok (.iload_n 1, 1) := by decide +kernel
theorem dX10_letterAt_13 : decode cX10_letterAt 13 = .ok (.iaload, 1) := by decide +kernel
theorem dX10_letterAt_14 : decode cX10_letterAt 14 = .ok (.goto 4, 3) := by decide +kernel
theorem dX10_letterAt_17 : decode cX10_letterAt 17 = .ok (.iconst (-1), 1) := by decide +kernel
theorem dX10_letterAt_18 : decode cX10_letterAt 18 = .ok (.ireturn, 1) := by decide +kernel
theorem dX10_isFigure_0 : decode cX10_isFigure 0 = .ok (.iload_n 0, 1) := by decide +kernel
theorem dX10_isFigure_1 : decode cX10_isFigure 1 = .ok (.bipush 48, 2) := by decide +kernel
theorem dX10_isFigure_3 : decode cX10_isFigure 3 = .ok (.bipush 57, 2) := by decide +kernel
theorem dX10_isFigure_5 : decode cX10_isFigure 5 = .ok (.invokestatic 50, 3) := by decide +kernel
theorem dX10_isFigure_8 : decode cX10_isFigure 8 = .ok (.ireturn, 1) := by decide +kernel
theorem dX10_number_0 : decode cX10_number 0 = .ok (.aload_n 0, 1) := by decide +kernel
theorem dX10_number_1 : decode cX10_number 1 = .ok (.aload_n 0, 1) := by decide +kernel
theorem dX10_number_2 : decode cX10_number 2 = .ok (.getfield 58, 3) := by decide +kernel
theorem dX10_number_5 : decode cX10_number 5 = .ok (.invokevirtual 61, 3) := by decide +kernel
theorem dX10_number_8 : decode cX10_number 8 = .ok (.invokestatic 65, 3) := by decide +kernel
theorem dX10_number_11 : decode cX10_number 11 = .ok (.ifCond .ne 5, 3) := by decide +kernel
theorem dX10_number_14 : decode cX10_number 14 = .ok (.iconst (-1), 1) := by decide +kernel
theorem dX10_number_15 : decode cX10_number 15 = .ok (.ireturn, 1) := by decide +kernel
theorem dX10_number_16 : decode cX10_number 16 = .ok (.aload_n 0, 1) := by decide +kernel
theorem dX10_number_17 : decode cX10_number 17 = .ok (.aload_n 0, 1) := by decide +kernel
theorem dX10_number_18 : decode cX10_number 18 = .ok (.getfield 58, 3) := by decide +kernel
theorem dX10_number_21 : decode cX10_number 21 = .ok (.invokevirtual 61, 3) := by decide +kernel
theorem dX10_number_24 : decode cX10_number 24 = .ok (.bipush 48, 2) := by decide +kernel
theorem dX10_number_26 : decode cX10_number 26 = .ok (.isub, 1) := by decide +kernel
theorem dX10_number_27 : decode cX10_number 27 = .ok (.istore 4, 2) := by decide +kernel
theorem dX10_number_29 : decode cX10_number 29 = .ok (.aload_n 0, 1) := by decide +kernel
theorem dX10_number_30 : decode cX10_number 30 = .ok (.dup, 1) := by decide +kernel
theorem dX10_number_31 : decode cX10_number 31 = .ok (.getfield 58, 3) := by decide +kernel
theorem dX10_number_34 : decode cX10_number 34 = .ok (.iconst 1, 1) := by decide +kernel
theorem dX10_number_35 : decode cX10_number 35 = .ok (.iadd, 1) := by decide +kernel
theorem dX10_number_36 : decode cX10_number 36 = .ok (.putfield 58, 3) := by decide +kernel
theorem dX10_number_39 : decode cX10_number 39 = .ok (.aload_n 0, 1) := by decide +kernel
theorem dX10_number_40 : decode cX10_number 40 = .ok (.aload_n 0, 1) := by decide +kernel
theorem dX10_number_41 : decode cX10_number 41 = .ok (.getfield 58, 3) := by decide +kernel
theorem dX10_number_44 : decode cX10_number 44 = .ok (.invokevirtual 61, 3) := by decide +kernel
theorem dX10_number_47 : decode cX10_number 47 = .ok (.invokestatic 65, 3) := by decide +kernel
theorem dX10_number_50 : decode cX10_number 50 = .ok (.ifCond .eq 32, 3) := by decide +kernel
theorem dX10_number_53 : decode cX10_number 53 = .ok (.bipush 10, 2) := by decide +kernel
theorem dX10_number_55 : decode cX10_number 55 = .ok (.iload 4, 2) := by decide +kernel
theorem dX10_number_57 : decode cX10_number 57 = .ok (.imul, 1) := by decide +kernel
theorem dX10_number_58 : decode cX10_number 58 = .ok (.aload_n 0, 1) := by decide +kernel
theorem dX10_number_59 : decode cX10_number 59 = .ok (.aload_n 0, 1) := by decide +kernel
theorem dX10_number_60 : decode cX10_number 60 = .ok (.getfield 58, 3) := by decide +kernel
theorem dX10_number_63 : decode cX10_number 63 = .ok (.invokevirtual 61, 3) := by decide +kernel
theorem dX10_number_66 : decode cX10_number 66 = .ok (.iadd, 1) := by decide +kernel
theorem dX10_number_67 : decode cX10_number 67 = .ok (.bipush 48, 2) := by decide +kernel
theorem dX10_number_69 : decode cX10_number 69 = .ok (.isub, 1) := by decide +kernel
theorem dX10_number_70 : decode cX10_number 70 = .ok (.istore 4, 2) := by decide +kernel
theorem dX10_number_72 : decode cX10_number 72 = .ok (.aload_n 0, 1) := by decide +kernel
theorem dX10_number_73 : decode cX10_number 73 = .ok (.dup, 1) := by decide +kernel
theorem dX10_number_74 : decode cX10_number 74 = .ok (.getfield 58, 3) := by decide +kernel
theorem dX10_number_77 : decode cX10_number 77 = .ok (.iconst 1, 1) := by decide +kernel
theorem dX10_number_78 : decode cX10_number 78 = .ok (.iadd, 1) := by decide +kernel
theorem dX10_number_79 : decode cX10_number 79 = .ok (.putfield 58, 3) := by decide +kernel
theorem dX10_number_82 : decode cX10_number 82 = .ok (.aload_n 0, 1) := by decide +kernel
theorem dX10_number_83 : decode cX10_number 83 = .ok (.aload_n 0, 1) := by decide +kernel
theorem dX10_number_84 : decode cX10_number 84 = .ok (.getfield 58, 3) := by decide +kernel
theorem dX10_number_87 : decode cX10_number 87 = .ok (.invokevirtual 61, 3) := by decide +kernel
theorem dX10_number_90 : decode cX10_number 90 = .ok (.iload_n 3, 1) := by decide +kernel
theorem dX10_number_91 : decode cX10_number 91 = .ok (.if_icmp .ne 17, 3) := by decide +kernel
theorem dX10_number_94 : decode cX10_number 94 = .ok (.iload 4, 2) := by decide +kernel
theorem dX10_number_96 : decode cX10_number 96 = .ok (.iload_n 1, 1) := by decide +kernel
theorem dX10_number_97 : decode cX10_number 97 = .ok (.iload_n 2, 1) := by decide +kernel
theorem dX10_number_98 : decode cX10_number 98 = .ok (.invokestatic 50, 3) := by decide +kernel
theorem dX10_number_101 : decode cX10_number 101 = .ok (.ifCond .eq 7, 3) := by decide +kernel
theorem dX10_number_104 : decode cX10_number 104 = .ok (.iconst 1, 1) := by decide +kernel
theorem dX10_number_105 : decode cX10_number 105 = .ok (.goto 4, 3) := by decide +kernel
theorem dX10_number_108 : decode cX10_number 108 = .ok (.iconst 0, 1) := by decide +kernel
theorem dX10_number_109 : decode cX10_number 109 = .ok (.istore 5, 2) := by decide +kernel
theorem dX10_number_111 : decode cX10_number 111 = .ok (.aload_n 0, 1) := by decide +kernel
theorem dX10_number_112 : decode cX10_number 112 = .ok (.dup, 1) := by decide +kernel
theorem dX10_number_113 : decode cX10_number 113 = .ok (.getfield 58, 3) := by decide +kernel
theorem dX10_number_116 : decode cX10_number 116 = .ok (.iconst 1, 1) := by decide +kernel
theorem dX10_number_117 : decode cX10_number 117 = .ok (.iadd, 1) := by decide +kernel
theorem dX10_number_118 : decode cX10_number 118 = .ok (.putfield 58, 3) := by decide +kernel
theorem dX10_number_121 : decode cX10_number 121 = .ok (.iload 5, 2) := by decide +kernel
theorem dX10_number_123 : decode cX10_number 123 = .ok (.ifCond .eq 8, 3) := by decide +kernel
theorem dX10_number_126 : decode cX10_number 126 = .ok (.iload 4, 2) := by decide +kernel
theorem dX10_number_128 : decode cX10_number 128 = .ok (.goto 4, 3) := by decide +kernel
theorem dX10_number_131 : decode cX10_number 131 = .ok (.iconst (-1), 1) := by decide +kernel
theorem dX10_number_132 : decode cX10_number 132 = .ok (.ireturn, 1) := by decide +kernel
theorem dX10_begins_0 : decode cX10_begins 0 = .ok (.iconst 0, 1) := by decide +kernel
theorem dX10_begins_1 : decode cX10_begins 1 = .ok (.istore_n 1, 1) := by decide +kernel
theorem dX10_begins_2 : decode cX10_begins 2 = .ok (.iload_n 1, 1) := by decide +kernel
theorem dX10_begins_3 : decode cX10_begins 3 = .ok (.bipush 40, 2) := by decide +kernel
theorem dX10_begins_5 : decode cX10_begins 5 = .ok (.if_icmp .ge 16, 3) := by decide +kernel
theorem dX10_begins_8 : decode cX10_begins 8 = .ok (.aload_n 0, 1) := by decide +kernel
theorem dX10_begins_9 : decode cX10_begins 9 = .ok (.getfield 16, 3) := by decide +kernel
theorem dX10_begins_12 : decode cX10_begins 12 = .ok (.iload_n 1, 1) := by decide +kernel
theorem dX10_begins_13 : decode cX10_begins 13 = .ok (.iconst 0, 1) := by decide +kernel
theorem dX10_begins_14 : decode cX10_begins 14 = .ok (.iastore, 1) := by decide +kernel
theorem dX10_begins_15 : decode cX10_begins 15 = .ok (.iinc 1 1, 3) := by decide +kernel
theorem dX10_begins_18 : decode cX10_begins 18 = .ok (.goto (-16), 3) := by decide +kernel
theorem dX10_begins_21 : decode cX10_begins 21 = .ok (.aload_n 0, 1) := by decide +kernel
theorem dX10_begins_22 : decode cX10_begins 22 = .ok (.getfield 16, 3) := by decide +kernel
theorem dX10_begins_25 : decode cX10_begins 25 = .ok (.iconst 1, 1) := by decide +kernel
theorem dX10_begins_26 : decode cX10_begins 26 = .ok (.bipush 100, 2) := by decide +kernel
theorem dX10_begins_28 : decode cX10_begins 28 = .ok (.iastore, 1) := by decide +kernel
theorem dX10_begins_29 : decode cX10_begins 29 = .ok (.aload_n 0, 1) := by decide +kernel
theorem dX10_begins_30 : decode cX10_begins 30 = .ok (.getfield 16, 3) := by decide +kernel
theorem dX10_begins_33 : decode cX10_begins 33 = .ok (.iconst 2, 1) := by decide +kernel
theorem dX10_begins_34 : decode cX10_begins 34 = .ok (.bipush 9, 2) := by decide +kernel
theorem dX10_begins_36 : decode cX10_begins 36 = .ok (.iastore, 1) := by decide +kernel
theorem dX10_begins_37 : decode cX10_begins 37 = .ok (.aload_n 0, 1) := by decide +kernel
theorem dX10_begins_38 : decode cX10_begins 38 = .ok (.getfield 16, 3) := by decide +kernel
theorem dX10_begins_41 : decode cX10_begins 41 = .ok (.iconst 3, 1) := by decide +kernel
theorem dX10_begins_42 : decode cX10_begins 42 = .ok (.iconst 1, 1) := by decide +kernel
theorem dX10_begins_43 : decode cX10_begins 43 = .ok (.iastore, 1) := by decide +kernel
theorem dX10_begins_44 : decode cX10_begins 44 = .ok (.return_, 1) := by decide +kernel
theorem dX10_personOf_0 : decode cX10_personOf 0 = .ok (.aload_n 0, 1) := by decide +kernel
theorem dX10_personOf_1 : decode cX10_personOf 1 = .ok (.getfield 16, 3) := by decide +kernel
theorem dX10_personOf_4 : decode cX10_personOf 4 = .ok (.iconst 0, 1) := by decide +kernel
theorem dX10_personOf_5 : decode cX10_personOf 5 = .ok (.iaload, 1) := by decide +kernel
theorem dX10_personOf_6 : decode cX10_personOf 6 = .ok (.istore 5, 2) := by decide +kernel
theorem dX10_personOf_8 : decode cX10_personOf 8 = .ok (.aload_n 0, 1) := by decide +kernel
theorem dX10_personOf_9 : decode cX10_personOf 9 = .ok (.getfield 16, 3) := by decide +kernel
theorem dX10_personOf_12 : decode cX10_personOf 12 = .ok (.iconst 4, 1) := by decide +kernel
theorem dX10_personOf_13 : decode cX10_personOf 13 = .ok (.iload 5, 2) := by decide +kernel
theorem dX10_personOf_15 : decode cX10_personOf 15 = .ok (.iadd, 1) := by decide +kernel
theorem dX10_personOf_16 : decode cX10_personOf 16 = .ok (.iload_n 1, 1) := by decide +kernel
theorem dX10_personOf_17 : decode cX10_personOf 17 = .ok (.iastore, 1) := by decide +kernel
theorem dX10_personOf_18 : decode cX10_personOf 18 = .ok (.aload_n 0, 1) := by decide +kernel
theorem dX10_personOf_19 : decode cX10_personOf 19 = .ok (.getfield 16, 3) := by decide +kernel
theorem dX10_personOf_22 : decode cX10_personOf 22 = .ok (.bipush 13, 2) := by decide +kernel
theorem dX10_personOf_24 : decode cX10_personOf 24 = .ok (.iload 5, 2) := by decide +kernel
theorem dX10_personOf_26 : decode cX10_personOf 26 = .ok (.iadd, 1) := by decide +kernel
theorem dX10_personOf_27 : decode cX10_personOf 27 = .ok (.iload_n 2, 1) := by decide +kernel
theorem dX10_personOf_28 : decode cX10_personOf 28 = .ok (.iastore, 1) := by decide +kernel
theorem dX10_personOf_29 : decode cX10_personOf 29 = .ok (.aload_n 0, 1) := by decide +kernel
theorem dX10_personOf_30 : decode cX10_personOf 30 = .ok (.getfield 16, 3) := by decide +kernel
theorem dX10_personOf_33 : decode cX10_personOf 33 = .ok (.bipush 22, 2) := by decide +kernel
theorem dX10_personOf_35 : decode cX10_personOf 35 = .ok (.iload 5, 2) := by decide +kernel
theorem dX10_personOf_37 : decode cX10_personOf 37 = .ok (.iadd, 1) := by decide +kernel
theorem dX10_personOf_38 : decode cX10_personOf 38 = .ok (.iload_n 3, 1) := by decide +kernel
theorem dX10_personOf_39 : decode cX10_personOf 39 = .ok (.iastore, 1) := by decide +kernel
theorem dX10_personOf_40 : decode cX10_personOf 40 = .ok (.aload_n 0, 1) := by decide +kernel
theorem dX10_personOf_41 : decode cX10_personOf 41 = .ok (.getfield 16, 3) := by decide +kernel
theorem dX10_personOf_44 : decode cX10_personOf 44 = .ok (.bipush 31, 2) := by decide +kernel
theorem dX10_personOf_46 : decode cX10_personOf 46 = .ok (.iload 5, 2) := by decide +kernel
theorem dX10_personOf_48 : decode cX10_personOf 48 = .ok (.iadd, 1) := by decide +kernel
theorem dX10_personOf_49 : decode cX10_personOf 49 = .ok (.iload 4, 2) := by decide +kernel
theorem dX10_personOf_51 : decode cX10_personOf 51 = .ok (.iastore, 1) := by decide +kernel
theorem dX10_personOf_52 : decode cX10_personOf 52 = .ok (.aload_n 0, 1) := by decide +kernel
theorem dX10_personOf_53 : decode cX10_personOf 53 = .ok (.getfield 16, 3) := by decide +kernel
theorem dX10_personOf_56 : decode cX10_personOf 56 = .ok (.iconst 0, 1) := by decide +kernel
theorem dX10_personOf_57 : decode cX10_personOf 57 = .ok (.dup2, 1) := by decide +kernel
theorem dX10_personOf_58 : decode cX10_personOf 58 = .ok (.iaload, 1) := by decide +kernel
theorem dX10_personOf_59 : decode cX10_personOf 59 = .ok (.iconst 1, 1) := by decide +kernel
theorem dX10_personOf_60 : decode cX10_personOf 60 = .ok (.iadd, 1) := by decide +kernel
theorem dX10_personOf_61 : decode cX10_personOf 61 = .ok (.iastore, 1) := by decide +kernel
theorem dX10_personOf_62 : decode cX10_personOf 62 = .ok (.return_, 1) := by decide +kernel
theorem dX10_readsItem_0 : decode cX10_readsItem 0 = .ok (.iload_n 1, 1) := by decide +kernel
theorem dX10_readsItem_1 : decode cX10_readsItem 1 = .ok (.lookupswitch 205 #[(102, 27), (112, 110)], 27) := by decide +kernel
theorem dX10_readsItem_28 : decode cX10_readsItem 28 = .ok (.aload_n 0, 1) := by decide +kernel
theorem dX10_readsItem_29 : decode cX10_readsItem 29 = .ok (.iconst 1, 1) := by decide +kernel
theorem dX10_readsItem_30 : decode cX10_readsItem 30 = .ok (.bipush 99, 2) := by decide +kernel
theorem dX10_readsItem_32 : decode cX10_readsItem 32 = .ok (.bipush 44, 2) := by decide +kernel
theorem dX10_readsItem_34 : decode cX10_readsItem 34 = .ok (.invokevirtual 69, 3) := by decide +kernel
theorem dX10_readsItem_37 : decode cX10_readsItem 37 = .ok (.istore_n 2, 1) := by decide +kernel
theorem dX10_readsItem_38 : decode cX10_readsItem 38 = .ok (.iload_n 2, 1) := by decide +kernel
theorem dX10_readsItem_39 : decode cX10_readsItem 39 = .ok (.ifCond .ge 7, 3) := by decide +kernel
theorem dX10_readsItem_42 : decode cX10_readsItem 42 = .ok (.iconst (-1), 1) := by decide +kernel
theorem dX10_readsItem_43 : decode cX10_readsItem 43 = .ok (.goto 12, 3) := by decide +kernel
theorem dX10_readsItem_46 : decode cX10_readsItem 46 = .ok (.aload_n 0, 1) := by decide +kernel
theorem dX10_readsItem_47 : decode cX10_readsItem 47 = .ok (.iconst 0, 1) := by decide +kernel
theorem dX10_readsItem_48 : decode cX10_readsItem 48 = .ok (.bipush 99, 2) := by decide +kernel
theorem dX10_readsItem_50 : decode cX10_readsItem 50 = .ok (.bipush 44, 2) := by decide +kernel
theorem dX10_readsItem_52 : decode cX10_readsItem 52 = .ok (.invokevirtual 69, 3) := by decide +kernel
theorem dX10_readsItem_55 : decode cX10_readsItem 55 = .ok (.istore_n 3, 1) := by decide +kernel
theorem dX10_readsItem_56 : decode cX10_readsItem 56 = .ok (.iload_n 3, 1) := by decide +kernel
theorem dX10_readsItem_57 : decode cX10_readsItem 57 = .ok (.ifCond .ge 7, 3) := by decide +kernel
theorem dX10_readsItem_60 : decode cX10_readsItem 60 = .ok (.iconst (-1), 1) := by decide +kernel
theorem dX10_readsItem_61 : decode cX10_readsItem 61 = .ok (.goto 12, 3) := by decide +kernel
theorem dX10_readsItem_64 : decode cX10_readsItem 64 = .ok (.aload_n 0, 1) := by decide +kernel
theorem dX10_readsItem_65 : decode cX10_readsItem 65 = .ok (.iconst 0, 1) := by decide +kernel
theorem dX10_readsItem_66 : decode cX10_readsItem 66 = .ok (.bipush 9, 2) := by decide +kernel
theorem dX10_readsItem_68 : decode cX10_readsItem 68 = .ok (.bipush 59, 2) := by decide +kernel
theorem dX10_readsItem_70 : decode cX10_readsItem 70 = .ok (.invokevirtual 69, 3) := by decide +kernel
theorem dX10_readsItem_73 : decode cX10_readsItem 73 = .ok (.istore 4, 2) := by decide +kernel
theorem dX10_readsItem_75 : decode cX10_readsItem 75 = .ok (.aload_n 0, 1) := by decide +kernel
theorem dX10_readsItem_76 : decode cX10_readsItem 76 = .ok (.getfield 16, 3) := by decide +kernel
theorem dX10_readsItem_79 : decode cX10_readsItem 79 = .ok (.iconst 1, 1) := by decide +kernel
theorem dX10_readsItem_80 : decode cX10_readsItem 80 = .ok (.bipush 10, 2) := by decide +kernel
theorem dX10_readsItem_82 : decode cX10_readsItem 82 = .ok (.iload_n 2, 1) := by decide +kernel
theorem dX10_readsItem_83 : decode cX10_readsItem 83 = .ok (.imul, 1) := by decide +kernel
theorem dX10_readsItem_84 : decode cX10_readsItem 84 = .ok (.iastore, 1) := by decide +kernel
theorem dX10_readsItem_85 : decode cX10_readsItem 85 = .ok (.aload_n 0, 1) := by decide +kernel
theorem dX10_readsItem_86 : decode cX10_readsItem 86 = .ok (.getfield 16, 3) := by decide +kernel
theorem dX10_readsItem_89 : decode cX10_readsItem 89 = .ok (.iconst 2, 1) := by decide +kernel
theorem dX10_readsItem_90 : decode cX10_readsItem 90 = .ok (.iload_n 3, 1) := by decide +kernel
theorem dX10_readsItem_91 : decode cX10_readsItem 91 = .ok (.iastore, 1) := by decide +kernel
theorem dX10_readsItem_92 : decode cX10_readsItem 92 = .ok (.aload_n 0, 1) := by decide +kernel
theorem dX10_readsItem_93 : decode cX10_readsItem 93 = .ok (.getfield 16, 3) := by decide +kernel
theorem dX10_readsItem_96 : decode cX10_readsItem 96 = .ok (.iconst 3, 1) := by decide +kernel
theorem dX10_readsItem_97 : decode cX10_readsItem 97 = .ok (.iload 4, 2) := by decide +kernel
theorem dX10_readsItem_99 : decode cX10_readsItem 99 = .ok (.iastore, 1) := by decide +kernel
theorem dX10_readsItem_100 : decode cX10_readsItem 100 = .ok (.iload 4, 2) := by decide +kernel
theorem dX10_readsItem_102 : decode cX10_readsItem 102 = .ok (.ifCond .lt 7, 3) := by decide +kernel
theorem dX10_readsItem_105 : decode cX10_readsItem 105 = .ok (.iconst 1, 1) := by decide +kernel
theorem dX10_readsItem_106 : decode cX10_readsItem 106 = .ok (.goto 4, 3) := by decide +kernel
theorem dX10_readsItem_109 : decode cX10_readsItem 109 = .ok (.iconst 0, 1) := by decide +kernel
theorem dX10_readsItem_110 : decode cX10_readsItem 110 = .ok (.ireturn, 1) := by decide +kernel
theorem dX10_readsItem_111 : decode cX10_readsItem 111 = .ok (.aload_n 0, 1) := by decide +kernel
theorem dX10_readsItem_112 : decode cX10_readsItem 112 = .ok (.iconst 0, 1) := by decide +kernel
theorem dX10_readsItem_113 : decode cX10_readsItem 113 = .ok (.iconst 3, 1) := by decide +kernel
theorem dX10_readsItem_114 : decode cX10_readsItem 114 = .ok (.bipush 44, 2) := by decide +kernel
theorem dX10_readsItem_116 : decode cX10_readsItem 116 = .ok (.invokevirtual 69, 3) := by decide +kernel
theorem dX10_readsItem_119 : decode cX10_readsItem 119 = .ok (.istore_n 2, 1) := by decide +kernel
theorem dX10_readsItem_120 : decode cX10_readsItem 120 = .ok (.iload_n 2, 1) := by decide +kernel
theorem dX10_readsItem_121 : decode cX10_readsItem 121 = .ok (.ifCond .ge 7, 3) := by decide +kernel
theorem dX10_readsItem_124 : decode cX10_readsItem 124 = .ok (.iconst (-1), 1) := by decide +kernel
theorem dX10_readsItem_125 : decode cX10_readsItem 125 = .ok (.goto 12, 3) := by decide +kernel
theorem dX10_readsItem_128 : decode cX10_readsItem 128 = .ok (.aload_n 0, 1) := by decide +kernel
theorem dX10_readsItem_129 : decode cX10_readsItem 129 = .ok (.iconst 0, 1) := by decide +kernel
theorem dX10_readsItem_130 : decode cX10_readsItem 130 = .ok (.bipush 99, 2) := by decide +kernel
theorem dX10_readsItem_132 : decode cX10_readsItem 132 = .ok (.bipush 44, 2) := by decide +kernel
theorem dX10_readsItem_134 : decode cX10_readsItem 134 = .ok (.invokevirtual 69, 3) := by decide +kernel
theorem dX10_readsItem_137 : decode cX10_readsItem 137 = .ok (.istore_n 3, 1) := by decide +kernel
theorem dX10_readsItem_138 : decode cX10_readsItem 138 = .ok (.iload_n 3, 1) := by decide +kernel
theorem dX10_readsItem_139 : decode cX10_readsItem 139 = .ok (.ifCond .ge 7, 3) := by decide +kernel
theorem dX10_readsItem_142 : decode cX10_readsItem 142 = .ok (.iconst (-1), 1) := by decide +kernel
theorem dX10_readsItem_143 : decode cX10_readsItem 143 = .ok (.goto 12, 3) := by decide +kernel
theorem dX10_readsItem_146 : decode cX10_readsItem 146 = .ok (.aload_n 0, 1) := by decide +kernel
theorem dX10_readsItem_147 : decode cX10_readsItem 147 = .ok (.iconst 0, 1) := by decide +kernel
theorem dX10_readsItem_148 : decode cX10_readsItem 148 = .ok (.bipush 99, 2) := by decide +kernel
theorem dX10_readsItem_150 : decode cX10_readsItem 150 = .ok (.bipush 44, 2) := by decide +kernel
theorem dX10_readsItem_152 : decode cX10_readsItem 152 = .ok (.invokevirtual 69, 3) := by decide +kernel
theorem dX10_readsItem_155 : decode cX10_readsItem 155 = .ok (.istore 4, 2) := by decide +kernel
theorem dX10_readsItem_157 : decode cX10_readsItem 157 = .ok (.iload 4, 2) := by decide +kernel
theorem dX10_readsItem_159 : decode cX10_readsItem 159 = .ok (.ifCond .ge 7, 3) := by decide +kernel
theorem dX10_readsItem_162 : decode cX10_readsItem 162 = .ok (.iconst (-1), 1) := by decide +kernel
theorem dX10_readsItem_163 : decode cX10_readsItem 163 = .ok (.goto 11, 3) := by decide +kernel
theorem dX10_readsItem_166 : decode cX10_readsItem 166 = .ok (.aload_n 0, 1) := by decide +kernel
theorem dX10_readsItem_167 : decode cX10_readsItem 167 = .ok (.iconst 0, 1) := by decide +kernel
theorem dX10_readsItem_168 : decode cX10_readsItem 168 = .ok (.iconst 5, 1) := by decide +kernel
theorem dX10_readsItem_169 : decode cX10_readsItem 169 = .ok (.bipush 59, 2) := by decide +kernel
theorem dX10_readsItem_171 : decode cX10_readsItem 171 = .ok (.invokevirtual 69, 3) := by decide +kernel
theorem dX10_readsItem_174 : decode cX10_readsItem 174 = .ok (.istore 5, 2) := by decide +kernel
theorem dX10_readsItem_176 : decode cX10_readsItem 176 = .ok (.iload 5, 2) := by decide +kernel
theorem dX10_readsItem_178 : decode cX10_readsItem 178 = .ok (.ifCond .lt 14, 3) := by decide +kernel
theorem dX10_readsItem_181 : decode cX10_readsItem 181 = .ok (.aload_n 0, 1) := by decide +kernel
theorem dX10_readsItem_182 : decode cX10_readsItem 182 = .ok (.getfield 16, 3) := by decide +kernel
theorem dX10_readsItem_185 : decode cX10_readsItem 185 = .ok (.iconst 0, 1) := by decide +kernel
theorem dX10_readsItem_186 : decode cX10_readsItem 186 = .ok (.iaload, 1) := by decide +kernel
theorem dX10_readsItem_187 : decode cX10_readsItem 187 = .ok (.bipush 9, 2) := by decide +kernel
theorem dX10_readsItem_189 : decode cX10_readsItem 189 = .ok (.if_icmp .ne 5, 3) := by decide +kernel
theorem dX10_readsItem_192 : decode cX10_readsItem 192 = .ok (.iconst 0, 1) := by decide +kernel
theorem dX10_readsItem_193 : decode cX10_readsItem 193 = .ok (.ireturn, 1) := by decide +kernel
theorem dX10_readsItem_194 : decode cX10_readsItem 194 = .ok (.aload_n 0, 1) := by decide +kernel
theorem dX10_readsItem_195 : decode cX10_readsItem 195 = .ok (.iload_n 2, 1) := by decide +kernel
theorem dX10_readsItem_196 : decode cX10_readsItem 196 = .ok (.iload_n 3, 1) := by decide +kernel
theorem dX10_readsItem_197 : decode cX10_readsItem 197 = .ok (.iload 4, 2) := by decide +kernel
theorem dX10_readsItem_199 : decode cX10_readsItem 199 = .ok (.iload 5, 2) := by decide +kernel
theorem dX10_readsItem_201 : decode cX10_readsItem 201 = .ok (.invokevirtual 43, 3) := by decide +kernel
theorem dX10_readsItem_204 : decode cX10_readsItem 204 = .ok (.iconst 1, 1) := by decide +kernel
theorem dX10_readsItem_205 : decode cX10_readsItem 205 = .ok (.ireturn, 1) := by decide +kernel
theorem dX10_readsItem_206 : decode cX10_readsItem 206 = .ok (.iconst 0, 1) := by decide +kernel
theorem dX10_readsItem_207 : decode cX10_readsItem 207 = .ok (.ireturn, 1) := by decide +kernel
theorem dX10_readsAll_0 : decode cX10_readsAll 0 = .ok (.aload_n 0, 1) := by decide +kernel
theorem dX10_readsAll_1 : decode cX10_readsAll 1 = .ok (.invokevirtual 40, 3) := by decide +kernel
theorem dX10_readsAll_4 : decode cX10_readsAll 4 = .ok (.aload_n 0, 1) := by decide +kernel
theorem dX10_readsAll_5 : decode cX10_readsAll 5 = .ok (.iconst 0, 1) := by decide +kernel
theorem dX10_readsAll_6 : decode cX10_readsAll 6 = .ok (.putfield 58, 3) := by decide +kernel
theorem dX10_readsAll_9 : decode cX10_readsAll 9 = .ok (.aload_n 0, 1) := by decide +kernel
theorem dX10_readsAll_10 : decode cX10_readsAll 10 = .ok (.getfield 58, 3) := by decide +kernel
theorem dX10_readsAll_13 : decode cX10_readsAll 13 = .ok (.aload_n 0, 1) := by decide +kernel
theorem dX10_readsAll_14 : decode cX10_readsAll 14 = .ok (.getfield 54, 3) := by decide +kernel
theorem dX10_readsAll_17 : decode cX10_readsAll 17 = .ok (.if_icmp .ge 36, 3) := by decide +kernel
theorem dX10_readsAll_20 : decode cX10_readsAll 20 = .ok (.aload_n 0, 1) := by decide +kernel
theorem dX10_readsAll_21 : decode cX10_readsAll 21 = .ok (.getfield 58, 3) := by decide +kernel
theorem dX10_readsAll_24 : decode cX10_readsAll 24 = .ok (.istore_n 1, 1) := by decide +kernel
theorem dX10_readsAll_25 : decode cX10_readsAll 25 = .ok (.aload_n 0, 1) := by decide +kernel
theorem dX10_readsAll_26 : decode cX10_readsAll 26 = .ok (.dup, 1) := by decide +kernel
theorem dX10_readsAll_27 : decode cX10_readsAll 27 = .ok (.getfield 58, 3) := by decide +kernel
theorem dX10_readsAll_30 : decode cX10_readsAll 30 = .ok (.iconst 1, 1) := by decide +kernel
theorem dX10_readsAll_31 : decode cX10_readsAll 31 = .ok (.iadd, 1) := by decide +kernel
theorem dX10_readsAll_32 : decode cX10_readsAll 32 = .ok (.putfield 58, 3) := by decide +kernel
theorem dX10_readsAll_35 : decode cX10_readsAll 35 = .ok (.aload_n 0, 1) := by decide +kernel
theorem dX10_readsAll_36 : decode cX10_readsAll 36 = .ok (.aload_n 0, 1) := by decide +kernel
theorem dX10_readsAll_37 : decode cX10_readsAll 37 = .ok (.getfield 7, 3) := by decide +kernel
theorem dX10_readsAll_40 : decode cX10_readsAll 40 = .ok (.iload_n 1, 1) := by decide +kernel
theorem dX10_readsAll_41 : decode cX10_readsAll 41 = .ok (.iaload, 1) := by decide +kernel
theorem dX10_readsAll_42 : decode cX10_readsAll 42 = .ok (.invokevirtual 73, 3) := by decide +kernel
theorem dX10_readsAll_45 : decode cX10_readsAll 45 = .ok (.ifCond .ne 5, 3) := by decide +kernel
theorem dX10_readsAll_48 : decode cX10_readsAll 48 = .ok (.iload_n 1, 1) := by decide +kernel
theorem dX10_readsAll_49 : decode cX10_readsAll 49 = .ok (.ireturn, 1) := by decide +kernel
theorem dX10_readsAll_50 : decode cX10_readsAll 50 = .ok (.goto (-41), 3) := by decide +kernel
theorem dX10_readsAll_53 : decode cX10_readsAll 53 = .ok (.bipush (-4), 2) := by decide +kernel
theorem dX10_readsAll_55 : decode cX10_readsAll 55 = .ok (.ireturn, 1) := by decide +kernel
theorem dX10_fault_0 : decode cX10_fault 0 = .ok (.aload_n 0, 1) := by decide +kernel
theorem dX10_fault_1 : decode cX10_fault 1 = .ok (.invokevirtual 76, 3) := by decide +kernel
theorem dX10_fault_4 : decode cX10_fault 4 = .ok (.ireturn, 1) := by decide +kernel
theorem dX10_lays_0 : decode cX10_lays 0 = .ok (.iconst 0, 1) := by decide +kernel
theorem dX10_lays_1 : decode cX10_lays 1 = .ok (.istore_n 1, 1) := by decide +kernel
theorem dX10_lays_2 : decode cX10_lays 2 = .ok (.iload_n 1, 1) := by decide +kernel
theorem dX10_lays_3 : decode cX10_lays 3 = .ok (.bipush 40, 2) := by decide +kernel
theorem dX10_lays_5 : decode cX10_lays 5 = .ok (.if_icmp .ge 21, 3) := by decide +kernel
theorem dX10_lays_8 : decode cX10_lays 8 = .ok (.aload_n 0, 1) := by decide +kernel
theorem dX10_lays_9 : decode cX10_lays 9 = .ok (.getfield 13, 3) := by decide +kernel
theorem dX10_lays_12 : decode cX10_lays 12 = .ok (.iload_n 1, 1) := by decide +kernel
theorem dX10_lays_13 : decode cX10_lays 13 = .ok (.aload_n 0, 1) := by decide +kernel
theorem dX10_lays_14 : decode cX10_lays 14 = .ok (.getfield 16, 3) := by decide +kernel
theorem dX10_lays_17 : decode cX10_lays 17 = .ok (.iload_n 1, 1) := by decide +kernel
theorem dX10_lays_18 : decode cX10_lays 18 = .ok (.iaload, 1) := by decide +kernel
theorem dX10_lays_19 : decode cX10_lays 19 = .ok (.iastore, 1) := by decide +kernel
theorem dX10_lays_20 : decode cX10_lays 20 = .ok (.iinc 1 1, 3) := by decide +kernel
theorem dX10_lays_23 : decode cX10_lays 23 = .ok (.goto (-21), 3) := by decide +kernel
theorem dX10_lays_26 : decode cX10_lays 26 = .ok (.iconst 0, 1) := by decide +kernel
theorem dX10_lays_27 : decode cX10_lays 27 = .ok (.istore_n 1, 1) := by decide +kernel
theorem dX10_lays_28 : decode cX10_lays 28 = .ok (.iload_n 1, 1) := by decide +kernel
theorem dX10_lays_29 : decode cX10_lays 29 = .ok (.bipush 21, 2) := by decide +kernel
theorem dX10_lays_31 : decode cX10_lays 31 = .ok (.if_icmp .ge 16, 3) := by decide +kernel
theorem dX10_lays_34 : decode cX10_lays 34 = .ok (.aload_n 0, 1) := by decide +kernel
theorem dX10_lays_35 : decode cX10_lays 35 = .ok (.getfield 19, 3) := by decide +kernel
theorem dX10_lays_38 : decode cX10_lays 38 = .ok (.iload_n 1, 1) := by decide +kernel
theorem dX10_lays_39 : decode cX10_lays 39 = .ok (.iconst 0, 1) := by decide +kernel
theorem dX10_lays_40 : decode cX10_lays 40 = .ok (.iastore, 1) := by decide +kernel
theorem dX10_lays_41 : decode cX10_lays 41 = .ok (.iinc 1 1, 3) := by decide +kernel
theorem dX10_lays_44 : decode cX10_lays 44 = .ok (.goto (-16), 3) := by decide +kernel
theorem dX10_lays_47 : decode cX10_lays 47 = .ok (.aload_n 0, 1) := by decide +kernel
theorem dX10_lays_48 : decode cX10_lays 48 = .ok (.iconst 0, 1) := by decide +kernel
theorem dX10_lays_49 : decode cX10_lays 49 = .ok (.putfield 80, 3) := by decide +kernel
theorem dX10_lays_52 : decode cX10_lays 52 = .ok (.aload_n 0, 1) := by decide +kernel
theorem dX10_lays_53 : decode cX10_lays 53 = .ok (.iconst 0, 1) := by decide +kernel
theorem dX10_lays_54 : decode cX10_lays 54 = .ok (.putfield 83, 3) := by decide +kernel
theorem dX10_lays_57 : decode cX10_lays 57 = .ok (.aload_n 0, 1) := by decide +kernel
theorem dX10_lays_58 : decode cX10_lays 58 = .ok (.iconst 0, 1) := by decide +kernel
theorem dX10_lays_59 : decode cX10_lays 59 = .ok (.putfield 86, 3) := by decide +kernel
theorem dX10_lays_62 : decode cX10_lays 62 = .ok (.return_, 1) := by decide +kernel
theorem dX10_lay_0 : decode cX10_lay 0 = .ok (.aload_n 0, 1) := by decide +kernel
theorem dX10_lay_1 : decode cX10_lay 1 = .ok (.invokevirtual 76, 3) := by decide +kernel
theorem dX10_lay_4 : decode cX10_lay 4 = .ok (.bipush (-4), 2) := by decide +kernel
theorem dX10_lay_6 : decode cX10_lay 6 = .ok (.if_icmp .ne 12, 3) := by decide +kernel
theorem dX10_lay_9 : decode cX10_lay 9 = .ok (.aload_n 0, 1) := by decide +kernel
theorem dX10_lay_10 : decode cX10_lay 10 = .ok (.getfield 16, 3) := by decide +kernel
theorem dX10_lay_13 : decode cX10_lay 13 = .ok (.iconst 0, 1) := by decide +kernel
theorem dX10_lay_14 : decode cX10_lay 14 = .ok (.iaload, 1) := by decide +kernel
theorem dX10_lay_15 : decode cX10_lay 15 = .ok (.ifCond .ne 6, 3) := by decide +kernel
theorem dX10_lay_18 : decode cX10_lay 18 = .ok (.bipush (-2), 2) := by decide +kernel
theorem dX10_lay_20 : decode cX10_lay 20 = .ok (.ireturn, 1) := by decide +kernel
theorem dX10_lay_21 : decode cX10_lay 21 = .ok (.aload_n 0, 1) := by decide +kernel
theorem dX10_lay_22 : decode cX10_lay 22 = .ok (.invokevirtual 47, 3) := by decide +kernel
theorem dX10_lay_25 : decode cX10_lay 25 = .ok (.aload_n 0, 1) := by decide +kernel
theorem dX10_lay_26 : decode cX10_lay 26 = .ok (.getfield 13, 3) := by decide +kernel
theorem dX10_lay_29 : decode cX10_lay 29 = .ok (.iconst 0, 1) := by decide +kernel
theorem dX10_lay_30 : decode cX10_lay 30 = .ok (.iaload, 1) := by decide +kernel
theorem dX10_lay_31 : decode cX10_lay 31 = .ok (.ireturn, 1) := by decide +kernel
theorem dX10_where_0 : decode cX10_where 0 = .ok (.aload_n 0, 1) := by decide +kernel
theorem dX10_where_1 : decode cX10_where 1 = .ok (.getfield 19, 3) := by decide +kernel
theorem dX10_where_4 : decode cX10_where 4 = .ok (.iload_n 1, 1) := by decide +kernel
theorem dX10_where_5 : decode cX10_where 5 = .ok (.iaload, 1) := by decide +kernel
theorem dX10_where_6 : decode cX10_where 6 = .ok (.ifCond .le 12, 3) := by decide +kernel
theorem dX10_where_9 : decode cX10_where 9 = .ok (.aload_n 0, 1) := by decide +kernel
theorem dX10_where_10 : decode cX10_where 10 = .ok (.getfield 19, 3) := by decide +kernel
theorem dX10_where_13 : decode cX10_where 13 = .ok (.iload_n 1, 1) := by decide +kernel
theorem dX10_where_14 : decode cX10_where 14 = .ok (.iaload, 1) := by decide +kernel
theorem dX10_where_15 : decode cX10_where 15 = .ok (.goto 27, 3) := by decide +kernel
theorem dX10_where_18 : decode cX10_where 18 = .ok (.aload_n 0, 1) := by decide +kernel
theorem dX10_where_19 : decode cX10_where 19 = .ok (.getfield 19, 3) := by decide +kernel
theorem dX10_where_22 : decode cX10_where 22 = .ok (.bipush 18, 2) := by decide +kernel
theorem dX10_where_24 : decode cX10_where 24 = .ok (.iaload, 1) := by decide +kernel
theorem dX10_where_25 : decode cX10_where 25 = .ok (.aload_n 0, 1) := by decide +kernel
theorem dX10_where_26 : decode cX10_where 26 = .ok (.getfield 13, 3) := by decide +kernel
theorem dX10_where_29 : decode cX10_where 29 = .ok (.bipush 22, 2) := by decide +kernel
theorem dX10_where_31 : decode cX10_where 31 = .ok (.iload_n 1, 1) := by decide +kernel
theorem dX10_where_32 : decode cX10_where 32 = .ok (.iadd, 1) := by decide +kernel
theorem dX10_where_33 : decode cX10_where 33 = .ok (.iaload, 1) := by decide +kernel
theorem dX10_where_34 : decode cX10_where 34 = .ok (.if_icmp .lt 7, 3) := by decide +kernel
theorem dX10_where_37 : decode cX10_where 37 = .ok (.iconst 1, 1) := by decide +kernel
theorem dX10_where_38 : decode cX10_where 38 = .ok (.goto 4, 3) := by decide +kernel
theorem dX10_where_41 : decode cX10_where 41 = .ok (.iconst 0, 1) := by decide +kernel
theorem dX10_where_42 : decode cX10_where 42 = .ok (.ireturn, 1) := by decide +kernel
theorem dX10_allAt_0 : decode cX10_allAt 0 = .ok (.iconst 0, 1) := by decide +kernel
theorem dX10_allAt_1 : decode cX10_allAt 1 = .ok (.istore_n 2, 1) := by decide +kernel
theorem dX10_allAt_2 : decode cX10_allAt 2 = .ok (.iconst 0, 1) := by decide +kernel
theorem dX10_allAt_3 : decode cX10_allAt 3 = .ok (.istore_n 3, 1) := by decide +kernel
theorem dX10_allAt_4 : decode cX10_allAt 4 = .ok (.iload_n 3, 1) := by decide +kernel
theorem dX10_allAt_5 : decode cX10_allAt 5 = .ok (.aload_n 0, 1) := by decide +kernel
theorem dX10_allAt_6 : decode cX10_allAt 6 = .ok (.getfield 13, 3) := by decide +kernel
theorem dX10_allAt_9 : decode cX10_allAt 9 = .ok (.iconst 0, 1) := by decide +kernel
theorem dX10_allAt_10 : decode cX10_allAt 10 = .ok (.iaload, 1) := by decide +kernel
theorem dX10_allAt_11 : decode cX10_allAt 11 = .ok (.if_icmp .ge 28, 3) := by decide +kernel
theorem dX10_allAt_14 : decode cX10_allAt 14 = .ok (.iload_n 2, 1) := by decide +kernel
theorem dX10_allAt_15 : decode cX10_allAt 15 = .ok (.aload_n 0, 1) := by decide +kernel
theorem dX10_allAt_16 : decode cX10_allAt 16 = .ok (.iload_n 3, 1) := by decide +kernel
theorem dX10_allAt_17 : decode cX10_allAt 17 = .ok (.invokevirtual 89, 3) := by decide +kernel
theorem dX10_allAt_20 : decode cX10_allAt 20 = .ok (.iload_n 1, 1) := by decide +kernel
theorem dX10_allAt_21 : decode cX10_allAt 21 = .ok (.if_icmp .ne 9, 3) := by decide +kernel
theorem dX10_allAt_24 : decode cX10_allAt 24 = .ok (.iconst 1, 1) := by decide +kernel
theorem dX10_allAt_25 : decode cX10_allAt 25 = .ok (.iload_n 3, 1) := by decide +kernel
theorem dX10_allAt_26 : decode cX10_allAt 26 = .ok (.ishl, 1) := by decide +kernel
theorem dX10_allAt_27 : decode cX10_allAt 27 = .ok (.goto 4, 3) := by decide +kernel
theorem dX10_allAt_30 : decode cX10_allAt 30 = .ok (.iconst 0, 1) := by decide +kernel
theorem dX10_allAt_31 : decode cX10_allAt 31 = .ok (.ior, 1) := by decide +kernel
theorem dX10_allAt_32 : decode cX10_allAt 32 = .ok (.istore_n 2, 1) := by decide +kernel
theorem dX10_allAt_33 : decode cX10_allAt 33 = .ok (.iinc 3 1, 3) := by decide +kernel
theorem dX10_allAt_36 : decode cX10_allAt 36 = .ok (.goto (-32), 3) := by decide +kernel
theorem dX10_allAt_39 : decode cX10_allAt 39 = .ok (.iload_n 2, 1) := by decide +kernel
theorem dX10_allAt_40 : decode cX10_allAt 40 = .ok (.ireturn, 1) := by decide +kernel
theorem dX10_present_0 : decode cX10_present 0 = .ok (.aload_n 0, 1) := by decide +kernel
theorem dX10_present_1 : decode cX10_present 1 = .ok (.iconst 1, 1) := by decide +kernel
theorem dX10_present_2 : decode cX10_present 2 = .ok (.invokevirtual 92, 3) := by decide +kernel
theorem dX10_present_5 : decode cX10_present 5 = .ok (.aload_n 0, 1) := by decide +kernel
theorem dX10_present_6 : decode cX10_present 6 = .ok (.iconst 2, 1) := by decide +kernel
theorem dX10_present_7 : decode cX10_present 7 = .ok (.invokevirtual 92, 3) := by decide +kernel
theorem dX10_present_10 : decode cX10_present 10 = .ok (.ior, 1) := by decide +kernel
theorem dX10_present_11 : decode cX10_present 11 = .ok (.ireturn, 1) := by decide +kernel
theorem dX10_alive_0 : decode cX10_alive 0 = .ok (.iconst 1, 1) := by decide +kernel
theorem dX10_alive_1 : decode cX10_alive 1 = .ok (.aload_n 0, 1) := by decide +kernel
theorem dX10_alive_2 : decode cX10_alive 2 = .ok (.getfield 13, 3) := by decide +kernel
theorem dX10_alive_5 : decode cX10_alive 5 = .ok (.iconst 0, 1) := by decide +kernel
theorem dX10_alive_6 : decode cX10_alive 6 = .ok (.iaload, 1) := by decide +kernel
theorem dX10_alive_7 : decode cX10_alive 7 = .ok (.ishl, 1) := by decide +kernel
theorem dX10_alive_8 : decode cX10_alive 8 = .ok (.iconst 1, 1) := by decide +kernel
theorem dX10_alive_9 : decode cX10_alive 9 = .ok (.isub, 1) := by decide +kernel
theorem dX10_alive_10 : decode cX10_alive 10 = .ok (.aload_n 0, 1) := by decide +kernel
theorem dX10_alive_11 : decode cX10_alive 11 = .ok (.iconst 3, 1) := by decide +kernel
theorem dX10_alive_12 : decode cX10_alive 12 = .ok (.invokevirtual 92, 3) := by decide +kernel
theorem dX10_alive_15 : decode cX10_alive 15 = .ok (.iconst (-1), 1) := by decide +kernel
theorem dX10_alive_16 : decode cX10_alive 16 = .ok (.ixor, 1) := by decide +kernel
theorem dX10_alive_17 : decode cX10_alive 17 = .ok (.iand, 1) := by decide +kernel
theorem dX10_alive_18 : decode cX10_alive 18 = .ok (.aload_n 0, 1) := by decide +kernel
theorem dX10_alive_19 : decode cX10_alive 19 = .ok (.iconst 4, 1) := by decide +kernel
theorem dX10_alive_20 : decode cX10_alive 20 = .ok (.invokevirtual 92, 3) := by decide +kernel
theorem dX10_alive_23 : decode cX10_alive 23 = .ok (.iconst (-1), 1) := by decide +kernel
theorem dX10_alive_24 : decode cX10_alive 24 = .ok (.ixor, 1) := by decide +kernel
theorem dX10_alive_25 : decode cX10_alive 25 = .ok (.iand, 1) := by decide +kernel
theorem dX10_alive_26 : decode cX10_alive 26 = .ok (.ireturn, 1) := by decide +kernel
theorem dX10_person_0 : decode cX10_person 0 = .ok (.aload_n 0, 1) := by decide +kernel
theorem dX10_person_1 : decode cX10_person 1 = .ok (.iload_n 1, 1) := by decide +kernel
theorem dX10_person_2 : decode cX10_person 2 = .ok (.invokevirtual 95, 3) := by decide +kernel
theorem dX10_person_5 : decode cX10_person 5 = .ok (.ifCond .ne 5, 3) := by decide +kernel
theorem dX10_person_8 : decode cX10_person 8 = .ok (.iconst (-1), 1) := by decide +kernel
theorem dX10_person_9 : decode cX10_person 9 = .ok (.ireturn, 1) := by decide +kernel
theorem dX10_person_10 : decode cX10_person 10 = .ok (.iload_n 2, 1) := by decide +kernel
theorem dX10_person_11 : decode cX10_person 11 = .ok (.tableswitch 92 0 5 #[37, 46, 56, 66, 76, 82], 37) := by decide +kernel
theorem dX10_person_48 : decode cX10_person 48 = .ok (.aload_n 0, 1) := by decide +kernel
theorem dX10_person_49 : decode cX10_person 49 = .ok (.getfield 13, 3) := by decide +kernel
theorem dX10_person_52 : decode cX10_person 52 = .ok (.iconst 4, 1) := by decide +kernel
theorem dX10_person_53 : decode cX10_person 53 = .ok (.iload_n 1, 1) := by decide +kernel
theorem dX10_person_54 : decode cX10_person 54 = .ok (.iadd, 1) := by decide +kernel
theorem dX10_person_55 : decode cX10_person 55 = .ok (.iaload, 1) := by decide +kernel
theorem dX10_person_56 : decode cX10_person 56 = .ok (.ireturn, 1) := by decide +kernel
theorem dX10_person_57 : decode cX10_person 57 = .ok (.aload_n 0, 1) := by decide +kernel
theorem dX10_person_58 : decode cX10_person 58 = .ok (.getfield 13, 3) := by decide +kernel
theorem dX10_person_61 : decode cX10_person 61 = .ok (.bipush 13, 2) := by decide +kernel
theorem dX10_person_63 : decode cX10_person 63 = .ok (.iload_n 1, 1) := by decide +kernel
theorem dX10_person_64 : decode cX10_person 64 = .ok (.iadd, 1) := by decide +kernel
theorem dX10_person_65 : decode cX10_person 65 = .ok (.iaload, 1) := by decide +kernel
theorem dX10_person_66 : decode cX10_person 66 = .ok (.ireturn, 1) := by decide +kernel
theorem dX10_person_67 : decode cX10_person 67 = .ok (.aload_n 0, 1) := by decide +kernel
theorem dX10_person_68 : decode cX10_person 68 = .ok (.getfield 13, 3) := by decide +kernel
theorem dX10_person_71 : decode cX10_person 71 = .ok (.bipush 22, 2) := by decide +kernel
theorem dX10_person_73 : decode cX10_person 73 = .ok (.iload_n 1, 1) := by decide +kernel
theorem dX10_person_74 : decode cX10_person 74 = .ok (.iadd, 1) := by decide +kernel
theorem dX10_person_75 : decode cX10_person 75 = .ok (.iaload, 1) := by decide +kernel
theorem dX10_person_76 : decode cX10_person 76 = .ok (.ireturn, 1) := by decide +kernel
theorem dX10_person_77 : decode cX10_person 77 = .ok (.aload_n 0, 1) := by decide +kernel
theorem dX10_person_78 : decode cX10_person 78 = .ok (.getfield 13, 3) := by decide +kernel
theorem dX10_person_81 : decode cX10_person 81 = .ok (.bipush 31, 2) := by decide +kernel
theorem dX10_person_83 : decode cX10_person 83 = .ok (.iload_n 1, 1) := by decide +kernel
theorem dX10_person_84 : decode cX10_person 84 = .ok (.iadd, 1) := by decide +kernel
theorem dX10_person_85 : decode cX10_person 85 = .ok (.iaload, 1) := by decide +kernel
theorem dX10_person_86 : decode cX10_person 86 = .ok (.ireturn, 1) := by decide +kernel
theorem dX10_person_87 : decode cX10_person 87 = .ok (.aload_n 0, 1) := by decide +kernel
theorem dX10_person_88 : decode cX10_person 88 = .ok (.iload_n 1, 1) := by decide +kernel
theorem dX10_person_89 : decode cX10_person 89 = .ok (.invokevirtual 89, 3) := by decide +kernel
theorem dX10_person_92 : decode cX10_person 92 = .ok (.ireturn, 1) := by decide +kernel
theorem dX10_person_93 : decode cX10_person 93 = .ok (.aload_n 0, 1) := by decide +kernel
theorem dX10_person_94 : decode cX10_person 94 = .ok (.getfield 19, 3) := by decide +kernel
theorem dX10_person_97 : decode cX10_person 97 = .ok (.bipush 9, 2) := by decide +kernel
theorem dX10_person_99 : decode cX10_person 99 = .ok (.iload_n 1, 1) := by decide +kernel
theorem dX10_person_100 : decode cX10_person 100 = .ok (.iadd, 1) := by decide +kernel
theorem dX10_person_101 : decode cX10_person 101 = .ok (.iaload, 1) := by decide +kernel
theorem dX10_person_102 : decode cX10_person 102 = .ok (.ireturn, 1) := by decide +kernel
theorem dX10_person_103 : decode cX10_person 103 = .ok (.iconst (-1), 1) := by decide +kernel
theorem dX10_person_104 : decode cX10_person 104 = .ok (.ireturn, 1) := by decide +kernel
theorem dX10_sumOf_0 : decode cX10_sumOf 0 = .ok (.iconst 0, 1) := by decide +kernel
theorem dX10_sumOf_1 : decode cX10_sumOf 1 = .ok (.istore_n 2, 1) := by decide +kernel
theorem dX10_sumOf_2 : decode cX10_sumOf 2 = .ok (.iconst 0, 1) := by decide +kernel
theorem dX10_sumOf_3 : decode cX10_sumOf 3 = .ok (.istore_n 3, 1) := by decide +kernel
theorem dX10_sumOf_4 : decode cX10_sumOf 4 = .ok (.iconst 0, 1) := by decide +kernel
theorem dX10_sumOf_5 : decode cX10_sumOf 5 = .ok (.istore 4, 2) := by decide +kernel
theorem dX10_sumOf_7 : decode cX10_sumOf 7 = .ok (.iconst 0, 1) := by decide +kernel
theorem dX10_sumOf_8 : decode cX10_sumOf 8 = .ok (.istore 5, 2) := by decide +kernel
theorem dX10_sumOf_10 : decode cX10_sumOf 10 = .ok (.iload 5, 2) := by decide +kernel
theorem dX10_sumOf_12 : decode cX10_sumOf 12 = .ok (.aload_n 0, 1) := by decide +kernel
theorem dX10_sumOf_13 : decode cX10_sumOf 13 = .ok (.getfield 13, 3) := by decide +kernel
theorem dX10_sumOf_16 : decode cX10_sumOf 16 = .ok (.iconst 0, 1) := by decide +kernel
theorem dX10_sumOf_17 : decode cX10_sumOf 17 = .ok (.iaload, 1) := by decide +kernel
theorem dX10_sumOf_18 : decode cX10_sumOf 18 = .ok (.if_icmp .ge 136, 3) := by decide +kernel
theorem dX10_sumOf_21 : decode cX10_sumOf 21 = .ok (.iload_n 1, 1) := by decide +kernel
theorem dX10_sumOf_22 : decode cX10_sumOf 22 = .ok (.iload 5, 2) := by decide +kernel
theorem dX10_sumOf_24 : decode cX10_sumOf 24 = .ok (.ishr, 1) := by decide +kernel
theorem dX10_sumOf_25 : decode cX10_sumOf 25 = .ok (.iconst 1, 1) := by decide +kernel
theorem dX10_sumOf_26 : decode cX10_sumOf 26 = .ok (.iand, 1) := by decide +kernel
theorem dX10_sumOf_27 : decode cX10_sumOf 27 = .ok (.iconst 1, 1) := by decide +kernel
theorem dX10_sumOf_28 : decode cX10_sumOf 28 = .ok (.if_icmp .ne 120, 3) := by decide +kernel
theorem dX10_sumOf_31 : decode cX10_sumOf 31 = .ok (.aload_n 0, 1) := by decide +kernel
theorem dX10_sumOf_32 : decode cX10_sumOf 32 = .ok (.getfield 13, 3) := by decide +kernel
theorem dX10_sumOf_35 : decode cX10_sumOf 35 = .ok (.iconst 4, 1) := by decide +kernel
theorem dX10_sumOf_36 : decode cX10_sumOf 36 = .ok (.iload 5, 2) := by decide +kernel
theorem dX10_sumOf_38 : decode cX10_sumOf 38 = .ok (.iadd, 1) := by decide +kernel
theorem dX10_sumOf_39 : decode cX10_sumOf 39 = .ok (.iaload, 1) := by decide +kernel
theorem dX10_sumOf_40 : decode cX10_sumOf 40 = .ok (.istore 6, 2) := by decide +kernel
theorem dX10_sumOf_42 : decode cX10_sumOf 42 = .ok (.aload_n 0, 1) := by decide +kernel
theorem dX10_sumOf_43 : decode cX10_sumOf 43 = .ok (.getfield 13, 3) := by decide +kernel
theorem dX10_sumOf_46 : decode cX10_sumOf 46 = .ok (.bipush 13, 2) := by decide +kernel
theorem dX10_sumOf_48 : decode cX10_sumOf 48 = .ok (.iload 5, 2) := by decide +kernel
theorem dX10_sumOf_50 : decode cX10_sumOf 50 = .ok (.iadd, 1) := by decide +kernel
theorem dX10_sumOf_51 : decode cX10_sumOf 51 = .ok (.iaload, 1) := by decide +kernel
theorem dX10_sumOf_52 : decode cX10_sumOf 52 = .ok (.istore 7, 2) := by decide +kernel
theorem dX10_sumOf_54 : decode cX10_sumOf 54 = .ok (.iload 7, 2) := by decide +kernel
theorem dX10_sumOf_56 : decode cX10_sumOf 56 = .ok (.bipush 10, 2) := by decide +kernel
theorem dX10_sumOf_58 : decode cX10_sumOf 58 = .ok (.aload_n 0, 1) := by decide +kernel
theorem dX10_sumOf_59 : decode cX10_sumOf 59 = .ok (.getfield 19, 3) := by decide +kernel
theorem dX10_sumOf_62 : decode cX10_sumOf 62 = .ok (.bipush 9, 2) := by decide +kernel
theorem dX10_sumOf_64 : decode cX10_sumOf 64 = .ok (.iload 5, 2) := by decide +kernel
theorem dX10_sumOf_66 : decode cX10_sumOf 66 = .ok (.iadd, 1) := by decide +kernel
theorem dX10_sumOf_67 : decode cX10_sumOf 67 = .ok (.iaload, 1) := by decide +kernel
theorem dX10_sumOf_68 : decode cX10_sumOf 68 = .ok (.imul, 1) := by decide +kernel
theorem dX10_sumOf_69 : decode cX10_sumOf 69 = .ok (.isub, 1) := by decide +kernel
theorem dX10_sumOf_70 : decode cX10_sumOf 70 = .ok (.istore 8, 2) := by decide +kernel
theorem dX10_sumOf_72 : decode cX10_sumOf 72 = .ok (.iload_n 2, 1) := by decide +kernel
theorem dX10_sumOf_73 : decode cX10_sumOf 73 = .ok (.iload 6, 2) := by decide +kernel
theorem dX10_sumOf_75 : decode cX10_sumOf 75 = .ok (.iconst 1, 1) := by decide +kernel
theorem dX10_sumOf_76 : decode cX10_sumOf 76 = .ok (.if_icmp .ne 7, 3) := by decide +kernel
theorem dX10_sumOf_79 : decode cX10_sumOf 79 = .ok (.iconst 1, 1) := by decide +kernel
theorem dX10_sumOf_80 : decode cX10_sumOf 80 = .ok (.goto 35, 3) := by decide +kernel
theorem dX10_sumOf_83 : decode cX10_sumOf 83 = .ok (.iload 6, 2) := by decide +kernel
theorem dX10_sumOf_85 : decode cX10_sumOf 85 = .ok (.iconst 2, 1) := by decide +kernel
theorem dX10_sumOf_86 : decode cX10_sumOf 86 = .ok (.if_icmp .ne 17, 3) := by decide +kernel
theorem dX10_sumOf_89 : decode cX10_sumOf 89 = .ok (.iload 8, 2) := by decide +kernel
theorem dX10_sumOf_91 : decode cX10_sumOf 91 = .ok (.ifCond .ge 7, 3) := by decide +kernel
theorem dX10_sumOf_94 : decode cX10_sumOf 94 = .ok (.iconst 0, 1) := by decide +kernel
theorem dX10_sumOf_95 : decode cX10_sumOf 95 = .ok (.goto 20, 3) := by decide +kernel
theorem dX10_sumOf_98 : decode cX10_sumOf 98 = .ok (.iload 8, 2) := by decide +kernel
theorem dX10_sumOf_100 : decode cX10_sumOf 100 = .ok (.goto 15, 3) := by decide +kernel
theorem dX10_sumOf_103 : decode cX10_sumOf 103 = .ok (.iload 6, 2) := by decide +kernel
theorem dX10_sumOf_105 : decode cX10_sumOf 105 = .ok (.iconst 3, 1) := by decide +kernel
theorem dX10_sumOf_106 : decode cX10_sumOf 106 = .ok (.if_icmp .ne 7, 3) := by decide +kernel
theorem dX10_sumOf_109 : decode cX10_sumOf 109 = .ok (.iconst 0, 1) := by decide +kernel
theorem dX10_sumOf_110 : decode cX10_sumOf 110 = .ok (.goto 5, 3) := by decide +kernel
theorem dX10_sumOf_113 : decode cX10_sumOf 113 = .ok (.iload 7, 2) := by decide +kernel
theorem dX10_sumOf_115 : decode cX10_sumOf 115 = .ok (.iadd, 1) := by decide +kernel
theorem dX10_sumOf_116 : decode cX10_sumOf 116 = .ok (.istore_n 2, 1) := by decide +kernel
theorem dX10_sumOf_117 : decode cX10_sumOf 117 = .ok (.iload_n 3, 1) := by decide +kernel
theorem dX10_sumOf_118 : decode cX10_sumOf 118 = .ok (.iload 6, 2) := by decide +kernel
theorem dX10_sumOf_120 : decode cX10_sumOf 120 = .ok (.iconst 3, 1) := by decide +kernel
theorem dX10_sumOf_121 : decode cX10_sumOf 121 = .ok (.if_icmp .ne 8, 3) := by decide +kernel
theorem dX10_sumOf_124 : decode cX10_sumOf 124 = .ok (.iload 7, 2) := by decide +kernel
theorem dX10_sumOf_126 : decode cX10_sumOf 126 = .ok (.goto 4, 3) := by decide +kernel
theorem dX10_sumOf_129 : decode cX10_sumOf 129 = .ok (.iconst 0, 1) := by decide +kernel
theorem dX10_sumOf_130 : decode cX10_sumOf 130 = .ok (.iadd, 1) := by decide +kernel
theorem dX10_sumOf_131 : decode cX10_sumOf 131 = .ok (.istore_n 3, 1) := by decide +kernel
theorem dX10_sumOf_132 : decode cX10_sumOf 132 = .ok (.iload 4, 2) := by decide +kernel
theorem dX10_sumOf_134 : decode cX10_sumOf 134 = .ok (.iload 6, 2) := by decide +kernel
theorem dX10_sumOf_136 : decode cX10_sumOf 136 = .ok (.iconst 3, 1) := by decide +kernel
theorem dX10_sumOf_137 : decode cX10_sumOf 137 = .ok (.if_icmp .ne 7, 3) := by decide +kernel
theorem dX10_sumOf_140 : decode cX10_sumOf 140 = .ok (.iconst 1, 1) := by decide +kernel
theorem dX10_sumOf_141 : decode cX10_sumOf 141 = .ok (.goto 4, 3) := by decide +kernel
theorem dX10_sumOf_144 : decode cX10_sumOf 144 = .ok (.iconst 0, 1) := by decide +kernel
theorem dX10_sumOf_145 : decode cX10_sumOf 145 = .ok (.iadd, 1) := by decide +kernel
theorem dX10_sumOf_146 : decode cX10_sumOf 146 = .ok (.istore 4, 2) := by decide +kernel
theorem dX10_sumOf_148 : decode cX10_sumOf 148 = .ok (.iinc 5 1, 3) := by decide +kernel
theorem dX10_sumOf_151 : decode cX10_sumOf 151 = .ok (.goto (-141), 3) := by decide +kernel
theorem dX10_sumOf_154 : decode cX10_sumOf 154 = .ok (.iload 4, 2) := by decide +kernel
theorem dX10_sumOf_156 : decode cX10_sumOf 156 = .ok (.iconst 1, 1) := by decide +kernel
theorem dX10_sumOf_157 : decode cX10_sumOf 157 = .ok (.if_icmp .le 9, 3) := by decide +kernel
theorem dX10_sumOf_160 : decode cX10_sumOf 160 = .ok (.iload_n 2, 1) := by decide +kernel
theorem dX10_sumOf_161 : decode cX10_sumOf 161 = .ok (.iload_n 3, 1) := by decide +kernel
theorem dX10_sumOf_162 : decode cX10_sumOf 162 = .ok (.iadd, 1) := by decide +kernel
theorem dX10_sumOf_163 : decode cX10_sumOf 163 = .ok (.goto 4, 3) := by decide +kernel
theorem dX10_sumOf_166 : decode cX10_sumOf 166 = .ok (.iload_n 2, 1) := by decide +kernel
theorem dX10_sumOf_167 : decode cX10_sumOf 167 = .ok (.ireturn, 1) := by decide +kernel
theorem dX10_sails_0 : decode cX10_sails 0 = .ok (.aload_n 0, 1) := by decide +kernel
theorem dX10_sails_1 : decode cX10_sails 1 = .ok (.invokevirtual 98, 3) := by decide +kernel
theorem dX10_sails_4 : decode cX10_sails 4 = .ok (.istore_n 2, 1) := by decide +kernel
theorem dX10_sails_5 : decode cX10_sails 5 = .ok (.iconst 1, 1) := by decide +kernel
theorem dX10_sails_6 : decode cX10_sails 6 = .ok (.istore_n 3, 1) := by decide +kernel
theorem dX10_sails_7 : decode cX10_sails 7 = .ok (.iconst 0, 1) := by decide +kernel
theorem dX10_sails_8 : decode cX10_sails 8 = .ok (.istore 4, 2) := by decide +kernel
theorem dX10_sails_10 : decode cX10_sails 10 = .ok (.iload 4, 2) := by decide +kernel
theorem dX10_sails_12 : decode cX10_sails 12 = .ok (.aload_n 0, 1) := by decide +kernel
theorem dX10_sails_13 : decode cX10_sails 13 = .ok (.getfield 13, 3) := by decide +kernel
theorem dX10_sails_16 : decode cX10_sails 16 = .ok (.iconst 0, 1) := by decide +kernel
theorem dX10_sails_17 : decode cX10_sails 17 = .ok (.iaload, 1) := by decide +kernel
theorem dX10_sails_18 : decode cX10_sails 18 = .ok (.if_icmp .ge 116, 3) := by decide +kernel
theorem dX10_sails_21 : decode cX10_sails 21 = .ok (.iconst 0, 1) := by decide +kernel
theorem dX10_sails_22 : decode cX10_sails 22 = .ok (.istore 5, 2) := by decide +kernel
theorem dX10_sails_24 : decode cX10_sails 24 = .ok (.iload 5, 2) := by decide +kernel
theorem dX10_sails_26 : decode cX10_sails 26 = .ok (.aload_n 0, 1) := by decide +kernel
theorem dX10_sails_27 : decode cX10_sails 27 = .ok (.getfield 13, 3) := by decide +kernel
theorem dX10_sails_30 : decode cX10_sails 30 = .ok (.iconst 0, 1) := by decide +kernel
theorem dX10_sails_31 : decode cX10_sails 31 = .ok (.iaload, 1) := by decide +kernel
theorem dX10_sails_32 : decode cX10_sails 32 = .ok (.if_icmp .ge 96, 3) := by decide +kernel
theorem dX10_sails_35 : decode cX10_sails 35 = .ok (.aload_n 0, 1) := by decide +kernel
theorem dX10_sails_36 : decode cX10_sails 36 = .ok (.getfield 13, 3) := by decide +kernel
theorem dX10_sails_39 : decode cX10_sails 39 = .ok (.bipush 31, 2) := by decide +kernel
theorem dX10_sails_41 : decode cX10_sails 41 = .ok (.iload 4, 2) := by decide +kernel
theorem dX10_sails_43 : decode cX10_sails 43 = .ok (.iadd, 1) := by decide +kernel
theorem dX10_sails_44 : decode cX10_sails 44 = .ok (.iaload, 1) := by decide +kernel
theorem dX10_sails_45 : decode cX10_sails 45 = .ok (.ifCond .le 40, 3) := by decide +kernel
theorem dX10_sails_48 : decode cX10_sails 48 = .ok (.aload_n 0, 1) := by decide +kernel
theorem dX10_sails_49 : decode cX10_sails 49 = .ok (.getfield 13, 3) := by decide +kernel
theorem dX10_sails_52 : decode cX10_sails 52 = .ok (.bipush 31, 2) := by decide +kernel
theorem dX10_sails_54 : decode cX10_sails 54 = .ok (.iload 4, 2) := by decide +kernel
theorem dX10_sails_56 : decode cX10_sails 56 = .ok (.iadd, 1) := by decide +kernel
theorem dX10_sails_57 : decode cX10_sails 57 = .ok (.iaload, 1) := by decide +kernel
theorem dX10_sails_58 : decode cX10_sails 58 = .ok (.aload_n 0, 1) := by decide +kernel
theorem dX10_sails_59 : decode cX10_sails 59 = .ok (.getfield 13, 3) := by decide +kernel
theorem dX10_sails_62 : decode cX10_sails 62 = .ok (.bipush 31, 2) := by decide +kernel
theorem dX10_sails_64 : decode cX10_sails 64 = .ok (.iload 5, 2) := by decide +kernel
theorem dX10_sails_66 : decode cX10_sails 66 = .ok (.iadd, 1) := by decide +kernel
theorem dX10_sails_67 : decode cX10_sails 67 = .ok (.iaload, 1) := by decide +kernel
theorem dX10_sails_68 : decode cX10_sails 68 = .ok (.if_icmp .ne 17, 3) := by decide +kernel
theorem dX10_sails_71 : decode cX10_sails 71 = .ok (.iload_n 2, 1) := by decide +kernel
theorem dX10_sails_72 : decode cX10_sails 72 = .ok (.iload 5, 2) := by decide +kernel
theorem dX10_sails_74 : decode cX10_sails 74 = .ok (.ishr, 1) := by decide +kernel
theorem dX10_sails_75 : decode cX10_sails 75 = .ok (.iconst 1, 1) := by decide +kernel
theorem dX10_sails_76 : decode cX10_sails 76 = .ok (.iand, 1) := by decide +kernel
theorem dX10_sails_77 : decode cX10_sails 77 = .ok (.iconst 1, 1) := by decide +kernel
theorem dX10_sails_78 : decode cX10_sails 78 = .ok (.if_icmp .ne 7, 3) := by decide +kernel
theorem dX10_sails_81 : decode cX10_sails 81 = .ok (.iconst 1, 1) := by decide +kernel
theorem dX10_sails_82 : decode cX10_sails 82 = .ok (.goto 4, 3) := by decide +kernel
theorem dX10_sails_85 : decode cX10_sails 85 = .ok (.iconst 0, 1) := by decide +kernel
theorem dX10_sails_86 : decode cX10_sails 86 = .ok (.istore 6, 2) := by decide +kernel
theorem dX10_sails_88 : decode cX10_sails 88 = .ok (.iload_n 3, 1) := by decide +kernel
theorem dX10_sails_89 : decode cX10_sails 89 = .ok (.ifCond .eq 31, 3) := by decide +kernel
theorem dX10_sails_92 : decode cX10_sails 92 = .ok (.iload 6, 2) := by decide +kernel
theorem dX10_sails_94 : decode cX10_sails 94 = .ok (.ifCond .eq 22, 3) := by decide +kernel
theorem dX10_sails_97 : decode cX10_sails 97 = .ok (.iload_n 1, 1) := by decide +kernel
theorem dX10_sails_98 : decode cX10_sails 98 = .ok (.iload 4, 2) := by decide +kernel
theorem dX10_sails_100 : decode cX10_sails 100 = .ok (.ishr, 1) := by decide +kernel
theorem dX10_sails_101 : decode cX10_sails 101 = .ok (.iconst 1, 1) := by decide +kernel
theorem dX10_sails_102 : decode cX10_sails 102 = .ok (.iand, 1) := by decide +kernel
theorem dX10_sails_103 : decode cX10_sails 103 = .ok (.iconst 1, 1) := by decide +kernel
theorem dX10_sails_104 : decode cX10_sails 104 = .ok (.if_icmp .ne 12, 3) := by decide +kernel
theorem dX10_sails_107 : decode cX10_sails 107 = .ok (.iload_n 1, 1) := by decide +kernel
theorem dX10_sails_108 : decode cX10_sails 108 = .ok (.iload 5, 2) := by decide +kernel
theorem dX10_sails_110 : decode cX10_sails 110 = .ok (.ishr, 1) := by decide +kernel
theorem dX10_sails_111 : decode cX10_sails 111 = .ok (.iconst 1, 1) := by decide +kernel
theorem dX10_sails_112 : decode cX10_sails 112 = .ok (.iand, 1) := by decide +kernel
theorem dX10_sails_113 : decode cX10_sails 113 = .ok (.ifCond .eq 7, 3) := by decide +kernel
theorem dX10_sails_116 : decode cX10_sails 116 = .ok (.iconst 1, 1) := by decide +kernel
theorem dX10_sails_117 : decode cX10_sails 117 = .ok (.goto 4, 3) := by decide +kernel
theorem dX10_sails_120 : decode cX10_sails 120 = .ok (.iconst 0, 1) := by decide +kernel
theorem dX10_sails_121 : decode cX10_sails 121 = .ok (.istore_n 3, 1) := by decide +kernel
theorem dX10_sails_122 : decode cX10_sails 122 = .ok (.iinc 5 1, 3) := by decide +kernel
theorem dX10_sails_125 : decode cX10_sails 125 = .ok (.goto (-101), 3) := by decide +kernel
theorem dX10_sails_128 : decode cX10_sails 128 = .ok (.iinc 4 1, 3) := by decide +kernel
theorem dX10_sails_131 : decode cX10_sails 131 = .ok (.goto (-121), 3) := by decide +kernel
theorem dX10_sails_134 : decode cX10_sails 134 = .ok (.iload_n 3, 1) := by decide +kernel
theorem dX10_sails_135 : decode cX10_sails 135 = .ok (.ifCond .eq 32, 3) := by decide +kernel
theorem dX10_sails_138 : decode cX10_sails 138 = .ok (.aload_n 0, 1) := by decide +kernel
theorem dX10_sails_139 : decode cX10_sails 139 = .ok (.iload_n 1, 1) := by decide +kernel
theorem dX10_sails_140 : decode cX10_sails 140 = .ok (.invokevirtual 101, 3) := by decide +kernel
theorem dX10_sails_143 : decode cX10_sails 143 = .ok (.aload_n 0, 1) := by decide +kernel
theorem dX10_sails_144 : decode cX10_sails 144 = .ok (.getfield 13, 3) := by decide +kernel
theorem dX10_sails_147 : decode cX10_sails 147 = .ok (.iconst 1, 1) := by decide +kernel
theorem dX10_sails_148 : decode cX10_sails 148 = .ok (.iaload, 1) := by decide +kernel
theorem dX10_sails_149 : decode cX10_sails 149 = .ok (.isub, 1) := by decide +kernel
theorem dX10_sails_150 : decode cX10_sails 150 = .ok (.iconst 0, 1) := by decide +kernel
theorem dX10_sails_151 : decode cX10_sails 151 = .ok (.aload_n 0, 1) := by decide +kernel
theorem dX10_sails_152 : decode cX10_sails 152 = .ok (.getfield 13, 3) := by decide +kernel
theorem dX10_sails_155 : decode cX10_sails 155 = .ok (.iconst 2, 1) := by decide +kernel
theorem dX10_sails_156 : decode cX10_sails 156 = .ok (.iaload, 1) := by decide +kernel
theorem dX10_sails_157 : decode cX10_sails 157 = .ok (.invokestatic 50, 3) := by decide +kernel
theorem dX10_sails_160 : decode cX10_sails 160 = .ok (.ifCond .eq 7, 3) := by decide +kernel
theorem dX10_sails_163 : decode cX10_sails 163 = .ok (.iconst 1, 1) := by decide +kernel
theorem dX10_sails_164 : decode cX10_sails 164 = .ok (.goto 4, 3) := by decide +kernel
theorem dX10_sails_167 : decode cX10_sails 167 = .ok (.iconst 0, 1) := by decide +kernel
theorem dX10_sails_168 : decode cX10_sails 168 = .ok (.ireturn, 1) := by decide +kernel
theorem dX10_coinsOf_0 : decode cX10_coinsOf 0 = .ok (.aload_n 0, 1) := by decide +kernel
theorem dX10_coinsOf_1 : decode cX10_coinsOf 1 = .ok (.getfield 13, 3) := by decide +kernel
theorem dX10_coinsOf_4 : decode cX10_coinsOf 4 = .ok (.iconst 3, 1) := by decide +kernel
theorem dX10_coinsOf_5 : decode cX10_coinsOf 5 = .ok (.iaload, 1) := by decide +kernel
theorem dX10_coinsOf_6 : decode cX10_coinsOf 6 = .ok (.aload_n 0, 1) := by decide +kernel
theorem dX10_coinsOf_7 : decode cX10_coinsOf 7 = .ok (.iload_n 1, 1) := by decide +kernel
theorem dX10_coinsOf_8 : decode cX10_coinsOf 8 = .ok (.invokevirtual 101, 3) := by decide +kernel
theorem dX10_coinsOf_11 : decode cX10_coinsOf 11 = .ok (.aload_n 0, 1) := by decide +kernel
theorem dX10_coinsOf_12 : decode cX10_coinsOf 12 = .ok (.getfield 13, 3) := by decide +kernel
theorem dX10_coinsOf_15 : decode cX10_coinsOf 15 = .ok (.iconst 1, 1) := by decide +kernel
theorem dX10_coinsOf_16 : decode cX10_coinsOf 16 = .ok (.iaload, 1) := by decide +kernel
theorem dX10_coinsOf_17 : decode cX10_coinsOf 17 = .ok (.isub, 1) := by decide +kernel
theorem dX10_coinsOf_18 : decode cX10_coinsOf 18 = .ok (.imul, 1) := by decide +kernel
theorem dX10_coinsOf_19 : decode cX10_coinsOf 19 = .ok (.ireturn, 1) := by decide +kernel
theorem dX10_sum_0 : decode cX10_sum 0 = .ok (.aload_n 0, 1) := by decide +kernel
theorem dX10_sum_1 : decode cX10_sum 1 = .ok (.iconst 2, 1) := by decide +kernel
theorem dX10_sum_2 : decode cX10_sum 2 = .ok (.invokevirtual 92, 3) := by decide +kernel
theorem dX10_sum_5 : decode cX10_sum 5 = .ok (.istore_n 2, 1) := by decide +kernel
theorem dX10_sum_6 : decode cX10_sum 6 = .ok (.aload_n 0, 1) := by decide +kernel
theorem dX10_sum_7 : decode cX10_sum 7 = .ok (.iload_n 2, 1) := by decide +kernel
theorem dX10_sum_8 : decode cX10_sum 8 = .ok (.invokevirtual 101, 3) := by decide +kernel
theorem dX10_sum_11 : decode cX10_sum 11 = .ok (.aload_n 0, 1) := by decide +kernel
theorem dX10_sum_12 : decode cX10_sum 12 = .ok (.getfield 13, 3) := by decide +kernel
theorem dX10_sum_15 : decode cX10_sum 15 = .ok (.iconst 1, 1) := by decide +kernel
theorem dX10_sum_16 : decode cX10_sum 16 = .ok (.iaload, 1) := by decide +kernel
theorem dX10_sum_17 : decode cX10_sum 17 = .ok (.isub, 1) := by decide +kernel
theorem dX10_sum_18 : decode cX10_sum 18 = .ok (.istore_n 3, 1) := by decide +kernel
theorem dX10_sum_19 : decode cX10_sum 19 = .ok (.iload_n 1, 1) := by decide +kernel
theorem dX10_sum_20 : decode cX10_sum 20 = .ok (.tableswitch 96 0 4 #[36, 42, 53, 63, 77], 36) := by decide +kernel
theorem dX10_sum_56 : decode cX10_sum 56 = .ok (.aload_n 0, 1) := by decide +kernel
theorem dX10_sum_57 : decode cX10_sum 57 = .ok (.iload_n 2, 1) := by decide +kernel
theorem dX10_sum_58 : decode cX10_sum 58 = .ok (.invokevirtual 101, 3) := by decide +kernel
theorem dX10_sum_61 : decode cX10_sum 61 = .ok (.ireturn, 1) := by decide +kernel
theorem dX10_sum_62 : decode cX10_sum 62 = .ok (.iload_n 3, 1) := by decide +kernel
theorem dX10_sum_63 : decode cX10_sum 63 = .ok (.ifCond .ge 8, 3) := by decide +kernel
theorem dX10_sum_66 : decode cX10_sum 66 = .ok (.iload_n 3, 1) := by decide +kernel
theorem dX10_sum_67 : decode cX10_sum 67 = .ok (.ineg, 1) := by decide +kernel
theorem dX10_sum_68 : decode cX10_sum 68 = .ok (.goto 4, 3) := by decide +kernel
theorem dX10_sum_71 : decode cX10_sum 71 = .ok (.iconst 0, 1) := by decide +kernel
theorem dX10_sum_72 : decode cX10_sum 72 = .ok (.ireturn, 1) := by decide +kernel
theorem dX10_sum_73 : decode cX10_sum 73 = .ok (.iload_n 3, 1) := by decide +kernel
theorem dX10_sum_74 : decode cX10_sum 74 = .ok (.ifCond .le 7, 3) := by decide +kernel
theorem dX10_sum_77 : decode cX10_sum 77 = .ok (.iload_n 3, 1) := by decide +kernel
theorem dX10_sum_78 : decode cX10_sum 78 = .ok (.goto 4, 3) := by decide +kernel
theorem dX10_sum_81 : decode cX10_sum 81 = .ok (.iconst 0, 1) := by decide +kernel
theorem dX10_sum_82 : decode cX10_sum 82 = .ok (.ireturn, 1) := by decide +kernel
theorem dX10_sum_83 : decode cX10_sum 83 = .ok (.aload_n 0, 1) := by decide +kernel
theorem dX10_sum_84 : decode cX10_sum 84 = .ok (.iload_n 2, 1) := by decide +kernel
theorem dX10_sum_85 : decode cX10_sum 85 = .ok (.invokevirtual 104, 3) := by decide +kernel
theorem dX10_sum_88 : decode cX10_sum 88 = .ok (.ifCond .eq 7, 3) := by decide +kernel
theorem dX10_sum_91 : decode cX10_sum 91 = .ok (.iconst 1, 1) := by decide +kernel
theorem dX10_sum_92 : decode cX10_sum 92 = .ok (.goto 4, 3) := by decide +kernel
theorem dX10_sum_95 : decode cX10_sum 95 = .ok (.iconst 0, 1) := by decide +kernel
theorem dX10_sum_96 : decode cX10_sum 96 = .ok (.ireturn, 1) := by decide +kernel
theorem dX10_sum_97 : decode cX10_sum 97 = .ok (.aload_n 0, 1) := by decide +kernel
theorem dX10_sum_98 : decode cX10_sum 98 = .ok (.iload_n 2, 1) := by decide +kernel
theorem dX10_sum_99 : decode cX10_sum 99 = .ok (.invokevirtual 104, 3) := by decide +kernel
theorem dX10_sum_102 : decode cX10_sum 102 = .ok (.ifCond .eq 11, 3) := by decide +kernel
theorem dX10_sum_105 : decode cX10_sum 105 = .ok (.aload_n 0, 1) := by decide +kernel
theorem dX10_sum_106 : decode cX10_sum 106 = .ok (.iload_n 2, 1) := by decide +kernel
theorem dX10_sum_107 : decode cX10_sum 107 = .ok (.invokevirtual 107, 3) := by decide +kernel
theorem dX10_sum_110 : decode cX10_sum 110 = .ok (.goto 5, 3) := by decide +kernel
theorem dX10_sum_113 : decode cX10_sum 113 = .ok (.bipush (-4), 2) := by decide +kernel
theorem dX10_sum_115 : decode cX10_sum 115 = .ok (.ireturn, 1) := by decide +kernel
theorem dX10_sum_116 : decode cX10_sum 116 = .ok (.iconst (-1), 1) := by decide +kernel
theorem dX10_sum_117 : decode cX10_sum 117 = .ok (.ireturn, 1) := by decide +kernel
theorem dX10_keeps_0 : decode cX10_keeps 0 = .ok (.aload_n 0, 1) := by decide +kernel
theorem dX10_keeps_1 : decode cX10_keeps 1 = .ok (.getfield 80, 3) := by decide +kernel
theorem dX10_keeps_4 : decode cX10_keeps 4 = .ok (.bipush 8, 2) := by decide +kernel
theorem dX10_keeps_6 : decode cX10_keeps 6 = .ok (.if_icmp .ne 43, 3) := by decide +kernel
theorem dX10_keeps_9 : decode cX10_keeps 9 = .ok (.iconst 0, 1) := by decide +kernel
theorem dX10_keeps_10 : decode cX10_keeps 10 = .ok (.istore_n 1, 1) := by decide +kernel
theorem dX10_keeps_11 : decode cX10_keeps 11 = .ok (.iload_n 1, 1) := by decide +kernel
theorem dX10_keeps_12 : decode cX10_keeps 12 = .ok (.sipush 147, 3) := by decide +kernel
theorem dX10_keeps_15 : decode cX10_keeps 15 = .ok (.if_icmp .ge 24, 3) := by decide +kernel
theorem dX10_keeps_18 : decode cX10_keeps 18 = .ok (.aload_n 0, 1) := by decide +kernel
theorem dX10_keeps_19 : decode cX10_keeps 19 = .ok (.getfield 22, 3) := by decide +kernel
theorem dX10_keeps_22 : decode cX10_keeps 22 = .ok (.iload_n 1, 1) := by decide +kernel
theorem dX10_keeps_23 : decode cX10_keeps 23 = .ok (.aload_n 0, 1) := by decide +kernel
theorem dX10_keeps_24 : decode cX10_keeps 24 = .ok (.getfield 22, 3) := by decide +kernel
theorem dX10_keeps_27 : decode cX10_keeps 27 = .ok (.iload_n 1, 1) := by decide +kernel
theorem dX10_keeps_28 : decode cX10_keeps 28 = .ok (.bipush 21, 2) := by decide +kernel
theorem dX10_keeps_30 : decode cX10_keeps 30 = .ok (.iadd, 1) := by decide +kernel
theorem dX10_keeps_31 : decode cX10_keeps 31 = .ok (.iaload, 1) := by decide +kernel
theorem dX10_keeps_32 : decode cX10_keeps 32 = .ok (.iastore, 1) := by decide +kernel
theorem dX10_keeps_33 : decode cX10_keeps 33 = .ok (.iinc 1 1, 3) := by decide +kernel
theorem dX10_keeps_36 : decode cX10_keeps 36 = .ok (.goto (-25), 3) := by decide +kernel
theorem dX10_keeps_39 : decode cX10_keeps 39 = .ok (.aload_n 0, 1) := by decide +kernel
theorem dX10_keeps_40 : decode cX10_keeps 40 = .ok (.dup, 1) := by decide +kernel
theorem dX10_keeps_41 : decode cX10_keeps 41 = .ok (.getfield 80, 3) := by decide +kernel
theorem dX10_keeps_44 : decode cX10_keeps 44 = .ok (.iconst 1, 1) := by decide +kernel
theorem dX10_keeps_45 : decode cX10_keeps 45 = .ok (.isub, 1) := by decide +kernel
theorem dX10_keeps_46 : decode cX10_keeps 46 = .ok (.putfield 80, 3) := by decide +kernel
theorem dX10_keeps_49 : decode cX10_keeps 49 = .ok (.iconst 0, 1) := by decide +kernel
theorem dX10_keeps_50 : decode cX10_keeps 50 = .ok (.istore_n 1, 1) := by decide +kernel
theorem dX10_keeps_51 : decode cX10_keeps 51 = .ok (.iload_n 1, 1) := by decide +kernel
theorem dX10_keeps_52 : decode cX10_keeps 52 = .ok (.bipush 21, 2) := by decide +kernel
theorem dX10_keeps_54 : decode cX10_keeps 54 = .ok (.if_icmp .ge 29, 3) := by decide +kernel
theorem dX10_keeps_57 : decode cX10_keeps 57 = .ok (.aload_n 0, 1) := by decide +kernel
theorem dX10_keeps_58 : decode cX10_keeps 58 = .ok (.getfield 22, 3) := by decide +kernel
theorem dX10_keeps_61 : decode cX10_keeps 61 = .ok (.bipush 21, 2) := by decide +kernel
theorem dX10_keeps_63 : decode cX10_keeps 63 = .ok (.aload_n 0, 1) := by decide +kernel
theorem dX10_keeps_64 : decode cX10_keeps 64 = .ok (.getfield 80, 3) := by decide +kernel
theorem dX10_keeps_67 : decode cX10_keeps 67 = .ok (.imul, 1) := by decide +kernel
theorem dX10_keeps_68 : decode cX10_keeps 68 = .ok (.iload_n 1, 1) := by decide +kernel
theorem dX10_keeps_69 : decode cX10_keeps 69 = .ok (.iadd, 1) := by decide +kernel
theorem dX10_keeps_70 : decode cX10_keeps 70 = .ok (.aload_n 0, 1) := by decide +kernel
theorem dX10_keeps_71 : decode cX10_keeps 71 = .ok (.getfield 19, 3) := by decide +kernel
theorem dX10_keeps_74 : decode cX10_keeps 74 = .ok (.iload_n 1, 1) := by decide +kernel
theorem dX10_keeps_75 : decode cX10_keeps 75 = .ok (.iaload, 1) := by decide +kernel
theorem dX10_keeps_76 : decode cX10_keeps 76 = .ok (.iastore, 1) := by decide +kernel
theorem dX10_keeps_77 : decode cX10_keeps 77 = .ok (.iinc 1 1, 3) := by decide +kernel
theorem dX10_keeps_80 : decode cX10_keeps 80 = .ok (.goto (-29), 3) := by decide +kernel
theorem dX10_keeps_83 : decode cX10_keeps 83 = .ok (.aload_n 0, 1) := by decide +kernel
theorem dX10_keeps_84 : decode cX10_keeps 84 = .ok (.dup, 1) := by decide +kernel
theorem dX10_keeps_85 : decode cX10_keeps 85 = .ok (.getfield 80, 3) := by decide +kernel
theorem dX10_keeps_88 : decode cX10_keeps 88 = .ok (.iconst 1, 1) := by decide +kernel
theorem dX10_keeps_89 : decode cX10_keeps 89 = .ok (.iadd, 1) := by decide +kernel
theorem dX10_keeps_90 : decode cX10_keeps 90 = .ok (.putfield 80, 3) := by decide +kernel
theorem dX10_keeps_93 : decode cX10_keeps 93 = .ok (.return_, 1) := by decide +kernel
theorem dX10_pass_0 : decode cX10_pass 0 = .ok (.iload_n 1, 1) := by decide +kernel
theorem dX10_pass_1 : decode cX10_pass 1 = .ok (.iconst 1, 1) := by decide +kernel
theorem dX10_pass_2 : decode cX10_pass 2 = .ok (.bipush 60, 2) := by decide +kernel
theorem dX10_pass_4 : decode cX10_pass 4 = .ok (.invokestatic 50, 3) := by decide +kernel
theorem dX10_pass_7 : decode cX10_pass 7 = .ok (.ifCond .ne 5, 3) := by decide +kernel
theorem dX10_pass_10 : decode cX10_pass 10 = .ok (.iconst (-1), 1) := by decide +kernel
theorem dX10_pass_11 : decode cX10_pass 11 = .ok (.ireturn, 1) := by decide +kernel
theorem dX10_pass_12 : decode cX10_pass 12 = .ok (.aload_n 0, 1) := by decide +kernel
theorem dX10_pass_13 : decode cX10_pass 13 = .ok (.invokevirtual 110, 3) := by decide +kernel
theorem dX10_pass_16 : decode cX10_pass 16 = .ok (.aload_n 0, 1) := by decide +kernel
theorem dX10_pass_17 : decode cX10_pass 17 = .ok (.getfield 19, 3) := by decide +kernel
theorem dX10_pass_20 : decode cX10_pass 20 = .ok (.bipush 18, 2) := by decide +kernel
theorem dX10_pass_22 : decode cX10_pass 22 = .ok (.dup2, 1) := by decide +kernel
theorem dX10_pass_23 : decode cX10_pass 23 = .ok (.iaload, 1) := by decide +kernel
theorem dX10_pass_24 : decode cX10_pass 24 = .ok (.iload_n 1, 1) := by decide +kernel
theorem dX10_pass_25 : decode cX10_pass 25 = .ok (.iadd, 1) := by decide +kernel
theorem dX10_pass_26 : decode cX10_pass 26 = .ok (.iastore, 1) := by decide +kernel
theorem dX10_pass_27 : decode cX10_pass 27 = .ok (.aload_n 0, 1) := by decide +kernel
theorem dX10_pass_28 : decode cX10_pass 28 = .ok (.getfield 19, 3) := by decide +kernel
theorem dX10_pass_31 : decode cX10_pass 31 = .ok (.bipush 18, 2) := by decide +kernel
theorem dX10_pass_33 : decode cX10_pass 33 = .ok (.iaload, 1) := by decide +kernel
theorem dX10_pass_34 : decode cX10_pass 34 = .ok (.ireturn, 1) := by decide +kernel
theorem dX10_board_0 : decode cX10_board 0 = .ok (.aload_n 0, 1) := by decide +kernel
theorem dX10_board_1 : decode cX10_board 1 = .ok (.iload_n 1, 1) := by decide +kernel
theorem dX10_board_2 : decode cX10_board 2 = .ok (.invokevirtual 95, 3) := by decide +kernel
theorem dX10_board_5 : decode cX10_board 5 = .ok (.ifCond .ne 5, 3) := by decide +kernel
theorem dX10_board_8 : decode cX10_board 8 = .ok (.iconst (-1), 1) := by decide +kernel
theorem dX10_board_9 : decode cX10_board 9 = .ok (.ireturn, 1) := by decide +kernel
theorem dX10_board_10 : decode cX10_board 10 = .ok (.aload_n 0, 1) := by decide +kernel
theorem dX10_board_11 : decode cX10_board 11 = .ok (.iload_n 1, 1) := by decide +kernel
theorem dX10_board_12 : decode cX10_board 12 = .ok (.invokevirtual 89, 3) := by decide +kernel
theorem dX10_board_15 : decode cX10_board 15 = .ok (.iconst 1, 1) := by decide +kernel
theorem dX10_board_16 : decode cX10_board 16 = .ok (.if_icmp .eq 6, 3) := by decide +kernel
theorem dX10_board_19 : decode cX10_board 19 = .ok (.bipush (-2), 2) := by decide +kernel
theorem dX10_board_21 : decode cX10_board 21 = .ok (.ireturn, 1) := by decide +kernel
theorem dX10_board_22 : decode cX10_board 22 = .ok (.aload_n 0, 1) := by decide +kernel
theorem dX10_board_23 : decode cX10_board 23 = .ok (.invokevirtual 110, 3) := by decide +kernel
theorem dX10_board_26 : decode cX10_board 26 = .ok (.aload_n 0, 1) := by decide +kernel
theorem dX10_board_27 : decode cX10_board 27 = .ok (.getfield 19, 3) := by decide +kernel
theorem dX10_board_30 : decode cX10_board 30 = .ok (.iload_n 1, 1) := by decide +kernel
theorem dX10_board_31 : decode cX10_board 31 = .ok (.iconst 2, 1) := by decide +kernel
theorem dX10_board_32 : decode cX10_board 32 = .ok (.iastore, 1) := by decide +kernel
theorem dX10_board_33 : decode cX10_board 33 = .ok (.aload_n 0, 1) := by decide +kernel
theorem dX10_board_34 : decode cX10_board 34 = .ok (.aload_n 0, 1) := by decide +kernel
theorem dX10_board_35 : decode cX10_board 35 = .ok (.iconst 2, 1) := by decide +kernel
theorem dX10_board_36 : decode cX10_board 36 = .ok (.invokevirtual 92, 3) := by decide +kernel
theorem dX10_board_39 : decode cX10_board 39 = .ok (.invokevirtual 101, 3) := by decide +kernel
theorem dX10_board_42 : decode cX10_board 42 = .ok (.ireturn, 1) := by decide +kernel
theorem dX10_stepOff_0 : decode cX10_stepOff 0 = .ok (.aload_n 0, 1) := by decide +kernel
theorem dX10_stepOff_1 : decode cX10_stepOff 1 = .ok (.iload_n 1, 1) := by decide +kernel
theorem dX10_stepOff_2 : decode cX10_stepOff 2 = .ok (.invokevirtual 95, 3) := by decide +kernel
theorem dX10_stepOff_5 : decode cX10_stepOff 5 = .ok (.ifCond .ne 5, 3) := by decide +kernel
theorem dX10_stepOff_8 : decode cX10_stepOff 8 = .ok (.iconst (-1), 1) := by decide +kernel
theorem dX10_stepOff_9 : decode cX10_stepOff 9 = .ok (.ireturn, 1) := by decide +kernel
theorem dX10_stepOff_10 : decode cX10_stepOff 10 = .ok (.aload_n 0, 1) := by decide +kernel
theorem dX10_stepOff_11 : decode cX10_stepOff 11 = .ok (.iload_n 1, 1) := by decide +kernel
theorem dX10_stepOff_12 : decode cX10_stepOff 12 = .ok (.invokevirtual 89, 3) := by decide +kernel
theorem dX10_stepOff_15 : decode cX10_stepOff 15 = .ok (.iconst 2, 1) := by decide +kernel
theorem dX10_stepOff_16 : decode cX10_stepOff 16 = .ok (.if_icmp .eq 6, 3) := by decide +kernel
theorem dX10_stepOff_19 : decode cX10_stepOff 19 = .ok (.bipush (-2), 2) := by decide +kernel
theorem dX10_stepOff_21 : decode cX10_stepOff 21 = .ok (.ireturn, 1) := by decide +kernel
theorem dX10_stepOff_22 : decode cX10_stepOff 22 = .ok (.aload_n 0, 1) := by decide +kernel
theorem dX10_stepOff_23 : decode cX10_stepOff 23 = .ok (.invokevirtual 110, 3) := by decide +kernel
theorem dX10_stepOff_26 : decode cX10_stepOff 26 = .ok (.aload_n 0, 1) := by decide +kernel
theorem dX10_stepOff_27 : decode cX10_stepOff 27 = .ok (.getfield 19, 3) := by decide +kernel
theorem dX10_stepOff_30 : decode cX10_stepOff 30 = .ok (.iload_n 1, 1) := by decide +kernel
theorem dX10_stepOff_31 : decode cX10_stepOff 31 = .ok (.iconst 0, 1) := by decide +kernel
theorem dX10_stepOff_32 : decode cX10_stepOff 32 = .ok (.iastore, 1) := by decide +kernel
theorem dX10_stepOff_33 : decode cX10_stepOff 33 = .ok (.aload_n 0, 1) := by decide +kernel
theorem dX10_stepOff_34 : decode cX10_stepOff 34 = .ok (.aload_n 0, 1) := by decide +kernel
theorem dX10_stepOff_35 : decode cX10_stepOff 35 = .ok (.iconst 2, 1) := by decide +kernel
theorem dX10_stepOff_36 : decode cX10_stepOff 36 = .ok (.invokevirtual 92, 3) := by decide +kernel
theorem dX10_stepOff_39 : decode cX10_stepOff 39 = .ok (.invokevirtual 101, 3) := by decide +kernel
theorem dX10_stepOff_42 : decode cX10_stepOff 42 = .ok (.ireturn, 1) := by decide +kernel
theorem dX10_die_0 : decode cX10_die 0 = .ok (.aload_n 0, 1) := by decide +kernel
theorem dX10_die_1 : decode cX10_die 1 = .ok (.iload_n 1, 1) := by decide +kernel
theorem dX10_die_2 : decode cX10_die 2 = .ok (.invokevirtual 95, 3) := by decide +kernel
theorem dX10_die_5 : decode cX10_die 5 = .ok (.ifCond .ne 5, 3) := by decide +kernel
theorem dX10_die_8 : decode cX10_die 8 = .ok (.iconst (-1), 1) := by decide +kernel
theorem dX10_die_9 : decode cX10_die 9 = .ok (.ireturn, 1) := by decide +kernel
theorem dX10_die_10 : decode cX10_die 10 = .ok (.aload_n 0, 1) := by decide +kernel
theorem dX10_die_11 : decode cX10_die 11 = .ok (.iload_n 1, 1) := by decide +kernel
theorem dX10_die_12 : decode cX10_die 12 = .ok (.invokevirtual 89, 3) := by decide +kernel
theorem dX10_die_15 : decode cX10_die 15 = .ok (.istore_n 2, 1) := by decide +kernel
theorem dX10_die_16 : decode cX10_die 16 = .ok (.iload_n 2, 1) := by decide +kernel
theorem dX10_die_17 : decode cX10_die 17 = .ok (.iconst 2, 1) := by decide +kernel
theorem dX10_die_18 : decode cX10_die 18 = .ok (.if_icmp .le 6, 3) := by decide +kernel
theorem dX10_die_21 : decode cX10_die 21 = .ok (.bipush (-2), 2) := by decide +kernel
theorem dX10_die_23 : decode cX10_die 23 = .ok (.ireturn, 1) := by decide +kernel
theorem dX10_die_24 : decode cX10_die 24 = .ok (.aload_n 0, 1) := by decide +kernel
theorem dX10_die_25 : decode cX10_die 25 = .ok (.invokevirtual 110, 3) := by decide +kernel
theorem dX10_die_28 : decode cX10_die 28 = .ok (.aload_n 0, 1) := by decide +kernel
theorem dX10_die_29 : decode cX10_die 29 = .ok (.getfield 19, 3) := by decide +kernel
theorem dX10_die_32 : decode cX10_die 32 = .ok (.iload_n 1, 1) := by decide +kernel
theorem dX10_die_33 : decode cX10_die 33 = .ok (.iconst 4, 1) := by decide +kernel
theorem dX10_die_34 : decode cX10_die 34 = .ok (.iastore, 1) := by decide +kernel
theorem dX10_die_35 : decode cX10_die 35 = .ok (.iload_n 2, 1) := by decide +kernel
theorem dX10_die_36 : decode cX10_die 36 = .ok (.ireturn, 1) := by decide +kernel
theorem dX10_goes_0 : decode cX10_goes 0 = .ok (.aload_n 0, 1) := by decide +kernel
theorem dX10_goes_1 : decode cX10_goes 1 = .ok (.iconst 2, 1) := by decide +kernel
theorem dX10_goes_2 : decode cX10_goes 2 = .ok (.invokevirtual 92, 3) := by decide +kernel
theorem dX10_goes_5 : decode cX10_goes 5 = .ok (.istore_n 1, 1) := by decide +kernel
theorem dX10_goes_6 : decode cX10_goes 6 = .ok (.aload_n 0, 1) := by decide +kernel
theorem dX10_goes_7 : decode cX10_goes 7 = .ok (.iload_n 1, 1) := by decide +kernel
theorem dX10_goes_8 : decode cX10_goes 8 = .ok (.invokevirtual 107, 3) := by decide +kernel
theorem dX10_goes_11 : decode cX10_goes 11 = .ok (.istore_n 2, 1) := by decide +kernel
theorem dX10_goes_12 : decode cX10_goes 12 = .ok (.iconst 0, 1) := by decide +kernel
theorem dX10_goes_13 : decode cX10_goes 13 = .ok (.istore_n 3, 1) := by decide +kernel
theorem dX10_goes_14 : decode cX10_goes 14 = .ok (.iload_n 3, 1) := by decide +kernel
theorem dX10_goes_15 : decode cX10_goes 15 = .ok (.aload_n 0, 1) := by decide +kernel
theorem dX10_goes_16 : decode cX10_goes 16 = .ok (.getfield 13, 3) := by decide +kernel
theorem dX10_goes_19 : decode cX10_goes 19 = .ok (.iconst 0, 1) := by decide +kernel
theorem dX10_goes_20 : decode cX10_goes 20 = .ok (.iaload, 1) := by decide +kernel
theorem dX10_goes_21 : decode cX10_goes 21 = .ok (.if_icmp .ge 54, 3) := by decide +kernel
theorem dX10_goes_24 : decode cX10_goes 24 = .ok (.iload_n 1, 1) := by decide +kernel
theorem dX10_goes_25 : decode cX10_goes 25 = .ok (.iload_n 3, 1) := by decide +kernel
theorem dX10_goes_26 : decode cX10_goes 26 = .ok (.ishr, 1) := by decide +kernel
theorem dX10_goes_27 : decode cX10_goes 27 = .ok (.iconst 1, 1) := by decide +kernel
theorem dX10_goes_28 : decode cX10_goes 28 = .ok (.iand, 1) := by decide +kernel
theorem dX10_goes_29 : decode cX10_goes 29 = .ok (.iconst 1, 1) := by decide +kernel
theorem dX10_goes_30 : decode cX10_goes 30 = .ok (.if_icmp .ne 39, 3) := by decide +kernel
theorem dX10_goes_33 : decode cX10_goes 33 = .ok (.aload_n 0, 1) := by decide +kernel
theorem dX10_goes_34 : decode cX10_goes 34 = .ok (.getfield 19, 3) := by decide +kernel
theorem dX10_goes_37 : decode cX10_goes 37 = .ok (.iload_n 3, 1) := by decide +kernel
theorem dX10_goes_38 : decode cX10_goes 38 = .ok (.aload_n 0, 1) := by decide +kernel
theorem dX10_goes_39 : decode cX10_goes 39 = .ok (.getfield 13, 3) := by decide +kernel
theorem dX10_goes_42 : decode cX10_goes 42 = .ok (.iconst 4, 1) := by decide +kernel
theorem dX10_goes_43 : decode cX10_goes 43 = .ok (.iload_n 3, 1) := by decide +kernel
theorem dX10_goes_44 : decode cX10_goes 44 = .ok (.iadd, 1) := by decide +kernel
theorem dX10_goes_45 : decode cX10_goes 45 = .ok (.iaload, 1) := by decide +kernel
theorem dX10_goes_46 : decode cX10_goes 46 = .ok (.iconst 2, 1) := by decide +kernel
theorem dX10_goes_47 : decode cX10_goes 47 = .ok (.if_icmp .ne 7, 3) := by decide +kernel
theorem dX10_goes_50 : decode cX10_goes 50 = .ok (.iconst 0, 1) := by decide +kernel
theorem dX10_goes_51 : decode cX10_goes 51 = .ok (.goto 4, 3) := by decide +kernel
theorem dX10_goes_54 : decode cX10_goes 54 = .ok (.iconst 3, 1) := by decide +kernel
theorem dX10_goes_55 : decode cX10_goes 55 = .ok (.iastore, 1) := by decide +kernel
theorem dX10_goes_56 : decode cX10_goes 56 = .ok (.aload_n 0, 1) := by decide +kernel
theorem dX10_goes_57 : decode cX10_goes 57 = .ok (.getfield 19, 3) := by decide +kernel
theorem dX10_goes_60 : decode cX10_goes 60 = .ok (.bipush 9, 2) := by decide +kernel
theorem dX10_goes_62 : decode cX10_goes 62 = .ok (.iload_n 3, 1) := by decide +kernel
theorem dX10_goes_63 : decode cX10_goes 63 = .ok (.iadd, 1) := by decide +kernel
theorem dX10_goes_64 : decode cX10_goes 64 = .ok (.dup2, 1) := by decide +kernel
theorem dX10_goes_65 : decode cX10_goes 65 = .ok (.iaload, 1) := by decide +kernel
theorem dX10_goes_66 : decode cX10_goes 66 = .ok (.iconst 1, 1) := by decide +kernel
theorem dX10_goes_67 : decode cX10_goes 67 = .ok (.iadd, 1) := by decide +kernel
theorem dX10_goes_68 : decode cX10_goes 68 = .ok (.iastore, 1) := by decide +kernel
theorem dX10_goes_69 : decode cX10_goes 69 = .ok (.iinc 3 1, 3) := by decide +kernel
theorem dX10_goes_72 : decode cX10_goes 72 = .ok (.goto (-58), 3) := by decide +kernel
theorem dX10_goes_75 : decode cX10_goes 75 = .ok (.aload_n 0, 1) := by decide +kernel
theorem dX10_goes_76 : decode cX10_goes 76 = .ok (.getfield 19, 3) := by decide +kernel
theorem dX10_goes_79 : decode cX10_goes 79 = .ok (.bipush 19, 2) := by decide +kernel
theorem dX10_goes_81 : decode cX10_goes 81 = .ok (.dup2, 1) := by decide +kernel
theorem dX10_goes_82 : decode cX10_goes 82 = .ok (.iaload, 1) := by decide +kernel
theorem dX10_goes_83 : decode cX10_goes 83 = .ok (.iconst 1, 1) := by decide +kernel
theorem dX10_goes_84 : decode cX10_goes 84 = .ok (.iadd, 1) := by decide +kernel
theorem dX10_goes_85 : decode cX10_goes 85 = .ok (.iastore, 1) := by decide +kernel
theorem dX10_goes_86 : decode cX10_goes 86 = .ok (.aload_n 0, 1) := by decide +kernel
theorem dX10_goes_87 : decode cX10_goes 87 = .ok (.getfield 19, 3) := by decide +kernel
theorem dX10_goes_90 : decode cX10_goes 90 = .ok (.bipush 20, 2) := by decide +kernel
theorem dX10_goes_92 : decode cX10_goes 92 = .ok (.dup2, 1) := by decide +kernel
theorem dX10_goes_93 : decode cX10_goes 93 = .ok (.iaload, 1) := by decide +kernel
theorem dX10_goes_94 : decode cX10_goes 94 = .ok (.iload_n 2, 1) := by decide +kernel
theorem dX10_goes_95 : decode cX10_goes 95 = .ok (.iadd, 1) := by decide +kernel
theorem dX10_goes_96 : decode cX10_goes 96 = .ok (.iastore, 1) := by decide +kernel
theorem dX10_goes_97 : decode cX10_goes 97 = .ok (.iload_n 2, 1) := by decide +kernel
theorem dX10_goes_98 : decode cX10_goes 98 = .ok (.ireturn, 1) := by decide +kernel
theorem dX10_sail_0 : decode cX10_sail 0 = .ok (.aload_n 0, 1) := by decide +kernel
theorem dX10_sail_1 : decode cX10_sail 1 = .ok (.aload_n 0, 1) := by decide +kernel
theorem dX10_sail_2 : decode cX10_sail 2 = .ok (.iconst 2, 1) := by decide +kernel
theorem dX10_sail_3 : decode cX10_sail 3 = .ok (.invokevirtual 92, 3) := by decide +kernel
theorem dX10_sail_6 : decode cX10_sail 6 = .ok (.invokevirtual 104, 3) := by decide +kernel
theorem dX10_sail_9 : decode cX10_sail 9 = .ok (.ifCond .ne 6, 3) := by decide +kernel
theorem dX10_sail_12 : decode cX10_sail 12 = .ok (.bipush (-2), 2) := by decide +kernel
theorem dX10_sail_14 : decode cX10_sail 14 = .ok (.ireturn, 1) := by decide +kernel
theorem dX10_sail_15 : decode cX10_sail 15 = .ok (.aload_n 0, 1) := by decide +kernel
theorem dX10_sail_16 : decode cX10_sail 16 = .ok (.invokevirtual 110, 3) := by decide +kernel
theorem dX10_sail_19 : decode cX10_sail 19 = .ok (.aload_n 0, 1) := by decide +kernel
theorem dX10_sail_20 : decode cX10_sail 20 = .ok (.invokevirtual 113, 3) := by decide +kernel
theorem dX10_sail_23 : decode cX10_sail 23 = .ok (.ireturn, 1) := by decide +kernel
theorem dX10_undo_0 : decode cX10_undo 0 = .ok (.aload_n 0, 1) := by decide +kernel
theorem dX10_undo_1 : decode cX10_undo 1 = .ok (.getfield 80, 3) := by decide +kernel
theorem dX10_undo_4 : decode cX10_undo 4 = .ok (.ifCond .ne 6, 3) := by decide +kernel
theorem dX10_undo_7 : decode cX10_undo 7 = .ok (.bipush (-2), 2) := by decide +kernel
theorem dX10_undo_9 : decode cX10_undo 9 = .ok (.ireturn, 1) := by decide +kernel
theorem dX10_undo_10 : decode cX10_undo 10 = .ok (.aload_n 0, 1) := by decide +kernel
theorem dX10_undo_11 : decode cX10_undo 11 = .ok (.dup, 1) := by decide +kernel
theorem dX10_undo_12 : decode cX10_undo 12 = .ok (.getfield 80, 3) := by decide +kernel
theorem dX10_undo_15 : decode cX10_undo 15 = .ok (.iconst 1, 1) := by decide +kernel
theorem dX10_undo_16 : decode cX10_undo 16 = .ok (.isub, 1) := by decide +kernel
theorem dX10_undo_17 : decode cX10_undo 17 = .ok (.putfield 80, 3) := by decide +kernel
theorem dX10_undo_20 : decode cX10_undo 20 = .ok (.iconst 0, 1) := by decide +kernel
theorem dX10_undo_21 : decode cX10_undo 21 = .ok (.istore_n 1, 1) := by decide +kernel
theorem dX10_undo_22 : decode cX10_undo 22 = .ok (.iload_n 1, 1) := by decide +kernel
theorem dX10_undo_23 : decode cX10_undo 23 = .ok (.bipush 21, 2) := by decide +kernel
theorem dX10_undo_25 : decode cX10_undo 25 = .ok (.if_icmp .ge 29, 3) := by decide +kernel
theorem dX10_undo_28 : decode cX10_undo 28 = .ok (.aload_n 0, 1) := by decide +kernel
theorem dX10_undo_29 : decode cX10_undo 29 = .ok (.getfield 19, 3) := by decide +kernel
theorem dX10_undo_32 : decode cX10_undo 32 = .ok (.iload_n 1, 1) := by decide +kernel
theorem dX10_undo_33 : decode cX10_undo 33 = .ok (.aload_n 0, 1) := by decide +kernel
theorem dX10_undo_34 : decode cX10_undo 34 = .ok (.getfield 22, 3) := by decide +kernel
theorem dX10_undo_37 : decode cX10_undo 37 = .ok (.bipush 21, 2) := by decide +kernel
theorem dX10_undo_39 : decode cX10_undo 39 = .ok (.aload_n 0, 1) := by decide +kernel
theorem dX10_undo_40 : decode cX10_undo 40 = .ok (.getfield 80, 3) := by decide +kernel
theorem dX10_undo_43 : decode cX10_undo 43 = .ok (.imul, 1) := by decide +kernel
theorem dX10_undo_44 : decode cX10_undo 44 = .ok (.iload_n 1, 1) := by decide +kernel
theorem dX10_undo_45 : decode cX10_undo 45 = .ok (.iadd, 1) := by decide +kernel
theorem dX10_undo_46 : decode cX10_undo 46 = .ok (.iaload, 1) := by decide +kernel
theorem dX10_undo_47 : decode cX10_undo 47 = .ok (.iastore, 1) := by decide +kernel
theorem dX10_undo_48 : decode cX10_undo 48 = .ok (.iinc 1 1, 3) := by decide +kernel
theorem dX10_undo_51 : decode cX10_undo 51 = .ok (.goto (-29), 3) := by decide +kernel
theorem dX10_undo_54 : decode cX10_undo 54 = .ok (.aload_n 0, 1) := by decide +kernel
theorem dX10_undo_55 : decode cX10_undo 55 = .ok (.getfield 80, 3) := by decide +kernel
theorem dX10_undo_58 : decode cX10_undo 58 = .ok (.ireturn, 1) := by decide +kernel
theorem dX10_best_0 : decode cX10_best 0 = .ok (.iload_n 1, 1) := by decide +kernel
theorem dX10_best_1 : decode cX10_best 1 = .ok (.iconst 0, 1) := by decide +kernel
theorem dX10_best_2 : decode cX10_best 2 = .ok (.iconst 1, 1) := by decide +kernel
theorem dX10_best_3 : decode cX10_best 3 = .ok (.invokestatic 50, 3) := by decide +kernel
theorem dX10_best_6 : decode cX10_best 6 = .ok (.ifCond .ne 5, 3) := by decide +kernel
theorem dX10_best_9 : decode cX10_best 9 = .ok (.iconst (-1), 1) := by decide +kernel
theorem dX10_best_10 : decode cX10_best 10 = .ok (.ireturn, 1) := by decide +kernel
theorem dX10_best_11 : decode cX10_best 11 = .ok (.bipush (-4), 2) := by decide +kernel
theorem dX10_best_13 : decode cX10_best 13 = .ok (.istore_n 2, 1) := by decide +kernel
theorem dX10_best_14 : decode cX10_best 14 = .ok (.aload_n 0, 1) := by decide +kernel
theorem dX10_best_15 : decode cX10_best 15 = .ok (.invokevirtual 116, 3) := by decide +kernel
theorem dX10_best_18 : decode cX10_best 18 = .ok (.istore_n 3, 1) := by decide +kernel
theorem dX10_best_19 : decode cX10_best 19 = .ok (.iconst 1, 1) := by decide +kernel
theorem dX10_best_20 : decode cX10_best 20 = .ok (.istore 4, 2) := by decide +kernel
theorem dX10_best_22 : decode cX10_best 22 = .ok (.iload 4, 2) := by decide +kernel
theorem dX10_best_24 : decode cX10_best 24 = .ok (.iload_n 3, 1) := by decide +kernel
theorem dX10_best_25 : decode cX10_best 25 = .ok (.if_icmp .gt 80, 3) := by decide +kernel
theorem dX10_best_28 : decode cX10_best 28 = .ok (.iload 4, 2) := by decide +kernel
theorem dX10_best_30 : decode cX10_best 30 = .ok (.iload_n 3, 1) := by decide +kernel
theorem dX10_best_31 : decode cX10_best 31 = .ok (.iconst (-1), 1) := by decide +kernel
theorem dX10_best_32 : decode cX10_best 32 = .ok (.ixor, 1) := by decide +kernel
theorem dX10_best_33 : decode cX10_best 33 = .ok (.iand, 1) := by decide +kernel
theorem dX10_best_34 : decode cX10_best 34 = .ok (.ifCond .ne 65, 3) := by decide +kernel
theorem dX10_best_37 : decode cX10_best 37 = .ok (.aload_n 0, 1) := by decide +kernel
theorem dX10_best_38 : decode cX10_best 38 = .ok (.iload 4, 2) := by decide +kernel
theorem dX10_best_40 : decode cX10_best 40 = .ok (.invokevirtual 104, 3) := by decide +kernel
theorem dX10_best_43 : decode cX10_best 43 = .ok (.ifCond .eq 56, 3) := by decide +kernel
theorem dX10_best_46 : decode cX10_best 46 = .ok (.iload_n 2, 1) := by decide +kernel
theorem dX10_best_47 : decode cX10_best 47 = .ok (.bipush (-4), 2) := by decide +kernel
theorem dX10_best_49 : decode cX10_best 49 = .ok (.if_icmp .ne 7, 3) := by decide +kernel
theorem dX10_best_52 : decode cX10_best 52 = .ok (.iconst (-1), 1) := by decide +kernel
theorem dX10_best_53 : decode cX10_best 53 = .ok (.goto 15, 3) := by decide +kernel
theorem dX10_best_56 : decode cX10_best 56 = .ok (.aload_n 0, 1) := by decide +kernel
theorem dX10_best_57 : decode cX10_best 57 = .ok (.iload 4, 2) := by decide +kernel
theorem dX10_best_59 : decode cX10_best 59 = .ok (.invokevirtual 107, 3) := by decide +kernel
theorem dX10_best_62 : decode cX10_best 62 = .ok (.aload_n 0, 1) := by decide +kernel
theorem dX10_best_63 : decode cX10_best 63 = .ok (.iload_n 2, 1) := by decide +kernel
theorem dX10_best_64 : decode cX10_best 64 = .ok (.invokevirtual 107, 3) := by decide +kernel
theorem dX10_best_67 : decode cX10_best 67 = .ok (.isub, 1) := by decide +kernel
theorem dX10_best_68 : decode cX10_best 68 = .ok (.istore 5, 2) := by decide +kernel
theorem dX10_best_70 : decode cX10_best 70 = .ok (.iload 5, 2) := by decide +kernel
theorem dX10_best_72 : decode cX10_best 72 = .ok (.ifCond .lt 20, 3) := by decide +kernel
theorem dX10_best_75 : decode cX10_best 75 = .ok (.iload 5, 2) := by decide +kernel
theorem dX10_best_77 : decode cX10_best 77 = .ok (.ifCond .ne 20, 3) := by decide +kernel
theorem dX10_best_80 : decode cX10_best 80 = .ok (.iload 4, 2) := by decide +kernel
theorem dX10_best_82 : decode cX10_best 82 = .ok (.invokestatic 119, 3) := by decide +kernel
theorem dX10_best_85 : decode cX10_best 85 = .ok (.iload_n 2, 1) := by decide +kernel
theorem dX10_best_86 : decode cX10_best 86 = .ok (.invokestatic 119, 3) := by decide +kernel
theorem dX10_best_89 : decode cX10_best 89 = .ok (.if_icmp .ge 8, 3) := by decide +kernel
theorem dX10_best_92 : decode cX10_best 92 = .ok (.iload 4, 2) := by decide +kernel
theorem dX10_best_94 : decode cX10_best 94 = .ok (.goto 4, 3) := by decide +kernel
theorem dX10_best_97 : decode cX10_best 97 = .ok (.iload_n 2, 1) := by decide +kernel
theorem dX10_best_98 : decode cX10_best 98 = .ok (.istore_n 2, 1) := by decide +kernel
theorem dX10_best_99 : decode cX10_best 99 = .ok (.iinc 4 1, 3) := by decide +kernel
theorem dX10_best_102 : decode cX10_best 102 = .ok (.goto (-80), 3) := by decide +kernel
theorem dX10_best_105 : decode cX10_best 105 = .ok (.iload_n 1, 1) := by decide +kernel
theorem dX10_best_106 : decode cX10_best 106 = .ok (.ifCond .eq 9, 3) := by decide +kernel
theorem dX10_best_109 : decode cX10_best 109 = .ok (.iload_n 2, 1) := by decide +kernel
theorem dX10_best_110 : decode cX10_best 110 = .ok (.bipush (-4), 2) := by decide +kernel
theorem dX10_best_112 : decode cX10_best 112 = .ok (.if_icmp .ne 7, 3) := by decide +kernel
theorem dX10_best_115 : decode cX10_best 115 = .ok (.iload_n 2, 1) := by decide +kernel
theorem dX10_best_116 : decode cX10_best 116 = .ok (.goto 8, 3) := by decide +kernel
theorem dX10_best_119 : decode cX10_best 119 = .ok (.aload_n 0, 1) := by decide +kernel
theorem dX10_best_120 : decode cX10_best 120 = .ok (.iload_n 2, 1) := by decide +kernel
theorem dX10_best_121 : decode cX10_best 121 = .ok (.invokevirtual 107, 3) := by decide +kernel
theorem dX10_best_124 : decode cX10_best 124 = .ok (.ireturn, 1) := by decide +kernel
theorem dX10_isThere_0 : decode cX10_isThere 0 = .ok (.aload_n 0, 1) := by decide +kernel
theorem dX10_isThere_1 : decode cX10_isThere 1 = .ok (.invokevirtual 116, 3) := by decide +kernel
theorem dX10_isThere_4 : decode cX10_isThere 4 = .ok (.istore_n 1, 1) := by decide +kernel
theorem dX10_isThere_5 : decode cX10_isThere 5 = .ok (.iconst 0, 1) := by decide +kernel
theorem dX10_isThere_6 : decode cX10_isThere 6 = .ok (.istore_n 2, 1) := by decide +kernel
theorem dX10_isThere_7 : decode cX10_isThere 7 = .ok (.iconst 1, 1) := by decide +kernel
theorem dX10_isThere_8 : decode cX10_isThere 8 = .ok (.istore_n 3, 1) := by decide +kernel
theorem dX10_isThere_9 : decode cX10_isThere 9 = .ok (.iload_n 3, 1) := by decide +kernel
theorem dX10_isThere_10 : decode cX10_isThere 10 = .ok (.iload_n 1, 1) := by decide +kernel
theorem dX10_isThere_11 : decode cX10_isThere 11 = .ok (.if_icmp .gt 35, 3) := by decide +kernel
theorem dX10_isThere_14 : decode cX10_isThere 14 = .ok (.iload_n 2, 1) := by decide +kernel
theorem dX10_isThere_15 : decode cX10_isThere 15 = .ok (.ifCond .ne 31, 3) := by decide +kernel
theorem dX10_isThere_18 : decode cX10_isThere 18 = .ok (.iload_n 3, 1) := by decide +kernel
theorem dX10_isThere_19 : decode cX10_isThere 19 = .ok (.iload_n 1, 1) := by decide +kernel
theorem dX10_isThere_20 : decode cX10_isThere 20 = .ok (.iconst (-1), 1) := by decide +kernel
theorem dX10_isThere_21 : decode cX10_isThere 21 = .ok (.ixor, 1) := by decide +kernel
theorem dX10_isThere_22 : decode cX10_isThere 22 = .ok (.iand, 1) := by decide +kernel
theorem dX10_isThere_23 : decode cX10_isThere 23 = .ok (.ifCond .ne 15, 3) := by decide +kernel
theorem dX10_isThere_26 : decode cX10_isThere 26 = .ok (.aload_n 0, 1) := by decide +kernel
theorem dX10_isThere_27 : decode cX10_isThere 27 = .ok (.iload_n 3, 1) := by decide +kernel
theorem dX10_isThere_28 : decode cX10_isThere 28 = .ok (.invokevirtual 104, 3) := by decide +kernel
theorem dX10_isThere_31 : decode cX10_isThere 31 = .ok (.ifCond .eq 7, 3) := by decide +kernel
theorem dX10_isThere_34 : decode cX10_isThere 34 = .ok (.iconst 1, 1) := by decide +kernel
theorem dX10_isThere_35 : decode cX10_isThere 35 = .ok (.goto 4, 3) := by decide +kernel
theorem dX10_isThere_38 : decode cX10_isThere 38 = .ok (.iconst 0, 1) := by decide +kernel
theorem dX10_isThere_39 : decode cX10_isThere 39 = .ok (.istore_n 2, 1) := by decide +kernel
theorem dX10_isThere_40 : decode cX10_isThere 40 = .ok (.iinc 3 1, 3) := by decide +kernel
theorem dX10_isThere_43 : decode cX10_isThere 43 = .ok (.goto (-34), 3) := by decide +kernel
theorem dX10_isThere_46 : decode cX10_isThere 46 = .ok (.iload_n 2, 1) := by decide +kernel
theorem dX10_isThere_47 : decode cX10_isThere 47 = .ok (.ireturn, 1) := by decide +kernel
theorem dX10_waits_0 : decode cX10_waits 0 = .ok (.aload_n 0, 1) := by decide +kernel
theorem dX10_waits_1 : decode cX10_waits 1 = .ok (.getfield 19, 3) := by decide +kernel
theorem dX10_waits_4 : decode cX10_waits 4 = .ok (.bipush 18, 2) := by decide +kernel
theorem dX10_waits_6 : decode cX10_waits 6 = .ok (.iaload, 1) := by decide +kernel
theorem dX10_waits_7 : decode cX10_waits 7 = .ok (.istore_n 1, 1) := by decide +kernel
theorem dX10_waits_8 : decode cX10_waits 8 = .ok (.bipush (-4), 2) := by decide +kernel
theorem dX10_waits_10 : decode cX10_waits 10 = .ok (.istore_n 2, 1) := by decide +kernel
theorem dX10_waits_11 : decode cX10_waits 11 = .ok (.iconst 0, 1) := by decide +kernel
theorem dX10_waits_12 : decode cX10_waits 12 = .ok (.istore_n 3, 1) := by decide +kernel
theorem dX10_waits_13 : decode cX10_waits 13 = .ok (.iload_n 3, 1) := by decide +kernel
theorem dX10_waits_14 : decode cX10_waits 14 = .ok (.bipush 100, 2) := by decide +kernel
theorem dX10_waits_16 : decode cX10_waits 16 = .ok (.if_icmp .ge 39, 3) := by decide +kernel
theorem dX10_waits_19 : decode cX10_waits 19 = .ok (.iload_n 2, 1) := by decide +kernel
theorem dX10_waits_20 : decode cX10_waits 20 = .ok (.bipush (-4), 2) := by decide +kernel
theorem dX10_waits_22 : decode cX10_waits 22 = .ok (.if_icmp .ne 33, 3) := by decide +kernel
theorem dX10_waits_25 : decode cX10_waits 25 = .ok (.aload_n 0, 1) := by decide +kernel
theorem dX10_waits_26 : decode cX10_waits 26 = .ok (.getfield 19, 3) := by decide +kernel
theorem dX10_waits_29 : decode cX10_waits 29 = .ok (.bipush 18, 2) := by decide +kernel
theorem dX10_waits_31 : decode cX10_waits 31 = .ok (.iload_n 1, 1) := by decide +kernel
theorem dX10_waits_32 : decode cX10_waits 32 = .ok (.iload_n 3, 1) := by decide +kernel
theorem dX10_waits_33 : decode cX10_waits 33 = .ok (.iadd, 1) := by decide +kernel
theorem dX10_waits_34 : decode cX10_waits 34 = .ok (.iastore, 1) := by decide +kernel
theorem dX10_waits_35 : decode cX10_waits 35 = .ok (.aload_n 0, 1) := by decide +kernel
theorem dX10_waits_36 : decode cX10_waits 36 = .ok (.invokevirtual 122, 3) := by decide +kernel
theorem dX10_waits_39 : decode cX10_waits 39 = .ok (.ifCond .eq 7, 3) := by decide +kernel
theorem dX10_waits_42 : decode cX10_waits 42 = .ok (.iload_n 3, 1) := by decide +kernel
theorem dX10_waits_43 : decode cX10_waits 43 = .ok (.goto 5, 3) := by decide +kernel
theorem dX10_waits_46 : decode cX10_waits 46 = .ok (.bipush (-4), 2) := by decide +kernel
theorem dX10_waits_48 : decode cX10_waits 48 = .ok (.istore_n 2, 1) := by decide +kernel
theorem dX10_waits_49 : decode cX10_waits 49 = .ok (.iinc 3 1, 3) := by decide +kernel
theorem dX10_waits_52 : decode cX10_waits 52 = .ok (.goto (-39), 3) := by decide +kernel
theorem dX10_waits_55 : decode cX10_waits 55 = .ok (.aload_n 0, 1) := by decide +kernel
theorem dX10_waits_56 : decode cX10_waits 56 = .ok (.getfield 19, 3) := by decide +kernel
theorem dX10_waits_59 : decode cX10_waits 59 = .ok (.bipush 18, 2) := by decide +kernel
theorem dX10_waits_61 : decode cX10_waits 61 = .ok (.iload_n 1, 1) := by decide +kernel
theorem dX10_waits_62 : decode cX10_waits 62 = .ok (.iastore, 1) := by decide +kernel
theorem dX10_waits_63 : decode cX10_waits 63 = .ok (.iload_n 2, 1) := by decide +kernel
theorem dX10_waits_64 : decode cX10_waits 64 = .ok (.ireturn, 1) := by decide +kernel
theorem dX10_splits_0 : decode cX10_splits 0 = .ok (.aload_n 0, 1) := by decide +kernel
theorem dX10_splits_1 : decode cX10_splits 1 = .ok (.invokevirtual 98, 3) := by decide +kernel
theorem dX10_splits_4 : decode cX10_splits 4 = .ok (.istore_n 1, 1) := by decide +kernel
theorem dX10_splits_5 : decode cX10_splits 5 = .ok (.iconst 0, 1) := by decide +kernel
theorem dX10_splits_6 : decode cX10_splits 6 = .ok (.istore_n 2, 1) := by decide +kernel
theorem dX10_splits_7 : decode cX10_splits 7 = .ok (.iload_n 2, 1) := by decide +kernel
theorem dX10_splits_8 : decode cX10_splits 8 = .ok (.iconst 1, 1) := by decide +kernel
theorem dX10_splits_9 : decode cX10_splits 9 = .ok (.aload_n 0, 1) := by decide +kernel
theorem dX10_splits_10 : decode cX10_splits 10 = .ok (.getfield 13, 3) := by decide +kernel
theorem dX10_splits_13 : decode cX10_splits 13 = .ok (.iconst 0, 1) := by decide +kernel
theorem dX10_splits_14 : decode cX10_splits 14 = .ok (.iaload, 1) := by decide +kernel
theorem dX10_splits_15 : decode cX10_splits 15 = .ok (.ishl, 1) := by decide +kernel
theorem dX10_splits_16 : decode cX10_splits 16 = .ok (.if_icmp .ge 146, 3) := by decide +kernel
theorem dX10_splits_19 : decode cX10_splits 19 = .ok (.aload_n 0, 1) := by decide +kernel
theorem dX10_splits_20 : decode cX10_splits 20 = .ok (.getfield 31, 3) := by decide +kernel
theorem dX10_splits_23 : decode cX10_splits 23 = .ok (.iload_n 2, 1) := by decide +kernel
theorem dX10_splits_24 : decode cX10_splits 24 = .ok (.iload_n 2, 1) := by decide +kernel
theorem dX10_splits_25 : decode cX10_splits 25 = .ok (.iload_n 1, 1) := by decide +kernel
theorem dX10_splits_26 : decode cX10_splits 26 = .ok (.iconst (-1), 1) := by decide +kernel
theorem dX10_splits_27 : decode cX10_splits 27 = .ok (.ixor, 1) := by decide +kernel
theorem dX10_splits_28 : decode cX10_splits 28 = .ok (.iand, 1) := by decide +kernel
theorem dX10_splits_29 : decode cX10_splits 29 = .ok (.ifCond .ne 19, 3) := by decide +kernel
theorem dX10_splits_32 : decode cX10_splits 32 = .ok (.aload_n 0, 1) := by decide +kernel
theorem dX10_splits_33 : decode cX10_splits 33 = .ok (.iload_n 2, 1) := by decide +kernel
theorem dX10_splits_34 : decode cX10_splits 34 = .ok (.invokevirtual 104, 3) := by decide +kernel
theorem dX10_splits_37 : decode cX10_splits 37 = .ok (.ifCond .eq 11, 3) := by decide +kernel
theorem dX10_splits_40 : decode cX10_splits 40 = .ok (.aload_n 0, 1) := by decide +kernel
theorem dX10_splits_41 : decode cX10_splits 41 = .ok (.iload_n 2, 1) := by decide +kernel
theorem dX10_splits_42 : decode cX10_splits 42 = .ok (.invokevirtual 107, 3) := by decide +kernel
theorem dX10_splits_45 : decode cX10_splits 45 = .ok (.goto 4, 3) := by decide +kernel
theorem dX10_splits_48 : decode cX10_splits 48 = .ok (.iconst (-1), 1) := by decide +kernel
theorem dX10_splits_49 : decode cX10_splits 49 = .ok (.iastore, 1) := by decide +kernel
theorem dX10_splits_50 : decode cX10_splits 50 = .ok (.aload_n 0, 1) := by decide +kernel
theorem dX10_splits_51 : decode cX10_splits 51 = .ok (.getfield 34, 3) := by decide +kernel
theorem dX10_splits_54 : decode cX10_splits 54 = .ok (.iload_n 2, 1) := by decide +kernel
theorem dX10_splits_55 : decode cX10_splits 55 = .ok (.iload_n 2, 1) := by decide +kernel
theorem dX10_splits_56 : decode cX10_splits 56 = .ok (.ifCond .ne 7, 3) := by decide +kernel
theorem dX10_splits_59 : decode cX10_splits 59 = .ok (.iconst 0, 1) := by decide +kernel
theorem dX10_splits_60 : decode cX10_splits 60 = .ok (.goto 5, 3) := by decide +kernel
theorem dX10_splits_63 : decode cX10_splits 63 = .ok (.ldc 126, 2) := by decide +kernel
theorem dX10_splits_65 : decode cX10_splits 65 = .ok (.iastore, 1) := by decide +kernel
theorem dX10_splits_66 : decode cX10_splits 66 = .ok (.iload_n 2, 1) := by decide +kernel
theorem dX10_splits_67 : decode cX10_splits 67 = .ok (.istore_n 3, 1) := by decide +kernel
theorem dX10_splits_68 : decode cX10_splits 68 = .ok (.iload_n 3, 1) := by decide +kernel
theorem dX10_splits_69 : decode cX10_splits 69 = .ok (.ifCond .le 87, 3) := by decide +kernel
theorem dX10_splits_72 : decode cX10_splits 72 = .ok (.aload_n 0, 1) := by decide +kernel
theorem dX10_splits_73 : decode cX10_splits 73 = .ok (.getfield 34, 3) := by decide +kernel
theorem dX10_splits_76 : decode cX10_splits 76 = .ok (.iload_n 2, 1) := by decide +kernel
theorem dX10_splits_77 : decode cX10_splits 77 = .ok (.iload_n 3, 1) := by decide +kernel
theorem dX10_splits_78 : decode cX10_splits 78 = .ok (.iconst (-1), 1) := by decide +kernel
theorem dX10_splits_79 : decode cX10_splits 79 = .ok (.ixor, 1) := by decide +kernel
theorem dX10_splits_80 : decode cX10_splits 80 = .ok (.iand, 1) := by decide +kernel
theorem dX10_splits_81 : decode cX10_splits 81 = .ok (.iaload, 1) := by decide +kernel
theorem dX10_splits_82 : decode cX10_splits 82 = .ok (.istore 4, 2) := by decide +kernel
theorem dX10_splits_84 : decode cX10_splits 84 = .ok (.aload_n 0, 1) := by decide +kernel
theorem dX10_splits_85 : decode cX10_splits 85 = .ok (.getfield 31, 3) := by decide +kernel
theorem dX10_splits_88 : decode cX10_splits 88 = .ok (.iload_n 3, 1) := by decide +kernel
theorem dX10_splits_89 : decode cX10_splits 89 = .ok (.iaload, 1) := by decide +kernel
theorem dX10_splits_90 : decode cX10_splits 90 = .ok (.ifCond .lt 25, 3) := by decide +kernel
theorem dX10_splits_93 : decode cX10_splits 93 = .ok (.iload 4, 2) := by decide +kernel
theorem dX10_splits_95 : decode cX10_splits 95 = .ok (.ldc 126, 2) := by decide +kernel
theorem dX10_splits_97 : decode cX10_splits 97 = .ok (.if_icmp .eq 18, 3) := by decide +kernel
theorem dX10_splits_100 : decode cX10_splits 100 = .ok (.iload 4, 2) := by decide +kernel
theorem dX10_splits_102 : decode cX10_splits 102 = .ok (.ldc 127, 2) := by decide +kernel
theorem dX10_splits_104 : decode cX10_splits 104 = .ok (.iadd, 1) := by decide +kernel
theorem dX10_splits_105 : decode cX10_splits 105 = .ok (.aload_n 0, 1) := by decide +kernel
theorem dX10_splits_106 : decode cX10_splits 106 = .ok (.getfield 31, 3) := by decide +kernel
theorem dX10_splits_109 : decode cX10_splits 109 = .ok (.iload_n 3, 1) := by decide +kernel
theorem dX10_splits_110 : decode cX10_splits 110 = .ok (.iaload, 1) := by decide +kernel
theorem dX10_splits_111 : decode cX10_splits 111 = .ok (.isub, 1) := by decide +kernel
theorem dX10_splits_112 : decode cX10_splits 112 = .ok (.goto 5, 3) := by decide +kernel
theorem dX10_splits_115 : decode cX10_splits 115 = .ok (.ldc 126, 2) := by decide +kernel
theorem dX10_splits_117 : decode cX10_splits 117 = .ok (.istore 5, 2) := by decide +kernel
theorem dX10_splits_119 : decode cX10_splits 119 = .ok (.aload_n 0, 1) := by decide +kernel
theorem dX10_splits_120 : decode cX10_splits 120 = .ok (.getfield 34, 3) := by decide +kernel
theorem dX10_splits_123 : decode cX10_splits 123 = .ok (.iload_n 2, 1) := by decide +kernel
theorem dX10_splits_124 : decode cX10_splits 124 = .ok (.iload 5, 2) := by decide +kernel
theorem dX10_splits_126 : decode cX10_splits 126 = .ok (.aload_n 0, 1) := by decide +kernel
theorem dX10_splits_127 : decode cX10_splits 127 = .ok (.getfield 34, 3) := by decide +kernel
theorem dX10_splits_130 : decode cX10_splits 130 = .ok (.iload_n 2, 1) := by decide +kernel
theorem dX10_splits_131 : decode cX10_splits 131 = .ok (.iaload, 1) := by decide +kernel
theorem dX10_splits_132 : decode cX10_splits 132 = .ok (.if_icmp .le 8, 3) := by decide +kernel
theorem dX10_splits_135 : decode cX10_splits 135 = .ok (.iload 5, 2) := by decide +kernel
theorem dX10_splits_137 : decode cX10_splits 137 = .ok (.goto 9, 3) := by decide +kernel
theorem dX10_splits_140 : decode cX10_splits 140 = .ok (.aload_n 0, 1) := by decide +kernel
theorem dX10_splits_141 : decode cX10_splits 141 = .ok (.getfield 34, 3) := by decide +kernel
theorem dX10_splits_144 : decode cX10_splits 144 = .ok (.iload_n 2, 1) := by decide +kernel
theorem dX10_splits_145 : decode cX10_splits 145 = .ok (.iaload, 1) := by decide +kernel
theorem dX10_splits_146 : decode cX10_splits 146 = .ok (.iastore, 1) := by decide +kernel
theorem dX10_splits_147 : decode cX10_splits 147 = .ok (.iload_n 3, 1) := by decide +kernel
theorem dX10_splits_148 : decode cX10_splits 148 = .ok (.iconst 1, 1) := by decide +kernel
theorem dX10_splits_149 : decode cX10_splits 149 = .ok (.isub, 1) := by decide +kernel
theorem dX10_splits_150 : decode cX10_splits 150 = .ok (.iload_n 2, 1) := by decide +kernel
theorem dX10_splits_151 : decode cX10_splits 151 = .ok (.iand, 1) := by decide +kernel
theorem dX10_splits_152 : decode cX10_splits 152 = .ok (.istore_n 3, 1) := by decide +kernel
theorem dX10_splits_153 : decode cX10_splits 153 = .ok (.goto (-85), 3) := by decide +kernel
theorem dX10_splits_156 : decode cX10_splits 156 = .ok (.iinc 2 1, 3) := by decide +kernel
theorem dX10_splits_159 : decode cX10_splits 159 = .ok (.goto (-152), 3) := by decide +kernel
theorem dX10_splits_162 : decode cX10_splits 162 = .ok (.return_, 1) := by decide +kernel
theorem dX10_sailings_0 : decode cX10_sailings 0 = .ok (.iload_n 1, 1) := by decide +kernel
theorem dX10_sailings_1 : decode cX10_sailings 1 = .ok (.iconst 0, 1) := by decide +kernel
theorem dX10_sailings_2 : decode cX10_sailings 2 = .ok (.iconst 2, 1) := by decide +kernel
theorem dX10_sailings_3 : decode cX10_sailings 3 = .ok (.invokestatic 50, 3) := by decide +kernel
theorem dX10_sailings_6 : decode cX10_sailings 6 = .ok (.ifCond .ne 5, 3) := by decide +kernel
theorem dX10_sailings_9 : decode cX10_sailings 9 = .ok (.iconst (-1), 1) := by decide +kernel
theorem dX10_sailings_10 : decode cX10_sailings 10 = .ok (.ireturn, 1) := by decide +kernel
theorem dX10_sailings_11 : decode cX10_sailings 11 = .ok (.aload_n 0, 1) := by decide +kernel
theorem dX10_sailings_12 : decode cX10_sailings 12 = .ok (.invokevirtual 128, 3) := by decide +kernel
theorem dX10_sailings_15 : decode cX10_sailings 15 = .ok (.iconst 0, 1) := by decide +kernel
theorem dX10_sailings_16 : decode cX10_sailings 16 = .ok (.istore_n 2, 1) := by decide +kernel
theorem dX10_sailings_17 : decode cX10_sailings 17 = .ok (.aload_n 0, 1) := by decide +kernel
theorem dX10_sailings_18 : decode cX10_sailings 18 = .ok (.invokevirtual 98, 3) := by decide +kernel
theorem dX10_sailings_21 : decode cX10_sailings 21 = .ok (.istore_n 3, 1) := by decide +kernel
theorem dX10_sailings_22 : decode cX10_sailings 22 = .ok (.iconst 1, 1) := by decide +kernel
theorem dX10_sailings_23 : decode cX10_sailings 23 = .ok (.istore 4, 2) := by decide +kernel
theorem dX10_sailings_25 : decode cX10_sailings 25 = .ok (.iload 4, 2) := by decide +kernel
theorem dX10_sailings_27 : decode cX10_sailings 27 = .ok (.iconst 1, 1) := by decide +kernel
theorem dX10_sailings_28 : decode cX10_sailings 28 = .ok (.aload_n 0, 1) := by decide +kernel
theorem dX10_sailings_29 : decode cX10_sailings 29 = .ok (.getfield 13, 3) := by decide +kernel
theorem dX10_sailings_32 : decode cX10_sailings 32 = .ok (.iconst 0, 1) := by decide +kernel
theorem dX10_sailings_33 : decode cX10_sailings 33 = .ok (.iaload, 1) := by decide +kernel
theorem dX10_sailings_34 : decode cX10_sailings 34 = .ok (.ishl, 1) := by decide +kernel
theorem dX10_sailings_35 : decode cX10_sailings 35 = .ok (.if_icmp .ge 89, 3) := by decide +kernel
theorem dX10_sailings_38 : decode cX10_sailings 38 = .ok (.aload_n 0, 1) := by decide +kernel
theorem dX10_sailings_39 : decode cX10_sailings 39 = .ok (.getfield 34, 3) := by decide +kernel
theorem dX10_sailings_42 : decode cX10_sailings 42 = .ok (.iload 4, 2) := by decide +kernel
theorem dX10_sailings_44 : decode cX10_sailings 44 = .ok (.iaload, 1) := by decide +kernel
theorem dX10_sailings_45 : decode cX10_sailings 45 = .ok (.aload_n 0, 1) := by decide +kernel
theorem dX10_sailings_46 : decode cX10_sailings 46 = .ok (.getfield 34, 3) := by decide +kernel
theorem dX10_sailings_49 : decode cX10_sailings 49 = .ok (.iload_n 2, 1) := by decide +kernel
theorem dX10_sailings_50 : decode cX10_sailings 50 = .ok (.iaload, 1) := by decide +kernel
theorem dX10_sailings_51 : decode cX10_sailings 51 = .ok (.if_icmp .le 7, 3) := by decide +kernel
theorem dX10_sailings_54 : decode cX10_sailings 54 = .ok (.iconst 1, 1) := by decide +kernel
theorem dX10_sailings_55 : decode cX10_sailings 55 = .ok (.goto 4, 3) := by decide +kernel
theorem dX10_sailings_58 : decode cX10_sailings 58 = .ok (.iconst 0, 1) := by decide +kernel
theorem dX10_sailings_59 : decode cX10_sailings 59 = .ok (.istore 5, 2) := by decide +kernel
theorem dX10_sailings_61 : decode cX10_sailings 61 = .ok (.aload_n 0, 1) := by decide +kernel
theorem dX10_sailings_62 : decode cX10_sailings 62 = .ok (.invokevirtual 98, 3) := by decide +kernel
theorem dX10_sailings_65 : decode cX10_sailings 65 = .ok (.iload 4, 2) := by decide +kernel
theorem dX10_sailings_67 : decode cX10_sailings 67 = .ok (.iconst (-1), 1) := by decide +kernel
theorem dX10_sailings_68 : decode cX10_sailings 68 = .ok (.ixor, 1) := by decide +kernel
theorem dX10_sailings_69 : decode cX10_sailings 69 = .ok (.iand, 1) := by decide +kernel
theorem dX10_sailings_70 : decode cX10_sailings 70 = .ok (.istore 6, 2) := by decide +kernel
theorem dX10_sailings_72 : decode cX10_sailings 72 = .ok (.iload 5, 2) := by decide +kernel
theorem dX10_sailings_74 : decode cX10_sailings 74 = .ok (.ifCond .ne 25, 3) := by decide +kernel
theorem dX10_sailings_77 : decode cX10_sailings 77 = .ok (.aload_n 0, 1) := by decide +kernel
theorem dX10_sailings_78 : decode cX10_sailings 78 = .ok (.getfield 34, 3) := by decide +kernel
theorem dX10_sailings_81 : decode cX10_sailings 81 = .ok (.iload 4, 2) := by decide +kernel
theorem dX10_sailings_83 : decode cX10_sailings 83 = .ok (.iaload, 1) := by decide +kernel
theorem dX10_sailings_84 : decode cX10_sailings 84 = .ok (.aload_n 0, 1) := by decide +kernel
theorem dX10_sailings_85 : decode cX10_sailings 85 = .ok (.getfield 34, 3) := by decide +kernel
theorem dX10_sailings_88 : decode cX10_sailings 88 = .ok (.iload_n 2, 1) := by decide +kernel
theorem dX10_sailings_89 : decode cX10_sailings 89 = .ok (.iaload, 1) := by decide +kernel
theorem dX10_sailings_90 : decode cX10_sailings 90 = .ok (.if_icmp .ne 14, 3) := by decide +kernel
theorem dX10_sailings_93 : decode cX10_sailings 93 = .ok (.iload 6, 2) := by decide +kernel
theorem dX10_sailings_95 : decode cX10_sailings 95 = .ok (.iload_n 3, 1) := by decide +kernel
theorem dX10_sailings_96 : decode cX10_sailings 96 = .ok (.if_icmp .ge 8, 3) := by decide +kernel
theorem dX10_sailings_99 : decode cX10_sailings 99 = .ok (.iload 6, 2) := by decide +kernel
theorem dX10_sailings_101 : decode cX10_sailings 101 = .ok (.goto 4, 3) := by decide +kernel
theorem dX10_sailings_104 : decode cX10_sailings 104 = .ok (.iload_n 3, 1) := by decide +kernel
theorem dX10_sailings_105 : decode cX10_sailings 105 = .ok (.istore_n 3, 1) := by decide +kernel
theorem dX10_sailings_106 : decode cX10_sailings 106 = .ok (.iload 5, 2) := by decide +kernel
theorem dX10_sailings_108 : decode cX10_sailings 108 = .ok (.ifCond .eq 8, 3) := by decide +kernel
theorem dX10_sailings_111 : decode cX10_sailings 111 = .ok (.iload 4, 2) := by decide +kernel
theorem dX10_sailings_113 : decode cX10_sailings 113 = .ok (.goto 4, 3) := by decide +kernel
theorem dX10_sailings_116 : decode cX10_sailings 116 = .ok (.iload_n 2, 1) := by decide +kernel
theorem dX10_sailings_117 : decode cX10_sailings 117 = .ok (.istore_n 2, 1) := by decide +kernel
theorem dX10_sailings_118 : decode cX10_sailings 118 = .ok (.iinc 4 1, 3) := by decide +kernel
theorem dX10_sailings_121 : decode cX10_sailings 121 = .ok (.goto (-96), 3) := by decide +kernel
theorem dX10_sailings_124 : decode cX10_sailings 124 = .ok (.aload_n 0, 1) := by decide +kernel
theorem dX10_sailings_125 : decode cX10_sailings 125 = .ok (.getfield 34, 3) := by decide +kernel
theorem dX10_sailings_128 : decode cX10_sailings 128 = .ok (.iload_n 2, 1) := by decide +kernel
theorem dX10_sailings_129 : decode cX10_sailings 129 = .ok (.iaload, 1) := by decide +kernel
theorem dX10_sailings_130 : decode cX10_sailings 130 = .ok (.ldc 127, 2) := by decide +kernel
theorem dX10_sailings_132 : decode cX10_sailings 132 = .ok (.iadd, 1) := by decide +kernel
theorem dX10_sailings_133 : decode cX10_sailings 133 = .ok (.iconst 1, 1) := by decide +kernel
theorem dX10_sailings_134 : decode cX10_sailings 134 = .ok (.isub, 1) := by decide +kernel
theorem dX10_sailings_135 : decode cX10_sailings 135 = .ok (.ldc 127, 2) := by decide +kernel
theorem dX10_sailings_137 : decode cX10_sailings 137 = .ok (.idiv, 1) := by decide +kernel
theorem dX10_sailings_138 : decode cX10_sailings 138 = .ok (.istore 4, 2) := by decide +kernel
theorem dX10_sailings_140 : decode cX10_sailings 140 = .ok (.iload_n 1, 1) := by decide +kernel
theorem dX10_sailings_141 : decode cX10_sailings 141 = .ok (.ifCond .ne 8, 3) := by decide +kernel
theorem dX10_sailings_144 : decode cX10_sailings 144 = .ok (.iload 4, 2) := by decide +kernel
theorem dX10_sailings_146 : decode cX10_sailings 146 = .ok (.goto 24, 3) := by decide +kernel
theorem dX10_sailings_149 : decode cX10_sailings 149 = .ok (.iload_n 1, 1) := by decide +kernel
theorem dX10_sailings_150 : decode cX10_sailings 150 = .ok (.iconst 1, 1) := by decide +kernel
theorem dX10_sailings_151 : decode cX10_sailings 151 = .ok (.if_icmp .ne 18, 3) := by decide +kernel
theorem dX10_sailings_154 : decode cX10_sailings 154 = .ok (.ldc 127, 2) := by decide +kernel
theorem dX10_sailings_156 : decode cX10_sailings 156 = .ok (.iload 4, 2) := by decide +kernel
theorem dX10_sailings_158 : decode cX10_sailings 158 = .ok (.imul, 1) := by decide +kernel
theorem dX10_sailings_159 : decode cX10_sailings 159 = .ok (.aload_n 0, 1) := by decide +kernel
theorem dX10_sailings_160 : decode cX10_sailings 160 = .ok (.getfield 34, 3) := by decide +kernel
theorem dX10_sailings_163 : decode cX10_sailings 163 = .ok (.iload_n 2, 1) := by decide +kernel
theorem dX10_sailings_164 : decode cX10_sailings 164 = .ok (.iaload, 1) := by decide +kernel
theorem dX10_sailings_165 : decode cX10_sailings 165 = .ok (.isub, 1) := by decide +kernel
theorem dX10_sailings_166 : decode cX10_sailings 166 = .ok (.goto 4, 3) := by decide +kernel
theorem dX10_sailings_169 : decode cX10_sailings 169 = .ok (.iload_n 3, 1) := by decide +kernel
theorem dX10_sailings_170 : decode cX10_sailings 170 = .ok (.ireturn, 1) := by decide +kernel
theorem dX10_setsWith_0 : decode cX10_setsWith 0 = .ok (.iconst 0, 1) := by decide +kernel
theorem dX10_setsWith_1 : decode cX10_setsWith 1 = .ok (.istore_n 2, 1) := by decide +kernel
theorem dX10_setsWith_2 : decode cX10_setsWith 2 = .ok (.aload_n 0, 1) := by decide +kernel
theorem dX10_setsWith_3 : decode cX10_setsWith 3 = .ok (.invokevirtual 116, 3) := by decide +kernel
theorem dX10_setsWith_6 : decode cX10_setsWith 6 = .ok (.istore_n 3, 1) := by decide +kernel
theorem dX10_setsWith_7 : decode cX10_setsWith 7 = .ok (.iconst 1, 1) := by decide +kernel
theorem dX10_setsWith_8 : decode cX10_setsWith 8 = .ok (.istore 4, 2) := by decide +kernel
theorem dX10_setsWith_10 : decode cX10_setsWith 10 = .ok (.iload 4, 2) := by decide +kernel
theorem dX10_setsWith_12 : decode cX10_setsWith 12 = .ok (.iload_n 3, 1) := by decide +kernel
theorem dX10_setsWith_13 : decode cX10_setsWith 13 = .ok (.if_icmp .gt 45, 3) := by decide +kernel
theorem dX10_setsWith_16 : decode cX10_setsWith 16 = .ok (.iload_n 2, 1) := by decide +kernel
theorem dX10_setsWith_17 : decode cX10_setsWith 17 = .ok (.iload 4, 2) := by decide +kernel
theorem dX10_setsWith_19 : decode cX10_setsWith 19 = .ok (.iload_n 3, 1) := by decide +kernel
theorem dX10_setsWith_20 : decode cX10_setsWith 20 = .ok (.iconst (-1), 1) := by decide +kernel
theorem dX10_setsWith_21 : decode cX10_setsWith 21 = .ok (.ixor, 1) := by decide +kernel
theorem dX10_setsWith_22 : decode cX10_setsWith 22 = .ok (.iand, 1) := by decide +kernel
theorem dX10_setsWith_23 : decode cX10_setsWith 23 = .ok (.ifCond .ne 26, 3) := by decide +kernel
theorem dX10_setsWith_26 : decode cX10_setsWith 26 = .ok (.iload 4, 2) := by decide +kernel
theorem dX10_setsWith_28 : decode cX10_setsWith 28 = .ok (.iload_n 1, 1) := by decide +kernel
theorem dX10_setsWith_29 : decode cX10_setsWith 29 = .ok (.ishr, 1) := by decide +kernel
theorem dX10_setsWith_30 : decode cX10_setsWith 30 = .ok (.iconst 1, 1) := by decide +kernel
theorem dX10_setsWith_31 : decode cX10_setsWith 31 = .ok (.iand, 1) := by decide +kernel
theorem dX10_setsWith_32 : decode cX10_setsWith 32 = .ok (.iconst 1, 1) := by decide +kernel
theorem dX10_setsWith_33 : decode cX10_setsWith 33 = .ok (.if_icmp .ne 16, 3) := by decide +kernel
theorem dX10_setsWith_36 : decode cX10_setsWith 36 = .ok (.aload_n 0, 1) := by decide +kernel
theorem dX10_setsWith_37 : decode cX10_setsWith 37 = .ok (.iload 4, 2) := by decide +kernel
theorem dX10_setsWith_39 : decode cX10_setsWith 39 = .ok (.invokevirtual 104, 3) := by decide +kernel
theorem dX10_setsWith_42 : decode cX10_setsWith 42 = .ok (.ifCond .eq 7, 3) := by decide +kernel
theorem dX10_setsWith_45 : decode cX10_setsWith 45 = .ok (.iconst 1, 1) := by decide +kernel
theorem dX10_setsWith_46 : decode cX10_setsWith 46 = .ok (.goto 4, 3) := by decide +kernel
theorem dX10_setsWith_49 : decode cX10_setsWith 49 = .ok (.iconst 0, 1) := by decide +kernel
theorem dX10_setsWith_50 : decode cX10_setsWith 50 = .ok (.iadd, 1) := by decide +kernel
theorem dX10_setsWith_51 : decode cX10_setsWith 51 = .ok (.istore_n 2, 1) := by decide +kernel
theorem dX10_setsWith_52 : decode cX10_setsWith 52 = .ok (.iinc 4 1, 3) := by decide +kernel
theorem dX10_setsWith_55 : decode cX10_setsWith 55 = .ok (.goto (-45), 3) := by decide +kernel
theorem dX10_setsWith_58 : decode cX10_setsWith 58 = .ok (.iload_n 2, 1) := by decide +kernel
theorem dX10_setsWith_59 : decode cX10_setsWith 59 = .ok (.ireturn, 1) := by decide +kernel
theorem dX10_setsFor_0 : decode cX10_setsFor 0 = .ok (.aload_n 0, 1) := by decide +kernel
theorem dX10_setsFor_1 : decode cX10_setsFor 1 = .ok (.iload_n 1, 1) := by decide +kernel
theorem dX10_setsFor_2 : decode cX10_setsFor 2 = .ok (.invokevirtual 95, 3) := by decide +kernel
theorem dX10_setsFor_5 : decode cX10_setsFor 5 = .ok (.ifCond .ne 5, 3) := by decide +kernel
theorem dX10_setsFor_8 : decode cX10_setsFor 8 = .ok (.iconst (-1), 1) := by decide +kernel
theorem dX10_setsFor_9 : decode cX10_setsFor 9 = .ok (.ireturn, 1) := by decide +kernel
theorem dX10_setsFor_10 : decode cX10_setsFor 10 = .ok (.aload_n 0, 1) := by decide +kernel
theorem dX10_setsFor_11 : decode cX10_setsFor 11 = .ok (.invokevirtual 116, 3) := by decide +kernel
theorem dX10_setsFor_14 : decode cX10_setsFor 14 = .ok (.iload_n 1, 1) := by decide +kernel
theorem dX10_setsFor_15 : decode cX10_setsFor 15 = .ok (.ishr, 1) := by decide +kernel
theorem dX10_setsFor_16 : decode cX10_setsFor 16 = .ok (.iconst 1, 1) := by decide +kernel
theorem dX10_setsFor_17 : decode cX10_setsFor 17 = .ok (.iand, 1) := by decide +kernel
theorem dX10_setsFor_18 : decode cX10_setsFor 18 = .ok (.ifCond .ne 8, 3) := by decide +kernel
theorem dX10_setsFor_21 : decode cX10_setsFor 21 = .ok (.bipush (-2), 2) := by decide +kernel
theorem dX10_setsFor_23 : decode cX10_setsFor 23 = .ok (.goto 8, 3) := by decide +kernel
theorem dX10_setsFor_26 : decode cX10_setsFor 26 = .ok (.aload_n 0, 1) := by decide +kernel
theorem dX10_setsFor_27 : decode cX10_setsFor 27 = .ok (.iload_n 1, 1) := by decide +kernel
theorem dX10_setsFor_28 : decode cX10_setsFor 28 = .ok (.invokevirtual 131, 3) := by decide +kernel
theorem dX10_setsFor_31 : decode cX10_setsFor 31 = .ok (.ireturn, 1) := by decide +kernel
theorem dX10_oddOnes_0 : decode cX10_oddOnes 0 = .ok (.aload_n 0, 1) := by decide +kernel
theorem dX10_oddOnes_1 : decode cX10_oddOnes 1 = .ok (.invokevirtual 116, 3) := by decide +kernel
theorem dX10_oddOnes_4 : decode cX10_oddOnes 4 = .ok (.istore_n 1, 1) := by decide +kernel
theorem dX10_oddOnes_5 : decode cX10_oddOnes 5 = .ok (.iconst 0, 1) := by decide +kernel
theorem dX10_oddOnes_6 : decode cX10_oddOnes 6 = .ok (.istore_n 2, 1) := by decide +kernel
theorem dX10_oddOnes_7 : decode cX10_oddOnes 7 = .ok (.iload_n 2, 1) := by decide +kernel
theorem dX10_oddOnes_8 : decode cX10_oddOnes 8 = .ok (.aload_n 0, 1) := by decide +kernel
theorem dX10_oddOnes_9 : decode cX10_oddOnes 9 = .ok (.getfield 13, 3) := by decide +kernel
theorem dX10_oddOnes_12 : decode cX10_oddOnes 12 = .ok (.iconst 0, 1) := by decide +kernel
theorem dX10_oddOnes_13 : decode cX10_oddOnes 13 = .ok (.iaload, 1) := by decide +kernel
theorem dX10_oddOnes_14 : decode cX10_oddOnes 14 = .ok (.if_icmp .ge 29, 3) := by decide +kernel
theorem dX10_oddOnes_17 : decode cX10_oddOnes 17 = .ok (.iload_n 1, 1) := by decide +kernel
theorem dX10_oddOnes_18 : decode cX10_oddOnes 18 = .ok (.aload_n 0, 1) := by decide +kernel
theorem dX10_oddOnes_19 : decode cX10_oddOnes 19 = .ok (.iload_n 2, 1) := by decide +kernel
theorem dX10_oddOnes_20 : decode cX10_oddOnes 20 = .ok (.invokevirtual 131, 3) := by decide +kernel
theorem dX10_oddOnes_23 : decode cX10_oddOnes 23 = .ok (.ifCond .le 11, 3) := by decide +kernel
theorem dX10_oddOnes_26 : decode cX10_oddOnes 26 = .ok (.iconst 1, 1) := by decide +kernel
theorem dX10_oddOnes_27 : decode cX10_oddOnes 27 = .ok (.iload_n 2, 1) := by decide +kernel
theorem dX10_oddOnes_28 : decode cX10_oddOnes 28 = .ok (.ishl, 1) := by decide +kernel
theorem dX10_oddOnes_29 : decode cX10_oddOnes 29 = .ok (.iconst (-1), 1) := by decide +kernel
theorem dX10_oddOnes_30 : decode cX10_oddOnes 30 = .ok (.ixor, 1) := by decide +kernel
theorem dX10_oddOnes_31 : decode cX10_oddOnes 31 = .ok (.goto 4, 3) := by decide +kernel
theorem dX10_oddOnes_34 : decode cX10_oddOnes 34 = .ok (.iconst (-1), 1) := by decide +kernel
theorem dX10_oddOnes_35 : decode cX10_oddOnes 35 = .ok (.iand, 1) := by decide +kernel
theorem dX10_oddOnes_36 : decode cX10_oddOnes 36 = .ok (.istore_n 1, 1) := by decide +kernel
theorem dX10_oddOnes_37 : decode cX10_oddOnes 37 = .ok (.iinc 2 1, 3) := by decide +kernel
theorem dX10_oddOnes_40 : decode cX10_oddOnes 40 = .ok (.goto (-33), 3) := by decide +kernel
theorem dX10_oddOnes_43 : decode cX10_oddOnes 43 = .ok (.iload_n 1, 1) := by decide +kernel
theorem dX10_oddOnes_44 : decode cX10_oddOnes 44 = .ok (.ireturn, 1) := by decide +kernel
theorem dX10_tell_0 : decode cX10_tell 0 = .ok (.iload_n 1, 1) := by decide +kernel
theorem dX10_tell_1 : decode cX10_tell 1 = .ok (.iconst 1, 1) := by decide +kernel
theorem dX10_tell_2 : decode cX10_tell 2 = .ok (.iconst 1, 1) := by decide +kernel
theorem dX10_tell_3 : decode cX10_tell 3 = .ok (.aload_n 0, 1) := by decide +kernel
theorem dX10_tell_4 : decode cX10_tell 4 = .ok (.getfield 13, 3) := by decide +kernel
theorem dX10_tell_7 : decode cX10_tell 7 = .ok (.iconst 0, 1) := by decide +kernel
theorem dX10_tell_8 : decode cX10_tell 8 = .ok (.iaload, 1) := by decide +kernel
theorem dX10_tell_9 : decode cX10_tell 9 = .ok (.ishl, 1) := by decide +kernel
theorem dX10_tell_10 : decode cX10_tell 10 = .ok (.iconst 1, 1) := by decide +kernel
theorem dX10_tell_11 : decode cX10_tell 11 = .ok (.isub, 1) := by decide +kernel
theorem dX10_tell_12 : decode cX10_tell 12 = .ok (.invokestatic 50, 3) := by decide +kernel
theorem dX10_tell_15 : decode cX10_tell 15 = .ok (.ifCond .eq 14, 3) := by decide +kernel
theorem dX10_tell_18 : decode cX10_tell 18 = .ok (.iload_n 2, 1) := by decide +kernel
theorem dX10_tell_19 : decode cX10_tell 19 = .ok (.iconst 0, 1) := by decide +kernel
theorem dX10_tell_20 : decode cX10_tell 20 = .ok (.sipush 999, 3) := by decide +kernel
theorem dX10_tell_23 : decode cX10_tell 23 = .ok (.invokestatic 50, 3) := by decide +kernel
theorem dX10_tell_26 : decode cX10_tell 26 = .ok (.ifCond .ne 5, 3) := by decide +kernel
theorem dX10_tell_29 : decode cX10_tell 29 = .ok (.iconst (-1), 1) := by decide +kernel
theorem dX10_tell_30 : decode cX10_tell 30 = .ok (.ireturn, 1) := by decide +kernel
theorem dX10_tell_31 : decode cX10_tell 31 = .ok (.aload_n 0, 1) := by decide +kernel
theorem dX10_tell_32 : decode cX10_tell 32 = .ok (.getfield 86, 3) := by decide +kernel
theorem dX10_tell_35 : decode cX10_tell 35 = .ok (.iconst 5, 1) := by decide +kernel
theorem dX10_tell_36 : decode cX10_tell 36 = .ok (.if_icmp .ne 6, 3) := by decide +kernel
theorem dX10_tell_39 : decode cX10_tell 39 = .ok (.bipush (-3), 2) := by decide +kernel
theorem dX10_tell_41 : decode cX10_tell 41 = .ok (.ireturn, 1) := by decide +kernel
theorem dX10_tell_42 : decode cX10_tell 42 = .ok (.aload_n 0, 1) := by decide +kernel
theorem dX10_tell_43 : decode cX10_tell 43 = .ok (.getfield 28, 3) := by decide +kernel
theorem dX10_tell_46 : decode cX10_tell 46 = .ok (.aload_n 0, 1) := by decide +kernel
theorem dX10_tell_47 : decode cX10_tell 47 = .ok (.getfield 86, 3) := by decide +kernel
theorem dX10_tell_50 : decode cX10_tell 50 = .ok (.sipush 1000, 3) := by decide +kernel
theorem dX10_tell_53 : decode cX10_tell 53 = .ok (.iload_n 1, 1) := by decide +kernel
theorem dX10_tell_54 : decode cX10_tell 54 = .ok (.imul, 1) := by decide +kernel
theorem dX10_tell_55 : decode cX10_tell 55 = .ok (.iload_n 2, 1) := by decide +kernel
theorem dX10_tell_56 : decode cX10_tell 56 = .ok (.iadd, 1) := by decide +kernel
theorem dX10_tell_57 : decode cX10_tell 57 = .ok (.iastore, 1) := by decide +kernel
theorem dX10_tell_58 : decode cX10_tell 58 = .ok (.aload_n 0, 1) := by decide +kernel
theorem dX10_tell_59 : decode cX10_tell 59 = .ok (.dup, 1) := by decide +kernel
theorem dX10_tell_60 : decode cX10_tell 60 = .ok (.getfield 86, 3) := by decide +kernel
theorem dX10_tell_63 : decode cX10_tell 63 = .ok (.iconst 1, 1) := by decide +kernel
theorem dX10_tell_64 : decode cX10_tell 64 = .ok (.iadd, 1) := by decide +kernel
theorem dX10_tell_65 : decode cX10_tell 65 = .ok (.putfield 86, 3) := by decide +kernel
theorem dX10_tell_68 : decode cX10_tell 68 = .ok (.aload_n 0, 1) := by decide +kernel
theorem dX10_tell_69 : decode cX10_tell 69 = .ok (.getfield 86, 3) := by decide +kernel
theorem dX10_tell_72 : decode cX10_tell 72 = .ok (.ireturn, 1) := by decide +kernel
theorem dX10_forget_0 : decode cX10_forget 0 = .ok (.aload_n 0, 1) := by decide +kernel
theorem dX10_forget_1 : decode cX10_forget 1 = .ok (.getfield 86, 3) := by decide +kernel
theorem dX10_forget_4 : decode cX10_forget 4 = .ok (.istore_n 1, 1) := by decide +kernel
theorem dX10_forget_5 : decode cX10_forget 5 = .ok (.aload_n 0, 1) := by decide +kernel
theorem dX10_forget_6 : decode cX10_forget 6 = .ok (.iconst 0, 1) := by decide +kernel
theorem dX10_forget_7 : decode cX10_forget 7 = .ok (.putfield 86, 3) := by decide +kernel
theorem dX10_forget_10 : decode cX10_forget 10 = .ok (.iload_n 1, 1) := by decide +kernel
theorem dX10_forget_11 : decode cX10_forget 11 = .ok (.ireturn, 1) := by decide +kernel
theorem dX10_isSo_0 : decode cX10_isSo 0 = .ok (.iconst 1, 1) := by decide +kernel
theorem dX10_isSo_1 : decode cX10_isSo 1 = .ok (.istore_n 3, 1) := by decide +kernel
theorem dX10_isSo_2 : decode cX10_isSo 2 = .ok (.iconst 0, 1) := by decide +kernel
theorem dX10_isSo_3 : decode cX10_isSo 3 = .ok (.istore 4, 2) := by decide +kernel
theorem dX10_isSo_5 : decode cX10_isSo 5 = .ok (.iload 4, 2) := by decide +kernel
theorem dX10_isSo_7 : decode cX10_isSo 7 = .ok (.aload_n 0, 1) := by decide +kernel
theorem dX10_isSo_8 : decode cX10_isSo 8 = .ok (.getfield 86, 3) := by decide +kernel
theorem dX10_isSo_11 : decode cX10_isSo 11 = .ok (.if_icmp .ge 106, 3) := by decide +kernel
theorem dX10_isSo_14 : decode cX10_isSo 14 = .ok (.iconst 0, 1) := by decide +kernel
theorem dX10_isSo_15 : decode cX10_isSo 15 = .ok (.istore 5, 2) := by decide +kernel
theorem dX10_isSo_17 : decode cX10_isSo 17 = .ok (.iconst 0, 1) := by decide +kernel
theorem dX10_isSo_18 : decode cX10_isSo 18 = .ok (.istore 6, 2) := by decide +kernel
theorem dX10_isSo_20 : decode cX10_isSo 20 = .ok (.iload 6, 2) := by decide +kernel
theorem dX10_isSo_22 : decode cX10_isSo 22 = .ok (.aload_n 0, 1) := by decide +kernel
theorem dX10_isSo_23 : decode cX10_isSo 23 = .ok (.getfield 13, 3) := by decide +kernel
theorem dX10_isSo_26 : decode cX10_isSo 26 = .ok (.iconst 0, 1) := by decide +kernel
theorem dX10_isSo_27 : decode cX10_isSo 27 = .ok (.iaload, 1) := by decide +kernel
theorem dX10_isSo_28 : decode cX10_isSo 28 = .ok (.if_icmp .ge 57, 3) := by decide +kernel
theorem dX10_isSo_31 : decode cX10_isSo 31 = .ok (.iload 5, 2) := by decide +kernel
theorem dX10_isSo_33 : decode cX10_isSo 33 = .ok (.aload_n 0, 1) := by decide +kernel
theorem dX10_isSo_34 : decode cX10_isSo 34 = .ok (.getfield 28, 3) := by decide +kernel
theorem dX10_isSo_37 : decode cX10_isSo 37 = .ok (.iload 4, 2) := by decide +kernel
theorem dX10_isSo_39 : decode cX10_isSo 39 = .ok (.iaload, 1) := by decide +kernel
theorem dX10_isSo_40 : decode cX10_isSo 40 = .ok (.sipush 1000, 3) := by decide +kernel
theorem dX10_isSo_43 : decode cX10_isSo 43 = .ok (.idiv, 1) := by decide +kernel
theorem dX10_isSo_44 : decode cX10_isSo 44 = .ok (.iload 6, 2) := by decide +kernel
theorem dX10_isSo_46 : decode cX10_isSo 46 = .ok (.ishr, 1) := by decide +kernel
theorem dX10_isSo_47 : decode cX10_isSo 47 = .ok (.iconst 1, 1) := by decide +kernel
theorem dX10_isSo_48 : decode cX10_isSo 48 = .ok (.iand, 1) := by decide +kernel
theorem dX10_isSo_49 : decode cX10_isSo 49 = .ok (.ifCond .ne 7, 3) := by decide +kernel
theorem dX10_isSo_52 : decode cX10_isSo 52 = .ok (.iconst 0, 1) := by decide +kernel
theorem dX10_isSo_53 : decode cX10_isSo 53 = .ok (.goto 23, 3) := by decide +kernel
theorem dX10_isSo_56 : decode cX10_isSo 56 = .ok (.iload 6, 2) := by decide +kernel
theorem dX10_isSo_58 : decode cX10_isSo 58 = .ok (.iload_n 1, 1) := by decide +kernel
theorem dX10_isSo_59 : decode cX10_isSo 59 = .ok (.if_icmp .ne 7, 3) := by decide +kernel
theorem dX10_isSo_62 : decode cX10_isSo 62 = .ok (.iload_n 2, 1) := by decide +kernel
theorem dX10_isSo_63 : decode cX10_isSo 63 = .ok (.goto 13, 3) := by decide +kernel
theorem dX10_isSo_66 : decode cX10_isSo 66 = .ok (.aload_n 0, 1) := by decide +kernel
theorem dX10_isSo_67 : decode cX10_isSo 67 = .ok (.getfield 13, 3) := by decide +kernel
theorem dX10_isSo_70 : decode cX10_isSo 70 = .ok (.bipush 13, 2) := by decide +kernel
theorem dX10_isSo_72 : decode cX10_isSo 72 = .ok (.iload 6, 2) := by decide +kernel
theorem dX10_isSo_74 : decode cX10_isSo 74 = .ok (.iadd, 1) := by decide +kernel
theorem dX10_isSo_75 : decode cX10_isSo 75 = .ok (.iaload, 1) := by decide +kernel
theorem dX10_isSo_76 : decode cX10_isSo 76 = .ok (.iadd, 1) := by decide +kernel
theorem dX10_isSo_77 : decode cX10_isSo 77 = .ok (.istore 5, 2) := by decide +kernel
theorem dX10_isSo_79 : decode cX10_isSo 79 = .ok (.iinc 6 1, 3) := by decide +kernel
theorem dX10_isSo_82 : decode cX10_isSo 82 = .ok (.goto (-62), 3) := by decide +kernel
theorem dX10_isSo_85 : decode cX10_isSo 85 = .ok (.iload_n 3, 1) := by decide +kernel
theorem dX10_isSo_86 : decode cX10_isSo 86 = .ok (.ifCond .eq 23, 3) := by decide +kernel
theorem dX10_isSo_89 : decode cX10_isSo 89 = .ok (.iload 5, 2) := by decide +kernel
theorem dX10_isSo_91 : decode cX10_isSo 91 = .ok (.aload_n 0, 1) := by decide +kernel
theorem dX10_isSo_92 : decode cX10_isSo 92 = .ok (.getfield 28, 3) := by decide +kernel
theorem dX10_isSo_95 : decode cX10_isSo 95 = .ok (.iload 4, 2) := by decide +kernel
theorem dX10_isSo_97 : decode cX10_isSo 97 = .ok (.iaload, 1) := by decide +kernel
theorem dX10_isSo_98 : decode cX10_isSo 98 = .ok (.sipush 1000, 3) := by decide +kernel
theorem dX10_isSo_101 : decode cX10_isSo 101 = .ok (.irem, 1) := by decide +kernel
theorem dX10_isSo_102 : decode cX10_isSo 102 = .ok (.if_icmp .ne 7, 3) := by decide +kernel
theorem dX10_isSo_105 : decode cX10_isSo 105 = .ok (.iconst 1, 1) := by decide +kernel
theorem dX10_isSo_106 : decode cX10_isSo 106 = .ok (.goto 4, 3) := by decide +kernel
theorem dX10_isSo_109 : decode cX10_isSo 109 = .ok (.iconst 0, 1) := by decide +kernel
theorem dX10_isSo_110 : decode cX10_isSo 110 = .ok (.istore_n 3, 1) := by decide +kernel
theorem dX10_isSo_111 : decode cX10_isSo 111 = .ok (.iinc 4 1, 3) := by decide +kernel
theorem dX10_isSo_114 : decode cX10_isSo 114 = .ok (.goto (-109), 3) := by decide +kernel
theorem dX10_isSo_117 : decode cX10_isSo 117 = .ok (.iload_n 3, 1) := by decide +kernel
theorem dX10_isSo_118 : decode cX10_isSo 118 = .ok (.ireturn, 1) := by decide +kernel
theorem dX10_liar_0 : decode cX10_liar 0 = .ok (.aload_n 0, 1) := by decide +kernel
theorem dX10_liar_1 : decode cX10_liar 1 = .ok (.iconst 0, 1) := by decide +kernel
theorem dX10_liar_2 : decode cX10_liar 2 = .ok (.aload_n 0, 1) := by decide +kernel
theorem dX10_liar_3 : decode cX10_liar 3 = .ok (.getfield 13, 3) := by decide +kernel
theorem dX10_liar_6 : decode cX10_liar 6 = .ok (.bipush 13, 2) := by decide +kernel
theorem dX10_liar_8 : decode cX10_liar 8 = .ok (.iaload, 1) := by decide +kernel
theorem dX10_liar_9 : decode cX10_liar 9 = .ok (.invokevirtual 134, 3) := by decide +kernel
theorem dX10_liar_12 : decode cX10_liar 12 = .ok (.ifCond .eq 9, 3) := by decide +kernel
theorem dX10_liar_15 : decode cX10_liar 15 = .ok (.sipush 512, 3) := by decide +kernel
theorem dX10_liar_18 : decode cX10_liar 18 = .ok (.goto 4, 3) := by decide +kernel
theorem dX10_liar_21 : decode cX10_liar 21 = .ok (.iconst 0, 1) := by decide +kernel
theorem dX10_liar_22 : decode cX10_liar 22 = .ok (.istore_n 1, 1) := by decide +kernel
theorem dX10_liar_23 : decode cX10_liar 23 = .ok (.iconst 0, 1) := by decide +kernel
theorem dX10_liar_24 : decode cX10_liar 24 = .ok (.istore_n 2, 1) := by decide +kernel
theorem dX10_liar_25 : decode cX10_liar 25 = .ok (.iload_n 2, 1) := by decide +kernel
theorem dX10_liar_26 : decode cX10_liar 26 = .ok (.aload_n 0, 1) := by decide +kernel
theorem dX10_liar_27 : decode cX10_liar 27 = .ok (.getfield 13, 3) := by decide +kernel
theorem dX10_liar_30 : decode cX10_liar 30 = .ok (.iconst 0, 1) := by decide +kernel
theorem dX10_liar_31 : decode cX10_liar 31 = .ok (.iaload, 1) := by decide +kernel
theorem dX10_liar_32 : decode cX10_liar 32 = .ok (.if_icmp .ge 55, 3) := by decide +kernel
theorem dX10_liar_35 : decode cX10_liar 35 = .ok (.iconst 0, 1) := by decide +kernel
theorem dX10_liar_36 : decode cX10_liar 36 = .ok (.istore_n 3, 1) := by decide +kernel
theorem dX10_liar_37 : decode cX10_liar 37 = .ok (.iload_n 3, 1) := by decide +kernel
theorem dX10_liar_38 : decode cX10_liar 38 = .ok (.bipush 100, 2) := by decide +kernel
theorem dX10_liar_40 : decode cX10_liar 40 = .ok (.if_icmp .ge 41, 3) := by decide +kernel
theorem dX10_liar_43 : decode cX10_liar 43 = .ok (.iload_n 1, 1) := by decide +kernel
theorem dX10_liar_44 : decode cX10_liar 44 = .ok (.iload_n 3, 1) := by decide +kernel
theorem dX10_liar_45 : decode cX10_liar 45 = .ok (.aload_n 0, 1) := by decide +kernel
theorem dX10_liar_46 : decode cX10_liar 46 = .ok (.getfield 13, 3) := by decide +kernel
theorem dX10_liar_49 : decode cX10_liar 49 = .ok (.bipush 13, 2) := by decide +kernel
theorem dX10_liar_51 : decode cX10_liar 51 = .ok (.iload_n 2, 1) := by decide +kernel
theorem dX10_liar_52 : decode cX10_liar 52 = .ok (.iadd, 1) := by decide +kernel
theorem dX10_liar_53 : decode cX10_liar 53 = .ok (.iaload, 1) := by decide +kernel
theorem dX10_liar_54 : decode cX10_liar 54 = .ok (.if_icmp .eq 18, 3) := by decide +kernel
theorem dX10_liar_57 : decode cX10_liar 57 = .ok (.aload_n 0, 1) := by decide +kernel
theorem dX10_liar_58 : decode cX10_liar 58 = .ok (.iload_n 2, 1) := by decide +kernel
theorem dX10_liar_59 : decode cX10_liar 59 = .ok (.iload_n 3, 1) := by decide +kernel
theorem dX10_liar_60 : decode cX10_liar 60 = .ok (.invokevirtual 134, 3) := by decide +kernel
theorem dX10_liar_63 : decode cX10_liar 63 = .ok (.ifCond .eq 9, 3) := by decide +kernel
theorem dX10_liar_66 : decode cX10_liar 66 = .ok (.iconst 1, 1) := by decide +kernel
theorem dX10_liar_67 : decode cX10_liar 67 = .ok (.iload_n 2, 1) := by decide +kernel
theorem dX10_liar_68 : decode cX10_liar 68 = .ok (.ishl, 1) := by decide +kernel
theorem dX10_liar_69 : decode cX10_liar 69 = .ok (.goto 4, 3) := by decide +kernel
theorem dX10_liar_72 : decode cX10_liar 72 = .ok (.iconst 0, 1) := by decide +kernel
theorem dX10_liar_73 : decode cX10_liar 73 = .ok (.ior, 1) := by decide +kernel
theorem dX10_liar_74 : decode cX10_liar 74 = .ok (.istore_n 1, 1) := by decide +kernel
theorem dX10_liar_75 : decode cX10_liar 75 = .ok (.iinc 3 1, 3) := by decide +kernel
theorem dX10_liar_78 : decode cX10_liar 78 = .ok (.goto (-41), 3) := by decide +kernel
theorem dX10_liar_81 : decode cX10_liar 81 = .ok (.iinc 2 1, 3) := by decide +kernel
theorem dX10_liar_84 : decode cX10_liar 84 = .ok (.goto (-59), 3) := by decide +kernel
theorem dX10_liar_87 : decode cX10_liar 87 = .ok (.iload_n 1, 1) := by decide +kernel
theorem dX10_liar_88 : decode cX10_liar 88 = .ok (.ireturn, 1) := by decide +kernel
theorem dX10_age_0 : decode cX10_age 0 = .ok (.aload_n 0, 1) := by decide +kernel
theorem dX10_age_1 : decode cX10_age 1 = .ok (.iload_n 1, 1) := by decide +kernel
theorem dX10_age_2 : decode cX10_age 2 = .ok (.invokevirtual 95, 3) := by decide +kernel
theorem dX10_age_5 : decode cX10_age 5 = .ok (.ifCond .eq 12, 3) := by decide +kernel
theorem dX10_age_8 : decode cX10_age 8 = .ok (.iload_n 2, 1) := by decide +kernel
theorem dX10_age_9 : decode cX10_age 9 = .ok (.iconst 0, 1) := by decide +kernel
theorem dX10_age_10 : decode cX10_age 10 = .ok (.iconst 1, 1) := by decide +kernel
theorem dX10_age_11 : decode cX10_age 11 = .ok (.invokestatic 50, 3) := by decide +kernel
theorem dX10_age_14 : decode cX10_age 14 = .ok (.ifCond .ne 5, 3) := by decide +kernel
theorem dX10_age_17 : decode cX10_age 17 = .ok (.iconst (-1), 1) := by decide +kernel
theorem dX10_age_18 : decode cX10_age 18 = .ok (.ireturn, 1) := by decide +kernel
theorem dX10_age_19 : decode cX10_age 19 = .ok (.bipush (-4), 2) := by decide +kernel
theorem dX10_age_21 : decode cX10_age 21 = .ok (.istore_n 3, 1) := by decide +kernel
theorem dX10_age_22 : decode cX10_age 22 = .ok (.bipush (-4), 2) := by decide +kernel
theorem dX10_age_24 : decode cX10_age 24 = .ok (.istore 4, 2) := by decide +kernel
theorem dX10_age_26 : decode cX10_age 26 = .ok (.iconst 0, 1) := by decide +kernel
theorem dX10_age_27 : decode cX10_age 27 = .ok (.istore 5, 2) := by decide +kernel
theorem dX10_age_29 : decode cX10_age 29 = .ok (.iload 5, 2) := by decide +kernel
theorem dX10_age_31 : decode cX10_age 31 = .ok (.bipush 100, 2) := by decide +kernel
theorem dX10_age_33 : decode cX10_age 33 = .ok (.if_icmp .ge 36, 3) := by decide +kernel
theorem dX10_age_36 : decode cX10_age 36 = .ok (.aload_n 0, 1) := by decide +kernel
theorem dX10_age_37 : decode cX10_age 37 = .ok (.iload_n 1, 1) := by decide +kernel
theorem dX10_age_38 : decode cX10_age 38 = .ok (.iload 5, 2) := by decide +kernel
theorem dX10_age_40 : decode cX10_age 40 = .ok (.invokevirtual 134, 3) := by decide +kernel
theorem dX10_age_43 : decode cX10_age 43 = .ok (.ifCond .eq 20, 3) := by decide +kernel
theorem dX10_age_46 : decode cX10_age 46 = .ok (.iload_n 3, 1) := by decide +kernel
theorem dX10_age_47 : decode cX10_age 47 = .ok (.bipush (-4), 2) := by decide +kernel
theorem dX10_age_49 : decode cX10_age 49 = .ok (.if_icmp .ne 8, 3) := by decide +kernel
theorem dX10_age_52 : decode cX10_age 52 = .ok (.iload 5, 2) := by decide +kernel
theorem dX10_age_54 : decode cX10_age 54 = .ok (.goto 4, 3) := by decide +kernel
theorem dX10_age_57 : decode cX10_age 57 = .ok (.iload_n 3, 1) := by decide +kernel
theorem dX10_age_58 : decode cX10_age 58 = .ok (.istore_n 3, 1) := by decide +kernel
theorem dX10_age_59 : decode cX10_age 59 = .ok (.iload 5, 2) := by decide +kernel
theorem dX10_age_61 : decode cX10_age 61 = .ok (.istore 4, 2) := by decide +kernel
theorem dX10_age_63 : decode cX10_age 63 = .ok (.iinc 5 1, 3) := by decide +kernel
theorem dX10_age_66 : decode cX10_age 66 = .ok (.goto (-37), 3) := by decide +kernel
theorem dX10_age_69 : decode cX10_age 69 = .ok (.iload_n 2, 1) := by decide +kernel
theorem dX10_age_70 : decode cX10_age 70 = .ok (.ifCond .ne 7, 3) := by decide +kernel
theorem dX10_age_73 : decode cX10_age 73 = .ok (.iload_n 3, 1) := by decide +kernel
theorem dX10_age_74 : decode cX10_age 74 = .ok (.goto 5, 3) := by decide +kernel
theorem dX10_age_77 : decode cX10_age 77 = .ok (.iload 4, 2) := by decide +kernel
theorem dX10_age_79 : decode cX10_age 79 = .ok (.ireturn, 1) := by decide +kernel
theorem dX10_sums_0 : decode cX10_sums 0 = .ok (.iload_n 1, 1) := by decide +kernel
theorem dX10_sums_1 : decode cX10_sums 1 = .ok (.iconst 0, 1) := by decide +kernel
theorem dX10_sums_2 : decode cX10_sums 2 = .ok (.iconst 1, 1) := by decide +kernel
theorem dX10_sums_3 : decode cX10_sums 3 = .ok (.invokestatic 50, 3) := by decide +kernel
theorem dX10_sums_6 : decode cX10_sums 6 = .ok (.ifCond .ne 5, 3) := by decide +kernel
theorem dX10_sums_9 : decode cX10_sums 9 = .ok (.iconst (-1), 1) := by decide +kernel
theorem dX10_sums_10 : decode cX10_sums 10 = .ok (.ireturn, 1) := by decide +kernel
theorem dX10_sums_11 : decode cX10_sums 11 = .ok (.aload_n 0, 1) := by decide +kernel
theorem dX10_sums_12 : decode cX10_sums 12 = .ok (.invokevirtual 116, 3) := by decide +kernel
theorem dX10_sums_15 : decode cX10_sums 15 = .ok (.istore_n 2, 1) := by decide +kernel
theorem dX10_sums_16 : decode cX10_sums 16 = .ok (.iconst 0, 1) := by decide +kernel
theorem dX10_sums_17 : decode cX10_sums 17 = .ok (.istore_n 3, 1) := by decide +kernel
theorem dX10_sums_18 : decode cX10_sums 18 = .ok (.bipush (-4), 2) := by decide +kernel
theorem dX10_sums_20 : decode cX10_sums 20 = .ok (.istore 4, 2) := by decide +kernel
theorem dX10_sums_22 : decode cX10_sums 22 = .ok (.sipush 9999, 3) := by decide +kernel
theorem dX10_sums_25 : decode cX10_sums 25 = .ok (.istore 5, 2) := by decide +kernel
theorem dX10_sums_27 : decode cX10_sums 27 = .ok (.iconst 1, 1) := by decide +kernel
theorem dX10_sums_28 : decode cX10_sums 28 = .ok (.istore 6, 2) := by decide +kernel
theorem dX10_sums_30 : decode cX10_sums 30 = .ok (.iload 6, 2) := by decide +kernel
theorem dX10_sums_32 : decode cX10_sums 32 = .ok (.iload_n 2, 1) := by decide +kernel
theorem dX10_sums_33 : decode cX10_sums 33 = .ok (.if_icmp .gt 230, 3) := by decide +kernel
theorem dX10_sums_36 : decode cX10_sums 36 = .ok (.aload_n 0, 1) := by decide +kernel
theorem dX10_sums_37 : decode cX10_sums 37 = .ok (.getfield 31, 3) := by decide +kernel
theorem dX10_sums_40 : decode cX10_sums 40 = .ok (.iload 6, 2) := by decide +kernel
theorem dX10_sums_42 : decode cX10_sums 42 = .ok (.iload 6, 2) := by decide +kernel
theorem dX10_sums_44 : decode cX10_sums 44 = .ok (.iload_n 2, 1) := by decide +kernel
theorem dX10_sums_45 : decode cX10_sums 45 = .ok (.iconst (-1), 1) := by decide +kernel
theorem dX10_sums_46 : decode cX10_sums 46 = .ok (.ixor, 1) := by decide +kernel
theorem dX10_sums_47 : decode cX10_sums 47 = .ok (.iand, 1) := by decide +kernel
theorem dX10_sums_48 : decode cX10_sums 48 = .ok (.ifCond .ne 12, 3) := by decide +kernel
theorem dX10_sums_51 : decode cX10_sums 51 = .ok (.aload_n 0, 1) := by decide +kernel
theorem dX10_sums_52 : decode cX10_sums 52 = .ok (.iload 6, 2) := by decide +kernel
theorem dX10_sums_54 : decode cX10_sums 54 = .ok (.invokevirtual 101, 3) := by decide +kernel
theorem dX10_sums_57 : decode cX10_sums 57 = .ok (.goto 4, 3) := by decide +kernel
theorem dX10_sums_60 : decode cX10_sums 60 = .ok (.iconst (-1), 1) := by decide +kernel
theorem dX10_sums_61 : decode cX10_sums 61 = .ok (.iastore, 1) := by decide +kernel
theorem dX10_sums_62 : decode cX10_sums 62 = .ok (.aload_n 0, 1) := by decide +kernel
theorem dX10_sums_63 : decode cX10_sums 63 = .ok (.getfield 31, 3) := by decide +kernel
theorem dX10_sums_66 : decode cX10_sums 66 = .ok (.iload 6, 2) := by decide +kernel
theorem dX10_sums_68 : decode cX10_sums 68 = .ok (.iaload, 1) := by decide +kernel
theorem dX10_sums_69 : decode cX10_sums 69 = .ok (.ifCond .lt 7, 3) := by decide +kernel
theorem dX10_sums_72 : decode cX10_sums 72 = .ok (.iconst 1, 1) := by decide +kernel
theorem dX10_sums_73 : decode cX10_sums 73 = .ok (.goto 4, 3) := by decide +kernel
theorem dX10_sums_76 : decode cX10_sums 76 = .ok (.iconst 0, 1) := by decide +kernel
theorem dX10_sums_77 : decode cX10_sums 77 = .ok (.istore 7, 2) := by decide +kernel
theorem dX10_sums_79 : decode cX10_sums 79 = .ok (.iconst 1, 1) := by decide +kernel
theorem dX10_sums_80 : decode cX10_sums 80 = .ok (.istore 8, 2) := by decide +kernel
theorem dX10_sums_82 : decode cX10_sums 82 = .ok (.iload 8, 2) := by decide +kernel
theorem dX10_sums_84 : decode cX10_sums 84 = .ok (.iload 6, 2) := by decide +kernel
theorem dX10_sums_86 : decode cX10_sums 86 = .ok (.if_icmp .ge 38, 3) := by decide +kernel
theorem dX10_sums_89 : decode cX10_sums 89 = .ok (.iload 7, 2) := by decide +kernel
theorem dX10_sums_91 : decode cX10_sums 91 = .ok (.ifCond .eq 33, 3) := by decide +kernel
theorem dX10_sums_94 : decode cX10_sums 94 = .ok (.aload_n 0, 1) := by decide +kernel
theorem dX10_sums_95 : decode cX10_sums 95 = .ok (.getfield 31, 3) := by decide +kernel
theorem dX10_sums_98 : decode cX10_sums 98 = .ok (.iload 8, 2) := by decide +kernel
theorem dX10_sums_100 : decode cX10_sums 100 = .ok (.iaload, 1) := by decide +kernel
theorem dX10_sums_101 : decode cX10_sums 101 = .ok (.aload_n 0, 1) := by decide +kernel
theorem dX10_sums_102 : decode cX10_sums 102 = .ok (.getfield 31, 3) := by decide +kernel
theorem dX10_sums_105 : decode cX10_sums 105 = .ok (.iload 6, 2) := by decide +kernel
theorem dX10_sums_107 : decode cX10_sums 107 = .ok (.iaload, 1) := by decide +kernel
theorem dX10_sums_108 : decode cX10_sums 108 = .ok (.if_icmp .eq 7, 3) := by decide +kernel
theorem dX10_sums_111 : decode cX10_sums 111 = .ok (.iconst 1, 1) := by decide +kernel
theorem dX10_sums_112 : decode cX10_sums 112 = .ok (.goto 4, 3) := by decide +kernel
theorem dX10_sums_115 : decode cX10_sums 115 = .ok (.iconst 0, 1) := by decide +kernel
theorem dX10_sums_116 : decode cX10_sums 116 = .ok (.istore 7, 2) := by decide +kernel
theorem dX10_sums_118 : decode cX10_sums 118 = .ok (.iinc 8 1, 3) := by decide +kernel
theorem dX10_sums_121 : decode cX10_sums 121 = .ok (.goto (-39), 3) := by decide +kernel
theorem dX10_sums_124 : decode cX10_sums 124 = .ok (.aload_n 0, 1) := by decide +kernel
theorem dX10_sums_125 : decode cX10_sums 125 = .ok (.getfield 31, 3) := by decide +kernel
theorem dX10_sums_128 : decode cX10_sums 128 = .ok (.iload 6, 2) := by decide +kernel
theorem dX10_sums_130 : decode cX10_sums 130 = .ok (.iaload, 1) := by decide +kernel
theorem dX10_sums_131 : decode cX10_sums 131 = .ok (.aload_n 0, 1) := by decide +kernel
theorem dX10_sums_132 : decode cX10_sums 132 = .ok (.getfield 13, 3) := by decide +kernel
theorem dX10_sums_135 : decode cX10_sums 135 = .ok (.iconst 1, 1) := by decide +kernel
theorem dX10_sums_136 : decode cX10_sums 136 = .ok (.iaload, 1) := by decide +kernel
theorem dX10_sums_137 : decode cX10_sums 137 = .ok (.if_icmp .ge 20, 3) := by decide +kernel
theorem dX10_sums_140 : decode cX10_sums 140 = .ok (.aload_n 0, 1) := by decide +kernel
theorem dX10_sums_141 : decode cX10_sums 141 = .ok (.getfield 13, 3) := by decide +kernel
theorem dX10_sums_144 : decode cX10_sums 144 = .ok (.iconst 1, 1) := by decide +kernel
theorem dX10_sums_145 : decode cX10_sums 145 = .ok (.iaload, 1) := by decide +kernel
theorem dX10_sums_146 : decode cX10_sums 146 = .ok (.aload_n 0, 1) := by decide +kernel
theorem dX10_sums_147 : decode cX10_sums 147 = .ok (.getfield 31, 3) := by decide +kernel
theorem dX10_sums_150 : decode cX10_sums 150 = .ok (.iload 6, 2) := by decide +kernel
theorem dX10_sums_152 : decode cX10_sums 152 = .ok (.iaload, 1) := by decide +kernel
theorem dX10_sums_153 : decode cX10_sums 153 = .ok (.isub, 1) := by decide +kernel
theorem dX10_sums_154 : decode cX10_sums 154 = .ok (.goto 17, 3) := by decide +kernel
theorem dX10_sums_157 : decode cX10_sums 157 = .ok (.aload_n 0, 1) := by decide +kernel
theorem dX10_sums_158 : decode cX10_sums 158 = .ok (.getfield 31, 3) := by decide +kernel
theorem dX10_sums_161 : decode cX10_sums 161 = .ok (.iload 6, 2) := by decide +kernel
theorem dX10_sums_163 : decode cX10_sums 163 = .ok (.iaload, 1) := by decide +kernel
theorem dX10_sums_164 : decode cX10_sums 164 = .ok (.aload_n 0, 1) := by decide +kernel
theorem dX10_sums_165 : decode cX10_sums 165 = .ok (.getfield 13, 3) := by decide +kernel
theorem dX10_sums_168 : decode cX10_sums 168 = .ok (.iconst 1, 1) := by decide +kernel
theorem dX10_sums_169 : decode cX10_sums 169 = .ok (.iaload, 1) := by decide +kernel
theorem dX10_sums_170 : decode cX10_sums 170 = .ok (.isub, 1) := by decide +kernel
theorem dX10_sums_171 : decode cX10_sums 171 = .ok (.istore 8, 2) := by decide +kernel
theorem dX10_sums_173 : decode cX10_sums 173 = .ok (.iload 7, 2) := by decide +kernel
theorem dX10_sums_175 : decode cX10_sums 175 = .ok (.ifCond .eq 33, 3) := by decide +kernel
theorem dX10_sums_178 : decode cX10_sums 178 = .ok (.iload 8, 2) := by decide +kernel
theorem dX10_sums_180 : decode cX10_sums 180 = .ok (.iload 5, 2) := by decide +kernel
theorem dX10_sums_182 : decode cX10_sums 182 = .ok (.if_icmp .lt 22, 3) := by decide +kernel
theorem dX10_sums_185 : decode cX10_sums 185 = .ok (.iload 8, 2) := by decide +kernel
theorem dX10_sums_187 : decode cX10_sums 187 = .ok (.iload 5, 2) := by decide +kernel
theorem dX10_sums_189 : decode cX10_sums 189 = .ok (.if_icmp .ne 19, 3) := by decide +kernel
theorem dX10_sums_192 : decode cX10_sums 192 = .ok (.aload_n 0, 1) := by decide +kernel
theorem dX10_sums_193 : decode cX10_sums 193 = .ok (.getfield 31, 3) := by decide +kernel
theorem dX10_sums_196 : decode cX10_sums 196 = .ok (.iload 6, 2) := by decide +kernel
theorem dX10_sums_198 : decode cX10_sums 198 = .ok (.iaload, 1) := by decide +kernel
theorem dX10_sums_199 : decode cX10_sums 199 = .ok (.iload 4, 2) := by decide +kernel
theorem dX10_sums_201 : decode cX10_sums 201 = .ok (.if_icmp .ge 7, 3) := by decide +kernel
theorem dX10_sums_204 : decode cX10_sums 204 = .ok (.iconst 1, 1) := by decide +kernel
theorem dX10_sums_205 : decode cX10_sums 205 = .ok (.goto 4, 3) := by decide +kernel
theorem dX10_sums_208 : decode cX10_sums 208 = .ok (.iconst 0, 1) := by decide +kernel
theorem dX10_sums_209 : decode cX10_sums 209 = .ok (.istore 9, 2) := by decide +kernel
theorem dX10_sums_211 : decode cX10_sums 211 = .ok (.iload_n 3, 1) := by decide +kernel
theorem dX10_sums_212 : decode cX10_sums 212 = .ok (.iload 7, 2) := by decide +kernel
theorem dX10_sums_214 : decode cX10_sums 214 = .ok (.ifCond .eq 7, 3) := by decide +kernel
theorem dX10_sums_217 : decode cX10_sums 217 = .ok (.iconst 1, 1) := by decide +kernel
theorem dX10_sums_218 : decode cX10_sums 218 = .ok (.goto 4, 3) := by decide +kernel
theorem dX10_sums_221 : decode cX10_sums 221 = .ok (.iconst 0, 1) := by decide +kernel
theorem dX10_sums_222 : decode cX10_sums 222 = .ok (.iadd, 1) := by decide +kernel
theorem dX10_sums_223 : decode cX10_sums 223 = .ok (.istore_n 3, 1) := by decide +kernel
theorem dX10_sums_224 : decode cX10_sums 224 = .ok (.iload 9, 2) := by decide +kernel
theorem dX10_sums_226 : decode cX10_sums 226 = .ok (.ifCond .eq 13, 3) := by decide +kernel
theorem dX10_sums_229 : decode cX10_sums 229 = .ok (.aload_n 0, 1) := by decide +kernel
theorem dX10_sums_230 : decode cX10_sums 230 = .ok (.getfield 31, 3) := by decide +kernel
theorem dX10_sums_233 : decode cX10_sums 233 = .ok (.iload 6, 2) := by decide +kernel
theorem dX10_sums_235 : decode cX10_sums 235 = .ok (.iaload, 1) := by decide +kernel
theorem dX10_sums_236 : decode cX10_sums 236 = .ok (.goto 5, 3) := by decide +kernel
theorem dX10_sums_239 : decode cX10_sums 239 = .ok (.iload 4, 2) := by decide +kernel
theorem dX10_sums_241 : decode cX10_sums 241 = .ok (.istore 4, 2) := by decide +kernel
theorem dX10_sums_243 : decode cX10_sums 243 = .ok (.iload 9, 2) := by decide +kernel
theorem dX10_sums_245 : decode cX10_sums 245 = .ok (.ifCond .eq 8, 3) := by decide +kernel
theorem dX10_sums_248 : decode cX10_sums 248 = .ok (.iload 8, 2) := by decide +kernel
theorem dX10_sums_250 : decode cX10_sums 250 = .ok (.goto 5, 3) := by decide +kernel
theorem dX10_sums_253 : decode cX10_sums 253 = .ok (.iload 5, 2) := by decide +kernel
theorem dX10_sums_255 : decode cX10_sums 255 = .ok (.istore 5, 2) := by decide +kernel
theorem dX10_sums_257 : decode cX10_sums 257 = .ok (.iinc 6 1, 3) := by decide +kernel
theorem dX10_sums_260 : decode cX10_sums 260 = .ok (.goto (-230), 3) := by decide +kernel
theorem dX10_sums_263 : decode cX10_sums 263 = .ok (.iload_n 1, 1) := by decide +kernel
theorem dX10_sums_264 : decode cX10_sums 264 = .ok (.ifCond .ne 7, 3) := by decide +kernel
theorem dX10_sums_267 : decode cX10_sums 267 = .ok (.iload_n 3, 1) := by decide +kernel
theorem dX10_sums_268 : decode cX10_sums 268 = .ok (.goto 5, 3) := by decide +kernel
theorem dX10_sums_271 : decode cX10_sums 271 = .ok (.iload 4, 2) := by decide +kernel
theorem dX10_sums_273 : decode cX10_sums 273 = .ok (.ireturn, 1) := by decide +kernel
theorem dX10_stays_0 : decode cX10_stays 0 = .ok (.iload_n 1, 1) := by decide +kernel
theorem dX10_stays_1 : decode cX10_stays 1 = .ok (.iconst 0, 1) := by decide +kernel
theorem dX10_stays_2 : decode cX10_stays 2 = .ok (.bipush 10, 2) := by decide +kernel
theorem dX10_stays_4 : decode cX10_stays 4 = .ok (.invokestatic 50, 3) := by decide +kernel
theorem dX10_stays_7 : decode cX10_stays 7 = .ok (.ifCond .eq 12, 3) := by decide +kernel
theorem dX10_stays_10 : decode cX10_stays 10 = .ok (.iload_n 2, 1) := by decide +kernel
theorem dX10_stays_11 : decode cX10_stays 11 = .ok (.iconst 0, 1) := by decide +kernel
theorem dX10_stays_12 : decode cX10_stays 12 = .ok (.iconst 1, 1) := by decide +kernel
theorem dX10_stays_13 : decode cX10_stays 13 = .ok (.invokestatic 50, 3) := by decide +kernel
theorem dX10_stays_16 : decode cX10_stays 16 = .ok (.ifCond .ne 5, 3) := by decide +kernel
theorem dX10_stays_19 : decode cX10_stays 19 = .ok (.iconst (-1), 1) := by decide +kernel
theorem dX10_stays_20 : decode cX10_stays 20 = .ok (.ireturn, 1) := by decide +kernel
theorem dX10_stays_21 : decode cX10_stays 21 = .ok (.aload_n 0, 1) := by decide +kernel
theorem dX10_stays_22 : decode cX10_stays 22 = .ok (.invokevirtual 116, 3) := by decide +kernel
theorem dX10_stays_25 : decode cX10_stays 25 = .ok (.istore_n 3, 1) := by decide +kernel
theorem dX10_stays_26 : decode cX10_stays 26 = .ok (.iconst 1, 1) := by decide +kernel
theorem dX10_stays_27 : decode cX10_stays 27 = .ok (.istore 4, 2) := by decide +kernel
theorem dX10_stays_29 : decode cX10_stays 29 = .ok (.iconst 0, 1) := by decide +kernel
theorem dX10_stays_30 : decode cX10_stays 30 = .ok (.istore 5, 2) := by decide +kernel
theorem dX10_stays_32 : decode cX10_stays 32 = .ok (.iconst 0, 1) := by decide +kernel
theorem dX10_stays_33 : decode cX10_stays 33 = .ok (.istore 6, 2) := by decide +kernel
theorem dX10_stays_35 : decode cX10_stays 35 = .ok (.iload 6, 2) := by decide +kernel
theorem dX10_stays_37 : decode cX10_stays 37 = .ok (.iload_n 3, 1) := by decide +kernel
theorem dX10_stays_38 : decode cX10_stays 38 = .ok (.invokestatic 119, 3) := by decide +kernel
theorem dX10_stays_41 : decode cX10_stays 41 = .ok (.if_icmp .ge 16, 3) := by decide +kernel
theorem dX10_stays_44 : decode cX10_stays 44 = .ok (.iload 4, 2) := by decide +kernel
theorem dX10_stays_46 : decode cX10_stays 46 = .ok (.bipush 10, 2) := by decide +kernel
theorem dX10_stays_48 : decode cX10_stays 48 = .ok (.imul, 1) := by decide +kernel
theorem dX10_stays_49 : decode cX10_stays 49 = .ok (.istore 4, 2) := by decide +kernel
theorem dX10_stays_51 : decode cX10_stays 51 = .ok (.iinc 6 1, 3) := by decide +kernel
theorem dX10_stays_54 : decode cX10_stays 54 = .ok (.goto (-19), 3) := by decide +kernel
theorem dX10_stays_57 : decode cX10_stays 57 = .ok (.iconst 0, 1) := by decide +kernel
theorem dX10_stays_58 : decode cX10_stays 58 = .ok (.istore 6, 2) := by decide +kernel
theorem dX10_stays_60 : decode cX10_stays 60 = .ok (.iload 6, 2) := by decide +kernel
theorem dX10_stays_62 : decode cX10_stays 62 = .ok (.iconst 1, 1) := by decide +kernel
theorem dX10_stays_63 : decode cX10_stays 63 = .ok (.aload_n 0, 1) := by decide +kernel
theorem dX10_stays_64 : decode cX10_stays 64 = .ok (.getfield 13, 3) := by decide +kernel
theorem dX10_stays_67 : decode cX10_stays 67 = .ok (.iconst 0, 1) := by decide +kernel
theorem dX10_stays_68 : decode cX10_stays 68 = .ok (.iaload, 1) := by decide +kernel
theorem dX10_stays_69 : decode cX10_stays 69 = .ok (.ishl, 1) := by decide +kernel
theorem dX10_stays_70 : decode cX10_stays 70 = .ok (.if_icmp .ge 161, 3) := by decide +kernel
theorem dX10_stays_73 : decode cX10_stays 73 = .ok (.aload_n 0, 1) := by decide +kernel
theorem dX10_stays_74 : decode cX10_stays 74 = .ok (.getfield 34, 3) := by decide +kernel
theorem dX10_stays_77 : decode cX10_stays 77 = .ok (.iload 6, 2) := by decide +kernel
theorem dX10_stays_79 : decode cX10_stays 79 = .ok (.iconst 0, 1) := by decide +kernel
theorem dX10_stays_80 : decode cX10_stays 80 = .ok (.iastore, 1) := by decide +kernel
theorem dX10_stays_81 : decode cX10_stays 81 = .ok (.iload 6, 2) := by decide +kernel
theorem dX10_stays_83 : decode cX10_stays 83 = .ok (.iload_n 3, 1) := by decide +kernel
theorem dX10_stays_84 : decode cX10_stays 84 = .ok (.iconst (-1), 1) := by decide +kernel
theorem dX10_stays_85 : decode cX10_stays 85 = .ok (.ixor, 1) := by decide +kernel
theorem dX10_stays_86 : decode cX10_stays 86 = .ok (.iand, 1) := by decide +kernel
theorem dX10_stays_87 : decode cX10_stays 87 = .ok (.ifCond .ne 138, 3) := by decide +kernel
theorem dX10_stays_90 : decode cX10_stays 90 = .ok (.iconst 1, 1) := by decide +kernel
theorem dX10_stays_91 : decode cX10_stays 91 = .ok (.istore 7, 2) := by decide +kernel
theorem dX10_stays_93 : decode cX10_stays 93 = .ok (.aload_n 0, 1) := by decide +kernel
theorem dX10_stays_94 : decode cX10_stays 94 = .ok (.iload 6, 2) := by decide +kernel
theorem dX10_stays_96 : decode cX10_stays 96 = .ok (.invokevirtual 104, 3) := by decide +kernel
theorem dX10_stays_99 : decode cX10_stays 99 = .ok (.ifCond .eq 7, 3) := by decide +kernel
theorem dX10_stays_102 : decode cX10_stays 102 = .ok (.iconst 1, 1) := by decide +kernel
theorem dX10_stays_103 : decode cX10_stays 103 = .ok (.goto 4, 3) := by decide +kernel
theorem dX10_stays_106 : decode cX10_stays 106 = .ok (.iconst 0, 1) := by decide +kernel
theorem dX10_stays_107 : decode cX10_stays 107 = .ok (.istore 8, 2) := by decide +kernel
theorem dX10_stays_109 : decode cX10_stays 109 = .ok (.iconst 0, 1) := by decide +kernel
theorem dX10_stays_110 : decode cX10_stays 110 = .ok (.istore 9, 2) := by decide +kernel
theorem dX10_stays_112 : decode cX10_stays 112 = .ok (.iload 9, 2) := by decide +kernel
theorem dX10_stays_114 : decode cX10_stays 114 = .ok (.aload_n 0, 1) := by decide +kernel
theorem dX10_stays_115 : decode cX10_stays 115 = .ok (.getfield 13, 3) := by decide +kernel
theorem dX10_stays_118 : decode cX10_stays 118 = .ok (.iconst 0, 1) := by decide +kernel
theorem dX10_stays_119 : decode cX10_stays 119 = .ok (.iaload, 1) := by decide +kernel
theorem dX10_stays_120 : decode cX10_stays 120 = .ok (.if_icmp .ge 86, 3) := by decide +kernel
theorem dX10_stays_123 : decode cX10_stays 123 = .ok (.iload 6, 2) := by decide +kernel
theorem dX10_stays_125 : decode cX10_stays 125 = .ok (.iload 9, 2) := by decide +kernel
theorem dX10_stays_127 : decode cX10_stays 127 = .ok (.ishr, 1) := by decide +kernel
theorem dX10_stays_128 : decode cX10_stays 128 = .ok (.iconst 1, 1) := by decide +kernel
theorem dX10_stays_129 : decode cX10_stays 129 = .ok (.iand, 1) := by decide +kernel
theorem dX10_stays_130 : decode cX10_stays 130 = .ok (.iconst 1, 1) := by decide +kernel
theorem dX10_stays_131 : decode cX10_stays 131 = .ok (.if_icmp .ne 7, 3) := by decide +kernel
theorem dX10_stays_134 : decode cX10_stays 134 = .ok (.iconst 1, 1) := by decide +kernel
theorem dX10_stays_135 : decode cX10_stays 135 = .ok (.goto 4, 3) := by decide +kernel
theorem dX10_stays_138 : decode cX10_stays 138 = .ok (.iconst 0, 1) := by decide +kernel
theorem dX10_stays_139 : decode cX10_stays 139 = .ok (.istore 10, 2) := by decide +kernel
theorem dX10_stays_141 : decode cX10_stays 141 = .ok (.iload 7, 2) := by decide +kernel
theorem dX10_stays_143 : decode cX10_stays 143 = .ok (.iload_n 3, 1) := by decide +kernel
theorem dX10_stays_144 : decode cX10_stays 144 = .ok (.iload 9, 2) := by decide +kernel
theorem dX10_stays_146 : decode cX10_stays 146 = .ok (.ishr, 1) := by decide +kernel
theorem dX10_stays_147 : decode cX10_stays 147 = .ok (.iconst 1, 1) := by decide +kernel
theorem dX10_stays_148 : decode cX10_stays 148 = .ok (.iand, 1) := by decide +kernel
theorem dX10_stays_149 : decode cX10_stays 149 = .ok (.ifCond .ne 7, 3) := by decide +kernel
theorem dX10_stays_152 : decode cX10_stays 152 = .ok (.iconst 1, 1) := by decide +kernel
theorem dX10_stays_153 : decode cX10_stays 153 = .ok (.goto 16, 3) := by decide +kernel
theorem dX10_stays_156 : decode cX10_stays 156 = .ok (.iload 10, 2) := by decide +kernel
theorem dX10_stays_158 : decode cX10_stays 158 = .ok (.ifCond .eq 7, 3) := by decide +kernel
theorem dX10_stays_161 : decode cX10_stays 161 = .ok (.iload_n 1, 1) := by decide +kernel
theorem dX10_stays_162 : decode cX10_stays 162 = .ok (.goto 7, 3) := by decide +kernel
theorem dX10_stays_165 : decode cX10_stays 165 = .ok (.bipush 10, 2) := by decide +kernel
theorem dX10_stays_167 : decode cX10_stays 167 = .ok (.iload_n 1, 1) := by decide +kernel
theorem dX10_stays_168 : decode cX10_stays 168 = .ok (.isub, 1) := by decide +kernel
theorem dX10_stays_169 : decode cX10_stays 169 = .ok (.imul, 1) := by decide +kernel
theorem dX10_stays_170 : decode cX10_stays 170 = .ok (.istore 7, 2) := by decide +kernel
theorem dX10_stays_172 : decode cX10_stays 172 = .ok (.iload 8, 2) := by decide +kernel
theorem dX10_stays_174 : decode cX10_stays 174 = .ok (.iload 10, 2) := by decide +kernel
theorem dX10_stays_176 : decode cX10_stays 176 = .ok (.ifCond .eq 20, 3) := by decide +kernel
theorem dX10_stays_179 : decode cX10_stays 179 = .ok (.aload_n 0, 1) := by decide +kernel
theorem dX10_stays_180 : decode cX10_stays 180 = .ok (.getfield 34, 3) := by decide +kernel
theorem dX10_stays_183 : decode cX10_stays 183 = .ok (.iload 6, 2) := by decide +kernel
theorem dX10_stays_185 : decode cX10_stays 185 = .ok (.iconst 1, 1) := by decide +kernel
theorem dX10_stays_186 : decode cX10_stays 186 = .ok (.iload 9, 2) := by decide +kernel
theorem dX10_stays_188 : decode cX10_stays 188 = .ok (.ishl, 1) := by decide +kernel
theorem dX10_stays_189 : decode cX10_stays 189 = .ok (.iconst (-1), 1) := by decide +kernel
theorem dX10_stays_190 : decode cX10_stays 190 = .ok (.ixor, 1) := by decide +kernel
theorem dX10_stays_191 : decode cX10_stays 191 = .ok (.iand, 1) := by decide +kernel
theorem dX10_stays_192 : decode cX10_stays 192 = .ok (.iaload, 1) := by decide +kernel
theorem dX10_stays_193 : decode cX10_stays 193 = .ok (.goto 4, 3) := by decide +kernel
theorem dX10_stays_196 : decode cX10_stays 196 = .ok (.iconst 0, 1) := by decide +kernel
theorem dX10_stays_197 : decode cX10_stays 197 = .ok (.ior, 1) := by decide +kernel
theorem dX10_stays_198 : decode cX10_stays 198 = .ok (.istore 8, 2) := by decide +kernel
theorem dX10_stays_200 : decode cX10_stays 200 = .ok (.iinc 9 1, 3) := by decide +kernel
theorem dX10_stays_203 : decode cX10_stays 203 = .ok (.goto (-91), 3) := by decide +kernel
theorem dX10_stays_206 : decode cX10_stays 206 = .ok (.aload_n 0, 1) := by decide +kernel
theorem dX10_stays_207 : decode cX10_stays 207 = .ok (.getfield 34, 3) := by decide +kernel
theorem dX10_stays_210 : decode cX10_stays 210 = .ok (.iload 6, 2) := by decide +kernel
theorem dX10_stays_212 : decode cX10_stays 212 = .ok (.iload 8, 2) := by decide +kernel
theorem dX10_stays_214 : decode cX10_stays 214 = .ok (.iastore, 1) := by decide +kernel
theorem dX10_stays_215 : decode cX10_stays 215 = .ok (.iload 5, 2) := by decide +kernel
theorem dX10_stays_217 : decode cX10_stays 217 = .ok (.iload 8, 2) := by decide +kernel
theorem dX10_stays_219 : decode cX10_stays 219 = .ok (.iload 7, 2) := by decide +kernel
theorem dX10_stays_221 : decode cX10_stays 221 = .ok (.imul, 1) := by decide +kernel
theorem dX10_stays_222 : decode cX10_stays 222 = .ok (.iadd, 1) := by decide +kernel
theorem dX10_stays_223 : decode cX10_stays 223 = .ok (.istore 5, 2) := by decide +kernel
theorem dX10_stays_225 : decode cX10_stays 225 = .ok (.iinc 6 1, 3) := by decide +kernel
theorem dX10_stays_228 : decode cX10_stays 228 = .ok (.goto (-168), 3) := by decide +kernel
theorem dX10_stays_231 : decode cX10_stays 231 = .ok (.iload 5, 2) := by decide +kernel
theorem dX10_stays_233 : decode cX10_stays 233 = .ok (.istore 6, 2) := by decide +kernel
theorem dX10_stays_235 : decode cX10_stays 235 = .ok (.iload 4, 2) := by decide +kernel
theorem dX10_stays_237 : decode cX10_stays 237 = .ok (.istore 7, 2) := by decide +kernel
theorem dX10_stays_239 : decode cX10_stays 239 = .ok (.iload 7, 2) := by decide +kernel
theorem dX10_stays_241 : decode cX10_stays 241 = .ok (.ifCond .le 21, 3) := by decide +kernel
theorem dX10_stays_244 : decode cX10_stays 244 = .ok (.iload 6, 2) := by decide +kernel
theorem dX10_stays_246 : decode cX10_stays 246 = .ok (.iload 7, 2) := by decide +kernel
theorem dX10_stays_248 : decode cX10_stays 248 = .ok (.irem, 1) := by decide +kernel
theorem dX10_stays_249 : decode cX10_stays 249 = .ok (.istore 8, 2) := by decide +kernel
theorem dX10_stays_251 : decode cX10_stays 251 = .ok (.iload 7, 2) := by decide +kernel
theorem dX10_stays_253 : decode cX10_stays 253 = .ok (.istore 6, 2) := by decide +kernel
theorem dX10_stays_255 : decode cX10_stays 255 = .ok (.iload 8, 2) := by decide +kernel
theorem dX10_stays_257 : decode cX10_stays 257 = .ok (.istore 7, 2) := by decide +kernel
theorem dX10_stays_259 : decode cX10_stays 259 = .ok (.goto (-20), 3) := by decide +kernel
theorem dX10_stays_262 : decode cX10_stays 262 = .ok (.iload_n 2, 1) := by decide +kernel
theorem dX10_stays_263 : decode cX10_stays 263 = .ok (.ifCond .ne 11, 3) := by decide +kernel
theorem dX10_stays_266 : decode cX10_stays 266 = .ok (.iload 5, 2) := by decide +kernel
theorem dX10_stays_268 : decode cX10_stays 268 = .ok (.iload 6, 2) := by decide +kernel
theorem dX10_stays_270 : decode cX10_stays 270 = .ok (.idiv, 1) := by decide +kernel
theorem dX10_stays_271 : decode cX10_stays 271 = .ok (.goto 8, 3) := by decide +kernel
theorem dX10_stays_274 : decode cX10_stays 274 = .ok (.iload 4, 2) := by decide +kernel
theorem dX10_stays_276 : decode cX10_stays 276 = .ok (.iload 6, 2) := by decide +kernel
theorem dX10_stays_278 : decode cX10_stays 278 = .ok (.idiv, 1) := by decide +kernel
theorem dX10_stays_279 : decode cX10_stays 279 = .ok (.ireturn, 1) := by decide +kernel
theorem dX10_turn_0 : decode cX10_turn 0 = .ok (.iload_n 1, 1) := by decide +kernel
theorem dX10_turn_1 : decode cX10_turn 1 = .ok (.aload_n 0, 1) := by decide +kernel
theorem dX10_turn_2 : decode cX10_turn 2 = .ok (.getfield 13, 3) := by decide +kernel
theorem dX10_turn_5 : decode cX10_turn 5 = .ok (.iconst 0, 1) := by decide +kernel
theorem dX10_turn_6 : decode cX10_turn 6 = .ok (.iaload, 1) := by decide +kernel
theorem dX10_turn_7 : decode cX10_turn 7 = .ok (.irem, 1) := by decide +kernel
theorem dX10_turn_8 : decode cX10_turn 8 = .ok (.istore_n 2, 1) := by decide +kernel
theorem dX10_turn_9 : decode cX10_turn 9 = .ok (.aload_n 0, 1) := by decide +kernel
theorem dX10_turn_10 : decode cX10_turn 10 = .ok (.iload_n 2, 1) := by decide +kernel
theorem dX10_turn_11 : decode cX10_turn 11 = .ok (.invokevirtual 89, 3) := by decide +kernel
theorem dX10_turn_14 : decode cX10_turn 14 = .ok (.iconst 1, 1) := by decide +kernel
theorem dX10_turn_15 : decode cX10_turn 15 = .ok (.if_icmp .ne 13, 3) := by decide +kernel
theorem dX10_turn_18 : decode cX10_turn 18 = .ok (.aload_n 0, 1) := by decide +kernel
theorem dX10_turn_19 : decode cX10_turn 19 = .ok (.getfield 19, 3) := by decide +kernel
theorem dX10_turn_22 : decode cX10_turn 22 = .ok (.iload_n 2, 1) := by decide +kernel
theorem dX10_turn_23 : decode cX10_turn 23 = .ok (.iconst 2, 1) := by decide +kernel
theorem dX10_turn_24 : decode cX10_turn 24 = .ok (.iastore, 1) := by decide +kernel
theorem dX10_turn_25 : decode cX10_turn 25 = .ok (.goto 28, 3) := by decide +kernel
theorem dX10_turn_28 : decode cX10_turn 28 = .ok (.aload_n 0, 1) := by decide +kernel
theorem dX10_turn_29 : decode cX10_turn 29 = .ok (.iload_n 2, 1) := by decide +kernel
theorem dX10_turn_30 : decode cX10_turn 30 = .ok (.invokevirtual 89, 3) := by decide +kernel
theorem dX10_turn_33 : decode cX10_turn 33 = .ok (.iconst 2, 1) := by decide +kernel
theorem dX10_turn_34 : decode cX10_turn 34 = .ok (.if_icmp .ne 19, 3) := by decide +kernel
theorem dX10_turn_37 : decode cX10_turn 37 = .ok (.iload_n 1, 1) := by decide +kernel
theorem dX10_turn_38 : decode cX10_turn 38 = .ok (.bipush 16, 2) := by decide +kernel
theorem dX10_turn_40 : decode cX10_turn 40 = .ok (.idiv, 1) := by decide +kernel
theorem dX10_turn_41 : decode cX10_turn 41 = .ok (.iconst 2, 1) := by decide +kernel
theorem dX10_turn_42 : decode cX10_turn 42 = .ok (.irem, 1) := by decide +kernel
theorem dX10_turn_43 : decode cX10_turn 43 = .ok (.ifCond .ne 10, 3) := by decide +kernel
theorem dX10_turn_46 : decode cX10_turn 46 = .ok (.aload_n 0, 1) := by decide +kernel
theorem dX10_turn_47 : decode cX10_turn 47 = .ok (.getfield 19, 3) := by decide +kernel
theorem dX10_turn_50 : decode cX10_turn 50 = .ok (.iload_n 2, 1) := by decide +kernel
theorem dX10_turn_51 : decode cX10_turn 51 = .ok (.iconst 0, 1) := by decide +kernel
theorem dX10_turn_52 : decode cX10_turn 52 = .ok (.iastore, 1) := by decide +kernel
theorem dX10_turn_53 : decode cX10_turn 53 = .ok (.aload_n 0, 1) := by decide +kernel
theorem dX10_turn_54 : decode cX10_turn 54 = .ok (.aload_n 0, 1) := by decide +kernel
theorem dX10_turn_55 : decode cX10_turn 55 = .ok (.iconst 2, 1) := by decide +kernel
theorem dX10_turn_56 : decode cX10_turn 56 = .ok (.invokevirtual 92, 3) := by decide +kernel
theorem dX10_turn_59 : decode cX10_turn 59 = .ok (.invokevirtual 104, 3) := by decide +kernel
theorem dX10_turn_62 : decode cX10_turn 62 = .ok (.ifCond .eq 8, 3) := by decide +kernel
theorem dX10_turn_65 : decode cX10_turn 65 = .ok (.aload_n 0, 1) := by decide +kernel
theorem dX10_turn_66 : decode cX10_turn 66 = .ok (.invokevirtual 113, 3) := by decide +kernel
theorem dX10_turn_69 : decode cX10_turn 69 = .ok (.pop, 1) := by decide +kernel
theorem dX10_turn_70 : decode cX10_turn 70 = .ok (.aload_n 0, 1) := by decide +kernel
theorem dX10_turn_71 : decode cX10_turn 71 = .ok (.getfield 19, 3) := by decide +kernel
theorem dX10_turn_74 : decode cX10_turn 74 = .ok (.bipush 18, 2) := by decide +kernel
theorem dX10_turn_76 : decode cX10_turn 76 = .ok (.dup2, 1) := by decide +kernel
theorem dX10_turn_77 : decode cX10_turn 77 = .ok (.iaload, 1) := by decide +kernel
theorem dX10_turn_78 : decode cX10_turn 78 = .ok (.iconst 1, 1) := by decide +kernel
theorem dX10_turn_79 : decode cX10_turn 79 = .ok (.iadd, 1) := by decide +kernel
theorem dX10_turn_80 : decode cX10_turn 80 = .ok (.iastore, 1) := by decide +kernel
theorem dX10_turn_81 : decode cX10_turn 81 = .ok (.return_, 1) := by decide +kernel
theorem dX10_day_0 : decode cX10_day 0 = .ok (.iload_n 1, 1) := by decide +kernel
theorem dX10_day_1 : decode cX10_day 1 = .ok (.iconst 0, 1) := by decide +kernel
theorem dX10_day_2 : decode cX10_day 2 = .ok (.sipush 9999, 3) := by decide +kernel
theorem dX10_day_5 : decode cX10_day 5 = .ok (.invokestatic 50, 3) := by decide +kernel
theorem dX10_day_8 : decode cX10_day 8 = .ok (.ifCond .eq 22, 3) := by decide +kernel
theorem dX10_day_11 : decode cX10_day 11 = .ok (.iload_n 2, 1) := by decide +kernel
theorem dX10_day_12 : decode cX10_day 12 = .ok (.iconst 1, 1) := by decide +kernel
theorem dX10_day_13 : decode cX10_day 13 = .ok (.bipush 60, 2) := by decide +kernel
theorem dX10_day_15 : decode cX10_day 15 = .ok (.invokestatic 50, 3) := by decide +kernel
theorem dX10_day_18 : decode cX10_day 18 = .ok (.ifCond .eq 12, 3) := by decide +kernel
theorem dX10_day_21 : decode cX10_day 21 = .ok (.iload_n 3, 1) := by decide +kernel
theorem dX10_day_22 : decode cX10_day 22 = .ok (.iconst 0, 1) := by decide +kernel
theorem dX10_day_23 : decode cX10_day 23 = .ok (.iconst 1, 1) := by decide +kernel
theorem dX10_day_24 : decode cX10_day 24 = .ok (.invokestatic 50, 3) := by decide +kernel
theorem dX10_day_27 : decode cX10_day 27 = .ok (.ifCond .ne 5, 3) := by decide +kernel
theorem dX10_day_30 : decode cX10_day 30 = .ok (.iconst (-1), 1) := by decide +kernel
theorem dX10_day_31 : decode cX10_day 31 = .ok (.ireturn, 1) := by decide +kernel
theorem dX10_day_32 : decode cX10_day 32 = .ok (.iconst 0, 1) := by decide +kernel
theorem dX10_day_33 : decode cX10_day 33 = .ok (.istore 4, 2) := by decide +kernel
theorem dX10_day_35 : decode cX10_day 35 = .ok (.iload 4, 2) := by decide +kernel
theorem dX10_day_37 : decode cX10_day 37 = .ok (.bipush 21, 2) := by decide +kernel
theorem dX10_day_39 : decode cX10_day 39 = .ok (.if_icmp .ge 23, 3) := by decide +kernel
theorem dX10_day_42 : decode cX10_day 42 = .ok (.aload_n 0, 1) := by decide +kernel
theorem dX10_day_43 : decode cX10_day 43 = .ok (.getfield 37, 3) := by decide +kernel
theorem dX10_day_46 : decode cX10_day 46 = .ok (.iload 4, 2) := by decide +kernel
theorem dX10_day_48 : decode cX10_day 48 = .ok (.aload_n 0, 1) := by decide +kernel
theorem dX10_day_49 : decode cX10_day 49 = .ok (.getfield 19, 3) := by decide +kernel
theorem dX10_day_52 : decode cX10_day 52 = .ok (.iload 4, 2) := by decide +kernel
theorem dX10_day_54 : decode cX10_day 54 = .ok (.iaload, 1) := by decide +kernel
theorem dX10_day_55 : decode cX10_day 55 = .ok (.iastore, 1) := by decide +kernel
theorem dX10_day_56 : decode cX10_day 56 = .ok (.iinc 4 1, 3) := by decide +kernel
theorem dX10_day_59 : decode cX10_day 59 = .ok (.goto (-24), 3) := by decide +kernel
theorem dX10_day_62 : decode cX10_day 62 = .ok (.iconst 0, 1) := by decide +kernel
theorem dX10_day_63 : decode cX10_day 63 = .ok (.istore 4, 2) := by decide +kernel
theorem dX10_day_65 : decode cX10_day 65 = .ok (.iload 4, 2) := by decide +kernel
theorem dX10_day_67 : decode cX10_day 67 = .ok (.iload_n 2, 1) := by decide +kernel
theorem dX10_day_68 : decode cX10_day 68 = .ok (.if_icmp .ge 41, 3) := by decide +kernel
theorem dX10_day_71 : decode cX10_day 71 = .ok (.ldc2_w 138, 3) := by decide +kernel
theorem dX10_day_74 : decode cX10_day 74 = .ok (.iload_n 1, 1) := by decide +kernel
theorem dX10_day_75 : decode cX10_day 75 = .ok (.i2l, 1) := by decide +kernel
theorem dX10_day_76 : decode cX10_day 76 = .ok (.lmul, 1) := by decide +kernel
theorem dX10_day_77 : decode cX10_day 77 = .ok (.ldc2_w 140, 3) := by decide +kernel
theorem dX10_day_80 : decode cX10_day 80 = .ok (.iload 4, 2) := by decide +kernel
theorem dX10_day_82 : decode cX10_day 82 = .ok (.i2l, 1) := by decide +kernel
theorem dX10_day_83 : decode cX10_day 83 = .ok (.lmul, 1) := by decide +kernel
theorem dX10_day_84 : decode cX10_day 84 = .ok (.ladd, 1) := by decide +kernel
theorem dX10_day_85 : decode cX10_day 85 = .ok (.lconst 1, 1) := by decide +kernel
theorem dX10_day_86 : decode cX10_day 86 = .ok (.ladd, 1) := by decide +kernel
theorem dX10_day_87 : decode cX10_day 87 = .ok (.lstore 5, 2) := by decide +kernel
theorem dX10_day_89 : decode cX10_day 89 = .ok (.aload_n 0, 1) := by decide +kernel
theorem dX10_day_90 : decode cX10_day 90 = .ok (.lload 5, 2) := by decide +kernel
theorem dX10_day_92 : decode cX10_day 92 = .ok (.lload 5, 2) := by decide +kernel
theorem dX10_day_94 : decode cX10_day 94 = .ok (.lmul, 1) := by decide +kernel
theorem dX10_day_95 : decode cX10_day 95 = .ok (.ldc2_w 142, 3) := by decide +kernel
theorem dX10_day_98 : decode cX10_day 98 = .ok (.lrem, 1) := by decide +kernel
theorem dX10_day_99 : decode cX10_day 99 = .ok (.l2i, 1) := by decide +kernel
theorem dX10_day_100 : decode cX10_day 100 = .ok (.invokevirtual 144, 3) := by decide +kernel
theorem dX10_day_103 : decode cX10_day 103 = .ok (.iinc 4 1, 3) := by decide +kernel
theorem dX10_day_106 : decode cX10_day 106 = .ok (.goto (-41), 3) := by decide +kernel
theorem dX10_day_109 : decode cX10_day 109 = .ok (.iload_n 3, 1) := by decide +kernel
theorem dX10_day_110 : decode cX10_day 110 = .ok (.ifCond .ne 21, 3) := by decide +kernel
theorem dX10_day_113 : decode cX10_day 113 = .ok (.aload_n 0, 1) := by decide +kernel
theorem dX10_day_114 : decode cX10_day 114 = .ok (.getfield 19, 3) := by decide +kernel
theorem dX10_day_117 : decode cX10_day 117 = .ok (.bipush 19, 2) := by decide +kernel
theorem dX10_day_119 : decode cX10_day 119 = .ok (.iaload, 1) := by decide +kernel
theorem dX10_day_120 : decode cX10_day 120 = .ok (.aload_n 0, 1) := by decide +kernel
theorem dX10_day_121 : decode cX10_day 121 = .ok (.getfield 37, 3) := by decide +kernel
theorem dX10_day_124 : decode cX10_day 124 = .ok (.bipush 19, 2) := by decide +kernel
theorem dX10_day_126 : decode cX10_day 126 = .ok (.iaload, 1) := by decide +kernel
theorem dX10_day_127 : decode cX10_day 127 = .ok (.isub, 1) := by decide +kernel
theorem dX10_day_128 : decode cX10_day 128 = .ok (.goto 18, 3) := by decide +kernel
theorem dX10_day_131 : decode cX10_day 131 = .ok (.aload_n 0, 1) := by decide +kernel
theorem dX10_day_132 : decode cX10_day 132 = .ok (.getfield 19, 3) := by decide +kernel
theorem dX10_day_135 : decode cX10_day 135 = .ok (.bipush 20, 2) := by decide +kernel
theorem dX10_day_137 : decode cX10_day 137 = .ok (.iaload, 1) := by decide +kernel
theorem dX10_day_138 : decode cX10_day 138 = .ok (.aload_n 0, 1) := by decide +kernel
theorem dX10_day_139 : decode cX10_day 139 = .ok (.getfield 37, 3) := by decide +kernel
theorem dX10_day_142 : decode cX10_day 142 = .ok (.bipush 20, 2) := by decide +kernel
theorem dX10_day_144 : decode cX10_day 144 = .ok (.iaload, 1) := by decide +kernel
theorem dX10_day_145 : decode cX10_day 145 = .ok (.isub, 1) := by decide +kernel
theorem dX10_day_146 : decode cX10_day 146 = .ok (.istore 4, 2) := by decide +kernel
theorem dX10_day_148 : decode cX10_day 148 = .ok (.iconst 0, 1) := by decide +kernel
theorem dX10_day_149 : decode cX10_day 149 = .ok (.istore 5, 2) := by decide +kernel
theorem dX10_day_151 : decode cX10_day 151 = .ok (.iload 5, 2) := by decide +kernel
theorem dX10_day_153 : decode cX10_day 153 = .ok (.bipush 21, 2) := by decide +kernel
theorem dX10_day_155 : decode cX10_day 155 = .ok (.if_icmp .ge 23, 3) := by decide +kernel
theorem dX10_day_158 : decode cX10_day 158 = .ok (.aload_n 0, 1) := by decide +kernel
theorem dX10_day_159 : decode cX10_day 159 = .ok (.getfield 19, 3) := by decide +kernel
theorem dX10_day_162 : decode cX10_day 162 = .ok (.iload 5, 2) := by decide +kernel
theorem dX10_day_164 : decode cX10_day 164 = .ok (.aload_n 0, 1) := by decide +kernel
theorem dX10_day_165 : decode cX10_day 165 = .ok (.getfield 37, 3) := by decide +kernel
theorem dX10_day_168 : decode cX10_day 168 = .ok (.iload 5, 2) := by decide +kernel
theorem dX10_day_170 : decode cX10_day 170 = .ok (.iaload, 1) := by decide +kernel
theorem dX10_day_171 : decode cX10_day 171 = .ok (.iastore, 1) := by decide +kernel
theorem dX10_day_172 : decode cX10_day 172 = .ok (.iinc 5 1, 3) := by decide +kernel
theorem dX10_day_175 : decode cX10_day 175 = .ok (.goto (-24), 3) := by decide +kernel
theorem dX10_day_178 : decode cX10_day 178 = .ok (.iload 4, 2) := by decide +kernel
theorem dX10_day_180 : decode cX10_day 180 = .ok (.ireturn, 1) := by decide +kernel
theorem dX10_keep_0 : decode cX10_keep 0 = .ok (.aload_n 0, 1) := by decide +kernel
theorem dX10_keep_1 : decode cX10_keep 1 = .ok (.getfield 83, 3) := by decide +kernel
theorem dX10_keep_4 : decode cX10_keep 4 = .ok (.iconst 2, 1) := by decide +kernel
theorem dX10_keep_5 : decode cX10_keep 5 = .ok (.if_icmp .ne 6, 3) := by decide +kernel
theorem dX10_keep_8 : decode cX10_keep 8 = .ok (.bipush (-3), 2) := by decide +kernel
theorem dX10_keep_10 : decode cX10_keep 10 = .ok (.ireturn, 1) := by decide +kernel
theorem dX10_keep_11 : decode cX10_keep 11 = .ok (.iconst 0, 1) := by decide +kernel
theorem dX10_keep_12 : decode cX10_keep 12 = .ok (.istore_n 1, 1) := by decide +kernel
theorem dX10_keep_13 : decode cX10_keep 13 = .ok (.iload_n 1, 1) := by decide +kernel
theorem dX10_keep_14 : decode cX10_keep 14 = .ok (.bipush 21, 2) := by decide +kernel
theorem dX10_keep_16 : decode cX10_keep 16 = .ok (.if_icmp .ge 29, 3) := by decide +kernel
theorem dX10_keep_19 : decode cX10_keep 19 = .ok (.aload_n 0, 1) := by decide +kernel
theorem dX10_keep_20 : decode cX10_keep 20 = .ok (.getfield 25, 3) := by decide +kernel
theorem dX10_keep_23 : decode cX10_keep 23 = .ok (.bipush 21, 2) := by decide +kernel
theorem dX10_keep_25 : decode cX10_keep 25 = .ok (.aload_n 0, 1) := by decide +kernel
theorem dX10_keep_26 : decode cX10_keep 26 = .ok (.getfield 83, 3) := by decide +kernel
theorem dX10_keep_29 : decode cX10_keep 29 = .ok (.imul, 1) := by decide +kernel
theorem dX10_keep_30 : decode cX10_keep 30 = .ok (.iload_n 1, 1) := by decide +kernel
theorem dX10_keep_31 : decode cX10_keep 31 = .ok (.iadd, 1) := by decide +kernel
theorem dX10_keep_32 : decode cX10_keep 32 = .ok (.aload_n 0, 1) := by decide +kernel
theorem dX10_keep_33 : decode cX10_keep 33 = .ok (.getfield 19, 3) := by decide +kernel
theorem dX10_keep_36 : decode cX10_keep 36 = .ok (.iload_n 1, 1) := by decide +kernel
theorem dX10_keep_37 : decode cX10_keep 37 = .ok (.iaload, 1) := by decide +kernel
theorem dX10_keep_38 : decode cX10_keep 38 = .ok (.iastore, 1) := by decide +kernel
theorem dX10_keep_39 : decode cX10_keep 39 = .ok (.iinc 1 1, 3) := by decide +kernel
theorem dX10_keep_42 : decode cX10_keep 42 = .ok (.goto (-29), 3) := by decide +kernel
theorem dX10_keep_45 : decode cX10_keep 45 = .ok (.aload_n 0, 1) := by decide +kernel
theorem dX10_keep_46 : decode cX10_keep 46 = .ok (.dup, 1) := by decide +kernel
theorem dX10_keep_47 : decode cX10_keep 47 = .ok (.getfield 83, 3) := by decide +kernel
theorem dX10_keep_50 : decode cX10_keep 50 = .ok (.iconst 1, 1) := by decide +kernel
theorem dX10_keep_51 : decode cX10_keep 51 = .ok (.iadd, 1) := by decide +kernel
theorem dX10_keep_52 : decode cX10_keep 52 = .ok (.putfield 83, 3) := by decide +kernel
theorem dX10_keep_55 : decode cX10_keep 55 = .ok (.aload_n 0, 1) := by decide +kernel
theorem dX10_keep_56 : decode cX10_keep 56 = .ok (.getfield 83, 3) := by decide +kernel
theorem dX10_keep_59 : decode cX10_keep 59 = .ok (.ireturn, 1) := by decide +kernel
theorem dX10_back_0 : decode cX10_back 0 = .ok (.aload_n 0, 1) := by decide +kernel
theorem dX10_back_1 : decode cX10_back 1 = .ok (.getfield 83, 3) := by decide +kernel
theorem dX10_back_4 : decode cX10_back 4 = .ok (.ifCond .ne 6, 3) := by decide +kernel
theorem dX10_back_7 : decode cX10_back 7 = .ok (.bipush (-2), 2) := by decide +kernel
theorem dX10_back_9 : decode cX10_back 9 = .ok (.ireturn, 1) := by decide +kernel
theorem dX10_back_10 : decode cX10_back 10 = .ok (.aload_n 0, 1) := by decide +kernel
theorem dX10_back_11 : decode cX10_back 11 = .ok (.dup, 1) := by decide +kernel
theorem dX10_back_12 : decode cX10_back 12 = .ok (.getfield 83, 3) := by decide +kernel
theorem dX10_back_15 : decode cX10_back 15 = .ok (.iconst 1, 1) := by decide +kernel
theorem dX10_back_16 : decode cX10_back 16 = .ok (.isub, 1) := by decide +kernel
theorem dX10_back_17 : decode cX10_back 17 = .ok (.putfield 83, 3) := by decide +kernel
theorem dX10_back_20 : decode cX10_back 20 = .ok (.iconst 0, 1) := by decide +kernel
theorem dX10_back_21 : decode cX10_back 21 = .ok (.istore_n 1, 1) := by decide +kernel
theorem dX10_back_22 : decode cX10_back 22 = .ok (.iload_n 1, 1) := by decide +kernel
theorem dX10_back_23 : decode cX10_back 23 = .ok (.bipush 21, 2) := by decide +kernel
theorem dX10_back_25 : decode cX10_back 25 = .ok (.if_icmp .ge 29, 3) := by decide +kernel
theorem dX10_back_28 : decode cX10_back 28 = .ok (.aload_n 0, 1) := by decide +kernel
theorem dX10_back_29 : decode cX10_back 29 = .ok (.getfield 19, 3) := by decide +kernel
theorem dX10_back_32 : decode cX10_back 32 = .ok (.iload_n 1, 1) := by decide +kernel
theorem dX10_back_33 : decode cX10_back 33 = .ok (.aload_n 0, 1) := by decide +kernel
theorem dX10_back_34 : decode cX10_back 34 = .ok (.getfield 25, 3) := by decide +kernel
theorem dX10_back_37 : decode cX10_back 37 = .ok (.bipush 21, 2) := by decide +kernel
theorem dX10_back_39 : decode cX10_back 39 = .ok (.aload_n 0, 1) := by decide +kernel
theorem dX10_back_40 : decode cX10_back 40 = .ok (.getfield 83, 3) := by decide +kernel
theorem dX10_back_43 : decode cX10_back 43 = .ok (.imul, 1) := by decide +kernel
theorem dX10_back_44 : decode cX10_back 44 = .ok (.iload_n 1, 1) := by decide +kernel
theorem dX10_back_45 : decode cX10_back 45 = .ok (.iadd, 1) := by decide +kernel
theorem dX10_back_46 : decode cX10_back 46 = .ok (.iaload, 1) := by decide +kernel
theorem dX10_back_47 : decode cX10_back 47 = .ok (.iastore, 1) := by decide +kernel
theorem dX10_back_48 : decode cX10_back 48 = .ok (.iinc 1 1, 3) := by decide +kernel
theorem dX10_back_51 : decode cX10_back 51 = .ok (.goto (-29), 3) := by decide +kernel
theorem dX10_back_54 : decode cX10_back 54 = .ok (.aload_n 0, 1) := by decide +kernel
theorem dX10_back_55 : decode cX10_back 55 = .ok (.iconst 0, 1) := by decide +kernel
theorem dX10_back_56 : decode cX10_back 56 = .ok (.putfield 80, 3) := by decide +kernel
theorem dX10_back_59 : decode cX10_back 59 = .ok (.aload_n 0, 1) := by decide +kernel
theorem dX10_back_60 : decode cX10_back 60 = .ok (.getfield 83, 3) := by decide +kernel
theorem dX10_back_63 : decode cX10_back 63 = .ok (.ireturn, 1) := by decide +kernel
theorem dX10_count_0 : decode cX10_count 0 = .ok (.iload_n 1, 1) := by decide +kernel
theorem dX10_count_1 : decode cX10_count 1 = .ok (.tableswitch 161 0 12 #[67, 74, 81, 89, 98, 107, 116, 125, 133, 141, 146, 151, 156], 67) := by decide +kernel
theorem dX10_count_68 : decode cX10_count 68 = .ok (.aload_n 0, 1) := by decide +kernel
theorem dX10_count_69 : decode cX10_count 69 = .ok (.getfield 13, 3) := by decide +kernel
theorem dX10_count_72 : decode cX10_count 72 = .ok (.iconst 0, 1) := by decide +kernel
theorem dX10_count_73 : decode cX10_count 73 = .ok (.iaload, 1) := by decide +kernel
theorem dX10_count_74 : decode cX10_count 74 = .ok (.ireturn, 1) := by decide +kernel
theorem dX10_count_75 : decode cX10_count 75 = .ok (.aload_n 0, 1) := by decide +kernel
theorem dX10_count_76 : decode cX10_count 76 = .ok (.getfield 13, 3) := by decide +kernel
theorem dX10_count_79 : decode cX10_count 79 = .ok (.iconst 1, 1) := by decide +kernel
theorem dX10_count_80 : decode cX10_count 80 = .ok (.iaload, 1) := by decide +kernel
theorem dX10_count_81 : decode cX10_count 81 = .ok (.ireturn, 1) := by decide +kernel
theorem dX10_count_82 : decode cX10_count 82 = .ok (.aload_n 0, 1) := by decide +kernel
theorem dX10_count_83 : decode cX10_count 83 = .ok (.getfield 19, 3) := by decide +kernel
theorem dX10_count_86 : decode cX10_count 86 = .ok (.bipush 18, 2) := by decide +kernel
theorem dX10_count_88 : decode cX10_count 88 = .ok (.iaload, 1) := by decide +kernel
theorem dX10_count_89 : decode cX10_count 89 = .ok (.ireturn, 1) := by decide +kernel
theorem dX10_count_90 : decode cX10_count 90 = .ok (.aload_n 0, 1) := by decide +kernel
theorem dX10_count_91 : decode cX10_count 91 = .ok (.iconst 1, 1) := by decide +kernel
theorem dX10_count_92 : decode cX10_count 92 = .ok (.invokevirtual 92, 3) := by decide +kernel
theorem dX10_count_95 : decode cX10_count 95 = .ok (.invokestatic 119, 3) := by decide +kernel
theorem dX10_count_98 : decode cX10_count 98 = .ok (.ireturn, 1) := by decide +kernel
theorem dX10_count_99 : decode cX10_count 99 = .ok (.aload_n 0, 1) := by decide +kernel
theorem dX10_count_100 : decode cX10_count 100 = .ok (.iconst 2, 1) := by decide +kernel
theorem dX10_count_101 : decode cX10_count 101 = .ok (.invokevirtual 92, 3) := by decide +kernel
theorem dX10_count_104 : decode cX10_count 104 = .ok (.invokestatic 119, 3) := by decide +kernel
theorem dX10_count_107 : decode cX10_count 107 = .ok (.ireturn, 1) := by decide +kernel
theorem dX10_count_108 : decode cX10_count 108 = .ok (.aload_n 0, 1) := by decide +kernel
theorem dX10_count_109 : decode cX10_count 109 = .ok (.iconst 3, 1) := by decide +kernel
theorem dX10_count_110 : decode cX10_count 110 = .ok (.invokevirtual 92, 3) := by decide +kernel
theorem dX10_count_113 : decode cX10_count 113 = .ok (.invokestatic 119, 3) := by decide +kernel
theorem dX10_count_116 : decode cX10_count 116 = .ok (.ireturn, 1) := by decide +kernel
theorem dX10_count_117 : decode cX10_count 117 = .ok (.aload_n 0, 1) := by decide +kernel
theorem dX10_count_118 : decode cX10_count 118 = .ok (.iconst 4, 1) := by decide +kernel
theorem dX10_count_119 : decode cX10_count 119 = .ok (.invokevirtual 92, 3) := by decide +kernel
theorem dX10_count_122 : decode cX10_count 122 = .ok (.invokestatic 119, 3) := by decide +kernel
theorem dX10_count_125 : decode cX10_count 125 = .ok (.ireturn, 1) := by decide +kernel
theorem dX10_count_126 : decode cX10_count 126 = .ok (.aload_n 0, 1) := by decide +kernel
theorem dX10_count_127 : decode cX10_count 127 = .ok (.getfield 19, 3) := by decide +kernel
theorem dX10_count_130 : decode cX10_count 130 = .ok (.bipush 19, 2) := by decide +kernel
theorem dX10_count_132 : decode cX10_count 132 = .ok (.iaload, 1) := by decide +kernel
theorem dX10_count_133 : decode cX10_count 133 = .ok (.ireturn, 1) := by decide +kernel
theorem dX10_count_134 : decode cX10_count 134 = .ok (.aload_n 0, 1) := by decide +kernel
theorem dX10_count_135 : decode cX10_count 135 = .ok (.getfield 19, 3) := by decide +kernel
theorem dX10_count_138 : decode cX10_count 138 = .ok (.bipush 20, 2) := by decide +kernel
theorem dX10_count_140 : decode cX10_count 140 = .ok (.iaload, 1) := by decide +kernel
theorem dX10_count_141 : decode cX10_count 141 = .ok (.ireturn, 1) := by decide +kernel
theorem dX10_count_142 : decode cX10_count 142 = .ok (.aload_n 0, 1) := by decide +kernel
theorem dX10_count_143 : decode cX10_count 143 = .ok (.getfield 86, 3) := by decide +kernel
theorem dX10_count_146 : decode cX10_count 146 = .ok (.ireturn, 1) := by decide +kernel
theorem dX10_count_147 : decode cX10_count 147 = .ok (.aload_n 0, 1) := by decide +kernel
theorem dX10_count_148 : decode cX10_count 148 = .ok (.getfield 80, 3) := by decide +kernel
theorem dX10_count_151 : decode cX10_count 151 = .ok (.ireturn, 1) := by decide +kernel
theorem dX10_count_152 : decode cX10_count 152 = .ok (.aload_n 0, 1) := by decide +kernel
theorem dX10_count_153 : decode cX10_count 153 = .ok (.getfield 83, 3) := by decide +kernel
theorem dX10_count_156 : decode cX10_count 156 = .ok (.ireturn, 1) := by decide +kernel
theorem dX10_count_157 : decode cX10_count 157 = .ok (.aload_n 0, 1) := by decide +kernel
theorem dX10_count_158 : decode cX10_count 158 = .ok (.getfield 54, 3) := by decide +kernel
theorem dX10_count_161 : decode cX10_count 161 = .ok (.ireturn, 1) := by decide +kernel
theorem dX10_count_162 : decode cX10_count 162 = .ok (.iconst (-1), 1) := by decide +kernel
theorem dX10_count_163 : decode cX10_count 163 = .ok (.ireturn, 1) := by decide +kernel
theorem dJ6_bitCount_0f7a4_0 : decode cJ6_bitCount_0f7a4 0 = .ok (.iload_n 0, 1) := by decide +kernel
theorem dJ6_bitCount_0f7a4_1 : decode cJ6_bitCount_0f7a4 1 = .ok (.iload_n 0, 1) := by decide +kernel
theorem dJ6_bitCount_0f7a4_2 : decode cJ6_bitCount_0f7a4 2 = .ok (.iconst 1, 1) := by decide +kernel
theorem dJ6_bitCount_0f7a4_3 : decode cJ6_bitCount_0f7a4 3 = .ok (.iushr, 1) := by decide +kernel
theorem dJ6_bitCount_0f7a4_4 : decode cJ6_bitCount_0f7a4 4 = .ok (.ldc_w 265, 3) := by decide +kernel
theorem dJ6_bitCount_0f7a4_7 : decode cJ6_bitCount_0f7a4 7 = .ok (.iand, 1) := by decide +kernel
theorem dJ6_bitCount_0f7a4_8 : decode cJ6_bitCount_0f7a4 8 = .ok (.isub, 1) := by decide +kernel
theorem dJ6_bitCount_0f7a4_9 : decode cJ6_bitCount_0f7a4 9 = .ok (.istore_n 0, 1) := by decide +kernel
theorem dJ6_bitCount_0f7a4_10 : decode cJ6_bitCount_0f7a4 10 = .ok (.iload_n 0, 1) := by decide +kernel
theorem dJ6_bitCount_0f7a4_11 : decode cJ6_bitCount_0f7a4 11 = .ok (.ldc_w 266, 3) := by decide +kernel
theorem dJ6_bitCount_0f7a4_14 : decode cJ6_bitCount_0f7a4 14 = .ok (.iand, 1) := by decide +kernel
theorem dJ6_bitCount_0f7a4_15 : decode cJ6_bitCount_0f7a4 15 = .ok (.iload_n 0, 1) := by decide +kernel
theorem dJ6_bitCount_0f7a4_16 : decode cJ6_bitCount_0f7a4 16 = .ok (.iconst 2, 1) := by decide +kernel
theorem dJ6_bitCount_0f7a4_17 : decode cJ6_bitCount_0f7a4 17 = .ok (.iushr, 1) := by decide +kernel
theorem dJ6_bitCount_0f7a4_18 : decode cJ6_bitCount_0f7a4 18 = .ok (.ldc_w 266, 3) := by decide +kernel
theorem dJ6_bitCount_0f7a4_21 : decode cJ6_bitCount_0f7a4 21 = .ok (.iand, 1) := by decide +kernel
theorem dJ6_bitCount_0f7a4_22 : decode cJ6_bitCount_0f7a4 22 = .ok (.iadd, 1) := by decide +kernel
theorem dJ6_bitCount_0f7a4_23 : decode cJ6_bitCount_0f7a4 23 = .ok (.istore_n 0, 1) := by decide +kernel
theorem dJ6_bitCount_0f7a4_24 : decode cJ6_bitCount_0f7a4 24 = .ok (.iload_n 0, 1) := by decide +kernel
theorem dJ6_bitCount_0f7a4_25 : decode cJ6_bitCount_0f7a4 25 = .ok (.iload_n 0, 1) := by decide +kernel
theorem dJ6_bitCount_0f7a4_26 : decode cJ6_bitCount_0f7a4 26 = .ok (.iconst 4, 1) := by decide +kernel
theorem dJ6_bitCount_0f7a4_27 : decode cJ6_bitCount_0f7a4 27 = .ok (.iushr, 1) := by decide +kernel
theorem dJ6_bitCount_0f7a4_28 : decode cJ6_bitCount_0f7a4 28 = .ok (.iadd, 1) := by decide +kernel
theorem dJ6_bitCount_0f7a4_29 : decode cJ6_bitCount_0f7a4 29 = .ok (.ldc_w 267, 3) := by decide +kernel
theorem dJ6_bitCount_0f7a4_32 : decode cJ6_bitCount_0f7a4 32 = .ok (.iand, 1) := by decide +kernel
theorem dJ6_bitCount_0f7a4_33 : decode cJ6_bitCount_0f7a4 33 = .ok (.istore_n 0, 1) := by decide +kernel
theorem dJ6_bitCount_0f7a4_34 : decode cJ6_bitCount_0f7a4 34 = .ok (.iload_n 0, 1) := by decide +kernel
theorem dJ6_bitCount_0f7a4_35 : decode cJ6_bitCount_0f7a4 35 = .ok (.iload_n 0, 1) := by decide +kernel
theorem dJ6_bitCount_0f7a4_36 : decode cJ6_bitCount_0f7a4 36 = .ok (.bipush 8, 2) := by decide +kernel
theorem dJ6_bitCount_0f7a4_38 : decode cJ6_bitCount_0f7a4 38 = .ok (.iushr, 1) := by decide +kernel
theorem dJ6_bitCount_0f7a4_39 : decode cJ6_bitCount_0f7a4 39 = .ok (.iadd, 1) := by decide +kernel
theorem dJ6_bitCount_0f7a4_40 : decode cJ6_bitCount_0f7a4 40 = .ok (.istore_n 0, 1) := by decide +kernel
theorem dJ6_bitCount_0f7a4_41 : decode cJ6_bitCount_0f7a4 41 = .ok (.iload_n 0, 1) := by decide +kernel
theorem dJ6_bitCount_0f7a4_42 : decode cJ6_bitCount_0f7a4 42 = .ok (.iload_n 0, 1) := by decide +kernel
theorem dJ6_bitCount_0f7a4_43 : decode cJ6_bitCount_0f7a4 43 = .ok (.bipush 16, 2) := by decide +kernel
theorem dJ6_bitCount_0f7a4_45 : decode cJ6_bitCount_0f7a4 45 = .ok (.iushr, 1) := by decide +kernel
theorem dJ6_bitCount_0f7a4_46 : decode cJ6_bitCount_0f7a4 46 = .ok (.iadd, 1) := by decide +kernel
theorem dJ6_bitCount_0f7a4_47 : decode cJ6_bitCount_0f7a4 47 = .ok (.istore_n 0, 1) := by decide +kernel
theorem dJ6_bitCount_0f7a4_48 : decode cJ6_bitCount_0f7a4 48 = .ok (.iload_n 0, 1) := by decide +kernel
theorem dJ6_bitCount_0f7a4_49 : decode cJ6_bitCount_0f7a4 49 = .ok (.bipush 63, 2) := by decide +kernel
theorem dJ6_bitCount_0f7a4_51 : decode cJ6_bitCount_0f7a4 51 = .ok (.iand, 1) := by decide +kernel
theorem dJ6_bitCount_0f7a4_52 : decode cJ6_bitCount_0f7a4 52 = .ok (.ireturn, 1) := by decide +kernel
theorem dJ9_abs_0f7a4_0 : decode cJ9_abs_0f7a4 0 = .ok (.iload_n 0, 1) := by decide +kernel
theorem dJ9_abs_0f7a4_1 : decode cJ9_abs_0f7a4 1 = .ok (.ifCond .ge 8, 3) := by decide +kernel
theorem dJ9_abs_0f7a4_4 : decode cJ9_abs_0f7a4 4 = .ok (.iload_n 0, 1) := by decide +kernel
theorem dJ9_abs_0f7a4_5 : decode cJ9_abs_0f7a4 5 = .ok (.ineg, 1) := by decide +kernel
theorem dJ9_abs_0f7a4_6 : decode cJ9_abs_0f7a4 6 = .ok (.goto 4, 3) := by decide +kernel
theorem dJ9_abs_0f7a4_9 : decode cJ9_abs_0f7a4 9 = .ok (.iload_n 0, 1) := by decide +kernel
theorem dJ9_abs_0f7a4_10 : decode cJ9_abs_0f7a4 10 = .ok (.ireturn, 1) := by decide +kernel
theorem dJ9_max_7cf53_0 : decode cJ9_max_7cf53 0 = .ok (.iload_n 0, 1) := by decide +kernel
theorem dJ9_max_7cf53_1 : decode cJ9_max_7cf53 1 = .ok (.iload_n 1, 1) := by decide +kernel
theorem dJ9_max_7cf53_2 : decode cJ9_max_7cf53 2 = .ok (.if_icmp .lt 7, 3) := by decide +kernel
theorem dJ9_max_7cf53_5 : decode cJ9_max_7cf53 5 = .ok (.iload_n 0, 1) := by decide +kernel
theorem dJ9_max_7cf53_6 : decode cJ9_max_7cf53 6 = .ok (.goto 4, 3) := by decide +kernel
theorem dJ9_max_7cf53_9 : decode cJ9_max_7cf53 9 = .ok (.iload_n 1, 1) := by decide +kernel
theorem dJ9_max_7cf53_10 : decode cJ9_max_7cf53 10 = .ok (.ireturn, 1) := by decide +kernel
theorem dJ9_min_7cf53_0 : decode cJ9_min_7cf53 0 = .ok (.iload_n 0, 1) := by decide +kernel
theorem dJ9_min_7cf53_1 : decode cJ9_min_7cf53 1 = .ok (.iload_n 1, 1) := by decide +kernel
theorem dJ9_min_7cf53_2 : decode cJ9_min_7cf53 2 = .ok (.if_icmp .gt 7, 3) := by decide +kernel
theorem dJ9_min_7cf53_5 : decode cJ9_min_7cf53 5 = .ok (.iload_n 0, 1) := by decide +kernel
theorem dJ9_min_7cf53_6 : decode cJ9_min_7cf53 6 = .ok (.goto 4, 3) := by decide +kernel
theorem dJ9_min_7cf53_9 : decode cJ9_min_7cf53 9 = .ok (.iload_n 1, 1) := by decide +kernel
theorem dJ9_min_7cf53_10 : decode cJ9_min_7cf53 10 = .ok (.ireturn, 1) := by decide +kernel
theorem dJ0_length_8abf5_0 : decode cJ0_length_8abf5 0 = .ok (.aload_n 0, 1) := by decide +kernel
theorem dJ0_length_8abf5_1 : decode cJ0_length_8abf5 1 = .ok (.getfield 9, 3) := by decide +kernel
theorem dJ0_length_8abf5_4 : decode cJ0_length_8abf5 4 = .ok (.arraylength, 1) := by decide +kernel
theorem dJ0_length_8abf5_5 : decode cJ0_length_8abf5 5 = .ok (.aload_n 0, 1) := by decide +kernel
theorem dJ0_length_8abf5_6 : decode cJ0_length_8abf5 6 = .ok (.invokevirtual 335, 3) := by decide +kernel
theorem dJ0_length_8abf5_9 : decode cJ0_length_8abf5 9 = .ok (.ishr, 1) := by decide +kernel
theorem dJ0_length_8abf5_10 : decode cJ0_length_8abf5 10 = .ok (.ireturn, 1) := by decide +kernel
theorem dJ0_charAt_5068e_0 : decode cJ0_charAt_5068e 0 = .ok (.aload_n 0, 1) := by decide +kernel
theorem dJ0_charAt_5068e_1 : decode cJ0_charAt_5068e 1 = .ok (.invokevirtual 492, 3) := by decide +kernel
theorem dJ0_charAt_5068e_4 : decode cJ0_charAt_5068e 4 = .ok (.ifCond .eq 12, 3) := by decide +kernel
theorem dJ0_charAt_5068e_7 : decode cJ0_charAt_5068e 7 = .ok (.aload_n 0, 1) := by decide +kernel
theorem dJ0_charAt_5068e_8 : decode cJ0_charAt_5068e 8 = .ok (.getfield 9, 3) := by decide +kernel
theorem dJ0_charAt_5068e_11 : decode cJ0_charAt_5068e 11 = .ok (.iload_n 1, 1) := by decide +kernel
theorem dJ0_charAt_5068e_12 : decode cJ0_charAt_5068e 12 = .ok (.invokestatic 495, 3) := by decide +kernel
theorem dJ0_charAt_5068e_15 : decode cJ0_charAt_5068e 15 = .ok (.ireturn, 1) := by decide +kernel
theorem dJ0_charAt_5068e_16 : decode cJ0_charAt_5068e 16 = .ok (.aload_n 0, 1) := by decide +kernel
theorem dJ0_charAt_5068e_17 : decode cJ0_charAt_5068e 17 = .ok (.getfield 9, 3) := by decide +kernel
theorem dJ0_charAt_5068e_20 : decode cJ0_charAt_5068e 20 = .ok (.iload_n 1, 1) := by decide +kernel
theorem dJ0_charAt_5068e_21 : decode cJ0_charAt_5068e 21 = .ok (.invokestatic 498, 3) := by decide +kernel
theorem dJ0_charAt_5068e_24 : decode cJ0_charAt_5068e 24 = .ok (.ireturn, 1) := by decide +kernel
theorem dJ0_coder_7d493_0 : decode cJ0_coder_7d493 0 = .ok (.getstatic 38, 3) := by decide +kernel
theorem dJ0_coder_7d493_3 : decode cJ0_coder_7d493 3 = .ok (.ifCond .eq 10, 3) := by decide +kernel
theorem dJ0_coder_7d493_6 : decode cJ0_coder_7d493 6 = .ok (.aload_n 0, 1) := by decide +kernel
theorem dJ0_coder_7d493_7 : decode cJ0_coder_7d493 7 = .ok (.getfield 15, 3) := by decide +kernel
theorem dJ0_coder_7d493_10 : decode cJ0_coder_7d493 10 = .ok (.goto 4, 3) := by decide +kernel
theorem dJ0_coder_7d493_13 : decode cJ0_coder_7d493 13 = .ok (.iconst 1, 1) := by decide +kernel
theorem dJ0_coder_7d493_14 : decode cJ0_coder_7d493 14 = .ok (.ireturn, 1) := by decide +kernel
theorem dJ0_isLatin1_aae02_0 : decode cJ0_isLatin1_aae02 0 = .ok (.getstatic 38, 3) := by decide +kernel
theorem dJ0_isLatin1_aae02_3 : decode cJ0_isLatin1_aae02 3 = .ok (.ifCond .eq 14, 3) := by decide +kernel
theorem dJ0_isLatin1_aae02_6 : decode cJ0_isLatin1_aae02 6 = .ok (.aload_n 0, 1) := by decide +kernel
theorem dJ0_isLatin1_aae02_7 : decode cJ0_isLatin1_aae02 7 = .ok (.getfield 15, 3) := by decide +kernel
theorem dJ0_isLatin1_aae02_10 : decode cJ0_isLatin1_aae02 10 = .ok (.ifCond .ne 7, 3) := by decide +kernel
theorem dJ0_isLatin1_aae02_13 : decode cJ0_isLatin1_aae02 13 = .ok (.iconst 1, 1) := by decide +kernel
theorem dJ0_isLatin1_aae02_14 : decode cJ0_isLatin1_aae02 14 = .ok (.goto 4, 3) := by decide +kernel
theorem dJ0_isLatin1_aae02_17 : decode cJ0_isLatin1_aae02 17 = .ok (.iconst 0, 1) := by decide +kernel
theorem dJ0_isLatin1_aae02_18 : decode cJ0_isLatin1_aae02 18 = .ok (.ireturn, 1) := by decide +kernel
theorem dJ0_checkIndex_df160_0 : decode cJ0_checkIndex_df160 0 = .ok (.iload_n 0, 1) := by decide +kernel
theorem dJ0_checkIndex_df160_1 : decode cJ0_checkIndex_df160 1 = .ok (.iload_n 1, 1) := by decide +kernel
theorem dJ0_checkIndex_df160_2 : decode cJ0_checkIndex_df160 2 = .ok (.getstatic 1053, 3) := by decide +kernel
theorem dJ0_checkIndex_df160_5 : decode cJ0_checkIndex_df160 5 = .ok (.invokestatic 1059, 3) := by decide +kernel
theorem dJ0_checkIndex_df160_8 : decode cJ0_checkIndex_df160 8 = .ok (.pop, 1) := by decide +kernel
theorem dJ0_checkIndex_df160_9 : decode cJ0_checkIndex_df160 9 = .ok (.return_, 1) := by decide +kernel
theorem dJ1_charAt_3b067_0 : decode cJ1_charAt_3b067 0 = .ok (.iload_n 1, 1) := by decide +kernel
theorem dJ1_charAt_3b067_1 : decode cJ1_charAt_3b067 1 = .ok (.aload_n 0, 1) := by decide +kernel
theorem dJ1_charAt_3b067_2 : decode cJ1_charAt_3b067 2 = .ok (.arraylength, 1) := by decide +kernel
theorem dJ1_charAt_3b067_3 : decode cJ1_charAt_3b067 3 = .ok (.invokestatic 9, 3) := by decide +kernel
theorem dJ1_charAt_3b067_6 : decode cJ1_charAt_3b067 6 = .ok (.aload_n 0, 1) := by decide +kernel
theorem dJ1_charAt_3b067_7 : decode cJ1_charAt_3b067 7 = .ok (.iload_n 1, 1) := by decide +kernel
theorem dJ1_charAt_3b067_8 : decode cJ1_charAt_3b067 8 = .ok (.baload, 1) := by decide +kernel
theorem dJ1_charAt_3b067_9 : decode cJ1_charAt_3b067 9 = .ok (.sipush 255, 3) := by decide +kernel
theorem dJ1_charAt_3b067_12 : decode cJ1_charAt_3b067 12 = .ok (.iand, 1) := by decide +kernel
theorem dJ1_charAt_3b067_13 : decode cJ1_charAt_3b067 13 = .ok (.i2c, 1) := by decide +kernel
theorem dJ1_charAt_3b067_14 : decode cJ1_charAt_3b067 14 = .ok (.ireturn, 1) := by decide +kernel
theorem dJ2_getChar_3b067_0 : decode cJ2_getChar_3b067 0 = .ok (.getstatic 44, 3) := by decide +kernel
theorem dJ2_getChar_3b067_3 : decode cJ2_getChar_3b067 3 = .ok (.ifCond .ne 25, 3) := by decide +kernel
theorem dJ2_getChar_3b067_6 : decode cJ2_getChar_3b067 6 = .ok (.iload_n 1, 1) := by decide +kernel
theorem dJ2_getChar_3b067_7 : decode cJ2_getChar_3b067 7 = .ok (.ifCond .lt 11, 3) := by decide +kernel
theorem dJ2_getChar_3b067_10 : decode cJ2_getChar_3b067 10 = .ok (.iload_n 1, 1) := by decide +kernel
theorem dJ2_getChar_3b067_11 : decode cJ2_getChar_3b067 11 = .ok (.aload_n 0, 1) := by decide +kernel
theorem dJ2_getChar_3b067_12 : decode cJ2_getChar_3b067 12 = .ok (.invokestatic 48, 3) := by decide +kernel
theorem dJ2_getChar_3b067_15 : decode cJ2_getChar_3b067 15 = .ok (.if_icmp .lt 13, 3) := by decide +kernel
theorem dJ2_getChar_3b067_18 : decode cJ2_getChar_3b067 18 = .ok (.new 52, 3) := by decide +kernel
theorem dJ2_getChar_3b067_21 : decode cJ2_getChar_3b067 21 = .ok (.dup, 1) := by decide +kernel
theorem dJ2_getChar_3b067_22 : decode cJ2_getChar_3b067 22 = .ok (.ldc 54, 2) := by decide +kernel
theorem dJ2_getChar_3b067_24 : decode cJ2_getChar_3b067 24 = .ok (.invokespecial 56, 3) := by decide +kernel
theorem dJ2_getChar_3b067_27 : decode cJ2_getChar_3b067 27 = .ok (.athrow, 1) := by decide +kernel
theorem dJ2_getChar_3b067_28 : decode cJ2_getChar_3b067 28 = .ok (.iload_n 1, 1) := by decide +kernel
theorem dJ2_getChar_3b067_29 : decode cJ2_getChar_3b067 29 = .ok (.iconst 1, 1) := by decide +kernel
theorem dJ2_getChar_3b067_30 : decode cJ2_getChar_3b067 30 = .ok (.ishl, 1) := by decide +kernel
theorem dJ2_getChar_3b067_31 : decode cJ2_getChar_3b067 31 = .ok (.istore_n 1, 1) := by decide +kernel
theorem dJ2_getChar_3b067_32 : decode cJ2_getChar_3b067 32 = .ok (.aload_n 0, 1) := by decide +kernel
theorem dJ2_getChar_3b067_33 : decode cJ2_getChar_3b067 33 = .ok (.iload_n 1, 1) := by decide +kernel
theorem dJ2_getChar_3b067_34 : decode cJ2_getChar_3b067 34 = .ok (.iinc 1 1, 3) := by decide +kernel
theorem dJ2_getChar_3b067_37 : decode cJ2_getChar_3b067 37 = .ok (.baload, 1) := by decide +kernel
theorem dJ2_getChar_3b067_38 : decode cJ2_getChar_3b067 38 = .ok (.sipush 255, 3) := by decide +kernel
theorem dJ2_getChar_3b067_41 : decode cJ2_getChar_3b067 41 = .ok (.iand, 1) := by decide +kernel
theorem dJ2_getChar_3b067_42 : decode cJ2_getChar_3b067 42 = .ok (.getstatic 59, 3) := by decide +kernel
theorem dJ2_getChar_3b067_45 : decode cJ2_getChar_3b067 45 = .ok (.ishl, 1) := by decide +kernel
theorem dJ2_getChar_3b067_46 : decode cJ2_getChar_3b067 46 = .ok (.aload_n 0, 1) := by decide +kernel
theorem dJ2_getChar_3b067_47 : decode cJ2_getChar_3b067 47 = .ok (.iload_n 1, 1) := by decide +kernel
theorem dJ2_getChar_3b067_48 : decode cJ2_getChar_3b067 48 = .ok (.baload, 1) := by decide +kernel
theorem dJ2_getChar_3b067_49 : decode cJ2_getChar_3b067 49 = .ok (.sipush 255, 3) := by decide +kernel
theorem dJ2_getChar_3b067_52 : decode cJ2_getChar_3b067 52 = .ok (.iand, 1) := by decide +kernel
theorem dJ2_getChar_3b067_53 : decode cJ2_getChar_3b067 53 = .ok (.getstatic 63, 3) := by decide +kernel
theorem dJ2_getChar_3b067_56 : decode cJ2_getChar_3b067 56 = .ok (.ishl, 1) := by decide +kernel
theorem dJ2_getChar_3b067_57 : decode cJ2_getChar_3b067 57 = .ok (.ior, 1) := by decide +kernel
theorem dJ2_getChar_3b067_58 : decode cJ2_getChar_3b067 58 = .ok (.i2c, 1) := by decide +kernel
theorem dJ2_getChar_3b067_59 : decode cJ2_getChar_3b067 59 = .ok (.ireturn, 1) := by decide +kernel
theorem dJ2_length_9d52b_0 : decode cJ2_length_9d52b 0 = .ok (.aload_n 0, 1) := by decide +kernel
theorem dJ2_length_9d52b_1 : decode cJ2_length_9d52b 1 = .ok (.arraylength, 1) := by decide +kernel
theorem dJ2_length_9d52b_2 : decode cJ2_length_9d52b 2 = .ok (.iconst 1, 1) := by decide +kernel
theorem dJ2_length_9d52b_3 : decode cJ2_length_9d52b 3 = .ok (.ishr, 1) := by decide +kernel
theorem dJ2_length_9d52b_4 : decode cJ2_length_9d52b 4 = .ok (.ireturn, 1) := by decide +kernel
theorem dJ2_charAt_3b067_0 : decode cJ2_charAt_3b067 0 = .ok (.iload_n 1, 1) := by decide +kernel
theorem dJ2_charAt_3b067_1 : decode cJ2_charAt_3b067 1 = .ok (.aload_n 0, 1) := by decide +kernel
theorem dJ2_charAt_3b067_2 : decode cJ2_charAt_3b067 2 = .ok (.invokestatic 67, 3) := by decide +kernel
theorem dJ2_charAt_3b067_5 : decode cJ2_charAt_3b067 5 = .ok (.aload_n 0, 1) := by decide +kernel
theorem dJ2_charAt_3b067_6 : decode cJ2_charAt_3b067 6 = .ok (.iload_n 1, 1) := by decide +kernel
theorem dJ2_charAt_3b067_7 : decode cJ2_charAt_3b067 7 = .ok (.invokestatic 71, 3) := by decide +kernel
theorem dJ2_charAt_3b067_10 : decode cJ2_charAt_3b067 10 = .ok (.ireturn, 1) := by decide +kernel
theorem dJ2_checkIndex_2214a_0 : decode cJ2_checkIndex_2214a 0 = .ok (.iload_n 0, 1) := by decide +kernel
theorem dJ2_checkIndex_2214a_1 : decode cJ2_checkIndex_2214a 1 = .ok (.aload_n 1, 1) := by decide +kernel
theorem dJ2_checkIndex_2214a_2 : decode cJ2_checkIndex_2214a 2 = .ok (.invokestatic 48, 3) := by decide +kernel
theorem dJ2_checkIndex_2214a_5 : decode cJ2_checkIndex_2214a 5 = .ok (.invokestatic 414, 3) := by decide +kernel
theorem dJ2_checkIndex_2214a_8 : decode cJ2_checkIndex_2214a 8 = .ok (.return_, 1) := by decide +kernel
theorem dJ3_checkIndex_8e157_0 : decode cJ3_checkIndex_8e157 0 = .ok (.iload_n 0, 1) := by decide +kernel
theorem dJ3_checkIndex_8e157_1 : decode cJ3_checkIndex_8e157 1 = .ok (.ifCond .lt 8, 3) := by decide +kernel
theorem dJ3_checkIndex_8e157_4 : decode cJ3_checkIndex_8e157 4 = .ok (.iload_n 0, 1) := by decide +kernel
theorem dJ3_checkIndex_8e157_5 : decode cJ3_checkIndex_8e157 5 = .ok (.iload_n 1, 1) := by decide +kernel
theorem dJ3_checkIndex_8e157_6 : decode cJ3_checkIndex_8e157 6 = .ok (.if_icmp .lt 10, 3) := by decide +kernel
theorem dJ3_checkIndex_8e157_9 : decode cJ3_checkIndex_8e157 9 = .ok (.aload_n 2, 1) := by decide +kernel
theorem dJ3_checkIndex_8e157_10 : decode cJ3_checkIndex_8e157 10 = .ok (.iload_n 0, 1) := by decide +kernel
theorem dJ3_checkIndex_8e157_11 : decode cJ3_checkIndex_8e157 11 = .ok (.iload_n 1, 1) := by decide +kernel
theorem dJ3_checkIndex_8e157_12 : decode cJ3_checkIndex_8e157 12 = .ok (.invokestatic 95, 3) := by decide +kernel
theorem dJ3_checkIndex_8e157_15 : decode cJ3_checkIndex_8e157 15 = .ok (.athrow, 1) := by decide +kernel
theorem dJ3_checkIndex_8e157_16 : decode cJ3_checkIndex_8e157 16 = .ok (.iload_n 0, 1) := by decide +kernel
theorem dJ3_checkIndex_8e157_17 : decode cJ3_checkIndex_8e157 17 = .ok (.ireturn, 1) := by decide +kernel
theorem dL_law_0 : decode cL_law 0 = .ok (.new 7, 3) := by decide +kernel
theorem dL_law_3 : decode cL_law 3 = .ok (.dup, 1) := by decide +kernel
theorem dL_law_4 : decode cL_law 4 = .ok (.invokespecial 9, 3) := by decide +kernel
theorem dL_law_7 : decode cL_law 7 = .ok (.astore_n 1, 1) := by decide +kernel
theorem dL_law_8 : decode cL_law 8 = .ok (.new 10, 3) := by decide +kernel
theorem dL_law_11 : decode cL_law 11 = .ok (.dup, 1) := by decide +kernel
theorem dL_law_12 : decode cL_law 12 = .ok (.invokespecial 12, 3) := by decide +kernel
theorem dL_law_15 : decode cL_law 15 = .ok (.astore_n 2, 1) := by decide +kernel
theorem dL_law_16 : decode cL_law 16 = .ok (.iconst 0, 1) := by decide +kernel
theorem dL_law_17 : decode cL_law 17 = .ok (.istore_n 3, 1) := by decide +kernel
theorem dL_law_18 : decode cL_law 18 = .ok (.iload_n 3, 1) := by decide +kernel
theorem dL_law_19 : decode cL_law 19 = .ok (.aload_n 0, 1) := by decide +kernel
theorem dL_law_20 : decode cL_law 20 = .ok (.arraylength, 1) := by decide +kernel
theorem dL_law_21 : decode cL_law 21 = .ok (.iconst 4, 1) := by decide +kernel
theorem dL_law_22 : decode cL_law 22 = .ok (.isub, 1) := by decide +kernel
theorem dL_law_23 : decode cL_law 23 = .ok (.if_icmp .gt 710, 3) := by decide +kernel
theorem dL_law_26 : decode cL_law 26 = .ok (.aload_n 0, 1) := by decide +kernel
theorem dL_law_27 : decode cL_law 27 = .ok (.iload_n 3, 1) := by decide +kernel
theorem dL_law_28 : decode cL_law 28 = .ok (.iaload, 1) := by decide +kernel
theorem dL_law_29 : decode cL_law 29 = .ok (.bipush 31, 2) := by decide +kernel
theorem dL_law_31 : decode cL_law 31 = .ok (.iand, 1) := by decide +kernel
theorem dL_law_32 : decode cL_law 32 = .ok (.tableswitch 695 0 26 #[124, 147, 160, 173, 186, 219, 242, 265, 288, 311, 334, 347, 360, 383, 396, 419, 442, 455, 488, 501, 514, 547, 570, 603, 646, 659, 672], 124) := by decide +kernel
theorem dL_law_156 : decode cL_law 156 = .ok (.aload_n 1, 1) := by decide +kernel
theorem dL_law_157 : decode cL_law 157 = .ok (.aload_n 0, 1) := by decide +kernel
theorem dL_law_158 : decode cL_law 158 = .ok (.iload_n 3, 1) := by decide +kernel
theorem dL_law_159 : decode cL_law 159 = .ok (.iconst 1, 1) := by decide +kernel
theorem dL_law_160 : decode cL_law 160 = .ok (.iadd, 1) := by decide +kernel
theorem dL_law_161 : decode cL_law 161 = .ok (.iaload, 1) := by decide +kernel
theorem dL_law_162 : decode cL_law 162 = .ok (.invokevirtual 13, 3) := by decide +kernel
theorem dL_law_165 : decode cL_law 165 = .ok (.aload_n 2, 1) := by decide +kernel
theorem dL_law_166 : decode cL_law 166 = .ok (.aload_n 0, 1) := by decide +kernel
theorem dL_law_167 : decode cL_law 167 = .ok (.iload_n 3, 1) := by decide +kernel
theorem dL_law_168 : decode cL_law 168 = .ok (.iconst 1, 1) := by decide +kernel
theorem dL_law_169 : decode cL_law 169 = .ok (.iadd, 1) := by decide +kernel
theorem dL_law_170 : decode cL_law 170 = .ok (.iaload, 1) := by decide +kernel
theorem dL_law_171 : decode cL_law 171 = .ok (.invokevirtual 17, 3) := by decide +kernel
theorem dL_law_174 : decode cL_law 174 = .ok (.if_icmp .eq 553, 3) := by decide +kernel
theorem dL_law_177 : decode cL_law 177 = .ok (.iconst 0, 1) := by decide +kernel
theorem dL_law_178 : decode cL_law 178 = .ok (.ireturn, 1) := by decide +kernel
theorem dL_law_179 : decode cL_law 179 = .ok (.aload_n 1, 1) := by decide +kernel
theorem dL_law_180 : decode cL_law 180 = .ok (.invokevirtual 18, 3) := by decide +kernel
theorem dL_law_183 : decode cL_law 183 = .ok (.aload_n 2, 1) := by decide +kernel
theorem dL_law_184 : decode cL_law 184 = .ok (.invokevirtual 22, 3) := by decide +kernel
theorem dL_law_187 : decode cL_law 187 = .ok (.if_icmp .eq 540, 3) := by decide +kernel
theorem dL_law_190 : decode cL_law 190 = .ok (.iconst 0, 1) := by decide +kernel
theorem dL_law_191 : decode cL_law 191 = .ok (.ireturn, 1) := by decide +kernel
theorem dL_law_192 : decode cL_law 192 = .ok (.aload_n 1, 1) := by decide +kernel
theorem dL_law_193 : decode cL_law 193 = .ok (.invokevirtual 23, 3) := by decide +kernel
theorem dL_law_196 : decode cL_law 196 = .ok (.aload_n 2, 1) := by decide +kernel
theorem dL_law_197 : decode cL_law 197 = .ok (.invokevirtual 26, 3) := by decide +kernel
theorem dL_law_200 : decode cL_law 200 = .ok (.if_icmp .eq 527, 3) := by decide +kernel
theorem dL_law_203 : decode cL_law 203 = .ok (.iconst 0, 1) := by decide +kernel
theorem dL_law_204 : decode cL_law 204 = .ok (.ireturn, 1) := by decide +kernel
theorem dL_law_205 : decode cL_law 205 = .ok (.aload_n 1, 1) := by decide +kernel
theorem dL_law_206 : decode cL_law 206 = .ok (.invokevirtual 27, 3) := by decide +kernel
theorem dL_law_209 : decode cL_law 209 = .ok (.aload_n 2, 1) := by decide +kernel
theorem dL_law_210 : decode cL_law 210 = .ok (.invokevirtual 30, 3) := by decide +kernel
theorem dL_law_213 : decode cL_law 213 = .ok (.if_icmp .eq 514, 3) := by decide +kernel
theorem dL_law_216 : decode cL_law 216 = .ok (.iconst 0, 1) := by decide +kernel
theorem dL_law_217 : decode cL_law 217 = .ok (.ireturn, 1) := by decide +kernel
theorem dL_law_218 : decode cL_law 218 = .ok (.aload_n 1, 1) := by decide +kernel
theorem dL_law_219 : decode cL_law 219 = .ok (.aload_n 0, 1) := by decide +kernel
theorem dL_law_220 : decode cL_law 220 = .ok (.iload_n 3, 1) := by decide +kernel
theorem dL_law_221 : decode cL_law 221 = .ok (.iconst 1, 1) := by decide +kernel
theorem dL_law_222 : decode cL_law 222 = .ok (.iadd, 1) := by decide +kernel
theorem dL_law_223 : decode cL_law 223 = .ok (.iaload, 1) := by decide +kernel
theorem dL_law_224 : decode cL_law 224 = .ok (.aload_n 0, 1) := by decide +kernel
theorem dL_law_225 : decode cL_law 225 = .ok (.iload_n 3, 1) := by decide +kernel
theorem dL_law_226 : decode cL_law 226 = .ok (.iconst 2, 1) := by decide +kernel
theorem dL_law_227 : decode cL_law 227 = .ok (.iadd, 1) := by decide +kernel
theorem dL_law_228 : decode cL_law 228 = .ok (.iaload, 1) := by decide +kernel
theorem dL_law_229 : decode cL_law 229 = .ok (.invokevirtual 31, 3) := by decide +kernel
theorem dL_law_232 : decode cL_law 232 = .ok (.aload_n 2, 1) := by decide +kernel
theorem dL_law_233 : decode cL_law 233 = .ok (.aload_n 0, 1) := by decide +kernel
theorem dL_law_234 : decode cL_law 234 = .ok (.iload_n 3, 1) := by decide +kernel
theorem dL_law_235 : decode cL_law 235 = .ok (.iconst 1, 1) := by decide +kernel
theorem dL_law_236 : decode cL_law 236 = .ok (.iadd, 1) := by decide +kernel
theorem dL_law_237 : decode cL_law 237 = .ok (.iaload, 1) := by decide +kernel
theorem dL_law_238 : decode cL_law 238 = .ok (.aload_n 0, 1) := by decide +kernel
theorem dL_law_239 : decode cL_law 239 = .ok (.iload_n 3, 1) := by decide +kernel
theorem dL_law_240 : decode cL_law 240 = .ok (.iconst 2, 1) := by decide +kernel
theorem dL_law_241 : decode cL_law 241 = .ok (.iadd, 1) := by decide +kernel
theorem dL_law_242 : decode cL_law 242 = .ok (.iaload, 1) := by decide +kernel
theorem dL_law_243 : decode cL_law 243 = .ok (.invokevirtual 35, 3) := by decide +kernel
theorem dL_law_246 : decode cL_law 246 = .ok (.if_icmp .eq 481, 3) := by decide +kernel
theorem dL_law_249 : decode cL_law 249 = .ok (.iconst 0, 1) := by decide +kernel
theorem dL_law_250 : decode cL_law 250 = .ok (.ireturn, 1) := by decide +kernel
theorem dL_law_251 : decode cL_law 251 = .ok (.aload_n 1, 1) := by decide +kernel
theorem dL_law_252 : decode cL_law 252 = .ok (.aload_n 0, 1) := by decide +kernel
theorem dL_law_253 : decode cL_law 253 = .ok (.iload_n 3, 1) := by decide +kernel
theorem dL_law_254 : decode cL_law 254 = .ok (.iconst 1, 1) := by decide +kernel
theorem dL_law_255 : decode cL_law 255 = .ok (.iadd, 1) := by decide +kernel
theorem dL_law_256 : decode cL_law 256 = .ok (.iaload, 1) := by decide +kernel
theorem dL_law_257 : decode cL_law 257 = .ok (.invokevirtual 36, 3) := by decide +kernel
theorem dL_law_260 : decode cL_law 260 = .ok (.aload_n 2, 1) := by decide +kernel
theorem dL_law_261 : decode cL_law 261 = .ok (.aload_n 0, 1) := by decide +kernel
theorem dL_law_262 : decode cL_law 262 = .ok (.iload_n 3, 1) := by decide +kernel
theorem dL_law_263 : decode cL_law 263 = .ok (.iconst 1, 1) := by decide +kernel
theorem dL_law_264 : decode cL_law 264 = .ok (.iadd, 1) := by decide +kernel
theorem dL_law_265 : decode cL_law 265 = .ok (.iaload, 1) := by decide +kernel
theorem dL_law_266 : decode cL_law 266 = .ok (.invokevirtual 39, 3) := by decide +kernel
theorem dL_law_269 : decode cL_law 269 = .ok (.if_icmp .eq 458, 3) := by decide +kernel
theorem dL_law_272 : decode cL_law 272 = .ok (.iconst 0, 1) := by decide +kernel
theorem dL_law_273 : decode cL_law 273 = .ok (.ireturn, 1) := by decide +kernel
theorem dL_law_274 : decode cL_law 274 = .ok (.aload_n 1, 1) := by decide +kernel
theorem dL_law_275 : decode cL_law 275 = .ok (.aload_n 0, 1) := by decide +kernel
theorem dL_law_276 : decode cL_law 276 = .ok (.iload_n 3, 1) := by decide +kernel
theorem dL_law_277 : decode cL_law 277 = .ok (.iconst 1, 1) := by decide +kernel
theorem dL_law_278 : decode cL_law 278 = .ok (.iadd, 1) := by decide +kernel
theorem dL_law_279 : decode cL_law 279 = .ok (.iaload, 1) := by decide +kernel
theorem dL_law_280 : decode cL_law 280 = .ok (.invokevirtual 40, 3) := by decide +kernel
theorem dL_law_283 : decode cL_law 283 = .ok (.aload_n 2, 1) := by decide +kernel
theorem dL_law_284 : decode cL_law 284 = .ok (.aload_n 0, 1) := by decide +kernel
theorem dL_law_285 : decode cL_law 285 = .ok (.iload_n 3, 1) := by decide +kernel
theorem dL_law_286 : decode cL_law 286 = .ok (.iconst 1, 1) := by decide +kernel
theorem dL_law_287 : decode cL_law 287 = .ok (.iadd, 1) := by decide +kernel
theorem dL_law_288 : decode cL_law 288 = .ok (.iaload, 1) := by decide +kernel
theorem dL_law_289 : decode cL_law 289 = .ok (.invokevirtual 43, 3) := by decide +kernel
theorem dL_law_292 : decode cL_law 292 = .ok (.if_icmp .eq 435, 3) := by decide +kernel
theorem dL_law_295 : decode cL_law 295 = .ok (.iconst 0, 1) := by decide +kernel
theorem dL_law_296 : decode cL_law 296 = .ok (.ireturn, 1) := by decide +kernel
theorem dL_law_297 : decode cL_law 297 = .ok (.aload_n 1, 1) := by decide +kernel
theorem dL_law_298 : decode cL_law 298 = .ok (.aload_n 0, 1) := by decide +kernel
theorem dL_law_299 : decode cL_law 299 = .ok (.iload_n 3, 1) := by decide +kernel
theorem dL_law_300 : decode cL_law 300 = .ok (.iconst 1, 1) := by decide +kernel
theorem dL_law_301 : decode cL_law 301 = .ok (.iadd, 1) := by decide +kernel
theorem dL_law_302 : decode cL_law 302 = .ok (.iaload, 1) := by decide +kernel
theorem dL_law_303 : decode cL_law 303 = .ok (.invokevirtual 44, 3) := by decide +kernel
theorem dL_law_306 : decode cL_law 306 = .ok (.aload_n 2, 1) := by decide +kernel
theorem dL_law_307 : decode cL_law 307 = .ok (.aload_n 0, 1) := by decide +kernel
theorem dL_law_308 : decode cL_law 308 = .ok (.iload_n 3, 1) := by decide +kernel
theorem dL_law_309 : decode cL_law 309 = .ok (.iconst 1, 1) := by decide +kernel
theorem dL_law_310 : decode cL_law 310 = .ok (.iadd, 1) := by decide +kernel
theorem dL_law_311 : decode cL_law 311 = .ok (.iaload, 1) := by decide +kernel
theorem dL_law_312 : decode cL_law 312 = .ok (.invokevirtual 47, 3) := by decide +kernel
theorem dL_law_315 : decode cL_law 315 = .ok (.if_icmp .eq 412, 3) := by decide +kernel
theorem dL_law_318 : decode cL_law 318 = .ok (.iconst 0, 1) := by decide +kernel
theorem dL_law_319 : decode cL_law 319 = .ok (.ireturn, 1) := by decide +kernel
theorem dL_law_320 : decode cL_law 320 = .ok (.aload_n 1, 1) := by decide +kernel
theorem dL_law_321 : decode cL_law 321 = .ok (.aload_n 0, 1) := by decide +kernel
theorem dL_law_322 : decode cL_law 322 = .ok (.iload_n 3, 1) := by decide +kernel
theorem dL_law_323 : decode cL_law 323 = .ok (.iconst 1, 1) := by decide +kernel
theorem dL_law_324 : decode cL_law 324 = .ok (.iadd, 1) := by decide +kernel
theorem dL_law_325 : decode cL_law 325 = .ok (.iaload, 1) := by decide +kernel
theorem dL_law_326 : decode cL_law 326 = .ok (.invokevirtual 48, 3) := by decide +kernel
theorem dL_law_329 : decode cL_law 329 = .ok (.aload_n 2, 1) := by decide +kernel
theorem dL_law_330 : decode cL_law 330 = .ok (.aload_n 0, 1) := by decide +kernel
theorem dL_law_331 : decode cL_law 331 = .ok (.iload_n 3, 1) := by decide +kernel
theorem dL_law_332 : decode cL_law 332 = .ok (.iconst 1, 1) := by decide +kernel
theorem dL_law_333 : decode cL_law 333 = .ok (.iadd, 1) := by decide +kernel
theorem dL_law_334 : decode cL_law 334 = .ok (.iaload, 1) := by decide +kernel
theorem dL_law_335 : decode cL_law 335 = .ok (.invokevirtual 51, 3) := by decide +kernel
theorem dL_law_338 : decode cL_law 338 = .ok (.if_icmp .eq 389, 3) := by decide +kernel
theorem dL_law_341 : decode cL_law 341 = .ok (.iconst 0, 1) := by decide +kernel
theorem dL_law_342 : decode cL_law 342 = .ok (.ireturn, 1) := by decide +kernel
theorem dL_law_343 : decode cL_law 343 = .ok (.aload_n 1, 1) := by decide +kernel
theorem dL_law_344 : decode cL_law 344 = .ok (.aload_n 0, 1) := by decide +kernel
theorem dL_law_345 : decode cL_law 345 = .ok (.iload_n 3, 1) := by decide +kernel
theorem dL_law_346 : decode cL_law 346 = .ok (.iconst 1, 1) := by decide +kernel
theorem dL_law_347 : decode cL_law 347 = .ok (.iadd, 1) := by decide +kernel
theorem dL_law_348 : decode cL_law 348 = .ok (.iaload, 1) := by decide +kernel
theorem dL_law_349 : decode cL_law 349 = .ok (.invokevirtual 52, 3) := by decide +kernel
theorem dL_law_352 : decode cL_law 352 = .ok (.aload_n 2, 1) := by decide +kernel
theorem dL_law_353 : decode cL_law 353 = .ok (.aload_n 0, 1) := by decide +kernel
theorem dL_law_354 : decode cL_law 354 = .ok (.iload_n 3, 1) := by decide +kernel
theorem dL_law_355 : decode cL_law 355 = .ok (.iconst 1, 1) := by decide +kernel
theorem dL_law_356 : decode cL_law 356 = .ok (.iadd, 1) := by decide +kernel
theorem dL_law_357 : decode cL_law 357 = .ok (.iaload, 1) := by decide +kernel
theorem dL_law_358 : decode cL_law 358 = .ok (.invokevirtual 55, 3) := by decide +kernel
theorem dL_law_361 : decode cL_law 361 = .ok (.if_icmp .eq 366, 3) := by decide +kernel
theorem dL_law_364 : decode cL_law 364 = .ok (.iconst 0, 1) := by decide +kernel
theorem dL_law_365 : decode cL_law 365 = .ok (.ireturn, 1) := by decide +kernel
theorem dL_law_366 : decode cL_law 366 = .ok (.aload_n 1, 1) := by decide +kernel
theorem dL_law_367 : decode cL_law 367 = .ok (.invokevirtual 56, 3) := by decide +kernel
theorem dL_law_370 : decode cL_law 370 = .ok (.aload_n 2, 1) := by decide +kernel
theorem dL_law_371 : decode cL_law 371 = .ok (.invokevirtual 59, 3) := by decide +kernel
theorem dL_law_374 : decode cL_law 374 = .ok (.if_icmp .eq 353, 3) := by decide +kernel
theorem dL_law_377 : decode cL_law 377 = .ok (.iconst 0, 1) := by decide +kernel
theorem dL_law_378 : decode cL_law 378 = .ok (.ireturn, 1) := by decide +kernel
theorem dL_law_379 : decode cL_law 379 = .ok (.aload_n 1, 1) := by decide +kernel
theorem dL_law_380 : decode cL_law 380 = .ok (.invokevirtual 60, 3) := by decide +kernel
theorem dL_law_383 : decode cL_law 383 = .ok (.aload_n 2, 1) := by decide +kernel
theorem dL_law_384 : decode cL_law 384 = .ok (.invokevirtual 63, 3) := by decide +kernel
theorem dL_law_387 : decode cL_law 387 = .ok (.if_icmp .eq 340, 3) := by decide +kernel
theorem dL_law_390 : decode cL_law 390 = .ok (.iconst 0, 1) := by decide +kernel
theorem dL_law_391 : decode cL_law 391 = .ok (.ireturn, 1) := by decide +kernel
theorem dL_law_392 : decode cL_law 392 = .ok (.aload_n 1, 1) := by decide +kernel
theorem dL_law_393 : decode cL_law 393 = .ok (.aload_n 0, 1) := by decide +kernel
theorem dL_law_394 : decode cL_law 394 = .ok (.iload_n 3, 1) := by decide +kernel
theorem dL_law_395 : decode cL_law 395 = .ok (.iconst 1, 1) := by decide +kernel
theorem dL_law_396 : decode cL_law 396 = .ok (.iadd, 1) := by decide +kernel
theorem dL_law_397 : decode cL_law 397 = .ok (.iaload, 1) := by decide +kernel
theorem dL_law_398 : decode cL_law 398 = .ok (.invokevirtual 64, 3) := by decide +kernel
theorem dL_law_401 : decode cL_law 401 = .ok (.aload_n 2, 1) := by decide +kernel
theorem dL_law_402 : decode cL_law 402 = .ok (.aload_n 0, 1) := by decide +kernel
theorem dL_law_403 : decode cL_law 403 = .ok (.iload_n 3, 1) := by decide +kernel
theorem dL_law_404 : decode cL_law 404 = .ok (.iconst 1, 1) := by decide +kernel
theorem dL_law_405 : decode cL_law 405 = .ok (.iadd, 1) := by decide +kernel
theorem dL_law_406 : decode cL_law 406 = .ok (.iaload, 1) := by decide +kernel
theorem dL_law_407 : decode cL_law 407 = .ok (.invokevirtual 67, 3) := by decide +kernel
theorem dL_law_410 : decode cL_law 410 = .ok (.if_icmp .eq 317, 3) := by decide +kernel
theorem dL_law_413 : decode cL_law 413 = .ok (.iconst 0, 1) := by decide +kernel
theorem dL_law_414 : decode cL_law 414 = .ok (.ireturn, 1) := by decide +kernel
theorem dL_law_415 : decode cL_law 415 = .ok (.aload_n 1, 1) := by decide +kernel
theorem dL_law_416 : decode cL_law 416 = .ok (.invokevirtual 68, 3) := by decide +kernel
theorem dL_law_419 : decode cL_law 419 = .ok (.aload_n 2, 1) := by decide +kernel
theorem dL_law_420 : decode cL_law 420 = .ok (.invokevirtual 71, 3) := by decide +kernel
theorem dL_law_423 : decode cL_law 423 = .ok (.if_icmp .eq 304, 3) := by decide +kernel
theorem dL_law_426 : decode cL_law 426 = .ok (.iconst 0, 1) := by decide +kernel
theorem dL_law_427 : decode cL_law 427 = .ok (.ireturn, 1) := by decide +kernel
theorem dL_law_428 : decode cL_law 428 = .ok (.aload_n 1, 1) := by decide +kernel
theorem dL_law_429 : decode cL_law 429 = .ok (.aload_n 0, 1) := by decide +kernel
theorem dL_law_430 : decode cL_law 430 = .ok (.iload_n 3, 1) := by decide +kernel
theorem dL_law_431 : decode cL_law 431 = .ok (.iconst 1, 1) := by decide +kernel
theorem dL_law_432 : decode cL_law 432 = .ok (.iadd, 1) := by decide +kernel
theorem dL_law_433 : decode cL_law 433 = .ok (.iaload, 1) := by decide +kernel
theorem dL_law_434 : decode cL_law 434 = .ok (.invokevirtual 72, 3) := by decide +kernel
theorem dL_law_437 : decode cL_law 437 = .ok (.aload_n 2, 1) := by decide +kernel
theorem dL_law_438 : decode cL_law 438 = .ok (.aload_n 0, 1) := by decide +kernel
theorem dL_law_439 : decode cL_law 439 = .ok (.iload_n 3, 1) := by decide +kernel
theorem dL_law_440 : decode cL_law 440 = .ok (.iconst 1, 1) := by decide +kernel
theorem dL_law_441 : decode cL_law 441 = .ok (.iadd, 1) := by decide +kernel
theorem dL_law_442 : decode cL_law 442 = .ok (.iaload, 1) := by decide +kernel
theorem dL_law_443 : decode cL_law 443 = .ok (.invokevirtual 75, 3) := by decide +kernel
theorem dL_law_446 : decode cL_law 446 = .ok (.if_icmp .eq 281, 3) := by decide +kernel
theorem dL_law_449 : decode cL_law 449 = .ok (.iconst 0, 1) := by decide +kernel
theorem dL_law_450 : decode cL_law 450 = .ok (.ireturn, 1) := by decide +kernel
theorem dL_law_451 : decode cL_law 451 = .ok (.aload_n 1, 1) := by decide +kernel
theorem dL_law_452 : decode cL_law 452 = .ok (.aload_n 0, 1) := by decide +kernel
theorem dL_law_453 : decode cL_law 453 = .ok (.iload_n 3, 1) := by decide +kernel
theorem dL_law_454 : decode cL_law 454 = .ok (.iconst 1, 1) := by decide +kernel
theorem dL_law_455 : decode cL_law 455 = .ok (.iadd, 1) := by decide +kernel
theorem dL_law_456 : decode cL_law 456 = .ok (.iaload, 1) := by decide +kernel
theorem dL_law_457 : decode cL_law 457 = .ok (.invokevirtual 76, 3) := by decide +kernel
theorem dL_law_460 : decode cL_law 460 = .ok (.aload_n 2, 1) := by decide +kernel
theorem dL_law_461 : decode cL_law 461 = .ok (.aload_n 0, 1) := by decide +kernel
theorem dL_law_462 : decode cL_law 462 = .ok (.iload_n 3, 1) := by decide +kernel
theorem dL_law_463 : decode cL_law 463 = .ok (.iconst 1, 1) := by decide +kernel
theorem dL_law_464 : decode cL_law 464 = .ok (.iadd, 1) := by decide +kernel
theorem dL_law_465 : decode cL_law 465 = .ok (.iaload, 1) := by decide +kernel
theorem dL_law_466 : decode cL_law 466 = .ok (.invokevirtual 79, 3) := by decide +kernel
theorem dL_law_469 : decode cL_law 469 = .ok (.if_icmp .eq 258, 3) := by decide +kernel
theorem dL_law_472 : decode cL_law 472 = .ok (.iconst 0, 1) := by decide +kernel
theorem dL_law_473 : decode cL_law 473 = .ok (.ireturn, 1) := by decide +kernel
theorem dL_law_474 : decode cL_law 474 = .ok (.aload_n 1, 1) := by decide +kernel
theorem dL_law_475 : decode cL_law 475 = .ok (.invokevirtual 80, 3) := by decide +kernel
theorem dL_law_478 : decode cL_law 478 = .ok (.aload_n 2, 1) := by decide +kernel
theorem dL_law_479 : decode cL_law 479 = .ok (.invokevirtual 83, 3) := by decide +kernel
theorem dL_law_482 : decode cL_law 482 = .ok (.if_icmp .eq 245, 3) := by decide +kernel
theorem dL_law_485 : decode cL_law 485 = .ok (.iconst 0, 1) := by decide +kernel
theorem dL_law_486 : decode cL_law 486 = .ok (.ireturn, 1) := by decide +kernel
theorem dL_law_487 : decode cL_law 487 = .ok (.aload_n 1, 1) := by decide +kernel
theorem dL_law_488 : decode cL_law 488 = .ok (.aload_n 0, 1) := by decide +kernel
theorem dL_law_489 : decode cL_law 489 = .ok (.iload_n 3, 1) := by decide +kernel
theorem dL_law_490 : decode cL_law 490 = .ok (.iconst 1, 1) := by decide +kernel
theorem dL_law_491 : decode cL_law 491 = .ok (.iadd, 1) := by decide +kernel
theorem dL_law_492 : decode cL_law 492 = .ok (.iaload, 1) := by decide +kernel
theorem dL_law_493 : decode cL_law 493 = .ok (.aload_n 0, 1) := by decide +kernel
theorem dL_law_494 : decode cL_law 494 = .ok (.iload_n 3, 1) := by decide +kernel
theorem dL_law_495 : decode cL_law 495 = .ok (.iconst 2, 1) := by decide +kernel
theorem dL_law_496 : decode cL_law 496 = .ok (.iadd, 1) := by decide +kernel
theorem dL_law_497 : decode cL_law 497 = .ok (.iaload, 1) := by decide +kernel
theorem dL_law_498 : decode cL_law 498 = .ok (.invokevirtual 84, 3) := by decide +kernel
theorem dL_law_501 : decode cL_law 501 = .ok (.aload_n 2, 1) := by decide +kernel
theorem dL_law_502 : decode cL_law 502 = .ok (.aload_n 0, 1) := by decide +kernel
theorem dL_law_503 : decode cL_law 503 = .ok (.iload_n 3, 1) := by decide +kernel
theorem dL_law_504 : decode cL_law 504 = .ok (.iconst 1, 1) := by decide +kernel
theorem dL_law_505 : decode cL_law 505 = .ok (.iadd, 1) := by decide +kernel
theorem dL_law_506 : decode cL_law 506 = .ok (.iaload, 1) := by decide +kernel
theorem dL_law_507 : decode cL_law 507 = .ok (.aload_n 0, 1) := by decide +kernel
theorem dL_law_508 : decode cL_law 508 = .ok (.iload_n 3, 1) := by decide +kernel
theorem dL_law_509 : decode cL_law 509 = .ok (.iconst 2, 1) := by decide +kernel
theorem dL_law_510 : decode cL_law 510 = .ok (.iadd, 1) := by decide +kernel
theorem dL_law_511 : decode cL_law 511 = .ok (.iaload, 1) := by decide +kernel
theorem dL_law_512 : decode cL_law 512 = .ok (.invokevirtual 87, 3) := by decide +kernel
theorem dL_law_515 : decode cL_law 515 = .ok (.if_icmp .eq 212, 3) := by decide +kernel
theorem dL_law_518 : decode cL_law 518 = .ok (.iconst 0, 1) := by decide +kernel
theorem dL_law_519 : decode cL_law 519 = .ok (.ireturn, 1) := by decide +kernel
theorem dL_law_520 : decode cL_law 520 = .ok (.aload_n 1, 1) := by decide +kernel
theorem dL_law_521 : decode cL_law 521 = .ok (.invokevirtual 88, 3) := by decide +kernel
theorem dL_law_524 : decode cL_law 524 = .ok (.aload_n 2, 1) := by decide +kernel
theorem dL_law_525 : decode cL_law 525 = .ok (.invokevirtual 91, 3) := by decide +kernel
theorem dL_law_528 : decode cL_law 528 = .ok (.if_icmp .eq 199, 3) := by decide +kernel
theorem dL_law_531 : decode cL_law 531 = .ok (.iconst 0, 1) := by decide +kernel
theorem dL_law_532 : decode cL_law 532 = .ok (.ireturn, 1) := by decide +kernel
theorem dL_law_533 : decode cL_law 533 = .ok (.aload_n 1, 1) := by decide +kernel
theorem dL_law_534 : decode cL_law 534 = .ok (.invokevirtual 92, 3) := by decide +kernel
theorem dL_law_537 : decode cL_law 537 = .ok (.aload_n 2, 1) := by decide +kernel
theorem dL_law_538 : decode cL_law 538 = .ok (.invokevirtual 95, 3) := by decide +kernel
theorem dL_law_541 : decode cL_law 541 = .ok (.if_icmp .eq 186, 3) := by decide +kernel
theorem dL_law_544 : decode cL_law 544 = .ok (.iconst 0, 1) := by decide +kernel
theorem dL_law_545 : decode cL_law 545 = .ok (.ireturn, 1) := by decide +kernel
theorem dL_law_546 : decode cL_law 546 = .ok (.aload_n 1, 1) := by decide +kernel
theorem dL_law_547 : decode cL_law 547 = .ok (.aload_n 0, 1) := by decide +kernel
theorem dL_law_548 : decode cL_law 548 = .ok (.iload_n 3, 1) := by decide +kernel
theorem dL_law_549 : decode cL_law 549 = .ok (.iconst 1, 1) := by decide +kernel
theorem dL_law_550 : decode cL_law 550 = .ok (.iadd, 1) := by decide +kernel
theorem dL_law_551 : decode cL_law 551 = .ok (.iaload, 1) := by decide +kernel
theorem dL_law_552 : decode cL_law 552 = .ok (.aload_n 0, 1) := by decide +kernel
theorem dL_law_553 : decode cL_law 553 = .ok (.iload_n 3, 1) := by decide +kernel
theorem dL_law_554 : decode cL_law 554 = .ok (.iconst 2, 1) := by decide +kernel
theorem dL_law_555 : decode cL_law 555 = .ok (.iadd, 1) := by decide +kernel
theorem dL_law_556 : decode cL_law 556 = .ok (.iaload, 1) := by decide +kernel
theorem dL_law_557 : decode cL_law 557 = .ok (.invokevirtual 96, 3) := by decide +kernel
theorem dL_law_560 : decode cL_law 560 = .ok (.aload_n 2, 1) := by decide +kernel
theorem dL_law_561 : decode cL_law 561 = .ok (.aload_n 0, 1) := by decide +kernel
theorem dL_law_562 : decode cL_law 562 = .ok (.iload_n 3, 1) := by decide +kernel
theorem dL_law_563 : decode cL_law 563 = .ok (.iconst 1, 1) := by decide +kernel
theorem dL_law_564 : decode cL_law 564 = .ok (.iadd, 1) := by decide +kernel
theorem dL_law_565 : decode cL_law 565 = .ok (.iaload, 1) := by decide +kernel
theorem dL_law_566 : decode cL_law 566 = .ok (.aload_n 0, 1) := by decide +kernel
theorem dL_law_567 : decode cL_law 567 = .ok (.iload_n 3, 1) := by decide +kernel
theorem dL_law_568 : decode cL_law 568 = .ok (.iconst 2, 1) := by decide +kernel
theorem dL_law_569 : decode cL_law 569 = .ok (.iadd, 1) := by decide +kernel
theorem dL_law_570 : decode cL_law 570 = .ok (.iaload, 1) := by decide +kernel
theorem dL_law_571 : decode cL_law 571 = .ok (.invokevirtual 99, 3) := by decide +kernel
theorem dL_law_574 : decode cL_law 574 = .ok (.if_icmp .eq 153, 3) := by decide +kernel
theorem dL_law_577 : decode cL_law 577 = .ok (.iconst 0, 1) := by decide +kernel
theorem dL_law_578 : decode cL_law 578 = .ok (.ireturn, 1) := by decide +kernel
theorem dL_law_579 : decode cL_law 579 = .ok (.aload_n 1, 1) := by decide +kernel
theorem dL_law_580 : decode cL_law 580 = .ok (.aload_n 0, 1) := by decide +kernel
theorem dL_law_581 : decode cL_law 581 = .ok (.iload_n 3, 1) := by decide +kernel
theorem dL_law_582 : decode cL_law 582 = .ok (.iconst 1, 1) := by decide +kernel
theorem dL_law_583 : decode cL_law 583 = .ok (.iadd, 1) := by decide +kernel
theorem dL_law_584 : decode cL_law 584 = .ok (.iaload, 1) := by decide +kernel
theorem dL_law_585 : decode cL_law 585 = .ok (.invokevirtual 100, 3) := by decide +kernel
theorem dL_law_588 : decode cL_law 588 = .ok (.aload_n 2, 1) := by decide +kernel
theorem dL_law_589 : decode cL_law 589 = .ok (.aload_n 0, 1) := by decide +kernel
theorem dL_law_590 : decode cL_law 590 = .ok (.iload_n 3, 1) := by decide +kernel
theorem dL_law_591 : decode cL_law 591 = .ok (.iconst 1, 1) := by decide +kernel
theorem dL_law_592 : decode cL_law 592 = .ok (.iadd, 1) := by decide +kernel
theorem dL_law_593 : decode cL_law 593 = .ok (.iaload, 1) := by decide +kernel
theorem dL_law_594 : decode cL_law 594 = .ok (.invokevirtual 103, 3) := by decide +kernel
theorem dL_law_597 : decode cL_law 597 = .ok (.if_icmp .eq 130, 3) := by decide +kernel
theorem dL_law_600 : decode cL_law 600 = .ok (.iconst 0, 1) := by decide +kernel
theorem dL_law_601 : decode cL_law 601 = .ok (.ireturn, 1) := by decide +kernel
theorem dL_law_602 : decode cL_law 602 = .ok (.aload_n 1, 1) := by decide +kernel
theorem dL_law_603 : decode cL_law 603 = .ok (.aload_n 0, 1) := by decide +kernel
theorem dL_law_604 : decode cL_law 604 = .ok (.iload_n 3, 1) := by decide +kernel
theorem dL_law_605 : decode cL_law 605 = .ok (.iconst 1, 1) := by decide +kernel
theorem dL_law_606 : decode cL_law 606 = .ok (.iadd, 1) := by decide +kernel
theorem dL_law_607 : decode cL_law 607 = .ok (.iaload, 1) := by decide +kernel
theorem dL_law_608 : decode cL_law 608 = .ok (.aload_n 0, 1) := by decide +kernel
theorem dL_law_609 : decode cL_law 609 = .ok (.iload_n 3, 1) := by decide +kernel
theorem dL_law_610 : decode cL_law 610 = .ok (.iconst 2, 1) := by decide +kernel
theorem dL_law_611 : decode cL_law 611 = .ok (.iadd, 1) := by decide +kernel
theorem dL_law_612 : decode cL_law 612 = .ok (.iaload, 1) := by decide +kernel
theorem dL_law_613 : decode cL_law 613 = .ok (.invokevirtual 104, 3) := by decide +kernel
theorem dL_law_616 : decode cL_law 616 = .ok (.aload_n 2, 1) := by decide +kernel
theorem dL_law_617 : decode cL_law 617 = .ok (.aload_n 0, 1) := by decide +kernel
theorem dL_law_618 : decode cL_law 618 = .ok (.iload_n 3, 1) := by decide +kernel
theorem dL_law_619 : decode cL_law 619 = .ok (.iconst 1, 1) := by decide +kernel
theorem dL_law_620 : decode cL_law 620 = .ok (.iadd, 1) := by decide +kernel
theorem dL_law_621 : decode cL_law 621 = .ok (.iaload, 1) := by decide +kernel
theorem dL_law_622 : decode cL_law 622 = .ok (.aload_n 0, 1) := by decide +kernel
theorem dL_law_623 : decode cL_law 623 = .ok (.iload_n 3, 1) := by decide +kernel
theorem dL_law_624 : decode cL_law 624 = .ok (.iconst 2, 1) := by decide +kernel
theorem dL_law_625 : decode cL_law 625 = .ok (.iadd, 1) := by decide +kernel
theorem dL_law_626 : decode cL_law 626 = .ok (.iaload, 1) := by decide +kernel
theorem dL_law_627 : decode cL_law 627 = .ok (.invokevirtual 107, 3) := by decide +kernel
theorem dL_law_630 : decode cL_law 630 = .ok (.if_icmp .eq 97, 3) := by decide +kernel
theorem dL_law_633 : decode cL_law 633 = .ok (.iconst 0, 1) := by decide +kernel
theorem dL_law_634 : decode cL_law 634 = .ok (.ireturn, 1) := by decide +kernel
theorem dL_law_635 : decode cL_law 635 = .ok (.aload_n 1, 1) := by decide +kernel
theorem dL_law_636 : decode cL_law 636 = .ok (.aload_n 0, 1) := by decide +kernel
theorem dL_law_637 : decode cL_law 637 = .ok (.iload_n 3, 1) := by decide +kernel
theorem dL_law_638 : decode cL_law 638 = .ok (.iconst 1, 1) := by decide +kernel
theorem dL_law_639 : decode cL_law 639 = .ok (.iadd, 1) := by decide +kernel
theorem dL_law_640 : decode cL_law 640 = .ok (.iaload, 1) := by decide +kernel
theorem dL_law_641 : decode cL_law 641 = .ok (.aload_n 0, 1) := by decide +kernel
theorem dL_law_642 : decode cL_law 642 = .ok (.iload_n 3, 1) := by decide +kernel
theorem dL_law_643 : decode cL_law 643 = .ok (.iconst 2, 1) := by decide +kernel
theorem dL_law_644 : decode cL_law 644 = .ok (.iadd, 1) := by decide +kernel
theorem dL_law_645 : decode cL_law 645 = .ok (.iaload, 1) := by decide +kernel
theorem dL_law_646 : decode cL_law 646 = .ok (.aload_n 0, 1) := by decide +kernel
theorem dL_law_647 : decode cL_law 647 = .ok (.iload_n 3, 1) := by decide +kernel
theorem dL_law_648 : decode cL_law 648 = .ok (.iconst 3, 1) := by decide +kernel
theorem dL_law_649 : decode cL_law 649 = .ok (.iadd, 1) := by decide +kernel
theorem dL_law_650 : decode cL_law 650 = .ok (.iaload, 1) := by decide +kernel
theorem dL_law_651 : decode cL_law 651 = .ok (.invokevirtual 108, 3) := by decide +kernel
theorem dL_law_654 : decode cL_law 654 = .ok (.aload_n 2, 1) := by decide +kernel
theorem dL_law_655 : decode cL_law 655 = .ok (.aload_n 0, 1) := by decide +kernel
theorem dL_law_656 : decode cL_law 656 = .ok (.iload_n 3, 1) := by decide +kernel
theorem dL_law_657 : decode cL_law 657 = .ok (.iconst 1, 1) := by decide +kernel
theorem dL_law_658 : decode cL_law 658 = .ok (.iadd, 1) := by decide +kernel
theorem dL_law_659 : decode cL_law 659 = .ok (.iaload, 1) := by decide +kernel
theorem dL_law_660 : decode cL_law 660 = .ok (.aload_n 0, 1) := by decide +kernel
theorem dL_law_661 : decode cL_law 661 = .ok (.iload_n 3, 1) := by decide +kernel
theorem dL_law_662 : decode cL_law 662 = .ok (.iconst 2, 1) := by decide +kernel
theorem dL_law_663 : decode cL_law 663 = .ok (.iadd, 1) := by decide +kernel
theorem dL_law_664 : decode cL_law 664 = .ok (.iaload, 1) := by decide +kernel
theorem dL_law_665 : decode cL_law 665 = .ok (.aload_n 0, 1) := by decide +kernel
theorem dL_law_666 : decode cL_law 666 = .ok (.iload_n 3, 1) := by decide +kernel
theorem dL_law_667 : decode cL_law 667 = .ok (.iconst 3, 1) := by decide +kernel
theorem dL_law_668 : decode cL_law 668 = .ok (.iadd, 1) := by decide +kernel
theorem dL_law_669 : decode cL_law 669 = .ok (.iaload, 1) := by decide +kernel
theorem dL_law_670 : decode cL_law 670 = .ok (.invokevirtual 112, 3) := by decide +kernel
theorem dL_law_673 : decode cL_law 673 = .ok (.if_icmp .eq 54, 3) := by decide +kernel
theorem dL_law_676 : decode cL_law 676 = .ok (.iconst 0, 1) := by decide +kernel
theorem dL_law_677 : decode cL_law 677 = .ok (.ireturn, 1) := by decide +kernel
theorem dL_law_678 : decode cL_law 678 = .ok (.aload_n 1, 1) := by decide +kernel
theorem dL_law_679 : decode cL_law 679 = .ok (.invokevirtual 113, 3) := by decide +kernel
theorem dL_law_682 : decode cL_law 682 = .ok (.aload_n 2, 1) := by decide +kernel
theorem dL_law_683 : decode cL_law 683 = .ok (.invokevirtual 116, 3) := by decide +kernel
theorem dL_law_686 : decode cL_law 686 = .ok (.if_icmp .eq 41, 3) := by decide +kernel
theorem dL_law_689 : decode cL_law 689 = .ok (.iconst 0, 1) := by decide +kernel
theorem dL_law_690 : decode cL_law 690 = .ok (.ireturn, 1) := by decide +kernel
theorem dL_law_691 : decode cL_law 691 = .ok (.aload_n 1, 1) := by decide +kernel
theorem dL_law_692 : decode cL_law 692 = .ok (.invokevirtual 117, 3) := by decide +kernel
theorem dL_law_695 : decode cL_law 695 = .ok (.aload_n 2, 1) := by decide +kernel
theorem dL_law_696 : decode cL_law 696 = .ok (.invokevirtual 120, 3) := by decide +kernel
theorem dL_law_699 : decode cL_law 699 = .ok (.if_icmp .eq 28, 3) := by decide +kernel
theorem dL_law_702 : decode cL_law 702 = .ok (.iconst 0, 1) := by decide +kernel
theorem dL_law_703 : decode cL_law 703 = .ok (.ireturn, 1) := by decide +kernel
theorem dL_law_704 : decode cL_law 704 = .ok (.aload_n 1, 1) := by decide +kernel
theorem dL_law_705 : decode cL_law 705 = .ok (.aload_n 0, 1) := by decide +kernel
theorem dL_law_706 : decode cL_law 706 = .ok (.iload_n 3, 1) := by decide +kernel
theorem dL_law_707 : decode cL_law 707 = .ok (.iconst 1, 1) := by decide +kernel
theorem dL_law_708 : decode cL_law 708 = .ok (.iadd, 1) := by decide +kernel
theorem dL_law_709 : decode cL_law 709 = .ok (.iaload, 1) := by decide +kernel
theorem dL_law_710 : decode cL_law 710 = .ok (.invokevirtual 121, 3) := by decide +kernel
theorem dL_law_713 : decode cL_law 713 = .ok (.aload_n 2, 1) := by decide +kernel
theorem dL_law_714 : decode cL_law 714 = .ok (.aload_n 0, 1) := by decide +kernel
theorem dL_law_715 : decode cL_law 715 = .ok (.iload_n 3, 1) := by decide +kernel
theorem dL_law_716 : decode cL_law 716 = .ok (.iconst 1, 1) := by decide +kernel
theorem dL_law_717 : decode cL_law 717 = .ok (.iadd, 1) := by decide +kernel
theorem dL_law_718 : decode cL_law 718 = .ok (.iaload, 1) := by decide +kernel
theorem dL_law_719 : decode cL_law 719 = .ok (.invokevirtual 124, 3) := by decide +kernel
theorem dL_law_722 : decode cL_law 722 = .ok (.if_icmp .eq 5, 3) := by decide +kernel
theorem dL_law_725 : decode cL_law 725 = .ok (.iconst 0, 1) := by decide +kernel
theorem dL_law_726 : decode cL_law 726 = .ok (.ireturn, 1) := by decide +kernel
theorem dL_law_727 : decode cL_law 727 = .ok (.iinc 3 4, 3) := by decide +kernel
theorem dL_law_730 : decode cL_law 730 = .ok (.goto (-712), 3) := by decide +kernel
theorem dL_law_733 : decode cL_law 733 = .ok (.iconst 1, 1) := by decide +kernel
theorem dL_law_734 : decode cL_law 734 = .ok (.ireturn, 1) := by decide +kernel
abbrev vwCl : List vw_C := [(RX0, TX0, 4), (RX1, TX1, 3), (RX2, TX2, 10), (RX3, TX3, 1), (RX4, TX4, 9), (RX5, TX5, 2), (RX6, TX6, 8), (RX7, TX7, 2), (RX8, TX8, 3), (RX9, TX9, 11), (RX10, TX10, 15)]
end
section
/-! the judgement G: a method's frame over a heap that is a list; contexts, addresses and counters of the machine are hidden behind it -/
abbrev gE : Type := (Nat × (Int32 → Int32)) ⊕ ((Nat × (Nat → Option Nat)) ⊕ (Nat × List Value))
abbrev gH : Type := List gE
/-- launch, classes' numbers, the class of int arrays, the class of State arrays, the base of the heap's list -/
abbrev gW : Type := Launch × va_G × ClassId × ClassId × Nat
/-- a method: name, bytes, locals, answer; frames and locals that it needs below it -/
abbrev gY : Type := MethodName × ByteArray × Nat × Option FieldType × Nat × Nat
abbrev gz (w : gW) : Nat := w.2.2.2.2
def gF : Value := .float 0
def gv (w : gW) : Value → Value
  | .ref k => .ref (w.2.2.2.2 + k)
  | v => v
def ge (w : gW) : gE → va_E
  | .inl (n, f) => .inl (w.2.2.1, n, .inl (fun j => f (nI j)))
  | .inr (.inl (n, f)) => .inl (w.2.2.2.1, n, .inr (.inr (.inr (.inr (fun j => (f j).map (fun k => w.2.2.2.2 + k))))))
  | .inr (.inr (ci, fs)) => .inr (ci, fs.map (gv w))
def gw (w : gW) (h : gH) : va_W := h.mapIdx (fun k e => (w.2.2.2.2 + k, ge w e))
def gTs : List Cond := lw_tbl.filter goodWord
def gIsN : Cond → Bool
  | .methodLinkNest _ _ _ _ => true
  | _ => false
def gNs : List Cond := lw_tbl.filter gIsN
def gTys (w : gW) : List (ClassId × FieldType) := [(w.2.2.1, .int), (w.2.2.2.1, .object RX6)]
def gCx (w : gW) (U : State) : Prop := va_K w.2.1 vwCl (gTys w) U ∧ (∀ c ∈ gNs, va_Nw c U) ∧ va_AO RX6 U
def gRoom (y : gY) (mc ms : Nat) : Room := { frames := y.2.2.2.2.1, cells := mc, slots := ms, locals := y.2.2.2.2.2 }
def gA (w : gW) (al : Bool) (n : Nat) : Nat → Prop := fun q => w.2.2.2.2 ≤ q ∧ (al = true ∨ q < w.2.2.2.2 + n)
def gHd (w : gW) (al : Bool) (n : Nat) (h : gH) (H : Heap) : Prop := va_P w.2.1 vwCl (gw w h) H ∧ (al = true → H.size = w.2.2.2.2 + h.length) ∧ (al = false → h.length = n)
def gL (w : gW) (nL : Nat) (ls : Array Slot) (L : List Value) : Prop := ls.size = nL ∧ lv_wf ls ∧ L.length = nL ∧ ∀ (i : Nat) (v : Value), L[i]? = some v → v ≠ gF → ls[i]? = some (.val (gv w v))
def gT0 : State → Prop := fun _ => True
abbrev gP : Type := gH → Option Value → Prop
def gQ (w : gW) (al : Bool) (n : Nat) (P : gP) : Array Value → State → Outcome → State → Prop := fun _ st o t => ∃ (h' : gH) (r : Option Value), o = .returned (r.map (gv w)) ∧ P h' r ∧ gHd w al n h' t.heap ∧ va_F (gA w al n) st t
def gPc (w : gW) (E : State → Prop) (al : Bool) (h : gH) (as : List Value) : Array Value → State → Prop := fun v U => v = (as.map (gv w)).toArray ∧ gCx w U ∧ gHd w al h.length h U.heap ∧ E U
/-- the contract of a method from the heap h and the arguments as: P of the heap and the answer behind it -/
def M (w : gW) (E : State → Prop) (al : Bool) (y : gY) (mc ms : Nat) (h : gH) (as : List Value) (P : gP) : Prop :=
  Met w.1 y.1 (.code y.1 y.2.1 y.2.2.1 y.2.2.2.1 :: gTs) (gRoom y mc ms) (gPc w E al h as) (gQ w al h.length P) mc ms (gA w al h.length)
def gCt (w : gW) (E : State → Prop) (al : Bool) (y : gY) (p : Program) (s : State) (m : MethodId) (args : Array Value) (meth : Method) (c : Code) : Prop :=
  p.tables.exec = Jvm.exec ∧ c.code = y.2.1 ∧ c.maxLocals = y.2.2.1 ∧ meth.sig.returnType = y.2.2.2.1 ∧ meth.locks = false ∧ s.vm.findClass y.1.cls = some m.cls ∧ (∀ q ∈ gTs, q.before args s = true) ∧ meth.name = y.1.name ∧ gCx w s ∧ (al = true → w.2.2.2.2 ≤ s.heap.size) ∧ E s
/-- from here the method comes to its end, with P; cs cells and sl slots are new -/
def G (w : gW) (E : State → Prop) (al : Bool) (n : Nat) (y : gY) (mc ms : Nat) (P : gP) (cs sl : Nat) (h : gH) (pc : Nat) (L st : List Value) : Prop :=
  ∀ (p : Program) (e : Env) (s : State) (m : MethodId) (args : Array Value) (below : List Frame) (meth : Method) (c : Code), gCt w E al y p s m args meth c →
    ∀ (H : Heap) (locs : List Loc) (ls : Array Slot), gHd w al n h H → va_S (gA w al n) s.heap H locs → gL w y.2.2.1 ls L →
      W p w.1 e (gRoom y mc ms) s m args below meth c H locs cs sl (MQ below (gQ w al n P) args s mc ms (gA w al n)) (F0 m pc ls (st.map (gv w)))
theorem gw_get {w : gW} {h : gH} {k : Nat} {e : gE} (he : h[k]? = some e) : (gw w h)[k]? = some (w.2.2.2.2 + k, ge w e) := by
  unfold gw
  rw [List.getElem?_mapIdx, he]
  rfl
theorem gw_len (w : gW) (h : gH) : (gw w h).length = h.length := by simp [gw]
theorem gw_set (w : gW) (h : gH) (k : Nat) (e : gE) : gw w (h.set k e) = (gw w h).set k (w.2.2.2.2 + k, ge w e) := by
  apply List.ext_getElem?
  intro i
  by_cases hi : k = i
  · subst hi
    by_cases hk : k < h.length
    · rw [List.getElem?_set_self (by rw [gw_len]; exact hk)]
      exact gw_get (List.getElem?_set_self hk)
    · rw [List.getElem?_eq_none (by rw [gw_len, List.length_set]; omega), List.getElem?_eq_none (by rw [List.length_set, gw_len]; omega)]
  · rw [List.getElem?_set_ne hi]
    simp only [gw, List.getElem?_mapIdx]
    rw [List.getElem?_set_ne hi]
theorem gw_push (w : gW) (h : gH) (e : gE) : gw w (h ++ [e]) = gw w h ++ [(w.2.2.2.2 + h.length, ge w e)] := by
  unfold gw
  rw [List.mapIdx_append]
  simp
theorem gw_D {w : gW} {al : Bool} {n : Nat} {h : gH} (hn : al = false → h.length = n) : va_D (gA w al n) (gw w h) := by
  have key : ∀ (k : Nat) (q : Nat × va_E), (gw w h)[k]? = some q → q.1 = w.2.2.2.2 + k ∧ k < h.length := by
    intro k q hq
    have hl := (List.getElem?_eq_some_iff.mp hq).1
    rw [gw_len] at hl
    have h1 := gw_get (w := w) (List.getElem?_eq_getElem hl)
    rw [hq] at h1
    cases h1
    exact ⟨rfl, hl⟩
  refine ⟨fun i j p q hp hq hpq => ?_, fun k q hq => ?_⟩
  · have := key i p hp
    have := key j q hq
    omega
  · obtain ⟨h1, h2⟩ := key k q hq
    refine ⟨by omega, ?_⟩
    cases al with
    | true => exact Or.inl rfl
    | false => exact Or.inr (by have := hn rfl; omega)
theorem gCx.warm {w : gW} {s U : State} (hW : s.WarmedH U.vm) (h : gCx w s) : gCx w U := by
  refine ⟨va_K.moved hW.alike h.1, fun c hc => ?_, va_AO.moved hW.alike h.2.2⟩
  have h1 := h.2.1 c hc
  have h2 : gIsN c = true := (List.mem_filter.mp hc).2
  cases c <;> first | exact va_Nw.warmM hW h1 | (simp [gIsN] at h2)
theorem gCx.same {w : gW} {s U : State} (hv : s.vm.Alike U.vm) (hW : ∀ c ∈ gNs, va_Nw c U) (h : gCx w s) : gCx w U := ⟨va_K.moved hv h.1, hW, va_AO.moved hv h.2.2⟩
/-- field k of class ci, as class own spells it -/
def gFl (own : String) (ix ci k : Nat) (v : vw_C) : Prop := vwCl[ci]? = some v ∧ (∀ c ∈ u_ws v.1 v.2.1 v.2.2, c ∈ gTs) ∧ k < v.2.2 ∧ Cond.fieldLink own ix (v.2.1 k).1 (v.2.1 k).2.1 (v.2.1 k).2.2.1 ∈ gTs
/-- what a store into it needs -/
def gFw (v : vw_C) : Prop := (∀ a, a < v.2.2 → ∀ b, b < v.2.2 → a ≠ b → (v.2.1 a).2.1 ≠ (v.2.1 b).2.1) ∧ ∃ ty : Nat → FieldType, ∀ k, k < v.2.2 → parseFieldDescriptor (v.2.1 k).2.2.1 = some (ty k)
theorem gT_in {c : Cond} (i : Nat) (h : lw_tbl[i]? = some c) (hg : goodWord c = true) : c ∈ gTs := List.mem_filter.mpr ⟨List.mem_of_getElem? h, hg⟩
theorem gN_in {c : Cond} (i : Nat) (h : lw_tbl[i]? = some c) (hg : gIsN c = true) : c ∈ gNs := List.mem_filter.mpr ⟨List.mem_of_getElem? h, hg⟩
/-- a method that can be called with na arguments -/
def gCal (y' : gY) (na : Nat) : Prop := Cond.code y'.1 y'.2.1 y'.2.2.1 y'.2.2.2.1 ∈ gTs ∧ Cond.initialized y'.1.cls ∈ gTs ∧ y'.1.cls ≠ "java/lang/invoke/MethodHandle" ∧ y'.1.cls ≠ "java/lang/invoke/VarHandle" ∧ (parseMethodDescriptor y'.1.desc).map (fun d => d.parameters.length) = some na
abbrev gFit (y y' : gY) : Prop := y'.2.2.2.2.1 + 1 ≤ y.2.2.2.2.1 ∧ 8 + (y'.2.2.1 + 11) + y'.2.2.2.2.2 ≤ y.2.2.2.2.2
def gCV (own : String) (ix : Nat) (y' : gY) (na : Nat) : Prop := gCal y' na ∧ Cond.methodLink own ix y'.1 ∈ gTs ∧ Cond.instanceMethod y'.1 ∈ gTs ∧ Cond.selects y'.1.cls y'.1 y'.1 ∈ gTs
def gCS (own : String) (ix : Nat) (y' : gY) (na : Nat) : Prop := gCal y' na ∧ Cond.methodLink own ix y'.1 ∈ gTs ∧ Cond.static y'.1 ∈ gTs
def gCI (own : String) (ix : Nat) (y' : gY) (na : Nat) : Prop := gCal y' na ∧ Cond.methodLink own ix y'.1 ∈ gTs ∧ Cond.instanceMethod y'.1 ∈ gTs ∧ y'.1.name = "<init>" ∧ y'.2.2.2.1 = none
def gCVN (own : String) (ix : Nat) (y' : gY) (na : Nat) (host : String) : Prop := gCal y' na ∧ Cond.methodLinkNest own ix y'.1 host ∈ gNs ∧ Cond.instanceMethod y'.1 ∈ gTs ∧ Cond.selects y'.1.cls y'.1 y'.1 ∈ gTs
def gCSN (own : String) (ix : Nat) (y' : gY) (na : Nat) (host : String) : Prop := gCal y' na ∧ Cond.methodLinkNest own ix y'.1 host ∈ gNs ∧ Cond.static y'.1 ∈ gTs
def gCIN (own : String) (ix : Nat) (y' : gY) (na : Nat) (host : String) : Prop := gCal y' na ∧ Cond.methodLinkNest own ix y'.1 host ∈ gNs ∧ Cond.instanceMethod y'.1 ∈ gTs ∧ y'.1.name = "<init>" ∧ y'.2.2.2.1 = none
end
section
/-! the words, by their places; the methods, with the frames and locals that they need -/
theorem fX0_0 : u_lay RX0 TX0 0 ∈ gTs := gT_in 295 (by decide +kernel) (by decide +kernel)
theorem fX0_1 : u_lay RX0 TX0 1 ∈ gTs := gT_in 297 (by decide +kernel) (by decide +kernel)
theorem fX0_2 : u_lay RX0 TX0 2 ∈ gTs := gT_in 299 (by decide +kernel) (by decide +kernel)
theorem fX0_3 : u_lay RX0 TX0 3 ∈ gTs := gT_in 301 (by decide +kernel) (by decide +kernel)
theorem inX0 : ∀ c ∈ u_ws RX0 TX0 4, c ∈ gTs := fun c hc => by
  obtain ⟨k, hk, rfl⟩ := List.mem_map.mp hc
  have h1 := List.mem_range.mp hk
  match k, h1 with
  | 0, _ => exact fX0_0
  | 1, _ => exact fX0_1
  | 2, _ => exact fX0_2
  | 3, _ => exact fX0_3
  | k + 4, h1 => omega
theorem wrX0 : gFw (RX0, TX0, 4) := ⟨nmX0, tyX0, tyX0_ok⟩
theorem fX1_0 : u_lay RX1 TX1 0 ∈ gTs := gT_in 101 (by decide +kernel) (by decide +kernel)
theorem fX1_1 : u_lay RX1 TX1 1 ∈ gTs := gT_in 103 (by decide +kernel) (by decide +kernel)
theorem fX1_2 : u_lay RX1 TX1 2 ∈ gTs := gT_in 105 (by decide +kernel) (by decide +kernel)
theorem inX1 : ∀ c ∈ u_ws RX1 TX1 3, c ∈ gTs := fun c hc => by
  obtain ⟨k, hk, rfl⟩ := List.mem_map.mp hc
  have h1 := List.mem_range.mp hk
  match k, h1 with
  | 0, _ => exact fX1_0
  | 1, _ => exact fX1_1
  | 2, _ => exact fX1_2
  | k + 3, h1 => omega
theorem wrX1 : gFw (RX1, TX1, 3) := ⟨nmX1, tyX1, tyX1_ok⟩
theorem fX2_0 : u_lay RX2 TX2 0 ∈ gTs := gT_in 144 (by decide +kernel) (by decide +kernel)
theorem fX2_1 : u_lay RX2 TX2 1 ∈ gTs := gT_in 146 (by decide +kernel) (by decide +kernel)
theorem fX2_2 : u_lay RX2 TX2 2 ∈ gTs := gT_in 148 (by decide +kernel) (by decide +kernel)
theorem fX2_3 : u_lay RX2 TX2 3 ∈ gTs := gT_in 150 (by decide +kernel) (by decide +kernel)
theorem fX2_4 : u_lay RX2 TX2 4 ∈ gTs := gT_in 152 (by decide +kernel) (by decide +kernel)
theorem fX2_5 : u_lay RX2 TX2 5 ∈ gTs := gT_in 154 (by decide +kernel) (by decide +kernel)
theorem fX2_6 : u_lay RX2 TX2 6 ∈ gTs := gT_in 156 (by decide +kernel) (by decide +kernel)
theorem fX2_7 : u_lay RX2 TX2 7 ∈ gTs := gT_in 158 (by decide +kernel) (by decide +kernel)
theorem fX2_8 : u_lay RX2 TX2 8 ∈ gTs := gT_in 160 (by decide +kernel) (by decide +kernel)
theorem fX2_9 : u_lay RX2 TX2 9 ∈ gTs := gT_in 162 (by decide +kernel) (by decide +kernel)
theorem inX2 : ∀ c ∈ u_ws RX2 TX2 10, c ∈ gTs := fun c hc => by
  obtain ⟨k, hk, rfl⟩ := List.mem_map.mp hc
  have h1 := List.mem_range.mp hk
  match k, h1 with
  | 0, _ => exact fX2_0
  | 1, _ => exact fX2_1
  | 2, _ => exact fX2_2
  | 3, _ => exact fX2_3
  | 4, _ => exact fX2_4
  | 5, _ => exact fX2_5
  | 6, _ => exact fX2_6
  | 7, _ => exact fX2_7
  | 8, _ => exact fX2_8
  | 9, _ => exact fX2_9
  | k + 10, h1 => omega
theorem wrX2 : gFw (RX2, TX2, 10) := ⟨nmX2, tyX2, tyX2_ok⟩
theorem fX3_0 : u_lay RX3 TX3 0 ∈ gTs := gT_in 79 (by decide +kernel) (by decide +kernel)
theorem inX3 : ∀ c ∈ u_ws RX3 TX3 1, c ∈ gTs := fun c hc => by
  obtain ⟨k, hk, rfl⟩ := List.mem_map.mp hc
  have h1 := List.mem_range.mp hk
  match k, h1 with
  | 0, _ => exact fX3_0
  | k + 1, h1 => omega
theorem wrX3 : gFw (RX3, TX3, 1) := ⟨nmX3, tyX3, tyX3_ok⟩
theorem fX4_0 : u_lay RX4 TX4 0 ∈ gTs := gT_in 262 (by decide +kernel) (by decide +kernel)
theorem fX4_1 : u_lay RX4 TX4 1 ∈ gTs := gT_in 264 (by decide +kernel) (by decide +kernel)
theorem fX4_2 : u_lay RX4 TX4 2 ∈ gTs := gT_in 266 (by decide +kernel) (by decide +kernel)
theorem fX4_3 : u_lay RX4 TX4 3 ∈ gTs := gT_in 268 (by decide +kernel) (by decide +kernel)
theorem fX4_4 : u_lay RX4 TX4 4 ∈ gTs := gT_in 270 (by decide +kernel) (by decide +kernel)
theorem fX4_5 : u_lay RX4 TX4 5 ∈ gTs := gT_in 272 (by decide +kernel) (by decide +kernel)
theorem fX4_6 : u_lay RX4 TX4 6 ∈ gTs := gT_in 274 (by decide +kernel) (by decide +kernel)
theorem fX4_7 : u_lay RX4 TX4 7 ∈ gTs := gT_in 276 (by decide +kernel) (by decide +kernel)
theorem fX4_8 : u_lay RX4 TX4 8 ∈ gTs := gT_in 278 (by decide +kernel) (by decide +kernel)
theorem inX4 : ∀ c ∈ u_ws RX4 TX4 9, c ∈ gTs := fun c hc => by
  obtain ⟨k, hk, rfl⟩ := List.mem_map.mp hc
  have h1 := List.mem_range.mp hk
  match k, h1 with
  | 0, _ => exact fX4_0
  | 1, _ => exact fX4_1
  | 2, _ => exact fX4_2
  | 3, _ => exact fX4_3
  | 4, _ => exact fX4_4
  | 5, _ => exact fX4_5
  | 6, _ => exact fX4_6
  | 7, _ => exact fX4_7
  | 8, _ => exact fX4_8
  | k + 9, h1 => omega
theorem wrX4 : gFw (RX4, TX4, 9) := ⟨nmX4, tyX4, tyX4_ok⟩
theorem fX5_0 : u_lay RX5 TX5 0 ∈ gTs := gT_in 218 (by decide +kernel) (by decide +kernel)
theorem fX5_1 : u_lay RX5 TX5 1 ∈ gTs := gT_in 220 (by decide +kernel) (by decide +kernel)
theorem inX5 : ∀ c ∈ u_ws RX5 TX5 2, c ∈ gTs := fun c hc => by
  obtain ⟨k, hk, rfl⟩ := List.mem_map.mp hc
  have h1 := List.mem_range.mp hk
  match k, h1 with
  | 0, _ => exact fX5_0
  | 1, _ => exact fX5_1
  | k + 2, h1 => omega
theorem wrX5 : gFw (RX5, TX5, 2) := ⟨nmX5, tyX5, tyX5_ok⟩
theorem fX6_0 : u_lay RX6 TX6 0 ∈ gTs := gT_in 189 (by decide +kernel) (by decide +kernel)
theorem fX6_1 : u_lay RX6 TX6 1 ∈ gTs := gT_in 191 (by decide +kernel) (by decide +kernel)
theorem fX6_2 : u_lay RX6 TX6 2 ∈ gTs := gT_in 193 (by decide +kernel) (by decide +kernel)
theorem fX6_3 : u_lay RX6 TX6 3 ∈ gTs := gT_in 195 (by decide +kernel) (by decide +kernel)
theorem fX6_4 : u_lay RX6 TX6 4 ∈ gTs := gT_in 197 (by decide +kernel) (by decide +kernel)
theorem fX6_5 : u_lay RX6 TX6 5 ∈ gTs := gT_in 199 (by decide +kernel) (by decide +kernel)
theorem fX6_6 : u_lay RX6 TX6 6 ∈ gTs := gT_in 201 (by decide +kernel) (by decide +kernel)
theorem fX6_7 : u_lay RX6 TX6 7 ∈ gTs := gT_in 203 (by decide +kernel) (by decide +kernel)
theorem inX6 : ∀ c ∈ u_ws RX6 TX6 8, c ∈ gTs := fun c hc => by
  obtain ⟨k, hk, rfl⟩ := List.mem_map.mp hc
  have h1 := List.mem_range.mp hk
  match k, h1 with
  | 0, _ => exact fX6_0
  | 1, _ => exact fX6_1
  | 2, _ => exact fX6_2
  | 3, _ => exact fX6_3
  | 4, _ => exact fX6_4
  | 5, _ => exact fX6_5
  | 6, _ => exact fX6_6
  | 7, _ => exact fX6_7
  | k + 8, h1 => omega
theorem wrX6 : gFw (RX6, TX6, 8) := ⟨nmX6, tyX6, tyX6_ok⟩
theorem fX7_0 : u_lay RX7 TX7 0 ∈ gTs := gT_in 85 (by decide +kernel) (by decide +kernel)
theorem fX7_1 : u_lay RX7 TX7 1 ∈ gTs := gT_in 87 (by decide +kernel) (by decide +kernel)
theorem inX7 : ∀ c ∈ u_ws RX7 TX7 2, c ∈ gTs := fun c hc => by
  obtain ⟨k, hk, rfl⟩ := List.mem_map.mp hc
  have h1 := List.mem_range.mp hk
  match k, h1 with
  | 0, _ => exact fX7_0
  | 1, _ => exact fX7_1
  | k + 2, h1 => omega
theorem wrX7 : gFw (RX7, TX7, 2) := ⟨nmX7, tyX7, tyX7_ok⟩
theorem fX8_0 : u_lay RX8 TX8 0 ∈ gTs := gT_in 235 (by decide +kernel) (by decide +kernel)
theorem fX8_1 : u_lay RX8 TX8 1 ∈ gTs := gT_in 237 (by decide +kernel) (by decide +kernel)
theorem fX8_2 : u_lay RX8 TX8 2 ∈ gTs := gT_in 239 (by decide +kernel) (by decide +kernel)
theorem inX8 : ∀ c ∈ u_ws RX8 TX8 3, c ∈ gTs := fun c hc => by
  obtain ⟨k, hk, rfl⟩ := List.mem_map.mp hc
  have h1 := List.mem_range.mp hk
  match k, h1 with
  | 0, _ => exact fX8_0
  | 1, _ => exact fX8_1
  | 2, _ => exact fX8_2
  | k + 3, h1 => omega
theorem wrX8 : gFw (RX8, TX8, 3) := ⟨nmX8, tyX8, tyX8_ok⟩
theorem fX9_0 : u_lay RX9 TX9 0 ∈ gTs := gT_in 428 (by decide +kernel) (by decide +kernel)
theorem fX9_1 : u_lay RX9 TX9 1 ∈ gTs := gT_in 430 (by decide +kernel) (by decide +kernel)
theorem fX9_2 : u_lay RX9 TX9 2 ∈ gTs := gT_in 432 (by decide +kernel) (by decide +kernel)
theorem fX9_3 : u_lay RX9 TX9 3 ∈ gTs := gT_in 434 (by decide +kernel) (by decide +kernel)
theorem fX9_4 : u_lay RX9 TX9 4 ∈ gTs := gT_in 436 (by decide +kernel) (by decide +kernel)
theorem fX9_5 : u_lay RX9 TX9 5 ∈ gTs := gT_in 438 (by decide +kernel) (by decide +kernel)
theorem fX9_6 : u_lay RX9 TX9 6 ∈ gTs := gT_in 440 (by decide +kernel) (by decide +kernel)
theorem fX9_7 : u_lay RX9 TX9 7 ∈ gTs := gT_in 442 (by decide +kernel) (by decide +kernel)
theorem fX9_8 : u_lay RX9 TX9 8 ∈ gTs := gT_in 444 (by decide +kernel) (by decide +kernel)
theorem fX9_9 : u_lay RX9 TX9 9 ∈ gTs := gT_in 446 (by decide +kernel) (by decide +kernel)
theorem fX9_10 : u_lay RX9 TX9 10 ∈ gTs := gT_in 448 (by decide +kernel) (by decide +kernel)
theorem inX9 : ∀ c ∈ u_ws RX9 TX9 11, c ∈ gTs := fun c hc => by
  obtain ⟨k, hk, rfl⟩ := List.mem_map.mp hc
  have h1 := List.mem_range.mp hk
  match k, h1 with
  | 0, _ => exact fX9_0
  | 1, _ => exact fX9_1
  | 2, _ => exact fX9_2
  | 3, _ => exact fX9_3
  | 4, _ => exact fX9_4
  | 5, _ => exact fX9_5
  | 6, _ => exact fX9_6
  | 7, _ => exact fX9_7
  | 8, _ => exact fX9_8
  | 9, _ => exact fX9_9
  | 10, _ => exact fX9_10
  | k + 11, h1 => omega
theorem wrX9 : gFw (RX9, TX9, 11) := ⟨nmX9, tyX9, tyX9_ok⟩
theorem fX10_0 : u_lay RX10 TX10 0 ∈ gTs := gT_in 836 (by decide +kernel) (by decide +kernel)
theorem fX10_1 : u_lay RX10 TX10 1 ∈ gTs := gT_in 838 (by decide +kernel) (by decide +kernel)
theorem fX10_2 : u_lay RX10 TX10 2 ∈ gTs := gT_in 840 (by decide +kernel) (by decide +kernel)
theorem fX10_3 : u_lay RX10 TX10 3 ∈ gTs := gT_in 842 (by decide +kernel) (by decide +kernel)
theorem fX10_4 : u_lay RX10 TX10 4 ∈ gTs := gT_in 844 (by decide +kernel) (by decide +kernel)
theorem fX10_5 : u_lay RX10 TX10 5 ∈ gTs := gT_in 846 (by decide +kernel) (by decide +kernel)
theorem fX10_6 : u_lay RX10 TX10 6 ∈ gTs := gT_in 848 (by decide +kernel) (by decide +kernel)
theorem fX10_7 : u_lay RX10 TX10 7 ∈ gTs := gT_in 850 (by decide +kernel) (by decide +kernel)
theorem fX10_8 : u_lay RX10 TX10 8 ∈ gTs := gT_in 852 (by decide +kernel) (by decide +kernel)
theorem fX10_9 : u_lay RX10 TX10 9 ∈ gTs := gT_in 854 (by decide +kernel) (by decide +kernel)
theorem fX10_10 : u_lay RX10 TX10 10 ∈ gTs := gT_in 856 (by decide +kernel) (by decide +kernel)
theorem fX10_11 : u_lay RX10 TX10 11 ∈ gTs := gT_in 858 (by decide +kernel) (by decide +kernel)
theorem fX10_12 : u_lay RX10 TX10 12 ∈ gTs := gT_in 860 (by decide +kernel) (by decide +kernel)
theorem fX10_13 : u_lay RX10 TX10 13 ∈ gTs := gT_in 862 (by decide +kernel) (by decide +kernel)
theorem fX10_14 : u_lay RX10 TX10 14 ∈ gTs := gT_in 864 (by decide +kernel) (by decide +kernel)
theorem inX10 : ∀ c ∈ u_ws RX10 TX10 15, c ∈ gTs := fun c hc => by
  obtain ⟨k, hk, rfl⟩ := List.mem_map.mp hc
  have h1 := List.mem_range.mp hk
  match k, h1 with
  | 0, _ => exact fX10_0
  | 1, _ => exact fX10_1
  | 2, _ => exact fX10_2
  | 3, _ => exact fX10_3
  | 4, _ => exact fX10_4
  | 5, _ => exact fX10_5
  | 6, _ => exact fX10_6
  | 7, _ => exact fX10_7
  | 8, _ => exact fX10_8
  | 9, _ => exact fX10_9
  | 10, _ => exact fX10_10
  | 11, _ => exact fX10_11
  | 12, _ => exact fX10_12
  | 13, _ => exact fX10_13
  | 14, _ => exact fX10_14
  | k + 15, h1 => omega
theorem wrX10 : gFw (RX10, TX10, 15) := ⟨nmX10, tyX10, tyX10_ok⟩
theorem lX3_7 : gFl RX3 7 3 0 (RX3, TX3, 1) := ⟨rfl, inX3, by decide, gT_in 78 (by decide +kernel) (by decide +kernel)⟩
theorem lX7_14 : gFl RX7 14 7 0 (RX7, TX7, 2) := ⟨rfl, inX7, by decide, gT_in 83 (by decide +kernel) (by decide +kernel)⟩
theorem lX7_20 : gFl RX7 20 7 1 (RX7, TX7, 2) := ⟨rfl, inX7, by decide, gT_in 84 (by decide +kernel) (by decide +kernel)⟩
theorem lX1_20 : gFl RX1 20 1 0 (RX1, TX1, 3) := ⟨rfl, inX1, by decide, gT_in 98 (by decide +kernel) (by decide +kernel)⟩
theorem lX1_16 : gFl RX1 16 1 1 (RX1, TX1, 3) := ⟨rfl, inX1, by decide, gT_in 99 (by decide +kernel) (by decide +kernel)⟩
theorem lX1_29 : gFl RX1 29 1 2 (RX1, TX1, 3) := ⟨rfl, inX1, by decide, gT_in 100 (by decide +kernel) (by decide +kernel)⟩
theorem lX2_14 : gFl RX2 14 2 0 (RX2, TX2, 10) := ⟨rfl, inX2, by decide, gT_in 116 (by decide +kernel) (by decide +kernel)⟩
theorem lX9_121 : gFl RX9 121 2 0 (RX2, TX2, 10) := ⟨rfl, inX2, by decide, gT_in 117 (by decide +kernel) (by decide +kernel)⟩
theorem lX6_88 : gFl RX6 88 2 0 (RX2, TX2, 10) := ⟨rfl, inX2, by decide, gT_in 118 (by decide +kernel) (by decide +kernel)⟩
theorem lX2_20 : gFl RX2 20 2 1 (RX2, TX2, 10) := ⟨rfl, inX2, by decide, gT_in 119 (by decide +kernel) (by decide +kernel)⟩
theorem lX9_131 : gFl RX9 131 2 1 (RX2, TX2, 10) := ⟨rfl, inX2, by decide, gT_in 120 (by decide +kernel) (by decide +kernel)⟩
theorem lX6_85 : gFl RX6 85 2 1 (RX2, TX2, 10) := ⟨rfl, inX2, by decide, gT_in 121 (by decide +kernel) (by decide +kernel)⟩
theorem lX2_23 : gFl RX2 23 2 2 (RX2, TX2, 10) := ⟨rfl, inX2, by decide, gT_in 122 (by decide +kernel) (by decide +kernel)⟩
theorem lX6_63 : gFl RX6 63 2 2 (RX2, TX2, 10) := ⟨rfl, inX2, by decide, gT_in 123 (by decide +kernel) (by decide +kernel)⟩
theorem lX4_90 : gFl RX4 90 2 2 (RX2, TX2, 10) := ⟨rfl, inX2, by decide, gT_in 124 (by decide +kernel) (by decide +kernel)⟩
theorem lX9_134 : gFl RX9 134 2 2 (RX2, TX2, 10) := ⟨rfl, inX2, by decide, gT_in 125 (by decide +kernel) (by decide +kernel)⟩
theorem lX2_26 : gFl RX2 26 2 3 (RX2, TX2, 10) := ⟨rfl, inX2, by decide, gT_in 126 (by decide +kernel) (by decide +kernel)⟩
theorem lX9_137 : gFl RX9 137 2 3 (RX2, TX2, 10) := ⟨rfl, inX2, by decide, gT_in 127 (by decide +kernel) (by decide +kernel)⟩
theorem lX2_29 : gFl RX2 29 2 4 (RX2, TX2, 10) := ⟨rfl, inX2, by decide, gT_in 128 (by decide +kernel) (by decide +kernel)⟩
theorem lX6_113 : gFl RX6 113 2 4 (RX2, TX2, 10) := ⟨rfl, inX2, by decide, gT_in 129 (by decide +kernel) (by decide +kernel)⟩
theorem lX2_35 : gFl RX2 35 2 5 (RX2, TX2, 10) := ⟨rfl, inX2, by decide, gT_in 130 (by decide +kernel) (by decide +kernel)⟩
theorem lX6_73 : gFl RX6 73 2 5 (RX2, TX2, 10) := ⟨rfl, inX2, by decide, gT_in 131 (by decide +kernel) (by decide +kernel)⟩
theorem lX2_39 : gFl RX2 39 2 6 (RX2, TX2, 10) := ⟨rfl, inX2, by decide, gT_in 132 (by decide +kernel) (by decide +kernel)⟩
theorem lX6_60 : gFl RX6 60 2 6 (RX2, TX2, 10) := ⟨rfl, inX2, by decide, gT_in 133 (by decide +kernel) (by decide +kernel)⟩
theorem lX9_108 : gFl RX9 108 2 6 (RX2, TX2, 10) := ⟨rfl, inX2, by decide, gT_in 134 (by decide +kernel) (by decide +kernel)⟩
theorem lX4_81 : gFl RX4 81 2 6 (RX2, TX2, 10) := ⟨rfl, inX2, by decide, gT_in 135 (by decide +kernel) (by decide +kernel)⟩
theorem lX2_46 : gFl RX2 46 2 7 (RX2, TX2, 10) := ⟨rfl, inX2, by decide, gT_in 136 (by decide +kernel) (by decide +kernel)⟩
theorem lX9_152 : gFl RX9 152 2 7 (RX2, TX2, 10) := ⟨rfl, inX2, by decide, gT_in 137 (by decide +kernel) (by decide +kernel)⟩
theorem lX6_104 : gFl RX6 104 2 7 (RX2, TX2, 10) := ⟨rfl, inX2, by decide, gT_in 138 (by decide +kernel) (by decide +kernel)⟩
theorem lX4_123 : gFl RX4 123 2 7 (RX2, TX2, 10) := ⟨rfl, inX2, by decide, gT_in 139 (by decide +kernel) (by decide +kernel)⟩
theorem lX2_49 : gFl RX2 49 2 8 (RX2, TX2, 10) := ⟨rfl, inX2, by decide, gT_in 140 (by decide +kernel) (by decide +kernel)⟩
theorem lX6_107 : gFl RX6 107 2 8 (RX2, TX2, 10) := ⟨rfl, inX2, by decide, gT_in 141 (by decide +kernel) (by decide +kernel)⟩
theorem lX2_52 : gFl RX2 52 2 9 (RX2, TX2, 10) := ⟨rfl, inX2, by decide, gT_in 142 (by decide +kernel) (by decide +kernel)⟩
theorem lX6_110 : gFl RX6 110 2 9 (RX2, TX2, 10) := ⟨rfl, inX2, by decide, gT_in 143 (by decide +kernel) (by decide +kernel)⟩
theorem lX6_20 : gFl RX6 20 6 0 (RX6, TX6, 8) := ⟨rfl, inX6, by decide, gT_in 173 (by decide +kernel) (by decide +kernel)⟩
theorem lX6_14 : gFl RX6 14 6 1 (RX6, TX6, 8) := ⟨rfl, inX6, by decide, gT_in 174 (by decide +kernel) (by decide +kernel)⟩
theorem lX9_143 : gFl RX9 143 6 1 (RX6, TX6, 8) := ⟨rfl, inX6, by decide, gT_in 175 (by decide +kernel) (by decide +kernel)⟩
theorem lX6_27 : gFl RX6 27 6 2 (RX6, TX6, 8) := ⟨rfl, inX6, by decide, gT_in 176 (by decide +kernel) (by decide +kernel)⟩
theorem lX4_93 : gFl RX4 93 6 2 (RX6, TX6, 8) := ⟨rfl, inX6, by decide, gT_in 177 (by decide +kernel) (by decide +kernel)⟩
theorem lX9_166 : gFl RX9 166 6 2 (RX6, TX6, 8) := ⟨rfl, inX6, by decide, gT_in 178 (by decide +kernel) (by decide +kernel)⟩
theorem lX6_31 : gFl RX6 31 6 3 (RX6, TX6, 8) := ⟨rfl, inX6, by decide, gT_in 179 (by decide +kernel) (by decide +kernel)⟩
theorem lX9_146 : gFl RX9 146 6 3 (RX6, TX6, 8) := ⟨rfl, inX6, by decide, gT_in 180 (by decide +kernel) (by decide +kernel)⟩
theorem lX6_34 : gFl RX6 34 6 4 (RX6, TX6, 8) := ⟨rfl, inX6, by decide, gT_in 181 (by decide +kernel) (by decide +kernel)⟩
theorem lX9_273 : gFl RX9 273 6 4 (RX6, TX6, 8) := ⟨rfl, inX6, by decide, gT_in 182 (by decide +kernel) (by decide +kernel)⟩
theorem lX6_37 : gFl RX6 37 6 5 (RX6, TX6, 8) := ⟨rfl, inX6, by decide, gT_in 183 (by decide +kernel) (by decide +kernel)⟩
theorem lX9_276 : gFl RX9 276 6 5 (RX6, TX6, 8) := ⟨rfl, inX6, by decide, gT_in 184 (by decide +kernel) (by decide +kernel)⟩
theorem lX6_40 : gFl RX6 40 6 6 (RX6, TX6, 8) := ⟨rfl, inX6, by decide, gT_in 185 (by decide +kernel) (by decide +kernel)⟩
theorem lX9_262 : gFl RX9 262 6 6 (RX6, TX6, 8) := ⟨rfl, inX6, by decide, gT_in 186 (by decide +kernel) (by decide +kernel)⟩
theorem lX6_43 : gFl RX6 43 6 7 (RX6, TX6, 8) := ⟨rfl, inX6, by decide, gT_in 187 (by decide +kernel) (by decide +kernel)⟩
theorem lX9_265 : gFl RX9 265 6 7 (RX6, TX6, 8) := ⟨rfl, inX6, by decide, gT_in 188 (by decide +kernel) (by decide +kernel)⟩
theorem lX5_9 : gFl RX5 9 5 0 (RX5, TX5, 2) := ⟨rfl, inX5, by decide, gT_in 215 (by decide +kernel) (by decide +kernel)⟩
theorem lX5_18 : gFl RX5 18 5 1 (RX5, TX5, 2) := ⟨rfl, inX5, by decide, gT_in 216 (by decide +kernel) (by decide +kernel)⟩
theorem lX9_185 : gFl RX9 185 5 1 (RX5, TX5, 2) := ⟨rfl, inX5, by decide, gT_in 217 (by decide +kernel) (by decide +kernel)⟩
theorem lX8_14 : gFl RX8 14 8 0 (RX8, TX8, 3) := ⟨rfl, inX8, by decide, gT_in 231 (by decide +kernel) (by decide +kernel)⟩
theorem lX8_20 : gFl RX8 20 8 1 (RX8, TX8, 3) := ⟨rfl, inX8, by decide, gT_in 232 (by decide +kernel) (by decide +kernel)⟩
theorem lX8_23 : gFl RX8 23 8 2 (RX8, TX8, 3) := ⟨rfl, inX8, by decide, gT_in 233 (by decide +kernel) (by decide +kernel)⟩
theorem lX9_225 : gFl RX9 225 8 2 (RX8, TX8, 3) := ⟨rfl, inX8, by decide, gT_in 234 (by decide +kernel) (by decide +kernel)⟩
theorem lX4_29 : gFl RX4 29 4 0 (RX4, TX4, 9) := ⟨rfl, inX4, by decide, gT_in 250 (by decide +kernel) (by decide +kernel)⟩
theorem lX4_33 : gFl RX4 33 4 1 (RX4, TX4, 9) := ⟨rfl, inX4, by decide, gT_in 251 (by decide +kernel) (by decide +kernel)⟩
theorem lX4_14 : gFl RX4 14 4 2 (RX4, TX4, 9) := ⟨rfl, inX4, by decide, gT_in 252 (by decide +kernel) (by decide +kernel)⟩
theorem lX4_20 : gFl RX4 20 4 3 (RX4, TX4, 9) := ⟨rfl, inX4, by decide, gT_in 253 (by decide +kernel) (by decide +kernel)⟩
theorem lX4_23 : gFl RX4 23 4 4 (RX4, TX4, 9) := ⟨rfl, inX4, by decide, gT_in 254 (by decide +kernel) (by decide +kernel)⟩
theorem lX4_26 : gFl RX4 26 4 5 (RX4, TX4, 9) := ⟨rfl, inX4, by decide, gT_in 255 (by decide +kernel) (by decide +kernel)⟩
theorem lX4_99 : gFl RX4 99 4 6 (RX4, TX4, 9) := ⟨rfl, inX4, by decide, gT_in 256 (by decide +kernel) (by decide +kernel)⟩
theorem lX9_197 : gFl RX9 197 4 6 (RX4, TX4, 9) := ⟨rfl, inX4, by decide, gT_in 257 (by decide +kernel) (by decide +kernel)⟩
theorem lX4_102 : gFl RX4 102 4 7 (RX4, TX4, 9) := ⟨rfl, inX4, by decide, gT_in 258 (by decide +kernel) (by decide +kernel)⟩
theorem lX9_200 : gFl RX9 200 4 7 (RX4, TX4, 9) := ⟨rfl, inX4, by decide, gT_in 259 (by decide +kernel) (by decide +kernel)⟩
theorem lX4_105 : gFl RX4 105 4 8 (RX4, TX4, 9) := ⟨rfl, inX4, by decide, gT_in 260 (by decide +kernel) (by decide +kernel)⟩
theorem lX9_203 : gFl RX9 203 4 8 (RX4, TX4, 9) := ⟨rfl, inX4, by decide, gT_in 261 (by decide +kernel) (by decide +kernel)⟩
theorem lX0_20 : gFl RX0 20 0 0 (RX0, TX0, 4) := ⟨rfl, inX0, by decide, gT_in 289 (by decide +kernel) (by decide +kernel)⟩
theorem lX0_14 : gFl RX0 14 0 1 (RX0, TX0, 4) := ⟨rfl, inX0, by decide, gT_in 290 (by decide +kernel) (by decide +kernel)⟩
theorem lX0_69 : gFl RX0 69 0 2 (RX0, TX0, 4) := ⟨rfl, inX0, by decide, gT_in 291 (by decide +kernel) (by decide +kernel)⟩
theorem lX9_247 : gFl RX9 247 0 2 (RX0, TX0, 4) := ⟨rfl, inX0, by decide, gT_in 292 (by decide +kernel) (by decide +kernel)⟩
theorem lX0_73 : gFl RX0 73 0 3 (RX0, TX0, 4) := ⟨rfl, inX0, by decide, gT_in 293 (by decide +kernel) (by decide +kernel)⟩
theorem lX9_250 : gFl RX9 250 0 3 (RX0, TX0, 4) := ⟨rfl, inX0, by decide, gT_in 294 (by decide +kernel) (by decide +kernel)⟩
theorem lX9_12 : gFl RX9 12 9 0 (RX9, TX9, 11) := ⟨rfl, inX9, by decide, gT_in 417 (by decide +kernel) (by decide +kernel)⟩
theorem lX9_21 : gFl RX9 21 9 1 (RX9, TX9, 11) := ⟨rfl, inX9, by decide, gT_in 418 (by decide +kernel) (by decide +kernel)⟩
theorem lX9_28 : gFl RX9 28 9 2 (RX9, TX9, 11) := ⟨rfl, inX9, by decide, gT_in 419 (by decide +kernel) (by decide +kernel)⟩
theorem lX9_32 : gFl RX9 32 9 3 (RX9, TX9, 11) := ⟨rfl, inX9, by decide, gT_in 420 (by decide +kernel) (by decide +kernel)⟩
theorem lX9_40 : gFl RX9 40 9 4 (RX9, TX9, 11) := ⟨rfl, inX9, by decide, gT_in 421 (by decide +kernel) (by decide +kernel)⟩
theorem lX9_44 : gFl RX9 44 9 5 (RX9, TX9, 11) := ⟨rfl, inX9, by decide, gT_in 422 (by decide +kernel) (by decide +kernel)⟩
theorem lX9_52 : gFl RX9 52 9 6 (RX9, TX9, 11) := ⟨rfl, inX9, by decide, gT_in 423 (by decide +kernel) (by decide +kernel)⟩
theorem lX9_56 : gFl RX9 56 9 7 (RX9, TX9, 11) := ⟨rfl, inX9, by decide, gT_in 424 (by decide +kernel) (by decide +kernel)⟩
theorem lX9_62 : gFl RX9 62 9 8 (RX9, TX9, 11) := ⟨rfl, inX9, by decide, gT_in 425 (by decide +kernel) (by decide +kernel)⟩
theorem lX9_71 : gFl RX9 71 9 9 (RX9, TX9, 11) := ⟨rfl, inX9, by decide, gT_in 426 (by decide +kernel) (by decide +kernel)⟩
theorem lX9_80 : gFl RX9 80 9 10 (RX9, TX9, 11) := ⟨rfl, inX9, by decide, gT_in 427 (by decide +kernel) (by decide +kernel)⟩
theorem lX10_7 : gFl RX10 7 10 0 (RX10, TX10, 15) := ⟨rfl, inX10, by decide, gT_in 821 (by decide +kernel) (by decide +kernel)⟩
theorem lX10_54 : gFl RX10 54 10 1 (RX10, TX10, 15) := ⟨rfl, inX10, by decide, gT_in 822 (by decide +kernel) (by decide +kernel)⟩
theorem lX10_13 : gFl RX10 13 10 2 (RX10, TX10, 15) := ⟨rfl, inX10, by decide, gT_in 823 (by decide +kernel) (by decide +kernel)⟩
theorem lX10_16 : gFl RX10 16 10 3 (RX10, TX10, 15) := ⟨rfl, inX10, by decide, gT_in 824 (by decide +kernel) (by decide +kernel)⟩
theorem lX10_19 : gFl RX10 19 10 4 (RX10, TX10, 15) := ⟨rfl, inX10, by decide, gT_in 825 (by decide +kernel) (by decide +kernel)⟩
theorem lX10_22 : gFl RX10 22 10 5 (RX10, TX10, 15) := ⟨rfl, inX10, by decide, gT_in 826 (by decide +kernel) (by decide +kernel)⟩
theorem lX10_80 : gFl RX10 80 10 6 (RX10, TX10, 15) := ⟨rfl, inX10, by decide, gT_in 827 (by decide +kernel) (by decide +kernel)⟩
theorem lX10_25 : gFl RX10 25 10 7 (RX10, TX10, 15) := ⟨rfl, inX10, by decide, gT_in 828 (by decide +kernel) (by decide +kernel)⟩
theorem lX10_83 : gFl RX10 83 10 8 (RX10, TX10, 15) := ⟨rfl, inX10, by decide, gT_in 829 (by decide +kernel) (by decide +kernel)⟩
theorem lX10_28 : gFl RX10 28 10 9 (RX10, TX10, 15) := ⟨rfl, inX10, by decide, gT_in 830 (by decide +kernel) (by decide +kernel)⟩
theorem lX10_86 : gFl RX10 86 10 10 (RX10, TX10, 15) := ⟨rfl, inX10, by decide, gT_in 831 (by decide +kernel) (by decide +kernel)⟩
theorem lX10_58 : gFl RX10 58 10 11 (RX10, TX10, 15) := ⟨rfl, inX10, by decide, gT_in 832 (by decide +kernel) (by decide +kernel)⟩
theorem lX10_31 : gFl RX10 31 10 12 (RX10, TX10, 15) := ⟨rfl, inX10, by decide, gT_in 833 (by decide +kernel) (by decide +kernel)⟩
theorem lX10_34 : gFl RX10 34 10 13 (RX10, TX10, 15) := ⟨rfl, inX10, by decide, gT_in 834 (by decide +kernel) (by decide +kernel)⟩
theorem lX10_37 : gFl RX10 37 10 14 (RX10, TX10, 15) := ⟨rfl, inX10, by decide, gT_in 835 (by decide +kernel) (by decide +kernel)⟩
abbrev mX0_init : gY := (yX0_init, cX0_init, 2, none, 2, 41)
theorem aX0_init : gCal mX0_init 1 := ⟨gT_in 285 (by decide +kernel) (by decide +kernel), gT_in 50 (by decide +kernel) (by decide +kernel), by decide, by decide, by decide +kernel⟩
abbrev mX0_reckon : gY := (yX0_reckon, cX0_reckon, 8, none, 5, 112)
theorem aX0_reckon : gCal mX0_reckon 1 := ⟨gT_in 745 (by decide +kernel) (by decide +kernel), gT_in 50 (by decide +kernel) (by decide +kernel), by decide, by decide, by decide +kernel⟩
abbrev mX0_isAble : gY := (yX0_isAble, cX0_isAble, 3, (some .boolean), 4, 90)
theorem aX0_isAble : gCal mX0_isAble 1 := ⟨gT_in 752 (by decide +kernel) (by decide +kernel), gT_in 50 (by decide +kernel) (by decide +kernel), by decide, by decide, by decide +kernel⟩
abbrev mX0_reduce : gY := (yX0_reduce, cX0_reduce, 7, none, 1, 30)
theorem aX0_reduce : gCal mX0_reduce 2 := ⟨gT_in 763 (by decide +kernel) (by decide +kernel), gT_in 50 (by decide +kernel) (by decide +kernel), by decide, by decide, by decide +kernel⟩
abbrev mX0_power : gY := (yX0_power, cX0_power, 5, (some .long), 0, 0)
theorem aX0_power : gCal mX0_power 2 := ⟨gT_in 759 (by decide +kernel) (by decide +kernel), gT_in 50 (by decide +kernel) (by decide +kernel), by decide, by decide, by decide +kernel⟩
abbrev mX0_commonDivisor : gY := (yX0_commonDivisor, cX0_commonDivisor, 11, (some .long), 0, 0)
theorem aX0_commonDivisor : gCal mX0_commonDivisor 2 := ⟨gT_in 766 (by decide +kernel) (by decide +kernel), gT_in 50 (by decide +kernel) (by decide +kernel), by decide, by decide, by decide +kernel⟩
abbrev mX1_init : gY := (yX1_init, cX1_init, 2, none, 2, 41)
theorem aX1_init : gCal mX1_init 1 := ⟨gT_in 94 (by decide +kernel) (by decide +kernel), gT_in 44 (by decide +kernel) (by decide +kernel), by decide, by decide, by decide +kernel⟩
abbrev mX1_readInto : gY := (yX1_readInto, cX1_readInto, 4, (some .int), 5, 110)
theorem aX1_readInto : gCal mX1_readInto 1 := ⟨gT_in 364 (by decide +kernel) (by decide +kernel), gT_in 44 (by decide +kernel) (by decide +kernel), by decide, by decide, by decide +kernel⟩
abbrev mX1_readItem : gY := (yX1_readItem, cX1_readItem, 3, (some .boolean), 4, 88)
theorem aX1_readItem : gCal mX1_readItem 1 := ⟨gT_in 384 (by decide +kernel) (by decide +kernel), gT_in 44 (by decide +kernel) (by decide +kernel), by decide, by decide, by decide +kernel⟩
abbrev mX1_readNumbers : gY := (yX1_readNumbers, cX1_readNumbers, 5, (some .boolean), 3, 64)
theorem aX1_readNumbers : gCal mX1_readNumbers 1 := ⟨gT_in 396 (by decide +kernel) (by decide +kernel), gT_in 44 (by decide +kernel) (by decide +kernel), by decide, by decide, by decide +kernel⟩
abbrev mX1_readNumber : gY := (yX1_readNumber, cX1_readNumber, 3, (some .int), 2, 42)
theorem aX1_readNumber : gCal mX1_readNumber 0 := ⟨gT_in 400 (by decide +kernel) (by decide +kernel), gT_in 44 (by decide +kernel) (by decide +kernel), by decide, by decide, by decide +kernel⟩
abbrev mX1_isFigure : gY := (yX1_isFigure, cX1_isFigure, 1, (some .boolean), 0, 0)
theorem aX1_isFigure : gCal mX1_isFigure 1 := ⟨gT_in 403 (by decide +kernel) (by decide +kernel), gT_in 44 (by decide +kernel) (by decide +kernel), by decide, by decide, by decide +kernel⟩
abbrev mX2_init : gY := (yX2_init, cX2_init, 1, none, 2, 41)
theorem aX2_init : gCal mX2_init 0 := ⟨gT_in 112 (by decide +kernel) (by decide +kernel), gT_in 45 (by decide +kernel) (by decide +kernel), by decide, by decide, by decide +kernel⟩
abbrev mX2_clear : gY := (yX2_clear, cX2_clear, 1, none, 1, 23)
theorem aX2_clear : gCal mX2_clear 0 := ⟨gT_in 368 (by decide +kernel) (by decide +kernel), gT_in 45 (by decide +kernel) (by decide +kernel), by decide, by decide, by decide +kernel⟩
abbrev mX2_setFerry : gY := (yX2_setFerry, cX2_setFerry, 4, (some .boolean), 0, 0)
theorem aX2_setFerry : gCal mX2_setFerry 3 := ⟨gT_in 376 (by decide +kernel) (by decide +kernel), gT_in 45 (by decide +kernel) (by decide +kernel), by decide, by decide, by decide +kernel⟩
abbrev mX2_addPerson : gY := (yX2_addPerson, cX2_addPerson, 5, (some .boolean), 1, 22)
theorem aX2_addPerson : gCal mX2_addPerson 4 := ⟨gT_in 410 (by decide +kernel) (by decide +kernel), gT_in 45 (by decide +kernel) (by decide +kernel), by decide, by decide, by decide +kernel⟩
abbrev mX2_everyone : gY := (yX2_everyone, cX2_everyone, 1, (some .int), 0, 0)
theorem aX2_everyone : gCal mX2_everyone 0 := ⟨gT_in 535 (by decide +kernel) (by decide +kernel), gT_in 45 (by decide +kernel) (by decide +kernel), by decide, by decide, by decide +kernel⟩
abbrev mX2_agesOf : gY := (yX2_agesOf, cX2_agesOf, 4, (some .int), 1, 21)
theorem aX2_agesOf : gCal mX2_agesOf 1 := ⟨gT_in 688 (by decide +kernel) (by decide +kernel), gT_in 45 (by decide +kernel) (by decide +kernel), by decide, by decide, by decide +kernel⟩
abbrev mX3_init : gY := (yX3_init, cX3_init, 2, none, 1, 20)
theorem aX3_init : gCal mX3_init 1 := ⟨gT_in 76 (by decide +kernel) (by decide +kernel), gT_in 43 (by decide +kernel) (by decide +kernel), by decide, by decide, by decide +kernel⟩
abbrev mX3_at : gY := (yX3_at, cX3_at, 2, (some .int), 0, 0)
theorem aX3_at : gCal mX3_at 1 := ⟨gT_in 392 (by decide +kernel) (by decide +kernel), gT_in 43 (by decide +kernel) (by decide +kernel), by decide, by decide, by decide +kernel⟩
abbrev mX3_put : gY := (yX3_put, cX3_put, 3, none, 0, 0)
theorem aX3_put : gCal mX3_put 2 := ⟨gT_in 360 (by decide +kernel) (by decide +kernel), gT_in 43 (by decide +kernel) (by decide +kernel), by decide, by decide, by decide +kernel⟩
abbrev mX3_fill : gY := (yX3_fill, cX3_fill, 3, none, 0, 0)
theorem aX3_fill : gCal mX3_fill 1 := ⟨gT_in 372 (by decide +kernel) (by decide +kernel), gT_in 43 (by decide +kernel) (by decide +kernel), by decide, by decide, by decide +kernel⟩
abbrev mX4_init : gY := (yX4_init, cX4_init, 3, none, 2, 41)
theorem aX4_init : gCal mX4_init 2 := ⟨gT_in 246 (by decide +kernel) (by decide +kernel), gT_in 49 (by decide +kernel) (by decide +kernel), by decide, by decide, by decide +kernel⟩
abbrev mX4_costAll : gY := (yX4_costAll, cX4_costAll, 3, none, 4, 90)
theorem aX4_costAll : gCal mX4_costAll 1 := ⟨gT_in 615 (by decide +kernel) (by decide +kernel), gT_in 49 (by decide +kernel) (by decide +kernel), by decide, by decide, by decide +kernel⟩
abbrev mX4_cheapest : gY := (yX4_cheapest, cX4_cheapest, 3, (some .int), 5, 112)
theorem aX4_cheapest : gCal mX4_cheapest 0 := ⟨gT_in 607 (by decide +kernel) (by decide +kernel), gT_in 49 (by decide +kernel) (by decide +kernel), by decide, by decide, by decide +kernel⟩
abbrev mX4_isBetter : gY := (yX4_isBetter, cX4_isBetter, 3, (some .boolean), 1, 21)
theorem aX4_isBetter : gCal mX4_isBetter 2 := ⟨gT_in 625 (by decide +kernel) (by decide +kernel), gT_in 49 (by decide +kernel) (by decide +kernel), by decide, by decide, by decide +kernel⟩
abbrev mX4_shortestWait : gY := (yX4_shortestWait, cX4_shortestWait, 4, (some .int), 5, 112)
theorem aX4_shortestWait : gCal mX4_shortestWait 0 := ⟨gT_in 634 (by decide +kernel) (by decide +kernel), gT_in 49 (by decide +kernel) (by decide +kernel), by decide, by decide, by decide +kernel⟩
abbrev mX4_waitFor : gY := (yX4_waitFor, cX4_waitFor, 4, (some .int), 1, 21)
theorem aX4_waitFor : gCal mX4_waitFor 1 := ⟨gT_in 639 (by decide +kernel) (by decide +kernel), gT_in 49 (by decide +kernel) (by decide +kernel), by decide, by decide, by decide +kernel⟩
abbrev mX4_manyWith : gY := (yX4_manyWith, cX4_manyWith, 4, (some .int), 5, 112)
theorem aX4_manyWith : gCal mX4_manyWith 1 := ⟨gT_in 670 (by decide +kernel) (by decide +kernel), gT_in 49 (by decide +kernel) (by decide +kernel), by decide, by decide, by decide +kernel⟩
abbrev mX4_inNone : gY := (yX4_inNone, cX4_inNone, 3, (some .int), 5, 112)
theorem aX4_inNone : gCal mX4_inNone 0 := ⟨gT_in 678 (by decide +kernel) (by decide +kernel), gT_in 49 (by decide +kernel) (by decide +kernel), by decide, by decide, by decide +kernel⟩
abbrev mX4_pack : gY := (yX4_pack, cX4_pack, 3, none, 5, 112)
theorem aX4_pack : gCal mX4_pack 0 := ⟨gT_in 652 (by decide +kernel) (by decide +kernel), gT_in 49 (by decide +kernel) (by decide +kernel), by decide, by decide, by decide +kernel⟩
abbrev mX4_packExactly : gY := (yX4_packExactly, cX4_packExactly, 8, none, 1, 22)
theorem aX4_packExactly : gCal mX4_packExactly 1 := ⟨gT_in 656 (by decide +kernel) (by decide +kernel), gT_in 49 (by decide +kernel) (by decide +kernel), by decide, by decide, by decide +kernel⟩
abbrev mX4_compareWay : gY := (yX4_compareWay, cX4_compareWay, 6, none, 1, 21)
theorem aX4_compareWay : gCal mX4_compareWay 2 := ⟨gT_in 660 (by decide +kernel) (by decide +kernel), gT_in 49 (by decide +kernel) (by decide +kernel), by decide, by decide, by decide +kernel⟩
abbrev mX4_unlikeTotals : gY := (yX4_unlikeTotals, cX4_unlikeTotals, 5, (some .int), 3, 68)
theorem aX4_unlikeTotals : gCal mX4_unlikeTotals 0 := ⟨gT_in 724 (by decide +kernel) (by decide +kernel), gT_in 49 (by decide +kernel) (by decide +kernel), by decide, by decide, by decide +kernel⟩
abbrev mX4_nearestTotal : gY := (yX4_nearestTotal, cX4_nearestTotal, 5, (some .int), 3, 68)
theorem aX4_nearestTotal : gCal mX4_nearestTotal 0 := ⟨gT_in 730 (by decide +kernel) (by decide +kernel), gT_in 49 (by decide +kernel) (by decide +kernel), by decide, by decide, by decide +kernel⟩
abbrev mX4_nearer : gY := (yX4_nearer, cX4_nearer, 5, (some .int), 1, 21)
theorem aX4_nearer : gCal mX4_nearer 2 := ⟨gT_in 734 (by decide +kernel) (by decide +kernel), gT_in 49 (by decide +kernel) (by decide +kernel), by decide, by decide, by decide +kernel⟩
abbrev mX5_init : gY := (yX5_init, cX5_init, 4, none, 3, 62)
theorem aX5_init : gCal mX5_init 2 := ⟨gT_in 210 (by decide +kernel) (by decide +kernel), gT_in 47 (by decide +kernel) (by decide +kernel), by decide, by decide, by decide +kernel⟩
abbrev mX5_clear : gY := (yX5_clear, cX5_clear, 1, none, 0, 0)
theorem aX5_clear : gCal mX5_clear 0 := ⟨gT_in 477 (by decide +kernel) (by decide +kernel), gT_in 47 (by decide +kernel) (by decide +kernel), by decide, by decide, by decide +kernel⟩
abbrev mX5_add : gY := (yX5_add, cX5_add, 3, none, 2, 44)
theorem aX5_add : gCal mX5_add 1 := ⟨gT_in 545 (by decide +kernel) (by decide +kernel), gT_in 47 (by decide +kernel) (by decide +kernel), by decide, by decide, by decide +kernel⟩
abbrev mX5_takeInto : gY := (yX5_takeInto, cX5_takeInto, 3, (some .boolean), 2, 44)
theorem aX5_takeInto : gCal mX5_takeInto 1 := ⟨gT_in 599 (by decide +kernel) (by decide +kernel), gT_in 47 (by decide +kernel) (by decide +kernel), by decide, by decide, by decide +kernel⟩
abbrev mX5_dropOldest : gY := (yX5_dropOldest, cX5_dropOldest, 3, none, 1, 21)
theorem aX5_dropOldest : gCal mX5_dropOldest 0 := ⟨gT_in 549 (by decide +kernel) (by decide +kernel), gT_in 47 (by decide +kernel) (by decide +kernel), by decide, by decide, by decide +kernel⟩
abbrev mX5_at : gY := (yX5_at, cX5_at, 2, (some (.object "AgesFerry$State")), 0, 0)
theorem aX5_at : gCal mX5_at 1 := ⟨gT_in 553 (by decide +kernel) (by decide +kernel), gT_in 47 (by decide +kernel) (by decide +kernel), by decide, by decide, by decide +kernel⟩
abbrev mX6_init : gY := (yX6_init, cX6_init, 2, none, 2, 41)
theorem aX6_init : gCal mX6_init 1 := ⟨gT_in 169 (by decide +kernel) (by decide +kernel), gT_in 46 (by decide +kernel) (by decide +kernel), by decide, by decide, by decide +kernel⟩
abbrev mX6_reset : gY := (yX6_reset, cX6_reset, 1, none, 1, 22)
theorem aX6_reset : gCal mX6_reset 0 := ⟨gT_in 472 (by decide +kernel) (by decide +kernel), gT_in 46 (by decide +kernel) (by decide +kernel), by decide, by decide, by decide +kernel⟩
abbrev mX6_copyFrom : gY := (yX6_copyFrom, cX6_copyFrom, 3, none, 1, 22)
theorem aX6_copyFrom : gCal mX6_copyFrom 1 := ⟨gT_in 557 (by decide +kernel) (by decide +kernel), gT_in 46 (by decide +kernel) (by decide +kernel), by decide, by decide, by decide +kernel⟩
abbrev mX6_remaining : gY := (yX6_remaining, cX6_remaining, 1, (some .int), 1, 20)
theorem aX6_remaining : gCal mX6_remaining 0 := ⟨gT_in 531 (by decide +kernel) (by decide +kernel), gT_in 46 (by decide +kernel) (by decide +kernel), by decide, by decide, by decide +kernel⟩
abbrev mX6_present : gY := (yX6_present, cX6_present, 3, (some .int), 2, 40)
theorem aX6_present : gCal mX6_present 0 := ⟨gT_in 611 (by decide +kernel) (by decide +kernel), gT_in 46 (by decide +kernel) (by decide +kernel), by decide, by decide, by decide +kernel⟩
abbrev mX6_placeOf : gY := (yX6_placeOf, cX6_placeOf, 2, (some .int), 1, 21)
theorem aX6_placeOf : gCal mX6_placeOf 1 := ⟨gT_in 494 (by decide +kernel) (by decide +kernel), gT_in 46 (by decide +kernel) (by decide +kernel), by decide, by decide, by decide +kernel⟩
abbrev mX6_totalOf : gY := (yX6_totalOf, cX6_totalOf, 5, (some .int), 2, 44)
theorem aX6_totalOf : gCal mX6_totalOf 1 := ⟨gT_in 506 (by decide +kernel) (by decide +kernel), gT_in 46 (by decide +kernel) (by decide +kernel), by decide, by decide, by decide +kernel⟩
abbrev mX6_yearsOf : gY := (yX6_yearsOf, cX6_yearsOf, 4, (some .int), 1, 21)
theorem aX6_yearsOf : gCal mX6_yearsOf 2 := ⟨gT_in 516 (by decide +kernel) (by decide +kernel), gT_in 46 (by decide +kernel) (by decide +kernel), by decide, by decide, by decide +kernel⟩
abbrev mX6_costOf : gY := (yX6_costOf, cX6_costOf, 3, (some .int), 3, 68)
theorem aX6_costOf : gCal mX6_costOf 1 := ⟨gT_in 523 (by decide +kernel) (by decide +kernel), gT_in 46 (by decide +kernel) (by decide +kernel), by decide, by decide, by decide +kernel⟩
abbrev mX6_partsNoParty : gY := (yX6_partsNoParty, cX6_partsNoParty, 5, (some .boolean), 2, 40)
theorem aX6_partsNoParty : gCal mX6_partsNoParty 1 := ⟨gT_in 527 (by decide +kernel) (by decide +kernel), gT_in 46 (by decide +kernel) (by decide +kernel), by decide, by decide, by decide +kernel⟩
abbrev mX6_takeOn : gY := (yX6_takeOn, cX6_takeOn, 2, none, 0, 0)
theorem aX6_takeOn : gCal mX6_takeOn 1 := ⟨gT_in 566 (by decide +kernel) (by decide +kernel), gT_in 46 (by decide +kernel) (by decide +kernel), by decide, by decide, by decide +kernel⟩
abbrev mX6_letOff : gY := (yX6_letOff, cX6_letOff, 2, none, 0, 0)
theorem aX6_letOff : gCal mX6_letOff 1 := ⟨gT_in 574 (by decide +kernel) (by decide +kernel), gT_in 46 (by decide +kernel) (by decide +kernel), by decide, by decide, by decide +kernel⟩
abbrev mX6_bury : gY := (yX6_bury, cX6_bury, 2, none, 1, 21)
theorem aX6_bury : gCal mX6_bury 1 := ⟨gT_in 582 (by decide +kernel) (by decide +kernel), gT_in 46 (by decide +kernel) (by decide +kernel), by decide, by decide, by decide +kernel⟩
abbrev mX6_depart : gY := (yX6_depart, cX6_depart, 3, none, 1, 22)
theorem aX6_depart : gCal mX6_depart 1 := ⟨gT_in 591 (by decide +kernel) (by decide +kernel), gT_in 46 (by decide +kernel) (by decide +kernel), by decide, by decide, by decide +kernel⟩
abbrev mX6_liveMinute : gY := (yX6_liveMinute, cX6_liveMinute, 3, none, 4, 90)
theorem aX6_liveMinute : gCal mX6_liveMinute 1 := ⟨gT_in 781 (by decide +kernel) (by decide +kernel), gT_in 46 (by decide +kernel) (by decide +kernel), by decide, by decide, by decide +kernel⟩
abbrev mX6_move : gY := (yX6_move, cX6_move, 4, none, 2, 42)
theorem aX6_move : gCal mX6_move 2 := ⟨gT_in 785 (by decide +kernel) (by decide +kernel), gT_in 46 (by decide +kernel) (by decide +kernel), by decide, by decide, by decide +kernel⟩
abbrev mX7_init : gY := (yX7_init, cX7_init, 1, none, 2, 41)
theorem aX7_init : gCal mX7_init 0 := ⟨gT_in 70 (by decide +kernel) (by decide +kernel), gT_in 42 (by decide +kernel) (by decide +kernel), by decide, by decide, by decide +kernel⟩
abbrev mX7_length : gY := (yX7_length, cX7_length, 1, (some .int), 0, 0)
theorem aX7_length : gCal mX7_length 0 := ⟨gT_in 380 (by decide +kernel) (by decide +kernel), gT_in 42 (by decide +kernel) (by decide +kernel), by decide, by decide, by decide +kernel⟩
abbrev mX7_clear : gY := (yX7_clear, cX7_clear, 1, none, 0, 0)
theorem aX7_clear : gCal mX7_clear 0 := ⟨gT_in 416 (by decide +kernel) (by decide +kernel), gT_in 42 (by decide +kernel) (by decide +kernel), by decide, by decide, by decide +kernel⟩
abbrev mX7_add : gY := (yX7_add, cX7_add, 2, none, 1, 22)
theorem aX7_add : gCal mX7_add 1 := ⟨gT_in 356 (by decide +kernel) (by decide +kernel), gT_in 42 (by decide +kernel) (by decide +kernel), by decide, by decide, by decide +kernel⟩
abbrev mX7_letterAt : gY := (yX7_letterAt, cX7_letterAt, 2, (some .int), 1, 21)
theorem aX7_letterAt : gCal mX7_letterAt 1 := ⟨gT_in 388 (by decide +kernel) (by decide +kernel), gT_in 42 (by decide +kernel) (by decide +kernel), by decide, by decide, by decide +kernel⟩
abbrev mX8_init : gY := (yX8_init, cX8_init, 1, none, 2, 41)
theorem aX8_init : gCal mX8_init 0 := ⟨gT_in 227 (by decide +kernel) (by decide +kernel), gT_in 48 (by decide +kernel) (by decide +kernel), by decide, by decide, by decide +kernel⟩
abbrev mX8_clear : gY := (yX8_clear, cX8_clear, 1, none, 0, 0)
theorem aX8_clear : gCal mX8_clear 0 := ⟨gT_in 481 (by decide +kernel) (by decide +kernel), gT_in 48 (by decide +kernel) (by decide +kernel), by decide, by decide, by decide +kernel⟩
abbrev mX8_add : gY := (yX8_add, cX8_add, 3, none, 1, 22)
theorem aX8_add : gCal mX8_add 2 := ⟨gT_in 693 (by decide +kernel) (by decide +kernel), gT_in 48 (by decide +kernel) (by decide +kernel), by decide, by decide, by decide +kernel⟩
abbrev mX8_isSoIf : gY := (yX8_isSoIf, cX8_isSoIf, 4, (some .boolean), 1, 21)
theorem aX8_isSoIf : gCal mX8_isSoIf 2 := ⟨gT_in 706 (by decide +kernel) (by decide +kernel), gT_in 48 (by decide +kernel) (by decide +kernel), by decide, by decide, by decide +kernel⟩
abbrev mX9_init : gY := (yX9_init, cX9_init, 2, none, 7, 200)
theorem aX9_init : gCal mX9_init 0 := ⟨gT_in 62 (by decide +kernel) (by decide +kernel), gT_in 41 (by decide +kernel) (by decide +kernel), by decide, by decide, by decide +kernel⟩
abbrev mX9_write : gY := (yX9_write, cX9_write, 2, (some .int), 2, 43)
theorem aX9_write : gCal mX9_write 1 := ⟨gT_in 455 (by decide +kernel) (by decide +kernel), gT_in 41 (by decide +kernel) (by decide +kernel), by decide, by decide, by decide +kernel⟩
abbrev mX9_wipe : gY := (yX9_wipe, cX9_wipe, 2, (some .int), 1, 20)
theorem aX9_wipe : gCal mX9_wipe 0 := ⟨gT_in 460 (by decide +kernel) (by decide +kernel), gT_in 41 (by decide +kernel) (by decide +kernel), by decide, by decide, by decide +kernel⟩
abbrev mX9_fault : gY := (yX9_fault, cX9_fault, 1, (some .int), 6, 133)
theorem aX9_fault : gCal mX9_fault 0 := ⟨gT_in 464 (by decide +kernel) (by decide +kernel), gT_in 41 (by decide +kernel) (by decide +kernel), by decide, by decide, by decide +kernel⟩
abbrev mX9_lay : gY := (yX9_lay, cX9_lay, 1, (some .int), 6, 133)
theorem aX9_lay : gCal mX9_lay 0 := ⟨gT_in 468 (by decide +kernel) (by decide +kernel), gT_in 41 (by decide +kernel) (by decide +kernel), by decide, by decide, by decide +kernel⟩
abbrev mX9_person : gY := (yX9_person, cX9_person, 3, (some .int), 2, 42)
theorem aX9_person : gCal mX9_person 2 := ⟨gT_in 485 (by decide +kernel) (by decide +kernel), gT_in 41 (by decide +kernel) (by decide +kernel), by decide, by decide, by decide +kernel⟩
abbrev mX9_sum : gY := (yX9_sum, cX9_sum, 4, (some .int), 4, 90)
theorem aX9_sum : gCal mX9_sum 1 := ⟨gT_in 502 (by decide +kernel) (by decide +kernel), gT_in 41 (by decide +kernel) (by decide +kernel), by decide, by decide, by decide +kernel⟩
abbrev mX9_pass : gY := (yX9_pass, cX9_pass, 2, (some .int), 3, 66)
theorem aX9_pass : gCal mX9_pass 1 := ⟨gT_in 541 (by decide +kernel) (by decide +kernel), gT_in 41 (by decide +kernel) (by decide +kernel), by decide, by decide, by decide +kernel⟩
abbrev mX9_board : gY := (yX9_board, cX9_board, 2, (some .int), 3, 68)
theorem aX9_board : gCal mX9_board 1 := ⟨gT_in 562 (by decide +kernel) (by decide +kernel), gT_in 41 (by decide +kernel) (by decide +kernel), by decide, by decide, by decide +kernel⟩
abbrev mX9_stepOff : gY := (yX9_stepOff, cX9_stepOff, 2, (some .int), 3, 68)
theorem aX9_stepOff : gCal mX9_stepOff 1 := ⟨gT_in 570 (by decide +kernel) (by decide +kernel), gT_in 41 (by decide +kernel) (by decide +kernel), by decide, by decide, by decide +kernel⟩
abbrev mX9_die : gY := (yX9_die, cX9_die, 3, (some .int), 3, 66)
theorem aX9_die : gCal mX9_die 1 := ⟨gT_in 578 (by decide +kernel) (by decide +kernel), gT_in 41 (by decide +kernel) (by decide +kernel), by decide, by decide, by decide +kernel⟩
abbrev mX9_sail : gY := (yX9_sail, cX9_sail, 2, (some .int), 4, 90)
theorem aX9_sail : gCal mX9_sail 0 := ⟨gT_in 587 (by decide +kernel) (by decide +kernel), gT_in 41 (by decide +kernel) (by decide +kernel), by decide, by decide, by decide +kernel⟩
abbrev mX9_undo : gY := (yX9_undo, cX9_undo, 1, (some .int), 3, 66)
theorem aX9_undo : gCal mX9_undo 0 := ⟨gT_in 595 (by decide +kernel) (by decide +kernel), gT_in 41 (by decide +kernel) (by decide +kernel), by decide, by decide, by decide +kernel⟩
abbrev mX9_best : gY := (yX9_best, cX9_best, 3, (some .int), 6, 134)
theorem aX9_best : gCal mX9_best 1 := ⟨gT_in 603 (by decide +kernel) (by decide +kernel), gT_in 41 (by decide +kernel) (by decide +kernel), by decide, by decide, by decide +kernel⟩
abbrev mX9_waits : gY := (yX9_waits, cX9_waits, 1, (some .int), 6, 135)
theorem aX9_waits : gCal mX9_waits 0 := ⟨gT_in 630 (by decide +kernel) (by decide +kernel), gT_in 41 (by decide +kernel) (by decide +kernel), by decide, by decide, by decide +kernel⟩
abbrev mX9_sailings : gY := (yX9_sailings, cX9_sailings, 2, (some .int), 6, 134)
theorem aX9_sailings : gCal mX9_sailings 1 := ⟨gT_in 648 (by decide +kernel) (by decide +kernel), gT_in 41 (by decide +kernel) (by decide +kernel), by decide, by decide, by decide +kernel⟩
abbrev mX9_setsFor : gY := (yX9_setsFor, cX9_setsFor, 2, (some .int), 6, 135)
theorem aX9_setsFor : gCal mX9_setsFor 1 := ⟨gT_in 664 (by decide +kernel) (by decide +kernel), gT_in 41 (by decide +kernel) (by decide +kernel), by decide, by decide, by decide +kernel⟩
abbrev mX9_oddOnes : gY := (yX9_oddOnes, cX9_oddOnes, 1, (some .int), 6, 134)
theorem aX9_oddOnes : gCal mX9_oddOnes 0 := ⟨gT_in 674 (by decide +kernel) (by decide +kernel), gT_in 41 (by decide +kernel) (by decide +kernel), by decide, by decide, by decide +kernel⟩
abbrev mX9_tell : gY := (yX9_tell, cX9_tell, 3, (some .int), 2, 44)
theorem aX9_tell : gCal mX9_tell 2 := ⟨gT_in 682 (by decide +kernel) (by decide +kernel), gT_in 41 (by decide +kernel) (by decide +kernel), by decide, by decide, by decide +kernel⟩
abbrev mX9_forget : gY := (yX9_forget, cX9_forget, 2, (some .int), 1, 20)
theorem aX9_forget : gCal mX9_forget 0 := ⟨gT_in 698 (by decide +kernel) (by decide +kernel), gT_in 41 (by decide +kernel) (by decide +kernel), by decide, by decide, by decide +kernel⟩
abbrev mX9_liar : gY := (yX9_liar, cX9_liar, 3, (some .int), 3, 67)
theorem aX9_liar : gCal mX9_liar 0 := ⟨gT_in 702 (by decide +kernel) (by decide +kernel), gT_in 41 (by decide +kernel) (by decide +kernel), by decide, by decide, by decide +kernel⟩
abbrev mX9_age : gY := (yX9_age, cX9_age, 5, (some .int), 2, 44)
theorem aX9_age : gCal mX9_age 2 := ⟨gT_in 716 (by decide +kernel) (by decide +kernel), gT_in 41 (by decide +kernel) (by decide +kernel), by decide, by decide, by decide +kernel⟩
abbrev mX9_sums : gY := (yX9_sums, cX9_sums, 2, (some .int), 4, 92)
theorem aX9_sums : gCal mX9_sums 1 := ⟨gT_in 720 (by decide +kernel) (by decide +kernel), gT_in 41 (by decide +kernel) (by decide +kernel), by decide, by decide, by decide +kernel⟩
abbrev mX9_stays : gY := (yX9_stays, cX9_stays, 3, (some .int), 6, 139)
theorem aX9_stays : gCal mX9_stays 2 := ⟨gT_in 741 (by decide +kernel) (by decide +kernel), gT_in 41 (by decide +kernel) (by decide +kernel), by decide, by decide, by decide +kernel⟩
abbrev mX9_day : gY := (yX9_day, cX9_day, 5, (some .int), 5, 112)
theorem aX9_day : gCal mX9_day 3 := ⟨gT_in 770 (by decide +kernel) (by decide +kernel), gT_in 41 (by decide +kernel) (by decide +kernel), by decide, by decide, by decide +kernel⟩
abbrev mX9_keep : gY := (yX9_keep, cX9_keep, 1, (some .int), 3, 66)
theorem aX9_keep : gCal mX9_keep 0 := ⟨gT_in 793 (by decide +kernel) (by decide +kernel), gT_in 41 (by decide +kernel) (by decide +kernel), by decide, by decide, by decide +kernel⟩
abbrev mX9_back : gY := (yX9_back, cX9_back, 1, (some .int), 3, 66)
theorem aX9_back : gCal mX9_back 0 := ⟨gT_in 797 (by decide +kernel) (by decide +kernel), gT_in 41 (by decide +kernel) (by decide +kernel), by decide, by decide, by decide +kernel⟩
abbrev mX9_count : gY := (yX9_count, cX9_count, 2, (some .int), 3, 62)
theorem aX9_count : gCal mX9_count 1 := ⟨gT_in 801 (by decide +kernel) (by decide +kernel), gT_in 41 (by decide +kernel) (by decide +kernel), by decide, by decide, by decide +kernel⟩
abbrev mX9_isPerson : gY := (yX9_isPerson, cX9_isPerson, 2, (some .boolean), 0, 0)
theorem aX9_isPerson : gCal mX9_isPerson 1 := ⟨gT_in 489 (by decide +kernel) (by decide +kernel), gT_in 41 (by decide +kernel) (by decide +kernel), by decide, by decide, by decide +kernel⟩
abbrev mX9_couldBeAnother : gY := (yX9_couldBeAnother, cX9_couldBeAnother, 4, (some .boolean), 2, 44)
theorem aX9_couldBeAnother : gCal mX9_couldBeAnother 1 := ⟨gT_in 712 (by decide +kernel) (by decide +kernel), gT_in 41 (by decide +kernel) (by decide +kernel), by decide, by decide, by decide +kernel⟩
abbrev mX9_draw : gY := (yX9_draw, cX9_draw, 4, (some .int), 0, 0)
theorem aX9_draw : gCal mX9_draw 2 := ⟨gT_in 774 (by decide +kernel) (by decide +kernel), gT_in 41 (by decide +kernel) (by decide +kernel), by decide, by decide, by decide +kernel⟩
abbrev mX9_has : gY := (yX9_has, cX9_has, 2, (some .boolean), 0, 0)
theorem aX9_has : gCal mX9_has 2 := ⟨gT_in 497 (by decide +kernel) (by decide +kernel), gT_in 41 (by decide +kernel) (by decide +kernel), by decide, by decide, by decide +kernel⟩
abbrev mX9_within : gY := (yX9_within, cX9_within, 2, (some .boolean), 0, 0)
theorem aX9_within : gCal mX9_within 2 := ⟨gT_in 618 (by decide +kernel) (by decide +kernel), gT_in 41 (by decide +kernel) (by decide +kernel), by decide, by decide, by decide +kernel⟩
abbrev mX10_init : gY := (yX10_init, cX10_init, 1, none, 1, 25)
theorem aX10_init : gCal mX10_init 0 := ⟨gT_in 807 (by decide +kernel) (by decide +kernel), gT_in 55 (by decide +kernel) (by decide +kernel), by decide, by decide, by decide +kernel⟩
abbrev mX10_in : gY := (yX10_in, cX10_in, 3, (some .boolean), 0, 0)
theorem aX10_in : gCal mX10_in 3 := ⟨gT_in 873 (by decide +kernel) (by decide +kernel), gT_in 55 (by decide +kernel) (by decide +kernel), by decide, by decide, by decide +kernel⟩
abbrev mX10_isPerson : gY := (yX10_isPerson, cX10_isPerson, 2, (some .boolean), 1, 22)
theorem aX10_isPerson : gCal mX10_isPerson 1 := ⟨gT_in 912 (by decide +kernel) (by decide +kernel), gT_in 55 (by decide +kernel) (by decide +kernel), by decide, by decide, by decide +kernel⟩
abbrev mX10_ones : gY := (yX10_ones, cX10_ones, 3, (some .int), 0, 0)
theorem aX10_ones : gCal mX10_ones 1 := ⟨gT_in 983 (by decide +kernel) (by decide +kernel), gT_in 55 (by decide +kernel) (by decide +kernel), by decide, by decide, by decide +kernel⟩
abbrev mX10_write : gY := (yX10_write, cX10_write, 2, (some .int), 1, 22)
theorem aX10_write : gCal mX10_write 1 := ⟨gT_in 870 (by decide +kernel) (by decide +kernel), gT_in 55 (by decide +kernel) (by decide +kernel), by decide, by decide, by decide +kernel⟩
abbrev mX10_wipe : gY := (yX10_wipe, cX10_wipe, 2, (some .int), 0, 0)
theorem aX10_wipe : gCal mX10_wipe 0 := ⟨gT_in 877 (by decide +kernel) (by decide +kernel), gT_in 55 (by decide +kernel) (by decide +kernel), by decide, by decide, by decide +kernel⟩
abbrev mX10_letterAt : gY := (yX10_letterAt, cX10_letterAt, 2, (some .int), 0, 0)
theorem aX10_letterAt : gCal mX10_letterAt 1 := ⟨gT_in 897 (by decide +kernel) (by decide +kernel), gT_in 55 (by decide +kernel) (by decide +kernel), by decide, by decide, by decide +kernel⟩
abbrev mX10_isFigure : gY := (yX10_isFigure, cX10_isFigure, 1, (some .boolean), 1, 22)
theorem aX10_isFigure : gCal mX10_isFigure 1 := ⟨gT_in 900 (by decide +kernel) (by decide +kernel), gT_in 55 (by decide +kernel) (by decide +kernel), by decide, by decide, by decide +kernel⟩
abbrev mX10_number : gY := (yX10_number, cX10_number, 6, (some .int), 2, 42)
theorem aX10_number : gCal mX10_number 3 := ⟨gT_in 893 (by decide +kernel) (by decide +kernel), gT_in 55 (by decide +kernel) (by decide +kernel), by decide, by decide, by decide +kernel⟩
abbrev mX10_begins : gY := (yX10_begins, cX10_begins, 2, none, 0, 0)
theorem aX10_begins : gCal mX10_begins 0 := ⟨gT_in 812 (by decide +kernel) (by decide +kernel), gT_in 55 (by decide +kernel) (by decide +kernel), by decide, by decide, by decide +kernel⟩
abbrev mX10_personOf : gY := (yX10_personOf, cX10_personOf, 6, none, 0, 0)
theorem aX10_personOf : gCal mX10_personOf 4 := ⟨gT_in 816 (by decide +kernel) (by decide +kernel), gT_in 55 (by decide +kernel) (by decide +kernel), by decide, by decide, by decide +kernel⟩
abbrev mX10_readsItem : gY := (yX10_readsItem, cX10_readsItem, 6, (some .boolean), 3, 67)
theorem aX10_readsItem : gCal mX10_readsItem 1 := ⟨gT_in 889 (by decide +kernel) (by decide +kernel), gT_in 55 (by decide +kernel) (by decide +kernel), by decide, by decide, by decide +kernel⟩
abbrev mX10_readsAll : gY := (yX10_readsAll, cX10_readsAll, 2, (some .int), 4, 92)
theorem aX10_readsAll : gCal mX10_readsAll 0 := ⟨gT_in 885 (by decide +kernel) (by decide +kernel), gT_in 55 (by decide +kernel) (by decide +kernel), by decide, by decide, by decide +kernel⟩
abbrev mX10_fault : gY := (yX10_fault, cX10_fault, 1, (some .int), 5, 113)
theorem aX10_fault : gCal mX10_fault 0 := ⟨gT_in 881 (by decide +kernel) (by decide +kernel), gT_in 55 (by decide +kernel) (by decide +kernel), by decide, by decide, by decide +kernel⟩
abbrev mX10_lays : gY := (yX10_lays, cX10_lays, 2, none, 0, 0)
theorem aX10_lays : gCal mX10_lays 0 := ⟨gT_in 820 (by decide +kernel) (by decide +kernel), gT_in 55 (by decide +kernel) (by decide +kernel), by decide, by decide, by decide +kernel⟩
abbrev mX10_lay : gY := (yX10_lay, cX10_lay, 1, (some .int), 5, 113)
theorem aX10_lay : gCal mX10_lay 0 := ⟨gT_in 904 (by decide +kernel) (by decide +kernel), gT_in 55 (by decide +kernel) (by decide +kernel), by decide, by decide, by decide +kernel⟩
abbrev mX10_where : gY := (yX10_where, cX10_where, 2, (some .int), 0, 0)
theorem aX10_where : gCal mX10_where 1 := ⟨gT_in 916 (by decide +kernel) (by decide +kernel), gT_in 55 (by decide +kernel) (by decide +kernel), by decide, by decide, by decide +kernel⟩
abbrev mX10_allAt : gY := (yX10_allAt, cX10_allAt, 4, (some .int), 1, 21)
theorem aX10_allAt : gCal mX10_allAt 1 := ⟨gT_in 924 (by decide +kernel) (by decide +kernel), gT_in 55 (by decide +kernel) (by decide +kernel), by decide, by decide, by decide +kernel⟩
abbrev mX10_present : gY := (yX10_present, cX10_present, 1, (some .int), 2, 44)
theorem aX10_present : gCal mX10_present 0 := ⟨gT_in 980 (by decide +kernel) (by decide +kernel), gT_in 55 (by decide +kernel) (by decide +kernel), by decide, by decide, by decide +kernel⟩
abbrev mX10_alive : gY := (yX10_alive, cX10_alive, 1, (some .int), 2, 44)
theorem aX10_alive : gCal mX10_alive 0 := ⟨gT_in 936 (by decide +kernel) (by decide +kernel), gT_in 55 (by decide +kernel) (by decide +kernel), by decide, by decide, by decide +kernel⟩
abbrev mX10_person : gY := (yX10_person, cX10_person, 3, (some .int), 2, 43)
theorem aX10_person : gCal mX10_person 2 := ⟨gT_in 908 (by decide +kernel) (by decide +kernel), gT_in 55 (by decide +kernel) (by decide +kernel), by decide, by decide, by decide +kernel⟩
abbrev mX10_sumOf : gY := (yX10_sumOf, cX10_sumOf, 9, (some .int), 0, 0)
theorem aX10_sumOf : gCal mX10_sumOf 1 := ⟨gT_in 928 (by decide +kernel) (by decide +kernel), gT_in 55 (by decide +kernel) (by decide +kernel), by decide, by decide, by decide +kernel⟩
abbrev mX10_sails : gY := (yX10_sails, cX10_sails, 7, (some .boolean), 3, 64)
theorem aX10_sails : gCal mX10_sails 1 := ⟨gT_in 932 (by decide +kernel) (by decide +kernel), gT_in 55 (by decide +kernel) (by decide +kernel), by decide, by decide, by decide +kernel⟩
abbrev mX10_coinsOf : gY := (yX10_coinsOf, cX10_coinsOf, 2, (some .int), 1, 28)
theorem aX10_coinsOf : gCal mX10_coinsOf 1 := ⟨gT_in 940 (by decide +kernel) (by decide +kernel), gT_in 55 (by decide +kernel) (by decide +kernel), by decide, by decide, by decide +kernel⟩
abbrev mX10_sum : gY := (yX10_sum, cX10_sum, 4, (some .int), 4, 90)
theorem aX10_sum : gCal mX10_sum 1 := ⟨gT_in 920 (by decide +kernel) (by decide +kernel), gT_in 55 (by decide +kernel) (by decide +kernel), by decide, by decide, by decide +kernel⟩
abbrev mX10_keeps : gY := (yX10_keeps, cX10_keeps, 2, none, 0, 0)
theorem aX10_keeps : gCal mX10_keeps 0 := ⟨gT_in 948 (by decide +kernel) (by decide +kernel), gT_in 55 (by decide +kernel) (by decide +kernel), by decide, by decide, by decide +kernel⟩
abbrev mX10_pass : gY := (yX10_pass, cX10_pass, 2, (some .int), 1, 22)
theorem aX10_pass : gCal mX10_pass 1 := ⟨gT_in 944 (by decide +kernel) (by decide +kernel), gT_in 55 (by decide +kernel) (by decide +kernel), by decide, by decide, by decide +kernel⟩
abbrev mX10_board : gY := (yX10_board, cX10_board, 2, (some .int), 2, 44)
theorem aX10_board : gCal mX10_board 1 := ⟨gT_in 952 (by decide +kernel) (by decide +kernel), gT_in 55 (by decide +kernel) (by decide +kernel), by decide, by decide, by decide +kernel⟩
abbrev mX10_stepOff : gY := (yX10_stepOff, cX10_stepOff, 2, (some .int), 2, 44)
theorem aX10_stepOff : gCal mX10_stepOff 1 := ⟨gT_in 956 (by decide +kernel) (by decide +kernel), gT_in 55 (by decide +kernel) (by decide +kernel), by decide, by decide, by decide +kernel⟩
abbrev mX10_die : gY := (yX10_die, cX10_die, 3, (some .int), 2, 43)
theorem aX10_die : gCal mX10_die 1 := ⟨gT_in 960 (by decide +kernel) (by decide +kernel), gT_in 55 (by decide +kernel) (by decide +kernel), by decide, by decide, by decide +kernel⟩
abbrev mX10_goes : gY := (yX10_goes, cX10_goes, 4, (some .int), 2, 49)
theorem aX10_goes : gCal mX10_goes 0 := ⟨gT_in 968 (by decide +kernel) (by decide +kernel), gT_in 55 (by decide +kernel) (by decide +kernel), by decide, by decide, by decide +kernel⟩
abbrev mX10_sail : gY := (yX10_sail, cX10_sail, 1, (some .int), 4, 90)
theorem aX10_sail : gCal mX10_sail 0 := ⟨gT_in 964 (by decide +kernel) (by decide +kernel), gT_in 55 (by decide +kernel) (by decide +kernel), by decide, by decide, by decide +kernel⟩
abbrev mX10_undo : gY := (yX10_undo, cX10_undo, 2, (some .int), 0, 0)
theorem aX10_undo : gCal mX10_undo 0 := ⟨gT_in 972 (by decide +kernel) (by decide +kernel), gT_in 55 (by decide +kernel) (by decide +kernel), by decide, by decide, by decide +kernel⟩
abbrev mX10_best : gY := (yX10_best, cX10_best, 6, (some .int), 4, 90)
theorem aX10_best : gCal mX10_best 1 := ⟨gT_in 976 (by decide +kernel) (by decide +kernel), gT_in 55 (by decide +kernel) (by decide +kernel), by decide, by decide, by decide +kernel⟩
abbrev mX10_isThere : gY := (yX10_isThere, cX10_isThere, 4, (some .boolean), 4, 90)
theorem aX10_isThere : gCal mX10_isThere 0 := ⟨gT_in 991 (by decide +kernel) (by decide +kernel), gT_in 55 (by decide +kernel) (by decide +kernel), by decide, by decide, by decide +kernel⟩
abbrev mX10_waits : gY := (yX10_waits, cX10_waits, 4, (some .int), 5, 113)
theorem aX10_waits : gCal mX10_waits 0 := ⟨gT_in 987 (by decide +kernel) (by decide +kernel), gT_in 55 (by decide +kernel) (by decide +kernel), by decide, by decide, by decide +kernel⟩
abbrev mX10_splits : gY := (yX10_splits, cX10_splits, 6, none, 4, 90)
theorem aX10_splits : gCal mX10_splits 0 := ⟨gT_in 999 (by decide +kernel) (by decide +kernel), gT_in 55 (by decide +kernel) (by decide +kernel), by decide, by decide, by decide +kernel⟩
abbrev mX10_sailings : gY := (yX10_sailings, cX10_sailings, 7, (some .int), 5, 115)
theorem aX10_sailings : gCal mX10_sailings 1 := ⟨gT_in 995 (by decide +kernel) (by decide +kernel), gT_in 55 (by decide +kernel) (by decide +kernel), by decide, by decide, by decide +kernel⟩
abbrev mX10_setsWith : gY := (yX10_setsWith, cX10_setsWith, 5, (some .int), 4, 90)
theorem aX10_setsWith : gCal mX10_setsWith 1 := ⟨gT_in 1009 (by decide +kernel) (by decide +kernel), gT_in 55 (by decide +kernel) (by decide +kernel), by decide, by decide, by decide +kernel⟩
abbrev mX10_setsFor : gY := (yX10_setsFor, cX10_setsFor, 2, (some .int), 5, 114)
theorem aX10_setsFor : gCal mX10_setsFor 1 := ⟨gT_in 1005 (by decide +kernel) (by decide +kernel), gT_in 55 (by decide +kernel) (by decide +kernel), by decide, by decide, by decide +kernel⟩
abbrev mX10_oddOnes : gY := (yX10_oddOnes, cX10_oddOnes, 3, (some .int), 5, 114)
theorem aX10_oddOnes : gCal mX10_oddOnes 0 := ⟨gT_in 1013 (by decide +kernel) (by decide +kernel), gT_in 55 (by decide +kernel) (by decide +kernel), by decide, by decide, by decide +kernel⟩
abbrev mX10_tell : gY := (yX10_tell, cX10_tell, 3, (some .int), 1, 22)
theorem aX10_tell : gCal mX10_tell 2 := ⟨gT_in 1017 (by decide +kernel) (by decide +kernel), gT_in 55 (by decide +kernel) (by decide +kernel), by decide, by decide, by decide +kernel⟩
abbrev mX10_forget : gY := (yX10_forget, cX10_forget, 2, (some .int), 0, 0)
theorem aX10_forget : gCal mX10_forget 0 := ⟨gT_in 1021 (by decide +kernel) (by decide +kernel), gT_in 55 (by decide +kernel) (by decide +kernel), by decide, by decide, by decide +kernel⟩
abbrev mX10_isSo : gY := (yX10_isSo, cX10_isSo, 7, (some .boolean), 0, 0)
theorem aX10_isSo : gCal mX10_isSo 2 := ⟨gT_in 1029 (by decide +kernel) (by decide +kernel), gT_in 55 (by decide +kernel) (by decide +kernel), by decide, by decide, by decide +kernel⟩
abbrev mX10_liar : gY := (yX10_liar, cX10_liar, 4, (some .int), 1, 26)
theorem aX10_liar : gCal mX10_liar 0 := ⟨gT_in 1025 (by decide +kernel) (by decide +kernel), gT_in 55 (by decide +kernel) (by decide +kernel), by decide, by decide, by decide +kernel⟩
abbrev mX10_age : gY := (yX10_age, cX10_age, 6, (some .int), 2, 43)
theorem aX10_age : gCal mX10_age 2 := ⟨gT_in 1033 (by decide +kernel) (by decide +kernel), gT_in 55 (by decide +kernel) (by decide +kernel), by decide, by decide, by decide +kernel⟩
abbrev mX10_sums : gY := (yX10_sums, cX10_sums, 10, (some .int), 3, 64)
theorem aX10_sums : gCal mX10_sums 1 := ⟨gT_in 1037 (by decide +kernel) (by decide +kernel), gT_in 55 (by decide +kernel) (by decide +kernel), by decide, by decide, by decide +kernel⟩
abbrev mX10_stays : gY := (yX10_stays, cX10_stays, 11, (some .int), 4, 90)
theorem aX10_stays : gCal mX10_stays 2 := ⟨gT_in 1041 (by decide +kernel) (by decide +kernel), gT_in 55 (by decide +kernel) (by decide +kernel), by decide, by decide, by decide +kernel⟩
abbrev mX10_turn : gY := (yX10_turn, cX10_turn, 3, none, 4, 90)
theorem aX10_turn : gCal mX10_turn 1 := ⟨gT_in 1052 (by decide +kernel) (by decide +kernel), gT_in 55 (by decide +kernel) (by decide +kernel), by decide, by decide, by decide +kernel⟩
abbrev mX10_day : gY := (yX10_day, cX10_day, 7, (some .int), 5, 112)
theorem aX10_day : gCal mX10_day 3 := ⟨gT_in 1045 (by decide +kernel) (by decide +kernel), gT_in 55 (by decide +kernel) (by decide +kernel), by decide, by decide, by decide +kernel⟩
abbrev mX10_keep : gY := (yX10_keep, cX10_keep, 2, (some .int), 0, 0)
theorem aX10_keep : gCal mX10_keep 0 := ⟨gT_in 1056 (by decide +kernel) (by decide +kernel), gT_in 55 (by decide +kernel) (by decide +kernel), by decide, by decide, by decide +kernel⟩
abbrev mX10_back : gY := (yX10_back, cX10_back, 2, (some .int), 0, 0)
theorem aX10_back : gCal mX10_back 0 := ⟨gT_in 1060 (by decide +kernel) (by decide +kernel), gT_in 55 (by decide +kernel) (by decide +kernel), by decide, by decide, by decide +kernel⟩
abbrev mX10_count : gY := (yX10_count, cX10_count, 2, (some .int), 2, 44)
theorem aX10_count : gCal mX10_count 1 := ⟨gT_in 1064 (by decide +kernel) (by decide +kernel), gT_in 55 (by decide +kernel) (by decide +kernel), by decide, by decide, by decide +kernel⟩
abbrev mJ6_bitCount_0f7a4 : gY := (yJ6_bitCount_0f7a4, cJ6_bitCount_0f7a4, 1, (some .int), 0, 0)
theorem aJ6_bitCount_0f7a4 : gCal mJ6_bitCount_0f7a4 1 := ⟨gT_in 509 (by decide +kernel) (by decide +kernel), gT_in 56 (by decide +kernel) (by decide +kernel), by decide, by decide, by decide +kernel⟩
abbrev mJ9_abs_0f7a4 : gY := (yJ9_abs_0f7a4, cJ9_abs_0f7a4, 1, (some .int), 0, 0)
theorem aJ9_abs_0f7a4 : gCal mJ9_abs_0f7a4 1 := ⟨gT_in 737 (by decide +kernel) (by decide +kernel), gT_in 57 (by decide +kernel) (by decide +kernel), by decide, by decide, by decide +kernel⟩
abbrev mJ9_max_7cf53 : gY := (yJ9_max_7cf53, cJ9_max_7cf53, 2, (some .int), 0, 0)
theorem aJ9_max_7cf53 : gCal mJ9_max_7cf53 2 := ⟨gT_in 519 (by decide +kernel) (by decide +kernel), gT_in 57 (by decide +kernel) (by decide +kernel), by decide, by decide, by decide +kernel⟩
abbrev mJ9_min_7cf53 : gY := (yJ9_min_7cf53, cJ9_min_7cf53, 2, (some .int), 0, 0)
theorem aJ9_min_7cf53 : gCal mJ9_min_7cf53 2 := ⟨gT_in 644 (by decide +kernel) (by decide +kernel), gT_in 57 (by decide +kernel) (by decide +kernel), by decide, by decide, by decide +kernel⟩
abbrev mJ0_length_8abf5 : gY := (yJ0_length_8abf5, cJ0_length_8abf5, 1, (some .int), 1, 20)
abbrev mJ0_charAt_5068e : gY := (yJ0_charAt_5068e, cJ0_charAt_5068e, 2, (some .char), 4, 85)
abbrev mJ0_coder_7d493 : gY := (yJ0_coder_7d493, cJ0_coder_7d493, 1, (some .byte), 0, 0)
abbrev mJ0_isLatin1_aae02 : gY := (yJ0_isLatin1_aae02, cJ0_isLatin1_aae02, 1, (some .boolean), 0, 0)
abbrev mJ0_checkIndex_df160 : gY := (yJ0_checkIndex_df160, cJ0_checkIndex_df160, 2, none, 1, 22)
abbrev mJ1_charAt_3b067 : gY := (yJ1_charAt_3b067, cJ1_charAt_3b067, 2, (some .char), 2, 43)
abbrev mJ2_getChar_3b067 : gY := (yJ2_getChar_3b067, cJ2_getChar_3b067, 2, (some .char), 1, 20)
abbrev mJ2_length_9d52b : gY := (yJ2_length_9d52b, cJ2_length_9d52b, 1, (some .int), 0, 0)
abbrev mJ2_charAt_3b067 : gY := (yJ2_charAt_3b067, cJ2_charAt_3b067, 2, (some .char), 3, 64)
abbrev mJ2_checkIndex_2214a : gY := (yJ2_checkIndex_2214a, cJ2_checkIndex_2214a, 2, none, 2, 43)
abbrev mJ3_checkIndex_8e157 : gY := (yJ3_checkIndex_8e157, cJ3_checkIndex_8e157, 3, (some .int), 0, 0)
theorem kX9_11 : gCIN RX9 11 mX7_init 0 "AgesFerry" := ⟨aX7_init, gN_in 68 (by decide +kernel) (by decide +kernel), gT_in 69 (by decide +kernel) (by decide +kernel), rfl, rfl⟩
theorem kX7_11 : gCI RX7 11 mX3_init 1 := ⟨aX3_init, gT_in 74 (by decide +kernel) (by decide +kernel), gT_in 75 (by decide +kernel) (by decide +kernel), rfl, rfl⟩
theorem kX9_18 : gCI RX9 18 mX1_init 1 := ⟨aX1_init, gT_in 92 (by decide +kernel) (by decide +kernel), gT_in 93 (by decide +kernel) (by decide +kernel), rfl, rfl⟩
theorem kX1_13 : gCI RX1 13 mX3_init 1 := ⟨aX3_init, gT_in 97 (by decide +kernel) (by decide +kernel), gT_in 75 (by decide +kernel) (by decide +kernel), rfl, rfl⟩
theorem kX9_27 : gCIN RX9 27 mX2_init 0 "AgesFerry" := ⟨aX2_init, gN_in 110 (by decide +kernel) (by decide +kernel), gT_in 111 (by decide +kernel) (by decide +kernel), rfl, rfl⟩
theorem kX2_11 : gCI RX2 11 mX3_init 1 := ⟨aX3_init, gT_in 115 (by decide +kernel) (by decide +kernel), gT_in 75 (by decide +kernel) (by decide +kernel), rfl, rfl⟩
theorem kX9_37 : gCI RX9 37 mX6_init 1 := ⟨aX6_init, gT_in 167 (by decide +kernel) (by decide +kernel), gT_in 168 (by decide +kernel) (by decide +kernel), rfl, rfl⟩
theorem kX6_11 : gCI RX6 11 mX3_init 1 := ⟨aX3_init, gT_in 172 (by decide +kernel) (by decide +kernel), gT_in 75 (by decide +kernel) (by decide +kernel), rfl, rfl⟩
theorem kX9_49 : gCI RX9 49 mX5_init 2 := ⟨aX5_init, gT_in 208 (by decide +kernel) (by decide +kernel), gT_in 209 (by decide +kernel) (by decide +kernel), rfl, rfl⟩
theorem kX5_15 : gCI RX5 15 mX6_init 1 := ⟨aX6_init, gT_in 214 (by decide +kernel) (by decide +kernel), gT_in 168 (by decide +kernel) (by decide +kernel), rfl, rfl⟩
theorem kX9_61 : gCIN RX9 61 mX8_init 0 "AgesFerry" := ⟨aX8_init, gN_in 225 (by decide +kernel) (by decide +kernel), gT_in 226 (by decide +kernel) (by decide +kernel), rfl, rfl⟩
theorem kX8_11 : gCI RX8 11 mX3_init 1 := ⟨aX3_init, gT_in 230 (by decide +kernel) (by decide +kernel), gT_in 75 (by decide +kernel) (by decide +kernel), rfl, rfl⟩
theorem kX9_68 : gCI RX9 68 mX4_init 2 := ⟨aX4_init, gT_in 244 (by decide +kernel) (by decide +kernel), gT_in 245 (by decide +kernel) (by decide +kernel), rfl, rfl⟩
theorem kX4_11 : gCI RX4 11 mX3_init 1 := ⟨aX3_init, gT_in 249 (by decide +kernel) (by decide +kernel), gT_in 75 (by decide +kernel) (by decide +kernel), rfl, rfl⟩
theorem kX9_77 : gCI RX9 77 mX0_init 1 := ⟨aX0_init, gT_in 283 (by decide +kernel) (by decide +kernel), gT_in 284 (by decide +kernel) (by decide +kernel), rfl, rfl⟩
theorem kX0_11 : gCI RX0 11 mX3_init 1 := ⟨aX3_init, gT_in 288 (by decide +kernel) (by decide +kernel), gT_in 75 (by decide +kernel) (by decide +kernel), rfl, rfl⟩
theorem kX9_96 : gCV RX9 96 mX7_add 1 := ⟨aX7_add, gT_in 353 (by decide +kernel) (by decide +kernel), gT_in 354 (by decide +kernel) (by decide +kernel), gT_in 355 (by decide +kernel) (by decide +kernel)⟩
theorem kX7_24 : gCV RX7 24 mX3_put 2 := ⟨aX3_put, gT_in 357 (by decide +kernel) (by decide +kernel), gT_in 358 (by decide +kernel) (by decide +kernel), gT_in 359 (by decide +kernel) (by decide +kernel)⟩
theorem kX9_100 : gCV RX9 100 mX1_readInto 1 := ⟨aX1_readInto, gT_in 361 (by decide +kernel) (by decide +kernel), gT_in 362 (by decide +kernel) (by decide +kernel), gT_in 363 (by decide +kernel) (by decide +kernel)⟩
theorem kX1_24 : gCV RX1 24 mX2_clear 0 := ⟨aX2_clear, gT_in 365 (by decide +kernel) (by decide +kernel), gT_in 366 (by decide +kernel) (by decide +kernel), gT_in 367 (by decide +kernel) (by decide +kernel)⟩
theorem kX2_32 : gCV RX2 32 mX3_fill 1 := ⟨aX3_fill, gT_in 369 (by decide +kernel) (by decide +kernel), gT_in 370 (by decide +kernel) (by decide +kernel), gT_in 371 (by decide +kernel) (by decide +kernel)⟩
theorem kX2_42 : gCV RX2 42 mX2_setFerry 3 := ⟨aX2_setFerry, gT_in 373 (by decide +kernel) (by decide +kernel), gT_in 374 (by decide +kernel) (by decide +kernel), gT_in 375 (by decide +kernel) (by decide +kernel)⟩
theorem kX1_33 : gCV RX1 33 mX7_length 0 := ⟨aX7_length, gT_in 377 (by decide +kernel) (by decide +kernel), gT_in 378 (by decide +kernel) (by decide +kernel), gT_in 379 (by decide +kernel) (by decide +kernel)⟩
theorem kX1_39 : gCV RX1 39 mX1_readItem 1 := ⟨aX1_readItem, gT_in 381 (by decide +kernel) (by decide +kernel), gT_in 383 (by decide +kernel) (by decide +kernel), gT_in 0 (by decide +kernel) (by decide +kernel)⟩
theorem kX1_43 : gCV RX1 43 mX7_letterAt 1 := ⟨aX7_letterAt, gT_in 385 (by decide +kernel) (by decide +kernel), gT_in 386 (by decide +kernel) (by decide +kernel), gT_in 387 (by decide +kernel) (by decide +kernel)⟩
theorem kX7_28 : gCV RX7 28 mX3_at 1 := ⟨aX3_at, gT_in 389 (by decide +kernel) (by decide +kernel), gT_in 390 (by decide +kernel) (by decide +kernel), gT_in 391 (by decide +kernel) (by decide +kernel)⟩
theorem kX1_47 : gCV RX1 47 mX1_readNumbers 1 := ⟨aX1_readNumbers, gT_in 393 (by decide +kernel) (by decide +kernel), gT_in 395 (by decide +kernel) (by decide +kernel), gT_in 1 (by decide +kernel) (by decide +kernel)⟩
theorem kX1_62 : gCV RX1 62 mX1_readNumber 0 := ⟨aX1_readNumber, gT_in 397 (by decide +kernel) (by decide +kernel), gT_in 399 (by decide +kernel) (by decide +kernel), gT_in 2 (by decide +kernel) (by decide +kernel)⟩
theorem kX1_69 : gCS RX1 69 mX1_isFigure 1 := ⟨aX1_isFigure, gT_in 401 (by decide +kernel) (by decide +kernel), gT_in 402 (by decide +kernel) (by decide +kernel)⟩
theorem kX1_65 : gCV RX1 65 mX3_put 2 := ⟨aX3_put, gT_in 404 (by decide +kernel) (by decide +kernel), gT_in 358 (by decide +kernel) (by decide +kernel), gT_in 359 (by decide +kernel) (by decide +kernel)⟩
theorem kX1_51 : gCV RX1 51 mX3_at 1 := ⟨aX3_at, gT_in 405 (by decide +kernel) (by decide +kernel), gT_in 390 (by decide +kernel) (by decide +kernel), gT_in 391 (by decide +kernel) (by decide +kernel)⟩
theorem kX1_54 : gCV RX1 54 mX2_setFerry 3 := ⟨aX2_setFerry, gT_in 406 (by decide +kernel) (by decide +kernel), gT_in 374 (by decide +kernel) (by decide +kernel), gT_in 375 (by decide +kernel) (by decide +kernel)⟩
theorem kX1_58 : gCV RX1 58 mX2_addPerson 4 := ⟨aX2_addPerson, gT_in 407 (by decide +kernel) (by decide +kernel), gT_in 408 (by decide +kernel) (by decide +kernel), gT_in 409 (by decide +kernel) (by decide +kernel)⟩
theorem kX2_55 : gCV RX2 55 mX3_put 2 := ⟨aX3_put, gT_in 411 (by decide +kernel) (by decide +kernel), gT_in 358 (by decide +kernel) (by decide +kernel), gT_in 359 (by decide +kernel) (by decide +kernel)⟩
theorem kX2_59 : gCV RX2 59 mX3_at 1 := ⟨aX3_at, gT_in 412 (by decide +kernel) (by decide +kernel), gT_in 390 (by decide +kernel) (by decide +kernel), gT_in 391 (by decide +kernel) (by decide +kernel)⟩
theorem kX9_104 : gCV RX9 104 mX7_clear 0 := ⟨aX7_clear, gT_in 413 (by decide +kernel) (by decide +kernel), gT_in 414 (by decide +kernel) (by decide +kernel), gT_in 415 (by decide +kernel) (by decide +kernel)⟩
theorem kX9_107 : gCV RX9 107 mX7_length 0 := ⟨aX7_length, gT_in 456 (by decide +kernel) (by decide +kernel), gT_in 378 (by decide +kernel) (by decide +kernel), gT_in 379 (by decide +kernel) (by decide +kernel)⟩
theorem kX9_112 : gCV RX9 112 mX6_reset 0 := ⟨aX6_reset, gT_in 469 (by decide +kernel) (by decide +kernel), gT_in 470 (by decide +kernel) (by decide +kernel), gT_in 471 (by decide +kernel) (by decide +kernel)⟩
theorem kX6_24 : gCV RX6 24 mX3_fill 1 := ⟨aX3_fill, gT_in 473 (by decide +kernel) (by decide +kernel), gT_in 370 (by decide +kernel) (by decide +kernel), gT_in 371 (by decide +kernel) (by decide +kernel)⟩
theorem kX9_115 : gCV RX9 115 mX5_clear 0 := ⟨aX5_clear, gT_in 474 (by decide +kernel) (by decide +kernel), gT_in 475 (by decide +kernel) (by decide +kernel), gT_in 476 (by decide +kernel) (by decide +kernel)⟩
theorem kX9_116 : gCV RX9 116 mX8_clear 0 := ⟨aX8_clear, gT_in 478 (by decide +kernel) (by decide +kernel), gT_in 479 (by decide +kernel) (by decide +kernel), gT_in 480 (by decide +kernel) (by decide +kernel)⟩
theorem kX9_117 : gCV RX9 117 mX9_isPerson 1 := ⟨aX9_isPerson, gT_in 486 (by decide +kernel) (by decide +kernel), gT_in 488 (by decide +kernel) (by decide +kernel), gT_in 3 (by decide +kernel) (by decide +kernel)⟩
theorem kX9_125 : gCV RX9 125 mX3_at 1 := ⟨aX3_at, gT_in 490 (by decide +kernel) (by decide +kernel), gT_in 390 (by decide +kernel) (by decide +kernel), gT_in 391 (by decide +kernel) (by decide +kernel)⟩
theorem kX9_140 : gCV RX9 140 mX6_placeOf 1 := ⟨aX6_placeOf, gT_in 491 (by decide +kernel) (by decide +kernel), gT_in 492 (by decide +kernel) (by decide +kernel), gT_in 493 (by decide +kernel) (by decide +kernel)⟩
theorem kX6_69 : gCSN RX6 69 mX9_has 2 "AgesFerry" := ⟨aX9_has, gN_in 495 (by decide +kernel) (by decide +kernel), gT_in 496 (by decide +kernel) (by decide +kernel)⟩
theorem kX6_46 : gCV RX6 46 mX3_at 1 := ⟨aX3_at, gT_in 498 (by decide +kernel) (by decide +kernel), gT_in 390 (by decide +kernel) (by decide +kernel), gT_in 391 (by decide +kernel) (by decide +kernel)⟩
theorem kX9_149 : gCV RX9 149 mX6_totalOf 1 := ⟨aX6_totalOf, gT_in 503 (by decide +kernel) (by decide +kernel), gT_in 504 (by decide +kernel) (by decide +kernel), gT_in 505 (by decide +kernel) (by decide +kernel)⟩
theorem kX6_76 : gCS RX6 76 mJ6_bitCount_0f7a4 1 := ⟨aJ6_bitCount_0f7a4, gT_in 507 (by decide +kernel) (by decide +kernel), gT_in 508 (by decide +kernel) (by decide +kernel)⟩
theorem kX6_81 : gCV RX6 81 mX6_yearsOf 2 := ⟨aX6_yearsOf, gT_in 513 (by decide +kernel) (by decide +kernel), gT_in 515 (by decide +kernel) (by decide +kernel), gT_in 4 (by decide +kernel) (by decide +kernel)⟩
theorem kX6_91 : gCS RX6 91 mJ9_max_7cf53 2 := ⟨aJ9_max_7cf53, gT_in 517 (by decide +kernel) (by decide +kernel), gT_in 518 (by decide +kernel) (by decide +kernel)⟩
theorem kX9_155 : gCV RX9 155 mX6_costOf 1 := ⟨aX6_costOf, gT_in 520 (by decide +kernel) (by decide +kernel), gT_in 521 (by decide +kernel) (by decide +kernel), gT_in 522 (by decide +kernel) (by decide +kernel)⟩
theorem kX6_97 : gCV RX6 97 mX6_partsNoParty 1 := ⟨aX6_partsNoParty, gT_in 524 (by decide +kernel) (by decide +kernel), gT_in 526 (by decide +kernel) (by decide +kernel), gT_in 5 (by decide +kernel) (by decide +kernel)⟩
theorem kX6_66 : gCV RX6 66 mX6_remaining 0 := ⟨aX6_remaining, gT_in 528 (by decide +kernel) (by decide +kernel), gT_in 529 (by decide +kernel) (by decide +kernel), gT_in 530 (by decide +kernel) (by decide +kernel)⟩
theorem kX6_54 : gCV RX6 54 mX2_everyone 0 := ⟨aX2_everyone, gT_in 532 (by decide +kernel) (by decide +kernel), gT_in 533 (by decide +kernel) (by decide +kernel), gT_in 534 (by decide +kernel) (by decide +kernel)⟩
theorem kX6_101 : gCV RX6 101 mX6_totalOf 1 := ⟨aX6_totalOf, gT_in 536 (by decide +kernel) (by decide +kernel), gT_in 504 (by decide +kernel) (by decide +kernel), gT_in 505 (by decide +kernel) (by decide +kernel)⟩
theorem kX9_158 : gCS RX9 158 mJ9_max_7cf53 2 := ⟨aJ9_max_7cf53, gT_in 537 (by decide +kernel) (by decide +kernel), gT_in 518 (by decide +kernel) (by decide +kernel)⟩
theorem kX9_164 : gCV RX9 164 mX5_add 1 := ⟨aX5_add, gT_in 542 (by decide +kernel) (by decide +kernel), gT_in 543 (by decide +kernel) (by decide +kernel), gT_in 544 (by decide +kernel) (by decide +kernel)⟩
theorem kX5_22 : gCV RX5 22 mX5_dropOldest 0 := ⟨aX5_dropOldest, gT_in 546 (by decide +kernel) (by decide +kernel), gT_in 548 (by decide +kernel) (by decide +kernel), gT_in 6 (by decide +kernel) (by decide +kernel)⟩
theorem kX5_25 : gCV RX5 25 mX5_at 1 := ⟨aX5_at, gT_in 550 (by decide +kernel) (by decide +kernel), gT_in 552 (by decide +kernel) (by decide +kernel), gT_in 7 (by decide +kernel) (by decide +kernel)⟩
theorem kX5_29 : gCV RX5 29 mX6_copyFrom 1 := ⟨aX6_copyFrom, gT_in 554 (by decide +kernel) (by decide +kernel), gT_in 555 (by decide +kernel) (by decide +kernel), gT_in 556 (by decide +kernel) (by decide +kernel)⟩
theorem kX6_50 : gCV RX6 50 mX3_put 2 := ⟨aX3_put, gT_in 558 (by decide +kernel) (by decide +kernel), gT_in 358 (by decide +kernel) (by decide +kernel), gT_in 359 (by decide +kernel) (by decide +kernel)⟩
theorem kX9_169 : gCV RX9 169 mX6_takeOn 1 := ⟨aX6_takeOn, gT_in 563 (by decide +kernel) (by decide +kernel), gT_in 564 (by decide +kernel) (by decide +kernel), gT_in 565 (by decide +kernel) (by decide +kernel)⟩
theorem kX9_172 : gCV RX9 172 mX6_letOff 1 := ⟨aX6_letOff, gT_in 571 (by decide +kernel) (by decide +kernel), gT_in 572 (by decide +kernel) (by decide +kernel), gT_in 573 (by decide +kernel) (by decide +kernel)⟩
theorem kX9_175 : gCV RX9 175 mX6_bury 1 := ⟨aX6_bury, gT_in 579 (by decide +kernel) (by decide +kernel), gT_in 580 (by decide +kernel) (by decide +kernel), gT_in 581 (by decide +kernel) (by decide +kernel)⟩
theorem kX6_116 : gCV RX6 116 mX6_letOff 1 := ⟨aX6_letOff, gT_in 583 (by decide +kernel) (by decide +kernel), gT_in 572 (by decide +kernel) (by decide +kernel), gT_in 573 (by decide +kernel) (by decide +kernel)⟩
theorem kX9_178 : gCV RX9 178 mX6_depart 1 := ⟨aX6_depart, gT_in 588 (by decide +kernel) (by decide +kernel), gT_in 589 (by decide +kernel) (by decide +kernel), gT_in 590 (by decide +kernel) (by decide +kernel)⟩
theorem kX9_181 : gCV RX9 181 mX5_takeInto 1 := ⟨aX5_takeInto, gT_in 596 (by decide +kernel) (by decide +kernel), gT_in 597 (by decide +kernel) (by decide +kernel), gT_in 598 (by decide +kernel) (by decide +kernel)⟩
theorem kX9_188 : gCV RX9 188 mX4_cheapest 0 := ⟨aX4_cheapest, gT_in 604 (by decide +kernel) (by decide +kernel), gT_in 605 (by decide +kernel) (by decide +kernel), gT_in 606 (by decide +kernel) (by decide +kernel)⟩
theorem kX4_51 : gCV RX4 51 mX6_present 0 := ⟨aX6_present, gT_in 608 (by decide +kernel) (by decide +kernel), gT_in 609 (by decide +kernel) (by decide +kernel), gT_in 610 (by decide +kernel) (by decide +kernel)⟩
theorem kX4_55 : gCV RX4 55 mX4_costAll 1 := ⟨aX4_costAll, gT_in 612 (by decide +kernel) (by decide +kernel), gT_in 614 (by decide +kernel) (by decide +kernel), gT_in 8 (by decide +kernel) (by decide +kernel)⟩
theorem kX4_37 : gCSN RX4 37 mX9_within 2 "AgesFerry" := ⟨aX9_within, gN_in 616 (by decide +kernel) (by decide +kernel), gT_in 617 (by decide +kernel) (by decide +kernel)⟩
theorem kX4_41 : gCV RX4 41 mX6_costOf 1 := ⟨aX6_costOf, gT_in 619 (by decide +kernel) (by decide +kernel), gT_in 521 (by decide +kernel) (by decide +kernel), gT_in 522 (by decide +kernel) (by decide +kernel)⟩
theorem kX4_47 : gCV RX4 47 mX3_put 2 := ⟨aX3_put, gT_in 620 (by decide +kernel) (by decide +kernel), gT_in 358 (by decide +kernel) (by decide +kernel), gT_in 359 (by decide +kernel) (by decide +kernel)⟩
theorem kX4_58 : gCV RX4 58 mX3_at 1 := ⟨aX3_at, gT_in 621 (by decide +kernel) (by decide +kernel), gT_in 390 (by decide +kernel) (by decide +kernel), gT_in 391 (by decide +kernel) (by decide +kernel)⟩
theorem kX4_61 : gCV RX4 61 mX4_isBetter 2 := ⟨aX4_isBetter, gT_in 622 (by decide +kernel) (by decide +kernel), gT_in 624 (by decide +kernel) (by decide +kernel), gT_in 9 (by decide +kernel) (by decide +kernel)⟩
theorem kX4_64 : gCS RX4 64 mJ6_bitCount_0f7a4 1 := ⟨aJ6_bitCount_0f7a4, gT_in 626 (by decide +kernel) (by decide +kernel), gT_in 508 (by decide +kernel) (by decide +kernel)⟩
theorem kX9_191 : gCV RX9 191 mX4_shortestWait 0 := ⟨aX4_shortestWait, gT_in 631 (by decide +kernel) (by decide +kernel), gT_in 632 (by decide +kernel) (by decide +kernel), gT_in 633 (by decide +kernel) (by decide +kernel)⟩
theorem kX4_69 : gCV RX4 69 mX6_remaining 0 := ⟨aX6_remaining, gT_in 635 (by decide +kernel) (by decide +kernel), gT_in 529 (by decide +kernel) (by decide +kernel), gT_in 530 (by decide +kernel) (by decide +kernel)⟩
theorem kX4_72 : gCV RX4 72 mX4_waitFor 1 := ⟨aX4_waitFor, gT_in 636 (by decide +kernel) (by decide +kernel), gT_in 638 (by decide +kernel) (by decide +kernel), gT_in 10 (by decide +kernel) (by decide +kernel)⟩
theorem kX4_87 : gCSN RX4 87 mX9_has 2 "AgesFerry" := ⟨aX9_has, gN_in 640 (by decide +kernel) (by decide +kernel), gT_in 496 (by decide +kernel) (by decide +kernel)⟩
theorem kX4_96 : gCS RX4 96 mJ9_max_7cf53 2 := ⟨aJ9_max_7cf53, gT_in 641 (by decide +kernel) (by decide +kernel), gT_in 518 (by decide +kernel) (by decide +kernel)⟩
theorem kX4_75 : gCS RX4 75 mJ9_min_7cf53 2 := ⟨aJ9_min_7cf53, gT_in 642 (by decide +kernel) (by decide +kernel), gT_in 643 (by decide +kernel) (by decide +kernel)⟩
theorem kX9_194 : gCV RX9 194 mX4_pack 0 := ⟨aX4_pack, gT_in 649 (by decide +kernel) (by decide +kernel), gT_in 650 (by decide +kernel) (by decide +kernel), gT_in 651 (by decide +kernel) (by decide +kernel)⟩
theorem kX4_108 : gCV RX4 108 mX4_packExactly 1 := ⟨aX4_packExactly, gT_in 653 (by decide +kernel) (by decide +kernel), gT_in 655 (by decide +kernel) (by decide +kernel), gT_in 11 (by decide +kernel) (by decide +kernel)⟩
theorem kX4_111 : gCV RX4 111 mX4_compareWay 2 := ⟨aX4_compareWay, gT_in 657 (by decide +kernel) (by decide +kernel), gT_in 659 (by decide +kernel) (by decide +kernel), gT_in 12 (by decide +kernel) (by decide +kernel)⟩
theorem kX9_206 : gCV RX9 206 mX6_present 0 := ⟨aX6_present, gT_in 665 (by decide +kernel) (by decide +kernel), gT_in 609 (by decide +kernel) (by decide +kernel), gT_in 610 (by decide +kernel) (by decide +kernel)⟩
theorem kX9_209 : gCS RX9 209 mX9_has 2 := ⟨aX9_has, gT_in 666 (by decide +kernel) (by decide +kernel), gT_in 496 (by decide +kernel) (by decide +kernel)⟩
theorem kX9_213 : gCV RX9 213 mX4_manyWith 1 := ⟨aX4_manyWith, gT_in 667 (by decide +kernel) (by decide +kernel), gT_in 668 (by decide +kernel) (by decide +kernel), gT_in 669 (by decide +kernel) (by decide +kernel)⟩
theorem kX9_216 : gCV RX9 216 mX4_inNone 0 := ⟨aX4_inNone, gT_in 675 (by decide +kernel) (by decide +kernel), gT_in 676 (by decide +kernel) (by decide +kernel), gT_in 677 (by decide +kernel) (by decide +kernel)⟩
theorem kX9_219 : gCV RX9 219 mX2_everyone 0 := ⟨aX2_everyone, gT_in 683 (by decide +kernel) (by decide +kernel), gT_in 533 (by decide +kernel) (by decide +kernel), gT_in 534 (by decide +kernel) (by decide +kernel)⟩
theorem kX9_222 : gCS RX9 222 mX9_within 2 := ⟨aX9_within, gT_in 684 (by decide +kernel) (by decide +kernel), gT_in 617 (by decide +kernel) (by decide +kernel)⟩
theorem kX9_226 : gCV RX9 226 mX2_agesOf 1 := ⟨aX2_agesOf, gT_in 685 (by decide +kernel) (by decide +kernel), gT_in 686 (by decide +kernel) (by decide +kernel), gT_in 687 (by decide +kernel) (by decide +kernel)⟩
theorem kX2_63 : gCSN RX2 63 mX9_has 2 "AgesFerry" := ⟨aX9_has, gN_in 689 (by decide +kernel) (by decide +kernel), gT_in 496 (by decide +kernel) (by decide +kernel)⟩
theorem kX9_229 : gCV RX9 229 mX8_add 2 := ⟨aX8_add, gT_in 690 (by decide +kernel) (by decide +kernel), gT_in 691 (by decide +kernel) (by decide +kernel), gT_in 692 (by decide +kernel) (by decide +kernel)⟩
theorem kX8_27 : gCV RX8 27 mX3_put 2 := ⟨aX3_put, gT_in 694 (by decide +kernel) (by decide +kernel), gT_in 358 (by decide +kernel) (by decide +kernel), gT_in 359 (by decide +kernel) (by decide +kernel)⟩
theorem kX9_232 : gCV RX9 232 mX8_isSoIf 2 := ⟨aX8_isSoIf, gT_in 703 (by decide +kernel) (by decide +kernel), gT_in 704 (by decide +kernel) (by decide +kernel), gT_in 705 (by decide +kernel) (by decide +kernel)⟩
theorem kX8_31 : gCV RX8 31 mX3_at 1 := ⟨aX3_at, gT_in 707 (by decide +kernel) (by decide +kernel), gT_in 390 (by decide +kernel) (by decide +kernel), gT_in 391 (by decide +kernel) (by decide +kernel)⟩
theorem kX8_35 : gCSN RX8 35 mX9_has 2 "AgesFerry" := ⟨aX9_has, gN_in 708 (by decide +kernel) (by decide +kernel), gT_in 496 (by decide +kernel) (by decide +kernel)⟩
theorem kX9_235 : gCV RX9 235 mX9_couldBeAnother 1 := ⟨aX9_couldBeAnother, gT_in 709 (by decide +kernel) (by decide +kernel), gT_in 711 (by decide +kernel) (by decide +kernel), gT_in 13 (by decide +kernel) (by decide +kernel)⟩
theorem kX9_238 : gCV RX9 238 mX4_unlikeTotals 0 := ⟨aX4_unlikeTotals, gT_in 721 (by decide +kernel) (by decide +kernel), gT_in 722 (by decide +kernel) (by decide +kernel), gT_in 723 (by decide +kernel) (by decide +kernel)⟩
theorem kX4_114 : gCV RX4 114 mX3_fill 1 := ⟨aX3_fill, gT_in 725 (by decide +kernel) (by decide +kernel), gT_in 370 (by decide +kernel) (by decide +kernel), gT_in 371 (by decide +kernel) (by decide +kernel)⟩
theorem kX4_117 : gCV RX4 117 mX6_totalOf 1 := ⟨aX6_totalOf, gT_in 726 (by decide +kernel) (by decide +kernel), gT_in 504 (by decide +kernel) (by decide +kernel), gT_in 505 (by decide +kernel) (by decide +kernel)⟩
theorem kX9_241 : gCV RX9 241 mX4_nearestTotal 0 := ⟨aX4_nearestTotal, gT_in 727 (by decide +kernel) (by decide +kernel), gT_in 728 (by decide +kernel) (by decide +kernel), gT_in 729 (by decide +kernel) (by decide +kernel)⟩
theorem kX4_120 : gCV RX4 120 mX4_nearer 2 := ⟨aX4_nearer, gT_in 731 (by decide +kernel) (by decide +kernel), gT_in 733 (by decide +kernel) (by decide +kernel), gT_in 14 (by decide +kernel) (by decide +kernel)⟩
theorem kX4_126 : gCS RX4 126 mJ9_abs_0f7a4 1 := ⟨aJ9_abs_0f7a4, gT_in 735 (by decide +kernel) (by decide +kernel), gT_in 736 (by decide +kernel) (by decide +kernel)⟩
theorem kX9_244 : gCV RX9 244 mX0_reckon 1 := ⟨aX0_reckon, gT_in 742 (by decide +kernel) (by decide +kernel), gT_in 743 (by decide +kernel) (by decide +kernel), gT_in 744 (by decide +kernel) (by decide +kernel)⟩
theorem kX0_24 : gCV RX0 24 mX6_present 0 := ⟨aX6_present, gT_in 746 (by decide +kernel) (by decide +kernel), gT_in 609 (by decide +kernel) (by decide +kernel), gT_in 610 (by decide +kernel) (by decide +kernel)⟩
theorem kX0_30 : gCS RX0 30 mJ6_bitCount_0f7a4 1 := ⟨aJ6_bitCount_0f7a4, gT_in 747 (by decide +kernel) (by decide +kernel), gT_in 508 (by decide +kernel) (by decide +kernel)⟩
theorem kX0_36 : gCSN RX0 36 mX9_within 2 "AgesFerry" := ⟨aX9_within, gN_in 748 (by decide +kernel) (by decide +kernel), gT_in 617 (by decide +kernel) (by decide +kernel)⟩
theorem kX0_40 : gCV RX0 40 mX0_isAble 1 := ⟨aX0_isAble, gT_in 749 (by decide +kernel) (by decide +kernel), gT_in 751 (by decide +kernel) (by decide +kernel), gT_in 15 (by decide +kernel) (by decide +kernel)⟩
theorem kX0_59 : gCV RX0 59 mX6_costOf 1 := ⟨aX6_costOf, gT_in 753 (by decide +kernel) (by decide +kernel), gT_in 521 (by decide +kernel) (by decide +kernel), gT_in 522 (by decide +kernel) (by decide +kernel)⟩
theorem kX0_62 : gCSN RX0 62 mX9_has 2 "AgesFerry" := ⟨aX9_has, gN_in 754 (by decide +kernel) (by decide +kernel), gT_in 496 (by decide +kernel) (by decide +kernel)⟩
theorem kX0_48 : gCV RX0 48 mX3_at 1 := ⟨aX3_at, gT_in 755 (by decide +kernel) (by decide +kernel), gT_in 390 (by decide +kernel) (by decide +kernel), gT_in 391 (by decide +kernel) (by decide +kernel)⟩
theorem kX0_44 : gCV RX0 44 mX3_put 2 := ⟨aX3_put, gT_in 756 (by decide +kernel) (by decide +kernel), gT_in 358 (by decide +kernel) (by decide +kernel), gT_in 359 (by decide +kernel) (by decide +kernel)⟩
theorem kX0_51 : gCS RX0 51 mX0_power 2 := ⟨aX0_power, gT_in 757 (by decide +kernel) (by decide +kernel), gT_in 758 (by decide +kernel) (by decide +kernel)⟩
theorem kX0_55 : gCV RX0 55 mX0_reduce 2 := ⟨aX0_reduce, gT_in 760 (by decide +kernel) (by decide +kernel), gT_in 762 (by decide +kernel) (by decide +kernel), gT_in 16 (by decide +kernel) (by decide +kernel)⟩
theorem kX0_65 : gCS RX0 65 mX0_commonDivisor 2 := ⟨aX0_commonDivisor, gT_in 764 (by decide +kernel) (by decide +kernel), gT_in 765 (by decide +kernel) (by decide +kernel)⟩
theorem kX9_253 : gCV RX9 253 mX6_copyFrom 1 := ⟨aX6_copyFrom, gT_in 771 (by decide +kernel) (by decide +kernel), gT_in 555 (by decide +kernel) (by decide +kernel), gT_in 556 (by decide +kernel) (by decide +kernel)⟩
theorem kX9_256 : gCS RX9 256 mX9_draw 2 := ⟨aX9_draw, gT_in 772 (by decide +kernel) (by decide +kernel), gT_in 773 (by decide +kernel) (by decide +kernel)⟩
theorem kX9_259 : gCV RX9 259 mX6_liveMinute 1 := ⟨aX6_liveMinute, gT_in 778 (by decide +kernel) (by decide +kernel), gT_in 779 (by decide +kernel) (by decide +kernel), gT_in 780 (by decide +kernel) (by decide +kernel)⟩
theorem kX6_119 : gCV RX6 119 mX6_move 2 := ⟨aX6_move, gT_in 782 (by decide +kernel) (by decide +kernel), gT_in 784 (by decide +kernel) (by decide +kernel), gT_in 17 (by decide +kernel) (by decide +kernel)⟩
theorem kX6_129 : gCV RX6 129 mX6_placeOf 1 := ⟨aX6_placeOf, gT_in 786 (by decide +kernel) (by decide +kernel), gT_in 492 (by decide +kernel) (by decide +kernel), gT_in 493 (by decide +kernel) (by decide +kernel)⟩
theorem kX6_132 : gCV RX6 132 mX6_takeOn 1 := ⟨aX6_takeOn, gT_in 787 (by decide +kernel) (by decide +kernel), gT_in 564 (by decide +kernel) (by decide +kernel), gT_in 565 (by decide +kernel) (by decide +kernel)⟩
theorem kX6_123 : gCV RX6 123 mX6_costOf 1 := ⟨aX6_costOf, gT_in 788 (by decide +kernel) (by decide +kernel), gT_in 521 (by decide +kernel) (by decide +kernel), gT_in 522 (by decide +kernel) (by decide +kernel)⟩
theorem kX6_126 : gCV RX6 126 mX6_depart 1 := ⟨aX6_depart, gT_in 789 (by decide +kernel) (by decide +kernel), gT_in 589 (by decide +kernel) (by decide +kernel), gT_in 590 (by decide +kernel) (by decide +kernel)⟩
theorem kX9_268 : gCS RX9 268 mJ6_bitCount_0f7a4 1 := ⟨aJ6_bitCount_0f7a4, gT_in 802 (by decide +kernel) (by decide +kernel), gT_in 508 (by decide +kernel) (by decide +kernel)⟩
theorem kX10_40 : gCV RX10 40 mX10_begins 0 := ⟨aX10_begins, gT_in 809 (by decide +kernel) (by decide +kernel), gT_in 811 (by decide +kernel) (by decide +kernel), gT_in 18 (by decide +kernel) (by decide +kernel)⟩
theorem kX10_43 : gCV RX10 43 mX10_personOf 4 := ⟨aX10_personOf, gT_in 813 (by decide +kernel) (by decide +kernel), gT_in 815 (by decide +kernel) (by decide +kernel), gT_in 19 (by decide +kernel) (by decide +kernel)⟩
theorem kX10_47 : gCV RX10 47 mX10_lays 0 := ⟨aX10_lays, gT_in 817 (by decide +kernel) (by decide +kernel), gT_in 819 (by decide +kernel) (by decide +kernel), gT_in 20 (by decide +kernel) (by decide +kernel)⟩
theorem kX10_50 : gCS RX10 50 mX10_in 3 := ⟨aX10_in, gT_in 871 (by decide +kernel) (by decide +kernel), gT_in 872 (by decide +kernel) (by decide +kernel)⟩
theorem kX10_76 : gCV RX10 76 mX10_readsAll 0 := ⟨aX10_readsAll, gT_in 882 (by decide +kernel) (by decide +kernel), gT_in 884 (by decide +kernel) (by decide +kernel), gT_in 21 (by decide +kernel) (by decide +kernel)⟩
theorem kX10_73 : gCV RX10 73 mX10_readsItem 1 := ⟨aX10_readsItem, gT_in 886 (by decide +kernel) (by decide +kernel), gT_in 888 (by decide +kernel) (by decide +kernel), gT_in 22 (by decide +kernel) (by decide +kernel)⟩
theorem kX10_69 : gCV RX10 69 mX10_number 3 := ⟨aX10_number, gT_in 890 (by decide +kernel) (by decide +kernel), gT_in 892 (by decide +kernel) (by decide +kernel), gT_in 23 (by decide +kernel) (by decide +kernel)⟩
theorem kX10_61 : gCV RX10 61 mX10_letterAt 1 := ⟨aX10_letterAt, gT_in 894 (by decide +kernel) (by decide +kernel), gT_in 896 (by decide +kernel) (by decide +kernel), gT_in 24 (by decide +kernel) (by decide +kernel)⟩
theorem kX10_65 : gCS RX10 65 mX10_isFigure 1 := ⟨aX10_isFigure, gT_in 898 (by decide +kernel) (by decide +kernel), gT_in 899 (by decide +kernel) (by decide +kernel)⟩
theorem kX10_95 : gCV RX10 95 mX10_isPerson 1 := ⟨aX10_isPerson, gT_in 909 (by decide +kernel) (by decide +kernel), gT_in 911 (by decide +kernel) (by decide +kernel), gT_in 25 (by decide +kernel) (by decide +kernel)⟩
theorem kX10_89 : gCV RX10 89 mX10_where 1 := ⟨aX10_where, gT_in 913 (by decide +kernel) (by decide +kernel), gT_in 915 (by decide +kernel) (by decide +kernel), gT_in 26 (by decide +kernel) (by decide +kernel)⟩
theorem kX10_92 : gCV RX10 92 mX10_allAt 1 := ⟨aX10_allAt, gT_in 921 (by decide +kernel) (by decide +kernel), gT_in 923 (by decide +kernel) (by decide +kernel), gT_in 27 (by decide +kernel) (by decide +kernel)⟩
theorem kX10_101 : gCV RX10 101 mX10_sumOf 1 := ⟨aX10_sumOf, gT_in 925 (by decide +kernel) (by decide +kernel), gT_in 927 (by decide +kernel) (by decide +kernel), gT_in 28 (by decide +kernel) (by decide +kernel)⟩
theorem kX10_104 : gCV RX10 104 mX10_sails 1 := ⟨aX10_sails, gT_in 929 (by decide +kernel) (by decide +kernel), gT_in 931 (by decide +kernel) (by decide +kernel), gT_in 29 (by decide +kernel) (by decide +kernel)⟩
theorem kX10_98 : gCV RX10 98 mX10_alive 0 := ⟨aX10_alive, gT_in 933 (by decide +kernel) (by decide +kernel), gT_in 935 (by decide +kernel) (by decide +kernel), gT_in 30 (by decide +kernel) (by decide +kernel)⟩
theorem kX10_107 : gCV RX10 107 mX10_coinsOf 1 := ⟨aX10_coinsOf, gT_in 937 (by decide +kernel) (by decide +kernel), gT_in 939 (by decide +kernel) (by decide +kernel), gT_in 31 (by decide +kernel) (by decide +kernel)⟩
theorem kX10_110 : gCV RX10 110 mX10_keeps 0 := ⟨aX10_keeps, gT_in 945 (by decide +kernel) (by decide +kernel), gT_in 947 (by decide +kernel) (by decide +kernel), gT_in 32 (by decide +kernel) (by decide +kernel)⟩
theorem kX10_113 : gCV RX10 113 mX10_goes 0 := ⟨aX10_goes, gT_in 965 (by decide +kernel) (by decide +kernel), gT_in 967 (by decide +kernel) (by decide +kernel), gT_in 33 (by decide +kernel) (by decide +kernel)⟩
theorem kX10_116 : gCV RX10 116 mX10_present 0 := ⟨aX10_present, gT_in 977 (by decide +kernel) (by decide +kernel), gT_in 979 (by decide +kernel) (by decide +kernel), gT_in 34 (by decide +kernel) (by decide +kernel)⟩
theorem kX10_119 : gCS RX10 119 mX10_ones 1 := ⟨aX10_ones, gT_in 981 (by decide +kernel) (by decide +kernel), gT_in 982 (by decide +kernel) (by decide +kernel)⟩
theorem kX10_122 : gCV RX10 122 mX10_isThere 0 := ⟨aX10_isThere, gT_in 988 (by decide +kernel) (by decide +kernel), gT_in 990 (by decide +kernel) (by decide +kernel), gT_in 35 (by decide +kernel) (by decide +kernel)⟩
theorem kX10_128 : gCV RX10 128 mX10_splits 0 := ⟨aX10_splits, gT_in 996 (by decide +kernel) (by decide +kernel), gT_in 998 (by decide +kernel) (by decide +kernel), gT_in 36 (by decide +kernel) (by decide +kernel)⟩
theorem kX10_131 : gCV RX10 131 mX10_setsWith 1 := ⟨aX10_setsWith, gT_in 1006 (by decide +kernel) (by decide +kernel), gT_in 1008 (by decide +kernel) (by decide +kernel), gT_in 37 (by decide +kernel) (by decide +kernel)⟩
theorem kX10_134 : gCV RX10 134 mX10_isSo 2 := ⟨aX10_isSo, gT_in 1026 (by decide +kernel) (by decide +kernel), gT_in 1028 (by decide +kernel) (by decide +kernel), gT_in 38 (by decide +kernel) (by decide +kernel)⟩
theorem kX10_144 : gCV RX10 144 mX10_turn 1 := ⟨aX10_turn, gT_in 1049 (by decide +kernel) (by decide +kernel), gT_in 1051 (by decide +kernel) (by decide +kernel), gT_in 39 (by decide +kernel) (by decide +kernel)⟩
theorem wOi : Cond.instanceMethod Lib.objectInit ∈ gTs := gT_in 64 (by decide +kernel) (by decide +kernel)
theorem wOc : Cond.code Lib.objectInit ⟨#[0xb1]⟩ 1 none ∈ gTs := gT_in 65 (by decide +kernel) (by decide +kernel)
theorem oX9_3 : Cond.methodLink RX9 3 Lib.objectInit ∈ gTs := gT_in 63 (by decide +kernel) (by decide +kernel)
theorem oX7_3 : Cond.methodLink RX7 3 Lib.objectInit ∈ gTs := gT_in 71 (by decide +kernel) (by decide +kernel)
theorem oX3_1 : Cond.methodLink RX3 1 Lib.objectInit ∈ gTs := gT_in 77 (by decide +kernel) (by decide +kernel)
theorem oX1_3 : Cond.methodLink RX1 3 Lib.objectInit ∈ gTs := gT_in 95 (by decide +kernel) (by decide +kernel)
theorem oX2_3 : Cond.methodLink RX2 3 Lib.objectInit ∈ gTs := gT_in 113 (by decide +kernel) (by decide +kernel)
theorem oX6_3 : Cond.methodLink RX6 3 Lib.objectInit ∈ gTs := gT_in 170 (by decide +kernel) (by decide +kernel)
theorem oX5_1 : Cond.methodLink RX5 1 Lib.objectInit ∈ gTs := gT_in 211 (by decide +kernel) (by decide +kernel)
theorem oX8_3 : Cond.methodLink RX8 3 Lib.objectInit ∈ gTs := gT_in 228 (by decide +kernel) (by decide +kernel)
theorem oX4_3 : Cond.methodLink RX4 3 Lib.objectInit ∈ gTs := gT_in 247 (by decide +kernel) (by decide +kernel)
theorem oX0_3 : Cond.methodLink RX0 3 Lib.objectInit ∈ gTs := gT_in 286 (by decide +kernel) (by decide +kernel)
theorem oX10_1 : Cond.methodLink RX10 1 Lib.objectInit ∈ gTs := gT_in 808 (by decide +kernel) (by decide +kernel)
theorem nX9_9 : Cond.classLink RX9 9 RX7 ∈ gTs := gT_in 66 (by decide +kernel) (by decide +kernel)
theorem nX7_9 : Cond.classLink RX7 9 RX3 ∈ gTs := gT_in 72 (by decide +kernel) (by decide +kernel)
theorem nX9_16 : Cond.classLink RX9 16 RX1 ∈ gTs := gT_in 90 (by decide +kernel) (by decide +kernel)
theorem nX1_9 : Cond.classLink RX1 9 RX3 ∈ gTs := gT_in 96 (by decide +kernel) (by decide +kernel)
theorem nX9_25 : Cond.classLink RX9 25 RX2 ∈ gTs := gT_in 108 (by decide +kernel) (by decide +kernel)
theorem nX2_9 : Cond.classLink RX2 9 RX3 ∈ gTs := gT_in 114 (by decide +kernel) (by decide +kernel)
theorem nX9_35 : Cond.classLink RX9 35 RX6 ∈ gTs := gT_in 165 (by decide +kernel) (by decide +kernel)
theorem nX6_9 : Cond.classLink RX6 9 RX3 ∈ gTs := gT_in 171 (by decide +kernel) (by decide +kernel)
theorem nX9_47 : Cond.classLink RX9 47 RX5 ∈ gTs := gT_in 206 (by decide +kernel) (by decide +kernel)
theorem nX5_7 : Cond.classLink RX5 7 RX6 ∈ gTs := gT_in 212 (by decide +kernel) (by decide +kernel)
theorem nX9_59 : Cond.classLink RX9 59 RX8 ∈ gTs := gT_in 223 (by decide +kernel) (by decide +kernel)
theorem nX8_9 : Cond.classLink RX8 9 RX3 ∈ gTs := gT_in 229 (by decide +kernel) (by decide +kernel)
theorem nX9_66 : Cond.classLink RX9 66 RX4 ∈ gTs := gT_in 242 (by decide +kernel) (by decide +kernel)
theorem nX4_9 : Cond.classLink RX4 9 RX3 ∈ gTs := gT_in 248 (by decide +kernel) (by decide +kernel)
theorem nX9_75 : Cond.classLink RX9 75 RX0 ∈ gTs := gT_in 281 (by decide +kernel) (by decide +kernel)
theorem nX0_9 : Cond.classLink RX0 9 RX3 ∈ gTs := gT_in 287 (by decide +kernel) (by decide +kernel)
theorem icX0 : Cond.instantiable RX0 4 ∈ gTs := gT_in 282 (by decide +kernel) (by decide +kernel)
theorem itX0 : Cond.initialized RX0 ∈ gTs := gT_in 50 (by decide +kernel) (by decide +kernel)
theorem icX1 : Cond.instantiable RX1 3 ∈ gTs := gT_in 91 (by decide +kernel) (by decide +kernel)
theorem itX1 : Cond.initialized RX1 ∈ gTs := gT_in 44 (by decide +kernel) (by decide +kernel)
theorem icX2 : Cond.instantiable RX2 10 ∈ gTs := gT_in 109 (by decide +kernel) (by decide +kernel)
theorem itX2 : Cond.initialized RX2 ∈ gTs := gT_in 45 (by decide +kernel) (by decide +kernel)
theorem icX3 : Cond.instantiable RX3 1 ∈ gTs := gT_in 73 (by decide +kernel) (by decide +kernel)
theorem itX3 : Cond.initialized RX3 ∈ gTs := gT_in 43 (by decide +kernel) (by decide +kernel)
theorem icX4 : Cond.instantiable RX4 9 ∈ gTs := gT_in 243 (by decide +kernel) (by decide +kernel)
theorem itX4 : Cond.initialized RX4 ∈ gTs := gT_in 49 (by decide +kernel) (by decide +kernel)
theorem icX5 : Cond.instantiable RX5 2 ∈ gTs := gT_in 207 (by decide +kernel) (by decide +kernel)
theorem itX5 : Cond.initialized RX5 ∈ gTs := gT_in 47 (by decide +kernel) (by decide +kernel)
theorem icX6 : Cond.instantiable RX6 8 ∈ gTs := gT_in 166 (by decide +kernel) (by decide +kernel)
theorem itX6 : Cond.initialized RX6 ∈ gTs := gT_in 46 (by decide +kernel) (by decide +kernel)
theorem icX7 : Cond.instantiable RX7 2 ∈ gTs := gT_in 67 (by decide +kernel) (by decide +kernel)
theorem itX7 : Cond.initialized RX7 ∈ gTs := gT_in 42 (by decide +kernel) (by decide +kernel)
theorem icX8 : Cond.instantiable RX8 3 ∈ gTs := gT_in 224 (by decide +kernel) (by decide +kernel)
theorem itX8 : Cond.initialized RX8 ∈ gTs := gT_in 48 (by decide +kernel) (by decide +kernel)
theorem icX9 : Cond.instantiable RX9 11 ∈ gTs := gT_in 59 (by decide +kernel) (by decide +kernel)
theorem itX9 : Cond.initialized RX9 ∈ gTs := gT_in 41 (by decide +kernel) (by decide +kernel)
theorem icX10 : Cond.instantiable RX10 15 ∈ gTs := gT_in 804 (by decide +kernel) (by decide +kernel)
theorem itX10 : Cond.initialized RX10 ∈ gTs := gT_in 55 (by decide +kernel) (by decide +kernel)
theorem vJ6_265 : Cond.constant RJ6 265 (1431655765) ∈ gTs := gT_in 510 (by decide +kernel) (by decide +kernel)
theorem vJ6_266 : Cond.constant RJ6 266 (858993459) ∈ gTs := gT_in 511 (by decide +kernel) (by decide +kernel)
theorem vJ6_267 : Cond.constant RJ6 267 (252645135) ∈ gTs := gT_in 512 (by decide +kernel) (by decide +kernel)
theorem vX9_279 : Cond.constantLong RX9 279 (7919) ∈ gTs := gT_in 775 (by decide +kernel) (by decide +kernel)
theorem vX9_281 : Cond.constantLong RX9 281 (6151) ∈ gTs := gT_in 776 (by decide +kernel) (by decide +kernel)
theorem vX9_283 : Cond.constantLong RX9 283 (65521) ∈ gTs := gT_in 777 (by decide +kernel) (by decide +kernel)
theorem vX10_126 : Cond.constant RX10 126 (-1000000) ∈ gTs := gT_in 1000 (by decide +kernel) (by decide +kernel)
theorem vX10_127 : Cond.constant RX10 127 (100000) ∈ gTs := gT_in 1001 (by decide +kernel) (by decide +kernel)
theorem vX10_138 : Cond.constantLong RX10 138 (7919) ∈ gTs := gT_in 1046 (by decide +kernel) (by decide +kernel)
theorem vX10_140 : Cond.constantLong RX10 140 (6151) ∈ gTs := gT_in 1047 (by decide +kernel) (by decide +kernel)
theorem vX10_142 : Cond.constantLong RX10 142 (65521) ∈ gTs := gT_in 1048 (by decide +kernel) (by decide +kernel)
theorem wAi : Cond.arrayClass .int ∈ gTs := gT_in 82 (by decide +kernel) (by decide +kernel)
end
section
/-! rows of G: an instruction each; q is the next place of the code -/
section GRows
variable {w : gW} {E : State → Prop} {al : Bool} {n : Nat} {y : gY} {mc ms : Nat} {P : gP} {cs sl : Nat} {h : gH} {pc : Nat} {L st : List Value}
theorem g_iconst {i : Int} (v : Int32) (hd : decode y.2.1 pc = .ok (.iconst i, 1)) (q : Nat) (hq : pc + 1 = q) (hv : Int32.ofInt i = v) (k : G w E al n y mc ms P cs sl h q L (.int v :: st)) : G w E al n y mc ms P cs sl h pc L (st) := by
  subst hq
  intro p e s m args below meth c C H locs ls X1 X2 X3
  exact lv_iconst C.1 C.2.1 hd hv (k p e s m args below meth c C H locs ls X1 X2 X3)
theorem g_bipush {i : Int} (v : Int32) (hd : decode y.2.1 pc = .ok (.bipush i, 2)) (q : Nat) (hq : pc + 2 = q) (hv : (Int8.ofInt i).toInt32 = v) (k : G w E al n y mc ms P cs sl h q L (.int v :: st)) : G w E al n y mc ms P cs sl h pc L (st) := by
  subst hq
  intro p e s m args below meth c C H locs ls X1 X2 X3
  exact lv_bipush C.1 C.2.1 hd hv (k p e s m args below meth c C H locs ls X1 X2 X3)
theorem g_sipush {i : Int} (v : Int32) (hd : decode y.2.1 pc = .ok (.sipush i, 3)) (q : Nat) (hq : pc + 3 = q) (hv : (Int16.ofInt i).toInt32 = v) (k : G w E al n y mc ms P cs sl h q L (.int v :: st)) : G w E al n y mc ms P cs sl h pc L (st) := by
  subst hq
  intro p e s m args below meth c C H locs ls X1 X2 X3
  exact lv_sipush C.1 C.2.1 hd hv (k p e s m args below meth c C H locs ls X1 X2 X3)
theorem g_lconst {i : Fin 2} (v : Int64) (hd : decode y.2.1 pc = .ok (.lconst i, 1)) (q : Nat) (hq : pc + 1 = q) (hv : Int64.ofNat (i : Nat) = v) (k : G w E al n y mc ms P cs sl h q L (.long v :: st)) : G w E al n y mc ms P cs sl h pc L (st) := by
  subst hq
  intro p e s m args below meth c C H locs ls X1 X2 X3
  exact lv_lconst C.1 C.2.1 hd hv (k p e s m args below meth c C H locs ls X1 X2 X3)
theorem g_iadd' {x z : Int32} (hd : decode y.2.1 pc = .ok (.iadd, 1)) (q : Nat) (hq : pc + 1 = q) (v : Int32) (hv : x + z = v) (k : G w E al n y mc ms P cs sl h q L (.int v :: st)) : G w E al n y mc ms P cs sl h pc L (.int z :: .int x :: st) := by
  subst hq
  subst hv
  intro p e s m args below meth c C H locs ls X1 X2 X3
  exact lv_iadd C.1 C.2.1 hd (k p e s m args below meth c C H locs ls X1 X2 X3)
theorem g_isub' {x z : Int32} (hd : decode y.2.1 pc = .ok (.isub, 1)) (q : Nat) (hq : pc + 1 = q) (v : Int32) (hv : x - z = v) (k : G w E al n y mc ms P cs sl h q L (.int v :: st)) : G w E al n y mc ms P cs sl h pc L (.int z :: .int x :: st) := by
  subst hq
  subst hv
  intro p e s m args below meth c C H locs ls X1 X2 X3
  exact lv_isub C.1 C.2.1 hd (k p e s m args below meth c C H locs ls X1 X2 X3)
theorem g_imul' {x z : Int32} (hd : decode y.2.1 pc = .ok (.imul, 1)) (q : Nat) (hq : pc + 1 = q) (v : Int32) (hv : x * z = v) (k : G w E al n y mc ms P cs sl h q L (.int v :: st)) : G w E al n y mc ms P cs sl h pc L (.int z :: .int x :: st) := by
  subst hq
  subst hv
  intro p e s m args below meth c C H locs ls X1 X2 X3
  exact lv_imul C.1 C.2.1 hd (k p e s m args below meth c C H locs ls X1 X2 X3)
theorem g_ishl' {x z : Int32} (hd : decode y.2.1 pc = .ok (.ishl, 1)) (q : Nat) (hq : pc + 1 = q) (v : Int32) (hv : x <<< (z &&& 31) = v) (k : G w E al n y mc ms P cs sl h q L (.int v :: st)) : G w E al n y mc ms P cs sl h pc L (.int z :: .int x :: st) := by
  subst hq
  subst hv
  intro p e s m args below meth c C H locs ls X1 X2 X3
  exact lv_ishl C.1 C.2.1 hd (k p e s m args below meth c C H locs ls X1 X2 X3)
theorem g_ishr' {x z : Int32} (hd : decode y.2.1 pc = .ok (.ishr, 1)) (q : Nat) (hq : pc + 1 = q) (v : Int32) (hv : x >>> (z &&& 31) = v) (k : G w E al n y mc ms P cs sl h q L (.int v :: st)) : G w E al n y mc ms P cs sl h pc L (.int z :: .int x :: st) := by
  subst hq
  subst hv
  intro p e s m args below meth c C H locs ls X1 X2 X3
  exact lv_ishr C.1 C.2.1 hd (k p e s m args below meth c C H locs ls X1 X2 X3)
theorem g_iand' {x z : Int32} (hd : decode y.2.1 pc = .ok (.iand, 1)) (q : Nat) (hq : pc + 1 = q) (v : Int32) (hv : x &&& z = v) (k : G w E al n y mc ms P cs sl h q L (.int v :: st)) : G w E al n y mc ms P cs sl h pc L (.int z :: .int x :: st) := by
  subst hq
  subst hv
  intro p e s m args below meth c C H locs ls X1 X2 X3
  exact lv_iand C.1 C.2.1 hd (k p e s m args below meth c C H locs ls X1 X2 X3)
theorem g_ior' {x z : Int32} (hd : decode y.2.1 pc = .ok (.ior, 1)) (q : Nat) (hq : pc + 1 = q) (v : Int32) (hv : x ||| z = v) (k : G w E al n y mc ms P cs sl h q L (.int v :: st)) : G w E al n y mc ms P cs sl h pc L (.int z :: .int x :: st) := by
  subst hq
  subst hv
  intro p e s m args below meth c C H locs ls X1 X2 X3
  exact lv_ior C.1 C.2.1 hd (k p e s m args below meth c C H locs ls X1 X2 X3)
theorem g_iadd {x z : Int32} (hd : decode y.2.1 pc = .ok (.iadd, 1)) (q : Nat) (hq : pc + 1 = q) (k : G w E al n y mc ms P cs sl h q L (.int (x + z) :: st)) : G w E al n y mc ms P cs sl h pc L (.int z :: .int x :: st) := by
  subst hq
  intro p e s m args below meth c C H locs ls X1 X2 X3
  exact lv_iadd C.1 C.2.1 hd (k p e s m args below meth c C H locs ls X1 X2 X3)
theorem g_isub {x z : Int32} (hd : decode y.2.1 pc = .ok (.isub, 1)) (q : Nat) (hq : pc + 1 = q) (k : G w E al n y mc ms P cs sl h q L (.int (x - z) :: st)) : G w E al n y mc ms P cs sl h pc L (.int z :: .int x :: st) := by
  subst hq
  intro p e s m args below meth c C H locs ls X1 X2 X3
  exact lv_isub C.1 C.2.1 hd (k p e s m args below meth c C H locs ls X1 X2 X3)
theorem g_imul {x z : Int32} (hd : decode y.2.1 pc = .ok (.imul, 1)) (q : Nat) (hq : pc + 1 = q) (k : G w E al n y mc ms P cs sl h q L (.int (x * z) :: st)) : G w E al n y mc ms P cs sl h pc L (.int z :: .int x :: st) := by
  subst hq
  intro p e s m args below meth c C H locs ls X1 X2 X3
  exact lv_imul C.1 C.2.1 hd (k p e s m args below meth c C H locs ls X1 X2 X3)
theorem g_iand {x z : Int32} (hd : decode y.2.1 pc = .ok (.iand, 1)) (q : Nat) (hq : pc + 1 = q) (k : G w E al n y mc ms P cs sl h q L (.int (x &&& z) :: st)) : G w E al n y mc ms P cs sl h pc L (.int z :: .int x :: st) := by
  subst hq
  intro p e s m args below meth c C H locs ls X1 X2 X3
  exact lv_iand C.1 C.2.1 hd (k p e s m args below meth c C H locs ls X1 X2 X3)
theorem g_ior {x z : Int32} (hd : decode y.2.1 pc = .ok (.ior, 1)) (q : Nat) (hq : pc + 1 = q) (k : G w E al n y mc ms P cs sl h q L (.int (x ||| z) :: st)) : G w E al n y mc ms P cs sl h pc L (.int z :: .int x :: st) := by
  subst hq
  intro p e s m args below meth c C H locs ls X1 X2 X3
  exact lv_ior C.1 C.2.1 hd (k p e s m args below meth c C H locs ls X1 X2 X3)
theorem g_ixor {x z : Int32} (hd : decode y.2.1 pc = .ok (.ixor, 1)) (q : Nat) (hq : pc + 1 = q) (k : G w E al n y mc ms P cs sl h q L (.int (x ^^^ z) :: st)) : G w E al n y mc ms P cs sl h pc L (.int z :: .int x :: st) := by
  subst hq
  intro p e s m args below meth c C H locs ls X1 X2 X3
  exact lv_ixor C.1 C.2.1 hd (k p e s m args below meth c C H locs ls X1 X2 X3)
theorem g_ishl {x z : Int32} (hd : decode y.2.1 pc = .ok (.ishl, 1)) (q : Nat) (hq : pc + 1 = q) (k : G w E al n y mc ms P cs sl h q L (.int (x <<< (z &&& 31)) :: st)) : G w E al n y mc ms P cs sl h pc L (.int z :: .int x :: st) := by
  subst hq
  intro p e s m args below meth c C H locs ls X1 X2 X3
  exact lv_ishl C.1 C.2.1 hd (k p e s m args below meth c C H locs ls X1 X2 X3)
theorem g_ishr {x z : Int32} (hd : decode y.2.1 pc = .ok (.ishr, 1)) (q : Nat) (hq : pc + 1 = q) (k : G w E al n y mc ms P cs sl h q L (.int (x >>> (z &&& 31)) :: st)) : G w E al n y mc ms P cs sl h pc L (.int z :: .int x :: st) := by
  subst hq
  intro p e s m args below meth c C H locs ls X1 X2 X3
  exact lv_ishr C.1 C.2.1 hd (k p e s m args below meth c C H locs ls X1 X2 X3)
theorem g_iushr {x z : Int32} (hd : decode y.2.1 pc = .ok (.iushr, 1)) (q : Nat) (hq : pc + 1 = q) (k : G w E al n y mc ms P cs sl h q L (.int ((x.toUInt32 >>> (z.toUInt32 &&& Int32.toUInt32 31)).toInt32) :: st)) : G w E al n y mc ms P cs sl h pc L (.int z :: .int x :: st) := by
  subst hq
  intro p e s m args below meth c C H locs ls X1 X2 X3
  exact lv_iushr C.1 C.2.1 hd rfl (k p e s m args below meth c C H locs ls X1 X2 X3)
theorem g_idiv {x z : Int32} (hd : decode y.2.1 pc = .ok (.idiv, 1)) (q : Nat) (hq : pc + 1 = q) (hz : ¬ z = 0) (k : G w E al n y mc ms P cs sl h q L (.int (x / z) :: st)) : G w E al n y mc ms P cs sl h pc L (.int z :: .int x :: st) := by
  subst hq
  intro p e s m args below meth c C H locs ls X1 X2 X3
  exact lv_idiv C.1 C.2.1 hd hz (k p e s m args below meth c C H locs ls X1 X2 X3)
theorem g_irem {x z : Int32} (hd : decode y.2.1 pc = .ok (.irem, 1)) (q : Nat) (hq : pc + 1 = q) (hz : ¬ z = 0) (k : G w E al n y mc ms P cs sl h q L (.int (x - x / z * z) :: st)) : G w E al n y mc ms P cs sl h pc L (.int z :: .int x :: st) := by
  subst hq
  intro p e s m args below meth c C H locs ls X1 X2 X3
  exact lv_irem C.1 C.2.1 hd hz (k p e s m args below meth c C H locs ls X1 X2 X3)
theorem g_idiv' {x z : Int32} (hd : decode y.2.1 pc = .ok (.idiv, 1)) (q : Nat) (hq : pc + 1 = q) (hz : ¬ z = 0) (v : Int32) (hv : x / z = v) (k : G w E al n y mc ms P cs sl h q L (.int v :: st)) : G w E al n y mc ms P cs sl h pc L (.int z :: .int x :: st) := by
  subst hq
  subst hv
  intro p e s m args below meth c C H locs ls X1 X2 X3
  exact lv_idiv C.1 C.2.1 hd hz (k p e s m args below meth c C H locs ls X1 X2 X3)
theorem g_irem' {x z : Int32} (hd : decode y.2.1 pc = .ok (.irem, 1)) (q : Nat) (hq : pc + 1 = q) (hz : ¬ z = 0) (v : Int32) (hv : x - x / z * z = v) (k : G w E al n y mc ms P cs sl h q L (.int v :: st)) : G w E al n y mc ms P cs sl h pc L (.int z :: .int x :: st) := by
  subst hq
  subst hv
  intro p e s m args below meth c C H locs ls X1 X2 X3
  exact lv_irem C.1 C.2.1 hd hz (k p e s m args below meth c C H locs ls X1 X2 X3)
theorem g_l2i' {x : Int64} (hd : decode y.2.1 pc = .ok (.l2i, 1)) (q : Nat) (hq : pc + 1 = q) (v : Int32) (hv : x.toInt32 = v) (k : G w E al n y mc ms P cs sl h q L (.int v :: st)) : G w E al n y mc ms P cs sl h pc L (.long x :: st) := by
  subst hq
  intro p e s m args below meth c C H locs ls X1 X2 X3
  exact lv_l2i C.1 C.2.1 hd hv (k p e s m args below meth c C H locs ls X1 X2 X3)
theorem g_ineg {x : Int32} (hd : decode y.2.1 pc = .ok (.ineg, 1)) (q : Nat) (hq : pc + 1 = q) (k : G w E al n y mc ms P cs sl h q L (.int (-x) :: st)) : G w E al n y mc ms P cs sl h pc L (.int x :: st) := by
  subst hq
  intro p e s m args below meth c C H locs ls X1 X2 X3
  exact lv_ineg C.1 C.2.1 hd (k p e s m args below meth c C H locs ls X1 X2 X3)
theorem g_ladd {x z : Int64} (hd : decode y.2.1 pc = .ok (.ladd, 1)) (q : Nat) (hq : pc + 1 = q) (k : G w E al n y mc ms P cs sl h q L (.long (x + z) :: st)) : G w E al n y mc ms P cs sl h pc L (.long z :: .long x :: st) := by
  subst hq
  intro p e s m args below meth c C H locs ls X1 X2 X3
  exact lv_ladd C.1 C.2.1 hd (k p e s m args below meth c C H locs ls X1 X2 X3)
theorem g_lmul {x z : Int64} (hd : decode y.2.1 pc = .ok (.lmul, 1)) (q : Nat) (hq : pc + 1 = q) (k : G w E al n y mc ms P cs sl h q L (.long (x * z) :: st)) : G w E al n y mc ms P cs sl h pc L (.long z :: .long x :: st) := by
  subst hq
  intro p e s m args below meth c C H locs ls X1 X2 X3
  exact lv_lmul C.1 C.2.1 hd (k p e s m args below meth c C H locs ls X1 X2 X3)
theorem g_ldiv {x z : Int64} (hd : decode y.2.1 pc = .ok (.ldiv, 1)) (q : Nat) (hq : pc + 1 = q) (hz : ¬ z = 0) (k : G w E al n y mc ms P cs sl h q L (.long (x / z) :: st)) : G w E al n y mc ms P cs sl h pc L (.long z :: .long x :: st) := by
  subst hq
  intro p e s m args below meth c C H locs ls X1 X2 X3
  exact lv_ldiv C.1 C.2.1 hd hz (k p e s m args below meth c C H locs ls X1 X2 X3)
theorem g_lrem {x z : Int64} (hd : decode y.2.1 pc = .ok (.lrem, 1)) (q : Nat) (hq : pc + 1 = q) (hz : ¬ z = 0) (k : G w E al n y mc ms P cs sl h q L (.long (x - x / z * z) :: st)) : G w E al n y mc ms P cs sl h pc L (.long z :: .long x :: st) := by
  subst hq
  intro p e s m args below meth c C H locs ls X1 X2 X3
  exact lv_lrem C.1 C.2.1 hd hz (k p e s m args below meth c C H locs ls X1 X2 X3)
theorem g_lcmp {x z : Int64} (hd : decode y.2.1 pc = .ok (.lcmp, 1)) (q : Nat) (hq : pc + 1 = q) (k : G w E al n y mc ms P cs sl h q L (.int (lg_cmp x z) :: st)) : G w E al n y mc ms P cs sl h pc L (.long z :: .long x :: st) := by
  subst hq
  intro p e s m args below meth c C H locs ls X1 X2 X3
  exact W.lcmp C.1 C.2.1 hd (k p e s m args below meth c C H locs ls X1 X2 X3)
theorem g_i2l {x : Int32} (hd : decode y.2.1 pc = .ok (.i2l, 1)) (q : Nat) (hq : pc + 1 = q) (k : G w E al n y mc ms P cs sl h q L (.long x.toInt64 :: st)) : G w E al n y mc ms P cs sl h pc L (.int x :: st) := by
  subst hq
  intro p e s m args below meth c C H locs ls X1 X2 X3
  exact lv_i2l C.1 C.2.1 hd rfl (k p e s m args below meth c C H locs ls X1 X2 X3)
theorem g_l2i {x : Int64} (hd : decode y.2.1 pc = .ok (.l2i, 1)) (q : Nat) (hq : pc + 1 = q) (k : G w E al n y mc ms P cs sl h q L (.int x.toInt32 :: st)) : G w E al n y mc ms P cs sl h pc L (.long x :: st) := by
  subst hq
  intro p e s m args below meth c C H locs ls X1 X2 X3
  exact lv_l2i C.1 C.2.1 hd rfl (k p e s m args below meth c C H locs ls X1 X2 X3)
theorem g_null (hd : decode y.2.1 pc = .ok (.aconst_null, 1)) (q : Nat) (hq : pc + 1 = q) (k : G w E al n y mc ms P cs sl h q L (.null :: st)) : G w E al n y mc ms P cs sl h pc L (st) := by
  subst hq
  intro p e s m args below meth c C H locs ls X1 X2 X3
  exact lv_null C.1 C.2.1 hd (k p e s m args below meth c C H locs ls X1 X2 X3)
theorem gv_cat (w : gW) (v : Value) : (gv w v).category = v.category := by cases v <;> rfl
theorem g_dup {v : Value} (hd : decode y.2.1 pc = .ok (.dup, 1)) (q : Nat) (hq : pc + 1 = q) (hv : v.category = 1) (k : G w E al n y mc ms P cs sl h q L (v :: v :: st)) : G w E al n y mc ms P cs sl h pc L (v :: st) := by
  subst hq
  intro p e s m args below meth c C H locs ls X1 X2 X3
  exact lv_dup C.1 C.2.1 hd ((gv_cat w v).trans hv) (k p e s m args below meth c C H locs ls X1 X2 X3)
theorem g_pop {v : Value} (hd : decode y.2.1 pc = .ok (.pop, 1)) (q : Nat) (hq : pc + 1 = q) (hv : v.category = 1) (k : G w E al n y mc ms P cs sl h q L (st)) : G w E al n y mc ms P cs sl h pc L (v :: st) := by
  subst hq
  intro p e s m args below meth c C H locs ls X1 X2 X3
  exact lv_pop C.1 C.2.1 hd ((gv_cat w v).trans hv) (k p e s m args below meth c C H locs ls X1 X2 X3)
theorem g_dup2 {v u : Value} (hd : decode y.2.1 pc = .ok (.dup2, 1)) (q : Nat) (hq : pc + 1 = q) (hv : v.category = 1) (hu : u.category = 1) (k : G w E al n y mc ms P cs sl h q L (v :: u :: v :: u :: st)) : G w E al n y mc ms P cs sl h pc L (v :: u :: st) := by
  subst hq
  intro p e s m args below meth c C H locs ls X1 X2 X3
  exact lv_dup2_11 C.1 C.2.1 hd ((gv_cat w v).trans hv) ((gv_cat w u).trans hu) (k p e s m args below meth c C H locs ls X1 X2 X3)
theorem g_iload {i : Nat} {x : Int32} (hd : decode y.2.1 pc = .ok (.iload i, 2)) (q : Nat) (hq : pc + 2 = q) (hl : L[i]? = some (.int x)) (k : G w E al n y mc ms P cs sl h q L (.int x :: st)) : G w E al n y mc ms P cs sl h pc L st := by
  subst hq
  intro p e s m args below meth c C H locs ls X1 X2 X3
  exact lv_iload C.1 C.2.1 hd (X3.2.2.2 i _ hl (by simp [gF])) (k p e s m args below meth c C H locs ls X1 X2 X3)
theorem g_iload_n {j : Fin 4} {i : Nat} {x : Int32} (hd : decode y.2.1 pc = .ok (.iload_n j, 1)) (hi : (j : Nat) = i) (q : Nat) (hq : pc + 1 = q) (hl : L[i]? = some (.int x)) (k : G w E al n y mc ms P cs sl h q L (.int x :: st)) : G w E al n y mc ms P cs sl h pc L st := by
  subst hq
  intro p e s m args below meth c C H locs ls X1 X2 X3
  exact lv_iload_n C.1 C.2.1 hd hi (X3.2.2.2 i _ hl (by simp [gF])) (k p e s m args below meth c C H locs ls X1 X2 X3)
theorem g_lload {i : Nat} {x : Int64} (hd : decode y.2.1 pc = .ok (.lload i, 2)) (q : Nat) (hq : pc + 2 = q) (hl : L[i]? = some (.long x)) (k : G w E al n y mc ms P cs sl h q L (.long x :: st)) : G w E al n y mc ms P cs sl h pc L st := by
  subst hq
  intro p e s m args below meth c C H locs ls X1 X2 X3
  exact lv_lload C.1 C.2.1 hd (X3.2.2.2 i _ hl (by simp [gF])) (k p e s m args below meth c C H locs ls X1 X2 X3)
theorem g_lload_n {j : Fin 4} {i : Nat} {x : Int64} (hd : decode y.2.1 pc = .ok (.lload_n j, 1)) (hi : (j : Nat) = i) (q : Nat) (hq : pc + 1 = q) (hl : L[i]? = some (.long x)) (k : G w E al n y mc ms P cs sl h q L (.long x :: st)) : G w E al n y mc ms P cs sl h pc L st := by
  subst hq
  intro p e s m args below meth c C H locs ls X1 X2 X3
  exact lv_lload_n C.1 C.2.1 hd hi (X3.2.2.2 i _ hl (by simp [gF])) (k p e s m args below meth c C H locs ls X1 X2 X3)
theorem g_aload {i : Nat} {x : Nat} (hd : decode y.2.1 pc = .ok (.aload i, 2)) (q : Nat) (hq : pc + 2 = q) (hl : L[i]? = some (.ref x)) (k : G w E al n y mc ms P cs sl h q L (.ref x :: st)) : G w E al n y mc ms P cs sl h pc L st := by
  subst hq
  intro p e s m args below meth c C H locs ls X1 X2 X3
  exact lv_aload C.1 C.2.1 hd (X3.2.2.2 i _ hl (by simp [gF])) (k p e s m args below meth c C H locs ls X1 X2 X3)
theorem g_aload_n {j : Fin 4} {i : Nat} {x : Nat} (hd : decode y.2.1 pc = .ok (.aload_n j, 1)) (hi : (j : Nat) = i) (q : Nat) (hq : pc + 1 = q) (hl : L[i]? = some (.ref x)) (k : G w E al n y mc ms P cs sl h q L (.ref x :: st)) : G w E al n y mc ms P cs sl h pc L st := by
  subst hq
  intro p e s m args below meth c C H locs ls X1 X2 X3
  exact lv_aload_n C.1 C.2.1 hd hi (X3.2.2.2 i _ hl (by simp [gF])) (k p e s m args below meth c C H locs ls X1 X2 X3)
end GRows
/-- the locals that hold something, by their places -/
def gLs (w : gW) (L : List Value) : List (Nat × Value) := (List.range L.length).filterMap (fun i => (L[i]?).bind (fun v => if v = gF then none else some (i, gv w v)))
theorem gLs_mem {w : gW} {L : List Value} {j : Nat} {u : Value} : (j, u) ∈ gLs w L ↔ ∃ v, L[j]? = some v ∧ v ≠ gF ∧ u = gv w v := by
  unfold gLs
  rw [List.mem_filterMap]
  constructor
  · rintro ⟨i, hi, h⟩
    rw [Option.bind_eq_some_iff] at h
    obtain ⟨v, h1, h2⟩ := h
    by_cases hv : v = gF
    · rw [if_pos hv] at h2; cases h2
    · rw [if_neg hv] at h2
      cases h2
      exact ⟨v, h1, hv, rfl⟩
  · rintro ⟨v, h1, h2, rfl⟩
    refine ⟨j, List.mem_range.mpr (List.getElem?_eq_some_iff.mp h1).1, ?_⟩
    rw [h1, Option.bind_some, if_neg h2]
theorem gL.has {w : gW} {nL : Nat} {ls : Array Slot} {L : List Value} (h : gL w nL ls L) : lv_has ls nL (gLs w L) := by
  refine ⟨h.1, h.2.1, fun q hq => ?_⟩
  obtain ⟨j, u⟩ := q
  obtain ⟨v, h1, h2, rfl⟩ := gLs_mem.mp hq
  exact h.2.2.2 j v h1 h2
theorem gL.st1 {w : gW} {nL i : Nat} {L : List Value} {v : Value} (hi : i < nL) (hn : L.length = nL) (hc : ∀ (j : Nat) (u : Value), j + 1 = i → L[j]? = some u → u.category = 1) {ls' : Array Slot}
    (h : lv_has ls' nL ((i, gv w v) :: (gLs w L).filter (fun q => !(q.1 == i) && !(q.1 + 1 == i && q.2.category == 2)))) : gL w nL ls' (L.set i v) := by
  refine ⟨h.1, h.2.1, by rw [List.length_set]; exact hn, fun j u hj hu => ?_⟩
  by_cases hji : i = j
  · subst hji
    rw [List.getElem?_set_self (by omega)] at hj
    cases hj
    exact h.2.2 _ List.mem_cons_self
  · rw [List.getElem?_set_ne hji] at hj
    refine h.2.2 (j, gv w u) (List.mem_cons_of_mem _ (List.mem_filter.mpr ⟨gLs_mem.mpr ⟨u, hj, hu, rfl⟩, ?_⟩))
    simp only [Bool.and_eq_true, Bool.not_eq_true', beq_eq_false_iff_ne, ne_eq, Bool.and_eq_false_iff]
    refine ⟨fun z => hji z.symm, ?_⟩
    by_cases hj1 : j + 1 = i
    · refine Or.inr (fun z => ?_)
      rw [gv_cat, hc j u hj1 hj] at z
      cases z
    · exact Or.inl hj1
theorem gL.st2 {w : gW} {nL i : Nat} {L : List Value} {v : Value} (hi : i + 1 < nL) (hn : L.length = nL) (hc : ∀ (j : Nat) (u : Value), j + 1 = i → L[j]? = some u → u.category = 1) {ls' : Array Slot}
    (h : lv_has ls' nL ((i, gv w v) :: (gLs w L).filter (fun q => !(q.1 == i) && (!(q.1 == i + 1) && !(q.1 + 1 == i && q.2.category == 2))))) : gL w nL ls' ((L.set i v).set (i + 1) gF) := by
  refine ⟨h.1, h.2.1, by rw [List.length_set, List.length_set]; exact hn, fun j u hj hu => ?_⟩
  by_cases hj1 : i + 1 = j
  · subst hj1
    rw [List.getElem?_set_self (by rw [List.length_set]; omega)] at hj
    cases hj
    exact absurd rfl hu
  rw [List.getElem?_set_ne hj1] at hj
  by_cases hji : i = j
  · subst hji
    rw [List.getElem?_set_self (by omega)] at hj
    cases hj
    exact h.2.2 _ List.mem_cons_self
  · rw [List.getElem?_set_ne hji] at hj
    refine h.2.2 (j, gv w u) (List.mem_cons_of_mem _ (List.mem_filter.mpr ⟨gLs_mem.mpr ⟨u, hj, hu, rfl⟩, ?_⟩))
    simp only [Bool.and_eq_true, Bool.not_eq_true', beq_eq_false_iff_ne, ne_eq, Bool.and_eq_false_iff]
    refine ⟨fun z => hji z.symm, fun z => hj1 z.symm, ?_⟩
    by_cases hjj : j + 1 = i
    · refine Or.inr (fun z => ?_)
      rw [gv_cat, hc j u hjj hj] at z
      cases z
    · exact Or.inl hjj
section GStores
variable {w : gW} {E : State → Prop} {al : Bool} {n : Nat} {y : gY} {mc ms : Nat} {P : gP} {cs sl : Nat} {h : gH} {pc : Nat} {L st : List Value}
theorem g_istore {i : Nat} {x : Int32} (hd : decode y.2.1 pc = .ok (.istore i, 2)) (q : Nat) (hq : pc + 2 = q) (hb : i < y.2.2.1) (hc : ∀ (j : Nat) (u : Value), j + 1 = i → L[j]? = some u → u.category = 1) {L' : List Value} (hL : L.set i (.int x) = L') (k : G w E al n y mc ms P cs sl h q L' st) : G w E al n y mc ms P cs sl h pc L (.int x :: st) := by
  subst hq
  subst hL
  intro p e s m args below meth c C H locs ls X1 X2 X3
  exact lv_istore C.1 C.2.1 hd X3.has hb rfl (fun ls' h' => k p e s m args below meth c C H locs ls' X1 X2 (gL.st1 (v := .int x) hb X3.2.2.1 hc h'))
theorem g_istore_n {j : Fin 4} {i : Nat} {x : Int32} (hd : decode y.2.1 pc = .ok (.istore_n j, 1)) (hi : (j : Nat) = i) (q : Nat) (hq : pc + 1 = q) (hb : i < y.2.2.1) (hc : ∀ (j : Nat) (u : Value), j + 1 = i → L[j]? = some u → u.category = 1) {L' : List Value} (hL : L.set i (.int x) = L') (k : G w E al n y mc ms P cs sl h q L' st) : G w E al n y mc ms P cs sl h pc L (.int x :: st) := by
  subst hq
  subst hL
  intro p e s m args below meth c C H locs ls X1 X2 X3
  exact lv_istore_n C.1 C.2.1 hd hi X3.has hb rfl (fun ls' h' => k p e s m args below meth c C H locs ls' X1 X2 (gL.st1 (v := .int x) hb X3.2.2.1 hc h'))
theorem g_lstore {i : Nat} {x : Int64} (hd : decode y.2.1 pc = .ok (.lstore i, 2)) (q : Nat) (hq : pc + 2 = q) (hb : i + 1 < y.2.2.1) (hc : ∀ (j : Nat) (u : Value), j + 1 = i → L[j]? = some u → u.category = 1) {L' : List Value} (hL : (L.set i (.long x)).set (i + 1) gF = L') (k : G w E al n y mc ms P cs sl h q L' st) : G w E al n y mc ms P cs sl h pc L (.long x :: st) := by
  subst hq
  subst hL
  intro p e s m args below meth c C H locs ls X1 X2 X3
  exact lv_lstore C.1 C.2.1 hd X3.has hb rfl (fun ls' h' => k p e s m args below meth c C H locs ls' X1 X2 (gL.st2 (v := .long x) hb X3.2.2.1 hc h'))
theorem g_lstore_n {j : Fin 4} {i : Nat} {x : Int64} (hd : decode y.2.1 pc = .ok (.lstore_n j, 1)) (hi : (j : Nat) = i) (q : Nat) (hq : pc + 1 = q) (hb : i + 1 < y.2.2.1) (hc : ∀ (j : Nat) (u : Value), j + 1 = i → L[j]? = some u → u.category = 1) {L' : List Value} (hL : (L.set i (.long x)).set (i + 1) gF = L') (k : G w E al n y mc ms P cs sl h q L' st) : G w E al n y mc ms P cs sl h pc L (.long x :: st) := by
  subst hq
  subst hL
  intro p e s m args below meth c C H locs ls X1 X2 X3
  exact lv_lstore_n C.1 C.2.1 hd hi X3.has hb rfl (fun ls' h' => k p e s m args below meth c C H locs ls' X1 X2 (gL.st2 (v := .long x) hb X3.2.2.1 hc h'))
theorem g_astore {i : Nat} {x : Nat} (hd : decode y.2.1 pc = .ok (.astore i, 2)) (q : Nat) (hq : pc + 2 = q) (hb : i < y.2.2.1) (hc : ∀ (j : Nat) (u : Value), j + 1 = i → L[j]? = some u → u.category = 1) {L' : List Value} (hL : L.set i (.ref x) = L') (k : G w E al n y mc ms P cs sl h q L' st) : G w E al n y mc ms P cs sl h pc L (.ref x :: st) := by
  subst hq
  subst hL
  intro p e s m args below meth c C H locs ls X1 X2 X3
  exact lv_astore C.1 C.2.1 hd X3.has hb rfl (fun ls' h' => k p e s m args below meth c C H locs ls' X1 X2 (gL.st1 (v := .ref x) hb X3.2.2.1 hc h'))
theorem g_astore_n {j : Fin 4} {i : Nat} {x : Nat} (hd : decode y.2.1 pc = .ok (.astore_n j, 1)) (hi : (j : Nat) = i) (q : Nat) (hq : pc + 1 = q) (hb : i < y.2.2.1) (hc : ∀ (j : Nat) (u : Value), j + 1 = i → L[j]? = some u → u.category = 1) {L' : List Value} (hL : L.set i (.ref x) = L') (k : G w E al n y mc ms P cs sl h q L' st) : G w E al n y mc ms P cs sl h pc L (.ref x :: st) := by
  subst hq
  subst hL
  intro p e s m args below meth c C H locs ls X1 X2 X3
  exact lv_astore_n C.1 C.2.1 hd hi X3.has hb rfl (fun ls' h' => k p e s m args below meth c C H locs ls' X1 X2 (gL.st1 (v := .ref x) hb X3.2.2.1 hc h'))
theorem g_iinc {i : Nat} {d : Int} {x : Int32} (hd : decode y.2.1 pc = .ok (.iinc i d, 3)) (q : Nat) (hq : pc + 3 = q) (hl : L[i]? = some (.int x)) (dv : Int32) (hv : Int32.ofInt d = dv) (hb : i < y.2.2.1) (hc : ∀ (j : Nat) (u : Value), j + 1 = i → L[j]? = some u → u.category = 1) {L' : List Value} (hL : L.set i (.int (x + dv)) = L') (k : G w E al n y mc ms P cs sl h q L' st) : G w E al n y mc ms P cs sl h pc L st := by
  subst hq
  subst hL
  subst hv
  intro p e s m args below meth c C H locs ls X1 X2 X3
  obtain ⟨kk, hkk⟩ := List.getElem?_of_mem (gLs_mem.mpr ⟨_, hl, by simp [gF], rfl⟩ : (i, gv w (.int x)) ∈ gLs w L)
  exact lv_iinc C.1 C.2.1 hd X3.has hkk rfl hb rfl (fun ls' h' => k p e s m args below meth c C H locs ls' X1 X2 (gL.st1 (v := .int (x + Int32.ofInt d)) hb X3.2.2.1 hc h'))
theorem g_istore0 {b0 : Value} {r : List Value} {x : Int32} (hd : decode y.2.1 pc = .ok (.istore_n 0, 1)) (q : Nat) (hq : pc + 1 = q) (hb : 0 < y.2.2.1) (k : G w E al n y mc ms P cs sl h q (.int x :: r) st) : G w E al n y mc ms P cs sl h pc (b0 :: r) (.int x :: st) :=
  g_istore_n hd rfl q hq hb (fun j u hj _ => absurd hj (by omega)) rfl k
theorem g_astore0 {b0 : Value} {r : List Value} {x : Nat} (hd : decode y.2.1 pc = .ok (.astore_n 0, 1)) (q : Nat) (hq : pc + 1 = q) (hb : 0 < y.2.2.1) (k : G w E al n y mc ms P cs sl h q (.ref x :: r) st) : G w E al n y mc ms P cs sl h pc (b0 :: r) (.ref x :: st) :=
  g_astore_n hd rfl q hq hb (fun j u hj _ => absurd hj (by omega)) rfl k
theorem g_iinc0 {r : List Value} {x : Int32} {d : Int} (hd : decode y.2.1 pc = .ok (.iinc 0 d, 3)) (q : Nat) (hq : pc + 3 = q) (dv : Int32) (hv : Int32.ofInt d = dv) (v : Int32) (hx : x + dv = v) (hb : 0 < y.2.2.1) (k : G w E al n y mc ms P cs sl h q (.int v :: r) st) : G w E al n y mc ms P cs sl h pc (.int x :: r) st :=
  g_iinc hd q hq rfl dv hv hb (fun j u hj _ => absurd hj (by omega)) (by subst hx; rfl) k
theorem g_lstore0 {b0 b1 : Value} {r : List Value} {x : Int64} (hd : decode y.2.1 pc = .ok (.lstore_n 0, 1)) (q : Nat) (hq : pc + 1 = q) (hb : 0 + 1 < y.2.2.1) (k : G w E al n y mc ms P cs sl h q (.long x :: gF :: r) st) : G w E al n y mc ms P cs sl h pc (b0 :: b1 :: r) (.long x :: st) :=
  g_lstore_n hd rfl q hq hb (fun j u hj _ => absurd hj (by omega)) rfl k
theorem g_istore1 {a0 b0 : Value} {r : List Value} {x : Int32} (hd : decode y.2.1 pc = .ok (.istore_n 1, 1)) (q : Nat) (hq : pc + 1 = q) (hb : 1 < y.2.2.1) (hc : a0.category = 1) (k : G w E al n y mc ms P cs sl h q (a0 :: .int x :: r) st) : G w E al n y mc ms P cs sl h pc (a0 :: b0 :: r) (.int x :: st) :=
  g_istore_n hd rfl q hq hb (by
    intro j u hj hu
    have hj' : j = 0 := by omega
    subst hj'
    simp only [List.getElem?_cons_succ, List.getElem?_cons_zero, Option.some.injEq] at hu
    subst hu
    exact hc) rfl k
theorem g_astore1 {a0 b0 : Value} {r : List Value} {x : Nat} (hd : decode y.2.1 pc = .ok (.astore_n 1, 1)) (q : Nat) (hq : pc + 1 = q) (hb : 1 < y.2.2.1) (hc : a0.category = 1) (k : G w E al n y mc ms P cs sl h q (a0 :: .ref x :: r) st) : G w E al n y mc ms P cs sl h pc (a0 :: b0 :: r) (.ref x :: st) :=
  g_astore_n hd rfl q hq hb (by
    intro j u hj hu
    have hj' : j = 0 := by omega
    subst hj'
    simp only [List.getElem?_cons_succ, List.getElem?_cons_zero, Option.some.injEq] at hu
    subst hu
    exact hc) rfl k
theorem g_iinc1 {a0 : Value} {r : List Value} {x : Int32} {d : Int} (hd : decode y.2.1 pc = .ok (.iinc 1 d, 3)) (q : Nat) (hq : pc + 3 = q) (dv : Int32) (hv : Int32.ofInt d = dv) (v : Int32) (hx : x + dv = v) (hb : 1 < y.2.2.1) (hc : a0.category = 1) (k : G w E al n y mc ms P cs sl h q (a0 :: .int v :: r) st) : G w E al n y mc ms P cs sl h pc (a0 :: .int x :: r) st :=
  g_iinc hd q hq rfl dv hv hb (by
    intro j u hj hu
    have hj' : j = 0 := by omega
    subst hj'
    simp only [List.getElem?_cons_succ, List.getElem?_cons_zero, Option.some.injEq] at hu
    subst hu
    exact hc) (by subst hx; rfl) k
theorem g_lstore1 {a0 b0 b1 : Value} {r : List Value} {x : Int64} (hd : decode y.2.1 pc = .ok (.lstore_n 1, 1)) (q : Nat) (hq : pc + 1 = q) (hb : 1 + 1 < y.2.2.1) (hc : a0.category = 1) (k : G w E al n y mc ms P cs sl h q (a0 :: .long x :: gF :: r) st) : G w E al n y mc ms P cs sl h pc (a0 :: b0 :: b1 :: r) (.long x :: st) :=
  g_lstore_n hd rfl q hq hb (by
    intro j u hj hu
    have hj' : j = 0 := by omega
    subst hj'
    simp only [List.getElem?_cons_succ, List.getElem?_cons_zero, Option.some.injEq] at hu
    subst hu
    exact hc) rfl k
theorem g_istore2 {a0 a1 b0 : Value} {r : List Value} {x : Int32} (hd : decode y.2.1 pc = .ok (.istore_n 2, 1)) (q : Nat) (hq : pc + 1 = q) (hb : 2 < y.2.2.1) (hc : a1.category = 1) (k : G w E al n y mc ms P cs sl h q (a0 :: a1 :: .int x :: r) st) : G w E al n y mc ms P cs sl h pc (a0 :: a1 :: b0 :: r) (.int x :: st) :=
  g_istore_n hd rfl q hq hb (by
    intro j u hj hu
    have hj' : j = 1 := by omega
    subst hj'
    simp only [List.getElem?_cons_succ, List.getElem?_cons_zero, Option.some.injEq] at hu
    subst hu
    exact hc) rfl k
theorem g_astore2 {a0 a1 b0 : Value} {r : List Value} {x : Nat} (hd : decode y.2.1 pc = .ok (.astore_n 2, 1)) (q : Nat) (hq : pc + 1 = q) (hb : 2 < y.2.2.1) (hc : a1.category = 1) (k : G w E al n y mc ms P cs sl h q (a0 :: a1 :: .ref x :: r) st) : G w E al n y mc ms P cs sl h pc (a0 :: a1 :: b0 :: r) (.ref x :: st) :=
  g_astore_n hd rfl q hq hb (by
    intro j u hj hu
    have hj' : j = 1 := by omega
    subst hj'
    simp only [List.getElem?_cons_succ, List.getElem?_cons_zero, Option.some.injEq] at hu
    subst hu
    exact hc) rfl k
theorem g_iinc2 {a0 a1 : Value} {r : List Value} {x : Int32} {d : Int} (hd : decode y.2.1 pc = .ok (.iinc 2 d, 3)) (q : Nat) (hq : pc + 3 = q) (dv : Int32) (hv : Int32.ofInt d = dv) (v : Int32) (hx : x + dv = v) (hb : 2 < y.2.2.1) (hc : a1.category = 1) (k : G w E al n y mc ms P cs sl h q (a0 :: a1 :: .int v :: r) st) : G w E al n y mc ms P cs sl h pc (a0 :: a1 :: .int x :: r) st :=
  g_iinc hd q hq rfl dv hv hb (by
    intro j u hj hu
    have hj' : j = 1 := by omega
    subst hj'
    simp only [List.getElem?_cons_succ, List.getElem?_cons_zero, Option.some.injEq] at hu
    subst hu
    exact hc) (by subst hx; rfl) k
theorem g_lstore2 {a0 a1 b0 b1 : Value} {r : List Value} {x : Int64} (hd : decode y.2.1 pc = .ok (.lstore_n 2, 1)) (q : Nat) (hq : pc + 1 = q) (hb : 2 + 1 < y.2.2.1) (hc : a1.category = 1) (k : G w E al n y mc ms P cs sl h q (a0 :: a1 :: .long x :: gF :: r) st) : G w E al n y mc ms P cs sl h pc (a0 :: a1 :: b0 :: b1 :: r) (.long x :: st) :=
  g_lstore_n hd rfl q hq hb (by
    intro j u hj hu
    have hj' : j = 1 := by omega
    subst hj'
    simp only [List.getElem?_cons_succ, List.getElem?_cons_zero, Option.some.injEq] at hu
    subst hu
    exact hc) rfl k
theorem g_istore3 {a0 a1 a2 b0 : Value} {r : List Value} {x : Int32} (hd : decode y.2.1 pc = .ok (.istore_n 3, 1)) (q : Nat) (hq : pc + 1 = q) (hb : 3 < y.2.2.1) (hc : a2.category = 1) (k : G w E al n y mc ms P cs sl h q (a0 :: a1 :: a2 :: .int x :: r) st) : G w E al n y mc ms P cs sl h pc (a0 :: a1 :: a2 :: b0 :: r) (.int x :: st) :=
  g_istore_n hd rfl q hq hb (by
    intro j u hj hu
    have hj' : j = 2 := by omega
    subst hj'
    simp only [List.getElem?_cons_succ, List.getElem?_cons_zero, Option.some.injEq] at hu
    subst hu
    exact hc) rfl k
theorem g_astore3 {a0 a1 a2 b0 : Value} {r : List Value} {x : Nat} (hd : decode y.2.1 pc = .ok (.astore_n 3, 1)) (q : Nat) (hq : pc + 1 = q) (hb : 3 < y.2.2.1) (hc : a2.category = 1) (k : G w E al n y mc ms P cs sl h q (a0 :: a1 :: a2 :: .ref x :: r) st) : G w E al n y mc ms P cs sl h pc (a0 :: a1 :: a2 :: b0 :: r) (.ref x :: st) :=
  g_astore_n hd rfl q hq hb (by
    intro j u hj hu
    have hj' : j = 2 := by omega
    subst hj'
    simp only [List.getElem?_cons_succ, List.getElem?_cons_zero, Option.some.injEq] at hu
    subst hu
    exact hc) rfl k
theorem g_iinc3 {a0 a1 a2 : Value} {r : List Value} {x : Int32} {d : Int} (hd : decode y.2.1 pc = .ok (.iinc 3 d, 3)) (q : Nat) (hq : pc + 3 = q) (dv : Int32) (hv : Int32.ofInt d = dv) (v : Int32) (hx : x + dv = v) (hb : 3 < y.2.2.1) (hc : a2.category = 1) (k : G w E al n y mc ms P cs sl h q (a0 :: a1 :: a2 :: .int v :: r) st) : G w E al n y mc ms P cs sl h pc (a0 :: a1 :: a2 :: .int x :: r) st :=
  g_iinc hd q hq rfl dv hv hb (by
    intro j u hj hu
    have hj' : j = 2 := by omega
    subst hj'
    simp only [List.getElem?_cons_succ, List.getElem?_cons_zero, Option.some.injEq] at hu
    subst hu
    exact hc) (by subst hx; rfl) k
theorem g_lstore3 {a0 a1 a2 b0 b1 : Value} {r : List Value} {x : Int64} (hd : decode y.2.1 pc = .ok (.lstore_n 3, 1)) (q : Nat) (hq : pc + 1 = q) (hb : 3 + 1 < y.2.2.1) (hc : a2.category = 1) (k : G w E al n y mc ms P cs sl h q (a0 :: a1 :: a2 :: .long x :: gF :: r) st) : G w E al n y mc ms P cs sl h pc (a0 :: a1 :: a2 :: b0 :: b1 :: r) (.long x :: st) :=
  g_lstore_n hd rfl q hq hb (by
    intro j u hj hu
    have hj' : j = 2 := by omega
    subst hj'
    simp only [List.getElem?_cons_succ, List.getElem?_cons_zero, Option.some.injEq] at hu
    subst hu
    exact hc) rfl k
theorem g_istore4 {a0 a1 a2 a3 b0 : Value} {r : List Value} {x : Int32} (hd : decode y.2.1 pc = .ok (.istore 4, 2)) (q : Nat) (hq : pc + 2 = q) (hb : 4 < y.2.2.1) (hc : a3.category = 1) (k : G w E al n y mc ms P cs sl h q (a0 :: a1 :: a2 :: a3 :: .int x :: r) st) : G w E al n y mc ms P cs sl h pc (a0 :: a1 :: a2 :: a3 :: b0 :: r) (.int x :: st) :=
  g_istore hd q hq hb (by
    intro j u hj hu
    have hj' : j = 3 := by omega
    subst hj'
    simp only [List.getElem?_cons_succ, List.getElem?_cons_zero, Option.some.injEq] at hu
    subst hu
    exact hc) rfl k
theorem g_astore4 {a0 a1 a2 a3 b0 : Value} {r : List Value} {x : Nat} (hd : decode y.2.1 pc = .ok (.astore 4, 2)) (q : Nat) (hq : pc + 2 = q) (hb : 4 < y.2.2.1) (hc : a3.category = 1) (k : G w E al n y mc ms P cs sl h q (a0 :: a1 :: a2 :: a3 :: .ref x :: r) st) : G w E al n y mc ms P cs sl h pc (a0 :: a1 :: a2 :: a3 :: b0 :: r) (.ref x :: st) :=
  g_astore hd q hq hb (by
    intro j u hj hu
    have hj' : j = 3 := by omega
    subst hj'
    simp only [List.getElem?_cons_succ, List.getElem?_cons_zero, Option.some.injEq] at hu
    subst hu
    exact hc) rfl k
theorem g_iinc4 {a0 a1 a2 a3 : Value} {r : List Value} {x : Int32} {d : Int} (hd : decode y.2.1 pc = .ok (.iinc 4 d, 3)) (q : Nat) (hq : pc + 3 = q) (dv : Int32) (hv : Int32.ofInt d = dv) (v : Int32) (hx : x + dv = v) (hb : 4 < y.2.2.1) (hc : a3.category = 1) (k : G w E al n y mc ms P cs sl h q (a0 :: a1 :: a2 :: a3 :: .int v :: r) st) : G w E al n y mc ms P cs sl h pc (a0 :: a1 :: a2 :: a3 :: .int x :: r) st :=
  g_iinc hd q hq rfl dv hv hb (by
    intro j u hj hu
    have hj' : j = 3 := by omega
    subst hj'
    simp only [List.getElem?_cons_succ, List.getElem?_cons_zero, Option.some.injEq] at hu
    subst hu
    exact hc) (by subst hx; rfl) k
theorem g_lstore4 {a0 a1 a2 a3 b0 b1 : Value} {r : List Value} {x : Int64} (hd : decode y.2.1 pc = .ok (.lstore 4, 2)) (q : Nat) (hq : pc + 2 = q) (hb : 4 + 1 < y.2.2.1) (hc : a3.category = 1) (k : G w E al n y mc ms P cs sl h q (a0 :: a1 :: a2 :: a3 :: .long x :: gF :: r) st) : G w E al n y mc ms P cs sl h pc (a0 :: a1 :: a2 :: a3 :: b0 :: b1 :: r) (.long x :: st) :=
  g_lstore hd q hq hb (by
    intro j u hj hu
    have hj' : j = 3 := by omega
    subst hj'
    simp only [List.getElem?_cons_succ, List.getElem?_cons_zero, Option.some.injEq] at hu
    subst hu
    exact hc) rfl k
theorem g_istore5 {a0 a1 a2 a3 a4 b0 : Value} {r : List Value} {x : Int32} (hd : decode y.2.1 pc = .ok (.istore 5, 2)) (q : Nat) (hq : pc + 2 = q) (hb : 5 < y.2.2.1) (hc : a4.category = 1) (k : G w E al n y mc ms P cs sl h q (a0 :: a1 :: a2 :: a3 :: a4 :: .int x :: r) st) : G w E al n y mc ms P cs sl h pc (a0 :: a1 :: a2 :: a3 :: a4 :: b0 :: r) (.int x :: st) :=
  g_istore hd q hq hb (by
    intro j u hj hu
    have hj' : j = 4 := by omega
    subst hj'
    simp only [List.getElem?_cons_succ, List.getElem?_cons_zero, Option.some.injEq] at hu
    subst hu
    exact hc) rfl k
theorem g_astore5 {a0 a1 a2 a3 a4 b0 : Value} {r : List Value} {x : Nat} (hd : decode y.2.1 pc = .ok (.astore 5, 2)) (q : Nat) (hq : pc + 2 = q) (hb : 5 < y.2.2.1) (hc : a4.category = 1) (k : G w E al n y mc ms P cs sl h q (a0 :: a1 :: a2 :: a3 :: a4 :: .ref x :: r) st) : G w E al n y mc ms P cs sl h pc (a0 :: a1 :: a2 :: a3 :: a4 :: b0 :: r) (.ref x :: st) :=
  g_astore hd q hq hb (by
    intro j u hj hu
    have hj' : j = 4 := by omega
    subst hj'
    simp only [List.getElem?_cons_succ, List.getElem?_cons_zero, Option.some.injEq] at hu
    subst hu
    exact hc) rfl k
theorem g_iinc5 {a0 a1 a2 a3 a4 : Value} {r : List Value} {x : Int32} {d : Int} (hd : decode y.2.1 pc = .ok (.iinc 5 d, 3)) (q : Nat) (hq : pc + 3 = q) (dv : Int32) (hv : Int32.ofInt d = dv) (v : Int32) (hx : x + dv = v) (hb : 5 < y.2.2.1) (hc : a4.category = 1) (k : G w E al n y mc ms P cs sl h q (a0 :: a1 :: a2 :: a3 :: a4 :: .int v :: r) st) : G w E al n y mc ms P cs sl h pc (a0 :: a1 :: a2 :: a3 :: a4 :: .int x :: r) st :=
  g_iinc hd q hq rfl dv hv hb (by
    intro j u hj hu
    have hj' : j = 4 := by omega
    subst hj'
    simp only [List.getElem?_cons_succ, List.getElem?_cons_zero, Option.some.injEq] at hu
    subst hu
    exact hc) (by subst hx; rfl) k
theorem g_lstore5 {a0 a1 a2 a3 a4 b0 b1 : Value} {r : List Value} {x : Int64} (hd : decode y.2.1 pc = .ok (.lstore 5, 2)) (q : Nat) (hq : pc + 2 = q) (hb : 5 + 1 < y.2.2.1) (hc : a4.category = 1) (k : G w E al n y mc ms P cs sl h q (a0 :: a1 :: a2 :: a3 :: a4 :: .long x :: gF :: r) st) : G w E al n y mc ms P cs sl h pc (a0 :: a1 :: a2 :: a3 :: a4 :: b0 :: b1 :: r) (.long x :: st) :=
  g_lstore hd q hq hb (by
    intro j u hj hu
    have hj' : j = 4 := by omega
    subst hj'
    simp only [List.getElem?_cons_succ, List.getElem?_cons_zero, Option.some.injEq] at hu
    subst hu
    exact hc) rfl k
theorem g_istore6 {a0 a1 a2 a3 a4 a5 b0 : Value} {r : List Value} {x : Int32} (hd : decode y.2.1 pc = .ok (.istore 6, 2)) (q : Nat) (hq : pc + 2 = q) (hb : 6 < y.2.2.1) (hc : a5.category = 1) (k : G w E al n y mc ms P cs sl h q (a0 :: a1 :: a2 :: a3 :: a4 :: a5 :: .int x :: r) st) : G w E al n y mc ms P cs sl h pc (a0 :: a1 :: a2 :: a3 :: a4 :: a5 :: b0 :: r) (.int x :: st) :=
  g_istore hd q hq hb (by
    intro j u hj hu
    have hj' : j = 5 := by omega
    subst hj'
    simp only [List.getElem?_cons_succ, List.getElem?_cons_zero, Option.some.injEq] at hu
    subst hu
    exact hc) rfl k
theorem g_astore6 {a0 a1 a2 a3 a4 a5 b0 : Value} {r : List Value} {x : Nat} (hd : decode y.2.1 pc = .ok (.astore 6, 2)) (q : Nat) (hq : pc + 2 = q) (hb : 6 < y.2.2.1) (hc : a5.category = 1) (k : G w E al n y mc ms P cs sl h q (a0 :: a1 :: a2 :: a3 :: a4 :: a5 :: .ref x :: r) st) : G w E al n y mc ms P cs sl h pc (a0 :: a1 :: a2 :: a3 :: a4 :: a5 :: b0 :: r) (.ref x :: st) :=
  g_astore hd q hq hb (by
    intro j u hj hu
    have hj' : j = 5 := by omega
    subst hj'
    simp only [List.getElem?_cons_succ, List.getElem?_cons_zero, Option.some.injEq] at hu
    subst hu
    exact hc) rfl k
theorem g_iinc6 {a0 a1 a2 a3 a4 a5 : Value} {r : List Value} {x : Int32} {d : Int} (hd : decode y.2.1 pc = .ok (.iinc 6 d, 3)) (q : Nat) (hq : pc + 3 = q) (dv : Int32) (hv : Int32.ofInt d = dv) (v : Int32) (hx : x + dv = v) (hb : 6 < y.2.2.1) (hc : a5.category = 1) (k : G w E al n y mc ms P cs sl h q (a0 :: a1 :: a2 :: a3 :: a4 :: a5 :: .int v :: r) st) : G w E al n y mc ms P cs sl h pc (a0 :: a1 :: a2 :: a3 :: a4 :: a5 :: .int x :: r) st :=
  g_iinc hd q hq rfl dv hv hb (by
    intro j u hj hu
    have hj' : j = 5 := by omega
    subst hj'
    simp only [List.getElem?_cons_succ, List.getElem?_cons_zero, Option.some.injEq] at hu
    subst hu
    exact hc) (by subst hx; rfl) k
theorem g_lstore6 {a0 a1 a2 a3 a4 a5 b0 b1 : Value} {r : List Value} {x : Int64} (hd : decode y.2.1 pc = .ok (.lstore 6, 2)) (q : Nat) (hq : pc + 2 = q) (hb : 6 + 1 < y.2.2.1) (hc : a5.category = 1) (k : G w E al n y mc ms P cs sl h q (a0 :: a1 :: a2 :: a3 :: a4 :: a5 :: .long x :: gF :: r) st) : G w E al n y mc ms P cs sl h pc (a0 :: a1 :: a2 :: a3 :: a4 :: a5 :: b0 :: b1 :: r) (.long x :: st) :=
  g_lstore hd q hq hb (by
    intro j u hj hu
    have hj' : j = 5 := by omega
    subst hj'
    simp only [List.getElem?_cons_succ, List.getElem?_cons_zero, Option.some.injEq] at hu
    subst hu
    exact hc) rfl k
theorem g_istore7 {a0 a1 a2 a3 a4 a5 a6 b0 : Value} {r : List Value} {x : Int32} (hd : decode y.2.1 pc = .ok (.istore 7, 2)) (q : Nat) (hq : pc + 2 = q) (hb : 7 < y.2.2.1) (hc : a6.category = 1) (k : G w E al n y mc ms P cs sl h q (a0 :: a1 :: a2 :: a3 :: a4 :: a5 :: a6 :: .int x :: r) st) : G w E al n y mc ms P cs sl h pc (a0 :: a1 :: a2 :: a3 :: a4 :: a5 :: a6 :: b0 :: r) (.int x :: st) :=
  g_istore hd q hq hb (by
    intro j u hj hu
    have hj' : j = 6 := by omega
    subst hj'
    simp only [List.getElem?_cons_succ, List.getElem?_cons_zero, Option.some.injEq] at hu
    subst hu
    exact hc) rfl k
theorem g_astore7 {a0 a1 a2 a3 a4 a5 a6 b0 : Value} {r : List Value} {x : Nat} (hd : decode y.2.1 pc = .ok (.astore 7, 2)) (q : Nat) (hq : pc + 2 = q) (hb : 7 < y.2.2.1) (hc : a6.category = 1) (k : G w E al n y mc ms P cs sl h q (a0 :: a1 :: a2 :: a3 :: a4 :: a5 :: a6 :: .ref x :: r) st) : G w E al n y mc ms P cs sl h pc (a0 :: a1 :: a2 :: a3 :: a4 :: a5 :: a6 :: b0 :: r) (.ref x :: st) :=
  g_astore hd q hq hb (by
    intro j u hj hu
    have hj' : j = 6 := by omega
    subst hj'
    simp only [List.getElem?_cons_succ, List.getElem?_cons_zero, Option.some.injEq] at hu
    subst hu
    exact hc) rfl k
theorem g_iinc7 {a0 a1 a2 a3 a4 a5 a6 : Value} {r : List Value} {x : Int32} {d : Int} (hd : decode y.2.1 pc = .ok (.iinc 7 d, 3)) (q : Nat) (hq : pc + 3 = q) (dv : Int32) (hv : Int32.ofInt d = dv) (v : Int32) (hx : x + dv = v) (hb : 7 < y.2.2.1) (hc : a6.category = 1) (k : G w E al n y mc ms P cs sl h q (a0 :: a1 :: a2 :: a3 :: a4 :: a5 :: a6 :: .int v :: r) st) : G w E al n y mc ms P cs sl h pc (a0 :: a1 :: a2 :: a3 :: a4 :: a5 :: a6 :: .int x :: r) st :=
  g_iinc hd q hq rfl dv hv hb (by
    intro j u hj hu
    have hj' : j = 6 := by omega
    subst hj'
    simp only [List.getElem?_cons_succ, List.getElem?_cons_zero, Option.some.injEq] at hu
    subst hu
    exact hc) (by subst hx; rfl) k
theorem g_lstore7 {a0 a1 a2 a3 a4 a5 a6 b0 b1 : Value} {r : List Value} {x : Int64} (hd : decode y.2.1 pc = .ok (.lstore 7, 2)) (q : Nat) (hq : pc + 2 = q) (hb : 7 + 1 < y.2.2.1) (hc : a6.category = 1) (k : G w E al n y mc ms P cs sl h q (a0 :: a1 :: a2 :: a3 :: a4 :: a5 :: a6 :: .long x :: gF :: r) st) : G w E al n y mc ms P cs sl h pc (a0 :: a1 :: a2 :: a3 :: a4 :: a5 :: a6 :: b0 :: b1 :: r) (.long x :: st) :=
  g_lstore hd q hq hb (by
    intro j u hj hu
    have hj' : j = 6 := by omega
    subst hj'
    simp only [List.getElem?_cons_succ, List.getElem?_cons_zero, Option.some.injEq] at hu
    subst hu
    exact hc) rfl k
theorem g_istore8 {a0 a1 a2 a3 a4 a5 a6 a7 b0 : Value} {r : List Value} {x : Int32} (hd : decode y.2.1 pc = .ok (.istore 8, 2)) (q : Nat) (hq : pc + 2 = q) (hb : 8 < y.2.2.1) (hc : a7.category = 1) (k : G w E al n y mc ms P cs sl h q (a0 :: a1 :: a2 :: a3 :: a4 :: a5 :: a6 :: a7 :: .int x :: r) st) : G w E al n y mc ms P cs sl h pc (a0 :: a1 :: a2 :: a3 :: a4 :: a5 :: a6 :: a7 :: b0 :: r) (.int x :: st) :=
  g_istore hd q hq hb (by
    intro j u hj hu
    have hj' : j = 7 := by omega
    subst hj'
    simp only [List.getElem?_cons_succ, List.getElem?_cons_zero, Option.some.injEq] at hu
    subst hu
    exact hc) rfl k
theorem g_astore8 {a0 a1 a2 a3 a4 a5 a6 a7 b0 : Value} {r : List Value} {x : Nat} (hd : decode y.2.1 pc = .ok (.astore 8, 2)) (q : Nat) (hq : pc + 2 = q) (hb : 8 < y.2.2.1) (hc : a7.category = 1) (k : G w E al n y mc ms P cs sl h q (a0 :: a1 :: a2 :: a3 :: a4 :: a5 :: a6 :: a7 :: .ref x :: r) st) : G w E al n y mc ms P cs sl h pc (a0 :: a1 :: a2 :: a3 :: a4 :: a5 :: a6 :: a7 :: b0 :: r) (.ref x :: st) :=
  g_astore hd q hq hb (by
    intro j u hj hu
    have hj' : j = 7 := by omega
    subst hj'
    simp only [List.getElem?_cons_succ, List.getElem?_cons_zero, Option.some.injEq] at hu
    subst hu
    exact hc) rfl k
theorem g_iinc8 {a0 a1 a2 a3 a4 a5 a6 a7 : Value} {r : List Value} {x : Int32} {d : Int} (hd : decode y.2.1 pc = .ok (.iinc 8 d, 3)) (q : Nat) (hq : pc + 3 = q) (dv : Int32) (hv : Int32.ofInt d = dv) (v : Int32) (hx : x + dv = v) (hb : 8 < y.2.2.1) (hc : a7.category = 1) (k : G w E al n y mc ms P cs sl h q (a0 :: a1 :: a2 :: a3 :: a4 :: a5 :: a6 :: a7 :: .int v :: r) st) : G w E al n y mc ms P cs sl h pc (a0 :: a1 :: a2 :: a3 :: a4 :: a5 :: a6 :: a7 :: .int x :: r) st :=
  g_iinc hd q hq rfl dv hv hb (by
    intro j u hj hu
    have hj' : j = 7 := by omega
    subst hj'
    simp only [List.getElem?_cons_succ, List.getElem?_cons_zero, Option.some.injEq] at hu
    subst hu
    exact hc) (by subst hx; rfl) k
theorem g_lstore8 {a0 a1 a2 a3 a4 a5 a6 a7 b0 b1 : Value} {r : List Value} {x : Int64} (hd : decode y.2.1 pc = .ok (.lstore 8, 2)) (q : Nat) (hq : pc + 2 = q) (hb : 8 + 1 < y.2.2.1) (hc : a7.category = 1) (k : G w E al n y mc ms P cs sl h q (a0 :: a1 :: a2 :: a3 :: a4 :: a5 :: a6 :: a7 :: .long x :: gF :: r) st) : G w E al n y mc ms P cs sl h pc (a0 :: a1 :: a2 :: a3 :: a4 :: a5 :: a6 :: a7 :: b0 :: b1 :: r) (.long x :: st) :=
  g_lstore hd q hq hb (by
    intro j u hj hu
    have hj' : j = 7 := by omega
    subst hj'
    simp only [List.getElem?_cons_succ, List.getElem?_cons_zero, Option.some.injEq] at hu
    subst hu
    exact hc) rfl k
theorem g_istore9 {a0 a1 a2 a3 a4 a5 a6 a7 a8 b0 : Value} {r : List Value} {x : Int32} (hd : decode y.2.1 pc = .ok (.istore 9, 2)) (q : Nat) (hq : pc + 2 = q) (hb : 9 < y.2.2.1) (hc : a8.category = 1) (k : G w E al n y mc ms P cs sl h q (a0 :: a1 :: a2 :: a3 :: a4 :: a5 :: a6 :: a7 :: a8 :: .int x :: r) st) : G w E al n y mc ms P cs sl h pc (a0 :: a1 :: a2 :: a3 :: a4 :: a5 :: a6 :: a7 :: a8 :: b0 :: r) (.int x :: st) :=
  g_istore hd q hq hb (by
    intro j u hj hu
    have hj' : j = 8 := by omega
    subst hj'
    simp only [List.getElem?_cons_succ, List.getElem?_cons_zero, Option.some.injEq] at hu
    subst hu
    exact hc) rfl k
theorem g_astore9 {a0 a1 a2 a3 a4 a5 a6 a7 a8 b0 : Value} {r : List Value} {x : Nat} (hd : decode y.2.1 pc = .ok (.astore 9, 2)) (q : Nat) (hq : pc + 2 = q) (hb : 9 < y.2.2.1) (hc : a8.category = 1) (k : G w E al n y mc ms P cs sl h q (a0 :: a1 :: a2 :: a3 :: a4 :: a5 :: a6 :: a7 :: a8 :: .ref x :: r) st) : G w E al n y mc ms P cs sl h pc (a0 :: a1 :: a2 :: a3 :: a4 :: a5 :: a6 :: a7 :: a8 :: b0 :: r) (.ref x :: st) :=
  g_astore hd q hq hb (by
    intro j u hj hu
    have hj' : j = 8 := by omega
    subst hj'
    simp only [List.getElem?_cons_succ, List.getElem?_cons_zero, Option.some.injEq] at hu
    subst hu
    exact hc) rfl k
theorem g_iinc9 {a0 a1 a2 a3 a4 a5 a6 a7 a8 : Value} {r : List Value} {x : Int32} {d : Int} (hd : decode y.2.1 pc = .ok (.iinc 9 d, 3)) (q : Nat) (hq : pc + 3 = q) (dv : Int32) (hv : Int32.ofInt d = dv) (v : Int32) (hx : x + dv = v) (hb : 9 < y.2.2.1) (hc : a8.category = 1) (k : G w E al n y mc ms P cs sl h q (a0 :: a1 :: a2 :: a3 :: a4 :: a5 :: a6 :: a7 :: a8 :: .int v :: r) st) : G w E al n y mc ms P cs sl h pc (a0 :: a1 :: a2 :: a3 :: a4 :: a5 :: a6 :: a7 :: a8 :: .int x :: r) st :=
  g_iinc hd q hq rfl dv hv hb (by
    intro j u hj hu
    have hj' : j = 8 := by omega
    subst hj'
    simp only [List.getElem?_cons_succ, List.getElem?_cons_zero, Option.some.injEq] at hu
    subst hu
    exact hc) (by subst hx; rfl) k
theorem g_lstore9 {a0 a1 a2 a3 a4 a5 a6 a7 a8 b0 b1 : Value} {r : List Value} {x : Int64} (hd : decode y.2.1 pc = .ok (.lstore 9, 2)) (q : Nat) (hq : pc + 2 = q) (hb : 9 + 1 < y.2.2.1) (hc : a8.category = 1) (k : G w E al n y mc ms P cs sl h q (a0 :: a1 :: a2 :: a3 :: a4 :: a5 :: a6 :: a7 :: a8 :: .long x :: gF :: r) st) : G w E al n y mc ms P cs sl h pc (a0 :: a1 :: a2 :: a3 :: a4 :: a5 :: a6 :: a7 :: a8 :: b0 :: b1 :: r) (.long x :: st) :=
  g_lstore hd q hq hb (by
    intro j u hj hu
    have hj' : j = 8 := by omega
    subst hj'
    simp only [List.getElem?_cons_succ, List.getElem?_cons_zero, Option.some.injEq] at hu
    subst hu
    exact hc) rfl k
theorem g_istore10 {a0 a1 a2 a3 a4 a5 a6 a7 a8 a9 b0 : Value} {r : List Value} {x : Int32} (hd : decode y.2.1 pc = .ok (.istore 10, 2)) (q : Nat) (hq : pc + 2 = q) (hb : 10 < y.2.2.1) (hc : a9.category = 1) (k : G w E al n y mc ms P cs sl h q (a0 :: a1 :: a2 :: a3 :: a4 :: a5 :: a6 :: a7 :: a8 :: a9 :: .int x :: r) st) : G w E al n y mc ms P cs sl h pc (a0 :: a1 :: a2 :: a3 :: a4 :: a5 :: a6 :: a7 :: a8 :: a9 :: b0 :: r) (.int x :: st) :=
  g_istore hd q hq hb (by
    intro j u hj hu
    have hj' : j = 9 := by omega
    subst hj'
    simp only [List.getElem?_cons_succ, List.getElem?_cons_zero, Option.some.injEq] at hu
    subst hu
    exact hc) rfl k
theorem g_astore10 {a0 a1 a2 a3 a4 a5 a6 a7 a8 a9 b0 : Value} {r : List Value} {x : Nat} (hd : decode y.2.1 pc = .ok (.astore 10, 2)) (q : Nat) (hq : pc + 2 = q) (hb : 10 < y.2.2.1) (hc : a9.category = 1) (k : G w E al n y mc ms P cs sl h q (a0 :: a1 :: a2 :: a3 :: a4 :: a5 :: a6 :: a7 :: a8 :: a9 :: .ref x :: r) st) : G w E al n y mc ms P cs sl h pc (a0 :: a1 :: a2 :: a3 :: a4 :: a5 :: a6 :: a7 :: a8 :: a9 :: b0 :: r) (.ref x :: st) :=
  g_astore hd q hq hb (by
    intro j u hj hu
    have hj' : j = 9 := by omega
    subst hj'
    simp only [List.getElem?_cons_succ, List.getElem?_cons_zero, Option.some.injEq] at hu
    subst hu
    exact hc) rfl k
theorem g_iinc10 {a0 a1 a2 a3 a4 a5 a6 a7 a8 a9 : Value} {r : List Value} {x : Int32} {d : Int} (hd : decode y.2.1 pc = .ok (.iinc 10 d, 3)) (q : Nat) (hq : pc + 3 = q) (dv : Int32) (hv : Int32.ofInt d = dv) (v : Int32) (hx : x + dv = v) (hb : 10 < y.2.2.1) (hc : a9.category = 1) (k : G w E al n y mc ms P cs sl h q (a0 :: a1 :: a2 :: a3 :: a4 :: a5 :: a6 :: a7 :: a8 :: a9 :: .int v :: r) st) : G w E al n y mc ms P cs sl h pc (a0 :: a1 :: a2 :: a3 :: a4 :: a5 :: a6 :: a7 :: a8 :: a9 :: .int x :: r) st :=
  g_iinc hd q hq rfl dv hv hb (by
    intro j u hj hu
    have hj' : j = 9 := by omega
    subst hj'
    simp only [List.getElem?_cons_succ, List.getElem?_cons_zero, Option.some.injEq] at hu
    subst hu
    exact hc) (by subst hx; rfl) k
theorem g_lstore10 {a0 a1 a2 a3 a4 a5 a6 a7 a8 a9 b0 b1 : Value} {r : List Value} {x : Int64} (hd : decode y.2.1 pc = .ok (.lstore 10, 2)) (q : Nat) (hq : pc + 2 = q) (hb : 10 + 1 < y.2.2.1) (hc : a9.category = 1) (k : G w E al n y mc ms P cs sl h q (a0 :: a1 :: a2 :: a3 :: a4 :: a5 :: a6 :: a7 :: a8 :: a9 :: .long x :: gF :: r) st) : G w E al n y mc ms P cs sl h pc (a0 :: a1 :: a2 :: a3 :: a4 :: a5 :: a6 :: a7 :: a8 :: a9 :: b0 :: b1 :: r) (.long x :: st) :=
  g_lstore hd q hq hb (by
    intro j u hj hu
    have hj' : j = 9 := by omega
    subst hj'
    simp only [List.getElem?_cons_succ, List.getElem?_cons_zero, Option.some.injEq] at hu
    subst hu
    exact hc) rfl k
theorem g_istore11 {a0 a1 a2 a3 a4 a5 a6 a7 a8 a9 a10 b0 : Value} {r : List Value} {x : Int32} (hd : decode y.2.1 pc = .ok (.istore 11, 2)) (q : Nat) (hq : pc + 2 = q) (hb : 11 < y.2.2.1) (hc : a10.category = 1) (k : G w E al n y mc ms P cs sl h q (a0 :: a1 :: a2 :: a3 :: a4 :: a5 :: a6 :: a7 :: a8 :: a9 :: a10 :: .int x :: r) st) : G w E al n y mc ms P cs sl h pc (a0 :: a1 :: a2 :: a3 :: a4 :: a5 :: a6 :: a7 :: a8 :: a9 :: a10 :: b0 :: r) (.int x :: st) :=
  g_istore hd q hq hb (by
    intro j u hj hu
    have hj' : j = 10 := by omega
    subst hj'
    simp only [List.getElem?_cons_succ, List.getElem?_cons_zero, Option.some.injEq] at hu
    subst hu
    exact hc) rfl k
theorem g_astore11 {a0 a1 a2 a3 a4 a5 a6 a7 a8 a9 a10 b0 : Value} {r : List Value} {x : Nat} (hd : decode y.2.1 pc = .ok (.astore 11, 2)) (q : Nat) (hq : pc + 2 = q) (hb : 11 < y.2.2.1) (hc : a10.category = 1) (k : G w E al n y mc ms P cs sl h q (a0 :: a1 :: a2 :: a3 :: a4 :: a5 :: a6 :: a7 :: a8 :: a9 :: a10 :: .ref x :: r) st) : G w E al n y mc ms P cs sl h pc (a0 :: a1 :: a2 :: a3 :: a4 :: a5 :: a6 :: a7 :: a8 :: a9 :: a10 :: b0 :: r) (.ref x :: st) :=
  g_astore hd q hq hb (by
    intro j u hj hu
    have hj' : j = 10 := by omega
    subst hj'
    simp only [List.getElem?_cons_succ, List.getElem?_cons_zero, Option.some.injEq] at hu
    subst hu
    exact hc) rfl k
theorem g_iinc11 {a0 a1 a2 a3 a4 a5 a6 a7 a8 a9 a10 : Value} {r : List Value} {x : Int32} {d : Int} (hd : decode y.2.1 pc = .ok (.iinc 11 d, 3)) (q : Nat) (hq : pc + 3 = q) (dv : Int32) (hv : Int32.ofInt d = dv) (v : Int32) (hx : x + dv = v) (hb : 11 < y.2.2.1) (hc : a10.category = 1) (k : G w E al n y mc ms P cs sl h q (a0 :: a1 :: a2 :: a3 :: a4 :: a5 :: a6 :: a7 :: a8 :: a9 :: a10 :: .int v :: r) st) : G w E al n y mc ms P cs sl h pc (a0 :: a1 :: a2 :: a3 :: a4 :: a5 :: a6 :: a7 :: a8 :: a9 :: a10 :: .int x :: r) st :=
  g_iinc hd q hq rfl dv hv hb (by
    intro j u hj hu
    have hj' : j = 10 := by omega
    subst hj'
    simp only [List.getElem?_cons_succ, List.getElem?_cons_zero, Option.some.injEq] at hu
    subst hu
    exact hc) (by subst hx; rfl) k
theorem g_lstore11 {a0 a1 a2 a3 a4 a5 a6 a7 a8 a9 a10 b0 b1 : Value} {r : List Value} {x : Int64} (hd : decode y.2.1 pc = .ok (.lstore 11, 2)) (q : Nat) (hq : pc + 2 = q) (hb : 11 + 1 < y.2.2.1) (hc : a10.category = 1) (k : G w E al n y mc ms P cs sl h q (a0 :: a1 :: a2 :: a3 :: a4 :: a5 :: a6 :: a7 :: a8 :: a9 :: a10 :: .long x :: gF :: r) st) : G w E al n y mc ms P cs sl h pc (a0 :: a1 :: a2 :: a3 :: a4 :: a5 :: a6 :: a7 :: a8 :: a9 :: a10 :: b0 :: b1 :: r) (.long x :: st) :=
  g_lstore hd q hq hb (by
    intro j u hj hu
    have hj' : j = 10 := by omega
    subst hj'
    simp only [List.getElem?_cons_succ, List.getElem?_cons_zero, Option.some.injEq] at hu
    subst hu
    exact hc) rfl k
theorem g_istore12 {a0 a1 a2 a3 a4 a5 a6 a7 a8 a9 a10 a11 b0 : Value} {r : List Value} {x : Int32} (hd : decode y.2.1 pc = .ok (.istore 12, 2)) (q : Nat) (hq : pc + 2 = q) (hb : 12 < y.2.2.1) (hc : a11.category = 1) (k : G w E al n y mc ms P cs sl h q (a0 :: a1 :: a2 :: a3 :: a4 :: a5 :: a6 :: a7 :: a8 :: a9 :: a10 :: a11 :: .int x :: r) st) : G w E al n y mc ms P cs sl h pc (a0 :: a1 :: a2 :: a3 :: a4 :: a5 :: a6 :: a7 :: a8 :: a9 :: a10 :: a11 :: b0 :: r) (.int x :: st) :=
  g_istore hd q hq hb (by
    intro j u hj hu
    have hj' : j = 11 := by omega
    subst hj'
    simp only [List.getElem?_cons_succ, List.getElem?_cons_zero, Option.some.injEq] at hu
    subst hu
    exact hc) rfl k
theorem g_astore12 {a0 a1 a2 a3 a4 a5 a6 a7 a8 a9 a10 a11 b0 : Value} {r : List Value} {x : Nat} (hd : decode y.2.1 pc = .ok (.astore 12, 2)) (q : Nat) (hq : pc + 2 = q) (hb : 12 < y.2.2.1) (hc : a11.category = 1) (k : G w E al n y mc ms P cs sl h q (a0 :: a1 :: a2 :: a3 :: a4 :: a5 :: a6 :: a7 :: a8 :: a9 :: a10 :: a11 :: .ref x :: r) st) : G w E al n y mc ms P cs sl h pc (a0 :: a1 :: a2 :: a3 :: a4 :: a5 :: a6 :: a7 :: a8 :: a9 :: a10 :: a11 :: b0 :: r) (.ref x :: st) :=
  g_astore hd q hq hb (by
    intro j u hj hu
    have hj' : j = 11 := by omega
    subst hj'
    simp only [List.getElem?_cons_succ, List.getElem?_cons_zero, Option.some.injEq] at hu
    subst hu
    exact hc) rfl k
theorem g_iinc12 {a0 a1 a2 a3 a4 a5 a6 a7 a8 a9 a10 a11 : Value} {r : List Value} {x : Int32} {d : Int} (hd : decode y.2.1 pc = .ok (.iinc 12 d, 3)) (q : Nat) (hq : pc + 3 = q) (dv : Int32) (hv : Int32.ofInt d = dv) (v : Int32) (hx : x + dv = v) (hb : 12 < y.2.2.1) (hc : a11.category = 1) (k : G w E al n y mc ms P cs sl h q (a0 :: a1 :: a2 :: a3 :: a4 :: a5 :: a6 :: a7 :: a8 :: a9 :: a10 :: a11 :: .int v :: r) st) : G w E al n y mc ms P cs sl h pc (a0 :: a1 :: a2 :: a3 :: a4 :: a5 :: a6 :: a7 :: a8 :: a9 :: a10 :: a11 :: .int x :: r) st :=
  g_iinc hd q hq rfl dv hv hb (by
    intro j u hj hu
    have hj' : j = 11 := by omega
    subst hj'
    simp only [List.getElem?_cons_succ, List.getElem?_cons_zero, Option.some.injEq] at hu
    subst hu
    exact hc) (by subst hx; rfl) k
theorem g_lstore12 {a0 a1 a2 a3 a4 a5 a6 a7 a8 a9 a10 a11 b0 b1 : Value} {r : List Value} {x : Int64} (hd : decode y.2.1 pc = .ok (.lstore 12, 2)) (q : Nat) (hq : pc + 2 = q) (hb : 12 + 1 < y.2.2.1) (hc : a11.category = 1) (k : G w E al n y mc ms P cs sl h q (a0 :: a1 :: a2 :: a3 :: a4 :: a5 :: a6 :: a7 :: a8 :: a9 :: a10 :: a11 :: .long x :: gF :: r) st) : G w E al n y mc ms P cs sl h pc (a0 :: a1 :: a2 :: a3 :: a4 :: a5 :: a6 :: a7 :: a8 :: a9 :: a10 :: a11 :: b0 :: b1 :: r) (.long x :: st) :=
  g_lstore hd q hq hb (by
    intro j u hj hu
    have hj' : j = 11 := by omega
    subst hj'
    simp only [List.getElem?_cons_succ, List.getElem?_cons_zero, Option.some.injEq] at hu
    subst hu
    exact hc) rfl k
theorem g_istore13 {a0 a1 a2 a3 a4 a5 a6 a7 a8 a9 a10 a11 a12 b0 : Value} {r : List Value} {x : Int32} (hd : decode y.2.1 pc = .ok (.istore 13, 2)) (q : Nat) (hq : pc + 2 = q) (hb : 13 < y.2.2.1) (hc : a12.category = 1) (k : G w E al n y mc ms P cs sl h q (a0 :: a1 :: a2 :: a3 :: a4 :: a5 :: a6 :: a7 :: a8 :: a9 :: a10 :: a11 :: a12 :: .int x :: r) st) : G w E al n y mc ms P cs sl h pc (a0 :: a1 :: a2 :: a3 :: a4 :: a5 :: a6 :: a7 :: a8 :: a9 :: a10 :: a11 :: a12 :: b0 :: r) (.int x :: st) :=
  g_istore hd q hq hb (by
    intro j u hj hu
    have hj' : j = 12 := by omega
    subst hj'
    simp only [List.getElem?_cons_succ, List.getElem?_cons_zero, Option.some.injEq] at hu
    subst hu
    exact hc) rfl k
theorem g_astore13 {a0 a1 a2 a3 a4 a5 a6 a7 a8 a9 a10 a11 a12 b0 : Value} {r : List Value} {x : Nat} (hd : decode y.2.1 pc = .ok (.astore 13, 2)) (q : Nat) (hq : pc + 2 = q) (hb : 13 < y.2.2.1) (hc : a12.category = 1) (k : G w E al n y mc ms P cs sl h q (a0 :: a1 :: a2 :: a3 :: a4 :: a5 :: a6 :: a7 :: a8 :: a9 :: a10 :: a11 :: a12 :: .ref x :: r) st) : G w E al n y mc ms P cs sl h pc (a0 :: a1 :: a2 :: a3 :: a4 :: a5 :: a6 :: a7 :: a8 :: a9 :: a10 :: a11 :: a12 :: b0 :: r) (.ref x :: st) :=
  g_astore hd q hq hb (by
    intro j u hj hu
    have hj' : j = 12 := by omega
    subst hj'
    simp only [List.getElem?_cons_succ, List.getElem?_cons_zero, Option.some.injEq] at hu
    subst hu
    exact hc) rfl k
theorem g_iinc13 {a0 a1 a2 a3 a4 a5 a6 a7 a8 a9 a10 a11 a12 : Value} {r : List Value} {x : Int32} {d : Int} (hd : decode y.2.1 pc = .ok (.iinc 13 d, 3)) (q : Nat) (hq : pc + 3 = q) (dv : Int32) (hv : Int32.ofInt d = dv) (v : Int32) (hx : x + dv = v) (hb : 13 < y.2.2.1) (hc : a12.category = 1) (k : G w E al n y mc ms P cs sl h q (a0 :: a1 :: a2 :: a3 :: a4 :: a5 :: a6 :: a7 :: a8 :: a9 :: a10 :: a11 :: a12 :: .int v :: r) st) : G w E al n y mc ms P cs sl h pc (a0 :: a1 :: a2 :: a3 :: a4 :: a5 :: a6 :: a7 :: a8 :: a9 :: a10 :: a11 :: a12 :: .int x :: r) st :=
  g_iinc hd q hq rfl dv hv hb (by
    intro j u hj hu
    have hj' : j = 12 := by omega
    subst hj'
    simp only [List.getElem?_cons_succ, List.getElem?_cons_zero, Option.some.injEq] at hu
    subst hu
    exact hc) (by subst hx; rfl) k
theorem g_lstore13 {a0 a1 a2 a3 a4 a5 a6 a7 a8 a9 a10 a11 a12 b0 b1 : Value} {r : List Value} {x : Int64} (hd : decode y.2.1 pc = .ok (.lstore 13, 2)) (q : Nat) (hq : pc + 2 = q) (hb : 13 + 1 < y.2.2.1) (hc : a12.category = 1) (k : G w E al n y mc ms P cs sl h q (a0 :: a1 :: a2 :: a3 :: a4 :: a5 :: a6 :: a7 :: a8 :: a9 :: a10 :: a11 :: a12 :: .long x :: gF :: r) st) : G w E al n y mc ms P cs sl h pc (a0 :: a1 :: a2 :: a3 :: a4 :: a5 :: a6 :: a7 :: a8 :: a9 :: a10 :: a11 :: a12 :: b0 :: b1 :: r) (.long x :: st) :=
  g_lstore hd q hq hb (by
    intro j u hj hu
    have hj' : j = 12 := by omega
    subst hj'
    simp only [List.getElem?_cons_succ, List.getElem?_cons_zero, Option.some.injEq] at hu
    subst hu
    exact hc) rfl k
theorem g_if_eq {x : Int32} {off : Int} (hd : decode y.2.1 pc = .ok (.ifCond .eq off, 3)) (tgt : Nat) (ht : (pc : Int) + off = (tgt : Int)) (q : Nat) (hq : pc + 3 = q) (kt : (x = 0) → G w E al n y mc ms P cs sl h tgt L st) (kf : ¬ (x = 0) → G w E al n y mc ms P cs sl h q L st) : G w E al n y mc ms P cs sl h pc L (.int x :: st) := by
  subst hq
  intro p e s m args below meth c C H locs ls X1 X2 X3
  exact lv_if_eq C.1 C.2.1 hd ht (fun z => kt z p e s m args below meth c C H locs ls X1 X2 X3) (fun z => kf z p e s m args below meth c C H locs ls X1 X2 X3)
theorem g_icmp_eq {x z : Int32} {off : Int} (hd : decode y.2.1 pc = .ok (.if_icmp .eq off, 3)) (tgt : Nat) (ht : (pc : Int) + off = (tgt : Int)) (q : Nat) (hq : pc + 3 = q) (kt : (x = z) → G w E al n y mc ms P cs sl h tgt L st) (kf : ¬ (x = z) → G w E al n y mc ms P cs sl h q L st) : G w E al n y mc ms P cs sl h pc L (.int z :: .int x :: st) := by
  subst hq
  intro p e s m args below meth c C H locs ls X1 X2 X3
  exact lv_icmp_eq C.1 C.2.1 hd ht (fun z => kt z p e s m args below meth c C H locs ls X1 X2 X3) (fun z => kf z p e s m args below meth c C H locs ls X1 X2 X3)
theorem g_if_ne {x : Int32} {off : Int} (hd : decode y.2.1 pc = .ok (.ifCond .ne off, 3)) (tgt : Nat) (ht : (pc : Int) + off = (tgt : Int)) (q : Nat) (hq : pc + 3 = q) (kt : (¬ x = 0) → G w E al n y mc ms P cs sl h tgt L st) (kf : x = 0 → G w E al n y mc ms P cs sl h q L st) : G w E al n y mc ms P cs sl h pc L (.int x :: st) := by
  subst hq
  intro p e s m args below meth c C H locs ls X1 X2 X3
  exact lv_if_ne C.1 C.2.1 hd ht (fun z => kt z p e s m args below meth c C H locs ls X1 X2 X3) (fun z => kf z p e s m args below meth c C H locs ls X1 X2 X3)
theorem g_icmp_ne {x z : Int32} {off : Int} (hd : decode y.2.1 pc = .ok (.if_icmp .ne off, 3)) (tgt : Nat) (ht : (pc : Int) + off = (tgt : Int)) (q : Nat) (hq : pc + 3 = q) (kt : (¬ x = z) → G w E al n y mc ms P cs sl h tgt L st) (kf : x = z → G w E al n y mc ms P cs sl h q L st) : G w E al n y mc ms P cs sl h pc L (.int z :: .int x :: st) := by
  subst hq
  intro p e s m args below meth c C H locs ls X1 X2 X3
  exact lv_icmp_ne C.1 C.2.1 hd ht (fun z => kt z p e s m args below meth c C H locs ls X1 X2 X3) (fun z => kf z p e s m args below meth c C H locs ls X1 X2 X3)
theorem g_if_lt {x : Int32} {off : Int} (hd : decode y.2.1 pc = .ok (.ifCond .lt off, 3)) (tgt : Nat) (ht : (pc : Int) + off = (tgt : Int)) (q : Nat) (hq : pc + 3 = q) (kt : (x < 0) → G w E al n y mc ms P cs sl h tgt L st) (kf : ¬ (x < 0) → G w E al n y mc ms P cs sl h q L st) : G w E al n y mc ms P cs sl h pc L (.int x :: st) := by
  subst hq
  intro p e s m args below meth c C H locs ls X1 X2 X3
  exact lv_if_lt C.1 C.2.1 hd ht (fun z => kt z p e s m args below meth c C H locs ls X1 X2 X3) (fun z => kf z p e s m args below meth c C H locs ls X1 X2 X3)
theorem g_icmp_lt {x z : Int32} {off : Int} (hd : decode y.2.1 pc = .ok (.if_icmp .lt off, 3)) (tgt : Nat) (ht : (pc : Int) + off = (tgt : Int)) (q : Nat) (hq : pc + 3 = q) (kt : (x < z) → G w E al n y mc ms P cs sl h tgt L st) (kf : ¬ (x < z) → G w E al n y mc ms P cs sl h q L st) : G w E al n y mc ms P cs sl h pc L (.int z :: .int x :: st) := by
  subst hq
  intro p e s m args below meth c C H locs ls X1 X2 X3
  exact lv_icmp_lt C.1 C.2.1 hd ht (fun z => kt z p e s m args below meth c C H locs ls X1 X2 X3) (fun z => kf z p e s m args below meth c C H locs ls X1 X2 X3)
theorem g_if_ge {x : Int32} {off : Int} (hd : decode y.2.1 pc = .ok (.ifCond .ge off, 3)) (tgt : Nat) (ht : (pc : Int) + off = (tgt : Int)) (q : Nat) (hq : pc + 3 = q) (kt : (0 ≤ x) → G w E al n y mc ms P cs sl h tgt L st) (kf : ¬ (0 ≤ x) → G w E al n y mc ms P cs sl h q L st) : G w E al n y mc ms P cs sl h pc L (.int x :: st) := by
  subst hq
  intro p e s m args below meth c C H locs ls X1 X2 X3
  exact lv_if_ge C.1 C.2.1 hd ht (fun z => kt z p e s m args below meth c C H locs ls X1 X2 X3) (fun z => kf z p e s m args below meth c C H locs ls X1 X2 X3)
theorem g_icmp_ge {x z : Int32} {off : Int} (hd : decode y.2.1 pc = .ok (.if_icmp .ge off, 3)) (tgt : Nat) (ht : (pc : Int) + off = (tgt : Int)) (q : Nat) (hq : pc + 3 = q) (kt : (z ≤ x) → G w E al n y mc ms P cs sl h tgt L st) (kf : ¬ (z ≤ x) → G w E al n y mc ms P cs sl h q L st) : G w E al n y mc ms P cs sl h pc L (.int z :: .int x :: st) := by
  subst hq
  intro p e s m args below meth c C H locs ls X1 X2 X3
  exact lv_icmp_ge C.1 C.2.1 hd ht (fun z => kt z p e s m args below meth c C H locs ls X1 X2 X3) (fun z => kf z p e s m args below meth c C H locs ls X1 X2 X3)
theorem g_if_gt {x : Int32} {off : Int} (hd : decode y.2.1 pc = .ok (.ifCond .gt off, 3)) (tgt : Nat) (ht : (pc : Int) + off = (tgt : Int)) (q : Nat) (hq : pc + 3 = q) (kt : (0 < x) → G w E al n y mc ms P cs sl h tgt L st) (kf : ¬ (0 < x) → G w E al n y mc ms P cs sl h q L st) : G w E al n y mc ms P cs sl h pc L (.int x :: st) := by
  subst hq
  intro p e s m args below meth c C H locs ls X1 X2 X3
  exact lv_if_gt C.1 C.2.1 hd ht (fun z => kt z p e s m args below meth c C H locs ls X1 X2 X3) (fun z => kf z p e s m args below meth c C H locs ls X1 X2 X3)
theorem g_icmp_gt {x z : Int32} {off : Int} (hd : decode y.2.1 pc = .ok (.if_icmp .gt off, 3)) (tgt : Nat) (ht : (pc : Int) + off = (tgt : Int)) (q : Nat) (hq : pc + 3 = q) (kt : (z < x) → G w E al n y mc ms P cs sl h tgt L st) (kf : ¬ (z < x) → G w E al n y mc ms P cs sl h q L st) : G w E al n y mc ms P cs sl h pc L (.int z :: .int x :: st) := by
  subst hq
  intro p e s m args below meth c C H locs ls X1 X2 X3
  exact lv_icmp_gt C.1 C.2.1 hd ht (fun z => kt z p e s m args below meth c C H locs ls X1 X2 X3) (fun z => kf z p e s m args below meth c C H locs ls X1 X2 X3)
theorem g_if_le {x : Int32} {off : Int} (hd : decode y.2.1 pc = .ok (.ifCond .le off, 3)) (tgt : Nat) (ht : (pc : Int) + off = (tgt : Int)) (q : Nat) (hq : pc + 3 = q) (kt : (x ≤ 0) → G w E al n y mc ms P cs sl h tgt L st) (kf : ¬ (x ≤ 0) → G w E al n y mc ms P cs sl h q L st) : G w E al n y mc ms P cs sl h pc L (.int x :: st) := by
  subst hq
  intro p e s m args below meth c C H locs ls X1 X2 X3
  exact lv_if_le C.1 C.2.1 hd ht (fun z => kt z p e s m args below meth c C H locs ls X1 X2 X3) (fun z => kf z p e s m args below meth c C H locs ls X1 X2 X3)
theorem g_icmp_le {x z : Int32} {off : Int} (hd : decode y.2.1 pc = .ok (.if_icmp .le off, 3)) (tgt : Nat) (ht : (pc : Int) + off = (tgt : Int)) (q : Nat) (hq : pc + 3 = q) (kt : (x ≤ z) → G w E al n y mc ms P cs sl h tgt L st) (kf : ¬ (x ≤ z) → G w E al n y mc ms P cs sl h q L st) : G w E al n y mc ms P cs sl h pc L (.int z :: .int x :: st) := by
  subst hq
  intro p e s m args below meth c C H locs ls X1 X2 X3
  exact lv_icmp_le C.1 C.2.1 hd ht (fun z => kt z p e s m args below meth c C H locs ls X1 X2 X3) (fun z => kf z p e s m args below meth c C H locs ls X1 X2 X3)
theorem g_goto {off : Int} (hd : decode y.2.1 pc = .ok (.goto off, 3)) (tgt : Nat) (ht : (pc : Int) + off = (tgt : Int)) (k : G w E al n y mc ms P cs sl h tgt L st) : G w E al n y mc ms P cs sl h pc L st := by
  intro p e s m args below meth c C H locs ls X1 X2 X3
  exact lv_goto C.1 C.2.1 hd ht (k p e s m args below meth c C H locs ls X1 X2 X3)
theorem g_ifnonnull {x : Nat} {off : Int} (hd : decode y.2.1 pc = .ok (.ifnonnull off, 3)) (tgt : Nat) (ht : (pc : Int) + off = (tgt : Int)) (k : G w E al n y mc ms P cs sl h tgt L st) : G w E al n y mc ms P cs sl h pc L (.ref x :: st) := by
  intro p e s m args below meth c C H locs ls X1 X2 X3
  exact lv_ifnonnull C.1 C.2.1 hd ht (k p e s m args below meth c C H locs ls X1 X2 X3)
theorem g_ifnull {x : Nat} {off : Int} (hd : decode y.2.1 pc = .ok (.ifnull off, 3)) (q : Nat) (hq : pc + 3 = q) (k : G w E al n y mc ms P cs sl h q L st) : G w E al n y mc ms P cs sl h pc L (.ref x :: st) := by
  subst hq
  intro p e s m args below meth c C H locs ls X1 X2 X3
  exact lv_ifnull C.1 C.2.1 hd (k p e s m args below meth c C H locs ls X1 X2 X3)
theorem g_ifnullN {off : Int} (hd : decode y.2.1 pc = .ok (.ifnull off, 3)) (tgt : Nat) (ht : (pc : Int) + off = (tgt : Int)) (k : G w E al n y mc ms P cs sl h tgt L st) : G w E al n y mc ms P cs sl h pc L (.null :: st) := by
  intro p e s m args below meth c C H locs ls X1 X2 X3
  exact lv_ifnullN C.1 C.2.1 hd ht (k p e s m args below meth c C H locs ls X1 X2 X3)
theorem g_ifnonnullN {off : Int} (hd : decode y.2.1 pc = .ok (.ifnonnull off, 3)) (q : Nat) (hq : pc + 3 = q) (k : G w E al n y mc ms P cs sl h q L st) : G w E al n y mc ms P cs sl h pc L (.null :: st) := by
  subst hq
  intro p e s m args below meth c C H locs ls X1 X2 X3
  exact lv_ifnonnullN C.1 C.2.1 hd (k p e s m args below meth c C H locs ls X1 X2 X3)
end GStores
end
section
/-! rows of G on the heap, calls, returns; from G to a contract -/
/-- an int array with a place written -/
def gup (f : Int32 → Int32) (i x : Int32) : Int32 → Int32 := fun j => if j = i then x else f j
theorem gHd.set {w : gW} {al : Bool} {n k : Nat} {h : gH} {e : gE} {H H1 : Heap} (h0 : gHd w al n h H) (hz : H1.size = H.size) (hP : va_P w.2.1 vwCl (gw w (h.set k e)) H1) : gHd w al n (h.set k e) H1 :=
  ⟨hP, fun z => by rw [hz, List.length_set]; exact h0.2.1 z, fun z => by rw [List.length_set]; exact h0.2.2 z⟩
theorem nI_i {i : Int32} {n : Nat} (h : vp_in i n) : nI i.toNatClampNeg = i := by
  have h0 : ¬ i < 0 := fun q => h (Or.inl q)
  obtain ⟨j, hj, rfl⟩ := nI_of h0
  rw [nI_clamp hj]
theorem vp_cell_ext {cA : ClassId} {n : Nat} {f g : Nat → Int32} (h : ∀ j, j < n → f j = g j) : vp_cell cA (n, .inl f) = vp_cell cA (n, .inl g) := by
  rw [vp_cell_i, vp_cell_i]
  unfold arrV
  congr 1
  apply Array.ext
  · simp
  · intro i h1 h2
    simp at h1 h2 ⊢
    exact h i h1
theorem vp_cell_extq {cA : ClassId} {n : Nat} {f g : Nat → Option Nat} (h : ∀ j, j < n → f j = g j) : vp_cell cA (n, .inr (.inr (.inr (.inr f)))) = vp_cell cA (n, .inr (.inr (.inr (.inr g)))) := by
  rw [vp_cell_q, vp_cell_q]
  unfold arrV
  congr 1
  apply Array.ext
  · simp
  · intro i h1 h2
    simp at h1 h2 ⊢
    rw [h i h1]
/-- a world with one array's contents named otherwise -/
theorem va_P.alt {D : va_G} {cl : List vw_C} {ws : va_W} {k a : Nat} {cA : ClassId} {x y : vp_A} {H : Heap} (h : va_P D cl (ws.set k (a, .inl (cA, x))) H) (hc : vp_cell cA x = vp_cell cA y) : va_P D cl (ws.set k (a, .inl (cA, y))) H := by
  intro j q hq
  by_cases hj : k = j
  · subst hj
    have hl : k < ws.length := by
      have := (List.getElem?_eq_some_iff.mp hq).1
      rw [List.length_set] at this
      exact this
    rw [List.getElem?_set_self hl] at hq
    cases hq
    have h1 := h k _ (List.getElem?_set_self hl)
    show H[a]? = some (vp_cell cA y)
    rw [← hc]
    exact h1
  · rw [List.getElem?_set_ne hj] at hq
    exact h j q (by rw [List.getElem?_set_ne hj]; exact hq)
section GHeap
variable {w : gW} {E : State → Prop} {al : Bool} {n : Nat} {y : gY} {mc ms : Nat} {P : gP} {cs sl : Nat} {h : gH} {pc : Nat} {L st : List Value}
theorem g_get {ix ci k a : Nat} {v : Value} {fs : List Value} {r : vw_C} (hd : decode y.2.1 pc = .ok (.getfield ix, 3)) (q : Nat) (hq : pc + 3 = q) (hf : gFl y.1.cls ix ci k r) (he : h[a]? = some (.inr (.inr (ci, fs)))) (hv : fs[k]? = some v)
    (kk : G w E al n y mc ms P cs sl h q L (v :: st)) : G w E al n y mc ms P cs sl h pc L (.ref a :: st) := by
  subst hq
  intro p e s m args below meth c C H locs ls X1 X2 X3
  obtain ⟨f1, f2, f3, f4⟩ := hf
  obtain ⟨C1, C2, C3, C4, C5, C6, C7, C8, C9, C10, C11⟩ := id C
  exact va_get C1 C2 C7 f2 C6 C9.1 X1.1 a (gw_get he) f1 k f3 (C7 _ f4) (fun _ h => h) (by rw [List.getElem?_map, hv]; rfl) hd (kk p e s m args below meth c C H locs ls X1 X2 X3)
theorem g_put {ix ci k a : Nat} {v : Value} {fs : List Value} {r : vw_C} {ty : FieldType} (hd : decode y.2.1 pc = .ok (.putfield ix, 3)) (q : Nat) (hq : pc + 3 = q) (hf : gFl y.1.cls ix ci k r) (hw : gFw r) (hfin : (r.2.1 k).2.2.2 = false) (hty : parseFieldDescriptor (r.2.1 k).2.2.1 = some ty) (hn : narrow ty (gv w v) = gv w v) (hfit : fits ty (gv w v) = true)
    (he : h[a]? = some (.inr (.inr (ci, fs)))) (hl : k < fs.length) {h' : gH} (hh : h.set a (.inr (.inr (ci, fs.set k v))) = h')
    (kk : G w E al n y mc ms P cs sl h' q L st) : G w E al n y mc ms P cs sl h pc L (v :: .ref a :: st) := by
  subst hq
  subst hh
  intro p e s m args below meth c C H locs ls X1 X2 X3
  obtain ⟨hc, hin, hk, f4⟩ := hf
  obtain ⟨hexec, hb, C3, C4, C5, hown, hts, C8, C9, C10, C11⟩ := id C
  obtain ⟨hnm, ty0, hty0⟩ := hw
  obtain ⟨C', T, N⟩ := r
  have hK := C9.1
  have hP := X1.1
  have hD := gw_D (w := w) X1.2.2
  have he' := gw_get (w := w) he
  have hap := va_apart (own := y.1.cls) hts hin ty0 hty0 hnm hK hc
  obtain ⟨r', h1, cell, q1, q2, q3, q4⟩ := hP a _ he'
  have hr : r' = (C', T, N) := Option.some.inj (h1.symm.trans hc)
  subst hr
  obtain ⟨hS, hfc, kC, hkC, hkind⟩ := hK.1 ci _ hc
  obtain ⟨cf, kf, fi, f, hi, hsl⟩ := hS k hk
  have hlay := hts _ (hin _ (u_in_lay hk))
  unfold u_lay at hlay
  rw [if_neg (by rw [hfin]; decide)] at hlay
  have hst := (u_facts hfc hkC (u_lays hts hin hk) hi).1
  have h6 := u_store hfc hkC hkind hlay hi hty hn hfit
  refine W.putK hexec hb (f := f) ⟨hown, hts _ f4, ⟨_, _, _, hi⟩, hst⟩ (by rw [q2]; exact h6) q1 q3 (by rw [hsl]; exact k2_hasslot (q4 k hk)) rfl rfl hd fun H' e1 e2 e3 => ?_
  rw [hsl] at e1 ⊢
  refine kk p e s m args below meth c C H' _ ls (X1.set e2 ?_) (X2.put e2 e3 (hD.2 a _ he')) X3
  rw [gw_set]
  have hlm : k < (fs.map (gv w)).length := by rw [List.length_map]; exact hl
  have e4 : ge w (.inr (.inr (ci, fs.set k v))) = .inr (ci, (fs.map (gv w)).set k (gv w v)) := by simp only [ge, List.map_set]
  rw [e4]
  exact hP.set hD he' ⟨_, hc, t_OB.to (V := updV (vp_V (fs.map (gv w))) k (gv w v)) ⟨_, e1, q2, q3, t_set q4 hap hk (gv w v)⟩ (fun j _ => vp_updV_set hlm (gv w v) j)⟩ e3
theorem g_putF {ix ci k a : Nat} {v : Value} {fs : List Value} {r : vw_C} {ty : FieldType} (hd : decode y.2.1 pc = .ok (.putfield ix, 3)) (q : Nat) (hq : pc + 3 = q) (hf : gFl y.1.cls ix ci k r) (hw : gFw r) (hfin : (r.2.1 k).2.2.2 = true) (hin2 : y.1.name = "<init>") (hdecl : (r.2.1 k).1 = y.1.cls) (hty : parseFieldDescriptor (r.2.1 k).2.2.1 = some ty) (hn : narrow ty (gv w v) = gv w v) (hfit : fits ty (gv w v) = true)
    (he : h[a]? = some (.inr (.inr (ci, fs)))) (hl : k < fs.length) {h' : gH} (hh : h.set a (.inr (.inr (ci, fs.set k v))) = h')
    (kk : G w E al n y mc ms P cs sl h' q L st) : G w E al n y mc ms P cs sl h pc L (v :: .ref a :: st) := by
  subst hq
  subst hh
  intro p e s m args below meth c C H locs ls X1 X2 X3
  obtain ⟨hc, hin, hk, f4⟩ := hf
  obtain ⟨hexec, hb, C3, C4, C5, hown, hts, C8, C9, C10, C11⟩ := id C
  obtain ⟨hnm, ty0, hty0⟩ := hw
  obtain ⟨C', T, N⟩ := r
  have hK := C9.1
  have hP := X1.1
  have hD := gw_D (w := w) X1.2.2
  have he' := gw_get (w := w) he
  have hap := va_apart (own := y.1.cls) hts hin ty0 hty0 hnm hK hc
  obtain ⟨r', h1, cell, q1, q2, q3, q4⟩ := hP a _ he'
  have hr : r' = (C', T, N) := Option.some.inj (h1.symm.trans hc)
  subst hr
  obtain ⟨hS, hfc, kC, hkC, hkind⟩ := hK.1 ci _ hc
  obtain ⟨cf, kf, fi, f, hi, hsl⟩ := hS k hk
  have hlay := hts _ (hin _ (u_in_lay hk))
  unfold u_lay at hlay
  rw [if_pos hfin] at hlay
  have hst := (u_facts hfc hkC (u_lays hts hin hk) hi).1
  have hcf : m.cls = cf := by
    obtain ⟨_, _, c', _, _, _, -, -, hf', -, -, -, hown2, -⟩ := Cond.laysFinal_spec hlay
    have e1 : c' = cf := by have := hi.symm.trans hf'; simp at this; exact this.1.symm
    rw [hdecl] at hown2
    rw [← e1]; exact Option.some.inj (hown.symm.trans hown2)
  have h6 := u_fits hfc hkC hkind (Or.inr hlay) hi hty hn hfit
  refine W.putFinK hexec hb hown (hts _ f4) hi hst hcf (C8.trans hin2) (by rw [q2]; exact h6) q1 q3 (by rw [hsl]; exact k2_hasslot (q4 k hk)) rfl rfl hd fun H' e1 e2 e3 => ?_
  rw [hsl] at e1 ⊢
  refine kk p e s m args below meth c C H' _ ls (X1.set e2 ?_) (X2.put e2 e3 (hD.2 a _ he')) X3
  rw [gw_set]
  have hlm : k < (fs.map (gv w)).length := by rw [List.length_map]; exact hl
  have e4 : ge w (.inr (.inr (ci, fs.set k v))) = .inr (ci, (fs.map (gv w)).set k (gv w v)) := by simp only [ge, List.map_set]
  rw [e4]
  exact hP.set hD he' ⟨_, hc, t_OB.to (V := updV (vp_V (fs.map (gv w))) k (gv w v)) ⟨_, e1, q2, q3, t_set q4 hap hk (gv w v)⟩ (fun j _ => vp_updV_set hlm (gv w v) j)⟩ e3
theorem g_iaload {a N : Nat} {f : Int32 → Int32} {i : Int32} (hd : decode y.2.1 pc = .ok (.iaload, 1)) (q : Nat) (hq : pc + 1 = q) (he : h[a]? = some (.inl (N, f))) (hin : vp_in i N)
    (kk : G w E al n y mc ms P cs sl h q L (.int (f i) :: st)) : G w E al n y mc ms P cs sl h pc L (.int i :: .ref a :: st) := by
  subst hq
  intro p e s m args below meth c C H locs ls X1 X2 X3
  have k1 := kk p e s m args below meth c C H locs ls X1 X2 X3
  have e1 : f i = (fun j => f (nI j)) i.toNatClampNeg := by show f i = f (nI i.toNatClampNeg); rw [nI_i hin]
  rw [e1] at k1
  exact va_iald C.1 C.2.1 C.2.2.2.2.2.2.2.2.1.1 X1.1 a 0 (gw_get he) rfl hin hd k1
theorem g_iaload' {a N : Nat} {f : Int32 → Int32} {i : Int32} (hd : decode y.2.1 pc = .ok (.iaload, 1)) (q : Nat) (hq : pc + 1 = q) (he : h[a]? = some (.inl (N, f))) (hin : vp_in i N) (v : Int32) (hv : f i = v)
    (kk : G w E al n y mc ms P cs sl h q L (.int v :: st)) : G w E al n y mc ms P cs sl h pc L (.int i :: .ref a :: st) := by
  subst hv
  exact g_iaload hd q hq he hin kk
theorem g_iastore {a N : Nat} {f : Int32 → Int32} {i x : Int32} (hd : decode y.2.1 pc = .ok (.iastore, 1)) (q : Nat) (hq : pc + 1 = q) (he : h[a]? = some (.inl (N, f))) (hN : N < 2 ^ 31) (hin : vp_in i N) {h' : gH} (hh : h.set a (.inl (N, gup f i x)) = h')
    (kk : G w E al n y mc ms P cs sl h' q L st) : G w E al n y mc ms P cs sl h pc L (.int x :: .int i :: .ref a :: st) := by
  subst hq
  subst hh
  intro p e s m args below meth c C H locs ls X1 X2 X3
  have hD := gw_D (w := w) X1.2.2
  have he' := gw_get (w := w) he
  refine W.iast C.1 C.2.1 (X1.1 a _ he') ((C.2.2.2.2.2.2.2.2.1.1.2 0 _ rfl).1 N (fun j => .int (f (nI j)))) (fun q => by cases q) (by show ¬ (i < 0 ∨ (arrV _ _ _).slots.size ≤ _); rw [arrV_size]; exact hin) rfl rfl hd fun H1 e z oq => ?_
  refine kk p _ s m args below meth c C H1 _ ls (X1.set z ?_) (X2.put z oq (hD.2 a _ he')) X3
  rw [gw_set]
  refine va_P.alt (x := (N, .inl (upd (fun j => f (nI j)) i.toNatClampNeg x))) (X1.1.set hD he' ?_ oq) (vp_cell_ext fun j hj => ?_)
  · show H1[_]? = some (vp_cell _ _)
    rw [e]
    show some ((vp_cell _ _).setSlot _ _) = _
    rw [vp_cell_i, vp_cell_i, arrV_store]
    congr 2
    funext q
    by_cases hq : q = i.toNatClampNeg
    · subst hq
      simp [updV, upd]
    · simp [updV, upd, hq]
  · show upd (fun j => f (nI j)) i.toNatClampNeg x j = gup f i x (nI j)
    have h2 := nI_i hin
    by_cases hj2 : j = i.toNatClampNeg
    · subst hj2
      simp [upd, gup, h2]
    · have h3 : nI j ≠ i := by
        intro z
        apply hj2
        rw [← z, nI_clamp (by omega)]
      simp [upd, gup, hj2, h3]
theorem g_alen {a N : Nat} {f : Int32 → Int32} (hd : decode y.2.1 pc = .ok (.arraylength, 1)) (q : Nat) (hq : pc + 1 = q) (he : h[a]? = some (.inl (N, f))) (v : Int32) (hv : nI N = v)
    (kk : G w E al n y mc ms P cs sl h q L (.int v :: st)) : G w E al n y mc ms P cs sl h pc L (.ref a :: st) := by
  subst hq
  intro p e s m args below meth c C H locs ls X1 X2 X3
  exact va_alen C.1 C.2.1 C.2.2.2.2.2.2.2.2.1.1 X1.1 a 0 (gw_get he) rfl hv hd (kk p e s m args below meth c C H locs ls X1 X2 X3)
theorem g_alenq {a N : Nat} {f : Nat → Option Nat} (hd : decode y.2.1 pc = .ok (.arraylength, 1)) (q : Nat) (hq : pc + 1 = q) (he : h[a]? = some (.inr (.inl (N, f)))) (v : Int32) (hv : nI N = v)
    (kk : G w E al n y mc ms P cs sl h q L (.int v :: st)) : G w E al n y mc ms P cs sl h pc L (.ref a :: st) := by
  subst hq
  intro p e s m args below meth c C H locs ls X1 X2 X3
  exact va_alen C.1 C.2.1 C.2.2.2.2.2.2.2.2.1.1 X1.1 a 1 (gw_get he) rfl hv hd (kk p e s m args below meth c C H locs ls X1 X2 X3)
theorem g_aaload {a N j : Nat} {f : Nat → Option Nat} {i : Int32} (hd : decode y.2.1 pc = .ok (.aaload, 1)) (q : Nat) (hq : pc + 1 = q) (he : h[a]? = some (.inr (.inl (N, f)))) (hin : vp_in i N) (hj : f i.toNatClampNeg = some j)
    (kk : G w E al n y mc ms P cs sl h q L (.ref j :: st)) : G w E al n y mc ms P cs sl h pc L (.int i :: .ref a :: st) := by
  subst hq
  intro p e s m args below meth c C H locs ls X1 X2 X3
  have k1 := kk p e s m args below meth c C H locs ls X1 X2 X3
  have e1 : (Value.ref (w.2.2.2.2 + j)) = va_rf ((fun j => (f j).map (fun k => w.2.2.2.2 + k)) i.toNatClampNeg) := by simp only [hj]; rfl
  have k2 : W p w.1 e (gRoom y mc ms) s m args below meth c H locs cs sl (MQ below (gQ w al n P) args s mc ms (gA w al n)) (F0 m (pc + 1) ls (Value.ref (w.2.2.2.2 + j) :: st.map (gv w))) := k1
  rw [e1] at k2
  exact va_aldq C.1 C.2.1 C.2.2.2.2.2.2.2.2.1.1 X1.1 a 1 (gw_get he) rfl hin hd k2
theorem g_aastore {a N j : Nat} {f : Nat → Option Nat} {i : Int32} {vs : List Value} (hd : decode y.2.1 pc = .ok (.aastore, 1)) (q : Nat) (hq : pc + 1 = q) (he : h[a]? = some (.inr (.inl (N, f)))) (hin : vp_in i N) (hj : h[j]? = some (.inr (.inr (6, vs)))) {h' : gH} (hh : h.set a (.inr (.inl (N, va_up f i.toNatClampNeg (some j)))) = h')
    (kk : G w E al n y mc ms P cs sl h' q L st) : G w E al n y mc ms P cs sl h pc L (.ref j :: .int i :: .ref a :: st) := by
  subst hq
  subst hh
  intro p e s m args below meth c C H locs ls X1 X2 X3
  have hK := C.2.2.2.2.2.2.2.2.1.1
  have hP := X1.1
  have hD := gw_D (w := w) X1.2.2
  have ha := gw_get (w := w) he
  have hv := gw_get (w := w) hj
  have hlt : i.toNatClampNeg < N := Nat.not_le.mp fun q => hin (Or.inr q)
  have h0 : ¬ i < 0 := fun q => hin (Or.inl q)
  obtain ⟨r', hr', cellV, g1, g2, g3, -⟩ := hP j _ hv
  have hcls := (hK.1 6 _ rfl).2
  obtain ⟨kA, comp, k1, k2, k3, -⟩ := (hK.2 1 _ rfl).2
  have hcomp : comp = w.2.1.1 6 := Option.some.inj (k3.symm.trans hcls.1)
  subst hcomp
  obtain ⟨kC, hkC, -⟩ := hcls.2
  refine W.aast C.1 C.2.1 (hP a _ ha) (fun q h => by cases h) (fun h => by cases h) k1 k2 rfl hkC ⟨h0, by show _ < (arrV _ _ _).slots.size; rw [arrV_size]; exact hlt⟩ g1 (fun q h => by rw [g3] at h; cases h) (by rw [g2]; exact hkC) (by rw [g2]; exact va_assign hcls) rfl rfl hd fun H1 e z oq => ?_
  refine kk p _ s m args below meth c C H1 _ ls (X1.set z ?_) (X2.put z oq (hD.2 a _ ha)) X3
  rw [gw_set]
  refine hP.set hD ha ?_ oq
  show H1[_]? = some (vp_cell _ _)
  rw [e]
  show some ((vp_cell _ _).setSlot _ _) = _
  rw [vp_cell_q, vp_cell_q, arrV_store]
  congr 2
  funext q
  by_cases hq : q = i.toNatClampNeg
  · subst hq
    simp [updV, va_up, va_rf]
  · simp [updV, va_up, hq]
theorem g_new {ix ci : Nat} {r : vw_C} {fs : List Value} (hd : decode y.2.1 pc = .ok (.new ix, 3)) (q : Nat) (hq : pc + 3 = q) (hal : al = true) (hc : vwCl[ci]? = some r) (hin : ∀ c ∈ u_ws r.1 r.2.1 r.2.2, c ∈ gTs) (ty : Nat → FieldType) (hty : ∀ k, k < r.2.2 → parseFieldDescriptor (r.2.1 k).2.2.1 = some (ty k))
    (h1 : Cond.classLink y.1.cls ix r.1 ∈ gTs) (h2 : Cond.instantiable r.1 r.2.2 ∈ gTs) (h3 : Cond.initialized r.1 ∈ gTs) (hfs : ∀ j, j < r.2.2 → defaultValue (ty j) = vp_V fs j) (hfv : fs.map (gv w) = fs) (hcs : cs + 1 ≤ mc) (hsl : sl + r.2.2 ≤ ms) {b : Nat} (hb : h.length = b) {N : Nat} (hN : r.2.2 = N)
    (kk : G w E al n y mc ms P (cs + 1) (sl + N) (h ++ [.inr (.inr (ci, fs))]) q L (.ref b :: st)) : G w E al n y mc ms P cs sl h pc L st := by
  subst hq
  subst hb
  subst hN
  intro p e s m args below meth c C H locs ls X1 X2 X3
  obtain ⟨hexec, hbb, C3, C4, C5, hown, hts, C8, C9, C10, C11⟩ := id C
  have hP := X1.1
  have hKn := C9.1.1 ci _ hc
  have hsz := X1.2.1 hal
  refine W.newcK hexec hbb hown (hts _ h1) (hts _ h2) (hts _ h3) rfl hd hcs hsl hKn.2.1 rfl fun H1 kC hkC e1 z1 o1 => ?_
  have hk : ∀ (k : Nat) (x : Nat × va_E), (gw w h)[k]? = some x → H1[x.1]? = H[x.1]? := fun k x hx => o1 x.1 ((hP k x hx).lt)
  have k1 := kk p e s m args below meth c C H1 locs ls ⟨?_, fun _ => by rw [z1, hsz, List.length_append]; rfl, fun z => by rw [hal] at z; cases z⟩ ⟨Nat.le_trans X2.1 (by omega), fun x h1 h2 => (o1 x (Nat.lt_of_lt_of_le h1 X2.1)).trans (X2.2.1 x h1 h2), X2.2.2⟩ X3
  · have k2 : W p w.1 e (gRoom y mc ms) s m args below meth c H1 locs (cs + 1) (sl + r.2.2) (MQ below (gQ w al n P) args s mc ms (gA w al n)) (F0 m (pc + 3) ls (Value.ref (w.2.2.2.2 + h.length) :: st.map (gv w))) := k1
    rw [← hsz] at k2
    exact k2
  · rw [gw_push]
    refine (hP.kept hk).app (fun k x hx => ?_)
    have hz : k < 1 := (List.getElem?_eq_some_iff.mp hx).1
    rw [show k = 0 by omega] at hx
    cases hx
    refine ⟨_, hc, ?_⟩
    rw [← hsz]
    show t_OB H.size _ _ _ H1 (vp_V (fs.map (gv w)))
    rw [hfv]
    exact (u_born ty hts hin hKn hkC e1 hty).to hfs
theorem g_newa {i : Int32} {N : Nat} (hd : decode y.2.1 pc = .ok (.newarray .int, 2)) (q : Nat) (hq : pc + 2 = q) (hal : al = true) (harr : Cond.arrayClass .int ∈ gTs) (hi : ¬ i < 0) (hN : i.toNatClampNeg = N) (hby : N * 4 ≤ 536870912) (hcs : cs + 1 ≤ mc) (hsl : sl + N ≤ ms) {b : Nat} (hb : h.length = b)
    (kk : G w E al n y mc ms P (cs + 1) (sl + N) (h ++ [.inl (N, fun _ => 0)]) q L (.ref b :: st)) : G w E al n y mc ms P cs sl h pc L (.int i :: st) := by
  subst hq
  subst hb
  intro p e s m args below meth c C H locs ls X1 X2 X3
  obtain ⟨hexec, hbb, C3, C4, C5, hown, hts, C8, C9, C10, C11⟩ := id C
  have hP := X1.1
  have hsz := X1.2.1 hal
  refine va_newaK (atype := .int) hexec hbb (hts _ harr) rfl hd rfl hi hN hby hcs hsl rfl fun H1 cA e1 z1 o1 hAr hNm => ?_
  have hcA : cA = w.2.2.1 := by
    have h5 := (C9.1.2 0 _ rfl).2
    exact Option.some.inj (hNm.symm.trans h5)
  subst hcA
  have hk : ∀ (k : Nat) (x : Nat × va_E), (gw w h)[k]? = some x → H1[x.1]? = H[x.1]? := fun k x hx => o1 x.1 ((hP k x hx).lt)
  have k1 := kk p e s m args below meth c C H1 locs ls ⟨?_, fun _ => by rw [z1, hsz, List.length_append]; rfl, fun z => by rw [hal] at z; cases z⟩ ⟨Nat.le_trans X2.1 (by omega), fun x h1 h2 => (o1 x (Nat.lt_of_lt_of_le h1 X2.1)).trans (X2.2.1 x h1 h2), X2.2.2⟩ X3
  · have k2 : W p w.1 e (gRoom y mc ms) s m args below meth c H1 locs (cs + 1) (sl + N) (MQ below (gQ w al n P) args s mc ms (gA w al n)) (F0 m (pc + 2) ls (Value.ref (w.2.2.2.2 + h.length) :: st.map (gv w))) := k1
    rw [← hsz] at k2
    exact k2
  · rw [gw_push]
    refine (hP.kept hk).app (fun k x hx => ?_)
    have hz : k < 1 := (List.getElem?_eq_some_iff.mp hx).1
    rw [show k = 0 by omega] at hx
    cases hx
    rw [← hsz]
    show H1[H.size]? = some (vp_cell _ _)
    exact e1
theorem g_newq {ix : Nat} {i : Int32} {N : Nat} (hd : decode y.2.1 pc = .ok (.anewarray ix, 3)) (q : Nat) (hq : pc + 3 = q) (hal : al = true) (hcl : Cond.classLink y.1.cls ix RX6 ∈ gTs) (hi : ¬ i < 0) (hN : i.toNatClampNeg = N) (hby : N * 4 ≤ 536870912) (hcs : cs + 1 ≤ mc) (hsl : sl + N ≤ ms) {b : Nat} (hb : h.length = b)
    (kk : G w E al n y mc ms P (cs + 1) (sl + N) (h ++ [.inr (.inl (N, fun _ => none))]) q L (.ref b :: st)) : G w E al n y mc ms P cs sl h pc L (.int i :: st) := by
  subst hq
  subst hb
  subst hN
  intro p e s m args below meth c C H locs ls X1 X2 X3
  obtain ⟨hexec, hbb, C3, C4, C5, hown, hts, C8, C9, C10, C11⟩ := id C
  have hP := X1.1
  have hsz := X1.2.1 hal
  refine W.anew hexec hbb hown (hts _ hcl) (va_AO.use C9.2.2) rfl hd rfl hi hby hcs hsl fun cA kA comp f1 f2 f3 f4 => ?_
  generalize hH1 : H.push ({ cls := cA, slots := Array.replicate i.toNatClampNeg .null, vm := .none } : Cell) = H1
  have z1 : H1.size = H.size + 1 := by rw [← hH1, Array.size_push]
  have e1 : H1[H.size]? = some (arrV cA i.toNatClampNeg (fun _ => .null)) := by rw [← hH1, Array.getElem?_push_size, ← arrV_new]
  have o1 : ∀ q : Nat, q < H.size → H1[q]? = H[q]? := fun q hq => by rw [← hH1, Array.getElem?_push, if_neg (Nat.ne_of_lt hq)]
  have hcA : cA = w.2.2.2.1 := by
    obtain ⟨_, _, _, _, _, h5⟩ := (C9.1.2 1 _ rfl).2
    exact Option.some.inj (f1.symm.trans h5)
  subst hcA
  have hk : ∀ (k : Nat) (x : Nat × va_E), (gw w h)[k]? = some x → H1[x.1]? = H[x.1]? := fun k x hx => o1 x.1 ((hP k x hx).lt)
  have k1 := kk p e s m args below meth c C H1 locs ls ⟨?_, fun _ => by rw [z1, hsz, List.length_append]; rfl, fun z => by rw [hal] at z; cases z⟩ ⟨Nat.le_trans X2.1 (by omega), fun x h1 h2 => (o1 x (Nat.lt_of_lt_of_le h1 X2.1)).trans (X2.2.1 x h1 h2), X2.2.2⟩ X3
  · have k2 : W p w.1 e (gRoom y mc ms) s m args below meth c H1 locs (cs + 1) (sl + i.toNatClampNeg) (MQ below (gQ w al n P) args s mc ms (gA w al n)) (F0 m (pc + 3) ls (Value.ref (w.2.2.2.2 + h.length) :: st.map (gv w))) := k1
    rw [← hsz] at k2
    exact k2
  · rw [gw_push]
    refine (hP.kept hk).app (fun k x hx => ?_)
    have hz : k < 1 := (List.getElem?_eq_some_iff.mp hx).1
    rw [show k = 0 by omega] at hx
    cases hx
    rw [← hsz]
    show H1[H.size]? = some (vp_cell _ _)
    rw [vp_cell_q]
    exact e1
end GHeap
end
section
/-! calls, returns, switches; from G to a contract -/
theorem gGood {c : Cond} (h : c ∈ gTs) : GoodIn gTs (c :: gTs) := fun q hq => by
  have hq' : q ∈ gTs := (List.mem_cons.mp hq).elim (fun z => by rw [z]; exact h) id
  exact ⟨hq', good_of_word (List.mem_filter.mp hq').2⟩
theorem gA_eq {w : gW} {al : Bool} {n n' : Nat} (h : al = false → n' = n) (q : Nat) (z : gA w al n' q) : gA w al n q := by
  refine ⟨z.1, ?_⟩
  cases al with
  | true => exact Or.inl rfl
  | false => rw [← h rfl]; exact z.2
theorem gHd.eqn {w : gW} {al : Bool} {n n' : Nat} {h : gH} {H : Heap} (hn : al = false → n' = n) (z : gHd w al n' h H) : gHd w al n h H := ⟨z.1, z.2.1, fun q => by rw [← hn q]; exact z.2.2 q⟩
theorem gPc_blind {w : gW} {al : Bool} {h : gH} {as : List Value} : FrameBlind (gPc w gT0 al h as) := by
  intro a U g mk q
  obtain ⟨q1, q2, q3, -⟩ := q
  refine ⟨q1, ?_, q3, trivial⟩
  have hv : U.vm.Alike (U.calling g mk a).vm := Vm.Alike.refl U.vm
  exact ⟨va_K.moved hv q2.1, fun c hc => va_Nw.same (u := U) (U := U.calling g mk a) (by have h2 : gIsN c = true := (List.mem_filter.mp hc).2; cases c <;> first | rfl | (simp [gIsN] at h2)) rfl (q2.2.1 c hc), va_AO.moved hv q2.2.2⟩
section GCalls
variable {w : gW} {E : State → Prop} {al : Bool} {n : Nat} {y : gY} {mc ms : Nat} {P : gP} {cs sl : Nat} {h : gH} {pc : Nat} {L st : List Value}
theorem g_back {p : Program} {e : Env} {s : State} {m : MethodId} {args : Array Value} {below : List Frame} {meth : Method} {c : Code} (C : gCt w E al y p s m args meth c) {H : Heap} {locs : List Loc} {ls : Array Slot} (X1 : gHd w al n h H) (X2 : va_S (gA w al n) s.heap H locs) (X3 : gL w y.2.2.1 ls L)
    {mc' ms' : Nat} {P' : gP} {a : Array Value} {S : List Value}
    (hr : va_Run p w.1 e (gRoom y mc ms) s m args below meth c H locs cs sl mc' ms' (F0 m pc ls S) (st.map (gv w)) (gQ w al h.length P' a) (gA w al h.length))
    (kk : ∀ (h1 : gH) (r : Option Value), P' h1 r → G w E al n y mc ms P (cs + mc') (sl + ms') h1 (pc + 3) L (r.toList ++ st)) :
    W p w.1 e (gRoom y mc ms) s m args below meth c H locs cs sl (MQ below (gQ w al n P) args s mc ms (gA w al n)) (F0 m pc ls S) := by
  intro T hT X
  obtain ⟨v, st₀, t, T', L', h0, X', hL', e1, e2, ⟨h1, r, hv, hp, hH, hF⟩, stp⟩ := hr T hT X
  cases hv
  have hn : al = false → h.length = n := X1.2.2
  have hk := kk h1 r hp p e s m args below meth c C T'.heap (locs ++ L') ls (by rw [e1]; exact hH.eqn hn) ?_ X3 T' rfl X'
  · obtain ⟨t2, a1, b1⟩ := hk
    refine ⟨t2, stp t2 ?_, b1⟩
    have e3 : (r.toList ++ st).map (gv w) = (r.map (gv w)).toList ++ st.map (gv w) := by cases r <;> rfl
    rw [e3] at a1
    exact a1
  · obtain ⟨hF1, hF2⟩ := hF
    rw [h0] at hF1 hF2
    refine ⟨Nat.le_trans X2.1 (by rw [e1]; exact hF1), fun q g1 g2 => ?_, fun q hq => ?_⟩
    · rw [e1, hF2 q (Nat.lt_of_lt_of_le g1 X2.1) (fun z => g2 (gA_eq hn q z))]
      exact X2.2.1 q g1 g2
    · rcases List.mem_append.mp hq with g | g
      · exact X2.2.2 q g
      · exact gA_eq hn _ (hL' q g)
theorem gRest {w : gW} {st : List Value} {k : Nat} (h : (st.map fun v => v.category).sum ≤ k) : ((st.map (gv w)).map fun v => v.category).sum ≤ k := by
  rw [List.map_map]
  have e : ((fun v : Value => v.category) ∘ gv w) = fun v => v.category := by funext v; exact gv_cat w v
  rw [e]
  exact h
theorem g_callV {ix a ci : Nat} {y' : gY} {as S fs : List Value} {mc' ms' : Nat} {P' : gP} {r0 : vw_C} (hd : decode y.2.1 pc = .ok (.invokevirtual ix, 3)) (q : Nat) (hq : pc + 3 = q) (hc : gCV y.1.cls ix y' as.length) (hfit : gFit y y') (hM : M w gT0 al y' mc' ms' h (.ref a :: as) P') (hr0 : vwCl[ci]? = some r0) (hcl : y'.1.cls = r0.1) (he : h[a]? = some (.inr (.inr (ci, fs))))
    (hS : as.reverse ++ .ref a :: st = S) (hst : (st.map fun v => v.category).sum ≤ 8) (h1 : cs + mc' ≤ mc) (h2 : sl + ms' ≤ ms)
    (kk : ∀ (h1 : gH) (r : Option Value), P' h1 r → G w E al n y mc ms P (cs + mc') (sl + ms') h1 q L (r.toList ++ st)) : G w E al n y mc ms P cs sl h pc L S := by
  subst hq
  subst hS
  intro p e s m args below meth c C H locs ls X1 X2 X3
  obtain ⟨C1, C2, C3, C4, C5, C6, C7, C8, C9, C10, C11⟩ := id C
  obtain ⟨⟨a1, a2, a3, a4, a5⟩, a6, a7, a8⟩ := hc
  refine g_back (mc' := mc') (ms' := ms') C X1 X2 X3 (va_runV (As := as.map (gv w)) (C := y'.1.cls) ⟨C1, C2, C3, C6, C7⟩ hM ⟨callB_of as.length C7 (gGood a1) rfl rfl rfl (C7 _ a2) (C7 _ a6) ⟨a3, a4, a5⟩ hfit, C7 _ a7, C7 _ a8⟩ ⟨gPc_blind, ?_, fun U hU hW => ⟨rfl, C9.warm hW, ?_, trivial⟩⟩ rfl (by simp) (X3.1) (by simp [gv]) (by simpa [JFrame.monitorRoom] using gRest hst) hd ⟨h1, h2⟩) kk
  · rw [hcl]
    exact va_recv C9.1 X1.1 hr0 (gw_get he)
  · rw [hU]
    exact ⟨X1.1, X1.2.1, fun _ => rfl⟩
theorem g_callVN {ix a ci : Nat} {y' : gY} {host : String} {as S fs : List Value} {mc' ms' : Nat} {P' : gP} {r0 : vw_C} (hd : decode y.2.1 pc = .ok (.invokevirtual ix, 3)) (q : Nat) (hq : pc + 3 = q) (hc : gCVN y.1.cls ix y' as.length host) (hfit : gFit y y') (hM : M w gT0 al y' mc' ms' h (.ref a :: as) P') (hr0 : vwCl[ci]? = some r0) (hcl : y'.1.cls = r0.1) (he : h[a]? = some (.inr (.inr (ci, fs))))
    (hS : as.reverse ++ .ref a :: st = S) (hst : (st.map fun v => v.category).sum ≤ 8) (h1 : cs + mc' ≤ mc) (h2 : sl + ms' ≤ ms)
    (kk : ∀ (h1 : gH) (r : Option Value), P' h1 r → G w E al n y mc ms P (cs + mc') (sl + ms') h1 q L (r.toList ++ st)) : G w E al n y mc ms P cs sl h pc L S := by
  subst hq
  subst hS
  intro p e s m args below meth c C H locs ls X1 X2 X3
  obtain ⟨C1, C2, C3, C4, C5, C6, C7, C8, C9, C10, C11⟩ := id C
  obtain ⟨⟨a1, a2, a3, a4, a5⟩, a6, a7, a8⟩ := hc
  refine g_back (mc' := mc') (ms' := ms') C X1 X2 X3 (va_runVN (As := as.map (gv w)) (C := y'.1.cls) ⟨C1, C2, C3, C6, C7⟩ hM ⟨va_cnB as.length C7 (gGood a1) rfl rfl rfl (C9.2.1 _ a6) (C7 _ a2) ⟨a3, a4, a5⟩ hfit, C7 _ a7, C7 _ a8⟩ ⟨gPc_blind, ?_, fun U hU hW => ⟨rfl, C9.warm hW, ?_, trivial⟩⟩ rfl (by simp) (X3.1) (by simp [gv]) (by simpa [JFrame.monitorRoom] using gRest hst) hd ⟨h1, h2⟩) kk
  · rw [hcl]
    exact va_recv C9.1 X1.1 hr0 (gw_get he)
  · rw [hU]
    exact ⟨X1.1, X1.2.1, fun _ => rfl⟩
theorem g_callS {ix : Nat} {y' : gY} {as S : List Value} {mc' ms' : Nat} {P' : gP} (hd : decode y.2.1 pc = .ok (.invokestatic ix, 3)) (q : Nat) (hq : pc + 3 = q) (hc : gCS y.1.cls ix y' as.length) (hfit : gFit y y') (hM : M w gT0 al y' mc' ms' h as P')
    (hS : as.reverse ++ st = S) (hst : (st.map fun v => v.category).sum ≤ 8) (h1 : cs + mc' ≤ mc) (h2 : sl + ms' ≤ ms)
    (kk : ∀ (h1 : gH) (r : Option Value), P' h1 r → G w E al n y mc ms P (cs + mc') (sl + ms') h1 q L (r.toList ++ st)) : G w E al n y mc ms P cs sl h pc L S := by
  subst hq
  subst hS
  intro p e s m args below meth c C H locs ls X1 X2 X3
  obtain ⟨C1, C2, C3, C4, C5, C6, C7, C8, C9, C10, C11⟩ := id C
  obtain ⟨⟨a1, a2, a3, a4, a5⟩, a6, a7⟩ := hc
  refine g_back (mc' := mc') (ms' := ms') C X1 X2 X3 (va_runS (As := as.map (gv w)) ⟨C1, C2, C3, C6, C7⟩ hM ⟨callB_of as.length C7 (gGood a1) rfl rfl rfl (C7 _ a2) (C7 _ a6) ⟨a3, a4, a5⟩ hfit, C7 _ a7⟩ ⟨gPc_blind, fun U hU hW => ⟨rfl, C9.warm hW, ?_, trivial⟩⟩ rfl (by simp) (X3.1) (by simp) (by simpa [JFrame.monitorRoom] using gRest hst) hd ⟨h1, h2⟩) kk
  rw [hU]
  exact ⟨X1.1, X1.2.1, fun _ => rfl⟩
theorem g_callSN {ix : Nat} {y' : gY} {host : String} {as S : List Value} {mc' ms' : Nat} {P' : gP} (hd : decode y.2.1 pc = .ok (.invokestatic ix, 3)) (q : Nat) (hq : pc + 3 = q) (hc : gCSN y.1.cls ix y' as.length host) (hfit : gFit y y') (hM : M w gT0 al y' mc' ms' h as P')
    (hS : as.reverse ++ st = S) (hst : (st.map fun v => v.category).sum ≤ 8) (h1 : cs + mc' ≤ mc) (h2 : sl + ms' ≤ ms)
    (kk : ∀ (h1 : gH) (r : Option Value), P' h1 r → G w E al n y mc ms P (cs + mc') (sl + ms') h1 q L (r.toList ++ st)) : G w E al n y mc ms P cs sl h pc L S := by
  subst hq
  subst hS
  intro p e s m args below meth c C H locs ls X1 X2 X3
  obtain ⟨C1, C2, C3, C4, C5, C6, C7, C8, C9, C10, C11⟩ := id C
  obtain ⟨⟨a1, a2, a3, a4, a5⟩, a6, a7⟩ := hc
  refine g_back (mc' := mc') (ms' := ms') C X1 X2 X3 (va_runSN (As := as.map (gv w)) ⟨C1, C2, C3, C6, C7⟩ hM ⟨va_cnB as.length C7 (gGood a1) rfl rfl rfl (C9.2.1 _ a6) (C7 _ a2) ⟨a3, a4, a5⟩ hfit, C7 _ a7, trivial⟩ ⟨gPc_blind, fun U hU hW => ⟨rfl, C9.warm hW, ?_, trivial⟩⟩ rfl (by simp) (X3.1) (by simp) (by simpa [JFrame.monitorRoom] using gRest hst) hd ⟨h1, h2⟩) kk
  rw [hU]
  exact ⟨X1.1, X1.2.1, fun _ => rfl⟩
theorem g_callI {ix a : Nat} {yn : MethodName} {yb : ByteArray} {yl yf yk : Nat} {as S : List Value} {mc' ms' : Nat} {P' : gP} (hd : decode y.2.1 pc = .ok (.invokespecial ix, 3)) (q : Nat) (hq : pc + 3 = q) (hc : gCI y.1.cls ix (yn, yb, yl, none, yf, yk) as.length) (hfit : gFit y (yn, yb, yl, none, yf, yk)) (hM : M w gT0 al (yn, yb, yl, none, yf, yk) mc' ms' h (.ref a :: as) P')
    (hS : as.reverse ++ .ref a :: st = S) (hst : (st.map fun v => v.category).sum ≤ 8) (h1 : cs + mc' ≤ mc) (h2 : sl + ms' ≤ ms)
    (kk : ∀ (h1 : gH) (r : Option Value), P' h1 r → G w E al n y mc ms P (cs + mc') (sl + ms') h1 q L (r.toList ++ st)) : G w E al n y mc ms P cs sl h pc L S := by
  subst hq
  subst hS
  intro p e s m args below meth c C H locs ls X1 X2 X3
  obtain ⟨C1, C2, C3, C4, C5, C6, C7, C8, C9, C10, C11⟩ := id C
  obtain ⟨⟨a1, a2, a3, a4, a5⟩, a6, a7, a8, -⟩ := hc
  refine g_back (mc' := mc') (ms' := ms') C X1 X2 X3 (va_runI (As := as.map (gv w)) (b := w.2.2.2.2 + a) ⟨C1, C2, C3, C6, C7⟩ hM ⟨callB_of as.length C7 (gGood a1) rfl rfl rfl (C7 _ a2) (C7 _ a6) ⟨a3, a4, a5⟩ hfit, a8, C7 _ a7⟩ ⟨gPc_blind, fun U hU hW => ⟨rfl, C9.warm hW, ?_, trivial⟩⟩ rfl (by simp) (X3.1) (by simp [gv]) (by simpa [JFrame.monitorRoom] using gRest hst) hd ⟨h1, h2⟩) kk
  rw [hU]
  exact ⟨X1.1, X1.2.1, fun _ => rfl⟩
theorem g_callIN {ix a : Nat} {host : String} {yn : MethodName} {yb : ByteArray} {yl yf yk : Nat} {as S : List Value} {mc' ms' : Nat} {P' : gP} (hd : decode y.2.1 pc = .ok (.invokespecial ix, 3)) (q : Nat) (hq : pc + 3 = q) (hc : gCIN y.1.cls ix (yn, yb, yl, none, yf, yk) as.length host) (hfit : gFit y (yn, yb, yl, none, yf, yk)) (hM : M w gT0 al (yn, yb, yl, none, yf, yk) mc' ms' h (.ref a :: as) P')
    (hS : as.reverse ++ .ref a :: st = S) (hst : (st.map fun v => v.category).sum ≤ 8) (h1 : cs + mc' ≤ mc) (h2 : sl + ms' ≤ ms)
    (kk : ∀ (h1 : gH) (r : Option Value), P' h1 r → G w E al n y mc ms P (cs + mc') (sl + ms') h1 q L (r.toList ++ st)) : G w E al n y mc ms P cs sl h pc L S := by
  subst hq
  subst hS
  intro p e s m args below meth c C H locs ls X1 X2 X3
  obtain ⟨C1, C2, C3, C4, C5, C6, C7, C8, C9, C10, C11⟩ := id C
  obtain ⟨⟨a1, a2, a3, a4, a5⟩, a6, a7, a8, -⟩ := hc
  refine g_back (mc' := mc') (ms' := ms') C X1 X2 X3 (va_runIN (As := as.map (gv w)) (b := w.2.2.2.2 + a) ⟨C1, C2, C3, C6, C7⟩ hM ⟨va_cnB as.length C7 (gGood a1) rfl rfl rfl (C9.2.1 _ a6) (C7 _ a2) ⟨a3, a4, a5⟩ hfit, a8, C7 _ a7⟩ ⟨gPc_blind, fun U hU hW => ⟨rfl, C9.warm hW, ?_, trivial⟩⟩ rfl (by simp) (X3.1) (by simp [gv]) (by simpa [JFrame.monitorRoom] using gRest hst) hd ⟨h1, h2⟩) kk
  rw [hU]
  exact ⟨X1.1, X1.2.1, fun _ => rfl⟩
theorem g_objInit {ix a : Nat} (hd : decode y.2.1 pc = .ok (.invokespecial ix, 3)) (q : Nat) (hq : pc + 3 = q) (h1 : Cond.methodLink y.1.cls ix Lib.objectInit ∈ gTs) (h2 : Cond.instanceMethod Lib.objectInit ∈ gTs) (h3 : Cond.code Lib.objectInit ⟨#[0xb1]⟩ 1 none ∈ gTs) (hf : 1 ≤ y.2.2.2.2.1) (hst : (st.map fun v => v.category).sum ≤ 8) (hl : 20 ≤ y.2.2.2.2.2)
    (kk : G w E al n y mc ms P cs sl h q L st) : G w E al n y mc ms P cs sl h pc L (.ref a :: st) := by
  subst hq
  intro p e s m args below meth c C H locs ls X1 X2 X3
  obtain ⟨C1, C2, C3, C4, C5, C6, C7, C8, C9, C10, C11⟩ := id C
  refine W.objInit C1 C2 C6 (C7 _ h1) (C7 _ h2) (C7 _ h3) rfl (by rw [C3]; exact X3.1) rfl hd hf ?_ (kk p e s m args below meth c C H locs ls X1 X2 X3)
  have := gRest (w := w) hst
  simp [JFrame.monitorRoom] at this ⊢
  show _ ≤ y.2.2.2.2.2
  omega
theorem g_ldc {ix : Nat} (v : Int32) (hd : decode y.2.1 pc = .ok (.ldc ix, 2)) (q : Nat) (hq : pc + 2 = q) (hc : Cond.constant y.1.cls ix v ∈ gTs) (k : G w E al n y mc ms P cs sl h q L (.int v :: st)) : G w E al n y mc ms P cs sl h pc L st := by
  subst hq
  intro p e s m args below meth c C H locs ls X1 X2 X3
  exact lv_ldc C.1 C.2.1 C.2.2.2.2.2.1 (C.2.2.2.2.2.2.1 _ hc) hd (k p e s m args below meth c C H locs ls X1 X2 X3)
theorem g_ldc2 {ix : Nat} (v : Int64) (hd : decode y.2.1 pc = .ok (.ldc2_w ix, 3)) (q : Nat) (hq : pc + 3 = q) (hc : Cond.constantLong y.1.cls ix v ∈ gTs) (k : G w E al n y mc ms P cs sl h q L (.long v :: st)) : G w E al n y mc ms P cs sl h pc L st := by
  subst hq
  intro p e s m args below meth c C H locs ls X1 X2 X3
  exact lv_ldc2 C.1 C.2.1 C.2.2.2.2.2.1 (C.2.2.2.2.2.2.1 _ hc) hd (k p e s m args below meth c C H locs ls X1 X2 X3)
theorem g_ret_aux {p : Program} {s : State} {m : MethodId} {args : Array Value} {meth : Method} {c : Code} {H : Heap} {locs : List Loc} {r : Option Value} (X1 : gHd w al n h H) (X2 : va_S (gA w al n) s.heap H locs) (hP : P h r) : ∀ t : State, t.heap = H → s.WarmedH t.vm → gQ w al n P args s (.returned (r.map (gv w))) t :=
  fun t ht _ => ⟨h, r, rfl, hP, by rw [ht]; exact X1, X2.F ht⟩
theorem g_ireturn {v : Int32} {ty : FieldType} (hd : decode y.2.1 pc = .ok (.ireturn, 1)) (hr : y.2.2.2.1 = some ty) (hn : narrow ty (.int v) = .int v) (h1 : cs ≤ mc) (h2 : sl ≤ ms) (hP : P h (some (.int v))) : G w E al n y mc ms P cs sl h pc L [.int v] := by
  intro p e s m args below meth c C H locs ls X1 X2 X3
  exact W.widen h1 h2 (W.zret C.1 C.2.1 (C.2.2.2.1.trans hr) hn (g_ret_aux (p := p) (m := m) (meth := meth) (c := c) X1 X2 hP) X2.2.2 hd C.2.2.2.2.1)
theorem g_lreturn {v : Int64} (hd : decode y.2.1 pc = .ok (.lreturn, 1)) (hr : y.2.2.2.1 = some .long) (h1 : cs ≤ mc) (h2 : sl ≤ ms) (hP : P h (some (.long v))) : G w E al n y mc ms P cs sl h pc L [.long v] := by
  intro p e s m args below meth c C H locs ls X1 X2 X3
  exact W.widen h1 h2 (W.lret C.1 C.2.1 (C.2.2.2.1.trans hr) (g_ret_aux (p := p) (m := m) (meth := meth) (c := c) X1 X2 hP) X2.2.2 hd C.2.2.2.2.1)
theorem g_areturn {v : Nat} {ty : FieldType} (hd : decode y.2.1 pc = .ok (.areturn, 1)) (hr : y.2.2.2.1 = some ty) (hty : (∃ n, ty = .object n) ∨ ∃ t, ty = .array t) (h1 : cs ≤ mc) (h2 : sl ≤ ms) (hP : P h (some (.ref v))) : G w E al n y mc ms P cs sl h pc L [.ref v] := by
  intro p e s m args below meth c C H locs ls X1 X2 X3
  exact W.widen h1 h2 (W.aret C.1 C.2.1 (C.2.2.2.1.trans hr) hty (Or.inr ⟨_, rfl⟩) (g_ret_aux (p := p) (m := m) (meth := meth) (c := c) X1 X2 hP) X2.2.2 hd C.2.2.2.2.1)
theorem g_areturnN {ty : FieldType} (hd : decode y.2.1 pc = .ok (.areturn, 1)) (hr : y.2.2.2.1 = some ty) (hty : (∃ n, ty = .object n) ∨ ∃ t, ty = .array t) (h1 : cs ≤ mc) (h2 : sl ≤ ms) (hP : P h (some .null)) : G w E al n y mc ms P cs sl h pc L [.null] := by
  intro p e s m args below meth c C H locs ls X1 X2 X3
  exact W.widen h1 h2 (W.aret C.1 C.2.1 (C.2.2.2.1.trans hr) hty (Or.inl rfl) (g_ret_aux (p := p) (m := m) (meth := meth) (c := c) X1 X2 hP) X2.2.2 hd C.2.2.2.2.1)
theorem g_return (hd : decode y.2.1 pc = .ok (.return_, 1)) (hr : y.2.2.2.1 = none) (h1 : cs ≤ mc) (h2 : sl ≤ ms) (hP : P h none) : G w E al n y mc ms P cs sl h pc L [] := by
  intro p e s m args below meth c C H locs ls X1 X2 X3
  exact W.widen h1 h2 (W.vret C.1 C.2.1 (C.2.2.2.1.trans hr) (g_ret_aux (p := p) (m := m) (meth := meth) (c := c) X1 X2 hP) X2.2.2 hd C.2.2.2.2.1)
/-- the cases of a switch -/
def gSw (x : Int32) : List (Int32 × Nat) → Nat → (Nat → Prop) → Prop
  | [], d, F => F d
  | (v, t) :: r, d, F => (x = v → F t) ∧ (¬ x = v → gSw x r d F)
theorem gSw_in {x : Int32} {F : Nat → Prop} {d : Nat} : ∀ (l : List (Int32 × Nat)), gSw x l d F → (∀ q, q ∈ l → x ≠ q.1) → F d
  | [], h, _ => h
  | (v, t) :: r, h, hn => gSw_in r (h.2 (hn (v, t) List.mem_cons_self)) (fun q hq => hn q (List.mem_cons_of_mem _ hq))
theorem gSw_at {x : Int32} {F : Nat → Prop} {d t : Nat} : ∀ (l : List (Int32 × Nat)), gSw x l d F → (l.map (fun q => q.1)).Nodup → (x, t) ∈ l → F t
  | [], _, _, hm => by cases hm
  | (v, t') :: r, h, hn, hm => by
    simp only [List.map_cons, List.nodup_cons] at hn
    rcases List.mem_cons.mp hm with e | hm
    · cases e
      exact h.1 rfl
    · have hne : ¬ x = v := by
        intro e
        apply hn.1
        rw [← e]
        exact List.mem_map.mpr ⟨_, hm, rfl⟩
      exact gSw_at r (h.2 hne) hn.2 hm
/-- a switch's cases as the code has them: from lo on, their places in the code -/
def gSwOk (pc : Nat) (lo : Int) : List Int → List (Int32 × Nat) → Bool
  | [], [] => true
  | o :: os, (v, t) :: r => v.toInt == lo && (pc : Int) + o == (t : Int) && gSwOk pc (lo + 1) os r
  | _, _ => false
theorem gSwOk_at {pc : Nat} : ∀ (os : List Int) (l : List (Int32 × Nat)) (lo : Int), gSwOk pc lo os l = true → ∀ (j : Nat) (o : Int), os[j]? = some o → ∃ v t, (v, t) ∈ l ∧ v.toInt = lo + j ∧ (pc : Int) + o = (t : Int)
  | [], [], lo, _, j, o, hj => by simp at hj
  | [], _ :: _, lo, h, _, _, _ => by simp [gSwOk] at h
  | _ :: _, [], lo, h, _, _, _ => by simp [gSwOk] at h
  | o' :: os, (v, t) :: r, lo, h, j, o, hj => by
    simp only [gSwOk, Bool.and_eq_true, beq_iff_eq] at h
    cases j with
    | zero =>
      rw [List.getElem?_cons_zero] at hj
      cases hj
      exact ⟨v, t, List.mem_cons_self, by rw [h.1.1]; simp, h.1.2⟩
    | succ j =>
      rw [List.getElem?_cons_succ] at hj
      obtain ⟨v', t', h1, h2, h3⟩ := gSwOk_at os r (lo + 1) h.2 j o hj
      exact ⟨v', t', List.mem_cons_of_mem _ h1, by rw [h2]; push_cast; omega, h3⟩
theorem gSwOk_all {pc : Nat} : ∀ (os : List Int) (l : List (Int32 × Nat)) (lo : Int), gSwOk pc lo os l = true → ∀ q, q ∈ l → lo ≤ q.1.toInt ∧ q.1.toInt < lo + os.length
  | [], [], lo, _, q, hq => by cases hq
  | [], _ :: _, lo, h, _, _ => by simp [gSwOk] at h
  | _ :: _, [], lo, h, _, hq => by cases hq
  | o' :: os, (v, t) :: r, lo, h, q, hq => by
    simp only [gSwOk, Bool.and_eq_true, beq_iff_eq] at h
    rcases List.mem_cons.mp hq with e | hq
    · subst e
      simp only [List.length_cons]
      rw [h.1.1]
      push_cast
      omega
    · have := gSwOk_all os r (lo + 1) h.2 q hq
      simp only [List.length_cons]
      push_cast
      omega
theorem g_tsw {dflt lo hi : Int} {offs : Array Int} {len : Nat} {x : Int32} (hd : decode y.2.1 pc = .ok (.tableswitch dflt lo hi offs, len)) (l : List (Int32 × Nat)) (d : Nat) (h1 : gSwOk pc lo offs.toList l = true) (h2 : (l.map (fun q => q.1)).Nodup) (h3 : (pc : Int) + dflt = (d : Int)) (h4 : lo + offs.toList.length = hi + 1)
    (k : gSw x l d (fun t => G w E al n y mc ms P cs sl h t L st)) : G w E al n y mc ms P cs sl h pc L (.int x :: st) := by
  by_cases hx : x.toInt < lo ∨ hi < x.toInt
  · have k1 := gSw_in l k (fun q hq e => by
      have h5 := gSwOk_all _ _ _ h1 q hq
      rw [← e] at h5
      omega)
    intro p e s m args below meth c C H locs ls X1 X2 X3
    exact lv_tableOut C.1 C.2.1 hd hx h3 (k1 p e s m args below meth c C H locs ls X1 X2 X3)
  · have h5 : ¬ x.toInt < lo := fun z => hx (Or.inl z)
    have h6 : ¬ hi < x.toInt := fun z => hx (Or.inr z)
    have h7 : (x.toInt - lo).toNat < offs.toList.length := by omega
    have h8 : offs.toList[(x.toInt - lo).toNat]? = some offs.toList[(x.toInt - lo).toNat] := List.getElem?_eq_getElem h7
    obtain ⟨v, t, g1, g2, g3⟩ := gSwOk_at _ _ _ h1 _ _ h8
    have g4 : v = x := Int32.toInt_inj.mp (by rw [g2]; omega)
    subst g4
    have k1 := gSw_at l k h2 g1
    intro p e s m args below meth c C H locs ls X1 X2 X3
    exact lv_tableIn C.1 C.2.1 hd h5 h6 (by rw [← Array.getElem?_toList]; exact h8) g3 (k1 p e s m args below meth c C H locs ls X1 X2 X3)
theorem g_lsw2 {dflt o1 o2 a1 a2 : Int} {len : Nat} {x : Int32} (hd : decode y.2.1 pc = .ok (.lookupswitch dflt #[(a1, o1), (a2, o2)], len)) (v1 v2 : Int32) (t1 t2 d : Nat) (hv1 : v1.toInt = a1) (hv2 : v2.toInt = a2) (h12 : a1 < a2) (h1 : (pc : Int) + o1 = (t1 : Int)) (h2 : (pc : Int) + o2 = (t2 : Int)) (h3 : (pc : Int) + dflt = (d : Int))
    (k1 : x = v1 → G w E al n y mc ms P cs sl h t1 L st) (k2 : x = v2 → G w E al n y mc ms P cs sl h t2 L st) (k3 : ¬ x = v1 → ¬ x = v2 → G w E al n y mc ms P cs sl h d L st) : G w E al n y mc ms P cs sl h pc L (.int x :: st) := by
  have hs : ((#[(a1, o1), (a2, o2)] : Array (Int × Int)).toList.zip ((#[(a1, o1), (a2, o2)] : Array (Int × Int)).toList.drop 1)).all (fun (a, next) => a.1 < next.1) = true := by simp [h12]
  by_cases e1 : x = v1
  · intro p e s m args below meth c C H locs ls X1 X2 X3
    refine lv_lookup C.1 C.2.1 hd hs (off := o1) ?_ h1 (k1 e1 p e s m args below meth c C H locs ls X1 X2 X3)
    show Op.lookupswitch.offset ((a1, o1) :: _) _ _ = _
    rw [Op.lookupswitch.offset_cons, if_pos (by rw [e1, hv1])]
  · by_cases e2 : x = v2
    · intro p e s m args below meth c C H locs ls X1 X2 X3
      refine lv_lookup C.1 C.2.1 hd hs (off := o2) ?_ h2 (k2 e2 p e s m args below meth c C H locs ls X1 X2 X3)
      show Op.lookupswitch.offset ((a1, o1) :: _) _ _ = _
      rw [lv_osw e1 hv1, Op.lookupswitch.offset_cons, if_pos (by rw [e2, hv2])]
    · intro p e s m args below meth c C H locs ls X1 X2 X3
      refine lv_lookup C.1 C.2.1 hd hs (off := dflt) ?_ h3 (k3 e1 e2 p e s m args below meth c C H locs ls X1 X2 X3)
      show Op.lookupswitch.offset ((a1, o1) :: _) _ _ = _
      rw [lv_osw e1 hv1, lv_osw e2 hv2]
      rfl
end GCalls
/-! entry -/
def gIn : List Value → List Value
  | [] => []
  | v :: r => if v.category = 2 then v :: gF :: gIn r else v :: gIn r
theorem gIn_mem (w : gW) : ∀ (as : List Value) (k i : Nat) (v : Value), (gIn as)[i]? = some v → v ≠ gF → (k + i, gv w v) ∈ lv_args k (as.map (gv w))
  | [], k, i, v, h, _ => by simp [gIn] at h
  | u :: r, k, i, v, h, hv => by
    by_cases hc : u.category = 2
    · rw [gIn, if_pos hc] at h
      rw [List.map_cons, lv_args, if_pos ((gv_cat w u).trans hc)]
      cases i with
      | zero =>
        rw [List.getElem?_cons_zero] at h
        cases h
        exact List.mem_cons_self
      | succ i =>
        cases i with
        | zero =>
          rw [List.getElem?_cons_succ, List.getElem?_cons_zero] at h
          cases h
          exact absurd rfl hv
        | succ i =>
          rw [List.getElem?_cons_succ, List.getElem?_cons_succ] at h
          have := gIn_mem w r (k + 2) i v h hv
          rw [show k + (i + 1 + 1) = k + 2 + i by omega]
          exact List.mem_cons_of_mem _ this
    · rw [gIn, if_neg hc] at h
      rw [List.map_cons, lv_args, if_neg (by rw [gv_cat]; exact hc)]
      cases i with
      | zero =>
        rw [List.getElem?_cons_zero] at h
        cases h
        exact List.mem_cons_self
      | succ i =>
        rw [List.getElem?_cons_succ] at h
        have := gIn_mem w r (k + 1) i v h hv
        rw [show k + (i + 1) = k + 1 + i by omega]
        exact List.mem_cons_of_mem _ this
theorem gIn_len (w : gW) : ∀ (as : List Value), (lg_sl (as.map (gv w))).length = (gIn as).length
  | [] => rfl
  | u :: r => by
    have ih := gIn_len w r
    unfold lg_sl at ih ⊢
    by_cases hc : u.category = 2
    · rw [gIn, if_pos hc, List.map_cons, List.flatMap_cons, if_pos ((gv_cat w u).trans hc)]
      simp only [List.length_append, List.length_cons, List.length_nil]
      rw [ih]; omega
    · rw [gIn, if_neg hc, List.map_cons, List.flatMap_cons, if_neg (by rw [gv_cat]; exact hc)]
      simp only [List.length_append, List.length_cons, List.length_nil]
      rw [ih]; omega
/-- a contract out of the frame at its start -/
theorem M.of {w : gW} {E : State → Prop} {al : Bool} {y : gY} {mc ms : Nat} {h : gH} {as : List Value} {P : gP} (hp : plainName y.1.cls = true) (hl : (gIn as).length ≤ y.2.2.1) {L0 : List Value} (hL : gIn as ++ List.replicate (y.2.2.1 - (gIn as).length) gF = L0)
    (k : G w E al h.length y mc ms P 0 0 h 0 L0 []) : M w E al y mc ms h as P := by
  refine Met.ofW (cc := y.2.1) (maxL := y.2.2.1) (ret := y.2.2.2.1) hp rfl ?_
  intro p e s m args below meth c s₁ B hml hv
  obtain ⟨rfl, hcx, hhd, hE⟩ := hv
  have hts := atoms_spec (ws := .code y.1 y.2.1 y.2.2.1 y.2.2.2.1 :: gTs) B.pre
  have hown : s.vm.findClass y.1.cls = some m.cls := findClass_of_methodNamed B.named
  have hin := (name_of_methodNamed B.named B.method).1
  rw [lg_entry_eq]
  have hle : (lg_sl (as.map (gv w))).length ≤ y.2.2.1 := by rw [gIn_len]; exact hl
  have hent := lv_entry (as.map (gv w)) (n := y.2.2.1) hle
  have hS : va_S (gA w al h.length) s.heap s.heap [] := va_S.rf
  refine k p e s m _ below meth c ⟨B.exec, B.bytes, hml, B.returns, B.notSynchronized, hown, fun q hq => hts q (List.mem_cons_of_mem _ hq), hin, hcx, fun z => by rw [hhd.2.1 z]; omega, hE⟩ s.heap [] _ hhd hS ⟨hent.1, hent.2.1, ?_, fun i v hi hv => ?_⟩
  · rw [← hL]; simp; omega
  · rw [← hL] at hi
    by_cases hlt : i < (gIn as).length
    · rw [List.getElem?_append_left hlt] at hi
      have := gIn_mem w as 0 i v hi hv
      rw [Nat.zero_add] at this
      exact hent.2.2 _ this
    · rw [List.getElem?_append_right (by omega)] at hi
      exact absurd (List.eq_of_mem_replicate (List.mem_of_getElem? hi)) hv
/-- fewer locals known -/
def gFg : List Value → List Value → Prop
  | [], [] => True
  | a :: l, b :: m => (b = a ∨ b = gF) ∧ gFg l m
  | _, _ => False
theorem gFg_at : ∀ (l m : List Value), gFg l m → l.length = m.length ∧ ∀ (i : Nat) (v : Value), m[i]? = some v → v ≠ gF → l[i]? = some v
  | [], [], _ => ⟨rfl, fun i v h => by simp at h⟩
  | [], _ :: _, h => by simp [gFg] at h
  | _ :: _, [], h => by simp [gFg] at h
  | a :: l, b :: m, h => by
    obtain ⟨h1, h2⟩ := h
    obtain ⟨h3, h4⟩ := gFg_at l m h2
    refine ⟨by simp [h3], fun i v hv hn => ?_⟩
    cases i with
    | zero =>
      rw [List.getElem?_cons_zero] at hv ⊢
      cases hv
      rcases h1 with h1 | h1
      · rw [h1]
      · exact absurd h1 hn
    | succ i =>
      rw [List.getElem?_cons_succ] at hv ⊢
      exact h4 i v hv hn
theorem g_fgt {w : gW} {E : State → Prop} {al : Bool} {n : Nat} {y : gY} {mc ms : Nat} {P : gP} {cs sl : Nat} {h : gH} {pc : Nat} {L st : List Value} {L' : List Value} (hf : gFg L L') (k : G w E al n y mc ms P cs sl h pc L' st) : G w E al n y mc ms P cs sl h pc L st := by
  obtain ⟨f1, f2⟩ := gFg_at L L' hf
  intro p e s m args below meth c C H locs ls X1 X2 X3
  exact k p e s m args below meth c C H locs ls X1 X2 ⟨X3.1, X3.2.1, by rw [← f1]; exact X3.2.2.1, fun i v hi hv => X3.2.2.2 i v (f2 i v hi hv) hv⟩
end
section
/-! calls whose contract says just what comes back; steady: nothing is made -/
abbrev gEq (h1 : gH) (r : Option Value) : gP := fun h r' => h = h1 ∧ r' = r
section GExact
variable {w : gW} {E : State → Prop} {al : Bool} {n : Nat} {y : gY} {mc ms : Nat} {P : gP} {cs sl : Nat} {h : gH} {pc : Nat} {L st : List Value}
theorem g_cV0 {ix : Nat} {a : Nat} {y' : gY} {as S : List Value} {ci : Nat} {fs : List Value} {r0 : vw_C} {h1 : gH} (hd : decode y.2.1 pc = .ok (.invokevirtual ix, 3)) (q : Nat) (hq : pc + 3 = q) (hc : gCV y.1.cls ix y' as.length) (hfit : gFit y y') (hM : M w gT0 al y' 0 0 h (.ref a :: as) (gEq h1 none)) (hr0 : vwCl[ci]? = some r0) (hcl : y'.1.cls = r0.1) (he : h[a]? = some (.inr (.inr (ci, fs)))) (hS : as.reverse ++ .ref a :: st = S) (hst : (st.map fun v => v.category).sum ≤ 8) (hcs : cs ≤ mc) (hsl : sl ≤ ms)
    (kk : G w E al n y mc ms P cs sl h1 q L (st)) : G w E al n y mc ms P cs sl h pc L S :=
  g_callV hd q hq hc hfit hM hr0 hcl he hS hst hcs hsl (fun h2 r hr => by
    obtain ⟨rfl, rfl⟩ := hr
    exact kk)
theorem g_cVv {ix : Nat} {a : Nat} {y' : gY} {as S : List Value} {v : Value} {ci : Nat} {fs : List Value} {r0 : vw_C} {h1 : gH} (hd : decode y.2.1 pc = .ok (.invokevirtual ix, 3)) (q : Nat) (hq : pc + 3 = q) (hc : gCV y.1.cls ix y' as.length) (hfit : gFit y y') (hM : M w gT0 al y' 0 0 h (.ref a :: as) (gEq h1 (some v))) (hr0 : vwCl[ci]? = some r0) (hcl : y'.1.cls = r0.1) (he : h[a]? = some (.inr (.inr (ci, fs)))) (hS : as.reverse ++ .ref a :: st = S) (hst : (st.map fun v => v.category).sum ≤ 8) (hcs : cs ≤ mc) (hsl : sl ≤ ms)
    (kk : G w E al n y mc ms P cs sl h1 q L (v :: st)) : G w E al n y mc ms P cs sl h pc L S :=
  g_callV hd q hq hc hfit hM hr0 hcl he hS hst hcs hsl (fun h2 r hr => by
    obtain ⟨rfl, rfl⟩ := hr
    exact kk)
theorem g_cVN0 {ix : Nat} {a : Nat} {host : String} {y' : gY} {as S : List Value} {ci : Nat} {fs : List Value} {r0 : vw_C} {h1 : gH} (hd : decode y.2.1 pc = .ok (.invokevirtual ix, 3)) (q : Nat) (hq : pc + 3 = q) (hc : gCVN y.1.cls ix y' as.length host) (hfit : gFit y y') (hM : M w gT0 al y' 0 0 h (.ref a :: as) (gEq h1 none)) (hr0 : vwCl[ci]? = some r0) (hcl : y'.1.cls = r0.1) (he : h[a]? = some (.inr (.inr (ci, fs)))) (hS : as.reverse ++ .ref a :: st = S) (hst : (st.map fun v => v.category).sum ≤ 8) (hcs : cs ≤ mc) (hsl : sl ≤ ms)
    (kk : G w E al n y mc ms P cs sl h1 q L (st)) : G w E al n y mc ms P cs sl h pc L S :=
  g_callVN hd q hq hc hfit hM hr0 hcl he hS hst hcs hsl (fun h2 r hr => by
    obtain ⟨rfl, rfl⟩ := hr
    exact kk)
theorem g_cVNv {ix : Nat} {a : Nat} {host : String} {y' : gY} {as S : List Value} {v : Value} {ci : Nat} {fs : List Value} {r0 : vw_C} {h1 : gH} (hd : decode y.2.1 pc = .ok (.invokevirtual ix, 3)) (q : Nat) (hq : pc + 3 = q) (hc : gCVN y.1.cls ix y' as.length host) (hfit : gFit y y') (hM : M w gT0 al y' 0 0 h (.ref a :: as) (gEq h1 (some v))) (hr0 : vwCl[ci]? = some r0) (hcl : y'.1.cls = r0.1) (he : h[a]? = some (.inr (.inr (ci, fs)))) (hS : as.reverse ++ .ref a :: st = S) (hst : (st.map fun v => v.category).sum ≤ 8) (hcs : cs ≤ mc) (hsl : sl ≤ ms)
    (kk : G w E al n y mc ms P cs sl h1 q L (v :: st)) : G w E al n y mc ms P cs sl h pc L S :=
  g_callVN hd q hq hc hfit hM hr0 hcl he hS hst hcs hsl (fun h2 r hr => by
    obtain ⟨rfl, rfl⟩ := hr
    exact kk)
theorem g_cS0 {ix : Nat} {y' : gY} {as S : List Value} {h1 : gH} (hd : decode y.2.1 pc = .ok (.invokestatic ix, 3)) (q : Nat) (hq : pc + 3 = q) (hc : gCS y.1.cls ix y' as.length) (hfit : gFit y y') (hM : M w gT0 al y' 0 0 h as (gEq h1 none)) (hS : as.reverse ++ st = S) (hst : (st.map fun v => v.category).sum ≤ 8) (hcs : cs ≤ mc) (hsl : sl ≤ ms)
    (kk : G w E al n y mc ms P cs sl h1 q L (st)) : G w E al n y mc ms P cs sl h pc L S :=
  g_callS hd q hq hc hfit hM hS hst hcs hsl (fun h2 r hr => by
    obtain ⟨rfl, rfl⟩ := hr
    exact kk)
theorem g_cSv {ix : Nat} {y' : gY} {as S : List Value} {v : Value} {h1 : gH} (hd : decode y.2.1 pc = .ok (.invokestatic ix, 3)) (q : Nat) (hq : pc + 3 = q) (hc : gCS y.1.cls ix y' as.length) (hfit : gFit y y') (hM : M w gT0 al y' 0 0 h as (gEq h1 (some v))) (hS : as.reverse ++ st = S) (hst : (st.map fun v => v.category).sum ≤ 8) (hcs : cs ≤ mc) (hsl : sl ≤ ms)
    (kk : G w E al n y mc ms P cs sl h1 q L (v :: st)) : G w E al n y mc ms P cs sl h pc L S :=
  g_callS hd q hq hc hfit hM hS hst hcs hsl (fun h2 r hr => by
    obtain ⟨rfl, rfl⟩ := hr
    exact kk)
theorem g_cSN0 {ix : Nat} {host : String} {y' : gY} {as S : List Value} {h1 : gH} (hd : decode y.2.1 pc = .ok (.invokestatic ix, 3)) (q : Nat) (hq : pc + 3 = q) (hc : gCSN y.1.cls ix y' as.length host) (hfit : gFit y y') (hM : M w gT0 al y' 0 0 h as (gEq h1 none)) (hS : as.reverse ++ st = S) (hst : (st.map fun v => v.category).sum ≤ 8) (hcs : cs ≤ mc) (hsl : sl ≤ ms)
    (kk : G w E al n y mc ms P cs sl h1 q L (st)) : G w E al n y mc ms P cs sl h pc L S :=
  g_callSN hd q hq hc hfit hM hS hst hcs hsl (fun h2 r hr => by
    obtain ⟨rfl, rfl⟩ := hr
    exact kk)
theorem g_cSNv {ix : Nat} {host : String} {y' : gY} {as S : List Value} {v : Value} {h1 : gH} (hd : decode y.2.1 pc = .ok (.invokestatic ix, 3)) (q : Nat) (hq : pc + 3 = q) (hc : gCSN y.1.cls ix y' as.length host) (hfit : gFit y y') (hM : M w gT0 al y' 0 0 h as (gEq h1 (some v))) (hS : as.reverse ++ st = S) (hst : (st.map fun v => v.category).sum ≤ 8) (hcs : cs ≤ mc) (hsl : sl ≤ ms)
    (kk : G w E al n y mc ms P cs sl h1 q L (v :: st)) : G w E al n y mc ms P cs sl h pc L S :=
  g_callSN hd q hq hc hfit hM hS hst hcs hsl (fun h2 r hr => by
    obtain ⟨rfl, rfl⟩ := hr
    exact kk)
theorem g_cI0 {ix : Nat} {a : Nat} {yn : MethodName} {yb : ByteArray} {yl yf yk : Nat} {as S : List Value} {h1 : gH} (hd : decode y.2.1 pc = .ok (.invokespecial ix, 3)) (q : Nat) (hq : pc + 3 = q) (hc : gCI y.1.cls ix (yn, yb, yl, none, yf, yk) as.length) (hfit : gFit y (yn, yb, yl, none, yf, yk)) (hM : M w gT0 al (yn, yb, yl, none, yf, yk) 0 0 h (.ref a :: as) (gEq h1 none)) (hS : as.reverse ++ .ref a :: st = S) (hst : (st.map fun v => v.category).sum ≤ 8) (hcs : cs ≤ mc) (hsl : sl ≤ ms)
    (kk : G w E al n y mc ms P cs sl h1 q L (st)) : G w E al n y mc ms P cs sl h pc L S :=
  g_callI hd q hq hc hfit hM hS hst hcs hsl (fun h2 r hr => by
    obtain ⟨rfl, rfl⟩ := hr
    exact kk)
theorem g_cIN0 {ix : Nat} {a : Nat} {host : String} {yn : MethodName} {yb : ByteArray} {yl yf yk : Nat} {as S : List Value} {h1 : gH} (hd : decode y.2.1 pc = .ok (.invokespecial ix, 3)) (q : Nat) (hq : pc + 3 = q) (hc : gCIN y.1.cls ix (yn, yb, yl, none, yf, yk) as.length host) (hfit : gFit y (yn, yb, yl, none, yf, yk)) (hM : M w gT0 al (yn, yb, yl, none, yf, yk) 0 0 h (.ref a :: as) (gEq h1 none)) (hS : as.reverse ++ .ref a :: st = S) (hst : (st.map fun v => v.category).sum ≤ 8) (hcs : cs ≤ mc) (hsl : sl ≤ ms)
    (kk : G w E al n y mc ms P cs sl h1 q L (st)) : G w E al n y mc ms P cs sl h pc L S :=
  g_callIN hd q hq hc hfit hM hS hst hcs hsl (fun h2 r hr => by
    obtain ⟨rfl, rfl⟩ := hr
    exact kk)
end GExact
end
section
/-! small numbers: bits of sets, as Nat -/
theorem z_inj {x z : Int32} (h : x.toBitVec = z.toBitVec) : x = z := Int32.toBitVec_inj.mp h
theorem z_bv (n : Nat) : (nI n).toBitVec = BitVec.ofNat 32 n := rfl
theorem z_or (a b : Nat) : nI a ||| nI b = nI (a ||| b) := by
  apply z_inj
  rw [Int32.toBitVec_or, z_bv, z_bv, z_bv]
  apply BitVec.eq_of_getLsbD_eq
  intro i hi
  simp [hi]
theorem z_and (a b : Nat) : nI a &&& nI b = nI (a &&& b) := by
  apply z_inj
  rw [Int32.toBitVec_and, z_bv, z_bv, z_bv]
  apply BitVec.eq_of_getLsbD_eq
  intro i hi
  simp [hi]
theorem z_andn (a b : Nat) : nI a &&& (nI b ^^^ (-1)) = nI (a ^^^ (a &&& b)) := by
  apply z_inj
  rw [Int32.toBitVec_and, Int32.toBitVec_xor, z_bv, z_bv, z_bv]
  apply BitVec.eq_of_getLsbD_eq
  intro i hi
  have h1 : ((-1 : Int32).toBitVec).getLsbD i = true := by
    rw [show (-1 : Int32).toBitVec = BitVec.allOnes 32 from by decide, BitVec.getLsbD_allOnes]
    exact decide_eq_true hi
  simp only [BitVec.getLsbD_and, BitVec.getLsbD_xor, BitVec.getLsbD_ofNat, h1, hi, decide_true, Bool.true_and, Nat.testBit_xor, Nat.testBit_and]
  cases a.testBit i <;> cases b.testBit i <;> rfl
theorem z_sm : ∀ n, n < 32 → ((nI n &&& 31).toBitVec.smod 32).toNat = n := by decide +kernel
theorem z_shl (a : Nat) {k : Nat} (hk : k < 32) : nI a <<< (nI k &&& 31) = nI (a * 2 ^ k) := by
  apply z_inj
  apply BitVec.eq_of_toNat_eq
  rw [pk_shl _ _ k (z_sm k hk), z_bv, z_bv, BitVec.toNat_ofNat, BitVec.toNat_ofNat]
  rw [Nat.mul_mod, Nat.mod_mod, ← Nat.mul_mod]
theorem z_1shl {k : Nat} (hk : k < 32) : (1 : Int32) <<< (nI k &&& 31) = nI (2 ^ k) := by
  have := z_shl 1 hk
  rw [Nat.one_mul] at this
  exact this
theorem z_shr {a k : Nat} (ha : a < 2 ^ 31) (hk : k < 32) : nI a >>> (nI k &&& 31) = nI (a / 2 ^ k) := pk_shrN ha _ k (z_sm k hk)
theorem z_bit {a k : Nat} (ha : a < 2 ^ 31) (hk : k < 32) : (nI a >>> (nI k &&& 31)) &&& 1 = nI (a / 2 ^ k % 2) := by
  rw [z_shr ha hk]
  have := z_and (a / 2 ^ k) 1
  rw [Nat.and_one_is_mod] at this
  exact this
theorem z_tb (a k : Nat) : (a / 2 ^ k % 2 = 1) = (a.testBit k = true) := by
  rw [Nat.testBit_eq_decide_div_mod_eq]
  simp
theorem z_bit1 {a k : Nat} (ha : a < 2 ^ 31) (hk : k < 32) : ((nI a >>> (nI k &&& 31)) &&& 1 = 1) = (a.testBit k = true) := by
  rw [z_bit ha hk, ← z_tb]
  have h : a / 2 ^ k % 2 < 2 := Nat.mod_lt _ (by decide)
  generalize a / 2 ^ k % 2 = r at h
  have h1 : (nI r = 1) = (nI r = nI 1) := rfl
  rw [h1, eq_iff_iff]
  exact nI_eq (by omega) (by omega)
theorem z_bit0 {a k : Nat} (ha : a < 2 ^ 31) (hk : k < 32) : ((nI a >>> (nI k &&& 31)) &&& 1 = 0) = (a.testBit k = false) := by
  rw [z_bit ha hk, ← Bool.not_eq_true, ← z_tb]
  have h : a / 2 ^ k % 2 < 2 := Nat.mod_lt _ (by decide)
  generalize a / 2 ^ k % 2 = r at h
  have h1 : (nI r = 0) = (nI r = nI 0) := rfl
  rw [h1, eq_iff_iff, nI_eq (by omega) (by omega)]
  omega
theorem z_le {a b : Nat} : a ^^^ (a &&& b) ≤ a := by
  apply Nat.le_of_testBit
  intro i hi
  rw [Nat.testBit_xor, Nat.testBit_and] at hi
  cases h : a.testBit i
  · rw [h] at hi; simp at hi
  · rfl
theorem z_and_le {a b : Nat} : a &&& b ≤ b := Nat.and_le_right
theorem z_or_lt {a b k : Nat} (ha : a < 2 ^ k) (hb : b < 2 ^ k) : a ||| b < 2 ^ k := Nat.or_lt_two_pow ha hb
end
section
/-! the reference: its heap, and its methods without a loop -/
def hM (text : Int32 → Int32) (typed : Int32) (told draft s past : Int32 → Int32) (known : Int32) (images : Int32 → Int32) (kept : Int32) (notes : Int32 → Int32) (noted at_ : Int32) (alone parts held : Int32 → Int32) : gH :=
  [.inr (.inr (10, [.ref 1, .int typed, .ref 2, .ref 3, .ref 4, .ref 5, .int known, .ref 6, .int kept, .ref 7, .int noted, .int at_, .ref 8, .ref 9, .ref 10])), .inl (200, text), .inl (40, told), .inl (40, draft), .inl (21, s), .inl (168, past), .inl (42, images), .inl (5, notes), .inl (512, alone), .inl (512, parts), .inl (21, held)]
def gB (b : Bool) : Int32 := if b = true then 1 else 0
theorem gB_f {b : Bool} (h : gB b = 0) : ¬ b = true := by cases b <;> simp_all [gB]
theorem gB_t {b : Bool} (h : ¬ gB b = 0) : b = true := by cases b <;> simp_all [gB]
theorem gB_0 {b : Bool} (h : ¬ b = true) : gB b = 0 := by cases b <;> simp_all [gB]
theorem gB_1 {b : Bool} (h : b = true) : ¬ gB b = 0 := by cases b <;> simp_all [gB]
def gLp {α : Type} (f : Nat → α → α) : Nat → Nat → α → α
  | 0, _, a => a
  | d + 1, i, a => gLp f d (i + 1) (f i a)
/-- a loop with a stop of its own: the body says whether it stops -/
def gWh {α : Type} (f : Nat → α → Bool × α) : Nat → Nat → α → α
  | 0, _, a => a
  | d + 1, i, a => if (f i a).1 = true then (f i a).2 else gWh f d (i + 1) (f i a).2
def gWhT {α : Type} (f : Nat → α → Bool × α) : Nat → Nat → α → Prop
  | 0, _, _ => False
  | d + 1, i, a => (f i a).1 = true ∨ gWhT f d (i + 1) (f i a).2
theorem gWh_t {α : Type} {f : Nat → α → Bool × α} {d i : Nat} {a b : α} (e : f i a = (true, b)) : gWh f (d + 1) i a = b := by rw [gWh, e]; rfl
theorem gWh_f {α : Type} {f : Nat → α → Bool × α} {d i : Nat} {a b : α} (e : f i a = (false, b)) : gWh f (d + 1) i a = gWh f d (i + 1) b := by rw [gWh, e]; rfl
theorem gWhT_f {α : Type} {f : Nat → α → Bool × α} {d i : Nat} {a b : α} (e : f i a = (false, b)) (h : gWhT f (d + 1) i a) : gWhT f d (i + 1) b := by rw [gWhT, e] at h; exact h.resolve_left (by simp)
theorem gB_nar (b : Bool) : narrow .boolean (.int (gB b)) = .int (gB b) := by cases b <;> rfl
def rX10_in (v : Int32) (low : Int32) (high : Int32) : Bool := (if v < low then false else (if high < v then false else true))
set_option maxRecDepth 100000 in
set_option maxHeartbeats 4000000 in
theorem MX10_in {w : gW} {al : Bool} {h : gH}  (v : Int32) (low : Int32) (high : Int32)  : M w gT0 al mX10_in 0 0 h [.int v, .int low, .int high] (gEq h (some (.int (gB (rX10_in v low high))))) := by
  refine M.of (L0 := [.int v, .int low, .int high]) (by decide +kernel) (Nat.le_of_ble_eq_true rfl) rfl ?_
  refine g_iload_n dX10_in_0 rfl 1 rfl rfl ?_
  refine g_iload_n dX10_in_1 rfl 2 rfl rfl ?_
  refine g_icmp_lt dX10_in_2 14 rfl 5 rfl (fun c1 => ?_) (fun c1 => ?_)
  · refine g_iconst 0 dX10_in_14 15 rfl (by decide) ?_
    refine g_ireturn dX10_in_15 rfl rfl (Nat.le_refl _) (Nat.le_refl _) ?_
    have e : (rX10_in v low high) = false := by rw [rX10_in, if_pos c1]
    rw [e]
    exact ⟨rfl, rfl⟩
  · refine g_iload_n dX10_in_5 rfl 6 rfl rfl ?_
    refine g_iload_n dX10_in_6 rfl 7 rfl rfl ?_
    refine g_icmp_gt dX10_in_7 14 rfl 10 rfl (fun c2 => ?_) (fun c2 => ?_)
    · refine g_iconst 0 dX10_in_14 15 rfl (by decide) ?_
      refine g_ireturn dX10_in_15 rfl rfl (Nat.le_refl _) (Nat.le_refl _) ?_
      have e : (rX10_in v low high) = false := by rw [rX10_in, if_neg c1, if_pos c2]
      rw [e]
      exact ⟨rfl, rfl⟩
    · refine g_iconst 1 dX10_in_10 11 rfl (by decide) ?_
      refine g_goto dX10_in_11 15 rfl ?_
      refine g_ireturn dX10_in_15 rfl rfl (Nat.le_refl _) (Nat.le_refl _) ?_
      have e : (rX10_in v low high) = true := by rw [rX10_in, if_neg c1, if_neg c2]
      rw [e]
      exact ⟨rfl, rfl⟩
def rX10_isPerson (told : Int32 → Int32) (p : Int32) : Bool := (rX10_in p 0 ((told 0) - 1))
set_option maxRecDepth 100000 in
set_option maxHeartbeats 4000000 in
theorem MX10_isPerson {w : gW} {al : Bool} {typed known kept noted at_ : Int32} {text told draft s past images notes alone parts held : Int32 → Int32}  (p : Int32)  : M w gT0 al mX10_isPerson 0 0 (hM text typed told draft s past known images kept notes noted at_ alone parts held) [.ref 0, .int p] (gEq (hM text typed told draft s past known images kept notes noted at_ alone parts held) (some (.int (gB (rX10_isPerson told p))))) := by
  refine M.of (L0 := [.ref 0, .int p]) (by decide +kernel) (Nat.le_of_ble_eq_true rfl) rfl ?_
  refine g_iload_n dX10_isPerson_0 rfl 1 rfl rfl ?_
  refine g_iconst 0 dX10_isPerson_1 2 rfl (by decide) ?_
  refine g_aload_n dX10_isPerson_2 rfl 3 rfl rfl ?_
  refine g_get (v := .ref 2) dX10_isPerson_3 6 rfl lX10_13 rfl rfl ?_
  refine g_iconst 0 dX10_isPerson_6 7 rfl (by decide) ?_
  refine g_iaload (N := 40) dX10_isPerson_7 8 rfl rfl (vp_in_iff.mpr (by decide)) ?_
  refine g_iconst 1 dX10_isPerson_8 9 rfl (by decide) ?_
  refine g_isub dX10_isPerson_9 10 rfl ?_
  refine g_cSv (as := [.int p, .int 0, .int ((told 0) - 1)]) (st := []) dX10_isPerson_10 13 rfl kX10_50 ⟨Nat.le_of_ble_eq_true rfl, Nat.le_of_ble_eq_true rfl⟩ (MX10_in p 0 ((told 0) - 1)) rfl (Nat.le_of_ble_eq_true rfl) (Nat.le_refl _) (Nat.le_refl _) ?_
  refine g_ireturn dX10_isPerson_13 rfl (gB_nar _) (Nat.le_refl _) (Nat.le_refl _) ?_
  have e : (rX10_isPerson told p) = (rX10_in p 0 ((told 0) - 1)) := by rw [rX10_isPerson]
  rw [e]
  exact ⟨rfl, rfl⟩
def rX10_isFigure (v : Int32) : Bool := (rX10_in v 48 57)
set_option maxRecDepth 100000 in
set_option maxHeartbeats 4000000 in
theorem MX10_isFigure {w : gW} {al : Bool} {h : gH}  (v : Int32)  : M w gT0 al mX10_isFigure 0 0 h [.int v] (gEq h (some (.int (gB (rX10_isFigure v))))) := by
  refine M.of (L0 := [.int v]) (by decide +kernel) (Nat.le_of_ble_eq_true rfl) rfl ?_
  refine g_iload_n dX10_isFigure_0 rfl 1 rfl rfl ?_
  refine g_bipush 48 dX10_isFigure_1 3 rfl (by decide) ?_
  refine g_bipush 57 dX10_isFigure_3 5 rfl (by decide) ?_
  refine g_cSv (as := [.int v, .int 48, .int 57]) (st := []) dX10_isFigure_5 8 rfl kX10_50 ⟨Nat.le_of_ble_eq_true rfl, Nat.le_of_ble_eq_true rfl⟩ (MX10_in v 48 57) rfl (Nat.le_of_ble_eq_true rfl) (Nat.le_refl _) (Nat.le_refl _) ?_
  refine g_ireturn dX10_isFigure_8 rfl (gB_nar _) (Nat.le_refl _) (Nat.le_refl _) ?_
  have e : (rX10_isFigure v) = (rX10_in v 48 57) := by rw [rX10_isFigure]
  rw [e]
  exact ⟨rfl, rfl⟩
def rX10_where (told : Int32 → Int32) (s : Int32 → Int32) (p : Nat) : Int32 := (if (s (nI p)) ≤ 0 then (if (s 18) < (told (nI (22 + p))) then 0 else 1) else (s (nI p)))
set_option maxRecDepth 100000 in
set_option maxHeartbeats 4000000 in
theorem MX10_where {w : gW} {al : Bool} {typed known kept noted at_ : Int32} {text told draft s past images notes alone parts held : Int32 → Int32}  (p : Nat) (hp : p < 9) : M w gT0 al mX10_where 0 0 (hM text typed told draft s past known images kept notes noted at_ alone parts held) [.ref 0, .int (nI p)] (gEq (hM text typed told draft s past known images kept notes noted at_ alone parts held) (some (.int (rX10_where told s p)))) := by
  refine M.of (L0 := [.ref 0, .int (nI p)]) (by decide +kernel) (Nat.le_of_ble_eq_true rfl) rfl ?_
  refine g_aload_n dX10_where_0 rfl 1 rfl rfl ?_
  refine g_get (v := .ref 4) dX10_where_1 4 rfl lX10_19 rfl rfl ?_
  refine g_iload_n dX10_where_4 rfl 5 rfl rfl ?_
  refine g_iaload (N := 21) dX10_where_5 6 rfl rfl (vp_in_nI (by omega) (by decide)) ?_
  refine g_if_le dX10_where_6 18 rfl 9 rfl (fun c1 => ?_) (fun c1 => ?_)
  · refine g_aload_n dX10_where_18 rfl 19 rfl rfl ?_
    refine g_get (v := .ref 4) dX10_where_19 22 rfl lX10_19 rfl rfl ?_
    refine g_bipush 18 dX10_where_22 24 rfl (by decide) ?_
    refine g_iaload (N := 21) dX10_where_24 25 rfl rfl (vp_in_iff.mpr (by decide)) ?_
    refine g_aload_n dX10_where_25 rfl 26 rfl rfl ?_
    refine g_get (v := .ref 2) dX10_where_26 29 rfl lX10_13 rfl rfl ?_
    refine g_bipush 22 dX10_where_29 31 rfl (by decide) ?_
    refine g_iload_n dX10_where_31 rfl 32 rfl rfl ?_
    refine g_iadd' dX10_where_32 33 rfl (nI (22 + p)) (nI_add 22 _) ?_
    refine g_iaload (N := 40) dX10_where_33 34 rfl rfl (vp_in_nI (by omega) (by decide)) ?_
    refine g_icmp_lt dX10_where_34 41 rfl 37 rfl (fun c2 => ?_) (fun c2 => ?_)
    · refine g_iconst 0 dX10_where_41 42 rfl (by decide) ?_
      refine g_ireturn dX10_where_42 rfl rfl (Nat.le_refl _) (Nat.le_refl _) ?_
      have e : (rX10_where told s p) = 0 := by rw [rX10_where, if_pos c1, if_pos c2]
      rw [e]
      exact ⟨rfl, rfl⟩
    · refine g_iconst 1 dX10_where_37 38 rfl (by decide) ?_
      refine g_goto dX10_where_38 42 rfl ?_
      refine g_ireturn dX10_where_42 rfl rfl (Nat.le_refl _) (Nat.le_refl _) ?_
      have e : (rX10_where told s p) = 1 := by rw [rX10_where, if_pos c1, if_neg c2]
      rw [e]
      exact ⟨rfl, rfl⟩
  · refine g_aload_n dX10_where_9 rfl 10 rfl rfl ?_
    refine g_get (v := .ref 4) dX10_where_10 13 rfl lX10_19 rfl rfl ?_
    refine g_iload_n dX10_where_13 rfl 14 rfl rfl ?_
    refine g_iaload (N := 21) dX10_where_14 15 rfl rfl (vp_in_nI (by omega) (by decide)) ?_
    refine g_goto dX10_where_15 42 rfl ?_
    refine g_ireturn dX10_where_42 rfl rfl (Nat.le_refl _) (Nat.le_refl _) ?_
    have e : (rX10_where told s p) = (s (nI p)) := by rw [rX10_where, if_neg c1]
    rw [e]
    exact ⟨rfl, rfl⟩
def rX10_write (text : Int32 → Int32) (letter : Int32) (ty : Nat) : Int32 × (Int32 → Int32) × Nat := (if (rX10_in letter 32 126) = true then (if (nI ty) = 200 then ((-3), text, ty) else ((nI (ty + 1)), (gup text (nI ty) letter), ty + 1)) else ((-1), text, ty))
set_option maxRecDepth 100000 in
set_option maxHeartbeats 4000000 in
theorem MX10_write {w : gW} {al : Bool} {known kept noted at_ : Int32} {text told draft s past images notes alone parts held : Int32 → Int32} {ty : Nat} (letter : Int32) (ht : ty ≤ 200) : M w gT0 al mX10_write 0 0 (hM text (nI ty) told draft s past known images kept notes noted at_ alone parts held) [.ref 0, .int letter] (gEq (hM ((rX10_write text letter ty).2.1) (nI ((rX10_write text letter ty).2.2)) told draft s past known images kept notes noted at_ alone parts held) (some (.int ((rX10_write text letter ty).1)))) := by
  refine M.of (L0 := [.ref 0, .int letter]) (by decide +kernel) (Nat.le_of_ble_eq_true rfl) rfl ?_
  refine g_iload_n dX10_write_0 rfl 1 rfl rfl ?_
  refine g_bipush 32 dX10_write_1 3 rfl (by decide) ?_
  refine g_bipush 126 dX10_write_3 5 rfl (by decide) ?_
  refine g_cSv (as := [.int letter, .int 32, .int 126]) (st := []) dX10_write_5 8 rfl kX10_50 ⟨Nat.le_of_ble_eq_true rfl, Nat.le_of_ble_eq_true rfl⟩ (MX10_in letter 32 126) rfl (Nat.le_of_ble_eq_true rfl) (Nat.le_refl _) (Nat.le_refl _) ?_
  refine g_if_ne dX10_write_8 13 rfl 11 rfl (fun c1 => ?_) (fun c1 => ?_)
  · replace c1 := gB_t c1
    refine g_aload_n dX10_write_13 rfl 14 rfl rfl ?_
    refine g_get (v := .int (nI ty)) dX10_write_14 17 rfl lX10_54 rfl rfl ?_
    refine g_sipush 200 dX10_write_17 20 rfl (by decide) ?_
    refine g_icmp_ne dX10_write_20 26 rfl 23 rfl (fun c2 => ?_) (fun c2 => ?_)
    · refine g_aload_n dX10_write_26 rfl 27 rfl rfl ?_
      refine g_get (v := .ref 1) dX10_write_27 30 rfl lX10_7 rfl rfl ?_
      refine g_aload_n dX10_write_30 rfl 31 rfl rfl ?_
      refine g_get (v := .int (nI ty)) dX10_write_31 34 rfl lX10_54 rfl rfl ?_
      refine g_iload_n dX10_write_34 rfl 35 rfl rfl ?_
      refine g_iastore (N := 200) dX10_write_35 36 rfl rfl (by decide) (vp_in_nI (by have q : ¬ nI ty = 200 := c2; have q2 : ty ≠ 200 := fun z => q (by rw [z]; rfl); omega) (by decide)) (h' := (hM (gup text (nI ty) letter) (nI ty) told draft s past known images kept notes noted at_ alone parts held)) rfl ?_
      refine g_aload_n dX10_write_36 rfl 37 rfl rfl ?_
      refine g_dup dX10_write_37 38 rfl rfl ?_
      refine g_get (v := .int (nI ty)) dX10_write_38 41 rfl lX10_54 rfl rfl ?_
      refine g_iconst 1 dX10_write_41 42 rfl (by decide) ?_
      refine g_iadd' dX10_write_42 43 rfl (nI (ty + 1)) (nI_add _ 1) ?_
      refine g_put dX10_write_43 46 rfl lX10_54 wrX10 rfl rfl rfl rfl rfl (Nat.le_of_ble_eq_true rfl) (h' := (hM (gup text (nI ty) letter) (nI (ty + 1)) told draft s past known images kept notes noted at_ alone parts held)) rfl ?_
      refine g_aload_n dX10_write_46 rfl 47 rfl rfl ?_
      refine g_get (v := .int (nI (ty + 1))) dX10_write_47 50 rfl lX10_54 rfl rfl ?_
      refine g_ireturn dX10_write_50 rfl rfl (Nat.le_refl _) (Nat.le_refl _) ?_
      have e : (rX10_write text letter ty) = ((nI (ty + 1)), (gup text (nI ty) letter), ty + 1) := by rw [rX10_write, if_pos c1, if_neg c2]
      rw [e]
      exact ⟨rfl, rfl⟩
    · refine g_bipush (-3) dX10_write_23 25 rfl (by decide) ?_
      refine g_ireturn dX10_write_25 rfl rfl (Nat.le_refl _) (Nat.le_refl _) ?_
      have e : (rX10_write text letter ty) = ((-3), text, ty) := by rw [rX10_write, if_pos c1, if_pos c2]
      rw [e]
      exact ⟨rfl, rfl⟩
  · replace c1 := gB_f c1
    refine g_iconst (-1) dX10_write_11 12 rfl (by decide) ?_
    refine g_ireturn dX10_write_12 rfl rfl (Nat.le_refl _) (Nat.le_refl _) ?_
    have e : (rX10_write text letter ty) = ((-1), text, ty) := by rw [rX10_write, if_neg c1]
    rw [e]
    exact ⟨rfl, rfl⟩
def rX10_wipe (typed : Int32) : Int32 × Int32 := (typed, 0)
set_option maxRecDepth 100000 in
set_option maxHeartbeats 4000000 in
theorem MX10_wipe {w : gW} {al : Bool} {typed known kept noted at_ : Int32} {text told draft s past images notes alone parts held : Int32 → Int32}   : M w gT0 al mX10_wipe 0 0 (hM text typed told draft s past known images kept notes noted at_ alone parts held) [.ref 0] (gEq (hM text ((rX10_wipe typed).2) told draft s past known images kept notes noted at_ alone parts held) (some (.int ((rX10_wipe typed).1)))) := by
  refine M.of (L0 := [.ref 0, gF]) (by decide +kernel) (Nat.le_of_ble_eq_true rfl) rfl ?_
  refine g_aload_n dX10_wipe_0 rfl 1 rfl rfl ?_
  refine g_get (v := .int typed) dX10_wipe_1 4 rfl lX10_54 rfl rfl ?_
  refine g_istore1 dX10_wipe_4 5 rfl (by decide) rfl ?_
  refine g_aload_n dX10_wipe_5 rfl 6 rfl rfl ?_
  refine g_iconst 0 dX10_wipe_6 7 rfl (by decide) ?_
  refine g_put dX10_wipe_7 10 rfl lX10_54 wrX10 rfl rfl rfl rfl rfl (Nat.le_of_ble_eq_true rfl) (h' := (hM text 0 told draft s past known images kept notes noted at_ alone parts held)) rfl ?_
  refine g_iload_n dX10_wipe_10 rfl 11 rfl rfl ?_
  refine g_ireturn dX10_wipe_11 rfl rfl (Nat.le_refl _) (Nat.le_refl _) ?_
  have e : (rX10_wipe typed) = (typed, 0) := by rw [rX10_wipe]
  rw [e]
  exact ⟨rfl, rfl⟩
def fX10_ones_4 (bits : Int32) : Nat → (Int32) → (Int32)
  | i, u0 => (u0 + ((bits >>> ((nI i) &&& 31)) &&& 1))
set_option maxRecDepth 100000 in
set_option maxHeartbeats 4000000 in
theorem LX10_ones_4 {w : gW} {al : Bool} {h : gH} {n : Nat} {P : gP}  {bits : Int32}  : ∀ (d i : Nat) (u0 : Int32), i + d = 9 → G w gT0 al n mX10_ones 0 0 P 0 0 h 24 [.int bits, .int (gLp (fX10_ones_4 bits) d i u0), .int (nI 9)] [] → G w gT0 al n mX10_ones 0 0 P 0 0 h 4 [.int bits, .int u0, .int (nI i)] []
  | 0, i, u0, hi, k => by
    have hN : i = 9 := by omega
    rw [hN]
    rw [hN] at k
    refine g_iload_n dX10_ones_4 rfl 5 rfl rfl ?_
    refine g_bipush 9 dX10_ones_5 7 rfl (by decide) ?_
    refine g_icmp_ge dX10_ones_7 24 rfl 10 rfl (fun _ => ?_) (fun c => absurd (nI_le (a := 9) (b := 9) (by omega) (by omega)) c)
    exact k
  | d + 1, i, u0, hi, k => by
    refine g_iload_n dX10_ones_4 rfl 5 rfl rfl ?_
    refine g_bipush 9 dX10_ones_5 7 rfl (by decide) ?_
    refine g_icmp_ge dX10_ones_7 24 rfl 10 rfl (fun c => absurd c (nI_ge (a := i) (b := 9) (by omega) (by omega))) (fun _ => ?_)
    refine g_iload_n dX10_ones_10 rfl 11 rfl rfl ?_
    refine g_iload_n dX10_ones_11 rfl 12 rfl rfl ?_
    refine g_iload_n dX10_ones_12 rfl 13 rfl rfl ?_
    refine g_ishr dX10_ones_13 14 rfl ?_
    refine g_iconst 1 dX10_ones_14 15 rfl (by decide) ?_
    refine g_iand dX10_ones_15 16 rfl ?_
    refine g_iadd dX10_ones_16 17 rfl ?_
    refine g_istore1 dX10_ones_17 18 rfl (by decide) rfl ?_
    refine g_iinc2 dX10_ones_18 21 rfl 1 (by decide) (nI (i + 1)) (nI_add _ 1) (by decide) rfl ?_
    refine g_goto dX10_ones_21 4 rfl ?_
    have e : (fX10_ones_4 bits) i u0 = (u0 + ((bits >>> ((nI i) &&& 31)) &&& 1)) := by rw [fX10_ones_4]
    refine LX10_ones_4  d (i + 1) (u0 + ((bits >>> ((nI i) &&& 31)) &&& 1)) (by omega) ?_
    rw [← e]
    exact k
def rX10_ones (bits : Int32) : Int32 := (gLp (fX10_ones_4 bits) 9 0 0)
set_option maxRecDepth 100000 in
set_option maxHeartbeats 4000000 in
theorem MX10_ones {w : gW} {al : Bool} {h : gH}  (bits : Int32)  : M w gT0 al mX10_ones 0 0 h [.int bits] (gEq h (some (.int (rX10_ones bits)))) := by
  refine M.of (L0 := [.int bits, gF, gF]) (by decide +kernel) (Nat.le_of_ble_eq_true rfl) rfl ?_
  refine g_iconst 0 dX10_ones_0 1 rfl (by decide) ?_
  refine g_istore1 dX10_ones_1 2 rfl (by decide) rfl ?_
  refine g_iconst 0 dX10_ones_2 3 rfl (by decide) ?_
  refine g_istore2 dX10_ones_3 4 rfl (by decide) rfl ?_
  refine LX10_ones_4  9 0 0 (by omega) ?_
  refine g_iload_n dX10_ones_24 rfl 25 rfl rfl ?_
  refine g_ireturn dX10_ones_25 rfl rfl (Nat.le_refl _) (Nat.le_refl _) ?_
  have e : (rX10_ones bits) = (gLp (fX10_ones_4 bits) 9 0 0) := by rw [rX10_ones]
  rw [e]
  exact ⟨rfl, rfl⟩
def fX10_begins_2  : Nat → (Int32 → Int32) → (Int32 → Int32)
  | i, draft => (gup draft (nI i) 0)
set_option maxRecDepth 100000 in
set_option maxHeartbeats 4000000 in
theorem LX10_begins_2 {w : gW} {al : Bool} {typed known kept noted at_ : Int32} {text told s past images notes alone parts held : Int32 → Int32} {n : Nat} {P : gP}   : ∀ (d i : Nat) (draft : Int32 → Int32), i + d = 40 → G w gT0 al n mX10_begins 0 0 P 0 0 (hM text typed told (gLp fX10_begins_2 d i draft) s past known images kept notes noted at_ alone parts held) 21 [.ref 0, .int (nI 40)] [] → G w gT0 al n mX10_begins 0 0 P 0 0 (hM text typed told draft s past known images kept notes noted at_ alone parts held) 2 [.ref 0, .int (nI i)] []
  | 0, i, draft, hi, k => by
    have hN : i = 40 := by omega
    rw [hN]
    rw [hN] at k
    refine g_iload_n dX10_begins_2 rfl 3 rfl rfl ?_
    refine g_bipush 40 dX10_begins_3 5 rfl (by decide) ?_
    refine g_icmp_ge dX10_begins_5 21 rfl 8 rfl (fun _ => ?_) (fun c => absurd (nI_le (a := 40) (b := 40) (by omega) (by omega)) c)
    exact k
  | d + 1, i, draft, hi, k => by
    refine g_iload_n dX10_begins_2 rfl 3 rfl rfl ?_
    refine g_bipush 40 dX10_begins_3 5 rfl (by decide) ?_
    refine g_icmp_ge dX10_begins_5 21 rfl 8 rfl (fun c => absurd c (nI_ge (a := i) (b := 40) (by omega) (by omega))) (fun _ => ?_)
    refine g_aload_n dX10_begins_8 rfl 9 rfl rfl ?_
    refine g_get (v := .ref 3) dX10_begins_9 12 rfl lX10_16 rfl rfl ?_
    refine g_iload_n dX10_begins_12 rfl 13 rfl rfl ?_
    refine g_iconst 0 dX10_begins_13 14 rfl (by decide) ?_
    refine g_iastore (N := 40) dX10_begins_14 15 rfl rfl (by decide) (vp_in_nI (by omega) (by decide)) (h' := (hM text typed told (gup draft (nI i) 0) s past known images kept notes noted at_ alone parts held)) rfl ?_
    refine g_iinc1 dX10_begins_15 18 rfl 1 (by decide) (nI (i + 1)) (nI_add _ 1) (by decide) rfl ?_
    refine g_goto dX10_begins_18 2 rfl ?_
    have e : fX10_begins_2 i draft = (gup draft (nI i) 0) := by rw [fX10_begins_2]
    refine LX10_begins_2  d (i + 1) (gup draft (nI i) 0) (by omega) ?_
    rw [← e]
    exact k
def rX10_begins (draft : Int32 → Int32) : (Int32 → Int32) := (gup (gup (gup (gLp fX10_begins_2 40 0 draft) 1 100) 2 9) 3 1)
set_option maxRecDepth 100000 in
set_option maxHeartbeats 4000000 in
theorem MX10_begins {w : gW} {al : Bool} {typed known kept noted at_ : Int32} {text told draft s past images notes alone parts held : Int32 → Int32}   : M w gT0 al mX10_begins 0 0 (hM text typed told draft s past known images kept notes noted at_ alone parts held) [.ref 0] (gEq (hM text typed told (rX10_begins draft) s past known images kept notes noted at_ alone parts held) none) := by
  refine M.of (L0 := [.ref 0, gF]) (by decide +kernel) (Nat.le_of_ble_eq_true rfl) rfl ?_
  refine g_iconst 0 dX10_begins_0 1 rfl (by decide) ?_
  refine g_istore1 dX10_begins_1 2 rfl (by decide) rfl ?_
  refine LX10_begins_2  40 0 draft (by omega) ?_
  refine g_aload_n dX10_begins_21 rfl 22 rfl rfl ?_
  refine g_get (v := .ref 3) dX10_begins_22 25 rfl lX10_16 rfl rfl ?_
  refine g_iconst 1 dX10_begins_25 26 rfl (by decide) ?_
  refine g_bipush 100 dX10_begins_26 28 rfl (by decide) ?_
  refine g_iastore (N := 40) dX10_begins_28 29 rfl rfl (by decide) (vp_in_iff.mpr (by decide)) (h' := (hM text typed told (gup (gLp fX10_begins_2 40 0 draft) 1 100) s past known images kept notes noted at_ alone parts held)) rfl ?_
  refine g_aload_n dX10_begins_29 rfl 30 rfl rfl ?_
  refine g_get (v := .ref 3) dX10_begins_30 33 rfl lX10_16 rfl rfl ?_
  refine g_iconst 2 dX10_begins_33 34 rfl (by decide) ?_
  refine g_bipush 9 dX10_begins_34 36 rfl (by decide) ?_
  refine g_iastore (N := 40) dX10_begins_36 37 rfl rfl (by decide) (vp_in_iff.mpr (by decide)) (h' := (hM text typed told (gup (gup (gLp fX10_begins_2 40 0 draft) 1 100) 2 9) s past known images kept notes noted at_ alone parts held)) rfl ?_
  refine g_aload_n dX10_begins_37 rfl 38 rfl rfl ?_
  refine g_get (v := .ref 3) dX10_begins_38 41 rfl lX10_16 rfl rfl ?_
  refine g_iconst 3 dX10_begins_41 42 rfl (by decide) ?_
  refine g_iconst 1 dX10_begins_42 43 rfl (by decide) ?_
  refine g_iastore (N := 40) dX10_begins_43 44 rfl rfl (by decide) (vp_in_iff.mpr (by decide)) (h' := (hM text typed told (gup (gup (gup (gLp fX10_begins_2 40 0 draft) 1 100) 2 9) 3 1) s past known images kept notes noted at_ alone parts held)) rfl ?_
  refine g_return dX10_begins_44 rfl (Nat.le_refl _) (Nat.le_refl _) ?_
  have e : (rX10_begins draft) = (gup (gup (gup (gLp fX10_begins_2 40 0 draft) 1 100) 2 9) 3 1) := by rw [rX10_begins]
  rw [e]
  exact ⟨rfl, rfl⟩
def fX10_allAt_4 (told : Int32 → Int32) (s : Int32 → Int32) (pl : Int32) : Nat → (Int32) → (Int32)
  | i, u0 => (if (rX10_where told s i) = pl then (u0 ||| (1 <<< ((nI i) &&& 31))) else (u0 ||| 0))
set_option maxRecDepth 100000 in
set_option maxHeartbeats 4000000 in
theorem LX10_allAt_4 {w : gW} {al : Bool} {typed known kept noted at_ : Int32} {text told draft s past images notes alone parts held : Int32 → Int32} {n : Nat} {P : gP} {sz : Nat} {pl : Int32} (hsz : told 0 = nI sz) (hs : sz ≤ 9)  : ∀ (d i : Nat) (u0 : Int32), i + d = sz → G w gT0 al n mX10_allAt 0 0 P 0 0 (hM text typed told draft s past known images kept notes noted at_ alone parts held) 39 [.ref 0, .int pl, .int (gLp (fX10_allAt_4 told s pl) d i u0), .int (nI sz)] [] → G w gT0 al n mX10_allAt 0 0 P 0 0 (hM text typed told draft s past known images kept notes noted at_ alone parts held) 4 [.ref 0, .int pl, .int u0, .int (nI i)] []
  | 0, i, u0, hi, k => by
    have hN : i = sz := by omega
    rw [hN]
    rw [hN] at k
    refine g_iload_n dX10_allAt_4 rfl 5 rfl rfl ?_
    refine g_aload_n dX10_allAt_5 rfl 6 rfl rfl ?_
    refine g_get (v := .ref 2) dX10_allAt_6 9 rfl lX10_13 rfl rfl ?_
    refine g_iconst 0 dX10_allAt_9 10 rfl (by decide) ?_
    refine g_iaload (N := 40) dX10_allAt_10 11 rfl rfl (vp_in_iff.mpr (by decide)) ?_
    refine g_icmp_ge dX10_allAt_11 39 rfl 14 rfl (fun _ => ?_) (fun c => absurd (by rw [hsz]; exact nI_le (Nat.le_refl _) (by omega)) c)
    exact k
  | d + 1, i, u0, hi, k => by
    refine g_iload_n dX10_allAt_4 rfl 5 rfl rfl ?_
    refine g_aload_n dX10_allAt_5 rfl 6 rfl rfl ?_
    refine g_get (v := .ref 2) dX10_allAt_6 9 rfl lX10_13 rfl rfl ?_
    refine g_iconst 0 dX10_allAt_9 10 rfl (by decide) ?_
    refine g_iaload (N := 40) dX10_allAt_10 11 rfl rfl (vp_in_iff.mpr (by decide)) ?_
    refine g_icmp_ge dX10_allAt_11 39 rfl 14 rfl (fun c => absurd c (by rw [hsz]; exact nI_ge (by omega) (by omega))) (fun _ => ?_)
    refine g_iload_n dX10_allAt_14 rfl 15 rfl rfl ?_
    refine g_aload_n dX10_allAt_15 rfl 16 rfl rfl ?_
    refine g_iload_n dX10_allAt_16 rfl 17 rfl rfl ?_
    refine g_cVv (as := [.int (nI i)]) (st := [.int u0]) dX10_allAt_17 20 rfl kX10_89 ⟨Nat.le_of_ble_eq_true rfl, Nat.le_of_ble_eq_true rfl⟩ (MX10_where i (by omega)) rfl rfl rfl rfl (Nat.le_of_ble_eq_true rfl) (Nat.le_refl _) (Nat.le_refl _) ?_
    refine g_iload_n dX10_allAt_20 rfl 21 rfl rfl ?_
    refine g_icmp_ne dX10_allAt_21 30 rfl 24 rfl (fun c1 => ?_) (fun c1 => ?_)
    · refine g_iconst 0 dX10_allAt_30 31 rfl (by decide) ?_
      refine g_ior dX10_allAt_31 32 rfl ?_
      refine g_istore2 dX10_allAt_32 33 rfl (by decide) rfl ?_
      refine g_iinc3 dX10_allAt_33 36 rfl 1 (by decide) (nI (i + 1)) (nI_add _ 1) (by decide) rfl ?_
      refine g_goto dX10_allAt_36 4 rfl ?_
      have e : (fX10_allAt_4 told s pl) i u0 = (u0 ||| 0) := by rw [fX10_allAt_4, if_neg c1]
      refine LX10_allAt_4 hsz hs d (i + 1) (u0 ||| 0) (by omega) ?_
      rw [← e]
      exact k
    · refine g_iconst 1 dX10_allAt_24 25 rfl (by decide) ?_
      refine g_iload_n dX10_allAt_25 rfl 26 rfl rfl ?_
      refine g_ishl dX10_allAt_26 27 rfl ?_
      refine g_goto dX10_allAt_27 31 rfl ?_
      refine g_ior dX10_allAt_31 32 rfl ?_
      refine g_istore2 dX10_allAt_32 33 rfl (by decide) rfl ?_
      refine g_iinc3 dX10_allAt_33 36 rfl 1 (by decide) (nI (i + 1)) (nI_add _ 1) (by decide) rfl ?_
      refine g_goto dX10_allAt_36 4 rfl ?_
      have e : (fX10_allAt_4 told s pl) i u0 = (u0 ||| (1 <<< ((nI i) &&& 31))) := by rw [fX10_allAt_4, if_pos c1]
      refine LX10_allAt_4 hsz hs d (i + 1) (u0 ||| (1 <<< ((nI i) &&& 31))) (by omega) ?_
      rw [← e]
      exact k
def rX10_allAt (told : Int32 → Int32) (s : Int32 → Int32) (pl : Int32) (sz : Nat) : Int32 := (gLp (fX10_allAt_4 told s pl) sz 0 0)
set_option maxRecDepth 100000 in
set_option maxHeartbeats 4000000 in
theorem MX10_allAt {w : gW} {al : Bool} {typed known kept noted at_ : Int32} {text told draft s past images notes alone parts held : Int32 → Int32} {sz : Nat} (pl : Int32) (hsz : told 0 = nI sz) (hs : sz ≤ 9)  : M w gT0 al mX10_allAt 0 0 (hM text typed told draft s past known images kept notes noted at_ alone parts held) [.ref 0, .int pl] (gEq (hM text typed told draft s past known images kept notes noted at_ alone parts held) (some (.int (rX10_allAt told s pl sz)))) := by
  refine M.of (L0 := [.ref 0, .int pl, gF, gF]) (by decide +kernel) (Nat.le_of_ble_eq_true rfl) rfl ?_
  refine g_iconst 0 dX10_allAt_0 1 rfl (by decide) ?_
  refine g_istore2 dX10_allAt_1 2 rfl (by decide) rfl ?_
  refine g_iconst 0 dX10_allAt_2 3 rfl (by decide) ?_
  refine g_istore3 dX10_allAt_3 4 rfl (by decide) rfl ?_
  refine LX10_allAt_4 hsz hs sz 0 0 (by omega) ?_
  refine g_iload_n dX10_allAt_39 rfl 40 rfl rfl ?_
  refine g_ireturn dX10_allAt_40 rfl rfl (Nat.le_refl _) (Nat.le_refl _) ?_
  have e : (rX10_allAt told s pl sz) = (gLp (fX10_allAt_4 told s pl) sz 0 0) := by rw [rX10_allAt]
  rw [e]
  exact ⟨rfl, rfl⟩
def fX10_sumOf_10 (told : Int32 → Int32) (s : Int32 → Int32) (bits : Int32) : Nat → (Int32 × Int32 × Int32) → (Int32 × Int32 × Int32)
  | i, (u0, u1, u2) => (if ((bits >>> ((nI i) &&& 31)) &&& 1) = 1 then (if (told (nI (4 + i))) = 1 then ((u0 + 1), (u1 + 0), (u2 + 0)) else (if (told (nI (4 + i))) = 2 then (if 0 ≤ ((told (nI (13 + i))) - (10 * (s (nI (9 + i))))) then ((u0 + ((told (nI (13 + i))) - (10 * (s (nI (9 + i)))))), (u1 + 0), (u2 + 0)) else ((u0 + 0), (u1 + 0), (u2 + 0))) else (if (told (nI (4 + i))) = 3 then ((u0 + 0), (u1 + (told (nI (13 + i)))), (u2 + 1)) else ((u0 + (told (nI (13 + i)))), (u1 + 0), (u2 + 0))))) else (u0, u1, u2))
set_option maxRecDepth 100000 in
set_option maxHeartbeats 4000000 in
theorem LX10_sumOf_10 {w : gW} {al : Bool} {typed known kept noted at_ : Int32} {text told draft s past images notes alone parts held : Int32 → Int32} {n : Nat} {P : gP} {sz : Nat} {bits : Int32} (hsz : told 0 = nI sz) (hs : sz ≤ 9)  : ∀ (d i : Nat) (u0 : Int32) (u1 : Int32) (u2 : Int32), i + d = sz → G w gT0 al n mX10_sumOf 0 0 P 0 0 (hM text typed told draft s past known images kept notes noted at_ alone parts held) 154 [.ref 0, .int bits, .int ((gLp (fX10_sumOf_10 told s bits) d i (u0, u1, u2)).1), .int ((gLp (fX10_sumOf_10 told s bits) d i (u0, u1, u2)).2.1), .int ((gLp (fX10_sumOf_10 told s bits) d i (u0, u1, u2)).2.2), .int (nI sz), gF, gF, gF] [] → G w gT0 al n mX10_sumOf 0 0 P 0 0 (hM text typed told draft s past known images kept notes noted at_ alone parts held) 10 [.ref 0, .int bits, .int u0, .int u1, .int u2, .int (nI i), gF, gF, gF] []
  | 0, i, u0, u1, u2, hi, k => by
    have hN : i = sz := by omega
    rw [hN]
    rw [hN] at k
    refine g_iload dX10_sumOf_10 12 rfl rfl ?_
    refine g_aload_n dX10_sumOf_12 rfl 13 rfl rfl ?_
    refine g_get (v := .ref 2) dX10_sumOf_13 16 rfl lX10_13 rfl rfl ?_
    refine g_iconst 0 dX10_sumOf_16 17 rfl (by decide) ?_
    refine g_iaload (N := 40) dX10_sumOf_17 18 rfl rfl (vp_in_iff.mpr (by decide)) ?_
    refine g_icmp_ge dX10_sumOf_18 154 rfl 21 rfl (fun _ => ?_) (fun c => absurd (by rw [hsz]; exact nI_le (Nat.le_refl _) (by omega)) c)
    exact k
  | d + 1, i, u0, u1, u2, hi, k => by
    refine g_iload dX10_sumOf_10 12 rfl rfl ?_
    refine g_aload_n dX10_sumOf_12 rfl 13 rfl rfl ?_
    refine g_get (v := .ref 2) dX10_sumOf_13 16 rfl lX10_13 rfl rfl ?_
    refine g_iconst 0 dX10_sumOf_16 17 rfl (by decide) ?_
    refine g_iaload (N := 40) dX10_sumOf_17 18 rfl rfl (vp_in_iff.mpr (by decide)) ?_
    refine g_icmp_ge dX10_sumOf_18 154 rfl 21 rfl (fun c => absurd c (by rw [hsz]; exact nI_ge (by omega) (by omega))) (fun _ => ?_)
    refine g_iload_n dX10_sumOf_21 rfl 22 rfl rfl ?_
    refine g_iload dX10_sumOf_22 24 rfl rfl ?_
    refine g_ishr dX10_sumOf_24 25 rfl ?_
    refine g_iconst 1 dX10_sumOf_25 26 rfl (by decide) ?_
    refine g_iand dX10_sumOf_26 27 rfl ?_
    refine g_iconst 1 dX10_sumOf_27 28 rfl (by decide) ?_
    refine g_icmp_ne dX10_sumOf_28 148 rfl 31 rfl (fun c1 => ?_) (fun c1 => ?_)
    · refine g_iinc5 dX10_sumOf_148 151 rfl 1 (by decide) (nI (i + 1)) (nI_add _ 1) (by decide) rfl ?_
      refine g_goto dX10_sumOf_151 10 rfl ?_
      have e : (fX10_sumOf_10 told s bits) i (u0, u1, u2) = (u0, u1, u2) := by rw [fX10_sumOf_10, if_neg c1]
      refine LX10_sumOf_10 hsz hs d (i + 1) u0 u1 u2 (by omega) ?_
      rw [← e]
      exact k
    · refine g_aload_n dX10_sumOf_31 rfl 32 rfl rfl ?_
      refine g_get (v := .ref 2) dX10_sumOf_32 35 rfl lX10_13 rfl rfl ?_
      refine g_iconst 4 dX10_sumOf_35 36 rfl (by decide) ?_
      refine g_iload dX10_sumOf_36 38 rfl rfl ?_
      refine g_iadd' dX10_sumOf_38 39 rfl (nI (4 + i)) (nI_add 4 _) ?_
      refine g_iaload (N := 40) dX10_sumOf_39 40 rfl rfl (vp_in_nI (by omega) (by decide)) ?_
      refine g_istore6 dX10_sumOf_40 42 rfl (by decide) rfl ?_
      refine g_aload_n dX10_sumOf_42 rfl 43 rfl rfl ?_
      refine g_get (v := .ref 2) dX10_sumOf_43 46 rfl lX10_13 rfl rfl ?_
      refine g_bipush 13 dX10_sumOf_46 48 rfl (by decide) ?_
      refine g_iload dX10_sumOf_48 50 rfl rfl ?_
      refine g_iadd' dX10_sumOf_50 51 rfl (nI (13 + i)) (nI_add 13 _) ?_
      refine g_iaload (N := 40) dX10_sumOf_51 52 rfl rfl (vp_in_nI (by omega) (by decide)) ?_
      refine g_istore7 dX10_sumOf_52 54 rfl (by decide) rfl ?_
      refine g_iload dX10_sumOf_54 56 rfl rfl ?_
      refine g_bipush 10 dX10_sumOf_56 58 rfl (by decide) ?_
      refine g_aload_n dX10_sumOf_58 rfl 59 rfl rfl ?_
      refine g_get (v := .ref 4) dX10_sumOf_59 62 rfl lX10_19 rfl rfl ?_
      refine g_bipush 9 dX10_sumOf_62 64 rfl (by decide) ?_
      refine g_iload dX10_sumOf_64 66 rfl rfl ?_
      refine g_iadd' dX10_sumOf_66 67 rfl (nI (9 + i)) (nI_add 9 _) ?_
      refine g_iaload (N := 21) dX10_sumOf_67 68 rfl rfl (vp_in_nI (by omega) (by decide)) ?_
      refine g_imul dX10_sumOf_68 69 rfl ?_
      refine g_isub dX10_sumOf_69 70 rfl ?_
      refine g_istore8 dX10_sumOf_70 72 rfl (by decide) rfl ?_
      refine g_iload_n dX10_sumOf_72 rfl 73 rfl rfl ?_
      refine g_iload dX10_sumOf_73 75 rfl rfl ?_
      refine g_iconst 1 dX10_sumOf_75 76 rfl (by decide) ?_
      refine g_icmp_ne dX10_sumOf_76 83 rfl 79 rfl (fun c2 => ?_) (fun c2 => ?_)
      · refine g_iload dX10_sumOf_83 85 rfl rfl ?_
        refine g_iconst 2 dX10_sumOf_85 86 rfl (by decide) ?_
        refine g_icmp_ne dX10_sumOf_86 103 rfl 89 rfl (fun c3 => ?_) (fun c3 => ?_)
        · refine g_iload dX10_sumOf_103 105 rfl rfl ?_
          refine g_iconst 3 dX10_sumOf_105 106 rfl (by decide) ?_
          refine g_icmp_ne dX10_sumOf_106 113 rfl 109 rfl (fun c5 => ?_) (fun c5 => ?_)
          · refine g_iload dX10_sumOf_113 115 rfl rfl ?_
            refine g_iadd dX10_sumOf_115 116 rfl ?_
            refine g_istore2 dX10_sumOf_116 117 rfl (by decide) rfl ?_
            refine g_iload_n dX10_sumOf_117 rfl 118 rfl rfl ?_
            refine g_iload dX10_sumOf_118 120 rfl rfl ?_
            refine g_iconst 3 dX10_sumOf_120 121 rfl (by decide) ?_
            refine g_icmp_ne dX10_sumOf_121 129 rfl 124 rfl (fun _ => ?_) (fun c => absurd c c5)
            refine g_iconst 0 dX10_sumOf_129 130 rfl (by decide) ?_
            refine g_iadd dX10_sumOf_130 131 rfl ?_
            refine g_istore3 dX10_sumOf_131 132 rfl (by decide) rfl ?_
            refine g_iload dX10_sumOf_132 134 rfl rfl ?_
            refine g_iload dX10_sumOf_134 136 rfl rfl ?_
            refine g_iconst 3 dX10_sumOf_136 137 rfl (by decide) ?_
            refine g_icmp_ne dX10_sumOf_137 144 rfl 140 rfl (fun _ => ?_) (fun c => absurd c c5)
            refine g_iconst 0 dX10_sumOf_144 145 rfl (by decide) ?_
            refine g_iadd dX10_sumOf_145 146 rfl ?_
            refine g_istore4 dX10_sumOf_146 148 rfl (by decide) rfl ?_
            refine g_iinc5 dX10_sumOf_148 151 rfl 1 (by decide) (nI (i + 1)) (nI_add _ 1) (by decide) rfl ?_
            refine g_goto dX10_sumOf_151 10 rfl ?_
            refine g_fgt (L' := [.ref 0, .int bits, .int (u0 + (told (nI (13 + i)))), .int (u1 + 0), .int (u2 + 0), .int (nI (i + 1)), gF, gF, gF]) ⟨Or.inl rfl, Or.inl rfl, Or.inl rfl, Or.inl rfl, Or.inl rfl, Or.inl rfl, Or.inr rfl, Or.inr rfl, Or.inr rfl, trivial⟩ ?_
            have e : (fX10_sumOf_10 told s bits) i (u0, u1, u2) = ((u0 + (told (nI (13 + i)))), (u1 + 0), (u2 + 0)) := by rw [fX10_sumOf_10, if_pos c1, if_neg c2, if_neg c3, if_neg c5]
            refine LX10_sumOf_10 hsz hs d (i + 1) (u0 + (told (nI (13 + i)))) (u1 + 0) (u2 + 0) (by omega) ?_
            rw [← e]
            exact k
          · refine g_iconst 0 dX10_sumOf_109 110 rfl (by decide) ?_
            refine g_goto dX10_sumOf_110 115 rfl ?_
            refine g_iadd dX10_sumOf_115 116 rfl ?_
            refine g_istore2 dX10_sumOf_116 117 rfl (by decide) rfl ?_
            refine g_iload_n dX10_sumOf_117 rfl 118 rfl rfl ?_
            refine g_iload dX10_sumOf_118 120 rfl rfl ?_
            refine g_iconst 3 dX10_sumOf_120 121 rfl (by decide) ?_
            refine g_icmp_ne dX10_sumOf_121 129 rfl 124 rfl (fun c => absurd c5 c) (fun _ => ?_)
            refine g_iload dX10_sumOf_124 126 rfl rfl ?_
            refine g_goto dX10_sumOf_126 130 rfl ?_
            refine g_iadd dX10_sumOf_130 131 rfl ?_
            refine g_istore3 dX10_sumOf_131 132 rfl (by decide) rfl ?_
            refine g_iload dX10_sumOf_132 134 rfl rfl ?_
            refine g_iload dX10_sumOf_134 136 rfl rfl ?_
            refine g_iconst 3 dX10_sumOf_136 137 rfl (by decide) ?_
            refine g_icmp_ne dX10_sumOf_137 144 rfl 140 rfl (fun c => absurd c5 c) (fun _ => ?_)
            refine g_iconst 1 dX10_sumOf_140 141 rfl (by decide) ?_
            refine g_goto dX10_sumOf_141 145 rfl ?_
            refine g_iadd dX10_sumOf_145 146 rfl ?_
            refine g_istore4 dX10_sumOf_146 148 rfl (by decide) rfl ?_
            refine g_iinc5 dX10_sumOf_148 151 rfl 1 (by decide) (nI (i + 1)) (nI_add _ 1) (by decide) rfl ?_
            refine g_goto dX10_sumOf_151 10 rfl ?_
            refine g_fgt (L' := [.ref 0, .int bits, .int (u0 + 0), .int (u1 + (told (nI (13 + i)))), .int (u2 + 1), .int (nI (i + 1)), gF, gF, gF]) ⟨Or.inl rfl, Or.inl rfl, Or.inl rfl, Or.inl rfl, Or.inl rfl, Or.inl rfl, Or.inr rfl, Or.inr rfl, Or.inr rfl, trivial⟩ ?_
            have e : (fX10_sumOf_10 told s bits) i (u0, u1, u2) = ((u0 + 0), (u1 + (told (nI (13 + i)))), (u2 + 1)) := by rw [fX10_sumOf_10, if_pos c1, if_neg c2, if_neg c3, if_pos c5]
            refine LX10_sumOf_10 hsz hs d (i + 1) (u0 + 0) (u1 + (told (nI (13 + i)))) (u2 + 1) (by omega) ?_
            rw [← e]
            exact k
        · refine g_iload dX10_sumOf_89 91 rfl rfl ?_
          refine g_if_ge dX10_sumOf_91 98 rfl 94 rfl (fun c4 => ?_) (fun c4 => ?_)
          · refine g_iload dX10_sumOf_98 100 rfl rfl ?_
            refine g_goto dX10_sumOf_100 115 rfl ?_
            refine g_iadd dX10_sumOf_115 116 rfl ?_
            refine g_istore2 dX10_sumOf_116 117 rfl (by decide) rfl ?_
            refine g_iload_n dX10_sumOf_117 rfl 118 rfl rfl ?_
            refine g_iload dX10_sumOf_118 120 rfl rfl ?_
            refine g_iconst 3 dX10_sumOf_120 121 rfl (by decide) ?_
            refine g_icmp_ne dX10_sumOf_121 129 rfl 124 rfl (fun _ => ?_) (fun c => absurd c (fun z => absurd (c3.symm.trans z) (by decide)))
            refine g_iconst 0 dX10_sumOf_129 130 rfl (by decide) ?_
            refine g_iadd dX10_sumOf_130 131 rfl ?_
            refine g_istore3 dX10_sumOf_131 132 rfl (by decide) rfl ?_
            refine g_iload dX10_sumOf_132 134 rfl rfl ?_
            refine g_iload dX10_sumOf_134 136 rfl rfl ?_
            refine g_iconst 3 dX10_sumOf_136 137 rfl (by decide) ?_
            refine g_icmp_ne dX10_sumOf_137 144 rfl 140 rfl (fun _ => ?_) (fun c => absurd c (fun z => absurd (c3.symm.trans z) (by decide)))
            refine g_iconst 0 dX10_sumOf_144 145 rfl (by decide) ?_
            refine g_iadd dX10_sumOf_145 146 rfl ?_
            refine g_istore4 dX10_sumOf_146 148 rfl (by decide) rfl ?_
            refine g_iinc5 dX10_sumOf_148 151 rfl 1 (by decide) (nI (i + 1)) (nI_add _ 1) (by decide) rfl ?_
            refine g_goto dX10_sumOf_151 10 rfl ?_
            refine g_fgt (L' := [.ref 0, .int bits, .int (u0 + ((told (nI (13 + i))) - (10 * (s (nI (9 + i)))))), .int (u1 + 0), .int (u2 + 0), .int (nI (i + 1)), gF, gF, gF]) ⟨Or.inl rfl, Or.inl rfl, Or.inl rfl, Or.inl rfl, Or.inl rfl, Or.inl rfl, Or.inr rfl, Or.inr rfl, Or.inr rfl, trivial⟩ ?_
            have e : (fX10_sumOf_10 told s bits) i (u0, u1, u2) = ((u0 + ((told (nI (13 + i))) - (10 * (s (nI (9 + i)))))), (u1 + 0), (u2 + 0)) := by rw [fX10_sumOf_10, if_pos c1, if_neg c2, if_pos c3, if_pos c4]
            refine LX10_sumOf_10 hsz hs d (i + 1) (u0 + ((told (nI (13 + i))) - (10 * (s (nI (9 + i)))))) (u1 + 0) (u2 + 0) (by omega) ?_
            rw [← e]
            exact k
          · refine g_iconst 0 dX10_sumOf_94 95 rfl (by decide) ?_
            refine g_goto dX10_sumOf_95 115 rfl ?_
            refine g_iadd dX10_sumOf_115 116 rfl ?_
            refine g_istore2 dX10_sumOf_116 117 rfl (by decide) rfl ?_
            refine g_iload_n dX10_sumOf_117 rfl 118 rfl rfl ?_
            refine g_iload dX10_sumOf_118 120 rfl rfl ?_
            refine g_iconst 3 dX10_sumOf_120 121 rfl (by decide) ?_
            refine g_icmp_ne dX10_sumOf_121 129 rfl 124 rfl (fun _ => ?_) (fun c => absurd c (fun z => absurd (c3.symm.trans z) (by decide)))
            refine g_iconst 0 dX10_sumOf_129 130 rfl (by decide) ?_
            refine g_iadd dX10_sumOf_130 131 rfl ?_
            refine g_istore3 dX10_sumOf_131 132 rfl (by decide) rfl ?_
            refine g_iload dX10_sumOf_132 134 rfl rfl ?_
            refine g_iload dX10_sumOf_134 136 rfl rfl ?_
            refine g_iconst 3 dX10_sumOf_136 137 rfl (by decide) ?_
            refine g_icmp_ne dX10_sumOf_137 144 rfl 140 rfl (fun _ => ?_) (fun c => absurd c (fun z => absurd (c3.symm.trans z) (by decide)))
            refine g_iconst 0 dX10_sumOf_144 145 rfl (by decide) ?_
            refine g_iadd dX10_sumOf_145 146 rfl ?_
            refine g_istore4 dX10_sumOf_146 148 rfl (by decide) rfl ?_
            refine g_iinc5 dX10_sumOf_148 151 rfl 1 (by decide) (nI (i + 1)) (nI_add _ 1) (by decide) rfl ?_
            refine g_goto dX10_sumOf_151 10 rfl ?_
            refine g_fgt (L' := [.ref 0, .int bits, .int (u0 + 0), .int (u1 + 0), .int (u2 + 0), .int (nI (i + 1)), gF, gF, gF]) ⟨Or.inl rfl, Or.inl rfl, Or.inl rfl, Or.inl rfl, Or.inl rfl, Or.inl rfl, Or.inr rfl, Or.inr rfl, Or.inr rfl, trivial⟩ ?_
            have e : (fX10_sumOf_10 told s bits) i (u0, u1, u2) = ((u0 + 0), (u1 + 0), (u2 + 0)) := by rw [fX10_sumOf_10, if_pos c1, if_neg c2, if_pos c3, if_neg c4]
            refine LX10_sumOf_10 hsz hs d (i + 1) (u0 + 0) (u1 + 0) (u2 + 0) (by omega) ?_
            rw [← e]
            exact k
      · refine g_iconst 1 dX10_sumOf_79 80 rfl (by decide) ?_
        refine g_goto dX10_sumOf_80 115 rfl ?_
        refine g_iadd dX10_sumOf_115 116 rfl ?_
        refine g_istore2 dX10_sumOf_116 117 rfl (by decide) rfl ?_
        refine g_iload_n dX10_sumOf_117 rfl 118 rfl rfl ?_
        refine g_iload dX10_sumOf_118 120 rfl rfl ?_
        refine g_iconst 3 dX10_sumOf_120 121 rfl (by decide) ?_
        refine g_icmp_ne dX10_sumOf_121 129 rfl 124 rfl (fun _ => ?_) (fun c => absurd c (fun z => absurd (c2.symm.trans z) (by decide)))
        refine g_iconst 0 dX10_sumOf_129 130 rfl (by decide) ?_
        refine g_iadd dX10_sumOf_130 131 rfl ?_
        refine g_istore3 dX10_sumOf_131 132 rfl (by decide) rfl ?_
        refine g_iload dX10_sumOf_132 134 rfl rfl ?_
        refine g_iload dX10_sumOf_134 136 rfl rfl ?_
        refine g_iconst 3 dX10_sumOf_136 137 rfl (by decide) ?_
        refine g_icmp_ne dX10_sumOf_137 144 rfl 140 rfl (fun _ => ?_) (fun c => absurd c (fun z => absurd (c2.symm.trans z) (by decide)))
        refine g_iconst 0 dX10_sumOf_144 145 rfl (by decide) ?_
        refine g_iadd dX10_sumOf_145 146 rfl ?_
        refine g_istore4 dX10_sumOf_146 148 rfl (by decide) rfl ?_
        refine g_iinc5 dX10_sumOf_148 151 rfl 1 (by decide) (nI (i + 1)) (nI_add _ 1) (by decide) rfl ?_
        refine g_goto dX10_sumOf_151 10 rfl ?_
        refine g_fgt (L' := [.ref 0, .int bits, .int (u0 + 1), .int (u1 + 0), .int (u2 + 0), .int (nI (i + 1)), gF, gF, gF]) ⟨Or.inl rfl, Or.inl rfl, Or.inl rfl, Or.inl rfl, Or.inl rfl, Or.inl rfl, Or.inr rfl, Or.inr rfl, Or.inr rfl, trivial⟩ ?_
        have e : (fX10_sumOf_10 told s bits) i (u0, u1, u2) = ((u0 + 1), (u1 + 0), (u2 + 0)) := by rw [fX10_sumOf_10, if_pos c1, if_pos c2]
        refine LX10_sumOf_10 hsz hs d (i + 1) (u0 + 1) (u1 + 0) (u2 + 0) (by omega) ?_
        rw [← e]
        exact k
def rX10_sumOf (told : Int32 → Int32) (s : Int32 → Int32) (bits : Int32) (sz : Nat) : Int32 := (if ((gLp (fX10_sumOf_10 told s bits) sz 0 (0, 0, 0)).2.2) ≤ 1 then ((gLp (fX10_sumOf_10 told s bits) sz 0 (0, 0, 0)).1) else (((gLp (fX10_sumOf_10 told s bits) sz 0 (0, 0, 0)).1) + ((gLp (fX10_sumOf_10 told s bits) sz 0 (0, 0, 0)).2.1)))
set_option maxRecDepth 100000 in
set_option maxHeartbeats 4000000 in
theorem MX10_sumOf {w : gW} {al : Bool} {typed known kept noted at_ : Int32} {text told draft s past images notes alone parts held : Int32 → Int32} {sz : Nat} (bits : Int32) (hsz : told 0 = nI sz) (hs : sz ≤ 9)  : M w gT0 al mX10_sumOf 0 0 (hM text typed told draft s past known images kept notes noted at_ alone parts held) [.ref 0, .int bits] (gEq (hM text typed told draft s past known images kept notes noted at_ alone parts held) (some (.int (rX10_sumOf told s bits sz)))) := by
  refine M.of (L0 := [.ref 0, .int bits, gF, gF, gF, gF, gF, gF, gF]) (by decide +kernel) (Nat.le_of_ble_eq_true rfl) rfl ?_
  refine g_iconst 0 dX10_sumOf_0 1 rfl (by decide) ?_
  refine g_istore2 dX10_sumOf_1 2 rfl (by decide) rfl ?_
  refine g_iconst 0 dX10_sumOf_2 3 rfl (by decide) ?_
  refine g_istore3 dX10_sumOf_3 4 rfl (by decide) rfl ?_
  refine g_iconst 0 dX10_sumOf_4 5 rfl (by decide) ?_
  refine g_istore4 dX10_sumOf_5 7 rfl (by decide) rfl ?_
  refine g_iconst 0 dX10_sumOf_7 8 rfl (by decide) ?_
  refine g_istore5 dX10_sumOf_8 10 rfl (by decide) rfl ?_
  refine LX10_sumOf_10 hsz hs sz 0 0 0 0 (by omega) ?_
  refine g_iload dX10_sumOf_154 156 rfl rfl ?_
  refine g_iconst 1 dX10_sumOf_156 157 rfl (by decide) ?_
  refine g_icmp_le dX10_sumOf_157 166 rfl 160 rfl (fun c1 => ?_) (fun c1 => ?_)
  · refine g_iload_n dX10_sumOf_166 rfl 167 rfl rfl ?_
    refine g_ireturn dX10_sumOf_167 rfl rfl (Nat.le_refl _) (Nat.le_refl _) ?_
    have e : (rX10_sumOf told s bits sz) = ((gLp (fX10_sumOf_10 told s bits) sz 0 (0, 0, 0)).1) := by rw [rX10_sumOf, if_pos c1]
    rw [e]
    exact ⟨rfl, rfl⟩
  · refine g_iload_n dX10_sumOf_160 rfl 161 rfl rfl ?_
    refine g_iload_n dX10_sumOf_161 rfl 162 rfl rfl ?_
    refine g_iadd dX10_sumOf_162 163 rfl ?_
    refine g_goto dX10_sumOf_163 167 rfl ?_
    refine g_ireturn dX10_sumOf_167 rfl rfl (Nat.le_refl _) (Nat.le_refl _) ?_
    have e : (rX10_sumOf told s bits sz) = (((gLp (fX10_sumOf_10 told s bits) sz 0 (0, 0, 0)).1) + ((gLp (fX10_sumOf_10 told s bits) sz 0 (0, 0, 0)).2.1)) := by rw [rX10_sumOf, if_neg c1]
    rw [e]
    exact ⟨rfl, rfl⟩
end
section
/-! the reference: who is where, what a set counts and costs -/
def rX10_present (told : Int32 → Int32) (s : Int32 → Int32) (sz : Nat) : Int32 := ((rX10_allAt told s 1 sz) ||| (rX10_allAt told s 2 sz))
set_option maxRecDepth 100000 in
set_option maxHeartbeats 4000000 in
theorem MX10_present {w : gW} {al : Bool} {typed known kept noted at_ : Int32} {text told draft s past images notes alone parts held : Int32 → Int32} {sz : Nat} (hsz : told 0 = nI sz) (hs : sz ≤ 9)  : M w gT0 al mX10_present 0 0 (hM text typed told draft s past known images kept notes noted at_ alone parts held) [.ref 0] (gEq (hM text typed told draft s past known images kept notes noted at_ alone parts held) (some (.int (rX10_present told s sz)))) := by
  refine M.of (L0 := [.ref 0]) (by decide +kernel) (Nat.le_of_ble_eq_true rfl) rfl ?_
  refine g_aload_n dX10_present_0 rfl 1 rfl rfl ?_
  refine g_iconst 1 dX10_present_1 2 rfl (by decide) ?_
  refine g_cVv (as := [.int 1]) (st := []) dX10_present_2 5 rfl kX10_92 ⟨Nat.le_of_ble_eq_true rfl, Nat.le_of_ble_eq_true rfl⟩ (MX10_allAt 1 hsz hs) rfl rfl rfl rfl (Nat.le_of_ble_eq_true rfl) (Nat.le_refl _) (Nat.le_refl _) ?_
  refine g_aload_n dX10_present_5 rfl 6 rfl rfl ?_
  refine g_iconst 2 dX10_present_6 7 rfl (by decide) ?_
  refine g_cVv (as := [.int 2]) (st := [.int (rX10_allAt told s 1 sz)]) dX10_present_7 10 rfl kX10_92 ⟨Nat.le_of_ble_eq_true rfl, Nat.le_of_ble_eq_true rfl⟩ (MX10_allAt 2 hsz hs) rfl rfl rfl rfl (Nat.le_of_ble_eq_true rfl) (Nat.le_refl _) (Nat.le_refl _) ?_
  refine g_ior dX10_present_10 11 rfl ?_
  refine g_ireturn dX10_present_11 rfl rfl (Nat.le_refl _) (Nat.le_refl _) ?_
  have e : (rX10_present told s sz) = ((rX10_allAt told s 1 sz) ||| (rX10_allAt told s 2 sz)) := by rw [rX10_present]
  rw [e]
  exact ⟨rfl, rfl⟩
def rX10_alive (told : Int32 → Int32) (s : Int32 → Int32) (sz : Nat) : Int32 := ((((1 <<< ((told 0) &&& 31)) - 1) &&& ((rX10_allAt told s 3 sz) ^^^ (-1))) &&& ((rX10_allAt told s 4 sz) ^^^ (-1)))
set_option maxRecDepth 100000 in
set_option maxHeartbeats 4000000 in
theorem MX10_alive {w : gW} {al : Bool} {typed known kept noted at_ : Int32} {text told draft s past images notes alone parts held : Int32 → Int32} {sz : Nat} (hsz : told 0 = nI sz) (hs : sz ≤ 9)  : M w gT0 al mX10_alive 0 0 (hM text typed told draft s past known images kept notes noted at_ alone parts held) [.ref 0] (gEq (hM text typed told draft s past known images kept notes noted at_ alone parts held) (some (.int (rX10_alive told s sz)))) := by
  refine M.of (L0 := [.ref 0]) (by decide +kernel) (Nat.le_of_ble_eq_true rfl) rfl ?_
  refine g_iconst 1 dX10_alive_0 1 rfl (by decide) ?_
  refine g_aload_n dX10_alive_1 rfl 2 rfl rfl ?_
  refine g_get (v := .ref 2) dX10_alive_2 5 rfl lX10_13 rfl rfl ?_
  refine g_iconst 0 dX10_alive_5 6 rfl (by decide) ?_
  refine g_iaload (N := 40) dX10_alive_6 7 rfl rfl (vp_in_iff.mpr (by decide)) ?_
  refine g_ishl dX10_alive_7 8 rfl ?_
  refine g_iconst 1 dX10_alive_8 9 rfl (by decide) ?_
  refine g_isub dX10_alive_9 10 rfl ?_
  refine g_aload_n dX10_alive_10 rfl 11 rfl rfl ?_
  refine g_iconst 3 dX10_alive_11 12 rfl (by decide) ?_
  refine g_cVv (as := [.int 3]) (st := [.int ((1 <<< ((told 0) &&& 31)) - 1)]) dX10_alive_12 15 rfl kX10_92 ⟨Nat.le_of_ble_eq_true rfl, Nat.le_of_ble_eq_true rfl⟩ (MX10_allAt 3 hsz hs) rfl rfl rfl rfl (Nat.le_of_ble_eq_true rfl) (Nat.le_refl _) (Nat.le_refl _) ?_
  refine g_iconst (-1) dX10_alive_15 16 rfl (by decide) ?_
  refine g_ixor dX10_alive_16 17 rfl ?_
  refine g_iand dX10_alive_17 18 rfl ?_
  refine g_aload_n dX10_alive_18 rfl 19 rfl rfl ?_
  refine g_iconst 4 dX10_alive_19 20 rfl (by decide) ?_
  refine g_cVv (as := [.int 4]) (st := [.int (((1 <<< ((told 0) &&& 31)) - 1) &&& ((rX10_allAt told s 3 sz) ^^^ (-1)))]) dX10_alive_20 23 rfl kX10_92 ⟨Nat.le_of_ble_eq_true rfl, Nat.le_of_ble_eq_true rfl⟩ (MX10_allAt 4 hsz hs) rfl rfl rfl rfl (Nat.le_of_ble_eq_true rfl) (Nat.le_refl _) (Nat.le_refl _) ?_
  refine g_iconst (-1) dX10_alive_23 24 rfl (by decide) ?_
  refine g_ixor dX10_alive_24 25 rfl ?_
  refine g_iand dX10_alive_25 26 rfl ?_
  refine g_ireturn dX10_alive_26 rfl rfl (Nat.le_refl _) (Nat.le_refl _) ?_
  have e : (rX10_alive told s sz) = ((((1 <<< ((told 0) &&& 31)) - 1) &&& ((rX10_allAt told s 3 sz) ^^^ (-1))) &&& ((rX10_allAt told s 4 sz) ^^^ (-1))) := by rw [rX10_alive]
  rw [e]
  exact ⟨rfl, rfl⟩
def rX10_coinsOf (told : Int32 → Int32) (s : Int32 → Int32) (bits : Int32) (sz : Nat) : Int32 := ((told 3) * ((rX10_sumOf told s bits sz) - (told 1)))
set_option maxRecDepth 100000 in
set_option maxHeartbeats 4000000 in
theorem MX10_coinsOf {w : gW} {al : Bool} {typed known kept noted at_ : Int32} {text told draft s past images notes alone parts held : Int32 → Int32} {sz : Nat} (bits : Int32) (hsz : told 0 = nI sz) (hs : sz ≤ 9)  : M w gT0 al mX10_coinsOf 0 0 (hM text typed told draft s past known images kept notes noted at_ alone parts held) [.ref 0, .int bits] (gEq (hM text typed told draft s past known images kept notes noted at_ alone parts held) (some (.int (rX10_coinsOf told s bits sz)))) := by
  refine M.of (L0 := [.ref 0, .int bits]) (by decide +kernel) (Nat.le_of_ble_eq_true rfl) rfl ?_
  refine g_aload_n dX10_coinsOf_0 rfl 1 rfl rfl ?_
  refine g_get (v := .ref 2) dX10_coinsOf_1 4 rfl lX10_13 rfl rfl ?_
  refine g_iconst 3 dX10_coinsOf_4 5 rfl (by decide) ?_
  refine g_iaload (N := 40) dX10_coinsOf_5 6 rfl rfl (vp_in_iff.mpr (by decide)) ?_
  refine g_aload_n dX10_coinsOf_6 rfl 7 rfl rfl ?_
  refine g_iload_n dX10_coinsOf_7 rfl 8 rfl rfl ?_
  refine g_cVv (as := [.int bits]) (st := [.int (told 3)]) dX10_coinsOf_8 11 rfl kX10_101 ⟨Nat.le_of_ble_eq_true rfl, Nat.le_of_ble_eq_true rfl⟩ (MX10_sumOf bits hsz hs) rfl rfl rfl rfl (Nat.le_of_ble_eq_true rfl) (Nat.le_refl _) (Nat.le_refl _) ?_
  refine g_aload_n dX10_coinsOf_11 rfl 12 rfl rfl ?_
  refine g_get (v := .ref 2) dX10_coinsOf_12 15 rfl lX10_13 rfl rfl ?_
  refine g_iconst 1 dX10_coinsOf_15 16 rfl (by decide) ?_
  refine g_iaload (N := 40) dX10_coinsOf_16 17 rfl rfl (vp_in_iff.mpr (by decide)) ?_
  refine g_isub dX10_coinsOf_17 18 rfl ?_
  refine g_imul dX10_coinsOf_18 19 rfl ?_
  refine g_ireturn dX10_coinsOf_19 rfl rfl (Nat.le_refl _) (Nat.le_refl _) ?_
  have e : (rX10_coinsOf told s bits sz) = ((told 3) * ((rX10_sumOf told s bits sz) - (told 1))) := by rw [rX10_coinsOf]
  rw [e]
  exact ⟨rfl, rfl⟩
def fX10_sails_24 (told : Int32 → Int32) (bits : Int32) (alive : Int32) (p : Nat) : Nat → (Bool) → (Bool)
  | i, u0 => (if (told (nI (31 + p))) ≤ 0 then (if u0 = true then true else false) else (if (told (nI (31 + p))) = (told (nI (31 + i))) then (if ((alive >>> ((nI i) &&& 31)) &&& 1) = 1 then (if u0 = true then (if ((bits >>> ((nI p) &&& 31)) &&& 1) = 1 then (if ((bits >>> ((nI i) &&& 31)) &&& 1) = 0 then false else true) else true) else false) else (if u0 = true then true else false)) else (if u0 = true then true else false)))
set_option maxRecDepth 100000 in
set_option maxHeartbeats 4000000 in
theorem LX10_sails_24 {w : gW} {al : Bool} {typed known kept noted at_ : Int32} {text told draft s past images notes alone parts held : Int32 → Int32} {n : Nat} {P : gP} {sz : Nat} {bits : Int32} {alive : Int32} {p : Nat} (hsz : told 0 = nI sz) (hs : sz ≤ 9) (hp : p < sz)  : ∀ (d i : Nat) (u0 : Bool), i + d = sz → G w gT0 al n mX10_sails 0 0 P 0 0 (hM text typed told draft s past known images kept notes noted at_ alone parts held) 128 [.ref 0, .int bits, .int alive, .int (gB (gLp (fX10_sails_24 told bits alive p) d i u0)), .int (nI p), .int (nI sz), gF] [] → G w gT0 al n mX10_sails 0 0 P 0 0 (hM text typed told draft s past known images kept notes noted at_ alone parts held) 24 [.ref 0, .int bits, .int alive, .int (gB u0), .int (nI p), .int (nI i), gF] []
  | 0, i, u0, hi, k => by
    have hN : i = sz := by omega
    rw [hN]
    rw [hN] at k
    refine g_iload dX10_sails_24 26 rfl rfl ?_
    refine g_aload_n dX10_sails_26 rfl 27 rfl rfl ?_
    refine g_get (v := .ref 2) dX10_sails_27 30 rfl lX10_13 rfl rfl ?_
    refine g_iconst 0 dX10_sails_30 31 rfl (by decide) ?_
    refine g_iaload (N := 40) dX10_sails_31 32 rfl rfl (vp_in_iff.mpr (by decide)) ?_
    refine g_icmp_ge dX10_sails_32 128 rfl 35 rfl (fun _ => ?_) (fun c => absurd (by rw [hsz]; exact nI_le (Nat.le_refl _) (by omega)) c)
    exact k
  | d + 1, i, u0, hi, k => by
    refine g_iload dX10_sails_24 26 rfl rfl ?_
    refine g_aload_n dX10_sails_26 rfl 27 rfl rfl ?_
    refine g_get (v := .ref 2) dX10_sails_27 30 rfl lX10_13 rfl rfl ?_
    refine g_iconst 0 dX10_sails_30 31 rfl (by decide) ?_
    refine g_iaload (N := 40) dX10_sails_31 32 rfl rfl (vp_in_iff.mpr (by decide)) ?_
    refine g_icmp_ge dX10_sails_32 128 rfl 35 rfl (fun c => absurd c (by rw [hsz]; exact nI_ge (by omega) (by omega))) (fun _ => ?_)
    refine g_aload_n dX10_sails_35 rfl 36 rfl rfl ?_
    refine g_get (v := .ref 2) dX10_sails_36 39 rfl lX10_13 rfl rfl ?_
    refine g_bipush 31 dX10_sails_39 41 rfl (by decide) ?_
    refine g_iload dX10_sails_41 43 rfl rfl ?_
    refine g_iadd' dX10_sails_43 44 rfl (nI (31 + p)) (nI_add 31 _) ?_
    refine g_iaload (N := 40) dX10_sails_44 45 rfl rfl (vp_in_nI (by omega) (by decide)) ?_
    refine g_if_le dX10_sails_45 85 rfl 48 rfl (fun c1 => ?_) (fun c1 => ?_)
    · refine g_iconst 0 dX10_sails_85 86 rfl (by decide) ?_
      refine g_istore6 dX10_sails_86 88 rfl (by decide) rfl ?_
      refine g_iload_n dX10_sails_88 rfl 89 rfl rfl ?_
      refine g_if_eq dX10_sails_89 120 rfl 92 rfl (fun c2 => ?_) (fun c2 => ?_)
      · replace c2 := gB_f c2
        refine g_iconst 0 dX10_sails_120 121 rfl (by decide) ?_
        refine g_istore3 dX10_sails_121 122 rfl (by decide) rfl ?_
        refine g_iinc5 dX10_sails_122 125 rfl 1 (by decide) (nI (i + 1)) (nI_add _ 1) (by decide) rfl ?_
        refine g_goto dX10_sails_125 24 rfl ?_
        refine g_fgt (L' := [.ref 0, .int bits, .int alive, .int (gB false), .int (nI p), .int (nI (i + 1)), gF]) ⟨Or.inl rfl, Or.inl rfl, Or.inl rfl, Or.inl rfl, Or.inl rfl, Or.inl rfl, Or.inr rfl, trivial⟩ ?_
        have e : (fX10_sails_24 told bits alive p) i u0 = false := by rw [fX10_sails_24, if_pos c1, if_neg c2]
        refine LX10_sails_24 hsz hs hp d (i + 1) false (by omega) ?_
        rw [← e]
        exact k
      · replace c2 := gB_t c2
        refine g_iload dX10_sails_92 94 rfl rfl ?_
        refine g_if_eq dX10_sails_94 116 rfl 97 rfl (fun _ => ?_) (fun c => absurd (by decide) c)
        refine g_iconst 1 dX10_sails_116 117 rfl (by decide) ?_
        refine g_goto dX10_sails_117 121 rfl ?_
        refine g_istore3 dX10_sails_121 122 rfl (by decide) rfl ?_
        refine g_iinc5 dX10_sails_122 125 rfl 1 (by decide) (nI (i + 1)) (nI_add _ 1) (by decide) rfl ?_
        refine g_goto dX10_sails_125 24 rfl ?_
        refine g_fgt (L' := [.ref 0, .int bits, .int alive, .int (gB true), .int (nI p), .int (nI (i + 1)), gF]) ⟨Or.inl rfl, Or.inl rfl, Or.inl rfl, Or.inl rfl, Or.inl rfl, Or.inl rfl, Or.inr rfl, trivial⟩ ?_
        have e : (fX10_sails_24 told bits alive p) i u0 = true := by rw [fX10_sails_24, if_pos c1, if_pos c2]
        refine LX10_sails_24 hsz hs hp d (i + 1) true (by omega) ?_
        rw [← e]
        exact k
    · refine g_aload_n dX10_sails_48 rfl 49 rfl rfl ?_
      refine g_get (v := .ref 2) dX10_sails_49 52 rfl lX10_13 rfl rfl ?_
      refine g_bipush 31 dX10_sails_52 54 rfl (by decide) ?_
      refine g_iload dX10_sails_54 56 rfl rfl ?_
      refine g_iadd' dX10_sails_56 57 rfl (nI (31 + p)) (nI_add 31 _) ?_
      refine g_iaload (N := 40) dX10_sails_57 58 rfl rfl (vp_in_nI (by omega) (by decide)) ?_
      refine g_aload_n dX10_sails_58 rfl 59 rfl rfl ?_
      refine g_get (v := .ref 2) dX10_sails_59 62 rfl lX10_13 rfl rfl ?_
      refine g_bipush 31 dX10_sails_62 64 rfl (by decide) ?_
      refine g_iload dX10_sails_64 66 rfl rfl ?_
      refine g_iadd' dX10_sails_66 67 rfl (nI (31 + i)) (nI_add 31 _) ?_
      refine g_iaload (N := 40) dX10_sails_67 68 rfl rfl (vp_in_nI (by omega) (by decide)) ?_
      refine g_icmp_ne dX10_sails_68 85 rfl 71 rfl (fun c3 => ?_) (fun c3 => ?_)
      · refine g_iconst 0 dX10_sails_85 86 rfl (by decide) ?_
        refine g_istore6 dX10_sails_86 88 rfl (by decide) rfl ?_
        refine g_iload_n dX10_sails_88 rfl 89 rfl rfl ?_
        refine g_if_eq dX10_sails_89 120 rfl 92 rfl (fun c9 => ?_) (fun c9 => ?_)
        · replace c9 := gB_f c9
          refine g_iconst 0 dX10_sails_120 121 rfl (by decide) ?_
          refine g_istore3 dX10_sails_121 122 rfl (by decide) rfl ?_
          refine g_iinc5 dX10_sails_122 125 rfl 1 (by decide) (nI (i + 1)) (nI_add _ 1) (by decide) rfl ?_
          refine g_goto dX10_sails_125 24 rfl ?_
          refine g_fgt (L' := [.ref 0, .int bits, .int alive, .int (gB false), .int (nI p), .int (nI (i + 1)), gF]) ⟨Or.inl rfl, Or.inl rfl, Or.inl rfl, Or.inl rfl, Or.inl rfl, Or.inl rfl, Or.inr rfl, trivial⟩ ?_
          have e : (fX10_sails_24 told bits alive p) i u0 = false := by rw [fX10_sails_24, if_neg c1, if_neg c3, if_neg c9]
          refine LX10_sails_24 hsz hs hp d (i + 1) false (by omega) ?_
          rw [← e]
          exact k
        · replace c9 := gB_t c9
          refine g_iload dX10_sails_92 94 rfl rfl ?_
          refine g_if_eq dX10_sails_94 116 rfl 97 rfl (fun _ => ?_) (fun c => absurd (by decide) c)
          refine g_iconst 1 dX10_sails_116 117 rfl (by decide) ?_
          refine g_goto dX10_sails_117 121 rfl ?_
          refine g_istore3 dX10_sails_121 122 rfl (by decide) rfl ?_
          refine g_iinc5 dX10_sails_122 125 rfl 1 (by decide) (nI (i + 1)) (nI_add _ 1) (by decide) rfl ?_
          refine g_goto dX10_sails_125 24 rfl ?_
          refine g_fgt (L' := [.ref 0, .int bits, .int alive, .int (gB true), .int (nI p), .int (nI (i + 1)), gF]) ⟨Or.inl rfl, Or.inl rfl, Or.inl rfl, Or.inl rfl, Or.inl rfl, Or.inl rfl, Or.inr rfl, trivial⟩ ?_
          have e : (fX10_sails_24 told bits alive p) i u0 = true := by rw [fX10_sails_24, if_neg c1, if_neg c3, if_pos c9]
          refine LX10_sails_24 hsz hs hp d (i + 1) true (by omega) ?_
          rw [← e]
          exact k
      · refine g_iload_n dX10_sails_71 rfl 72 rfl rfl ?_
        refine g_iload dX10_sails_72 74 rfl rfl ?_
        refine g_ishr dX10_sails_74 75 rfl ?_
        refine g_iconst 1 dX10_sails_75 76 rfl (by decide) ?_
        refine g_iand dX10_sails_76 77 rfl ?_
        refine g_iconst 1 dX10_sails_77 78 rfl (by decide) ?_
        refine g_icmp_ne dX10_sails_78 85 rfl 81 rfl (fun c4 => ?_) (fun c4 => ?_)
        · refine g_iconst 0 dX10_sails_85 86 rfl (by decide) ?_
          refine g_istore6 dX10_sails_86 88 rfl (by decide) rfl ?_
          refine g_iload_n dX10_sails_88 rfl 89 rfl rfl ?_
          refine g_if_eq dX10_sails_89 120 rfl 92 rfl (fun c8 => ?_) (fun c8 => ?_)
          · replace c8 := gB_f c8
            refine g_iconst 0 dX10_sails_120 121 rfl (by decide) ?_
            refine g_istore3 dX10_sails_121 122 rfl (by decide) rfl ?_
            refine g_iinc5 dX10_sails_122 125 rfl 1 (by decide) (nI (i + 1)) (nI_add _ 1) (by decide) rfl ?_
            refine g_goto dX10_sails_125 24 rfl ?_
            refine g_fgt (L' := [.ref 0, .int bits, .int alive, .int (gB false), .int (nI p), .int (nI (i + 1)), gF]) ⟨Or.inl rfl, Or.inl rfl, Or.inl rfl, Or.inl rfl, Or.inl rfl, Or.inl rfl, Or.inr rfl, trivial⟩ ?_
            have e : (fX10_sails_24 told bits alive p) i u0 = false := by rw [fX10_sails_24, if_neg c1, if_pos c3, if_neg c4, if_neg c8]
            refine LX10_sails_24 hsz hs hp d (i + 1) false (by omega) ?_
            rw [← e]
            exact k
          · replace c8 := gB_t c8
            refine g_iload dX10_sails_92 94 rfl rfl ?_
            refine g_if_eq dX10_sails_94 116 rfl 97 rfl (fun _ => ?_) (fun c => absurd (by decide) c)
            refine g_iconst 1 dX10_sails_116 117 rfl (by decide) ?_
            refine g_goto dX10_sails_117 121 rfl ?_
            refine g_istore3 dX10_sails_121 122 rfl (by decide) rfl ?_
            refine g_iinc5 dX10_sails_122 125 rfl 1 (by decide) (nI (i + 1)) (nI_add _ 1) (by decide) rfl ?_
            refine g_goto dX10_sails_125 24 rfl ?_
            refine g_fgt (L' := [.ref 0, .int bits, .int alive, .int (gB true), .int (nI p), .int (nI (i + 1)), gF]) ⟨Or.inl rfl, Or.inl rfl, Or.inl rfl, Or.inl rfl, Or.inl rfl, Or.inl rfl, Or.inr rfl, trivial⟩ ?_
            have e : (fX10_sails_24 told bits alive p) i u0 = true := by rw [fX10_sails_24, if_neg c1, if_pos c3, if_neg c4, if_pos c8]
            refine LX10_sails_24 hsz hs hp d (i + 1) true (by omega) ?_
            rw [← e]
            exact k
        · refine g_iconst 1 dX10_sails_81 82 rfl (by decide) ?_
          refine g_goto dX10_sails_82 86 rfl ?_
          refine g_istore6 dX10_sails_86 88 rfl (by decide) rfl ?_
          refine g_iload_n dX10_sails_88 rfl 89 rfl rfl ?_
          refine g_if_eq dX10_sails_89 120 rfl 92 rfl (fun c5 => ?_) (fun c5 => ?_)
          · replace c5 := gB_f c5
            refine g_iconst 0 dX10_sails_120 121 rfl (by decide) ?_
            refine g_istore3 dX10_sails_121 122 rfl (by decide) rfl ?_
            refine g_iinc5 dX10_sails_122 125 rfl 1 (by decide) (nI (i + 1)) (nI_add _ 1) (by decide) rfl ?_
            refine g_goto dX10_sails_125 24 rfl ?_
            refine g_fgt (L' := [.ref 0, .int bits, .int alive, .int (gB false), .int (nI p), .int (nI (i + 1)), gF]) ⟨Or.inl rfl, Or.inl rfl, Or.inl rfl, Or.inl rfl, Or.inl rfl, Or.inl rfl, Or.inr rfl, trivial⟩ ?_
            have e : (fX10_sails_24 told bits alive p) i u0 = false := by rw [fX10_sails_24, if_neg c1, if_pos c3, if_pos c4, if_neg c5]
            refine LX10_sails_24 hsz hs hp d (i + 1) false (by omega) ?_
            rw [← e]
            exact k
          · replace c5 := gB_t c5
            refine g_iload dX10_sails_92 94 rfl rfl ?_
            refine g_if_eq dX10_sails_94 116 rfl 97 rfl (fun c => absurd c (by decide)) (fun _ => ?_)
            refine g_iload_n dX10_sails_97 rfl 98 rfl rfl ?_
            refine g_iload dX10_sails_98 100 rfl rfl ?_
            refine g_ishr dX10_sails_100 101 rfl ?_
            refine g_iconst 1 dX10_sails_101 102 rfl (by decide) ?_
            refine g_iand dX10_sails_102 103 rfl ?_
            refine g_iconst 1 dX10_sails_103 104 rfl (by decide) ?_
            refine g_icmp_ne dX10_sails_104 116 rfl 107 rfl (fun c6 => ?_) (fun c6 => ?_)
            · refine g_iconst 1 dX10_sails_116 117 rfl (by decide) ?_
              refine g_goto dX10_sails_117 121 rfl ?_
              refine g_istore3 dX10_sails_121 122 rfl (by decide) rfl ?_
              refine g_iinc5 dX10_sails_122 125 rfl 1 (by decide) (nI (i + 1)) (nI_add _ 1) (by decide) rfl ?_
              refine g_goto dX10_sails_125 24 rfl ?_
              refine g_fgt (L' := [.ref 0, .int bits, .int alive, .int (gB true), .int (nI p), .int (nI (i + 1)), gF]) ⟨Or.inl rfl, Or.inl rfl, Or.inl rfl, Or.inl rfl, Or.inl rfl, Or.inl rfl, Or.inr rfl, trivial⟩ ?_
              have e : (fX10_sails_24 told bits alive p) i u0 = true := by rw [fX10_sails_24, if_neg c1, if_pos c3, if_pos c4, if_pos c5, if_neg c6]
              refine LX10_sails_24 hsz hs hp d (i + 1) true (by omega) ?_
              rw [← e]
              exact k
            · refine g_iload_n dX10_sails_107 rfl 108 rfl rfl ?_
              refine g_iload dX10_sails_108 110 rfl rfl ?_
              refine g_ishr dX10_sails_110 111 rfl ?_
              refine g_iconst 1 dX10_sails_111 112 rfl (by decide) ?_
              refine g_iand dX10_sails_112 113 rfl ?_
              refine g_if_eq dX10_sails_113 120 rfl 116 rfl (fun c7 => ?_) (fun c7 => ?_)
              · refine g_iconst 0 dX10_sails_120 121 rfl (by decide) ?_
                refine g_istore3 dX10_sails_121 122 rfl (by decide) rfl ?_
                refine g_iinc5 dX10_sails_122 125 rfl 1 (by decide) (nI (i + 1)) (nI_add _ 1) (by decide) rfl ?_
                refine g_goto dX10_sails_125 24 rfl ?_
                refine g_fgt (L' := [.ref 0, .int bits, .int alive, .int (gB false), .int (nI p), .int (nI (i + 1)), gF]) ⟨Or.inl rfl, Or.inl rfl, Or.inl rfl, Or.inl rfl, Or.inl rfl, Or.inl rfl, Or.inr rfl, trivial⟩ ?_
                have e : (fX10_sails_24 told bits alive p) i u0 = false := by rw [fX10_sails_24, if_neg c1, if_pos c3, if_pos c4, if_pos c5, if_pos c6, if_pos c7]
                refine LX10_sails_24 hsz hs hp d (i + 1) false (by omega) ?_
                rw [← e]
                exact k
              · refine g_iconst 1 dX10_sails_116 117 rfl (by decide) ?_
                refine g_goto dX10_sails_117 121 rfl ?_
                refine g_istore3 dX10_sails_121 122 rfl (by decide) rfl ?_
                refine g_iinc5 dX10_sails_122 125 rfl 1 (by decide) (nI (i + 1)) (nI_add _ 1) (by decide) rfl ?_
                refine g_goto dX10_sails_125 24 rfl ?_
                refine g_fgt (L' := [.ref 0, .int bits, .int alive, .int (gB true), .int (nI p), .int (nI (i + 1)), gF]) ⟨Or.inl rfl, Or.inl rfl, Or.inl rfl, Or.inl rfl, Or.inl rfl, Or.inl rfl, Or.inr rfl, trivial⟩ ?_
                have e : (fX10_sails_24 told bits alive p) i u0 = true := by rw [fX10_sails_24, if_neg c1, if_pos c3, if_pos c4, if_pos c5, if_pos c6, if_neg c7]
                refine LX10_sails_24 hsz hs hp d (i + 1) true (by omega) ?_
                rw [← e]
                exact k
def fX10_sails_10 (told : Int32 → Int32) (bits : Int32) (alive : Int32) (sz : Nat) : Nat → (Bool) → (Bool)
  | i, u0 => (gLp (fX10_sails_24 told bits alive i) sz 0 u0)
set_option maxRecDepth 100000 in
set_option maxHeartbeats 4000000 in
theorem LX10_sails_10 {w : gW} {al : Bool} {typed known kept noted at_ : Int32} {text told draft s past images notes alone parts held : Int32 → Int32} {n : Nat} {P : gP} {sz : Nat} {bits : Int32} {alive : Int32} (hsz : told 0 = nI sz) (hs : sz ≤ 9)  : ∀ (d i : Nat) (u0 : Bool), i + d = sz → G w gT0 al n mX10_sails 0 0 P 0 0 (hM text typed told draft s past known images kept notes noted at_ alone parts held) 134 [.ref 0, .int bits, .int alive, .int (gB (gLp (fX10_sails_10 told bits alive sz) d i u0)), .int (nI sz), gF, gF] [] → G w gT0 al n mX10_sails 0 0 P 0 0 (hM text typed told draft s past known images kept notes noted at_ alone parts held) 10 [.ref 0, .int bits, .int alive, .int (gB u0), .int (nI i), gF, gF] []
  | 0, i, u0, hi, k => by
    have hN : i = sz := by omega
    rw [hN]
    rw [hN] at k
    refine g_iload dX10_sails_10 12 rfl rfl ?_
    refine g_aload_n dX10_sails_12 rfl 13 rfl rfl ?_
    refine g_get (v := .ref 2) dX10_sails_13 16 rfl lX10_13 rfl rfl ?_
    refine g_iconst 0 dX10_sails_16 17 rfl (by decide) ?_
    refine g_iaload (N := 40) dX10_sails_17 18 rfl rfl (vp_in_iff.mpr (by decide)) ?_
    refine g_icmp_ge dX10_sails_18 134 rfl 21 rfl (fun _ => ?_) (fun c => absurd (by rw [hsz]; exact nI_le (Nat.le_refl _) (by omega)) c)
    exact k
  | d + 1, i, u0, hi, k => by
    refine g_iload dX10_sails_10 12 rfl rfl ?_
    refine g_aload_n dX10_sails_12 rfl 13 rfl rfl ?_
    refine g_get (v := .ref 2) dX10_sails_13 16 rfl lX10_13 rfl rfl ?_
    refine g_iconst 0 dX10_sails_16 17 rfl (by decide) ?_
    refine g_iaload (N := 40) dX10_sails_17 18 rfl rfl (vp_in_iff.mpr (by decide)) ?_
    refine g_icmp_ge dX10_sails_18 134 rfl 21 rfl (fun c => absurd c (by rw [hsz]; exact nI_ge (by omega) (by omega))) (fun _ => ?_)
    refine g_iconst 0 dX10_sails_21 22 rfl (by decide) ?_
    refine g_istore5 dX10_sails_22 24 rfl (by decide) rfl ?_
    refine LX10_sails_24 hsz hs (by omega) sz 0 u0 (by omega) ?_
    refine g_iinc4 dX10_sails_128 131 rfl 1 (by decide) (nI (i + 1)) (nI_add _ 1) (by decide) rfl ?_
    refine g_goto dX10_sails_131 10 rfl ?_
    refine g_fgt (L' := [.ref 0, .int bits, .int alive, .int (gB (gLp (fX10_sails_24 told bits alive i) sz 0 u0)), .int (nI (i + 1)), gF, gF]) ⟨Or.inl rfl, Or.inl rfl, Or.inl rfl, Or.inl rfl, Or.inl rfl, Or.inr rfl, Or.inl rfl, trivial⟩ ?_
    have e : (fX10_sails_10 told bits alive sz) i u0 = (gLp (fX10_sails_24 told bits alive i) sz 0 u0) := by rw [fX10_sails_10]
    refine LX10_sails_10 hsz hs d (i + 1) (gLp (fX10_sails_24 told bits alive i) sz 0 u0) (by omega) ?_
    rw [← e]
    exact k
def rX10_sails (told : Int32 → Int32) (s : Int32 → Int32) (bits : Int32) (sz : Nat) : Bool := (if (gLp (fX10_sails_10 told bits (rX10_alive told s sz) sz) sz 0 true) = true then (if (rX10_in ((rX10_sumOf told s bits sz) - (told 1)) 0 (told 2)) = true then true else false) else false)
set_option maxRecDepth 100000 in
set_option maxHeartbeats 4000000 in
theorem MX10_sails {w : gW} {al : Bool} {typed known kept noted at_ : Int32} {text told draft s past images notes alone parts held : Int32 → Int32} {sz : Nat} (bits : Int32) (hsz : told 0 = nI sz) (hs : sz ≤ 9)  : M w gT0 al mX10_sails 0 0 (hM text typed told draft s past known images kept notes noted at_ alone parts held) [.ref 0, .int bits] (gEq (hM text typed told draft s past known images kept notes noted at_ alone parts held) (some (.int (gB (rX10_sails told s bits sz))))) := by
  refine M.of (L0 := [.ref 0, .int bits, gF, gF, gF, gF, gF]) (by decide +kernel) (Nat.le_of_ble_eq_true rfl) rfl ?_
  refine g_aload_n dX10_sails_0 rfl 1 rfl rfl ?_
  refine g_cVv (as := []) (st := []) dX10_sails_1 4 rfl kX10_98 ⟨Nat.le_of_ble_eq_true rfl, Nat.le_of_ble_eq_true rfl⟩ (MX10_alive hsz hs) rfl rfl rfl rfl (Nat.le_of_ble_eq_true rfl) (Nat.le_refl _) (Nat.le_refl _) ?_
  refine g_istore2 dX10_sails_4 5 rfl (by decide) rfl ?_
  refine g_iconst 1 dX10_sails_5 6 rfl (by decide) ?_
  refine g_istore3 dX10_sails_6 7 rfl (by decide) rfl ?_
  refine g_iconst 0 dX10_sails_7 8 rfl (by decide) ?_
  refine g_istore4 dX10_sails_8 10 rfl (by decide) rfl ?_
  refine LX10_sails_10 hsz hs sz 0 true (by omega) ?_
  refine g_iload_n dX10_sails_134 rfl 135 rfl rfl ?_
  refine g_if_eq dX10_sails_135 167 rfl 138 rfl (fun c1 => ?_) (fun c1 => ?_)
  · replace c1 := gB_f c1
    refine g_iconst 0 dX10_sails_167 168 rfl (by decide) ?_
    refine g_ireturn dX10_sails_168 rfl rfl (Nat.le_refl _) (Nat.le_refl _) ?_
    have e : (rX10_sails told s bits sz) = false := by rw [rX10_sails, if_neg c1]
    rw [e]
    exact ⟨rfl, rfl⟩
  · replace c1 := gB_t c1
    refine g_aload_n dX10_sails_138 rfl 139 rfl rfl ?_
    refine g_iload_n dX10_sails_139 rfl 140 rfl rfl ?_
    refine g_cVv (as := [.int bits]) (st := []) dX10_sails_140 143 rfl kX10_101 ⟨Nat.le_of_ble_eq_true rfl, Nat.le_of_ble_eq_true rfl⟩ (MX10_sumOf bits hsz hs) rfl rfl rfl rfl (Nat.le_of_ble_eq_true rfl) (Nat.le_refl _) (Nat.le_refl _) ?_
    refine g_aload_n dX10_sails_143 rfl 144 rfl rfl ?_
    refine g_get (v := .ref 2) dX10_sails_144 147 rfl lX10_13 rfl rfl ?_
    refine g_iconst 1 dX10_sails_147 148 rfl (by decide) ?_
    refine g_iaload (N := 40) dX10_sails_148 149 rfl rfl (vp_in_iff.mpr (by decide)) ?_
    refine g_isub dX10_sails_149 150 rfl ?_
    refine g_iconst 0 dX10_sails_150 151 rfl (by decide) ?_
    refine g_aload_n dX10_sails_151 rfl 152 rfl rfl ?_
    refine g_get (v := .ref 2) dX10_sails_152 155 rfl lX10_13 rfl rfl ?_
    refine g_iconst 2 dX10_sails_155 156 rfl (by decide) ?_
    refine g_iaload (N := 40) dX10_sails_156 157 rfl rfl (vp_in_iff.mpr (by decide)) ?_
    refine g_cSv (as := [.int ((rX10_sumOf told s bits sz) - (told 1)), .int 0, .int (told 2)]) (st := []) dX10_sails_157 160 rfl kX10_50 ⟨Nat.le_of_ble_eq_true rfl, Nat.le_of_ble_eq_true rfl⟩ (MX10_in ((rX10_sumOf told s bits sz) - (told 1)) 0 (told 2)) rfl (Nat.le_of_ble_eq_true rfl) (Nat.le_refl _) (Nat.le_refl _) ?_
    refine g_if_eq dX10_sails_160 167 rfl 163 rfl (fun c2 => ?_) (fun c2 => ?_)
    · replace c2 := gB_f c2
      refine g_iconst 0 dX10_sails_167 168 rfl (by decide) ?_
      refine g_ireturn dX10_sails_168 rfl rfl (Nat.le_refl _) (Nat.le_refl _) ?_
      have e : (rX10_sails told s bits sz) = false := by rw [rX10_sails, if_pos c1, if_neg c2]
      rw [e]
      exact ⟨rfl, rfl⟩
    · replace c2 := gB_t c2
      refine g_iconst 1 dX10_sails_163 164 rfl (by decide) ?_
      refine g_goto dX10_sails_164 168 rfl ?_
      refine g_ireturn dX10_sails_168 rfl rfl (Nat.le_refl _) (Nat.le_refl _) ?_
      have e : (rX10_sails told s bits sz) = true := by rw [rX10_sails, if_pos c1, if_pos c2]
      rw [e]
      exact ⟨rfl, rfl⟩
end
section
/-! the reference: minutes, moves -/
def rX10_letterAt (text : Int32 → Int32) (k : Nat) (ty : Nat) : Int32 := (if (nI ty) ≤ (nI k) then (-1) else (text (nI k)))
set_option maxRecDepth 100000 in
set_option maxHeartbeats 4000000 in
theorem MX10_letterAt {w : gW} {al : Bool} {known kept noted at_ : Int32} {text told draft s past images notes alone parts held : Int32 → Int32} {ty : Nat} (k : Nat) (hty : ty ≤ 200) (hk : k < 1000) : M w gT0 al mX10_letterAt 0 0 (hM text (nI ty) told draft s past known images kept notes noted at_ alone parts held) [.ref 0, .int (nI k)] (gEq (hM text (nI ty) told draft s past known images kept notes noted at_ alone parts held) (some (.int (rX10_letterAt text k ty)))) := by
  refine M.of (L0 := [.ref 0, .int (nI k)]) (by decide +kernel) (Nat.le_of_ble_eq_true rfl) rfl ?_
  refine g_iload_n dX10_letterAt_0 rfl 1 rfl rfl ?_
  refine g_aload_n dX10_letterAt_1 rfl 2 rfl rfl ?_
  refine g_get (v := .int (nI ty)) dX10_letterAt_2 5 rfl lX10_54 rfl rfl ?_
  refine g_icmp_ge dX10_letterAt_5 17 rfl 8 rfl (fun c1 => ?_) (fun c1 => ?_)
  · refine g_iconst (-1) dX10_letterAt_17 18 rfl (by decide) ?_
    refine g_ireturn dX10_letterAt_18 rfl rfl (Nat.le_refl _) (Nat.le_refl _) ?_
    have e : (rX10_letterAt text k ty) = (-1) := by rw [rX10_letterAt, if_pos c1]
    rw [e]
    exact ⟨rfl, rfl⟩
  · refine g_aload_n dX10_letterAt_8 rfl 9 rfl rfl ?_
    refine g_get (v := .ref 1) dX10_letterAt_9 12 rfl lX10_7 rfl rfl ?_
    refine g_iload_n dX10_letterAt_12 rfl 13 rfl rfl ?_
    refine g_iaload (N := 200) dX10_letterAt_13 14 rfl rfl (vp_in_nI (by have q : k < ty := Nat.lt_of_not_le (fun z => c1 (nI_le z (by omega))); omega) (by decide)) ?_
    refine g_goto dX10_letterAt_14 18 rfl ?_
    refine g_ireturn dX10_letterAt_18 rfl rfl (Nat.le_refl _) (Nat.le_refl _) ?_
    have e : (rX10_letterAt text k ty) = (text (nI k)) := by rw [rX10_letterAt, if_neg c1]
    rw [e]
    exact ⟨rfl, rfl⟩
def fX10_lays_2 (draft : Int32 → Int32) : Nat → (Int32 → Int32) → (Int32 → Int32)
  | i, told => (gup told (nI i) (draft (nI i)))
set_option maxRecDepth 100000 in
set_option maxHeartbeats 4000000 in
theorem LX10_lays_2 {w : gW} {al : Bool} {typed known kept noted at_ : Int32} {text draft s past images notes alone parts held : Int32 → Int32} {n : Nat} {P : gP}   : ∀ (d i : Nat) (told : Int32 → Int32), i + d = 40 → G w gT0 al n mX10_lays 0 0 P 0 0 (hM text typed (gLp (fX10_lays_2 draft) d i told) draft s past known images kept notes noted at_ alone parts held) 26 [.ref 0, .int (nI 40)] [] → G w gT0 al n mX10_lays 0 0 P 0 0 (hM text typed told draft s past known images kept notes noted at_ alone parts held) 2 [.ref 0, .int (nI i)] []
  | 0, i, told, hi, k => by
    have hN : i = 40 := by omega
    rw [hN]
    rw [hN] at k
    refine g_iload_n dX10_lays_2 rfl 3 rfl rfl ?_
    refine g_bipush 40 dX10_lays_3 5 rfl (by decide) ?_
    refine g_icmp_ge dX10_lays_5 26 rfl 8 rfl (fun _ => ?_) (fun c => absurd (nI_le (a := 40) (b := 40) (by omega) (by omega)) c)
    exact k
  | d + 1, i, told, hi, k => by
    refine g_iload_n dX10_lays_2 rfl 3 rfl rfl ?_
    refine g_bipush 40 dX10_lays_3 5 rfl (by decide) ?_
    refine g_icmp_ge dX10_lays_5 26 rfl 8 rfl (fun c => absurd c (nI_ge (a := i) (b := 40) (by omega) (by omega))) (fun _ => ?_)
    refine g_aload_n dX10_lays_8 rfl 9 rfl rfl ?_
    refine g_get (v := .ref 2) dX10_lays_9 12 rfl lX10_13 rfl rfl ?_
    refine g_iload_n dX10_lays_12 rfl 13 rfl rfl ?_
    refine g_aload_n dX10_lays_13 rfl 14 rfl rfl ?_
    refine g_get (v := .ref 3) dX10_lays_14 17 rfl lX10_16 rfl rfl ?_
    refine g_iload_n dX10_lays_17 rfl 18 rfl rfl ?_
    refine g_iaload (N := 40) dX10_lays_18 19 rfl rfl (vp_in_nI (by omega) (by decide)) ?_
    refine g_iastore (N := 40) dX10_lays_19 20 rfl rfl (by decide) (vp_in_nI (by omega) (by decide)) (h' := (hM text typed (gup told (nI i) (draft (nI i))) draft s past known images kept notes noted at_ alone parts held)) rfl ?_
    refine g_iinc1 dX10_lays_20 23 rfl 1 (by decide) (nI (i + 1)) (nI_add _ 1) (by decide) rfl ?_
    refine g_goto dX10_lays_23 2 rfl ?_
    have e : (fX10_lays_2 draft) i told = (gup told (nI i) (draft (nI i))) := by rw [fX10_lays_2]
    refine LX10_lays_2  d (i + 1) (gup told (nI i) (draft (nI i))) (by omega) ?_
    rw [← e]
    exact k
def fX10_lays_28  : Nat → (Int32 → Int32) → (Int32 → Int32)
  | i, s => (gup s (nI i) 0)
set_option maxRecDepth 100000 in
set_option maxHeartbeats 4000000 in
theorem LX10_lays_28 {w : gW} {al : Bool} {typed known kept noted at_ : Int32} {text told draft past images notes alone parts held : Int32 → Int32} {n : Nat} {P : gP}   : ∀ (d i : Nat) (s : Int32 → Int32), i + d = 21 → G w gT0 al n mX10_lays 0 0 P 0 0 (hM text typed told draft (gLp fX10_lays_28 d i s) past known images kept notes noted at_ alone parts held) 47 [.ref 0, .int (nI 21)] [] → G w gT0 al n mX10_lays 0 0 P 0 0 (hM text typed told draft s past known images kept notes noted at_ alone parts held) 28 [.ref 0, .int (nI i)] []
  | 0, i, s, hi, k => by
    have hN : i = 21 := by omega
    rw [hN]
    rw [hN] at k
    refine g_iload_n dX10_lays_28 rfl 29 rfl rfl ?_
    refine g_bipush 21 dX10_lays_29 31 rfl (by decide) ?_
    refine g_icmp_ge dX10_lays_31 47 rfl 34 rfl (fun _ => ?_) (fun c => absurd (nI_le (a := 21) (b := 21) (by omega) (by omega)) c)
    exact k
  | d + 1, i, s, hi, k => by
    refine g_iload_n dX10_lays_28 rfl 29 rfl rfl ?_
    refine g_bipush 21 dX10_lays_29 31 rfl (by decide) ?_
    refine g_icmp_ge dX10_lays_31 47 rfl 34 rfl (fun c => absurd c (nI_ge (a := i) (b := 21) (by omega) (by omega))) (fun _ => ?_)
    refine g_aload_n dX10_lays_34 rfl 35 rfl rfl ?_
    refine g_get (v := .ref 4) dX10_lays_35 38 rfl lX10_19 rfl rfl ?_
    refine g_iload_n dX10_lays_38 rfl 39 rfl rfl ?_
    refine g_iconst 0 dX10_lays_39 40 rfl (by decide) ?_
    refine g_iastore (N := 21) dX10_lays_40 41 rfl rfl (by decide) (vp_in_nI (by omega) (by decide)) (h' := (hM text typed told draft (gup s (nI i) 0) past known images kept notes noted at_ alone parts held)) rfl ?_
    refine g_iinc1 dX10_lays_41 44 rfl 1 (by decide) (nI (i + 1)) (nI_add _ 1) (by decide) rfl ?_
    refine g_goto dX10_lays_44 28 rfl ?_
    have e : fX10_lays_28 i s = (gup s (nI i) 0) := by rw [fX10_lays_28]
    refine LX10_lays_28  d (i + 1) (gup s (nI i) 0) (by omega) ?_
    rw [← e]
    exact k
def rX10_lays (told : Int32 → Int32) (draft : Int32 → Int32) (s : Int32 → Int32) : (Int32 → Int32) × (Int32 → Int32) × Int32 × Int32 × Int32 := ((gLp (fX10_lays_2 draft) 40 0 told), (gLp fX10_lays_28 21 0 s), 0, 0, 0)
set_option maxRecDepth 100000 in
set_option maxHeartbeats 4000000 in
theorem MX10_lays {w : gW} {al : Bool} {typed known kept noted at_ : Int32} {text told draft s past images notes alone parts held : Int32 → Int32}   : M w gT0 al mX10_lays 0 0 (hM text typed told draft s past known images kept notes noted at_ alone parts held) [.ref 0] (gEq (hM text typed ((rX10_lays told draft s).1) draft ((rX10_lays told draft s).2.1) past ((rX10_lays told draft s).2.2.1) images ((rX10_lays told draft s).2.2.2.1) notes ((rX10_lays told draft s).2.2.2.2) at_ alone parts held) none) := by
  refine M.of (L0 := [.ref 0, gF]) (by decide +kernel) (Nat.le_of_ble_eq_true rfl) rfl ?_
  refine g_iconst 0 dX10_lays_0 1 rfl (by decide) ?_
  refine g_istore1 dX10_lays_1 2 rfl (by decide) rfl ?_
  refine LX10_lays_2  40 0 told (by omega) ?_
  refine g_iconst 0 dX10_lays_26 27 rfl (by decide) ?_
  refine g_istore1 dX10_lays_27 28 rfl (by decide) rfl ?_
  refine LX10_lays_28  21 0 s (by omega) ?_
  refine g_aload_n dX10_lays_47 rfl 48 rfl rfl ?_
  refine g_iconst 0 dX10_lays_48 49 rfl (by decide) ?_
  refine g_put dX10_lays_49 52 rfl lX10_80 wrX10 rfl rfl rfl rfl rfl (Nat.le_of_ble_eq_true rfl) (h' := (hM text typed (gLp (fX10_lays_2 draft) 40 0 told) draft (gLp fX10_lays_28 21 0 s) past 0 images kept notes noted at_ alone parts held)) rfl ?_
  refine g_aload_n dX10_lays_52 rfl 53 rfl rfl ?_
  refine g_iconst 0 dX10_lays_53 54 rfl (by decide) ?_
  refine g_put dX10_lays_54 57 rfl lX10_83 wrX10 rfl rfl rfl rfl rfl (Nat.le_of_ble_eq_true rfl) (h' := (hM text typed (gLp (fX10_lays_2 draft) 40 0 told) draft (gLp fX10_lays_28 21 0 s) past 0 images 0 notes noted at_ alone parts held)) rfl ?_
  refine g_aload_n dX10_lays_57 rfl 58 rfl rfl ?_
  refine g_iconst 0 dX10_lays_58 59 rfl (by decide) ?_
  refine g_put dX10_lays_59 62 rfl lX10_86 wrX10 rfl rfl rfl rfl rfl (Nat.le_of_ble_eq_true rfl) (h' := (hM text typed (gLp (fX10_lays_2 draft) 40 0 told) draft (gLp fX10_lays_28 21 0 s) past 0 images 0 notes 0 at_ alone parts held)) rfl ?_
  refine g_return dX10_lays_62 rfl (Nat.le_refl _) (Nat.le_refl _) ?_
  have e : (rX10_lays told draft s) = ((gLp (fX10_lays_2 draft) 40 0 told), (gLp fX10_lays_28 21 0 s), 0, 0, 0) := by rw [rX10_lays]
  rw [e]
  exact ⟨rfl, rfl⟩
def rX10_person (told : Int32 → Int32) (s : Int32 → Int32) (p : Nat) (what : Int32) : Int32 := (if what = 0 then (told (nI (4 + p))) else (if what = 1 then (told (nI (13 + p))) else (if what = 2 then (told (nI (22 + p))) else (if what = 3 then (told (nI (31 + p))) else (if what = 4 then (rX10_where told s p) else (if what = 5 then (s (nI (9 + p))) else (-1)))))))
set_option maxRecDepth 100000 in
set_option maxHeartbeats 4000000 in
theorem MX10_person {w : gW} {al : Bool} {typed known kept noted at_ : Int32} {text told draft s past images notes alone parts held : Int32 → Int32}  (p : Nat) (what : Int32) (hv : rX10_isPerson told (nI p) = true) (hp : p < 9) : M w gT0 al mX10_person 0 0 (hM text typed told draft s past known images kept notes noted at_ alone parts held) [.ref 0, .int (nI p), .int what] (gEq (hM text typed told draft s past known images kept notes noted at_ alone parts held) (some (.int (rX10_person told s p what)))) := by
  refine M.of (L0 := [.ref 0, .int (nI p), .int what]) (by decide +kernel) (Nat.le_of_ble_eq_true rfl) rfl ?_
  refine g_aload_n dX10_person_0 rfl 1 rfl rfl ?_
  refine g_iload_n dX10_person_1 rfl 2 rfl rfl ?_
  refine g_cVv (as := [.int (nI p)]) (st := []) dX10_person_2 5 rfl kX10_95 ⟨Nat.le_of_ble_eq_true rfl, Nat.le_of_ble_eq_true rfl⟩ (MX10_isPerson (nI p)) rfl rfl rfl rfl (Nat.le_of_ble_eq_true rfl) (Nat.le_refl _) (Nat.le_refl _) ?_
  refine g_if_ne dX10_person_5 10 rfl 8 rfl (fun _ => ?_) (fun c => absurd c (gB_1 hv))
  refine g_iload_n dX10_person_10 rfl 11 rfl rfl ?_
  refine g_tsw dX10_person_11 [(0, 48), (1, 57), (2, 67), (3, 77), (4, 87), (5, 93)] 103 (by decide) (by decide) rfl (by decide) ?_
  refine And.intro (fun c1 => ?_) (fun c1 => ?_)
  · refine g_aload_n dX10_person_48 rfl 49 rfl rfl ?_
    refine g_get (v := .ref 2) dX10_person_49 52 rfl lX10_13 rfl rfl ?_
    refine g_iconst 4 dX10_person_52 53 rfl (by decide) ?_
    refine g_iload_n dX10_person_53 rfl 54 rfl rfl ?_
    refine g_iadd' dX10_person_54 55 rfl (nI (4 + p)) (nI_add 4 _) ?_
    refine g_iaload (N := 40) dX10_person_55 56 rfl rfl (vp_in_nI (by omega) (by decide)) ?_
    refine g_ireturn dX10_person_56 rfl rfl (Nat.le_refl _) (Nat.le_refl _) ?_
    have e : (rX10_person told s p what) = (told (nI (4 + p))) := by rw [rX10_person, if_pos c1]
    rw [e]
    exact ⟨rfl, rfl⟩
  · refine And.intro (fun c2 => ?_) (fun c2 => ?_)
    · refine g_aload_n dX10_person_57 rfl 58 rfl rfl ?_
      refine g_get (v := .ref 2) dX10_person_58 61 rfl lX10_13 rfl rfl ?_
      refine g_bipush 13 dX10_person_61 63 rfl (by decide) ?_
      refine g_iload_n dX10_person_63 rfl 64 rfl rfl ?_
      refine g_iadd' dX10_person_64 65 rfl (nI (13 + p)) (nI_add 13 _) ?_
      refine g_iaload (N := 40) dX10_person_65 66 rfl rfl (vp_in_nI (by omega) (by decide)) ?_
      refine g_ireturn dX10_person_66 rfl rfl (Nat.le_refl _) (Nat.le_refl _) ?_
      have e : (rX10_person told s p what) = (told (nI (13 + p))) := by rw [rX10_person, if_neg c1, if_pos c2]
      rw [e]
      exact ⟨rfl, rfl⟩
    · refine And.intro (fun c3 => ?_) (fun c3 => ?_)
      · refine g_aload_n dX10_person_67 rfl 68 rfl rfl ?_
        refine g_get (v := .ref 2) dX10_person_68 71 rfl lX10_13 rfl rfl ?_
        refine g_bipush 22 dX10_person_71 73 rfl (by decide) ?_
        refine g_iload_n dX10_person_73 rfl 74 rfl rfl ?_
        refine g_iadd' dX10_person_74 75 rfl (nI (22 + p)) (nI_add 22 _) ?_
        refine g_iaload (N := 40) dX10_person_75 76 rfl rfl (vp_in_nI (by omega) (by decide)) ?_
        refine g_ireturn dX10_person_76 rfl rfl (Nat.le_refl _) (Nat.le_refl _) ?_
        have e : (rX10_person told s p what) = (told (nI (22 + p))) := by rw [rX10_person, if_neg c1, if_neg c2, if_pos c3]
        rw [e]
        exact ⟨rfl, rfl⟩
      · refine And.intro (fun c4 => ?_) (fun c4 => ?_)
        · refine g_aload_n dX10_person_77 rfl 78 rfl rfl ?_
          refine g_get (v := .ref 2) dX10_person_78 81 rfl lX10_13 rfl rfl ?_
          refine g_bipush 31 dX10_person_81 83 rfl (by decide) ?_
          refine g_iload_n dX10_person_83 rfl 84 rfl rfl ?_
          refine g_iadd' dX10_person_84 85 rfl (nI (31 + p)) (nI_add 31 _) ?_
          refine g_iaload (N := 40) dX10_person_85 86 rfl rfl (vp_in_nI (by omega) (by decide)) ?_
          refine g_ireturn dX10_person_86 rfl rfl (Nat.le_refl _) (Nat.le_refl _) ?_
          have e : (rX10_person told s p what) = (told (nI (31 + p))) := by rw [rX10_person, if_neg c1, if_neg c2, if_neg c3, if_pos c4]
          rw [e]
          exact ⟨rfl, rfl⟩
        · refine And.intro (fun c5 => ?_) (fun c5 => ?_)
          · refine g_aload_n dX10_person_87 rfl 88 rfl rfl ?_
            refine g_iload_n dX10_person_88 rfl 89 rfl rfl ?_
            refine g_cVv (as := [.int (nI p)]) (st := []) dX10_person_89 92 rfl kX10_89 ⟨Nat.le_of_ble_eq_true rfl, Nat.le_of_ble_eq_true rfl⟩ (MX10_where p (by omega)) rfl rfl rfl rfl (Nat.le_of_ble_eq_true rfl) (Nat.le_refl _) (Nat.le_refl _) ?_
            refine g_ireturn dX10_person_92 rfl rfl (Nat.le_refl _) (Nat.le_refl _) ?_
            have e : (rX10_person told s p what) = (rX10_where told s p) := by rw [rX10_person, if_neg c1, if_neg c2, if_neg c3, if_neg c4, if_pos c5]
            rw [e]
            exact ⟨rfl, rfl⟩
          · refine And.intro (fun c6 => ?_) (fun c6 => ?_)
            · refine g_aload_n dX10_person_93 rfl 94 rfl rfl ?_
              refine g_get (v := .ref 4) dX10_person_94 97 rfl lX10_19 rfl rfl ?_
              refine g_bipush 9 dX10_person_97 99 rfl (by decide) ?_
              refine g_iload_n dX10_person_99 rfl 100 rfl rfl ?_
              refine g_iadd' dX10_person_100 101 rfl (nI (9 + p)) (nI_add 9 _) ?_
              refine g_iaload (N := 21) dX10_person_101 102 rfl rfl (vp_in_nI (by omega) (by decide)) ?_
              refine g_ireturn dX10_person_102 rfl rfl (Nat.le_refl _) (Nat.le_refl _) ?_
              have e : (rX10_person told s p what) = (s (nI (9 + p))) := by rw [rX10_person, if_neg c1, if_neg c2, if_neg c3, if_neg c4, if_neg c5, if_pos c6]
              rw [e]
              exact ⟨rfl, rfl⟩
            · refine g_iconst (-1) dX10_person_103 104 rfl (by decide) ?_
              refine g_ireturn dX10_person_104 rfl rfl (Nat.le_refl _) (Nat.le_refl _) ?_
              have e : (rX10_person told s p what) = (-1) := by rw [rX10_person, if_neg c1, if_neg c2, if_neg c3, if_neg c4, if_neg c5, if_neg c6]
              rw [e]
              exact ⟨rfl, rfl⟩
def rX10_person_x  : Int32 := (-1)
set_option maxRecDepth 100000 in
set_option maxHeartbeats 4000000 in
theorem MX10_person_x {w : gW} {al : Bool} {typed known kept noted at_ : Int32} {text told draft s past images notes alone parts held : Int32 → Int32}  (p : Int32) (what : Int32) (hv : ¬ rX10_isPerson told p = true) : M w gT0 al mX10_person 0 0 (hM text typed told draft s past known images kept notes noted at_ alone parts held) [.ref 0, .int p, .int what] (gEq (hM text typed told draft s past known images kept notes noted at_ alone parts held) (some (.int rX10_person_x))) := by
  refine M.of (L0 := [.ref 0, .int p, .int what]) (by decide +kernel) (Nat.le_of_ble_eq_true rfl) rfl ?_
  refine g_aload_n dX10_person_0 rfl 1 rfl rfl ?_
  refine g_iload_n dX10_person_1 rfl 2 rfl rfl ?_
  refine g_cVv (as := [.int p]) (st := []) dX10_person_2 5 rfl kX10_95 ⟨Nat.le_of_ble_eq_true rfl, Nat.le_of_ble_eq_true rfl⟩ (MX10_isPerson p) rfl rfl rfl rfl (Nat.le_of_ble_eq_true rfl) (Nat.le_refl _) (Nat.le_refl _) ?_
  refine g_if_ne dX10_person_5 10 rfl 8 rfl (fun c => absurd (gB_0 hv) c) (fun _ => ?_)
  refine g_iconst (-1) dX10_person_8 9 rfl (by decide) ?_
  refine g_ireturn dX10_person_9 rfl rfl (Nat.le_refl _) (Nat.le_refl _) ?_
  have e : rX10_person_x = (-1) := by rw [rX10_person_x]
  rw [e]
  exact ⟨rfl, rfl⟩
def rX10_sum (told : Int32 → Int32) (s : Int32 → Int32) (what : Int32) (sz : Nat) : Int32 := (if what = 0 then (rX10_sumOf told s (rX10_allAt told s 2 sz) sz) else (if what = 1 then (if 0 ≤ ((rX10_sumOf told s (rX10_allAt told s 2 sz) sz) - (told 1)) then 0 else (-((rX10_sumOf told s (rX10_allAt told s 2 sz) sz) - (told 1)))) else (if what = 2 then (if ((rX10_sumOf told s (rX10_allAt told s 2 sz) sz) - (told 1)) ≤ 0 then 0 else ((rX10_sumOf told s (rX10_allAt told s 2 sz) sz) - (told 1))) else (if what = 3 then (if (rX10_sails told s (rX10_allAt told s 2 sz) sz) = true then 1 else 0) else (if what = 4 then (if (rX10_sails told s (rX10_allAt told s 2 sz) sz) = true then (rX10_coinsOf told s (rX10_allAt told s 2 sz) sz) else (-4)) else (-1))))))
set_option maxRecDepth 100000 in
set_option maxHeartbeats 4000000 in
theorem MX10_sum {w : gW} {al : Bool} {typed known kept noted at_ : Int32} {text told draft s past images notes alone parts held : Int32 → Int32} {sz : Nat} (what : Int32) (hsz : told 0 = nI sz) (hs : sz ≤ 9)  : M w gT0 al mX10_sum 0 0 (hM text typed told draft s past known images kept notes noted at_ alone parts held) [.ref 0, .int what] (gEq (hM text typed told draft s past known images kept notes noted at_ alone parts held) (some (.int (rX10_sum told s what sz)))) := by
  refine M.of (L0 := [.ref 0, .int what, gF, gF]) (by decide +kernel) (Nat.le_of_ble_eq_true rfl) rfl ?_
  refine g_aload_n dX10_sum_0 rfl 1 rfl rfl ?_
  refine g_iconst 2 dX10_sum_1 2 rfl (by decide) ?_
  refine g_cVv (as := [.int 2]) (st := []) dX10_sum_2 5 rfl kX10_92 ⟨Nat.le_of_ble_eq_true rfl, Nat.le_of_ble_eq_true rfl⟩ (MX10_allAt 2 hsz hs) rfl rfl rfl rfl (Nat.le_of_ble_eq_true rfl) (Nat.le_refl _) (Nat.le_refl _) ?_
  refine g_istore2 dX10_sum_5 6 rfl (by decide) rfl ?_
  refine g_aload_n dX10_sum_6 rfl 7 rfl rfl ?_
  refine g_iload_n dX10_sum_7 rfl 8 rfl rfl ?_
  refine g_cVv (as := [.int (rX10_allAt told s 2 sz)]) (st := []) dX10_sum_8 11 rfl kX10_101 ⟨Nat.le_of_ble_eq_true rfl, Nat.le_of_ble_eq_true rfl⟩ (MX10_sumOf (rX10_allAt told s 2 sz) hsz hs) rfl rfl rfl rfl (Nat.le_of_ble_eq_true rfl) (Nat.le_refl _) (Nat.le_refl _) ?_
  refine g_aload_n dX10_sum_11 rfl 12 rfl rfl ?_
  refine g_get (v := .ref 2) dX10_sum_12 15 rfl lX10_13 rfl rfl ?_
  refine g_iconst 1 dX10_sum_15 16 rfl (by decide) ?_
  refine g_iaload (N := 40) dX10_sum_16 17 rfl rfl (vp_in_iff.mpr (by decide)) ?_
  refine g_isub dX10_sum_17 18 rfl ?_
  refine g_istore3 dX10_sum_18 19 rfl (by decide) rfl ?_
  refine g_iload_n dX10_sum_19 rfl 20 rfl rfl ?_
  refine g_tsw dX10_sum_20 [(0, 56), (1, 62), (2, 73), (3, 83), (4, 97)] 116 (by decide) (by decide) rfl (by decide) ?_
  refine And.intro (fun c1 => ?_) (fun c1 => ?_)
  · refine g_aload_n dX10_sum_56 rfl 57 rfl rfl ?_
    refine g_iload_n dX10_sum_57 rfl 58 rfl rfl ?_
    refine g_cVv (as := [.int (rX10_allAt told s 2 sz)]) (st := []) dX10_sum_58 61 rfl kX10_101 ⟨Nat.le_of_ble_eq_true rfl, Nat.le_of_ble_eq_true rfl⟩ (MX10_sumOf (rX10_allAt told s 2 sz) hsz hs) rfl rfl rfl rfl (Nat.le_of_ble_eq_true rfl) (Nat.le_refl _) (Nat.le_refl _) ?_
    refine g_ireturn dX10_sum_61 rfl rfl (Nat.le_refl _) (Nat.le_refl _) ?_
    have e : (rX10_sum told s what sz) = (rX10_sumOf told s (rX10_allAt told s 2 sz) sz) := by rw [rX10_sum, if_pos c1]
    rw [e]
    exact ⟨rfl, rfl⟩
  · refine And.intro (fun c2 => ?_) (fun c2 => ?_)
    · refine g_iload_n dX10_sum_62 rfl 63 rfl rfl ?_
      refine g_if_ge dX10_sum_63 71 rfl 66 rfl (fun c3 => ?_) (fun c3 => ?_)
      · refine g_iconst 0 dX10_sum_71 72 rfl (by decide) ?_
        refine g_ireturn dX10_sum_72 rfl rfl (Nat.le_refl _) (Nat.le_refl _) ?_
        have e : (rX10_sum told s what sz) = 0 := by rw [rX10_sum, if_neg c1, if_pos c2, if_pos c3]
        rw [e]
        exact ⟨rfl, rfl⟩
      · refine g_iload_n dX10_sum_66 rfl 67 rfl rfl ?_
        refine g_ineg dX10_sum_67 68 rfl ?_
        refine g_goto dX10_sum_68 72 rfl ?_
        refine g_ireturn dX10_sum_72 rfl rfl (Nat.le_refl _) (Nat.le_refl _) ?_
        have e : (rX10_sum told s what sz) = (-((rX10_sumOf told s (rX10_allAt told s 2 sz) sz) - (told 1))) := by rw [rX10_sum, if_neg c1, if_pos c2, if_neg c3]
        rw [e]
        exact ⟨rfl, rfl⟩
    · refine And.intro (fun c4 => ?_) (fun c4 => ?_)
      · refine g_iload_n dX10_sum_73 rfl 74 rfl rfl ?_
        refine g_if_le dX10_sum_74 81 rfl 77 rfl (fun c5 => ?_) (fun c5 => ?_)
        · refine g_iconst 0 dX10_sum_81 82 rfl (by decide) ?_
          refine g_ireturn dX10_sum_82 rfl rfl (Nat.le_refl _) (Nat.le_refl _) ?_
          have e : (rX10_sum told s what sz) = 0 := by rw [rX10_sum, if_neg c1, if_neg c2, if_pos c4, if_pos c5]
          rw [e]
          exact ⟨rfl, rfl⟩
        · refine g_iload_n dX10_sum_77 rfl 78 rfl rfl ?_
          refine g_goto dX10_sum_78 82 rfl ?_
          refine g_ireturn dX10_sum_82 rfl rfl (Nat.le_refl _) (Nat.le_refl _) ?_
          have e : (rX10_sum told s what sz) = ((rX10_sumOf told s (rX10_allAt told s 2 sz) sz) - (told 1)) := by rw [rX10_sum, if_neg c1, if_neg c2, if_pos c4, if_neg c5]
          rw [e]
          exact ⟨rfl, rfl⟩
      · refine And.intro (fun c6 => ?_) (fun c6 => ?_)
        · refine g_aload_n dX10_sum_83 rfl 84 rfl rfl ?_
          refine g_iload_n dX10_sum_84 rfl 85 rfl rfl ?_
          refine g_cVv (as := [.int (rX10_allAt told s 2 sz)]) (st := []) dX10_sum_85 88 rfl kX10_104 ⟨Nat.le_of_ble_eq_true rfl, Nat.le_of_ble_eq_true rfl⟩ (MX10_sails (rX10_allAt told s 2 sz) hsz hs) rfl rfl rfl rfl (Nat.le_of_ble_eq_true rfl) (Nat.le_refl _) (Nat.le_refl _) ?_
          refine g_if_eq dX10_sum_88 95 rfl 91 rfl (fun c7 => ?_) (fun c7 => ?_)
          · replace c7 := gB_f c7
            refine g_iconst 0 dX10_sum_95 96 rfl (by decide) ?_
            refine g_ireturn dX10_sum_96 rfl rfl (Nat.le_refl _) (Nat.le_refl _) ?_
            have e : (rX10_sum told s what sz) = 0 := by rw [rX10_sum, if_neg c1, if_neg c2, if_neg c4, if_pos c6, if_neg c7]
            rw [e]
            exact ⟨rfl, rfl⟩
          · replace c7 := gB_t c7
            refine g_iconst 1 dX10_sum_91 92 rfl (by decide) ?_
            refine g_goto dX10_sum_92 96 rfl ?_
            refine g_ireturn dX10_sum_96 rfl rfl (Nat.le_refl _) (Nat.le_refl _) ?_
            have e : (rX10_sum told s what sz) = 1 := by rw [rX10_sum, if_neg c1, if_neg c2, if_neg c4, if_pos c6, if_pos c7]
            rw [e]
            exact ⟨rfl, rfl⟩
        · refine And.intro (fun c8 => ?_) (fun c8 => ?_)
          · refine g_aload_n dX10_sum_97 rfl 98 rfl rfl ?_
            refine g_iload_n dX10_sum_98 rfl 99 rfl rfl ?_
            refine g_cVv (as := [.int (rX10_allAt told s 2 sz)]) (st := []) dX10_sum_99 102 rfl kX10_104 ⟨Nat.le_of_ble_eq_true rfl, Nat.le_of_ble_eq_true rfl⟩ (MX10_sails (rX10_allAt told s 2 sz) hsz hs) rfl rfl rfl rfl (Nat.le_of_ble_eq_true rfl) (Nat.le_refl _) (Nat.le_refl _) ?_
            refine g_if_eq dX10_sum_102 113 rfl 105 rfl (fun c9 => ?_) (fun c9 => ?_)
            · replace c9 := gB_f c9
              refine g_bipush (-4) dX10_sum_113 115 rfl (by decide) ?_
              refine g_ireturn dX10_sum_115 rfl rfl (Nat.le_refl _) (Nat.le_refl _) ?_
              have e : (rX10_sum told s what sz) = (-4) := by rw [rX10_sum, if_neg c1, if_neg c2, if_neg c4, if_neg c6, if_pos c8, if_neg c9]
              rw [e]
              exact ⟨rfl, rfl⟩
            · replace c9 := gB_t c9
              refine g_aload_n dX10_sum_105 rfl 106 rfl rfl ?_
              refine g_iload_n dX10_sum_106 rfl 107 rfl rfl ?_
              refine g_cVv (as := [.int (rX10_allAt told s 2 sz)]) (st := []) dX10_sum_107 110 rfl kX10_107 ⟨Nat.le_of_ble_eq_true rfl, Nat.le_of_ble_eq_true rfl⟩ (MX10_coinsOf (rX10_allAt told s 2 sz) hsz hs) rfl rfl rfl rfl (Nat.le_of_ble_eq_true rfl) (Nat.le_refl _) (Nat.le_refl _) ?_
              refine g_goto dX10_sum_110 115 rfl ?_
              refine g_ireturn dX10_sum_115 rfl rfl (Nat.le_refl _) (Nat.le_refl _) ?_
              have e : (rX10_sum told s what sz) = (rX10_coinsOf told s (rX10_allAt told s 2 sz) sz) := by rw [rX10_sum, if_neg c1, if_neg c2, if_neg c4, if_neg c6, if_pos c8, if_pos c9]
              rw [e]
              exact ⟨rfl, rfl⟩
          · refine g_iconst (-1) dX10_sum_116 117 rfl (by decide) ?_
            refine g_ireturn dX10_sum_117 rfl rfl (Nat.le_refl _) (Nat.le_refl _) ?_
            have e : (rX10_sum told s what sz) = (-1) := by rw [rX10_sum, if_neg c1, if_neg c2, if_neg c4, if_neg c6, if_neg c8]
            rw [e]
            exact ⟨rfl, rfl⟩
def fX10_keeps_11  : Nat → (Int32 → Int32) → (Int32 → Int32)
  | i, past => (gup past (nI i) (past (nI (i + 21))))
set_option maxRecDepth 100000 in
set_option maxHeartbeats 4000000 in
theorem LX10_keeps_11 {w : gW} {al : Bool} {typed known kept noted at_ : Int32} {text told draft s images notes alone parts held : Int32 → Int32} {n : Nat} {P : gP}   : ∀ (d i : Nat) (past : Int32 → Int32), i + d = 147 → G w gT0 al n mX10_keeps 0 0 P 0 0 (hM text typed told draft s (gLp fX10_keeps_11 d i past) known images kept notes noted at_ alone parts held) 39 [.ref 0, .int (nI 147)] [] → G w gT0 al n mX10_keeps 0 0 P 0 0 (hM text typed told draft s past known images kept notes noted at_ alone parts held) 11 [.ref 0, .int (nI i)] []
  | 0, i, past, hi, k => by
    have hN : i = 147 := by omega
    rw [hN]
    rw [hN] at k
    refine g_iload_n dX10_keeps_11 rfl 12 rfl rfl ?_
    refine g_sipush 147 dX10_keeps_12 15 rfl (by decide) ?_
    refine g_icmp_ge dX10_keeps_15 39 rfl 18 rfl (fun _ => ?_) (fun c => absurd (nI_le (a := 147) (b := 147) (by omega) (by omega)) c)
    exact k
  | d + 1, i, past, hi, k => by
    refine g_iload_n dX10_keeps_11 rfl 12 rfl rfl ?_
    refine g_sipush 147 dX10_keeps_12 15 rfl (by decide) ?_
    refine g_icmp_ge dX10_keeps_15 39 rfl 18 rfl (fun c => absurd c (nI_ge (a := i) (b := 147) (by omega) (by omega))) (fun _ => ?_)
    refine g_aload_n dX10_keeps_18 rfl 19 rfl rfl ?_
    refine g_get (v := .ref 5) dX10_keeps_19 22 rfl lX10_22 rfl rfl ?_
    refine g_iload_n dX10_keeps_22 rfl 23 rfl rfl ?_
    refine g_aload_n dX10_keeps_23 rfl 24 rfl rfl ?_
    refine g_get (v := .ref 5) dX10_keeps_24 27 rfl lX10_22 rfl rfl ?_
    refine g_iload_n dX10_keeps_27 rfl 28 rfl rfl ?_
    refine g_bipush 21 dX10_keeps_28 30 rfl (by decide) ?_
    refine g_iadd' dX10_keeps_30 31 rfl (nI (i + 21)) (nI_add _ 21) ?_
    refine g_iaload (N := 168) dX10_keeps_31 32 rfl rfl (vp_in_nI (by omega) (by decide)) ?_
    refine g_iastore (N := 168) dX10_keeps_32 33 rfl rfl (by decide) (vp_in_nI (by omega) (by decide)) (h' := (hM text typed told draft s (gup past (nI i) (past (nI (i + 21)))) known images kept notes noted at_ alone parts held)) rfl ?_
    refine g_iinc1 dX10_keeps_33 36 rfl 1 (by decide) (nI (i + 1)) (nI_add _ 1) (by decide) rfl ?_
    refine g_goto dX10_keeps_36 11 rfl ?_
    have e : fX10_keeps_11 i past = (gup past (nI i) (past (nI (i + 21)))) := by rw [fX10_keeps_11]
    refine LX10_keeps_11  d (i + 1) (gup past (nI i) (past (nI (i + 21)))) (by omega) ?_
    rw [← e]
    exact k
def fX10_keeps_51 (s : Int32 → Int32) (kn : Nat) : Nat → (Int32 → Int32) → (Int32 → Int32)
  | i, past => (gup past (nI ((21 * kn) + i)) (s (nI i)))
set_option maxRecDepth 100000 in
set_option maxHeartbeats 4000000 in
theorem LX10_keeps_51 {w : gW} {al : Bool} {typed kept noted at_ : Int32} {text told draft s images notes alone parts held : Int32 → Int32} {n : Nat} {P : gP}  {kn : Nat} (hk : kn < 8)  : ∀ (d i : Nat) (past : Int32 → Int32), i + d = 21 → G w gT0 al n mX10_keeps 0 0 P 0 0 (hM text typed told draft s (gLp (fX10_keeps_51 s kn) d i past) (nI kn) images kept notes noted at_ alone parts held) 83 [.ref 0, .int (nI 21)] [] → G w gT0 al n mX10_keeps 0 0 P 0 0 (hM text typed told draft s past (nI kn) images kept notes noted at_ alone parts held) 51 [.ref 0, .int (nI i)] []
  | 0, i, past, hi, k => by
    have hN : i = 21 := by omega
    rw [hN]
    rw [hN] at k
    refine g_iload_n dX10_keeps_51 rfl 52 rfl rfl ?_
    refine g_bipush 21 dX10_keeps_52 54 rfl (by decide) ?_
    refine g_icmp_ge dX10_keeps_54 83 rfl 57 rfl (fun _ => ?_) (fun c => absurd (nI_le (a := 21) (b := 21) (by omega) (by omega)) c)
    exact k
  | d + 1, i, past, hi, k => by
    refine g_iload_n dX10_keeps_51 rfl 52 rfl rfl ?_
    refine g_bipush 21 dX10_keeps_52 54 rfl (by decide) ?_
    refine g_icmp_ge dX10_keeps_54 83 rfl 57 rfl (fun c => absurd c (nI_ge (a := i) (b := 21) (by omega) (by omega))) (fun _ => ?_)
    refine g_aload_n dX10_keeps_57 rfl 58 rfl rfl ?_
    refine g_get (v := .ref 5) dX10_keeps_58 61 rfl lX10_22 rfl rfl ?_
    refine g_bipush 21 dX10_keeps_61 63 rfl (by decide) ?_
    refine g_aload_n dX10_keeps_63 rfl 64 rfl rfl ?_
    refine g_get (v := .int (nI kn)) dX10_keeps_64 67 rfl lX10_80 rfl rfl ?_
    refine g_imul' dX10_keeps_67 68 rfl (nI (21 * kn)) (pk_mul 21 _) ?_
    refine g_iload_n dX10_keeps_68 rfl 69 rfl rfl ?_
    refine g_iadd' dX10_keeps_69 70 rfl (nI ((21 * kn) + i)) (nI_add _ _) ?_
    refine g_aload_n dX10_keeps_70 rfl 71 rfl rfl ?_
    refine g_get (v := .ref 4) dX10_keeps_71 74 rfl lX10_19 rfl rfl ?_
    refine g_iload_n dX10_keeps_74 rfl 75 rfl rfl ?_
    refine g_iaload (N := 21) dX10_keeps_75 76 rfl rfl (vp_in_nI (by omega) (by decide)) ?_
    refine g_iastore (N := 168) dX10_keeps_76 77 rfl rfl (by decide) (vp_in_nI (by omega) (by decide)) (h' := (hM text typed told draft s (gup past (nI ((21 * kn) + i)) (s (nI i))) (nI kn) images kept notes noted at_ alone parts held)) rfl ?_
    refine g_iinc1 dX10_keeps_77 80 rfl 1 (by decide) (nI (i + 1)) (nI_add _ 1) (by decide) rfl ?_
    refine g_goto dX10_keeps_80 51 rfl ?_
    have e : (fX10_keeps_51 s kn) i past = (gup past (nI ((21 * kn) + i)) (s (nI i))) := by rw [fX10_keeps_51]
    refine LX10_keeps_51 hk d (i + 1) (gup past (nI ((21 * kn) + i)) (s (nI i))) (by omega) ?_
    rw [← e]
    exact k
def rX10_keeps (s : Int32 → Int32) (past : Int32 → Int32) (kn : Nat) : (Int32 → Int32) × Nat := ((gLp (fX10_keeps_51 s kn) 21 0 past), kn + 1)
set_option maxRecDepth 100000 in
set_option maxHeartbeats 4000000 in
theorem MX10_keeps {w : gW} {al : Bool} {typed kept noted at_ : Int32} {text told draft s past images notes alone parts held : Int32 → Int32} {kn : Nat} (hk : kn < 8) (hk8 : ¬ (nI kn) = 8) : M w gT0 al mX10_keeps 0 0 (hM text typed told draft s past (nI kn) images kept notes noted at_ alone parts held) [.ref 0] (gEq (hM text typed told draft s ((rX10_keeps s past kn).1) (nI ((rX10_keeps s past kn).2)) images kept notes noted at_ alone parts held) none) := by
  refine M.of (L0 := [.ref 0, gF]) (by decide +kernel) (Nat.le_of_ble_eq_true rfl) rfl ?_
  refine g_aload_n dX10_keeps_0 rfl 1 rfl rfl ?_
  refine g_get (v := .int (nI kn)) dX10_keeps_1 4 rfl lX10_80 rfl rfl ?_
  refine g_bipush 8 dX10_keeps_4 6 rfl (by decide) ?_
  refine g_icmp_ne dX10_keeps_6 49 rfl 9 rfl (fun _ => ?_) (fun c => absurd c hk8)
  refine g_iconst 0 dX10_keeps_49 50 rfl (by decide) ?_
  refine g_istore1 dX10_keeps_50 51 rfl (by decide) rfl ?_
  refine LX10_keeps_51 (by omega) 21 0 past (by omega) ?_
  refine g_aload_n dX10_keeps_83 rfl 84 rfl rfl ?_
  refine g_dup dX10_keeps_84 85 rfl rfl ?_
  refine g_get (v := .int (nI kn)) dX10_keeps_85 88 rfl lX10_80 rfl rfl ?_
  refine g_iconst 1 dX10_keeps_88 89 rfl (by decide) ?_
  refine g_iadd' dX10_keeps_89 90 rfl (nI (kn + 1)) (nI_add _ 1) ?_
  refine g_put dX10_keeps_90 93 rfl lX10_80 wrX10 rfl rfl rfl rfl rfl (Nat.le_of_ble_eq_true rfl) (h' := (hM text typed told draft s (gLp (fX10_keeps_51 s kn) 21 0 past) (nI (kn + 1)) images kept notes noted at_ alone parts held)) rfl ?_
  refine g_return dX10_keeps_93 rfl (Nat.le_refl _) (Nat.le_refl _) ?_
  have e : (rX10_keeps s past kn) = ((gLp (fX10_keeps_51 s kn) 21 0 past), kn + 1) := by rw [rX10_keeps]
  rw [e]
  exact ⟨rfl, rfl⟩
def rX10_keeps_8 (s : Int32 → Int32) (past : Int32 → Int32) : (Int32 → Int32) × Int32 := ((gLp (fX10_keeps_51 s 7) 21 0 (gLp fX10_keeps_11 147 0 past)), (nI (7 + 1)))
set_option maxRecDepth 100000 in
set_option maxHeartbeats 4000000 in
theorem MX10_keeps_8 {w : gW} {al : Bool} {typed kept noted at_ : Int32} {text told draft s past images notes alone parts held : Int32 → Int32}   : M w gT0 al mX10_keeps 0 0 (hM text typed told draft s past 8 images kept notes noted at_ alone parts held) [.ref 0] (gEq (hM text typed told draft s ((rX10_keeps_8 s past).1) ((rX10_keeps_8 s past).2) images kept notes noted at_ alone parts held) none) := by
  refine M.of (L0 := [.ref 0, gF]) (by decide +kernel) (Nat.le_of_ble_eq_true rfl) rfl ?_
  refine g_aload_n dX10_keeps_0 rfl 1 rfl rfl ?_
  refine g_get (v := .int 8) dX10_keeps_1 4 rfl lX10_80 rfl rfl ?_
  refine g_bipush 8 dX10_keeps_4 6 rfl (by decide) ?_
  refine g_icmp_ne dX10_keeps_6 49 rfl 9 rfl (fun c => absurd (by decide) c) (fun _ => ?_)
  refine g_iconst 0 dX10_keeps_9 10 rfl (by decide) ?_
  refine g_istore1 dX10_keeps_10 11 rfl (by decide) rfl ?_
  refine LX10_keeps_11  147 0 past (by omega) ?_
  refine g_aload_n dX10_keeps_39 rfl 40 rfl rfl ?_
  refine g_dup dX10_keeps_40 41 rfl rfl ?_
  refine g_get (v := .int 8) dX10_keeps_41 44 rfl lX10_80 rfl rfl ?_
  refine g_iconst 1 dX10_keeps_44 45 rfl (by decide) ?_
  refine g_isub' dX10_keeps_45 46 rfl (nI 7) (by decide) ?_
  refine g_put dX10_keeps_46 49 rfl lX10_80 wrX10 rfl rfl rfl rfl rfl (Nat.le_of_ble_eq_true rfl) (h' := (hM text typed told draft s (gLp fX10_keeps_11 147 0 past) (nI 7) images kept notes noted at_ alone parts held)) rfl ?_
  refine g_iconst 0 dX10_keeps_49 50 rfl (by decide) ?_
  refine g_istore1 dX10_keeps_50 51 rfl (by decide) rfl ?_
  refine LX10_keeps_51 (by omega) 21 0 (gLp fX10_keeps_11 147 0 past) (by omega) ?_
  refine g_aload_n dX10_keeps_83 rfl 84 rfl rfl ?_
  refine g_dup dX10_keeps_84 85 rfl rfl ?_
  refine g_get (v := .int (nI 7)) dX10_keeps_85 88 rfl lX10_80 rfl rfl ?_
  refine g_iconst 1 dX10_keeps_88 89 rfl (by decide) ?_
  refine g_iadd' dX10_keeps_89 90 rfl (nI (7 + 1)) (nI_add _ 1) ?_
  refine g_put dX10_keeps_90 93 rfl lX10_80 wrX10 rfl rfl rfl rfl rfl (Nat.le_of_ble_eq_true rfl) (h' := (hM text typed told draft s (gLp (fX10_keeps_51 s 7) 21 0 (gLp fX10_keeps_11 147 0 past)) (nI (7 + 1)) images kept notes noted at_ alone parts held)) rfl ?_
  refine g_return dX10_keeps_93 rfl (Nat.le_refl _) (Nat.le_refl _) ?_
  have e : (rX10_keeps_8 s past) = ((gLp (fX10_keeps_51 s 7) 21 0 (gLp fX10_keeps_11 147 0 past)), (nI (7 + 1))) := by rw [rX10_keeps_8]
  rw [e]
  exact ⟨rfl, rfl⟩
end
section
/-! who is there: sets as Nat -/
theorem gLp_add {α : Type} (f : Nat → α → α) : ∀ (d e i : Nat) (a : α), gLp f (d + e) i a = gLp f e (i + d) (gLp f d i a)
  | 0, e, i, a => by simp [gLp]
  | d + 1, e, i, a => by
    have h := gLp_add f d e (i + 1) (f i a)
    rw [show d + 1 + e = (d + e) + 1 by omega]
    show gLp f (d + e) (i + 1) (f i a) = gLp f e (i + (d + 1)) (gLp f d (i + 1) (f i a))
    rw [h, show i + 1 + d = i + (d + 1) by omega]
theorem gLp_succ {α : Type} (f : Nat → α → α) (d i : Nat) (a : α) : gLp f (d + 1) i a = f (i + d) (gLp f d i a) := gLp_add f d 1 i a
/-- an invariant of a loop -/
theorem gLp_inv {α : Type} {f : Nat → α → α} (I : Nat → α → Prop) {n : Nat} (hs : ∀ i a, i < n → I i a → I (i + 1) (f i a)) : ∀ (d i : Nat) (a : α), i + d = n → I i a → I n (gLp f d i a)
  | 0, i, a, h, h0 => by
    have : i = n := by omega
    rw [← this]
    exact h0
  | d + 1, i, a, h, h0 => gLp_inv I hs d (i + 1) (f i a) (by omega) (hs i a (by omega) h0)
theorem allAt_inv (told s : Int32 → Int32) (pl : Int32) {sz : Nat} (hs : sz ≤ 9) : ∃ m, m < 2 ^ sz ∧ rX10_allAt told s pl sz = nI m ∧ ∀ i, i < sz → (m.testBit i = true ↔ rX10_where told s i = pl) := by
  unfold rX10_allAt
  refine gLp_inv (n := sz) (fun k a => ∃ m, m < 2 ^ k ∧ a = nI m ∧ ∀ i, i < k → (m.testBit i = true ↔ rX10_where told s i = pl)) ?_ sz 0 0 (by omega) ⟨0, by decide, rfl, fun i hi => absurd hi (Nat.not_lt_zero i)⟩
  rintro i a hi ⟨m, h1, rfl, h2⟩
  have hp : 2 ^ i < 2 ^ (i + 1) := Nat.pow_lt_pow_right (by decide) (by omega)
  by_cases hw : rX10_where told s i = pl
  · refine ⟨m ||| 2 ^ i, Nat.or_lt_two_pow (by omega) hp, ?_, fun j hj => ?_⟩
    · rw [fX10_allAt_4, if_pos hw, z_1shl (by omega), z_or]
    · rw [Nat.testBit_or, Nat.testBit_two_pow]
      by_cases hji : i = j
      · subst hji
        simp [hw]
      · have h3 := h2 j (by omega)
        simp [hji, h3]
  · refine ⟨m, by omega, ?_, fun j hj => ?_⟩
    · rw [fX10_allAt_4, if_neg hw]
      exact (z_or m 0).trans (by rw [Nat.or_zero])
    · by_cases hji : i = j
      · subst hji
        rw [Nat.testBit_lt_two_pow h1]
        simp [hw]
      · exact h2 j (by omega)
/-- the set of those at a place -/
def tAt (told s : Int32 → Int32) (pl : Int32) (sz : Nat) : Nat := (rX10_allAt told s pl sz).toNatClampNeg
theorem tAt_ok (told s : Int32 → Int32) (pl : Int32) {sz : Nat} (hs : sz ≤ 9) : tAt told s pl sz < 2 ^ sz ∧ rX10_allAt told s pl sz = nI (tAt told s pl sz) ∧ ∀ i, i < sz → ((tAt told s pl sz).testBit i = true ↔ rX10_where told s i = pl) := by
  obtain ⟨m, h1, h2, h3⟩ := allAt_inv told s pl hs
  have h4 : 2 ^ sz ≤ 2 ^ 9 := Nat.pow_le_pow_right (by decide) hs
  have e : tAt told s pl sz = m := by unfold tAt; rw [h2, nI_clamp (by omega)]
  rw [e]
  exact ⟨h1, h2, h3⟩
/-- those on the quay and aboard -/
def tP (told s : Int32 → Int32) (sz : Nat) : Nat := tAt told s 1 sz ||| tAt told s 2 sz
theorem tP_eq (told s : Int32 → Int32) {sz : Nat} (hs : sz ≤ 9) : rX10_present told s sz = nI (tP told s sz) := by
  unfold rX10_present tP
  rw [(tAt_ok told s 1 hs).2.1, (tAt_ok told s 2 hs).2.1, z_or]
theorem tP_lt (told s : Int32 → Int32) {sz : Nat} (hs : sz ≤ 9) : tP told s sz < 2 ^ sz := Nat.or_lt_two_pow (tAt_ok told s 1 hs).1 (tAt_ok told s 2 hs).1
theorem pw9 {sz : Nat} (hs : sz ≤ 9) : 2 ^ sz ≤ 512 := Nat.pow_le_pow_right (n := 2) (by decide) hs
theorem tP_512 (told s : Int32 → Int32) {sz : Nat} (hs : sz ≤ 9) : tP told s sz < 512 := Nat.lt_of_lt_of_le (tP_lt told s hs) (pw9 hs)
theorem shl_sz {told : Int32 → Int32} {sz : Nat} (hsz : told 0 = nI sz) (hs : sz ≤ 9) : (1 : Int32) <<< ((told 0) &&& 31) = nI (2 ^ sz) := by rw [hsz, z_1shl (by omega)]
end
section
/-! the reference: sails, undone, best, waits -/
theorem MX10_present' {w : gW} {al : Bool} {typed known kept noted at_ : Int32} {text told draft s past images notes alone parts held : Int32 → Int32} {sz : Nat} (hsz : told 0 = nI sz) (hs : sz ≤ 9)  : M w gT0 al mX10_present 0 0 (hM text typed told draft s past known images kept notes noted at_ alone parts held) [.ref 0] (gEq (hM text typed told draft s past known images kept notes noted at_ alone parts held) (some (.int (nI (tP told s sz))))) := by
  have q := MX10_present (w := w) (al := al) (text := text) (typed := typed) (told := told) (draft := draft) (s := s) (past := past) (known := known) (images := images) (kept := kept) (notes := notes) (noted := noted) (at_ := at_) (alone := alone) (parts := parts) (held := held) hsz hs
  rw [tP_eq _ _ hs] at q
  exact q
def fX10_goes_14 (told : Int32 → Int32) (bits : Int32) : Nat → (Int32 → Int32) → (Int32 → Int32)
  | i, s => (if ((bits >>> ((nI i) &&& 31)) &&& 1) = 1 then (if (told (nI (4 + i))) = 2 then (gup (gup s (nI i) 0) (nI (9 + i)) (((gup s (nI i) 0) (nI (9 + i))) + 1)) else (gup (gup s (nI i) 3) (nI (9 + i)) (((gup s (nI i) 3) (nI (9 + i))) + 1))) else s)
set_option maxRecDepth 100000 in
set_option maxHeartbeats 4000000 in
theorem LX10_goes_14 {w : gW} {al : Bool} {typed known kept noted at_ : Int32} {text told draft past images notes alone parts held : Int32 → Int32} {n : Nat} {P : gP} {sz : Nat} {bits : Int32} {coins : Int32} (hsz : told 0 = nI sz) (hs : sz ≤ 9)  : ∀ (d i : Nat) (s : Int32 → Int32), i + d = sz → G w gT0 al n mX10_goes 0 0 P 0 0 (hM text typed told draft (gLp (fX10_goes_14 told bits) d i s) past known images kept notes noted at_ alone parts held) 75 [.ref 0, .int bits, .int coins, .int (nI sz)] [] → G w gT0 al n mX10_goes 0 0 P 0 0 (hM text typed told draft s past known images kept notes noted at_ alone parts held) 14 [.ref 0, .int bits, .int coins, .int (nI i)] []
  | 0, i, s, hi, k => by
    have hN : i = sz := by omega
    rw [hN]
    rw [hN] at k
    refine g_iload_n dX10_goes_14 rfl 15 rfl rfl ?_
    refine g_aload_n dX10_goes_15 rfl 16 rfl rfl ?_
    refine g_get (v := .ref 2) dX10_goes_16 19 rfl lX10_13 rfl rfl ?_
    refine g_iconst 0 dX10_goes_19 20 rfl (by decide) ?_
    refine g_iaload (N := 40) dX10_goes_20 21 rfl rfl (vp_in_iff.mpr (by decide)) ?_
    refine g_icmp_ge dX10_goes_21 75 rfl 24 rfl (fun _ => ?_) (fun c => absurd (by rw [hsz]; exact nI_le (Nat.le_refl _) (by omega)) c)
    exact k
  | d + 1, i, s, hi, k => by
    refine g_iload_n dX10_goes_14 rfl 15 rfl rfl ?_
    refine g_aload_n dX10_goes_15 rfl 16 rfl rfl ?_
    refine g_get (v := .ref 2) dX10_goes_16 19 rfl lX10_13 rfl rfl ?_
    refine g_iconst 0 dX10_goes_19 20 rfl (by decide) ?_
    refine g_iaload (N := 40) dX10_goes_20 21 rfl rfl (vp_in_iff.mpr (by decide)) ?_
    refine g_icmp_ge dX10_goes_21 75 rfl 24 rfl (fun c => absurd c (by rw [hsz]; exact nI_ge (by omega) (by omega))) (fun _ => ?_)
    refine g_iload_n dX10_goes_24 rfl 25 rfl rfl ?_
    refine g_iload_n dX10_goes_25 rfl 26 rfl rfl ?_
    refine g_ishr dX10_goes_26 27 rfl ?_
    refine g_iconst 1 dX10_goes_27 28 rfl (by decide) ?_
    refine g_iand dX10_goes_28 29 rfl ?_
    refine g_iconst 1 dX10_goes_29 30 rfl (by decide) ?_
    refine g_icmp_ne dX10_goes_30 69 rfl 33 rfl (fun c1 => ?_) (fun c1 => ?_)
    · refine g_iinc3 dX10_goes_69 72 rfl 1 (by decide) (nI (i + 1)) (nI_add _ 1) (by decide) rfl ?_
      refine g_goto dX10_goes_72 14 rfl ?_
      have e : (fX10_goes_14 told bits) i s = s := by rw [fX10_goes_14, if_neg c1]
      refine LX10_goes_14 hsz hs d (i + 1) s (by omega) ?_
      rw [← e]
      exact k
    · refine g_aload_n dX10_goes_33 rfl 34 rfl rfl ?_
      refine g_get (v := .ref 4) dX10_goes_34 37 rfl lX10_19 rfl rfl ?_
      refine g_iload_n dX10_goes_37 rfl 38 rfl rfl ?_
      refine g_aload_n dX10_goes_38 rfl 39 rfl rfl ?_
      refine g_get (v := .ref 2) dX10_goes_39 42 rfl lX10_13 rfl rfl ?_
      refine g_iconst 4 dX10_goes_42 43 rfl (by decide) ?_
      refine g_iload_n dX10_goes_43 rfl 44 rfl rfl ?_
      refine g_iadd' dX10_goes_44 45 rfl (nI (4 + i)) (nI_add 4 _) ?_
      refine g_iaload (N := 40) dX10_goes_45 46 rfl rfl (vp_in_nI (by omega) (by decide)) ?_
      refine g_iconst 2 dX10_goes_46 47 rfl (by decide) ?_
      refine g_icmp_ne dX10_goes_47 54 rfl 50 rfl (fun c2 => ?_) (fun c2 => ?_)
      · refine g_iconst 3 dX10_goes_54 55 rfl (by decide) ?_
        refine g_iastore (N := 21) dX10_goes_55 56 rfl rfl (by decide) (vp_in_nI (by omega) (by decide)) (h' := (hM text typed told draft (gup s (nI i) 3) past known images kept notes noted at_ alone parts held)) rfl ?_
        refine g_aload_n dX10_goes_56 rfl 57 rfl rfl ?_
        refine g_get (v := .ref 4) dX10_goes_57 60 rfl lX10_19 rfl rfl ?_
        refine g_bipush 9 dX10_goes_60 62 rfl (by decide) ?_
        refine g_iload_n dX10_goes_62 rfl 63 rfl rfl ?_
        refine g_iadd' dX10_goes_63 64 rfl (nI (9 + i)) (nI_add 9 _) ?_
        refine g_dup2 dX10_goes_64 65 rfl rfl rfl ?_
        refine g_iaload (N := 21) dX10_goes_65 66 rfl rfl (vp_in_nI (by omega) (by decide)) ?_
        refine g_iconst 1 dX10_goes_66 67 rfl (by decide) ?_
        refine g_iadd dX10_goes_67 68 rfl ?_
        refine g_iastore (N := 21) dX10_goes_68 69 rfl rfl (by decide) (vp_in_nI (by omega) (by decide)) (h' := (hM text typed told draft (gup (gup s (nI i) 3) (nI (9 + i)) (((gup s (nI i) 3) (nI (9 + i))) + 1)) past known images kept notes noted at_ alone parts held)) rfl ?_
        refine g_iinc3 dX10_goes_69 72 rfl 1 (by decide) (nI (i + 1)) (nI_add _ 1) (by decide) rfl ?_
        refine g_goto dX10_goes_72 14 rfl ?_
        have e : (fX10_goes_14 told bits) i s = (gup (gup s (nI i) 3) (nI (9 + i)) (((gup s (nI i) 3) (nI (9 + i))) + 1)) := by rw [fX10_goes_14, if_pos c1, if_neg c2]
        refine LX10_goes_14 hsz hs d (i + 1) (gup (gup s (nI i) 3) (nI (9 + i)) (((gup s (nI i) 3) (nI (9 + i))) + 1)) (by omega) ?_
        rw [← e]
        exact k
      · refine g_iconst 0 dX10_goes_50 51 rfl (by decide) ?_
        refine g_goto dX10_goes_51 55 rfl ?_
        refine g_iastore (N := 21) dX10_goes_55 56 rfl rfl (by decide) (vp_in_nI (by omega) (by decide)) (h' := (hM text typed told draft (gup s (nI i) 0) past known images kept notes noted at_ alone parts held)) rfl ?_
        refine g_aload_n dX10_goes_56 rfl 57 rfl rfl ?_
        refine g_get (v := .ref 4) dX10_goes_57 60 rfl lX10_19 rfl rfl ?_
        refine g_bipush 9 dX10_goes_60 62 rfl (by decide) ?_
        refine g_iload_n dX10_goes_62 rfl 63 rfl rfl ?_
        refine g_iadd' dX10_goes_63 64 rfl (nI (9 + i)) (nI_add 9 _) ?_
        refine g_dup2 dX10_goes_64 65 rfl rfl rfl ?_
        refine g_iaload (N := 21) dX10_goes_65 66 rfl rfl (vp_in_nI (by omega) (by decide)) ?_
        refine g_iconst 1 dX10_goes_66 67 rfl (by decide) ?_
        refine g_iadd dX10_goes_67 68 rfl ?_
        refine g_iastore (N := 21) dX10_goes_68 69 rfl rfl (by decide) (vp_in_nI (by omega) (by decide)) (h' := (hM text typed told draft (gup (gup s (nI i) 0) (nI (9 + i)) (((gup s (nI i) 0) (nI (9 + i))) + 1)) past known images kept notes noted at_ alone parts held)) rfl ?_
        refine g_iinc3 dX10_goes_69 72 rfl 1 (by decide) (nI (i + 1)) (nI_add _ 1) (by decide) rfl ?_
        refine g_goto dX10_goes_72 14 rfl ?_
        have e : (fX10_goes_14 told bits) i s = (gup (gup s (nI i) 0) (nI (9 + i)) (((gup s (nI i) 0) (nI (9 + i))) + 1)) := by rw [fX10_goes_14, if_pos c1, if_pos c2]
        refine LX10_goes_14 hsz hs d (i + 1) (gup (gup s (nI i) 0) (nI (9 + i)) (((gup s (nI i) 0) (nI (9 + i))) + 1)) (by omega) ?_
        rw [← e]
        exact k
def rX10_goes (told : Int32 → Int32) (s : Int32 → Int32) (sz : Nat) : Int32 × (Int32 → Int32) := ((rX10_coinsOf told s (rX10_allAt told s 2 sz) sz), (gup (gup (gLp (fX10_goes_14 told (rX10_allAt told s 2 sz)) sz 0 s) 19 (((gLp (fX10_goes_14 told (rX10_allAt told s 2 sz)) sz 0 s) 19) + 1)) 20 (((gup (gLp (fX10_goes_14 told (rX10_allAt told s 2 sz)) sz 0 s) 19 (((gLp (fX10_goes_14 told (rX10_allAt told s 2 sz)) sz 0 s) 19) + 1)) 20) + (rX10_coinsOf told s (rX10_allAt told s 2 sz) sz))))
set_option maxRecDepth 100000 in
set_option maxHeartbeats 4000000 in
theorem MX10_goes {w : gW} {al : Bool} {typed known kept noted at_ : Int32} {text told draft s past images notes alone parts held : Int32 → Int32} {sz : Nat} (hsz : told 0 = nI sz) (hs : sz ≤ 9)  : M w gT0 al mX10_goes 0 0 (hM text typed told draft s past known images kept notes noted at_ alone parts held) [.ref 0] (gEq (hM text typed told draft ((rX10_goes told s sz).2) past known images kept notes noted at_ alone parts held) (some (.int ((rX10_goes told s sz).1)))) := by
  refine M.of (L0 := [.ref 0, gF, gF, gF]) (by decide +kernel) (Nat.le_of_ble_eq_true rfl) rfl ?_
  refine g_aload_n dX10_goes_0 rfl 1 rfl rfl ?_
  refine g_iconst 2 dX10_goes_1 2 rfl (by decide) ?_
  refine g_cVv (as := [.int 2]) (st := []) dX10_goes_2 5 rfl kX10_92 ⟨Nat.le_of_ble_eq_true rfl, Nat.le_of_ble_eq_true rfl⟩ (MX10_allAt 2 hsz hs) rfl rfl rfl rfl (Nat.le_of_ble_eq_true rfl) (Nat.le_refl _) (Nat.le_refl _) ?_
  refine g_istore1 dX10_goes_5 6 rfl (by decide) rfl ?_
  refine g_aload_n dX10_goes_6 rfl 7 rfl rfl ?_
  refine g_iload_n dX10_goes_7 rfl 8 rfl rfl ?_
  refine g_cVv (as := [.int (rX10_allAt told s 2 sz)]) (st := []) dX10_goes_8 11 rfl kX10_107 ⟨Nat.le_of_ble_eq_true rfl, Nat.le_of_ble_eq_true rfl⟩ (MX10_coinsOf (rX10_allAt told s 2 sz) hsz hs) rfl rfl rfl rfl (Nat.le_of_ble_eq_true rfl) (Nat.le_refl _) (Nat.le_refl _) ?_
  refine g_istore2 dX10_goes_11 12 rfl (by decide) rfl ?_
  refine g_iconst 0 dX10_goes_12 13 rfl (by decide) ?_
  refine g_istore3 dX10_goes_13 14 rfl (by decide) rfl ?_
  refine LX10_goes_14 hsz hs sz 0 s (by omega) ?_
  refine g_aload_n dX10_goes_75 rfl 76 rfl rfl ?_
  refine g_get (v := .ref 4) dX10_goes_76 79 rfl lX10_19 rfl rfl ?_
  refine g_bipush 19 dX10_goes_79 81 rfl (by decide) ?_
  refine g_dup2 dX10_goes_81 82 rfl rfl rfl ?_
  refine g_iaload (N := 21) dX10_goes_82 83 rfl rfl (vp_in_iff.mpr (by decide)) ?_
  refine g_iconst 1 dX10_goes_83 84 rfl (by decide) ?_
  refine g_iadd dX10_goes_84 85 rfl ?_
  refine g_iastore (N := 21) dX10_goes_85 86 rfl rfl (by decide) (vp_in_iff.mpr (by decide)) (h' := (hM text typed told draft (gup (gLp (fX10_goes_14 told (rX10_allAt told s 2 sz)) sz 0 s) 19 (((gLp (fX10_goes_14 told (rX10_allAt told s 2 sz)) sz 0 s) 19) + 1)) past known images kept notes noted at_ alone parts held)) rfl ?_
  refine g_aload_n dX10_goes_86 rfl 87 rfl rfl ?_
  refine g_get (v := .ref 4) dX10_goes_87 90 rfl lX10_19 rfl rfl ?_
  refine g_bipush 20 dX10_goes_90 92 rfl (by decide) ?_
  refine g_dup2 dX10_goes_92 93 rfl rfl rfl ?_
  refine g_iaload (N := 21) dX10_goes_93 94 rfl rfl (vp_in_iff.mpr (by decide)) ?_
  refine g_iload_n dX10_goes_94 rfl 95 rfl rfl ?_
  refine g_iadd dX10_goes_95 96 rfl ?_
  refine g_iastore (N := 21) dX10_goes_96 97 rfl rfl (by decide) (vp_in_iff.mpr (by decide)) (h' := (hM text typed told draft (gup (gup (gLp (fX10_goes_14 told (rX10_allAt told s 2 sz)) sz 0 s) 19 (((gLp (fX10_goes_14 told (rX10_allAt told s 2 sz)) sz 0 s) 19) + 1)) 20 (((gup (gLp (fX10_goes_14 told (rX10_allAt told s 2 sz)) sz 0 s) 19 (((gLp (fX10_goes_14 told (rX10_allAt told s 2 sz)) sz 0 s) 19) + 1)) 20) + (rX10_coinsOf told s (rX10_allAt told s 2 sz) sz))) past known images kept notes noted at_ alone parts held)) rfl ?_
  refine g_iload_n dX10_goes_97 rfl 98 rfl rfl ?_
  refine g_ireturn dX10_goes_98 rfl rfl (Nat.le_refl _) (Nat.le_refl _) ?_
  have e : (rX10_goes told s sz) = ((rX10_coinsOf told s (rX10_allAt told s 2 sz) sz), (gup (gup (gLp (fX10_goes_14 told (rX10_allAt told s 2 sz)) sz 0 s) 19 (((gLp (fX10_goes_14 told (rX10_allAt told s 2 sz)) sz 0 s) 19) + 1)) 20 (((gup (gLp (fX10_goes_14 told (rX10_allAt told s 2 sz)) sz 0 s) 19 (((gLp (fX10_goes_14 told (rX10_allAt told s 2 sz)) sz 0 s) 19) + 1)) 20) + (rX10_coinsOf told s (rX10_allAt told s 2 sz) sz)))) := by rw [rX10_goes]
  rw [e]
  exact ⟨rfl, rfl⟩
def fX10_undo_22 (past : Int32 → Int32) (kn : Nat) : Nat → (Int32 → Int32) → (Int32 → Int32)
  | i, s => (gup s (nI i) (past (nI ((21 * kn) + i))))
set_option maxRecDepth 100000 in
set_option maxHeartbeats 4000000 in
theorem LX10_undo_22 {w : gW} {al : Bool} {typed kept noted at_ : Int32} {text told draft past images notes alone parts held : Int32 → Int32} {n : Nat} {P : gP}  {kn : Nat} (hk : kn < 8)  : ∀ (d i : Nat) (s : Int32 → Int32), i + d = 21 → G w gT0 al n mX10_undo 0 0 P 0 0 (hM text typed told draft (gLp (fX10_undo_22 past kn) d i s) past (nI kn) images kept notes noted at_ alone parts held) 54 [.ref 0, .int (nI 21)] [] → G w gT0 al n mX10_undo 0 0 P 0 0 (hM text typed told draft s past (nI kn) images kept notes noted at_ alone parts held) 22 [.ref 0, .int (nI i)] []
  | 0, i, s, hi, k => by
    have hN : i = 21 := by omega
    rw [hN]
    rw [hN] at k
    refine g_iload_n dX10_undo_22 rfl 23 rfl rfl ?_
    refine g_bipush 21 dX10_undo_23 25 rfl (by decide) ?_
    refine g_icmp_ge dX10_undo_25 54 rfl 28 rfl (fun _ => ?_) (fun c => absurd (nI_le (a := 21) (b := 21) (by omega) (by omega)) c)
    exact k
  | d + 1, i, s, hi, k => by
    refine g_iload_n dX10_undo_22 rfl 23 rfl rfl ?_
    refine g_bipush 21 dX10_undo_23 25 rfl (by decide) ?_
    refine g_icmp_ge dX10_undo_25 54 rfl 28 rfl (fun c => absurd c (nI_ge (a := i) (b := 21) (by omega) (by omega))) (fun _ => ?_)
    refine g_aload_n dX10_undo_28 rfl 29 rfl rfl ?_
    refine g_get (v := .ref 4) dX10_undo_29 32 rfl lX10_19 rfl rfl ?_
    refine g_iload_n dX10_undo_32 rfl 33 rfl rfl ?_
    refine g_aload_n dX10_undo_33 rfl 34 rfl rfl ?_
    refine g_get (v := .ref 5) dX10_undo_34 37 rfl lX10_22 rfl rfl ?_
    refine g_bipush 21 dX10_undo_37 39 rfl (by decide) ?_
    refine g_aload_n dX10_undo_39 rfl 40 rfl rfl ?_
    refine g_get (v := .int (nI kn)) dX10_undo_40 43 rfl lX10_80 rfl rfl ?_
    refine g_imul' dX10_undo_43 44 rfl (nI (21 * kn)) (pk_mul 21 _) ?_
    refine g_iload_n dX10_undo_44 rfl 45 rfl rfl ?_
    refine g_iadd' dX10_undo_45 46 rfl (nI ((21 * kn) + i)) (nI_add _ _) ?_
    refine g_iaload (N := 168) dX10_undo_46 47 rfl rfl (vp_in_nI (by omega) (by decide)) ?_
    refine g_iastore (N := 21) dX10_undo_47 48 rfl rfl (by decide) (vp_in_nI (by omega) (by decide)) (h' := (hM text typed told draft (gup s (nI i) (past (nI ((21 * kn) + i)))) past (nI kn) images kept notes noted at_ alone parts held)) rfl ?_
    refine g_iinc1 dX10_undo_48 51 rfl 1 (by decide) (nI (i + 1)) (nI_add _ 1) (by decide) rfl ?_
    refine g_goto dX10_undo_51 22 rfl ?_
    have e : (fX10_undo_22 past kn) i s = (gup s (nI i) (past (nI ((21 * kn) + i)))) := by rw [fX10_undo_22]
    refine LX10_undo_22 hk d (i + 1) (gup s (nI i) (past (nI ((21 * kn) + i)))) (by omega) ?_
    rw [← e]
    exact k
def rX10_undo (s : Int32 → Int32) (past : Int32 → Int32) (kn : Nat) : Int32 × (Int32 → Int32) × Nat := ((nI kn), (gLp (fX10_undo_22 past kn) 21 0 s), kn)
set_option maxRecDepth 100000 in
set_option maxHeartbeats 4000000 in
theorem MX10_undo {w : gW} {al : Bool} {typed kept noted at_ : Int32} {text told draft s past images notes alone parts held : Int32 → Int32} {kn : Nat} (hk : kn < 8) (hk0 : ¬ (nI (kn + 1)) = 0) : M w gT0 al mX10_undo 0 0 (hM text typed told draft s past (nI (kn + 1)) images kept notes noted at_ alone parts held) [.ref 0] (gEq (hM text typed told draft ((rX10_undo s past kn).2.1) past (nI ((rX10_undo s past kn).2.2)) images kept notes noted at_ alone parts held) (some (.int ((rX10_undo s past kn).1)))) := by
  refine M.of (L0 := [.ref 0, gF]) (by decide +kernel) (Nat.le_of_ble_eq_true rfl) rfl ?_
  refine g_aload_n dX10_undo_0 rfl 1 rfl rfl ?_
  refine g_get (v := .int (nI (kn + 1))) dX10_undo_1 4 rfl lX10_80 rfl rfl ?_
  refine g_if_ne dX10_undo_4 10 rfl 7 rfl (fun _ => ?_) (fun c => absurd c hk0)
  refine g_aload_n dX10_undo_10 rfl 11 rfl rfl ?_
  refine g_dup dX10_undo_11 12 rfl rfl ?_
  refine g_get (v := .int (nI (kn + 1))) dX10_undo_12 15 rfl lX10_80 rfl rfl ?_
  refine g_iconst 1 dX10_undo_15 16 rfl (by decide) ?_
  refine g_isub' dX10_undo_16 17 rfl (nI kn) (nI_pred _) ?_
  refine g_put dX10_undo_17 20 rfl lX10_80 wrX10 rfl rfl rfl rfl rfl (Nat.le_of_ble_eq_true rfl) (h' := (hM text typed told draft s past (nI kn) images kept notes noted at_ alone parts held)) rfl ?_
  refine g_iconst 0 dX10_undo_20 21 rfl (by decide) ?_
  refine g_istore1 dX10_undo_21 22 rfl (by decide) rfl ?_
  refine LX10_undo_22 (by omega) 21 0 s (by omega) ?_
  refine g_aload_n dX10_undo_54 rfl 55 rfl rfl ?_
  refine g_get (v := .int (nI kn)) dX10_undo_55 58 rfl lX10_80 rfl rfl ?_
  refine g_ireturn dX10_undo_58 rfl rfl (Nat.le_refl _) (Nat.le_refl _) ?_
  have e : (rX10_undo s past kn) = ((nI kn), (gLp (fX10_undo_22 past kn) 21 0 s), kn) := by rw [rX10_undo]
  rw [e]
  exact ⟨rfl, rfl⟩
def rX10_undo_0  : Int32 := (-2)
set_option maxRecDepth 100000 in
set_option maxHeartbeats 4000000 in
theorem MX10_undo_0 {w : gW} {al : Bool} {typed kept noted at_ : Int32} {text told draft s past images notes alone parts held : Int32 → Int32}   : M w gT0 al mX10_undo 0 0 (hM text typed told draft s past 0 images kept notes noted at_ alone parts held) [.ref 0] (gEq (hM text typed told draft s past 0 images kept notes noted at_ alone parts held) (some (.int rX10_undo_0))) := by
  refine M.of (L0 := [.ref 0, gF]) (by decide +kernel) (Nat.le_of_ble_eq_true rfl) rfl ?_
  refine g_aload_n dX10_undo_0 rfl 1 rfl rfl ?_
  refine g_get (v := .int 0) dX10_undo_1 4 rfl lX10_80 rfl rfl ?_
  refine g_if_ne dX10_undo_4 10 rfl 7 rfl (fun c => absurd (by decide) c) (fun _ => ?_)
  refine g_bipush (-2) dX10_undo_7 9 rfl (by decide) ?_
  refine g_ireturn dX10_undo_9 rfl rfl (Nat.le_refl _) (Nat.le_refl _) ?_
  have e : rX10_undo_0 = (-2) := by rw [rX10_undo_0]
  rw [e]
  exact ⟨rfl, rfl⟩
def fX10_best_22 (told : Int32 → Int32) (s : Int32 → Int32) (t : Nat) (sz : Nat) : Nat → (Int32) → (Int32)
  | i, u0 => (if ((nI i) &&& ((nI t) ^^^ (-1))) = 0 then (if (rX10_sails told s (nI i) sz) = true then (if u0 = (-4) then (nI i) else (if ((rX10_coinsOf told s (nI i) sz) - (rX10_coinsOf told s u0 sz)) < 0 then (nI i) else (if ((rX10_coinsOf told s (nI i) sz) - (rX10_coinsOf told s u0 sz)) = 0 then (if (rX10_ones u0) ≤ (rX10_ones (nI i)) then u0 else (nI i)) else u0))) else u0) else u0)
set_option maxRecDepth 100000 in
set_option maxHeartbeats 4000000 in
theorem LX10_best_22 {w : gW} {al : Bool} {typed known kept noted at_ : Int32} {text told draft s past images notes alone parts held : Int32 → Int32} {n : Nat} {P : gP} {sz : Nat} {what : Int32} {t : Nat} (hsz : told 0 = nI sz) (hs : sz ≤ 9) (ht : t < 512)  : ∀ (d i : Nat) (u0 : Int32), i + d = t + 1 → G w gT0 al n mX10_best 0 0 P 0 0 (hM text typed told draft s past known images kept notes noted at_ alone parts held) 105 [.ref 0, .int what, .int (gLp (fX10_best_22 told s t sz) d i u0), .int (nI t), .int (nI (t + 1)), gF] [] → G w gT0 al n mX10_best 0 0 P 0 0 (hM text typed told draft s past known images kept notes noted at_ alone parts held) 22 [.ref 0, .int what, .int u0, .int (nI t), .int (nI i), gF] []
  | 0, i, u0, hi, k => by
    have hN : i = t + 1 := by omega
    rw [hN]
    rw [hN] at k
    refine g_iload dX10_best_22 24 rfl rfl ?_
    refine g_iload_n dX10_best_24 rfl 25 rfl rfl ?_
    refine g_icmp_gt dX10_best_25 105 rfl 28 rfl (fun _ => ?_) (fun c => absurd (nI_lt (by omega) (by omega)) c)
    exact k
  | d + 1, i, u0, hi, k => by
    refine g_iload dX10_best_22 24 rfl rfl ?_
    refine g_iload_n dX10_best_24 rfl 25 rfl rfl ?_
    refine g_icmp_gt dX10_best_25 105 rfl 28 rfl (fun c => absurd c (nI_nlt (by omega) (by omega))) (fun _ => ?_)
    refine g_iload dX10_best_28 30 rfl rfl ?_
    refine g_iload_n dX10_best_30 rfl 31 rfl rfl ?_
    refine g_iconst (-1) dX10_best_31 32 rfl (by decide) ?_
    refine g_ixor dX10_best_32 33 rfl ?_
    refine g_iand dX10_best_33 34 rfl ?_
    refine g_if_ne dX10_best_34 99 rfl 37 rfl (fun c1 => ?_) (fun c1 => ?_)
    · refine g_iinc4 dX10_best_99 102 rfl 1 (by decide) (nI (i + 1)) (nI_add _ 1) (by decide) rfl ?_
      refine g_goto dX10_best_102 22 rfl ?_
      have e : (fX10_best_22 told s t sz) i u0 = u0 := by rw [fX10_best_22, if_neg c1]
      refine LX10_best_22 hsz hs ht d (i + 1) u0 (by omega) ?_
      rw [← e]
      exact k
    · refine g_aload_n dX10_best_37 rfl 38 rfl rfl ?_
      refine g_iload dX10_best_38 40 rfl rfl ?_
      refine g_cVv (as := [.int (nI i)]) (st := []) dX10_best_40 43 rfl kX10_104 ⟨Nat.le_of_ble_eq_true rfl, Nat.le_of_ble_eq_true rfl⟩ (MX10_sails (nI i) hsz hs) rfl rfl rfl rfl (Nat.le_of_ble_eq_true rfl) (Nat.le_refl _) (Nat.le_refl _) ?_
      refine g_if_eq dX10_best_43 99 rfl 46 rfl (fun c2 => ?_) (fun c2 => ?_)
      · replace c2 := gB_f c2
        refine g_iinc4 dX10_best_99 102 rfl 1 (by decide) (nI (i + 1)) (nI_add _ 1) (by decide) rfl ?_
        refine g_goto dX10_best_102 22 rfl ?_
        have e : (fX10_best_22 told s t sz) i u0 = u0 := by rw [fX10_best_22, if_pos c1, if_neg c2]
        refine LX10_best_22 hsz hs ht d (i + 1) u0 (by omega) ?_
        rw [← e]
        exact k
      · replace c2 := gB_t c2
        refine g_iload_n dX10_best_46 rfl 47 rfl rfl ?_
        refine g_bipush (-4) dX10_best_47 49 rfl (by decide) ?_
        refine g_icmp_ne dX10_best_49 56 rfl 52 rfl (fun c3 => ?_) (fun c3 => ?_)
        · refine g_aload_n dX10_best_56 rfl 57 rfl rfl ?_
          refine g_iload dX10_best_57 59 rfl rfl ?_
          refine g_cVv (as := [.int (nI i)]) (st := []) dX10_best_59 62 rfl kX10_107 ⟨Nat.le_of_ble_eq_true rfl, Nat.le_of_ble_eq_true rfl⟩ (MX10_coinsOf (nI i) hsz hs) rfl rfl rfl rfl (Nat.le_of_ble_eq_true rfl) (Nat.le_refl _) (Nat.le_refl _) ?_
          refine g_aload_n dX10_best_62 rfl 63 rfl rfl ?_
          refine g_iload_n dX10_best_63 rfl 64 rfl rfl ?_
          refine g_cVv (as := [.int u0]) (st := [.int (rX10_coinsOf told s (nI i) sz)]) dX10_best_64 67 rfl kX10_107 ⟨Nat.le_of_ble_eq_true rfl, Nat.le_of_ble_eq_true rfl⟩ (MX10_coinsOf u0 hsz hs) rfl rfl rfl rfl (Nat.le_of_ble_eq_true rfl) (Nat.le_refl _) (Nat.le_refl _) ?_
          refine g_isub dX10_best_67 68 rfl ?_
          refine g_istore5 dX10_best_68 70 rfl (by decide) rfl ?_
          refine g_iload dX10_best_70 72 rfl rfl ?_
          refine g_if_lt dX10_best_72 92 rfl 75 rfl (fun c4 => ?_) (fun c4 => ?_)
          · refine g_iload dX10_best_92 94 rfl rfl ?_
            refine g_goto dX10_best_94 98 rfl ?_
            refine g_istore2 dX10_best_98 99 rfl (by decide) rfl ?_
            refine g_iinc4 dX10_best_99 102 rfl 1 (by decide) (nI (i + 1)) (nI_add _ 1) (by decide) rfl ?_
            refine g_goto dX10_best_102 22 rfl ?_
            refine g_fgt (L' := [.ref 0, .int what, .int (nI i), .int (nI t), .int (nI (i + 1)), gF]) ⟨Or.inl rfl, Or.inl rfl, Or.inl rfl, Or.inl rfl, Or.inl rfl, Or.inr rfl, trivial⟩ ?_
            have e : (fX10_best_22 told s t sz) i u0 = (nI i) := by rw [fX10_best_22, if_pos c1, if_pos c2, if_neg c3, if_pos c4]
            refine LX10_best_22 hsz hs ht d (i + 1) (nI i) (by omega) ?_
            rw [← e]
            exact k
          · refine g_iload dX10_best_75 77 rfl rfl ?_
            refine g_if_ne dX10_best_77 97 rfl 80 rfl (fun c5 => ?_) (fun c5 => ?_)
            · refine g_iload_n dX10_best_97 rfl 98 rfl rfl ?_
              refine g_istore2 dX10_best_98 99 rfl (by decide) rfl ?_
              refine g_iinc4 dX10_best_99 102 rfl 1 (by decide) (nI (i + 1)) (nI_add _ 1) (by decide) rfl ?_
              refine g_goto dX10_best_102 22 rfl ?_
              refine g_fgt (L' := [.ref 0, .int what, .int u0, .int (nI t), .int (nI (i + 1)), gF]) ⟨Or.inl rfl, Or.inl rfl, Or.inl rfl, Or.inl rfl, Or.inl rfl, Or.inr rfl, trivial⟩ ?_
              have e : (fX10_best_22 told s t sz) i u0 = u0 := by rw [fX10_best_22, if_pos c1, if_pos c2, if_neg c3, if_neg c4, if_neg c5]
              refine LX10_best_22 hsz hs ht d (i + 1) u0 (by omega) ?_
              rw [← e]
              exact k
            · refine g_iload dX10_best_80 82 rfl rfl ?_
              refine g_cSv (as := [.int (nI i)]) (st := []) dX10_best_82 85 rfl kX10_119 ⟨Nat.le_of_ble_eq_true rfl, Nat.le_of_ble_eq_true rfl⟩ (MX10_ones (nI i)) rfl (Nat.le_of_ble_eq_true rfl) (Nat.le_refl _) (Nat.le_refl _) ?_
              refine g_iload_n dX10_best_85 rfl 86 rfl rfl ?_
              refine g_cSv (as := [.int u0]) (st := [.int (rX10_ones (nI i))]) dX10_best_86 89 rfl kX10_119 ⟨Nat.le_of_ble_eq_true rfl, Nat.le_of_ble_eq_true rfl⟩ (MX10_ones u0) rfl (Nat.le_of_ble_eq_true rfl) (Nat.le_refl _) (Nat.le_refl _) ?_
              refine g_icmp_ge dX10_best_89 97 rfl 92 rfl (fun c6 => ?_) (fun c6 => ?_)
              · refine g_iload_n dX10_best_97 rfl 98 rfl rfl ?_
                refine g_istore2 dX10_best_98 99 rfl (by decide) rfl ?_
                refine g_iinc4 dX10_best_99 102 rfl 1 (by decide) (nI (i + 1)) (nI_add _ 1) (by decide) rfl ?_
                refine g_goto dX10_best_102 22 rfl ?_
                refine g_fgt (L' := [.ref 0, .int what, .int u0, .int (nI t), .int (nI (i + 1)), gF]) ⟨Or.inl rfl, Or.inl rfl, Or.inl rfl, Or.inl rfl, Or.inl rfl, Or.inr rfl, trivial⟩ ?_
                have e : (fX10_best_22 told s t sz) i u0 = u0 := by rw [fX10_best_22, if_pos c1, if_pos c2, if_neg c3, if_neg c4, if_pos c5, if_pos c6]
                refine LX10_best_22 hsz hs ht d (i + 1) u0 (by omega) ?_
                rw [← e]
                exact k
              · refine g_iload dX10_best_92 94 rfl rfl ?_
                refine g_goto dX10_best_94 98 rfl ?_
                refine g_istore2 dX10_best_98 99 rfl (by decide) rfl ?_
                refine g_iinc4 dX10_best_99 102 rfl 1 (by decide) (nI (i + 1)) (nI_add _ 1) (by decide) rfl ?_
                refine g_goto dX10_best_102 22 rfl ?_
                refine g_fgt (L' := [.ref 0, .int what, .int (nI i), .int (nI t), .int (nI (i + 1)), gF]) ⟨Or.inl rfl, Or.inl rfl, Or.inl rfl, Or.inl rfl, Or.inl rfl, Or.inr rfl, trivial⟩ ?_
                have e : (fX10_best_22 told s t sz) i u0 = (nI i) := by rw [fX10_best_22, if_pos c1, if_pos c2, if_neg c3, if_neg c4, if_pos c5, if_neg c6]
                refine LX10_best_22 hsz hs ht d (i + 1) (nI i) (by omega) ?_
                rw [← e]
                exact k
        · refine g_iconst (-1) dX10_best_52 53 rfl (by decide) ?_
          refine g_goto dX10_best_53 68 rfl ?_
          refine g_istore5 dX10_best_68 70 rfl (by decide) rfl ?_
          refine g_iload dX10_best_70 72 rfl rfl ?_
          refine g_if_lt dX10_best_72 92 rfl 75 rfl (fun _ => ?_) (fun c => absurd (by decide) c)
          refine g_iload dX10_best_92 94 rfl rfl ?_
          refine g_goto dX10_best_94 98 rfl ?_
          refine g_istore2 dX10_best_98 99 rfl (by decide) rfl ?_
          refine g_iinc4 dX10_best_99 102 rfl 1 (by decide) (nI (i + 1)) (nI_add _ 1) (by decide) rfl ?_
          refine g_goto dX10_best_102 22 rfl ?_
          refine g_fgt (L' := [.ref 0, .int what, .int (nI i), .int (nI t), .int (nI (i + 1)), gF]) ⟨Or.inl rfl, Or.inl rfl, Or.inl rfl, Or.inl rfl, Or.inl rfl, Or.inr rfl, trivial⟩ ?_
          have e : (fX10_best_22 told s t sz) i u0 = (nI i) := by rw [fX10_best_22, if_pos c1, if_pos c2, if_pos c3]
          refine LX10_best_22 hsz hs ht d (i + 1) (nI i) (by omega) ?_
          rw [← e]
          exact k
def rX10_best (told : Int32 → Int32) (s : Int32 → Int32) (what : Int32) (sz : Nat) : Int32 := (if (rX10_in what 0 1) = true then (if what = 0 then (gLp (fX10_best_22 told s (tP told s sz) sz) ((tP told s sz) + 1 - 1) 1 (-4)) else (if (gLp (fX10_best_22 told s (tP told s sz) sz) ((tP told s sz) + 1 - 1) 1 (-4)) = (-4) then (gLp (fX10_best_22 told s (tP told s sz) sz) ((tP told s sz) + 1 - 1) 1 (-4)) else (rX10_coinsOf told s (gLp (fX10_best_22 told s (tP told s sz) sz) ((tP told s sz) + 1 - 1) 1 (-4)) sz))) else (-1))
set_option maxRecDepth 100000 in
set_option maxHeartbeats 4000000 in
theorem MX10_best {w : gW} {al : Bool} {typed known kept noted at_ : Int32} {text told draft s past images notes alone parts held : Int32 → Int32} {sz : Nat} (what : Int32) (hsz : told 0 = nI sz) (hs : sz ≤ 9)  : M w gT0 al mX10_best 0 0 (hM text typed told draft s past known images kept notes noted at_ alone parts held) [.ref 0, .int what] (gEq (hM text typed told draft s past known images kept notes noted at_ alone parts held) (some (.int (rX10_best told s what sz)))) := by
  refine M.of (L0 := [.ref 0, .int what, gF, gF, gF, gF]) (by decide +kernel) (Nat.le_of_ble_eq_true rfl) rfl ?_
  refine g_iload_n dX10_best_0 rfl 1 rfl rfl ?_
  refine g_iconst 0 dX10_best_1 2 rfl (by decide) ?_
  refine g_iconst 1 dX10_best_2 3 rfl (by decide) ?_
  refine g_cSv (as := [.int what, .int 0, .int 1]) (st := []) dX10_best_3 6 rfl kX10_50 ⟨Nat.le_of_ble_eq_true rfl, Nat.le_of_ble_eq_true rfl⟩ (MX10_in what 0 1) rfl (Nat.le_of_ble_eq_true rfl) (Nat.le_refl _) (Nat.le_refl _) ?_
  refine g_if_ne dX10_best_6 11 rfl 9 rfl (fun c1 => ?_) (fun c1 => ?_)
  · replace c1 := gB_t c1
    refine g_bipush (-4) dX10_best_11 13 rfl (by decide) ?_
    refine g_istore2 dX10_best_13 14 rfl (by decide) rfl ?_
    refine g_aload_n dX10_best_14 rfl 15 rfl rfl ?_
    refine g_cVv (as := []) (st := []) dX10_best_15 18 rfl kX10_116 ⟨Nat.le_of_ble_eq_true rfl, Nat.le_of_ble_eq_true rfl⟩ (MX10_present' hsz hs) rfl rfl rfl rfl (Nat.le_of_ble_eq_true rfl) (Nat.le_refl _) (Nat.le_refl _) ?_
    refine g_istore3 dX10_best_18 19 rfl (by decide) rfl ?_
    refine g_iconst 1 dX10_best_19 20 rfl (by decide) ?_
    refine g_istore4 dX10_best_20 22 rfl (by decide) rfl ?_
    refine LX10_best_22 hsz hs (tP_512 _ _ hs) ((tP told s sz) + 1 - 1) 1 (-4) (by omega) ?_
    refine g_iload_n dX10_best_105 rfl 106 rfl rfl ?_
    refine g_if_eq dX10_best_106 115 rfl 109 rfl (fun c2 => ?_) (fun c2 => ?_)
    · refine g_iload_n dX10_best_115 rfl 116 rfl rfl ?_
      refine g_goto dX10_best_116 124 rfl ?_
      refine g_ireturn dX10_best_124 rfl rfl (Nat.le_refl _) (Nat.le_refl _) ?_
      have e : (rX10_best told s what sz) = (gLp (fX10_best_22 told s (tP told s sz) sz) ((tP told s sz) + 1 - 1) 1 (-4)) := by rw [rX10_best, if_pos c1, if_pos c2]
      rw [e]
      exact ⟨rfl, rfl⟩
    · refine g_iload_n dX10_best_109 rfl 110 rfl rfl ?_
      refine g_bipush (-4) dX10_best_110 112 rfl (by decide) ?_
      refine g_icmp_ne dX10_best_112 119 rfl 115 rfl (fun c3 => ?_) (fun c3 => ?_)
      · refine g_aload_n dX10_best_119 rfl 120 rfl rfl ?_
        refine g_iload_n dX10_best_120 rfl 121 rfl rfl ?_
        refine g_cVv (as := [.int (gLp (fX10_best_22 told s (tP told s sz) sz) ((tP told s sz) + 1 - 1) 1 (-4))]) (st := []) dX10_best_121 124 rfl kX10_107 ⟨Nat.le_of_ble_eq_true rfl, Nat.le_of_ble_eq_true rfl⟩ (MX10_coinsOf (gLp (fX10_best_22 told s (tP told s sz) sz) ((tP told s sz) + 1 - 1) 1 (-4)) hsz hs) rfl rfl rfl rfl (Nat.le_of_ble_eq_true rfl) (Nat.le_refl _) (Nat.le_refl _) ?_
        refine g_ireturn dX10_best_124 rfl rfl (Nat.le_refl _) (Nat.le_refl _) ?_
        have e : (rX10_best told s what sz) = (rX10_coinsOf told s (gLp (fX10_best_22 told s (tP told s sz) sz) ((tP told s sz) + 1 - 1) 1 (-4)) sz) := by rw [rX10_best, if_pos c1, if_neg c2, if_neg c3]
        rw [e]
        exact ⟨rfl, rfl⟩
      · refine g_iload_n dX10_best_115 rfl 116 rfl rfl ?_
        refine g_goto dX10_best_116 124 rfl ?_
        refine g_ireturn dX10_best_124 rfl rfl (Nat.le_refl _) (Nat.le_refl _) ?_
        have e : (rX10_best told s what sz) = (gLp (fX10_best_22 told s (tP told s sz) sz) ((tP told s sz) + 1 - 1) 1 (-4)) := by rw [rX10_best, if_pos c1, if_neg c2, if_pos c3]
        rw [e]
        exact ⟨rfl, rfl⟩
  · replace c1 := gB_f c1
    refine g_iconst (-1) dX10_best_9 10 rfl (by decide) ?_
    refine g_ireturn dX10_best_10 rfl rfl (Nat.le_refl _) (Nat.le_refl _) ?_
    have e : (rX10_best told s what sz) = (-1) := by rw [rX10_best, if_neg c1]
    rw [e]
    exact ⟨rfl, rfl⟩
def fX10_isThere_9 (told : Int32 → Int32) (s : Int32 → Int32) (t : Nat) (sz : Nat) : Nat → (Bool) → Bool × (Bool)
  | i, u0 => (if u0 = true then (true, u0) else (if ((nI i) &&& ((nI t) ^^^ (-1))) = 0 then (if (rX10_sails told s (nI i) sz) = true then (false, true) else (false, false)) else (false, false)))
set_option maxRecDepth 100000 in
set_option maxHeartbeats 4000000 in
theorem LX10_isThere_9 {w : gW} {al : Bool} {typed known kept noted at_ : Int32} {text told draft s past images notes alone parts held : Int32 → Int32} {n : Nat} {P : gP} {sz : Nat} {t : Nat} (hsz : told 0 = nI sz) (hs : sz ≤ 9) (ht : t < 512)  : ∀ (d i : Nat) (u0 : Bool), i + d = t + 1 → G w gT0 al n mX10_isThere 0 0 P 0 0 (hM text typed told draft s past known images kept notes noted at_ alone parts held) 46 [.ref 0, .int (nI t), .int (gB (gWh (fX10_isThere_9 told s t sz) d i u0)), gF] [] → G w gT0 al n mX10_isThere 0 0 P 0 0 (hM text typed told draft s past known images kept notes noted at_ alone parts held) 9 [.ref 0, .int (nI t), .int (gB u0), .int (nI i)] []
  | 0, i, u0, hi, k => by
    have hN : i = t + 1 := by omega
    rw [hN]
    rw [hN] at k
    refine g_iload_n dX10_isThere_9 rfl 10 rfl rfl ?_
    refine g_iload_n dX10_isThere_10 rfl 11 rfl rfl ?_
    refine g_icmp_gt dX10_isThere_11 46 rfl 14 rfl (fun _ => ?_) (fun c => absurd (nI_lt (by omega) (by omega)) c)
    refine g_fgt (L' := [.ref 0, .int (nI t), .int (gB u0), gF]) ⟨Or.inl rfl, Or.inl rfl, Or.inl rfl, Or.inr rfl, trivial⟩ ?_
    exact k
  | d + 1, i, u0, hi, k => by
    refine g_iload_n dX10_isThere_9 rfl 10 rfl rfl ?_
    refine g_iload_n dX10_isThere_10 rfl 11 rfl rfl ?_
    refine g_icmp_gt dX10_isThere_11 46 rfl 14 rfl (fun c => absurd c (nI_nlt (by omega) (by omega))) (fun _ => ?_)
    refine g_iload_n dX10_isThere_14 rfl 15 rfl rfl ?_
    refine g_if_ne dX10_isThere_15 46 rfl 18 rfl (fun c1 => ?_) (fun c1 => ?_)
    · replace c1 := gB_t c1
      refine g_fgt (L' := [.ref 0, .int (nI t), .int (gB u0), gF]) ⟨Or.inl rfl, Or.inl rfl, Or.inl rfl, Or.inr rfl, trivial⟩ ?_
      have e : (fX10_isThere_9 told s t sz) i u0 = (true, u0) := by rw [fX10_isThere_9, if_pos c1]
      rw [gWh_t e] at k
      exact k
    · replace c1 := gB_f c1
      refine g_iload_n dX10_isThere_18 rfl 19 rfl rfl ?_
      refine g_iload_n dX10_isThere_19 rfl 20 rfl rfl ?_
      refine g_iconst (-1) dX10_isThere_20 21 rfl (by decide) ?_
      refine g_ixor dX10_isThere_21 22 rfl ?_
      refine g_iand dX10_isThere_22 23 rfl ?_
      refine g_if_ne dX10_isThere_23 38 rfl 26 rfl (fun c2 => ?_) (fun c2 => ?_)
      · refine g_iconst 0 dX10_isThere_38 39 rfl (by decide) ?_
        refine g_istore2 dX10_isThere_39 40 rfl (by decide) rfl ?_
        refine g_iinc3 dX10_isThere_40 43 rfl 1 (by decide) (nI (i + 1)) (nI_add _ 1) (by decide) rfl ?_
        refine g_goto dX10_isThere_43 9 rfl ?_
        have e : (fX10_isThere_9 told s t sz) i u0 = (false, false) := by rw [fX10_isThere_9, if_neg c1, if_neg c2]
        refine LX10_isThere_9 hsz hs ht d (i + 1) false (by omega) ?_
        rw [gWh_f e] at k
        exact k
      · refine g_aload_n dX10_isThere_26 rfl 27 rfl rfl ?_
        refine g_iload_n dX10_isThere_27 rfl 28 rfl rfl ?_
        refine g_cVv (as := [.int (nI i)]) (st := []) dX10_isThere_28 31 rfl kX10_104 ⟨Nat.le_of_ble_eq_true rfl, Nat.le_of_ble_eq_true rfl⟩ (MX10_sails (nI i) hsz hs) rfl rfl rfl rfl (Nat.le_of_ble_eq_true rfl) (Nat.le_refl _) (Nat.le_refl _) ?_
        refine g_if_eq dX10_isThere_31 38 rfl 34 rfl (fun c3 => ?_) (fun c3 => ?_)
        · replace c3 := gB_f c3
          refine g_iconst 0 dX10_isThere_38 39 rfl (by decide) ?_
          refine g_istore2 dX10_isThere_39 40 rfl (by decide) rfl ?_
          refine g_iinc3 dX10_isThere_40 43 rfl 1 (by decide) (nI (i + 1)) (nI_add _ 1) (by decide) rfl ?_
          refine g_goto dX10_isThere_43 9 rfl ?_
          have e : (fX10_isThere_9 told s t sz) i u0 = (false, false) := by rw [fX10_isThere_9, if_neg c1, if_pos c2, if_neg c3]
          refine LX10_isThere_9 hsz hs ht d (i + 1) false (by omega) ?_
          rw [gWh_f e] at k
          exact k
        · replace c3 := gB_t c3
          refine g_iconst 1 dX10_isThere_34 35 rfl (by decide) ?_
          refine g_goto dX10_isThere_35 39 rfl ?_
          refine g_istore2 dX10_isThere_39 40 rfl (by decide) rfl ?_
          refine g_iinc3 dX10_isThere_40 43 rfl 1 (by decide) (nI (i + 1)) (nI_add _ 1) (by decide) rfl ?_
          refine g_goto dX10_isThere_43 9 rfl ?_
          have e : (fX10_isThere_9 told s t sz) i u0 = (false, true) := by rw [fX10_isThere_9, if_neg c1, if_pos c2, if_pos c3]
          refine LX10_isThere_9 hsz hs ht d (i + 1) true (by omega) ?_
          rw [gWh_f e] at k
          exact k
def rX10_isThere (told : Int32 → Int32) (s : Int32 → Int32) (sz : Nat) : Bool := (gWh (fX10_isThere_9 told s (tP told s sz) sz) ((tP told s sz) + 1 - 1) 1 false)
set_option maxRecDepth 100000 in
set_option maxHeartbeats 4000000 in
theorem MX10_isThere {w : gW} {al : Bool} {typed known kept noted at_ : Int32} {text told draft s past images notes alone parts held : Int32 → Int32} {sz : Nat} (hsz : told 0 = nI sz) (hs : sz ≤ 9)  : M w gT0 al mX10_isThere 0 0 (hM text typed told draft s past known images kept notes noted at_ alone parts held) [.ref 0] (gEq (hM text typed told draft s past known images kept notes noted at_ alone parts held) (some (.int (gB (rX10_isThere told s sz))))) := by
  refine M.of (L0 := [.ref 0, gF, gF, gF]) (by decide +kernel) (Nat.le_of_ble_eq_true rfl) rfl ?_
  refine g_aload_n dX10_isThere_0 rfl 1 rfl rfl ?_
  refine g_cVv (as := []) (st := []) dX10_isThere_1 4 rfl kX10_116 ⟨Nat.le_of_ble_eq_true rfl, Nat.le_of_ble_eq_true rfl⟩ (MX10_present' hsz hs) rfl rfl rfl rfl (Nat.le_of_ble_eq_true rfl) (Nat.le_refl _) (Nat.le_refl _) ?_
  refine g_istore1 dX10_isThere_4 5 rfl (by decide) rfl ?_
  refine g_iconst 0 dX10_isThere_5 6 rfl (by decide) ?_
  refine g_istore2 dX10_isThere_6 7 rfl (by decide) rfl ?_
  refine g_iconst 1 dX10_isThere_7 8 rfl (by decide) ?_
  refine g_istore3 dX10_isThere_8 9 rfl (by decide) rfl ?_
  refine LX10_isThere_9 hsz hs (tP_512 _ _ hs) ((tP told s sz) + 1 - 1) 1 false (by omega) ?_
  refine g_iload_n dX10_isThere_46 rfl 47 rfl rfl ?_
  refine g_ireturn dX10_isThere_47 rfl (gB_nar _) (Nat.le_refl _) (Nat.le_refl _) ?_
  have e : (rX10_isThere told s sz) = (gWh (fX10_isThere_9 told s (tP told s sz) sz) ((tP told s sz) + 1 - 1) 1 false) := by rw [rX10_isThere]
  rw [e]
  exact ⟨rfl, rfl⟩
end
