-- ===== PART A: goes FIRST, ahead of the names: the tables' words, and 'selects' of the private methods out of them =====
/-- a private method of a class that the tables say can be made, by its rows of tables_1 -/
def lw_okq (q : MethodName × Nat) : Prop := (q.1.cls ≠ "java/lang/invoke/MethodHandle" ∧ q.1.cls ≠ "java/lang/invoke/VarHandle") ∧ Cond.instantiable q.1.cls q.2 ∈ tables_1 ∧ Cond.privateMethod q.1 ∈ tables_1 ∧ Cond.instanceMethod q.1 ∈ tables_1
theorem lw_p0 : lw_okq (⟨"ParrotTontine", "chanceNow", "(I)I"⟩, 12) := ⟨⟨by decide +kernel, by decide +kernel⟩, List.mem_of_getElem? (i := 17) (by decide +kernel), List.mem_of_getElem? (i := 452) (by decide +kernel), List.mem_of_getElem? (i := 453) (by decide +kernel)⟩
theorem lw_p1 : lw_okq (⟨"ParrotTontine", "payNow", "(I)I"⟩, 12) := ⟨⟨by decide +kernel, by decide +kernel⟩, List.mem_of_getElem? (i := 17) (by decide +kernel), List.mem_of_getElem? (i := 475) (by decide +kernel), List.mem_of_getElem? (i := 476) (by decide +kernel)⟩
theorem lw_p2 : lw_okq (⟨"ParrotTontine", "refusalOfYears", "(I)I"⟩, 12) := ⟨⟨by decide +kernel, by decide +kernel⟩, List.mem_of_getElem? (i := 17) (by decide +kernel), List.mem_of_getElem? (i := 497) (by decide +kernel), List.mem_of_getElem? (i := 498) (by decide +kernel)⟩
theorem lw_p3 : lw_okq (⟨"ParrotTontine", "passYear", "()V"⟩, 12) := ⟨⟨by decide +kernel, by decide +kernel⟩, List.mem_of_getElem? (i := 17) (by decide +kernel), List.mem_of_getElem? (i := 520) (by decide +kernel), List.mem_of_getElem? (i := 521) (by decide +kernel)⟩
theorem lw_p4 : lw_okq (⟨"ParrotTontine", "drawDeaths", "()V"⟩, 12) := ⟨⟨by decide +kernel, by decide +kernel⟩, List.mem_of_getElem? (i := 17) (by decide +kernel), List.mem_of_getElem? (i := 550) (by decide +kernel), List.mem_of_getElem? (i := 551) (by decide +kernel)⟩
theorem lw_p5 : lw_okq (⟨"ParrotTontine", "somebodyGains", "(II)Z"⟩, 12) := ⟨⟨by decide +kernel, by decide +kernel⟩, List.mem_of_getElem? (i := 17) (by decide +kernel), List.mem_of_getElem? (i := 631) (by decide +kernel), List.mem_of_getElem? (i := 632) (by decide +kernel)⟩
theorem lw_p6 : lw_okq (⟨"ParrotTontine", "worthBeside", "(IIII)J"⟩, 12) := ⟨⟨by decide +kernel, by decide +kernel⟩, List.mem_of_getElem? (i := 17) (by decide +kernel), List.mem_of_getElem? (i := 675) (by decide +kernel), List.mem_of_getElem? (i := 676) (by decide +kernel)⟩
theorem lw_p7 : lw_okq (⟨"ParrotTontine", "costOf", "(I)J"⟩, 12) := ⟨⟨by decide +kernel, by decide +kernel⟩, List.mem_of_getElem? (i := 17) (by decide +kernel), List.mem_of_getElem? (i := 679) (by decide +kernel), List.mem_of_getElem? (i := 680) (by decide +kernel)⟩
theorem lw_p8 : lw_okq (⟨"ParrotTontineModel", "forget", "()V"⟩, 35) := ⟨⟨by decide +kernel, by decide +kernel⟩, List.mem_of_getElem? (i := 774) (by decide +kernel), List.mem_of_getElem? (i := 780) (by decide +kernel), List.mem_of_getElem? (i := 781) (by decide +kernel)⟩
theorem lw_p9 : lw_okq (⟨"ParrotTontineModel", "isRead", "()Z"⟩, 35) := ⟨⟨by decide +kernel, by decide +kernel⟩, List.mem_of_getElem? (i := 774) (by decide +kernel), List.mem_of_getElem? (i := 904) (by decide +kernel), List.mem_of_getElem? (i := 905) (by decide +kernel)⟩
theorem lw_p10 : lw_okq (⟨"ParrotTontineModel", "nextToken", "()V"⟩, 35) := ⟨⟨by decide +kernel, by decide +kernel⟩, List.mem_of_getElem? (i := 774) (by decide +kernel), List.mem_of_getElem? (i := 908) (by decide +kernel), List.mem_of_getElem? (i := 909) (by decide +kernel)⟩
theorem lw_p11 : lw_okq (⟨"ParrotTontineModel", "isClause", "()Z"⟩, 35) := ⟨⟨by decide +kernel, by decide +kernel⟩, List.mem_of_getElem? (i := 774) (by decide +kernel), List.mem_of_getElem? (i := 912) (by decide +kernel), List.mem_of_getElem? (i := 913) (by decide +kernel)⟩
theorem lw_p12 : lw_okq (⟨"ParrotTontineModel", "fails", "(I)Z"⟩, 35) := ⟨⟨by decide +kernel, by decide +kernel⟩, List.mem_of_getElem? (i := 774) (by decide +kernel), List.mem_of_getElem? (i := 916) (by decide +kernel), List.mem_of_getElem? (i := 917) (by decide +kernel)⟩
theorem lw_p13 : lw_okq (⟨"ParrotTontineModel", "isPotItem", "()Z"⟩, 35) := ⟨⟨by decide +kernel, by decide +kernel⟩, List.mem_of_getElem? (i := 774) (by decide +kernel), List.mem_of_getElem? (i := 920) (by decide +kernel), List.mem_of_getElem? (i := 921) (by decide +kernel)⟩
theorem lw_p14 : lw_okq (⟨"ParrotTontineModel", "isNumber", "(I)Z"⟩, 35) := ⟨⟨by decide +kernel, by decide +kernel⟩, List.mem_of_getElem? (i := 774) (by decide +kernel), List.mem_of_getElem? (i := 924) (by decide +kernel), List.mem_of_getElem? (i := 925) (by decide +kernel)⟩
theorem lw_p15 : lw_okq (⟨"ParrotTontineModel", "isEnd", "()Z"⟩, 35) := ⟨⟨by decide +kernel, by decide +kernel⟩, List.mem_of_getElem? (i := 774) (by decide +kernel), List.mem_of_getElem? (i := 928) (by decide +kernel), List.mem_of_getElem? (i := 929) (by decide +kernel)⟩
def lw_privs_1 : List (MethodName × Nat) := [(⟨"ParrotTontine", "chanceNow", "(I)I"⟩, 12), (⟨"ParrotTontine", "payNow", "(I)I"⟩, 12), (⟨"ParrotTontine", "refusalOfYears", "(I)I"⟩, 12), (⟨"ParrotTontine", "passYear", "()V"⟩, 12), (⟨"ParrotTontine", "drawDeaths", "()V"⟩, 12), (⟨"ParrotTontine", "somebodyGains", "(II)Z"⟩, 12), (⟨"ParrotTontine", "worthBeside", "(IIII)J"⟩, 12), (⟨"ParrotTontine", "costOf", "(I)J"⟩, 12), (⟨"ParrotTontineModel", "forget", "()V"⟩, 35), (⟨"ParrotTontineModel", "isRead", "()Z"⟩, 35), (⟨"ParrotTontineModel", "nextToken", "()V"⟩, 35), (⟨"ParrotTontineModel", "isClause", "()Z"⟩, 35), (⟨"ParrotTontineModel", "fails", "(I)Z"⟩, 35), (⟨"ParrotTontineModel", "isPotItem", "()Z"⟩, 35), (⟨"ParrotTontineModel", "isNumber", "(I)Z"⟩, 35), (⟨"ParrotTontineModel", "isEnd", "()Z"⟩, 35)]
theorem lw_r1 : ∀ q ∈ lw_privs_1, lw_okq q := List.forall_mem_cons.mpr ⟨lw_p0, List.forall_mem_cons.mpr ⟨lw_p1, List.forall_mem_cons.mpr ⟨lw_p2, List.forall_mem_cons.mpr ⟨lw_p3, List.forall_mem_cons.mpr ⟨lw_p4, List.forall_mem_cons.mpr ⟨lw_p5, List.forall_mem_cons.mpr ⟨lw_p6, List.forall_mem_cons.mpr ⟨lw_p7, List.forall_mem_cons.mpr ⟨lw_p8, List.forall_mem_cons.mpr ⟨lw_p9, List.forall_mem_cons.mpr ⟨lw_p10, List.forall_mem_cons.mpr ⟨lw_p11, List.forall_mem_cons.mpr ⟨lw_p12, List.forall_mem_cons.mpr ⟨lw_p13, List.forall_mem_cons.mpr ⟨lw_p14, List.forall_mem_cons.mpr ⟨lw_p15, fun _ h => absurd h List.not_mem_nil⟩⟩⟩⟩⟩⟩⟩⟩⟩⟩⟩⟩⟩⟩⟩⟩
theorem lw_p16 : lw_okq (⟨"ParrotTontineModel", "isLifeItem", "()Z"⟩, 35) := ⟨⟨by decide +kernel, by decide +kernel⟩, List.mem_of_getElem? (i := 774) (by decide +kernel), List.mem_of_getElem? (i := 932) (by decide +kernel), List.mem_of_getElem? (i := 933) (by decide +kernel)⟩
theorem lw_p17 : lw_okq (⟨"ParrotTontineModel", "isPersonItem", "()Z"⟩, 35) := ⟨⟨by decide +kernel, by decide +kernel⟩, List.mem_of_getElem? (i := 774) (by decide +kernel), List.mem_of_getElem? (i := 936) (by decide +kernel), List.mem_of_getElem? (i := 937) (by decide +kernel)⟩
theorem lw_p18 : lw_okq (⟨"ParrotTontineModel", "pursesOf", "()I"⟩, 35) := ⟨⟨by decide +kernel, by decide +kernel⟩, List.mem_of_getElem? (i := 774) (by decide +kernel), List.mem_of_getElem? (i := 948) (by decide +kernel), List.mem_of_getElem? (i := 949) (by decide +kernel)⟩
theorem lw_p19 : lw_okq (⟨"ParrotTontineModel", "isLife", "(I)Z"⟩, 35) := ⟨⟨by decide +kernel, by decide +kernel⟩, List.mem_of_getElem? (i := 774) (by decide +kernel), List.mem_of_getElem? (i := 956) (by decide +kernel), List.mem_of_getElem? (i := 957) (by decide +kernel)⟩
theorem lw_p20 : lw_okq (⟨"ParrotTontineModel", "isAlive", "(I)Z"⟩, 35) := ⟨⟨by decide +kernel, by decide +kernel⟩, List.mem_of_getElem? (i := 774) (by decide +kernel), List.mem_of_getElem? (i := 961) (by decide +kernel), List.mem_of_getElem? (i := 962) (by decide +kernel)⟩
theorem lw_p21 : lw_okq (⟨"ParrotTontineModel", "chanceBy", "(III)I"⟩, 35) := ⟨⟨by decide +kernel, by decide +kernel⟩, List.mem_of_getElem? (i := 774) (by decide +kernel), List.mem_of_getElem? (i := 968) (by decide +kernel), List.mem_of_getElem? (i := 969) (by decide +kernel)⟩
theorem lw_p22 : lw_okq (⟨"ParrotTontineModel", "isOne", "(I)Z"⟩, 35) := ⟨⟨by decide +kernel, by decide +kernel⟩, List.mem_of_getElem? (i := 774) (by decide +kernel), List.mem_of_getElem? (i := 976) (by decide +kernel), List.mem_of_getElem? (i := 977) (by decide +kernel)⟩
theorem lw_p23 : lw_okq (⟨"ParrotTontineModel", "heldBy", "(I)I"⟩, 35) := ⟨⟨by decide +kernel, by decide +kernel⟩, List.mem_of_getElem? (i := 774) (by decide +kernel), List.mem_of_getElem? (i := 980) (by decide +kernel), List.mem_of_getElem? (i := 981) (by decide +kernel)⟩
theorem lw_p24 : lw_okq (⟨"ParrotTontineModel", "payOf", "(II)I"⟩, 35) := ⟨⟨by decide +kernel, by decide +kernel⟩, List.mem_of_getElem? (i := 774) (by decide +kernel), List.mem_of_getElem? (i := 984) (by decide +kernel), List.mem_of_getElem? (i := 985) (by decide +kernel)⟩
theorem lw_p25 : lw_okq (⟨"ParrotTontineModel", "note", "()V"⟩, 35) := ⟨⟨by decide +kernel, by decide +kernel⟩, List.mem_of_getElem? (i := 774) (by decide +kernel), List.mem_of_getElem? (i := 996) (by decide +kernel), List.mem_of_getElem? (i := 997) (by decide +kernel)⟩
theorem lw_p26 : lw_okq (⟨"ParrotTontineModel", "pay", "()V"⟩, 35) := ⟨⟨by decide +kernel, by decide +kernel⟩, List.mem_of_getElem? (i := 774) (by decide +kernel), List.mem_of_getElem? (i := 1003) (by decide +kernel), List.mem_of_getElem? (i := 1004) (by decide +kernel)⟩
theorem lw_p27 : lw_okq (⟨"ParrotTontineModel", "give", "(II)V"⟩, 35) := ⟨⟨by decide +kernel, by decide +kernel⟩, List.mem_of_getElem? (i := 774) (by decide +kernel), List.mem_of_getElem? (i := 1007) (by decide +kernel), List.mem_of_getElem? (i := 1008) (by decide +kernel)⟩
theorem lw_p28 : lw_okq (⟨"ParrotTontineModel", "does", "(IIII)I"⟩, 35) := ⟨⟨by decide +kernel, by decide +kernel⟩, List.mem_of_getElem? (i := 774) (by decide +kernel), List.mem_of_getElem? (i := 1020) (by decide +kernel), List.mem_of_getElem? (i := 1021) (by decide +kernel)⟩
theorem lw_p29 : lw_okq (⟨"ParrotTontineModel", "draw", "()I"⟩, 35) := ⟨⟨by decide +kernel, by decide +kernel⟩, List.mem_of_getElem? (i := 774) (by decide +kernel), List.mem_of_getElem? (i := 1036) (by decide +kernel), List.mem_of_getElem? (i := 1037) (by decide +kernel)⟩
theorem lw_p30 : lw_okq (⟨"ParrotTontineModel", "worthNow", "(III)I"⟩, 35) := ⟨⟨by decide +kernel, by decide +kernel⟩, List.mem_of_getElem? (i := 774) (by decide +kernel), List.mem_of_getElem? (i := 1052) (by decide +kernel), List.mem_of_getElem? (i := 1053) (by decide +kernel)⟩
theorem lw_p31 : lw_okq (⟨"ParrotTontineModel", "worthBy", "(IIIII)I"⟩, 35) := ⟨⟨by decide +kernel, by decide +kernel⟩, List.mem_of_getElem? (i := 774) (by decide +kernel), List.mem_of_getElem? (i := 1056) (by decide +kernel), List.mem_of_getElem? (i := 1057) (by decide +kernel)⟩
def lw_privs_2 : List (MethodName × Nat) := [(⟨"ParrotTontineModel", "isLifeItem", "()Z"⟩, 35), (⟨"ParrotTontineModel", "isPersonItem", "()Z"⟩, 35), (⟨"ParrotTontineModel", "pursesOf", "()I"⟩, 35), (⟨"ParrotTontineModel", "isLife", "(I)Z"⟩, 35), (⟨"ParrotTontineModel", "isAlive", "(I)Z"⟩, 35), (⟨"ParrotTontineModel", "chanceBy", "(III)I"⟩, 35), (⟨"ParrotTontineModel", "isOne", "(I)Z"⟩, 35), (⟨"ParrotTontineModel", "heldBy", "(I)I"⟩, 35), (⟨"ParrotTontineModel", "payOf", "(II)I"⟩, 35), (⟨"ParrotTontineModel", "note", "()V"⟩, 35), (⟨"ParrotTontineModel", "pay", "()V"⟩, 35), (⟨"ParrotTontineModel", "give", "(II)V"⟩, 35), (⟨"ParrotTontineModel", "does", "(IIII)I"⟩, 35), (⟨"ParrotTontineModel", "draw", "()I"⟩, 35), (⟨"ParrotTontineModel", "worthNow", "(III)I"⟩, 35), (⟨"ParrotTontineModel", "worthBy", "(IIIII)I"⟩, 35)]
theorem lw_r2 : ∀ q ∈ lw_privs_2, lw_okq q := List.forall_mem_cons.mpr ⟨lw_p16, List.forall_mem_cons.mpr ⟨lw_p17, List.forall_mem_cons.mpr ⟨lw_p18, List.forall_mem_cons.mpr ⟨lw_p19, List.forall_mem_cons.mpr ⟨lw_p20, List.forall_mem_cons.mpr ⟨lw_p21, List.forall_mem_cons.mpr ⟨lw_p22, List.forall_mem_cons.mpr ⟨lw_p23, List.forall_mem_cons.mpr ⟨lw_p24, List.forall_mem_cons.mpr ⟨lw_p25, List.forall_mem_cons.mpr ⟨lw_p26, List.forall_mem_cons.mpr ⟨lw_p27, List.forall_mem_cons.mpr ⟨lw_p28, List.forall_mem_cons.mpr ⟨lw_p29, List.forall_mem_cons.mpr ⟨lw_p30, List.forall_mem_cons.mpr ⟨lw_p31, fun _ h => absurd h List.not_mem_nil⟩⟩⟩⟩⟩⟩⟩⟩⟩⟩⟩⟩⟩⟩⟩⟩
theorem lw_p32 : lw_okq (⟨"ParrotTontineModel", "yearFrom", "(IIII)J"⟩, 35) := ⟨⟨by decide +kernel, by decide +kernel⟩, List.mem_of_getElem? (i := 774) (by decide +kernel), List.mem_of_getElem? (i := 1060) (by decide +kernel), List.mem_of_getElem? (i := 1061) (by decide +kernel)⟩
theorem lw_p33 : lw_okq (⟨"ParrotTontineModel", "gainBy", "(III)I"⟩, 35) := ⟨⟨by decide +kernel, by decide +kernel⟩, List.mem_of_getElem? (i := 774) (by decide +kernel), List.mem_of_getElem? (i := 1070) (by decide +kernel), List.mem_of_getElem? (i := 1071) (by decide +kernel)⟩
theorem lw_p34 : lw_okq (⟨"ParrotTontineModel", "layNurses", "(I)Z"⟩, 35) := ⟨⟨by decide +kernel, by decide +kernel⟩, List.mem_of_getElem? (i := 774) (by decide +kernel), List.mem_of_getElem? (i := 1090) (by decide +kernel), List.mem_of_getElem? (i := 1091) (by decide +kernel)⟩
theorem lw_p35 : lw_okq (⟨"ParrotTontineModel", "leastOf", "(I)I"⟩, 35) := ⟨⟨by decide +kernel, by decide +kernel⟩, List.mem_of_getElem? (i := 774) (by decide +kernel), List.mem_of_getElem? (i := 1098) (by decide +kernel), List.mem_of_getElem? (i := 1099) (by decide +kernel)⟩
theorem lw_p36 : lw_okq (⟨"ParrotTontineModel", "playedBy", "(IIIIII)I"⟩, 35) := ⟨⟨by decide +kernel, by decide +kernel⟩, List.mem_of_getElem? (i := 774) (by decide +kernel), List.mem_of_getElem? (i := 1102) (by decide +kernel), List.mem_of_getElem? (i := 1103) (by decide +kernel)⟩
theorem lw_p37 : lw_okq (⟨"ParrotTontineModel", "costOf", "(I)I"⟩, 35) := ⟨⟨by decide +kernel, by decide +kernel⟩, List.mem_of_getElem? (i := 774) (by decide +kernel), List.mem_of_getElem? (i := 1106) (by decide +kernel), List.mem_of_getElem? (i := 1107) (by decide +kernel)⟩
theorem lw_p38 : lw_okq (⟨"ParrotTontineModel", "aliveBehind", "(II)J"⟩, 35) := ⟨⟨by decide +kernel, by decide +kernel⟩, List.mem_of_getElem? (i := 774) (by decide +kernel), List.mem_of_getElem? (i := 1118) (by decide +kernel), List.mem_of_getElem? (i := 1119) (by decide +kernel)⟩
def lw_privs_3 : List (MethodName × Nat) := [(⟨"ParrotTontineModel", "yearFrom", "(IIII)J"⟩, 35), (⟨"ParrotTontineModel", "gainBy", "(III)I"⟩, 35), (⟨"ParrotTontineModel", "layNurses", "(I)Z"⟩, 35), (⟨"ParrotTontineModel", "leastOf", "(I)I"⟩, 35), (⟨"ParrotTontineModel", "playedBy", "(IIIIII)I"⟩, 35), (⟨"ParrotTontineModel", "costOf", "(I)I"⟩, 35), (⟨"ParrotTontineModel", "aliveBehind", "(II)J"⟩, 35)]
theorem lw_r3 : ∀ q ∈ lw_privs_3, lw_okq q := List.forall_mem_cons.mpr ⟨lw_p32, List.forall_mem_cons.mpr ⟨lw_p33, List.forall_mem_cons.mpr ⟨lw_p34, List.forall_mem_cons.mpr ⟨lw_p35, List.forall_mem_cons.mpr ⟨lw_p36, List.forall_mem_cons.mpr ⟨lw_p37, List.forall_mem_cons.mpr ⟨lw_p38, fun _ h => absurd h List.not_mem_nil⟩⟩⟩⟩⟩⟩⟩
def lw_privs : List (MethodName × Nat) := lw_privs_1 ++ (lw_privs_2 ++ (lw_privs_3))
def lw_tbl : List Cond := k2_sels lw_privs ++ tables_1
theorem lw_privs_ok : ∀ q ∈ lw_privs, lw_okq q := by
  show ∀ q ∈ lw_privs_1 ++ (lw_privs_2 ++ (lw_privs_3)), lw_okq q
  exact List.forall_mem_append.mpr ⟨lw_r1, List.forall_mem_append.mpr ⟨lw_r2, lw_r3⟩⟩
def RX0 : String := "ParrotTontine$Book"
def TX0 : u_T := fun k => match k with
  | 0 => ("ParrotTontine$Book", "subscribers", "[I", true)
  | 1 => ("ParrotTontine$Book", "purses", "[I", true)
  | _ => ("ParrotTontine$Book", "count", "I", false)
def tyX0 : Nat → FieldType := fun k => match k with
  | 0 => .array .int
  | 1 => .array .int
  | _ => .int
theorem nmX0 : ∀ a, a < 3 → ∀ b, b < 3 → a ≠ b → (TX0 a).2.1 ≠ (TX0 b).2.1 := by decide +kernel
theorem tyX0_ok : ∀ k, k < 3 → parseFieldDescriptor (TX0 k).2.2.1 = some (tyX0 k) := by decide +kernel
abbrev cX0_init : ByteArray := prog_2_method_1_code
def yX0_init : MethodName := ⟨RX0, "<init>", "()V"⟩
abbrev cX0_size : ByteArray := prog_2_method_2_code
def yX0_size : MethodName := ⟨RX0, "size", "()I"⟩
abbrev cX0_isFull : ByteArray := prog_2_method_3_code
def yX0_isFull : MethodName := ⟨RX0, "isFull", "()Z"⟩
abbrev cX0_enter : ByteArray := prog_2_method_4_code
def yX0_enter : MethodName := ⟨RX0, "enter", "(II)I"⟩
abbrev cX0_tearOut : ByteArray := prog_2_method_5_code
def yX0_tearOut : MethodName := ⟨RX0, "tearOut", "()I"⟩
abbrev cX0_firstWrong : ByteArray := prog_2_method_6_code
def yX0_firstWrong : MethodName := ⟨RX0, "firstWrong", "(LParrotTontine$State;)I"⟩
def RX1 : String := "ParrotTontine$Charter"
def TX1 : u_T := fun k => match k with
  | 0 => ("ParrotTontine$Charter", "hasPot", "Z", false)
  | 1 => ("ParrotTontine$Charter", "pot", "I", false)
  | 2 => ("ParrotTontine$Charter", "tenths", "I", false)
  | 3 => ("ParrotTontine$Charter", "guardCost", "I", false)
  | 4 => ("ParrotTontine$Charter", "harmCost", "I", false)
  | 5 => ("ParrotTontine$Charter", "lives", "I", false)
  | 6 => ("ParrotTontine$Charter", "subscribers", "I", false)
  | 7 => ("ParrotTontine$Charter", "hundredths", "[I", true)
  | 8 => ("ParrotTontine$Charter", "lifeAt", "[I", true)
  | 9 => ("ParrotTontine$Charter", "firstHolder", "[I", true)
  | 10 => ("ParrotTontine$Charter", "firstPurse", "[I", true)
  | _ => ("ParrotTontine$Charter", "subscriberAt", "[I", true)
def tyX1 : Nat → FieldType := fun k => match k with
  | 0 => .boolean
  | 1 => .int
  | 2 => .int
  | 3 => .int
  | 4 => .int
  | 5 => .int
  | 6 => .int
  | 7 => .array .int
  | 8 => .array .int
  | 9 => .array .int
  | 10 => .array .int
  | _ => .array .int
theorem nmX1 : ∀ a, a < 12 → ∀ b, b < 12 → a ≠ b → (TX1 a).2.1 ≠ (TX1 b).2.1 := by decide +kernel
theorem tyX1_ok : ∀ k, k < 12 → parseFieldDescriptor (TX1 k).2.2.1 = some (tyX1 k) := by decide +kernel
abbrev cX1_init : ByteArray := prog_3_method_1_code
def yX1_init : MethodName := ⟨RX1, "<init>", "()V"⟩
abbrev cX1_clear : ByteArray := prog_3_method_2_code
def yX1_clear : MethodName := ⟨RX1, "clear", "()V"⟩
abbrev cX1_hasLife : ByteArray := prog_3_method_3_code
def yX1_hasLife : MethodName := ⟨RX1, "hasLife", "(I)Z"⟩
abbrev cX1_hasSubscriber : ByteArray := prog_3_method_4_code
def yX1_hasSubscriber : MethodName := ⟨RX1, "hasSubscriber", "(I)Z"⟩
abbrev cX1_addLife : ByteArray := prog_3_method_5_code
def yX1_addLife : MethodName := ⟨RX1, "addLife", "(II)V"⟩
abbrev cX1_addSubscriber : ByteArray := prog_3_method_6_code
def yX1_addSubscriber : MethodName := ⟨RX1, "addSubscriber", "(III)V"⟩
abbrev cX1_pay : ByteArray := prog_3_method_7_code
def yX1_pay : MethodName := ⟨RX1, "pay", "(III)I"⟩
def RX2 : String := "ParrotTontine$Contest"
def TX2 : u_T := fun k => match k with
  | 0 => ("ParrotTontine$Contest", "first", "[J", true)
  | _ => ("ParrotTontine$Contest", "other", "[J", true)
def tyX2 : Nat → FieldType := fun k => match k with
  | 0 => .array .long
  | _ => .array .long
theorem nmX2 : ∀ a, a < 2 → ∀ b, b < 2 → a ≠ b → (TX2 a).2.1 ≠ (TX2 b).2.1 := by decide +kernel
theorem tyX2_ok : ∀ k, k < 2 → parseFieldDescriptor (TX2 k).2.2.1 = some (tyX2 k) := by decide +kernel
abbrev cX2_init : ByteArray := prog_4_method_1_code
def yX2_init : MethodName := ⟨RX2, "<init>", "()V"⟩
abbrev cX2_put : ByteArray := prog_4_method_2_code
def yX2_put : MethodName := ⟨RX2, "put", "(IIJJ)V"⟩
abbrev cX2_rests : ByteArray := prog_4_method_3_code
def yX2_rests : MethodName := ⟨RX2, "rests", "(II)Z"⟩
abbrev cX2_restingPairs : ByteArray := prog_4_method_4_code
def yX2_restingPairs : MethodName := ⟨RX2, "restingPairs", "()I"⟩
abbrev cX2_restingPair : ByteArray := prog_4_method_5_code
def yX2_restingPair : MethodName := ⟨RX2, "restingPair", "(I)I"⟩
def RX3 : String := "ParrotTontine$Dice"
def TX3 : u_T := fun k => match k with
  | _ => ("ParrotTontine$Dice", "seed", "I", false)
def tyX3 : Nat → FieldType := fun k => match k with
  | _ => .int
theorem nmX3 : ∀ a, a < 1 → ∀ b, b < 1 → a ≠ b → (TX3 a).2.1 ≠ (TX3 b).2.1 := by decide +kernel
theorem tyX3_ok : ∀ k, k < 1 → parseFieldDescriptor (TX3 k).2.2.1 = some (tyX3 k) := by decide +kernel
abbrev cX3_init : ByteArray := prog_5_method_1_code
def yX3_init : MethodName := ⟨RX3, "<init>", "()V"⟩
abbrev cX3_draw : ByteArray := prog_5_method_2_code
def yX3_draw : MethodName := ⟨RX3, "draw", "(I)I"⟩
def RX4 : String := "ParrotTontine$Images"
def TX4 : u_T := fun k => match k with
  | 0 => ("ParrotTontine$Images", "states", "[LParrotTontine$State;", true)
  | 1 => ("ParrotTontine$Images", "seeds", "[I", true)
  | _ => ("ParrotTontine$Images", "taken", "I", false)
def tyX4 : Nat → FieldType := fun k => match k with
  | 0 => .array (.object "ParrotTontine$State")
  | 1 => .array .int
  | _ => .int
theorem nmX4 : ∀ a, a < 3 → ∀ b, b < 3 → a ≠ b → (TX4 a).2.1 ≠ (TX4 b).2.1 := by decide +kernel
theorem tyX4_ok : ∀ k, k < 3 → parseFieldDescriptor (TX4 k).2.2.1 = some (tyX4 k) := by decide +kernel
abbrev cX4_init : ByteArray := prog_6_method_1_code
def yX4_init : MethodName := ⟨RX4, "<init>", "()V"⟩
abbrev cX4_has : ByteArray := prog_6_method_2_code
def yX4_has : MethodName := ⟨RX4, "has", "(I)Z"⟩
abbrev cX4_isTaken : ByteArray := prog_6_method_3_code
def yX4_isTaken : MethodName := ⟨RX4, "isTaken", "(I)Z"⟩
abbrev cX4_forget : ByteArray := prog_6_method_4_code
def yX4_forget : MethodName := ⟨RX4, "forget", "()V"⟩
abbrev cX4_take : ByteArray := prog_6_method_5_code
def yX4_take : MethodName := ⟨RX4, "take", "(ILParrotTontine$State;LParrotTontine$Dice;)V"⟩
abbrev cX4_giveBack : ByteArray := prog_6_method_6_code
def yX4_giveBack : MethodName := ⟨RX4, "giveBack", "(ILParrotTontine$State;LParrotTontine$Dice;)V"⟩
def RX5 : String := "ParrotTontine$Nursing"
def TX5 : u_T := fun k => match k with
  | 0 => ("ParrotTontine$Nursing", "willing", "[I", true)
  | _ => ("ParrotTontine$Nursing", "chosen", "[I", true)
def tyX5 : Nat → FieldType := fun k => match k with
  | 0 => .array .int
  | _ => .array .int
theorem nmX5 : ∀ a, a < 2 → ∀ b, b < 2 → a ≠ b → (TX5 a).2.1 ≠ (TX5 b).2.1 := by decide +kernel
theorem tyX5_ok : ∀ k, k < 2 → parseFieldDescriptor (TX5 k).2.2.1 = some (tyX5 k) := by decide +kernel
abbrev cX5_init : ByteArray := prog_7_method_1_code
def yX5_init : MethodName := ⟨RX5, "<init>", "()V"⟩
abbrev cX5_clear : ByteArray := prog_7_method_2_code
def yX5_clear : MethodName := ⟨RX5, "clear", "()V"⟩
abbrev cX5_offer : ByteArray := prog_7_method_3_code
def yX5_offer : MethodName := ⟨RX5, "offer", "(II)V"⟩
abbrev cX5_nurseOf : ByteArray := prog_7_method_4_code
def yX5_nurseOf : MethodName := ⟨RX5, "nurseOf", "(II)I"⟩
abbrev cX5_choose : ByteArray := prog_7_method_5_code
def yX5_choose : MethodName := ⟨RX5, "choose", "([I[IIII)Z"⟩
def RX6 : String := "ParrotTontine$Past"
def TX6 : u_T := fun k => match k with
  | 0 => ("ParrotTontine$Past", "states", "[LParrotTontine$State;", true)
  | 1 => ("ParrotTontine$Past", "oldest", "I", false)
  | _ => ("ParrotTontine$Past", "count", "I", false)
def tyX6 : Nat → FieldType := fun k => match k with
  | 0 => .array (.object "ParrotTontine$State")
  | 1 => .int
  | _ => .int
theorem nmX6 : ∀ a, a < 3 → ∀ b, b < 3 → a ≠ b → (TX6 a).2.1 ≠ (TX6 b).2.1 := by decide +kernel
theorem tyX6_ok : ∀ k, k < 3 → parseFieldDescriptor (TX6 k).2.2.1 = some (tyX6 k) := by decide +kernel
abbrev cX6_init : ByteArray := prog_8_method_1_code
def yX6_init : MethodName := ⟨RX6, "<init>", "()V"⟩
abbrev cX6_size : ByteArray := prog_8_method_2_code
def yX6_size : MethodName := ⟨RX6, "size", "()I"⟩
abbrev cX6_forget : ByteArray := prog_8_method_3_code
def yX6_forget : MethodName := ⟨RX6, "forget", "()V"⟩
abbrev cX6_at : ByteArray := prog_8_method_4_code
def yX6_at : MethodName := ⟨RX6, "at", "(I)LParrotTontine$State;"⟩
abbrev cX6_remember : ByteArray := prog_8_method_5_code
def yX6_remember : MethodName := ⟨RX6, "remember", "(LParrotTontine$State;)V"⟩
abbrev cX6_takeLatestInto : ByteArray := prog_8_method_6_code
def yX6_takeLatestInto : MethodName := ⟨RX6, "takeLatestInto", "(LParrotTontine$State;)V"⟩
def RX7 : String := "ParrotTontine$State"
def TX7 : u_T := fun k => match k with
  | 0 => ("ParrotTontine$State", "purse", "[I", true)
  | 1 => ("ParrotTontine$State", "holder", "[I", true)
  | 2 => ("ParrotTontine$State", "alive", "I", false)
  | 3 => ("ParrotTontine$State", "guarded", "I", false)
  | 4 => ("ParrotTontine$State", "harmed", "I", false)
  | _ => ("ParrotTontine$State", "years", "I", false)
def tyX7 : Nat → FieldType := fun k => match k with
  | 0 => .array .int
  | 1 => .array .int
  | 2 => .int
  | 3 => .int
  | 4 => .int
  | _ => .int
theorem nmX7 : ∀ a, a < 6 → ∀ b, b < 6 → a ≠ b → (TX7 a).2.1 ≠ (TX7 b).2.1 := by decide +kernel
theorem tyX7_ok : ∀ k, k < 6 → parseFieldDescriptor (TX7 k).2.2.1 = some (tyX7 k) := by decide +kernel
abbrev cX7_init : ByteArray := prog_9_method_1_code
def yX7_init : MethodName := ⟨RX7, "<init>", "()V"⟩
abbrev cX7_begin : ByteArray := prog_9_method_2_code
def yX7_begin : MethodName := ⟨RX7, "begin", "(LParrotTontine$Charter;)V"⟩
abbrev cX7_copyFrom : ByteArray := prog_9_method_3_code
def yX7_copyFrom : MethodName := ⟨RX7, "copyFrom", "(LParrotTontine$State;)V"⟩
abbrev cX7_isAlive : ByteArray := prog_9_method_4_code
def yX7_isAlive : MethodName := ⟨RX7, "isAlive", "(I)Z"⟩
abbrev cX7_heldBy : ByteArray := prog_9_method_5_code
def yX7_heldBy : MethodName := ⟨RX7, "heldBy", "(I)I"⟩
abbrev cX7_heldByAny : ByteArray := prog_9_method_6_code
def yX7_heldByAny : MethodName := ⟨RX7, "heldByAny", "()I"⟩
abbrev cX7_pursesOfAll : ByteArray := prog_9_method_7_code
def yX7_pursesOfAll : MethodName := ⟨RX7, "pursesOfAll", "()I"⟩
abbrev cX7_receive : ByteArray := prog_9_method_8_code
def yX7_receive : MethodName := ⟨RX7, "receive", "(II)V"⟩
def RX8 : String := "ParrotTontine$Text"
def TX8 : u_T := fun k => match k with
  | 0 => ("ParrotTontine$Text", "letters", "[I", true)
  | 1 => ("ParrotTontine$Text", "count", "I", false)
  | 2 => ("ParrotTontine$Text", "place", "I", false)
  | 3 => ("ParrotTontine$Text", "faultKind", "I", false)
  | _ => ("ParrotTontine$Text", "faultAt", "I", false)
def tyX8 : Nat → FieldType := fun k => match k with
  | 0 => .array .int
  | 1 => .int
  | 2 => .int
  | 3 => .int
  | _ => .int
theorem nmX8 : ∀ a, a < 5 → ∀ b, b < 5 → a ≠ b → (TX8 a).2.1 ≠ (TX8 b).2.1 := by decide +kernel
theorem tyX8_ok : ∀ k, k < 5 → parseFieldDescriptor (TX8 k).2.2.1 = some (tyX8 k) := by decide +kernel
abbrev cX8_init : ByteArray := prog_10_method_1_code
def yX8_init : MethodName := ⟨RX8, "<init>", "()V"⟩
abbrev cX8_length : ByteArray := prog_10_method_2_code
def yX8_length : MethodName := ⟨RX8, "length", "()I"⟩
abbrev cX8_isFull : ByteArray := prog_10_method_3_code
def yX8_isFull : MethodName := ⟨RX8, "isFull", "()Z"⟩
abbrev cX8_append : ByteArray := prog_10_method_4_code
def yX8_append : MethodName := ⟨RX8, "append", "(I)I"⟩
abbrev cX8_empty : ByteArray := prog_10_method_5_code
def yX8_empty : MethodName := ⟨RX8, "empty", "()V"⟩
abbrev cX8_placeOfFault : ByteArray := prog_10_method_6_code
def yX8_placeOfFault : MethodName := ⟨RX8, "placeOfFault", "()I"⟩
abbrev cX8_readInto : ByteArray := prog_10_method_7_code
def yX8_readInto : MethodName := ⟨RX8, "readInto", "(LParrotTontine$Charter;)I"⟩
abbrev cX8_readClause : ByteArray := prog_10_method_8_code
def yX8_readClause : MethodName := ⟨RX8, "readClause", "(LParrotTontine$Charter;)V"⟩
abbrev cX8_readPot : ByteArray := prog_10_method_9_code
def yX8_readPot : MethodName := ⟨RX8, "readPot", "(LParrotTontine$Charter;I)V"⟩
abbrev cX8_readLife : ByteArray := prog_10_method_10_code
def yX8_readLife : MethodName := ⟨RX8, "readLife", "(LParrotTontine$Charter;)V"⟩
abbrev cX8_readSubscriber : ByteArray := prog_10_method_11_code
def yX8_readSubscriber : MethodName := ⟨RX8, "readSubscriber", "(LParrotTontine$Charter;)V"⟩
abbrev cX8_readNumber : ByteArray := prog_10_method_12_code
def yX8_readNumber : MethodName := ⟨RX8, "readNumber", "(I)I"⟩
abbrev cX8_readEndOfClause : ByteArray := prog_10_method_13_code
def yX8_readEndOfClause : MethodName := ⟨RX8, "readEndOfClause", "()V"⟩
abbrev cX8_skipBlanks : ByteArray := prog_10_method_14_code
def yX8_skipBlanks : MethodName := ⟨RX8, "skipBlanks", "()V"⟩
abbrev cX8_letterHere : ByteArray := prog_10_method_15_code
def yX8_letterHere : MethodName := ⟨RX8, "letterHere", "()I"⟩
abbrev cX8_isFigure : ByteArray := prog_10_method_16_code
def yX8_isFigure : MethodName := ⟨RX8, "isFigure", "(I)Z"⟩
abbrev cX8_noteFault : ByteArray := prog_10_method_17_code
def yX8_noteFault : MethodName := ⟨RX8, "noteFault", "(II)V"⟩
def RX9 : String := "ParrotTontine$Trial"
def TX9 : u_T := fun k => match k with
  | 0 => ("ParrotTontine$Trial", "his", "I", false)
  | 1 => ("ParrotTontine$Trial", "held", "I", false)
  | 2 => ("ParrotTontine$Trial", "guarded", "I", false)
  | 3 => ("ParrotTontine$Trial", "harmed", "I", false)
  | 4 => ("ParrotTontine$Trial", "tenths", "I", false)
  | 5 => ("ParrotTontine$Trial", "sets", "I", false)
  | 6 => ("ParrotTontine$Trial", "pays", "[J", true)
  | _ => ("ParrotTontine$Trial", "worths", "[J", true)
def tyX9 : Nat → FieldType := fun k => match k with
  | 0 => .int
  | 1 => .int
  | 2 => .int
  | 3 => .int
  | 4 => .int
  | 5 => .int
  | 6 => .array .long
  | _ => .array .long
theorem nmX9 : ∀ a, a < 8 → ∀ b, b < 8 → a ≠ b → (TX9 a).2.1 ≠ (TX9 b).2.1 := by decide +kernel
theorem tyX9_ok : ∀ k, k < 8 → parseFieldDescriptor (TX9 k).2.2.1 = some (tyX9 k) := by decide +kernel
abbrev cX9_init : ByteArray := prog_11_method_1_code
def yX9_init : MethodName := ⟨RX9, "<init>", "()V"⟩
abbrev cX9_asNow : ByteArray := prog_11_method_2_code
def yX9_asNow : MethodName := ⟨RX9, "asNow", "(LParrotTontine$Charter;LParrotTontine$State;I)V"⟩
abbrev cX9_letGo : ByteArray := prog_11_method_3_code
def yX9_letGo : MethodName := ⟨RX9, "letGo", "(I)V"⟩
abbrev cX9_look : ByteArray := prog_11_method_4_code
def yX9_look : MethodName := ⟨RX9, "look", "(LParrotTontine$Charter;I)V"⟩
abbrev cX9_lookOneYear : ByteArray := prog_11_method_5_code
def yX9_lookOneYear : MethodName := ⟨RX9, "lookOneYear", "(LParrotTontine$Charter;II)V"⟩
abbrev cX9_weigh : ByteArray := prog_11_method_6_code
def yX9_weigh : MethodName := ⟨RX9, "weigh", "(II)V"⟩
abbrev cX9_wholeOf : ByteArray := prog_11_method_7_code
def yX9_wholeOf : MethodName := ⟨RX9, "wholeOf", "(I)J"⟩
abbrev cX9_worthWith : ByteArray := prog_11_method_8_code
def yX9_worthWith : MethodName := ⟨RX9, "worthWith", "(I)J"⟩
abbrev cX9_gainBy : ByteArray := prog_11_method_9_code
def yX9_gainBy : MethodName := ⟨RX9, "gainBy", "(II)J"⟩
abbrev cX9_deathsThatGain : ByteArray := prog_11_method_10_code
def yX9_deathsThatGain : MethodName := ⟨RX9, "deathsThatGain", "(II)I"⟩
def RX10 : String := "ParrotTontine"
def TX10 : u_T := fun k => match k with
  | 0 => ("ParrotTontine", "text", "LParrotTontine$Text;", true)
  | 1 => ("ParrotTontine", "charter", "LParrotTontine$Charter;", false)
  | 2 => ("ParrotTontine", "draft", "LParrotTontine$Charter;", false)
  | 3 => ("ParrotTontine", "now", "LParrotTontine$State;", true)
  | 4 => ("ParrotTontine", "past", "LParrotTontine$Past;", true)
  | 5 => ("ParrotTontine", "images", "LParrotTontine$Images;", true)
  | 6 => ("ParrotTontine", "book", "LParrotTontine$Book;", true)
  | 7 => ("ParrotTontine", "dice", "LParrotTontine$Dice;", true)
  | 8 => ("ParrotTontine", "trial", "LParrotTontine$Trial;", true)
  | 9 => ("ParrotTontine", "nursing", "LParrotTontine$Nursing;", true)
  | 10 => ("ParrotTontine", "contest", "LParrotTontine$Contest;", true)
  | _ => ("ParrotTontine", "faultPlace", "I", false)
def tyX10 : Nat → FieldType := fun k => match k with
  | 0 => .object "ParrotTontine$Text"
  | 1 => .object "ParrotTontine$Charter"
  | 2 => .object "ParrotTontine$Charter"
  | 3 => .object "ParrotTontine$State"
  | 4 => .object "ParrotTontine$Past"
  | 5 => .object "ParrotTontine$Images"
  | 6 => .object "ParrotTontine$Book"
  | 7 => .object "ParrotTontine$Dice"
  | 8 => .object "ParrotTontine$Trial"
  | 9 => .object "ParrotTontine$Nursing"
  | 10 => .object "ParrotTontine$Contest"
  | _ => .int
theorem nmX10 : ∀ a, a < 12 → ∀ b, b < 12 → a ≠ b → (TX10 a).2.1 ≠ (TX10 b).2.1 := by decide +kernel
theorem tyX10_ok : ∀ k, k < 12 → parseFieldDescriptor (TX10 k).2.2.1 = some (tyX10 k) := by decide +kernel
abbrev cX10_init : ByteArray := prog_1_method_1_code
def yX10_init : MethodName := ⟨RX10, "<init>", "()V"⟩
abbrev cX10_feed : ByteArray := prog_1_method_2_code
def yX10_feed : MethodName := ⟨RX10, "feed", "(I)I"⟩
abbrev cX10_tontine : ByteArray := prog_1_method_3_code
def yX10_tontine : MethodName := ⟨RX10, "tontine", "()I"⟩
abbrev cX10_fault : ByteArray := prog_1_method_4_code
def yX10_fault : MethodName := ⟨RX10, "fault", "()I"⟩
abbrev cX10_told : ByteArray := prog_1_method_5_code
def yX10_told : MethodName := ⟨RX10, "told", "(I)I"⟩
abbrev cX10_life : ByteArray := prog_1_method_6_code
def yX10_life : MethodName := ⟨RX10, "life", "(II)I"⟩
abbrev cX10_subscriber : ByteArray := prog_1_method_7_code
def yX10_subscriber : MethodName := ⟨RX10, "subscriber", "(II)I"⟩
abbrev cX10_year : ByteArray := prog_1_method_8_code
def yX10_year : MethodName := ⟨RX10, "year", "(I)I"⟩
abbrev cX10_died : ByteArray := prog_1_method_9_code
def yX10_died : MethodName := ⟨RX10, "died", "(I)I"⟩
abbrev cX10_guard : ByteArray := prog_1_method_10_code
def yX10_guard : MethodName := ⟨RX10, "guard", "(II)I"⟩
abbrev cX10_harm : ByteArray := prog_1_method_11_code
def yX10_harm : MethodName := ⟨RX10, "harm", "(II)I"⟩
abbrev cX10_sell : ByteArray := prog_1_method_12_code
def yX10_sell : MethodName := ⟨RX10, "sell", "(III)I"⟩
abbrev cX10_drift : ByteArray := prog_1_method_13_code
def yX10_drift : MethodName := ⟨RX10, "drift", "(I)I"⟩
abbrev cX10_undo : ByteArray := prog_1_method_14_code
def yX10_undo : MethodName := ⟨RX10, "undo", "()I"⟩
abbrev cX10_worth : ByteArray := prog_1_method_15_code
def yX10_worth : MethodName := ⟨RX10, "worth", "(II)I"⟩
abbrev cX10_gain : ByteArray := prog_1_method_16_code
def yX10_gain : MethodName := ⟨RX10, "gain", "(III)I"⟩
abbrev cX10_gainers : ByteArray := prog_1_method_17_code
def yX10_gainers : MethodName := ⟨RX10, "gainers", "(I)I"⟩
abbrev cX10_terms : ByteArray := prog_1_method_18_code
def yX10_terms : MethodName := ⟨RX10, "terms", "(I)I"⟩
abbrev cX10_who : ByteArray := prog_1_method_19_code
def yX10_who : MethodName := ⟨RX10, "who", "(II)I"⟩
abbrev cX10_nurse : ByteArray := prog_1_method_20_code
def yX10_nurse : MethodName := ⟨RX10, "nurse", "(II)I"⟩
abbrev cX10_game : ByteArray := prog_1_method_21_code
def yX10_game : MethodName := ⟨RX10, "game", "(IIII)I"⟩
abbrev cX10_fair : ByteArray := prog_1_method_22_code
def yX10_fair : MethodName := ⟨RX10, "fair", "(II)I"⟩
abbrev cX10_outlives : ByteArray := prog_1_method_23_code
def yX10_outlives : MethodName := ⟨RX10, "outlives", "(III)I"⟩
abbrev cX10_write : ByteArray := prog_1_method_24_code
def yX10_write : MethodName := ⟨RX10, "write", "(II)I"⟩
abbrev cX10_tear : ByteArray := prog_1_method_25_code
def yX10_tear : MethodName := ⟨RX10, "tear", "()I"⟩
abbrev cX10_judge : ByteArray := prog_1_method_26_code
def yX10_judge : MethodName := ⟨RX10, "judge", "()I"⟩
abbrev cX10_seed : ByteArray := prog_1_method_27_code
def yX10_seed : MethodName := ⟨RX10, "seed", "(I)I"⟩
abbrev cX10_keep : ByteArray := prog_1_method_28_code
def yX10_keep : MethodName := ⟨RX10, "keep", "(I)I"⟩
abbrev cX10_goBack : ByteArray := prog_1_method_29_code
def yX10_goBack : MethodName := ⟨RX10, "goBack", "(I)I"⟩
abbrev cX10_isIn : ByteArray := prog_1_method_30_code
def yX10_isIn : MethodName := ⟨RX10, "isIn", "(II)Z"⟩
abbrev cX10_leastOf : ByteArray := prog_1_method_31_code
def yX10_leastOf : MethodName := ⟨RX10, "leastOf", "(I)I"⟩
abbrev cX10_mayBeTried : ByteArray := prog_1_method_32_code
def yX10_mayBeTried : MethodName := ⟨RX10, "mayBeTried", "(I)Z"⟩
abbrev cX10_chance : ByteArray := prog_1_method_33_code
def yX10_chance : MethodName := ⟨RX10, "chance", "(IZZ)I"⟩
abbrev cX10_chanceNow : ByteArray := prog_1_method_34_code
def yX10_chanceNow : MethodName := ⟨RX10, "chanceNow", "(I)I"⟩
abbrev cX10_payNow : ByteArray := prog_1_method_35_code
def yX10_payNow : MethodName := ⟨RX10, "payNow", "(I)I"⟩
abbrev cX10_refusalOfYears : ByteArray := prog_1_method_36_code
def yX10_refusalOfYears : MethodName := ⟨RX10, "refusalOfYears", "(I)I"⟩
abbrev cX10_passYear : ByteArray := prog_1_method_37_code
def yX10_passYear : MethodName := ⟨RX10, "passYear", "()V"⟩
abbrev cX10_drawDeaths : ByteArray := prog_1_method_38_code
def yX10_drawDeaths : MethodName := ⟨RX10, "drawDeaths", "()V"⟩
abbrev cX10_somebodyGains : ByteArray := prog_1_method_39_code
def yX10_somebodyGains : MethodName := ⟨RX10, "somebodyGains", "(II)Z"⟩
abbrev cX10_guardedBy : ByteArray := prog_1_method_40_code
def yX10_guardedBy : MethodName := ⟨RX10, "guardedBy", "(II)I"⟩
abbrev cX10_harmedBy : ByteArray := prog_1_method_41_code
def yX10_harmedBy : MethodName := ⟨RX10, "harmedBy", "(II)I"⟩
abbrev cX10_costOf : ByteArray := prog_1_method_42_code
def yX10_costOf : MethodName := ⟨RX10, "costOf", "(I)J"⟩
abbrev cX10_worthBeside : ByteArray := prog_1_method_43_code
def yX10_worthBeside : MethodName := ⟨RX10, "worthBeside", "(IIII)J"⟩
abbrev cX10_oddsToLive : ByteArray := prog_1_method_44_code
def yX10_oddsToLive : MethodName := ⟨RX10, "oddsToLive", "(II)J"⟩
def RX11 : String := "ParrotTontineModel"
def TX11 : u_T := fun k => match k with
  | 0 => ("ParrotTontineModel", "letters", "I", false)
  | 1 => ("ParrotTontineModel", "text", "[I", true)
  | 2 => ("ParrotTontineModel", "position", "I", false)
  | 3 => ("ParrotTontineModel", "tokenAt", "I", false)
  | 4 => ("ParrotTontineModel", "token", "I", false)
  | 5 => ("ParrotTontineModel", "number", "I", false)
  | 6 => ("ParrotTontineModel", "figures", "I", false)
  | 7 => ("ParrotTontineModel", "faultAt", "I", false)
  | 8 => ("ParrotTontineModel", "faultIs", "I", false)
  | 9 => ("ParrotTontineModel", "hasPot", "Z", false)
  | 10 => ("ParrotTontineModel", "readLives", "I", false)
  | 11 => ("ParrotTontineModel", "readPeople", "I", false)
  | 12 => ("ParrotTontineModel", "readTerm", "[I", true)
  | 13 => ("ParrotTontineModel", "readLife", "[I", true)
  | 14 => ("ParrotTontineModel", "readPerson", "[I", true)
  | 15 => ("ParrotTontineModel", "isPot", "Z", false)
  | 16 => ("ParrotTontineModel", "lives", "I", false)
  | 17 => ("ParrotTontineModel", "people", "I", false)
  | 18 => ("ParrotTontineModel", "term", "[I", true)
  | 19 => ("ParrotTontineModel", "odds", "[I", true)
  | 20 => ("ParrotTontineModel", "lifeAt", "[I", true)
  | 21 => ("ParrotTontineModel", "personAt", "[I", true)
  | 22 => ("ParrotTontineModel", "now", "[I", true)
  | 23 => ("ParrotTontineModel", "backOf", "[I", true)
  | 24 => ("ParrotTontineModel", "backs", "I", false)
  | 25 => ("ParrotTontineModel", "image", "[I", true)
  | 26 => ("ParrotTontineModel", "imageSeed", "[I", true)
  | 27 => ("ParrotTontineModel", "isKept", "[Z", true)
  | 28 => ("ParrotTontineModel", "seed", "I", false)
  | 29 => ("ParrotTontineModel", "entries", "I", false)
  | 30 => ("ParrotTontineModel", "entry", "[I", true)
  | 31 => ("ParrotTontineModel", "worthOf", "[J", true)
  | 32 => ("ParrotTontineModel", "before", "[J", true)
  | 33 => ("ParrotTontineModel", "nurses", "[I", true)
  | _ => ("ParrotTontineModel", "rests", "[I", true)
def tyX11 : Nat → FieldType := fun k => match k with
  | 0 => .int
  | 1 => .array .int
  | 2 => .int
  | 3 => .int
  | 4 => .int
  | 5 => .int
  | 6 => .int
  | 7 => .int
  | 8 => .int
  | 9 => .boolean
  | 10 => .int
  | 11 => .int
  | 12 => .array .int
  | 13 => .array .int
  | 14 => .array .int
  | 15 => .boolean
  | 16 => .int
  | 17 => .int
  | 18 => .array .int
  | 19 => .array .int
  | 20 => .array .int
  | 21 => .array .int
  | 22 => .array .int
  | 23 => .array .int
  | 24 => .int
  | 25 => .array .int
  | 26 => .array .int
  | 27 => .array .boolean
  | 28 => .int
  | 29 => .int
  | 30 => .array .int
  | 31 => .array .long
  | 32 => .array .long
  | 33 => .array .int
  | _ => .array .int
theorem nmX11 : ∀ a, a < 35 → ∀ b, b < 35 → a ≠ b → (TX11 a).2.1 ≠ (TX11 b).2.1 := by decide +kernel
theorem tyX11_ok : ∀ k, k < 35 → parseFieldDescriptor (TX11 k).2.2.1 = some (tyX11 k) := by decide +kernel
abbrev cX11_init : ByteArray := prog_13_method_1_code
def yX11_init : MethodName := ⟨RX11, "<init>", "()V"⟩
abbrev cX11_forget : ByteArray := prog_13_method_2_code
def yX11_forget : MethodName := ⟨RX11, "forget", "()V"⟩
abbrev cX11_in : ByteArray := prog_13_method_3_code
def yX11_in : MethodName := ⟨RX11, "in", "(III)Z"⟩
abbrev cX11_has : ByteArray := prog_13_method_4_code
def yX11_has : MethodName := ⟨RX11, "has", "(II)Z"⟩
abbrev cX11_bits : ByteArray := prog_13_method_5_code
def yX11_bits : MethodName := ⟨RX11, "bits", "(I)I"⟩
abbrev cX11_isLife : ByteArray := prog_13_method_6_code
def yX11_isLife : MethodName := ⟨RX11, "isLife", "(I)Z"⟩
abbrev cX11_isOne : ByteArray := prog_13_method_7_code
def yX11_isOne : MethodName := ⟨RX11, "isOne", "(I)Z"⟩
abbrev cX11_isAlive : ByteArray := prog_13_method_8_code
def yX11_isAlive : MethodName := ⟨RX11, "isAlive", "(I)Z"⟩
abbrev cX11_feed : ByteArray := prog_13_method_9_code
def yX11_feed : MethodName := ⟨RX11, "feed", "(I)I"⟩
abbrev cX11_nextToken : ByteArray := prog_13_method_10_code
def yX11_nextToken : MethodName := ⟨RX11, "nextToken", "()V"⟩
abbrev cX11_fails : ByteArray := prog_13_method_11_code
def yX11_fails : MethodName := ⟨RX11, "fails", "(I)Z"⟩
abbrev cX11_isNumber : ByteArray := prog_13_method_12_code
def yX11_isNumber : MethodName := ⟨RX11, "isNumber", "(I)Z"⟩
abbrev cX11_isEnd : ByteArray := prog_13_method_13_code
def yX11_isEnd : MethodName := ⟨RX11, "isEnd", "()Z"⟩
abbrev cX11_isPotItem : ByteArray := prog_13_method_14_code
def yX11_isPotItem : MethodName := ⟨RX11, "isPotItem", "()Z"⟩
abbrev cX11_isLifeItem : ByteArray := prog_13_method_15_code
def yX11_isLifeItem : MethodName := ⟨RX11, "isLifeItem", "()Z"⟩
abbrev cX11_isPersonItem : ByteArray := prog_13_method_16_code
def yX11_isPersonItem : MethodName := ⟨RX11, "isPersonItem", "()Z"⟩
abbrev cX11_isClause : ByteArray := prog_13_method_17_code
def yX11_isClause : MethodName := ⟨RX11, "isClause", "()Z"⟩
abbrev cX11_isRead : ByteArray := prog_13_method_18_code
def yX11_isRead : MethodName := ⟨RX11, "isRead", "()Z"⟩
abbrev cX11_tontine : ByteArray := prog_13_method_19_code
def yX11_tontine : MethodName := ⟨RX11, "tontine", "()I"⟩
abbrev cX11_fault : ByteArray := prog_13_method_20_code
def yX11_fault : MethodName := ⟨RX11, "fault", "()I"⟩
abbrev cX11_pursesOf : ByteArray := prog_13_method_21_code
def yX11_pursesOf : MethodName := ⟨RX11, "pursesOf", "()I"⟩
abbrev cX11_told : ByteArray := prog_13_method_22_code
def yX11_told : MethodName := ⟨RX11, "told", "(I)I"⟩
abbrev cX11_chanceBy : ByteArray := prog_13_method_23_code
def yX11_chanceBy : MethodName := ⟨RX11, "chanceBy", "(III)I"⟩
abbrev cX11_life : ByteArray := prog_13_method_24_code
def yX11_life : MethodName := ⟨RX11, "life", "(II)I"⟩
abbrev cX11_heldBy : ByteArray := prog_13_method_25_code
def yX11_heldBy : MethodName := ⟨RX11, "heldBy", "(I)I"⟩
abbrev cX11_payOf : ByteArray := prog_13_method_26_code
def yX11_payOf : MethodName := ⟨RX11, "payOf", "(II)I"⟩
abbrev cX11_subscriber : ByteArray := prog_13_method_27_code
def yX11_subscriber : MethodName := ⟨RX11, "subscriber", "(II)I"⟩
abbrev cX11_copy : ByteArray := prog_13_method_28_code
def yX11_copy : MethodName := ⟨RX11, "copy", "([II[II)V"⟩
abbrev cX11_note : ByteArray := prog_13_method_29_code
def yX11_note : MethodName := ⟨RX11, "note", "()V"⟩
abbrev cX11_give : ByteArray := prog_13_method_30_code
def yX11_give : MethodName := ⟨RX11, "give", "(II)V"⟩
abbrev cX11_pay : ByteArray := prog_13_method_31_code
def yX11_pay : MethodName := ⟨RX11, "pay", "()V"⟩
abbrev cX11_year : ByteArray := prog_13_method_32_code
def yX11_year : MethodName := ⟨RX11, "year", "(I)I"⟩
abbrev cX11_died : ByteArray := prog_13_method_33_code
def yX11_died : MethodName := ⟨RX11, "died", "(I)I"⟩
abbrev cX11_does : ByteArray := prog_13_method_34_code
def yX11_does : MethodName := ⟨RX11, "does", "(IIII)I"⟩
abbrev cX11_guard : ByteArray := prog_13_method_35_code
def yX11_guard : MethodName := ⟨RX11, "guard", "(II)I"⟩
abbrev cX11_harm : ByteArray := prog_13_method_36_code
def yX11_harm : MethodName := ⟨RX11, "harm", "(II)I"⟩
abbrev cX11_sell : ByteArray := prog_13_method_37_code
def yX11_sell : MethodName := ⟨RX11, "sell", "(III)I"⟩
abbrev cX11_draw : ByteArray := prog_13_method_38_code
def yX11_draw : MethodName := ⟨RX11, "draw", "()I"⟩
abbrev cX11_drift : ByteArray := prog_13_method_39_code
def yX11_drift : MethodName := ⟨RX11, "drift", "(I)I"⟩
abbrev cX11_undo : ByteArray := prog_13_method_40_code
def yX11_undo : MethodName := ⟨RX11, "undo", "()I"⟩
abbrev cX11_yearFrom : ByteArray := prog_13_method_41_code
def yX11_yearFrom : MethodName := ⟨RX11, "yearFrom", "(IIII)J"⟩
abbrev cX11_worthBy : ByteArray := prog_13_method_42_code
def yX11_worthBy : MethodName := ⟨RX11, "worthBy", "(IIIII)I"⟩
abbrev cX11_worthNow : ByteArray := prog_13_method_43_code
def yX11_worthNow : MethodName := ⟨RX11, "worthNow", "(III)I"⟩
abbrev cX11_worth : ByteArray := prog_13_method_44_code
def yX11_worth : MethodName := ⟨RX11, "worth", "(II)I"⟩
abbrev cX11_gainBy : ByteArray := prog_13_method_45_code
def yX11_gainBy : MethodName := ⟨RX11, "gainBy", "(III)I"⟩
abbrev cX11_gain : ByteArray := prog_13_method_46_code
def yX11_gain : MethodName := ⟨RX11, "gain", "(III)I"⟩
abbrev cX11_gainers : ByteArray := prog_13_method_47_code
def yX11_gainers : MethodName := ⟨RX11, "gainers", "(I)I"⟩
abbrev cX11_terms : ByteArray := prog_13_method_48_code
def yX11_terms : MethodName := ⟨RX11, "terms", "(I)I"⟩
abbrev cX11_who : ByteArray := prog_13_method_49_code
def yX11_who : MethodName := ⟨RX11, "who", "(II)I"⟩
abbrev cX11_layNurses : ByteArray := prog_13_method_50_code
def yX11_layNurses : MethodName := ⟨RX11, "layNurses", "(I)Z"⟩
abbrev cX11_nurse : ByteArray := prog_13_method_51_code
def yX11_nurse : MethodName := ⟨RX11, "nurse", "(II)I"⟩
abbrev cX11_leastOf : ByteArray := prog_13_method_52_code
def yX11_leastOf : MethodName := ⟨RX11, "leastOf", "(I)I"⟩
abbrev cX11_playedBy : ByteArray := prog_13_method_53_code
def yX11_playedBy : MethodName := ⟨RX11, "playedBy", "(IIIIII)I"⟩
abbrev cX11_costOf : ByteArray := prog_13_method_54_code
def yX11_costOf : MethodName := ⟨RX11, "costOf", "(I)I"⟩
abbrev cX11_game : ByteArray := prog_13_method_55_code
def yX11_game : MethodName := ⟨RX11, "game", "(IIII)I"⟩
abbrev cX11_fair : ByteArray := prog_13_method_56_code
def yX11_fair : MethodName := ⟨RX11, "fair", "(II)I"⟩
abbrev cX11_aliveBehind : ByteArray := prog_13_method_57_code
def yX11_aliveBehind : MethodName := ⟨RX11, "aliveBehind", "(II)J"⟩
abbrev cX11_outlives : ByteArray := prog_13_method_58_code
def yX11_outlives : MethodName := ⟨RX11, "outlives", "(III)I"⟩
abbrev cX11_write : ByteArray := prog_13_method_59_code
def yX11_write : MethodName := ⟨RX11, "write", "(II)I"⟩
abbrev cX11_tear : ByteArray := prog_13_method_60_code
def yX11_tear : MethodName := ⟨RX11, "tear", "()I"⟩
abbrev cX11_judge : ByteArray := prog_13_method_61_code
def yX11_judge : MethodName := ⟨RX11, "judge", "()I"⟩
abbrev cX11_seed : ByteArray := prog_13_method_62_code
def yX11_seed : MethodName := ⟨RX11, "seed", "(I)I"⟩
abbrev cX11_keep : ByteArray := prog_13_method_63_code
def yX11_keep : MethodName := ⟨RX11, "keep", "(I)I"⟩
abbrev cX11_goBack : ByteArray := prog_13_method_64_code
def yX11_goBack : MethodName := ⟨RX11, "goBack", "(I)I"⟩
def RJ6 : String := "java/lang/Integer"
def TJ6 : u_T := fun k => match k with
  | _ => ("", "", "", false)
def tyJ6 : Nat → FieldType := fun k => match k with
  | _ => .int
abbrev cJ6_bitCount_0f7a4 : ByteArray := prog_14_method_49_code
def yJ6_bitCount_0f7a4 : MethodName := ⟨RJ6, "bitCount", "(I)I"⟩
def RJ9 : String := "java/lang/Math"
def TJ9 : u_T := fun k => match k with
  | _ => ("", "", "", false)
def tyJ9 : Nat → FieldType := fun k => match k with
  | _ => .int
abbrev cJ9_floorMod_7cf53 : ByteArray := prog_15_method_50_code
def yJ9_floorMod_7cf53 : MethodName := ⟨RJ9, "floorMod", "(II)I"⟩
abbrev cJ9_abs_0f7a4 : ByteArray := prog_15_method_59_code
def yJ9_abs_0f7a4 : MethodName := ⟨RJ9, "abs", "(I)I"⟩
abbrev cJ9_min_7cf53 : ByteArray := prog_15_method_69_code
def yJ9_min_7cf53 : MethodName := ⟨RJ9, "min", "(II)I"⟩
def RJ10 : String := "java/lang/System"
def TJ10 : u_T := fun k => match k with
  | _ => ("", "", "", false)
def tyJ10 : Nat → FieldType := fun k => match k with
  | _ => .int
def RL : String := "ParrotTontineLaw"
