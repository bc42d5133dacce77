section
-- ===== PART A: goes FIRST, ahead of the names: the tables' words, and 'selects' of the private methods out of them =====
/-- a private method of a class that the tables say can be made, by its rows of tables_1 -/
def lw_okq (q : MethodName × Nat) : Prop := (q.1.cls ≠ "java/lang/invoke/MethodHandle" ∧ q.1.cls ≠ "java/lang/invoke/VarHandle") ∧ Cond.instantiable q.1.cls q.2 ∈ tables_1 ∧ Cond.privateMethod q.1 ∈ tables_1 ∧ Cond.instanceMethod q.1 ∈ tables_1
theorem lw_p0 : lw_okq (⟨"RuleChoice", "needKind", "(I)V"⟩, 10) := ⟨⟨by decide +kernel, by decide +kernel⟩, List.mem_of_getElem? (i := 15) (by decide +kernel), List.mem_of_getElem? (i := 190) (by decide +kernel), List.mem_of_getElem? (i := 191) (by decide +kernel)⟩
theorem lw_p1 : lw_okq (⟨"java/lang/Throwable", "fillInStackTrace", "(I)Ljava/lang/Throwable;"⟩, 6) := ⟨⟨by decide +kernel, by decide +kernel⟩, List.mem_of_getElem? (i := 231) (by decide +kernel), List.mem_of_getElem? (i := 229) (by decide +kernel), List.mem_of_getElem? (i := 230) (by decide +kernel)⟩
theorem lw_p2 : lw_okq (⟨"RuleChoice", "needClassOrNone", "(I)V"⟩, 10) := ⟨⟨by decide +kernel, by decide +kernel⟩, List.mem_of_getElem? (i := 15) (by decide +kernel), List.mem_of_getElem? (i := 261) (by decide +kernel), List.mem_of_getElem? (i := 262) (by decide +kernel)⟩
theorem lw_p3 : lw_okq (⟨"RuleChoice", "needClass", "(I)V"⟩, 10) := ⟨⟨by decide +kernel, by decide +kernel⟩, List.mem_of_getElem? (i := 15) (by decide +kernel), List.mem_of_getElem? (i := 265) (by decide +kernel), List.mem_of_getElem? (i := 266) (by decide +kernel)⟩
theorem lw_p4 : lw_okq (⟨"RuleChoice", "needLayerOrNone", "(I)V"⟩, 10) := ⟨⟨by decide +kernel, by decide +kernel⟩, List.mem_of_getElem? (i := 15) (by decide +kernel), List.mem_of_getElem? (i := 270) (by decide +kernel), List.mem_of_getElem? (i := 271) (by decide +kernel)⟩
theorem lw_p5 : lw_okq (⟨"RuleChoice", "needLayer", "(I)V"⟩, 10) := ⟨⟨by decide +kernel, by decide +kernel⟩, List.mem_of_getElem? (i := 15) (by decide +kernel), List.mem_of_getElem? (i := 274) (by decide +kernel), List.mem_of_getElem? (i := 275) (by decide +kernel)⟩
theorem lw_p6 : lw_okq (⟨"RuleChoice", "needValue", "(J)V"⟩, 10) := ⟨⟨by decide +kernel, by decide +kernel⟩, List.mem_of_getElem? (i := 15) (by decide +kernel), List.mem_of_getElem? (i := 279) (by decide +kernel), List.mem_of_getElem? (i := 280) (by decide +kernel)⟩
theorem lw_p7 : lw_okq (⟨"RuleChoice$Answers", "drop", "(I)V"⟩, 2) := ⟨⟨by decide +kernel, by decide +kernel⟩, List.mem_of_getElem? (i := 105) (by decide +kernel), List.mem_of_getElem? (i := 308) (by decide +kernel), List.mem_of_getElem? (i := 309) (by decide +kernel)⟩
theorem lw_p8 : lw_okq (⟨"RuleChoice", "needRule", "(I)V"⟩, 10) := ⟨⟨by decide +kernel, by decide +kernel⟩, List.mem_of_getElem? (i := 15) (by decide +kernel), List.mem_of_getElem? (i := 319) (by decide +kernel), List.mem_of_getElem? (i := 320) (by decide +kernel)⟩
theorem lw_p9 : lw_okq (⟨"RuleChoice", "needRank", "(I)V"⟩, 10) := ⟨⟨by decide +kernel, by decide +kernel⟩, List.mem_of_getElem? (i := 15) (by decide +kernel), List.mem_of_getElem? (i := 324) (by decide +kernel), List.mem_of_getElem? (i := 325) (by decide +kernel)⟩
theorem lw_p10 : lw_okq (⟨"RuleChoice", "needPlace", "(JJ)V"⟩, 10) := ⟨⟨by decide +kernel, by decide +kernel⟩, List.mem_of_getElem? (i := 15) (by decide +kernel), List.mem_of_getElem? (i := 336) (by decide +kernel), List.mem_of_getElem? (i := 337) (by decide +kernel)⟩
theorem lw_p11 : lw_okq (⟨"RuleChoice", "needUnturned", "(JJJJ)V"⟩, 10) := ⟨⟨by decide +kernel, by decide +kernel⟩, List.mem_of_getElem? (i := 15) (by decide +kernel), List.mem_of_getElem? (i := 342) (by decide +kernel), List.mem_of_getElem? (i := 343) (by decide +kernel)⟩
theorem lw_p12 : lw_okq (⟨"RuleChoice", "needAreaOrNone", "(I)V"⟩, 10) := ⟨⟨by decide +kernel, by decide +kernel⟩, List.mem_of_getElem? (i := 15) (by decide +kernel), List.mem_of_getElem? (i := 358) (by decide +kernel), List.mem_of_getElem? (i := 359) (by decide +kernel)⟩
theorem lw_p13 : lw_okq (⟨"RuleChoice", "needThing", "(I)V"⟩, 10) := ⟨⟨by decide +kernel, by decide +kernel⟩, List.mem_of_getElem? (i := 15) (by decide +kernel), List.mem_of_getElem? (i := 385) (by decide +kernel), List.mem_of_getElem? (i := 386) (by decide +kernel)⟩
theorem lw_p14 : lw_okq (⟨"RuleChoice", "areasAround", "(JJ)I"⟩, 10) := ⟨⟨by decide +kernel, by decide +kernel⟩, List.mem_of_getElem? (i := 15) (by decide +kernel), List.mem_of_getElem? (i := 406) (by decide +kernel), List.mem_of_getElem? (i := 407) (by decide +kernel)⟩
theorem lw_p15 : lw_okq (⟨"RuleChoice", "needKindAndThings", "(III)V"⟩, 10) := ⟨⟨by decide +kernel, by decide +kernel⟩, List.mem_of_getElem? (i := 15) (by decide +kernel), List.mem_of_getElem? (i := 421) (by decide +kernel), List.mem_of_getElem? (i := 422) (by decide +kernel)⟩
def lw_privs_1 : List (MethodName × Nat) := [(⟨"RuleChoice", "needKind", "(I)V"⟩, 10), (⟨"java/lang/Throwable", "fillInStackTrace", "(I)Ljava/lang/Throwable;"⟩, 6), (⟨"RuleChoice", "needClassOrNone", "(I)V"⟩, 10), (⟨"RuleChoice", "needClass", "(I)V"⟩, 10), (⟨"RuleChoice", "needLayerOrNone", "(I)V"⟩, 10), (⟨"RuleChoice", "needLayer", "(I)V"⟩, 10), (⟨"RuleChoice", "needValue", "(J)V"⟩, 10), (⟨"RuleChoice$Answers", "drop", "(I)V"⟩, 2), (⟨"RuleChoice", "needRule", "(I)V"⟩, 10), (⟨"RuleChoice", "needRank", "(I)V"⟩, 10), (⟨"RuleChoice", "needPlace", "(JJ)V"⟩, 10), (⟨"RuleChoice", "needUnturned", "(JJJJ)V"⟩, 10), (⟨"RuleChoice", "needAreaOrNone", "(I)V"⟩, 10), (⟨"RuleChoice", "needThing", "(I)V"⟩, 10), (⟨"RuleChoice", "areasAround", "(JJ)I"⟩, 10), (⟨"RuleChoice", "needKindAndThings", "(III)V"⟩, 10)]
theorem lw_r1 : ∀ q ∈ lw_privs_1, lw_okq q := List.forall_mem_cons.mpr ⟨lw_p0, List.forall_mem_cons.mpr ⟨lw_p1, List.forall_mem_cons.mpr ⟨lw_p2, List.forall_mem_cons.mpr ⟨lw_p3, List.forall_mem_cons.mpr ⟨lw_p4, List.forall_mem_cons.mpr ⟨lw_p5, List.forall_mem_cons.mpr ⟨lw_p6, List.forall_mem_cons.mpr ⟨lw_p7, List.forall_mem_cons.mpr ⟨lw_p8, List.forall_mem_cons.mpr ⟨lw_p9, List.forall_mem_cons.mpr ⟨lw_p10, List.forall_mem_cons.mpr ⟨lw_p11, List.forall_mem_cons.mpr ⟨lw_p12, List.forall_mem_cons.mpr ⟨lw_p13, List.forall_mem_cons.mpr ⟨lw_p14, List.forall_mem_cons.mpr ⟨lw_p15, fun _ h => absurd h List.not_mem_nil⟩⟩⟩⟩⟩⟩⟩⟩⟩⟩⟩⟩⟩⟩⟩⟩
theorem lw_p16 : lw_okq (⟨"RuleChoice", "keptWinner", "(III)I"⟩, 10) := ⟨⟨by decide +kernel, by decide +kernel⟩, List.mem_of_getElem? (i := 15) (by decide +kernel), List.mem_of_getElem? (i := 425) (by decide +kernel), List.mem_of_getElem? (i := 426) (by decide +kernel)⟩
theorem lw_p17 : lw_okq (⟨"RuleChoice", "bestBelow", "(IILRuleChoice$Thing;LRuleChoice$Thing;)I"⟩, 10) := ⟨⟨by decide +kernel, by decide +kernel⟩, List.mem_of_getElem? (i := 15) (by decide +kernel), List.mem_of_getElem? (i := 437) (by decide +kernel), List.mem_of_getElem? (i := 438) (by decide +kernel)⟩
theorem lw_p18 : lw_okq (⟨"RuleChoice", "beats", "(II)Z"⟩, 10) := ⟨⟨by decide +kernel, by decide +kernel⟩, List.mem_of_getElem? (i := 15) (by decide +kernel), List.mem_of_getElem? (i := 441) (by decide +kernel), List.mem_of_getElem? (i := 442) (by decide +kernel)⟩
theorem lw_p19 : lw_okq (⟨"RuleChoice", "hindrance", "(LRuleChoice$Rule;ILRuleChoice$Thing;LRuleChoice$Thing;)I"⟩, 10) := ⟨⟨by decide +kernel, by decide +kernel⟩, List.mem_of_getElem? (i := 15) (by decide +kernel), List.mem_of_getElem? (i := 445) (by decide +kernel), List.mem_of_getElem? (i := 446) (by decide +kernel)⟩
theorem lw_p20 : lw_okq (⟨"RuleChoice", "valueOf", "(I)J"⟩, 10) := ⟨⟨by decide +kernel, by decide +kernel⟩, List.mem_of_getElem? (i := 15) (by decide +kernel), List.mem_of_getElem? (i := 471) (by decide +kernel), List.mem_of_getElem? (i := 472) (by decide +kernel)⟩
theorem lw_p21 : lw_okq (⟨"RuleChoice", "areTooNear", "(ILRuleChoice$Thing;LRuleChoice$Thing;)Z"⟩, 10) := ⟨⟨by decide +kernel, by decide +kernel⟩, List.mem_of_getElem? (i := 15) (by decide +kernel), List.mem_of_getElem? (i := 511) (by decide +kernel), List.mem_of_getElem? (i := 512) (by decide +kernel)⟩
theorem lw_p22 : lw_okq (⟨"RuleChoice", "needSide", "(I)V"⟩, 10) := ⟨⟨by decide +kernel, by decide +kernel⟩, List.mem_of_getElem? (i := 15) (by decide +kernel), List.mem_of_getElem? (i := 526) (by decide +kernel), List.mem_of_getElem? (i := 527) (by decide +kernel)⟩
theorem lw_p23 : lw_okq (⟨"RuleChoiceModel", "isClass", "(I)Z"⟩, 22) := ⟨⟨by decide +kernel, by decide +kernel⟩, List.mem_of_getElem? (i := 531) (by decide +kernel), List.mem_of_getElem? (i := 617) (by decide +kernel), List.mem_of_getElem? (i := 618) (by decide +kernel)⟩
theorem lw_p24 : lw_okq (⟨"RuleChoiceModel", "dropKind", "(I)V"⟩, 22) := ⟨⟨by decide +kernel, by decide +kernel⟩, List.mem_of_getElem? (i := 531) (by decide +kernel), List.mem_of_getElem? (i := 625) (by decide +kernel), List.mem_of_getElem? (i := 626) (by decide +kernel)⟩
theorem lw_p25 : lw_okq (⟨"RuleChoiceModel", "isRule", "(I)Z"⟩, 22) := ⟨⟨by decide +kernel, by decide +kernel⟩, List.mem_of_getElem? (i := 531) (by decide +kernel), List.mem_of_getElem? (i := 633) (by decide +kernel), List.mem_of_getElem? (i := 634) (by decide +kernel)⟩
theorem lw_p26 : lw_okq (⟨"RuleChoiceModel", "isThing", "(I)Z"⟩, 22) := ⟨⟨by decide +kernel, by decide +kernel⟩, List.mem_of_getElem? (i := 531) (by decide +kernel), List.mem_of_getElem? (i := 657) (by decide +kernel), List.mem_of_getElem? (i := 658) (by decide +kernel)⟩
theorem lw_p27 : lw_okq (⟨"RuleChoiceModel", "dropThing", "(I)V"⟩, 22) := ⟨⟨by decide +kernel, by decide +kernel⟩, List.mem_of_getElem? (i := 531) (by decide +kernel), List.mem_of_getElem? (i := 661) (by decide +kernel), List.mem_of_getElem? (i := 662) (by decide +kernel)⟩
theorem lw_p28 : lw_okq (⟨"RuleChoiceModel", "areasOf", "(I)I"⟩, 22) := ⟨⟨by decide +kernel, by decide +kernel⟩, List.mem_of_getElem? (i := 531) (by decide +kernel), List.mem_of_getElem? (i := 669) (by decide +kernel), List.mem_of_getElem? (i := 670) (by decide +kernel)⟩
theorem lw_p29 : lw_okq (⟨"RuleChoiceModel", "lies", "(II)Z"⟩, 22) := ⟨⟨by decide +kernel, by decide +kernel⟩, List.mem_of_getElem? (i := 531) (by decide +kernel), List.mem_of_getElem? (i := 673) (by decide +kernel), List.mem_of_getElem? (i := 674) (by decide +kernel)⟩
theorem lw_p30 : lw_okq (⟨"RuleChoiceModel", "isAsked", "(III)Z"⟩, 22) := ⟨⟨by decide +kernel, by decide +kernel⟩, List.mem_of_getElem? (i := 531) (by decide +kernel), List.mem_of_getElem? (i := 681) (by decide +kernel), List.mem_of_getElem? (i := 682) (by decide +kernel)⟩
theorem lw_p31 : lw_okq (⟨"RuleChoiceModel", "keep", "(III)V"⟩, 22) := ⟨⟨by decide +kernel, by decide +kernel⟩, List.mem_of_getElem? (i := 531) (by decide +kernel), List.mem_of_getElem? (i := 685) (by decide +kernel), List.mem_of_getElem? (i := 686) (by decide +kernel)⟩
def lw_privs_2 : List (MethodName × Nat) := [(⟨"RuleChoice", "keptWinner", "(III)I"⟩, 10), (⟨"RuleChoice", "bestBelow", "(IILRuleChoice$Thing;LRuleChoice$Thing;)I"⟩, 10), (⟨"RuleChoice", "beats", "(II)Z"⟩, 10), (⟨"RuleChoice", "hindrance", "(LRuleChoice$Rule;ILRuleChoice$Thing;LRuleChoice$Thing;)I"⟩, 10), (⟨"RuleChoice", "valueOf", "(I)J"⟩, 10), (⟨"RuleChoice", "areTooNear", "(ILRuleChoice$Thing;LRuleChoice$Thing;)Z"⟩, 10), (⟨"RuleChoice", "needSide", "(I)V"⟩, 10), (⟨"RuleChoiceModel", "isClass", "(I)Z"⟩, 22), (⟨"RuleChoiceModel", "dropKind", "(I)V"⟩, 22), (⟨"RuleChoiceModel", "isRule", "(I)Z"⟩, 22), (⟨"RuleChoiceModel", "isThing", "(I)Z"⟩, 22), (⟨"RuleChoiceModel", "dropThing", "(I)V"⟩, 22), (⟨"RuleChoiceModel", "areasOf", "(I)I"⟩, 22), (⟨"RuleChoiceModel", "lies", "(II)Z"⟩, 22), (⟨"RuleChoiceModel", "isAsked", "(III)Z"⟩, 22), (⟨"RuleChoiceModel", "keep", "(III)V"⟩, 22)]
theorem lw_r2 : ∀ q ∈ lw_privs_2, lw_okq q := List.forall_mem_cons.mpr ⟨lw_p16, List.forall_mem_cons.mpr ⟨lw_p17, List.forall_mem_cons.mpr ⟨lw_p18, List.forall_mem_cons.mpr ⟨lw_p19, List.forall_mem_cons.mpr ⟨lw_p20, List.forall_mem_cons.mpr ⟨lw_p21, List.forall_mem_cons.mpr ⟨lw_p22, List.forall_mem_cons.mpr ⟨lw_p23, List.forall_mem_cons.mpr ⟨lw_p24, List.forall_mem_cons.mpr ⟨lw_p25, List.forall_mem_cons.mpr ⟨lw_p26, List.forall_mem_cons.mpr ⟨lw_p27, List.forall_mem_cons.mpr ⟨lw_p28, List.forall_mem_cons.mpr ⟨lw_p29, List.forall_mem_cons.mpr ⟨lw_p30, List.forall_mem_cons.mpr ⟨lw_p31, fun _ h => absurd h List.not_mem_nil⟩⟩⟩⟩⟩⟩⟩⟩⟩⟩⟩⟩⟩⟩⟩⟩
theorem lw_p32 : lw_okq (⟨"RuleChoiceModel", "best", "(III)I"⟩, 22) := ⟨⟨by decide +kernel, by decide +kernel⟩, List.mem_of_getElem? (i := 531) (by decide +kernel), List.mem_of_getElem? (i := 689) (by decide +kernel), List.mem_of_getElem? (i := 690) (by decide +kernel)⟩
theorem lw_p33 : lw_okq (⟨"RuleChoiceModel", "matches", "(IIII)Z"⟩, 22) := ⟨⟨by decide +kernel, by decide +kernel⟩, List.mem_of_getElem? (i := 531) (by decide +kernel), List.mem_of_getElem? (i := 693) (by decide +kernel), List.mem_of_getElem? (i := 694) (by decide +kernel)⟩
theorem lw_p34 : lw_okq (⟨"RuleChoiceModel", "haveClasses", "(III)Z"⟩, 22) := ⟨⟨by decide +kernel, by decide +kernel⟩, List.mem_of_getElem? (i := 531) (by decide +kernel), List.mem_of_getElem? (i := 697) (by decide +kernel), List.mem_of_getElem? (i := 698) (by decide +kernel)⟩
theorem lw_p35 : lw_okq (⟨"RuleChoiceModel", "haveLayer", "(III)Z"⟩, 22) := ⟨⟨by decide +kernel, by decide +kernel⟩, List.mem_of_getElem? (i := 531) (by decide +kernel), List.mem_of_getElem? (i := 704) (by decide +kernel), List.mem_of_getElem? (i := 705) (by decide +kernel)⟩
theorem lw_p36 : lw_okq (⟨"RuleChoiceModel", "lieWithin", "(III)Z"⟩, 22) := ⟨⟨by decide +kernel, by decide +kernel⟩, List.mem_of_getElem? (i := 531) (by decide +kernel), List.mem_of_getElem? (i := 708) (by decide +kernel), List.mem_of_getElem? (i := 709) (by decide +kernel)⟩
theorem lw_p37 : lw_okq (⟨"RuleChoiceModel", "isAhead", "(II)Z"⟩, 22) := ⟨⟨by decide +kernel, by decide +kernel⟩, List.mem_of_getElem? (i := 531) (by decide +kernel), List.mem_of_getElem? (i := 712) (by decide +kernel), List.mem_of_getElem? (i := 713) (by decide +kernel)⟩
theorem lw_p38 : lw_okq (⟨"RuleChoiceModel", "isClose", "(III)Z"⟩, 22) := ⟨⟨by decide +kernel, by decide +kernel⟩, List.mem_of_getElem? (i := 531) (by decide +kernel), List.mem_of_getElem? (i := 737) (by decide +kernel), List.mem_of_getElem? (i := 738) (by decide +kernel)⟩
def lw_privs_3 : List (MethodName × Nat) := [(⟨"RuleChoiceModel", "best", "(III)I"⟩, 22), (⟨"RuleChoiceModel", "matches", "(IIII)Z"⟩, 22), (⟨"RuleChoiceModel", "haveClasses", "(III)Z"⟩, 22), (⟨"RuleChoiceModel", "haveLayer", "(III)Z"⟩, 22), (⟨"RuleChoiceModel", "lieWithin", "(III)Z"⟩, 22), (⟨"RuleChoiceModel", "isAhead", "(II)Z"⟩, 22), (⟨"RuleChoiceModel", "isClose", "(III)Z"⟩, 22)]
theorem lw_r3 : ∀ q ∈ lw_privs_3, lw_okq q := List.forall_mem_cons.mpr ⟨lw_p32, List.forall_mem_cons.mpr ⟨lw_p33, List.forall_mem_cons.mpr ⟨lw_p34, List.forall_mem_cons.mpr ⟨lw_p35, List.forall_mem_cons.mpr ⟨lw_p36, List.forall_mem_cons.mpr ⟨lw_p37, List.forall_mem_cons.mpr ⟨lw_p38, fun _ h => absurd h List.not_mem_nil⟩⟩⟩⟩⟩⟩⟩
def lw_privs : List (MethodName × Nat) := lw_privs_1 ++ (lw_privs_2 ++ (lw_privs_3))
def lw_tbl : List Cond := k2_sels lw_privs ++ tables_1
theorem lw_privs_ok : ∀ q ∈ lw_privs, lw_okq q := by
  show ∀ q ∈ lw_privs_1 ++ (lw_privs_2 ++ (lw_privs_3)), lw_okq q
  exact List.forall_mem_append.mpr ⟨lw_r1, List.forall_mem_append.mpr ⟨lw_r2, lw_r3⟩⟩

/-- the words that every method here is given: the tables' good ones -/
def TB : List Cond := lw_tbl.filter goodWord
theorem tb_of {w : Cond} (h : w ∈ lw_tbl) (g : goodWord w = true) : w ∈ TB := List.mem_filter.mpr ⟨h, g⟩
theorem tb_at {w : Cond} (i : Nat) (h : tables_1[i]? = some w) (g : goodWord w = true) : w ∈ TB := tb_of (List.mem_append_right _ (List.mem_of_getElem? h)) g
theorem tb_sel {q : MethodName × Nat} (h : q ∈ lw_privs) (g : goodWord (Cond.selects q.1.cls q.1 q.1) = true) : Cond.selects q.1.cls q.1 q.1 ∈ TB := tb_of (List.mem_append_left _ (List.mem_map.mpr ⟨q, h, rfl⟩)) g
theorem tb_good {w : Cond} (h : w ∈ TB) : w ∈ TB ∧ ((w.onTables && w.keeps) = true ∨ ∃ ty, w = .arrayClass ty) := ⟨h, good_of_word (List.mem_filter.mp h).2⟩
/-- a call's words -/
theorem tb_V {own C : String} {idx : Nat} {y : MethodName} {k : Cond} (h1 : Cond.methodLink own idx y ∈ TB) (h2 : Cond.instanceMethod y ∈ TB) (h3 : Cond.selects C y y ∈ TB) (h4 : Cond.initialized C ∈ TB) (h5 : k ∈ TB) : GoodIn TB (wsV own idx C y (k :: TB)) := by
  intro w hw
  simp only [wsV, List.mem_append, List.mem_cons, List.not_mem_nil, or_false] at hw
  rcases hw with (rfl | rfl | rfl | rfl) | rfl | h
  · exact tb_good h1
  · exact tb_good h2
  · exact tb_good h3
  · exact tb_good h4
  · exact tb_good h5
  · exact tb_good h
theorem tb_S {own : String} {idx : Nat} {y : MethodName} {k : Cond} (h1 : Cond.methodLink own idx y ∈ TB) (h2 : Cond.static y ∈ TB) (h4 : Cond.initialized y.cls ∈ TB) (h5 : k ∈ TB) : GoodIn TB (va_wsS own idx y (k :: TB)) := by
  intro w hw
  simp only [va_wsS, List.mem_append, List.mem_cons, List.not_mem_nil, or_false] at hw
  rcases hw with (rfl | rfl | rfl) | rfl | h
  · exact tb_good h1
  · exact tb_good h2
  · exact tb_good h4
  · exact tb_good h5
  · exact tb_good h
theorem tb_I {k : Cond} (h5 : k ∈ TB) : GoodIn TB (k :: TB) := by
  intro w hw
  rcases List.mem_cons.mp hw with rfl | h
  · exact tb_good h5
  · exact tb_good h
end
section
/-! ===== BEGIN exceptions that leave a method, and their catching by the caller (launches without stack traces) ===== -/
section VXA
/-! The laws vx_back, vx_callV, vx_callS, vx_callSW, vx_throw0, vx_throwS follow proofs of the library, with one case more: JvmDerived/Free/Laws.lean (Back.of_free), Shelf42/LK1.lean (callV, callS), Shelf/KitTraced.lean (throwNew0V, throwNewS). -/
/-- where a method has thrown q: the class by its name, the cell, what was written, the world -/
def vx_T (XC : String → State → State → Prop) (st : State) (q : Addr) (t : State) (mc ms : Nat) (free : Addr → Prop) : Prop :=
  ∃ (E : String) (ce : Cell) (L : List Loc), XC E st t ∧ t.heap[q]? = some ce ∧ ce.vm = .none ∧ st.vm.findClass E = some ce.cls ∧ st.WarmedH t.vm ∧ st.sameButNew ({ t with vm := st.vm } : State) L mc ms ∧ ∀ z ∈ L, free z.base
def vx_Q (Qc : Array Value → State → Outcome → State → Prop) (XC : String → State → State → Prop) (mc ms : Nat) (free : Addr → Prop) : Array Value → State → Outcome → State → Prop := fun a st o t =>
  (Qc a st o t ∧ ∃ L, FrameEnd st o t L mc ms ∧ ∀ q ∈ L, free q.base) ∨ ∃ q, o = .threw q ∧ vx_T XC st q t mc ms free
/-- a callee that returns or throws -/
def vx_Met (l : Launch) (y : MethodName) (ws : List Cond) (rm : Room) (Pc : Array Value → State → Prop) (Qc : Array Value → State → Outcome → State → Prop) (XC : String → State → State → Prop) (mc ms : Nat) (free : Addr → Prop) : Prop :=
  MetFree l y (headSpec ws rm) Pc (fun _ _ _ _ _ => True) (vx_Q Qc XC mc ms free)
def vx_Post (XC : String → State → State → Prop) (mc ms : Nat) (free : Addr → Prop) : Pt → Array Value → Addr → Pt → Prop := fun A a q B =>
  ∃ (g : JFrame) (mk : MethodId) (t : State) (L : List Loc) (E : String) (ce : Cell), B.U.heap = t.heap ∧ B.U.vm = t.vm ∧ XC E (A.U.calling g mk a) t ∧ t.heap[q]? = some ce ∧ ce.vm = .none ∧ A.U.vm.findClass E = some ce.cls ∧ B.locs = A.locs ++ L ∧ (∀ z ∈ L, free z.base) ∧ B.cells = A.cells + mc ∧ B.slots = A.slots + ms
def vx_Back (l : Launch) (R : Room) (p : Program) (e : Env) (below : List Frame) (s : State) (sargs : Array Value) (y : MethodName) (len W9 : Nat)
    (Pre : Pt → Array Value → Prop) (Post : Pt → Array Value → Option Value → Pt → Prop) (PostX : Pt → Array Value → Addr → Pt → Prop) : Prop :=
  ∀ (m : MethodId) (meth : Method) (c : Code) (A : Pt) (g : JFrame) (ig : Instr) (mk : MethodId) (a : Array Value),
    Stand p l e R s m sargs below meth c A.U A.locs A.cells A.slots → g.method = m → g.locals.size = c.maxLocals → decode c.code g.pc = .ok (ig, len) →
    2 * g.monitorRoom + (g.stack.map fun v => v.category).sum ≤ W9 → A.U.methodNamed? y = some mk → Pre A a →
    (∃ (v : Option Value) (B : Pt), Stand p l e R s m sargs below meth c B.U B.locs B.cells B.slots ∧ Post A a v B ∧
      Steps p.tables e below (doInvoke e (A.U.setTop g) [] mk a).1 (B.U.setTop { g with pc := g.pc + len, stack := v.toList ++ g.stack })) ∨
    (∃ (q : Addr) (B : Pt), Stand p l e R s m sargs below meth c B.U B.locs B.cells B.slots ∧ PostX A a q B ∧
      Steps p.tables e below (doInvoke e (A.U.setTop g) [] mk a).1 ((B.U.setTop g).pushFrame (.throwing q)))
section Payer
variable {l : Launch} {R : Room} {p : Program} {e : Env} {below : List Frame} {s : State} {sargs : Array Value} {y : MethodName} {len W9 : Nat}
theorem vx_back {ws : List Cond} {rm : Room} {Pc : Array Value → State → Prop} {Qc : Array Value → State → Outcome → State → Prop} {XC : String → State → State → Prop} {mc ms : Nat} {free : Addr → Prop} {bytes : ByteArray} {maxL : Nat} {ret : Option FieldType}
    (hM : vx_Met l y ws rm Pc Qc XC mc ms free) (hblind : FrameBlind Pc) (hrc : rm.cells = mc) (hrs : rm.slots = ms)
    (hframes : rm.frames + 1 ≤ R.frames) (hlocals : W9 + (maxL + 11) + rm.locals ≤ R.locals)
    (hws : ∀ w ∈ ws, ∀ a' U, s.WarmedH U.vm → w.before a' U = true) (hcode : Cond.code y bytes maxL ret ∈ ws) (hinit : ∀ a' U, s.WarmedH U.vm → (Cond.initialized y.cls).before a' U = true) :
    vx_Back l R p e below s sargs y len W9 (PreOf R mc ms Pc) (PostOf Qc mc ms free) (vx_Post XC mc ms free) := by
  intro m meth c A g ig mk a X hg hsize hdg hW hn hp
  have h1 : (headSpec ws rm).pre.before a A.U = true := atoms_intro fun w hw => hws w hw _ _ X.warmed
  have h2 : (Cond.code y bytes maxL ret).before a A.U = true := hws _ hcode _ _ X.warmed
  have h3 : (Cond.initialized y.cls).before a A.U = true := hinit _ _ X.warmed
  have h4 : A.cells + (headSpec ws rm).room.cells ≤ R.cells := by rw [show (headSpec ws rm).room.cells = mc from hrc]; exact hp.1
  have h5 : A.slots + (headSpec ws rm).room.slots ≤ R.slots := by rw [show (headSpec ws rm).room.slots = ms from hrs]; exact hp.2.1
  have hPc : Pc a (A.U.calling g mk a) := hblind _ _ _ _ hp.2.2
  obtain ⟨U, Ls, c0, s0⟩ := A
  dsimp only [Pt.U, Pt.locs, Pt.cells, Pt.slots] at h1 h2 h3 h4 h5 X hn hPc ⊢
  obtain ⟨methY, cY, hmY, hcY, -, hlY, -, -, -, -⟩ := Cond.code_spec hn h2
  obtain ⟨kY, hkY, -⟩ := className_of_methodNamed hn
  have hinitY : kY.init = .initialized := Cond.initialized_spec (findClass_of_methodNamed hn) hkY h3
  have h : At U g.method c below := by rw [hg]; exact X.here
  have hlocals9 : W9 + (maxL + 11) + (headSpec ws rm).room.locals ≤ R.locals := hlocals
  have happ : (headSpec ws rm).appliesLoose y e.platform (U.calling g mk a) = true :=
    Spec.appliesLoose_calling (g := g) h hdg hn hkY hinitY
      (X.room_calling (g := g) (R' := (headSpec ws rm).room) hsize hmY hcY hframes (by rw [hlY]; omega) h4 h5) h1
  obtain ⟨mid, hmid⟩ := h.above
  have hfr : (U.setTop g).frames = (.java g :: mid) ++ below := by rw [State.frames_setTop' g h.top, hmid]; rfl
  obtain ⟨o, s₂, hsteps, -, hend, hq⟩ := Steps.callFree hM p X.admits X.cas X.clock (acts := []) hfr happ hPc trivial
  have hq' : vx_Q Qc XC mc ms free a (U.calling g mk a) o s₂ := hq
  rw [State.frames_setTop' g h.top] at hend
  obtain ⟨g₀, hg0⟩ := Option.isSome_iff_exists.mp h.top
  obtain ⟨r, hr⟩ := State.topJava?_eq_some.mp hg0
  have hr' : (({ U with heap := s₂.heap, slotsUsed := s₂.slotsUsed } : State).setVm s₂.vm).frames = .java g₀ :: r := hr
  rcases hq' with ⟨hqc, L, hfe, hL⟩ | ⟨q, rfl, E, ce, L, hx, hce, hcv, hcl, hW₂, hsm, hL⟩
  · obtain ⟨⟨v, rfl⟩, hW₂, e2, q2, q3, q4, q5, q6⟩ := id hfe
    have e3 : s₂ = ({ (U.calling g mk a).setFrames s₂.frames with heap := s₂.heap, slotsUsed := s₂.slotsUsed } : State).setVm s₂.vm := by
      have : s₂ = ({ s₂ with vm := (U.calling g mk a).vm } : State).setVm s₂.vm := rfl
      rw [e2] at this
      exact this
    obtain ⟨c₂, i₂, len₂, hc₂, hd₂, hf₂⟩ := hend
    have hW' : U.WarmedH s₂.vm := hW₂
    have hcc : c₂ = c := by
      have h1 : s₂.code? g.method = U.code? g.method := by
        rw [State.code?_eq, State.code?_eq, hW'.alike.method?]
      exact Option.some.inj (hc₂.symm.trans (h1.trans h.code))
    subst hcc
    have hlen : len₂ = len := by rw [hdg] at hd₂; cases hd₂; rfl
    subst hlen
    have hs₂ : s₂ = (({ U with heap := s₂.heap, slotsUsed := s₂.slotsUsed } : State).setVm s₂.vm).setTop { g with pc := g.pc + len₂, stack := v.toList ++ g.stack } := by
      refine e3.trans ?_
      rw [hf₂, State.calling_eq h.top, State.setFrames_setFrames, State.setTop_of_frames _ hr', hr]
      rfl
    have hsame : U.sameButNew ({ U with heap := s₂.heap, slotsUsed := s₂.slotsUsed } : State) L mc ms := by
      refine ⟨?_, q2, q3, q4, q5, q6⟩
      obtain ⟨t, ht, -⟩ := State.frames_cons hr
      show ({ U with heap := s₂.heap, slotsUsed := s₂.slotsUsed } : State) = { U.setFrames U.frames with heap := s₂.heap, slotsUsed := s₂.slotsUsed }
      rw [State.setFrames_self ht]
    subst hg
    refine Or.inl ⟨v, ⟨(({ U with heap := s₂.heap, slotsUsed := s₂.slotsUsed } : State).setVm s₂.vm), Ls ++ L, c0 + mc, s0 + ms⟩,
      ⟨X.admits, X.cas, X.clock, X.frames, X.room, X.hears, X.method, X.code, (X.here.setHeapUsed s₂.heap s₂.slotsUsed).setVm hW'.alike, X.tail, State.WarmedH.trans X.warmed hW', X.limits, X.bytes, X.same.trans (hsame.setVm s.vm)⟩,
      ⟨g, mk, s₂, L, rfl, rfl, hqc, rfl, hL, rfl, rfl⟩, ?_⟩
    show Steps p.tables e below _ ((({ U with heap := s₂.heap, slotsUsed := s₂.slotsUsed } : State).setVm s₂.vm).setTop { g with pc := g.pc + len₂, stack := v.toList ++ g.stack })
    rw [← hs₂]
    exact hsteps
  · obtain ⟨e2, q2, q3, q4, q5, q6⟩ := id hsm
    have e3 : s₂ = ({ (U.calling g mk a).setFrames s₂.frames with heap := s₂.heap, slotsUsed := s₂.slotsUsed } : State).setVm s₂.vm := by
      have : s₂ = ({ s₂ with vm := (U.calling g mk a).vm } : State).setVm s₂.vm := rfl
      rw [e2] at this
      exact this
    have hf₂ : s₂.frames = .throwing q :: .java g :: U.frames.tail := hend
    have hW' : U.WarmedH s₂.vm := hW₂
    have hs₂ : s₂ = ((({ U with heap := s₂.heap, slotsUsed := s₂.slotsUsed } : State).setVm s₂.vm).setTop g).pushFrame (.throwing q) := by
      refine e3.trans ?_
      rw [hf₂, State.calling_eq h.top, State.setFrames_setFrames, State.pushFrame, State.frames_setTop _ hr', State.setTop_of_frames _ hr', State.setFrames_setFrames, hr]
      rfl
    have hsame : U.sameButNew ({ U with heap := s₂.heap, slotsUsed := s₂.slotsUsed } : State) L mc ms := by
      refine ⟨?_, q2, q3, q4, q5, q6⟩
      obtain ⟨t, ht, -⟩ := State.frames_cons hr
      show ({ U with heap := s₂.heap, slotsUsed := s₂.slotsUsed } : State) = { U.setFrames U.frames with heap := s₂.heap, slotsUsed := s₂.slotsUsed }
      rw [State.setFrames_self ht]
    subst hg
    refine Or.inr ⟨q, ⟨(({ U with heap := s₂.heap, slotsUsed := s₂.slotsUsed } : State).setVm s₂.vm), Ls ++ L, c0 + mc, s0 + ms⟩,
      ⟨X.admits, X.cas, X.clock, X.frames, X.room, X.hears, X.method, X.code, (X.here.setHeapUsed s₂.heap s₂.slotsUsed).setVm hW'.alike, X.tail, State.WarmedH.trans X.warmed hW', X.limits, X.bytes, X.same.trans (hsame.setVm s.vm)⟩,
      ⟨g, mk, s₂, L, E, ce, rfl, rfl, hx, hce, hcv, hcl, rfl, hL, rfl, rfl⟩, ?_⟩
    show Steps p.tables e below _ (((({ U with heap := s₂.heap, slotsUsed := s₂.slotsUsed } : State).setVm s₂.vm).setTop g).pushFrame (.throwing q))
    rw [← hs₂]
    exact hsteps
end Payer
section Calls
variable {p : Program} {l : Launch} {e : Env} {R : Room} {s : State} {m : MethodId} {args : Array Value} {below : List Frame} {meth : Method} {c : Code} {T : State} {locs : List Loc} {cells slots : Nat}
theorem vx_callV (X : Stand p l e R s m args below meth c T locs cells slots) (hexec : p.tables.exec = Jvm.exec) {own C : String} {index : Nat} {y : MethodName} {bytes : ByteArray} {maxL : Nat} {ret : Option FieldType}
    (hown : s.vm.findClass own = some m.cls) (hlink : (Cond.methodLink own index y).before args s = true) (hinst : (Cond.instanceMethod y).before args s = true) (hsel : (Cond.selects C y y).before args s = true)
    (hcode : (Cond.code y bytes maxL ret).before args s = true) (hy : y.cls ≠ "java/lang/invoke/MethodHandle" ∧ y.cls ≠ "java/lang/invoke/VarHandle")
    {W9 : Nat} {Pre : Pt → Array Value → Prop} {Post : Pt → Array Value → Option Value → Pt → Prop} {PostX : Pt → Array Value → Addr → Pt → Prop} (hK : vx_Back l R p e below s args y 3 W9 Pre Post PostX)
    {b : Addr} {cellB : Cell} (hcell : T.heap[b]? = some cellB) (hobj : cellB.vm.isStatics = false) (hcls : s.vm.findClass C = some cellB.cls)
    {g : JFrame} (hg : g.method = m) (hsize : g.locals.size = c.maxLocals) {argsL rest : List Value} (hlen : ∀ sig, parseMethodDescriptor y.desc = some sig → argsL.length = sig.parameters.length)
    (hstack : g.stack = argsL.reverse ++ .ref b :: rest) (hW : 2 * g.monitorRoom + (rest.map fun v => v.category).sum ≤ W9) (hdg : decode c.code g.pc = .ok (.invokevirtual index, 3))
    (hpre : ∀ vm₁, s.WarmedH vm₁ → Pre ⟨T.setVm vm₁, locs, cells, slots⟩ (Value.ref b :: argsL).toArray) :
    (∃ (v : Option Value) (vm₁ : Vm) (B : Pt), s.WarmedH vm₁ ∧ Stand p l e R s m args below meth c B.U B.locs B.cells B.slots ∧ Post ⟨T.setVm vm₁, locs, cells, slots⟩ (Value.ref b :: argsL).toArray v B ∧
      ∀ target, Steps p.tables e below (B.U.setTop { g with pc := g.pc + 3, stack := v.toList ++ rest }) target → Steps p.tables e below (T.setTop g) target) ∨
    (∃ (q : Addr) (vm₁ : Vm) (B : Pt), s.WarmedH vm₁ ∧ Stand p l e R s m args below meth c B.U B.locs B.cells B.slots ∧ PostX ⟨T.setVm vm₁, locs, cells, slots⟩ (Value.ref b :: argsL).toArray q B ∧
      Steps p.tables e below (T.setTop g) ((B.U.setTop { g with stack := rest }).pushFrame (.throwing q))) := by
  obtain ⟨mk, methM, hnamed, hmethM, hstM, habM⟩ := Cond.instanceMethod_spec hinst
  obtain ⟨methM', cM, hmethM', -, -, -, -, -, -, hsigM⟩ := Cond.code_spec hnamed hcode
  cases hmethM.symm.trans hmethM'
  obtain ⟨c2, r2, m2, q1, q2, q3, q4, kP, hkP, hkPi⟩ := Cond.selects_spec hsel
  cases hcls.symm.trans q1
  cases (State.methodFound?_of_named hnamed hy).symm.trans q2
  cases hnamed.symm.trans q3
  have hselP : selectMethod e.platform s.vm cellB.cls mk = .method mk := by rw [Launch.admits_selectMethod X.admits]; exact q4
  obtain ⟨vm₁, X₁, hstep₁⟩ := X.invokevirtual hexec hown hlink hnamed hmethM hstM hkP hkPi hy (a := b) (cell := cellB) hcell
    (fun z h => by rw [h] at hobj; cases hobj) hselP hmethM habM hkP hkPi (g := g) hg (argsL := argsL) (rest := rest) (hlen _ hsigM) hstack hdg
  rcases hK m meth c ⟨T.setVm vm₁, locs, cells, slots⟩ { g with stack := rest } (.invokevirtual index) mk (Value.ref b :: argsL).toArray X₁ hg hsize hdg hW (X₁.named hnamed) (hpre vm₁ X₁.warmed) with ⟨v, B, X', hpost, hsteps⟩ | ⟨q, B, X', hpost, hsteps⟩
  · exact Or.inl ⟨v, vm₁, B, X₁.warmed, X', hpost, fun target h => hstep₁ _ fun acts => by rw [doInvoke_state]; exact hsteps.trans h⟩
  · exact Or.inr ⟨q, vm₁, B, X₁.warmed, X', hpost, hstep₁ _ fun acts => by rw [doInvoke_state]; exact hsteps⟩
theorem vx_callS (X : Stand p l e R s m args below meth c T locs cells slots) (hexec : p.tables.exec = Jvm.exec) {own : String} {index : Nat} {y : MethodName} {bytes : ByteArray} {maxL : Nat} {ret : Option FieldType}
    (hown : s.vm.findClass own = some m.cls) (hlink : (Cond.methodLink own index y).before args s = true) (hstat : (Cond.static y).before args s = true) (hinit : (Cond.initialized y.cls).before args s = true)
    (hcode : (Cond.code y bytes maxL ret).before args s = true) (hy : y.cls ≠ "java/lang/invoke/MethodHandle" ∧ y.cls ≠ "java/lang/invoke/VarHandle")
    {W9 : Nat} {Pre : Pt → Array Value → Prop} {Post : Pt → Array Value → Option Value → Pt → Prop} {PostX : Pt → Array Value → Addr → Pt → Prop} (hK : vx_Back l R p e below s args y 3 W9 Pre Post PostX)
    {g : JFrame} (hg : g.method = m) (hsize : g.locals.size = c.maxLocals) {argsL rest : List Value} (hlen : ∀ sig, parseMethodDescriptor y.desc = some sig → argsL.length = sig.parameters.length)
    (hstack : g.stack = argsL.reverse ++ rest) (hW : 2 * g.monitorRoom + (rest.map fun v => v.category).sum ≤ W9) (hdg : decode c.code g.pc = .ok (.invokestatic index, 3))
    (hpre : ∀ vm₁, s.WarmedH vm₁ → Pre ⟨T.setVm vm₁, locs, cells, slots⟩ argsL.toArray) :
    (∃ (v : Option Value) (vm₁ : Vm) (B : Pt), s.WarmedH vm₁ ∧ Stand p l e R s m args below meth c B.U B.locs B.cells B.slots ∧ Post ⟨T.setVm vm₁, locs, cells, slots⟩ argsL.toArray v B ∧
      ∀ target, Steps p.tables e below (B.U.setTop { g with pc := g.pc + 3, stack := v.toList ++ rest }) target → Steps p.tables e below (T.setTop g) target) ∨
    (∃ (q : Addr) (vm₁ : Vm) (B : Pt), s.WarmedH vm₁ ∧ Stand p l e R s m args below meth c B.U B.locs B.cells B.slots ∧ PostX ⟨T.setVm vm₁, locs, cells, slots⟩ argsL.toArray q B ∧
      Steps p.tables e below (T.setTop g) ((B.U.setTop { g with stack := rest }).pushFrame (.throwing q))) := by
  obtain ⟨mk, hnamed⟩ := Cond.code_named hcode
  obtain ⟨methM, cM, hmethM, -, -, -, -, -, -, hsigM⟩ := Cond.code_spec hnamed hcode
  have hstatic : methM.isStatic = true := Cond.static_spec hnamed hmethM hstat
  obtain ⟨kP, hkP, -⟩ := className_of_methodNamed hnamed
  have hinitP : kP.init = .initialized := Cond.initialized_spec (findClass_of_methodNamed hnamed) hkP hinit
  obtain ⟨vm₁, X₁, hstep₁⟩ := X.invokestatic hexec hown hlink hnamed hmethM hstatic hkP hinitP hy (g := g) hg (argsL := argsL) (rest := rest) (hlen _ hsigM) hstack hdg
  rcases hK m meth c ⟨T.setVm vm₁, locs, cells, slots⟩ { g with stack := rest } (.invokestatic index) mk argsL.toArray X₁ hg hsize hdg hW (X₁.named hnamed) (hpre vm₁ X₁.warmed) with ⟨v, B, X', hpost, hsteps⟩ | ⟨q, B, X', hpost, hsteps⟩
  · exact Or.inl ⟨v, vm₁, B, X₁.warmed, X', hpost, fun target h => hstep₁ _ fun acts => by rw [doInvoke_state]; exact hsteps.trans h⟩
  · exact Or.inr ⟨q, vm₁, B, X₁.warmed, X', hpost, hstep₁ _ fun acts => by rw [doInvoke_state]; exact hsteps⟩
end Calls
theorem vx_cls {s : State} {T : State} {vm₁ : Vm} {E : String} {k : ClassId} (hW : s.WarmedH vm₁) (h : (T.setVm vm₁).vm.findClass E = some k) : s.vm.findClass E = some k := by
  have h1 : vm₁.findClass E = some k := h
  rw [hW.alike.findClass] at h1
  exact h1
/-- the method's frame g, with q thrown over it -/
def vx_W (p : Program) (l : Launch) (e : Env) (R : Room) (s : State) (m : MethodId) (args : Array Value) (below : List Frame) (meth : Method) (c : Code) (H : Heap) (locs : List Loc) (cells slots : Nat) (Q : State → Prop) (g : JFrame) (q : Addr) : Prop :=
  ∀ T : State, T.heap = H → Stand p l e R s m args below meth c T locs cells slots → ∃ t, Steps p.tables e below ((T.setTop g).pushFrame (.throwing q)) t ∧ Q t
def vx_Run (p : Program) (l : Launch) (e : Env) (R : Room) (s : State) (m : MethodId) (args : Array Value) (below : List Frame) (meth : Method) (c : Code) (H : Heap) (locs : List Loc) (cells slots mc ms : Nat) (g : JFrame) (rest : List Value) (Qa : State → Outcome → State → Prop) (XC : String → State → State → Prop) (free : Addr → Prop) : Prop :=
  ∀ T : State, T.heap = H → Stand p l e R s m args below meth c T locs cells slots →
    (∃ (v : Option Value) (st₀ t T' : State) (L : List Loc), st₀.heap = H ∧ Stand p l e R s m args below meth c T' (locs ++ L) (cells + mc) (slots + ms) ∧ (∀ q ∈ L, free q.base) ∧ T'.heap = t.heap ∧ T'.vm = t.vm ∧ Qa st₀ (.returned v) t ∧
      Goes p e below T g T' { g with pc := g.pc + 3, stack := v.toList ++ rest }) ∨
    (∃ (q : Addr) (st₀ t T' : State) (L : List Loc) (E : String) (ce : Cell), st₀.heap = H ∧ Stand p l e R s m args below meth c T' (locs ++ L) (cells + mc) (slots + ms) ∧ (∀ z ∈ L, free z.base) ∧ T'.heap = t.heap ∧ T'.vm = t.vm ∧ XC E st₀ t ∧ t.heap[q]? = some ce ∧ ce.vm = .none ∧ s.vm.findClass E = some ce.cls ∧
      Steps p.tables e below (T.setTop g) ((T'.setTop { g with stack := rest }).pushFrame (.throwing q)))
def vx_X {S : Type} (px : S → Prop) (B : String → S → State → Prop) (A : Nat → Prop) : String → State → State → Prop := fun E st t => ∃ u : S, px u ∧ B E u t ∧ va_F A st t
section Runs
variable {p : Program} {l : Launch} {e : Env} {R : Room} {s : State} {m : MethodId} {args : Array Value} {below : List Frame} {meth : Method} {c : Code} {H : Heap} {locs : List Loc} {cells slots : Nat}
variable {y : MethodName} {bytes cc : ByteArray} {maxL nL mc ms n index : Nat} {ret : Option FieldType} {ws : List Cond} {rm : Room} {Pc : Array Value → State → Prop} {Qc : Array Value → State → Outcome → State → Prop} {XC : String → State → State → Prop} {free : Addr → Prop} {Ts : List Cond} {own C : String} {b : Addr} {As rest : List Value} {g : JFrame}
theorem vx_callBack (cb : CallB R s args own index y bytes maxL ret ws rm mc ms n) (hM : vx_Met l y ws rm Pc Qc XC mc ms free) (hbl : FrameBlind Pc) : vx_Back l R p e below s args y 3 8 (PreOf R mc ms Pc) (PostOf Qc mc ms free) (vx_Post XC mc ms free) := by
  obtain ⟨hrc, hrs, hfr, hlo, hws, hcw, -, hini, -⟩ := cb
  exact vx_back (bytes := bytes) (maxL := maxL) (ret := ret) hM hbl hrc hrs hfr hlo hws hcw (fun a' U hW => word_at hW (Or.inl (by first | rfl | simp [Cond.onTables, Cond.keeps, Cond.steady])) hini)
theorem vx_runV (S : CallFix p m c cc nL s args Ts own) (hM : vx_Met l y ws rm Pc Qc XC mc ms free) (cw : CallW R s args own C index y bytes maxL ret ws rm mc ms n) (hp : PreV s H C b Pc As)
    (hg : g.method = m) (hn : As.length = n) (hsize : g.locals.size = nL) (hstack : g.stack = As.reverse ++ .ref b :: rest) (hW : 2 * g.monitorRoom + (rest.map fun v => v.category).sum ≤ 8) (hdg : decode cc g.pc = .ok (.invokevirtual index, 3)) (hf : cells + mc ≤ R.cells ∧ slots + ms ≤ R.slots) :
    vx_Run p l e R s m args below meth c H locs cells slots mc ms g rest (Qc (Value.ref b :: As).toArray) XC free := by
  have hK : vx_Back l R p e below s args y 3 8 (PreOf R mc ms Pc) (PostOf Qc mc ms free) (vx_Post XC mc ms free) := vx_callBack cw.1 hM hp.1
  obtain ⟨⟨-, -, -, -, -, -, hcode, -, hy, hlen, hl⟩, hin, hse⟩ := cw
  obtain ⟨hx, hb, hml, ho, -⟩ := S
  obtain ⟨-, ⟨cellB, hcB, hoB, hclB⟩, hPc⟩ := hp
  intro T hT X
  rcases vx_callV X hx (C := C) (bytes := bytes) (maxL := maxL) (ret := ret) ho hl hin hse hcode hy hK (by rw [hT]; exact hcB) hoB hclB hg (hsize.trans hml.symm) (argsL := As) (rest := rest) (fun sig h => hn.trans (hlen sig h)) hstack hW (by rw [hb]; exact hdg)
    (fun vm₁ hW₁ => ⟨hf.1, hf.2, hPc (T.setVm vm₁) hT hW₁⟩) with ⟨v, vm₁, ⟨U', l2, c2, s2⟩, hW₁, X', ⟨g', mk, t, L, e1, e2, hq, h1, hL, h2, h3⟩, st⟩ | ⟨q, vm₁, ⟨U', l2, c2, s2⟩, hW₁, X', ⟨g', mk, t, L, E, ce, e1, e2, hq, hce, hcv, hcl, h1, hL, h2, h3⟩, st⟩
  · dsimp only [Pt.U, Pt.locs, Pt.cells, Pt.slots] at X' e1 e2 h1 h2 h3 st
    subst h1; subst h2; subst h3
    exact Or.inl ⟨v, (T.setVm vm₁).calling g' mk (Value.ref b :: As).toArray, t, U', L, hT, X', hL, e1, e2, hq, st⟩
  · dsimp only [Pt.U, Pt.locs, Pt.cells, Pt.slots] at X' e1 e2 h1 h2 h3 st hcl
    subst h1; subst h2; subst h3
    exact Or.inr ⟨q, (T.setVm vm₁).calling g' mk (Value.ref b :: As).toArray, t, U', L, E, ce, hT, X', hL, e1, e2, hq, hce, hcv, vx_cls hW₁ hcl, st⟩
theorem vx_runS (S : CallFix p m c cc nL s args Ts own) (hM : vx_Met l y ws rm Pc Qc XC mc ms free) (cw : CallB R s args own index y bytes maxL ret ws rm mc ms n ∧ (Cond.static y).before args s = true) (hp : PreS s H Pc As)
    (hg : g.method = m) (hn : As.length = n) (hsize : g.locals.size = nL) (hstack : g.stack = As.reverse ++ rest) (hW : 2 * g.monitorRoom + (rest.map fun v => v.category).sum ≤ 8) (hdg : decode cc g.pc = .ok (.invokestatic index, 3)) (hf : cells + mc ≤ R.cells ∧ slots + ms ≤ R.slots) :
    vx_Run p l e R s m args below meth c H locs cells slots mc ms g rest (Qc As.toArray) XC free := by
  have hK : vx_Back l R p e below s args y 3 8 (PreOf R mc ms Pc) (PostOf Qc mc ms free) (vx_Post XC mc ms free) := vx_callBack cw.1 hM hp.1
  obtain ⟨⟨-, -, -, -, -, -, hcode, hini, hy, hlen, hl⟩, hstt⟩ := cw
  obtain ⟨hx, hb, hml, ho, -⟩ := S
  intro T hT X
  rcases vx_callS X hx (bytes := bytes) (maxL := maxL) (ret := ret) ho hl hstt hini hcode hy hK hg (hsize.trans hml.symm) (argsL := As) (rest := rest) (fun sig h => hn.trans (hlen sig h)) hstack hW (by rw [hb]; exact hdg)
    (fun vm₁ hW₁ => ⟨hf.1, hf.2, hp.2 (T.setVm vm₁) hT hW₁⟩) with ⟨v, vm₁, ⟨U', l2, c2, s2⟩, hW₁, X', ⟨g', mk, t, L, e1, e2, hq, h1, hL, h2, h3⟩, st⟩ | ⟨q, vm₁, ⟨U', l2, c2, s2⟩, hW₁, X', ⟨g', mk, t, L, E, ce, e1, e2, hq, hce, hcv, hcl, h1, hL, h2, h3⟩, st⟩
  · dsimp only [Pt.U, Pt.locs, Pt.cells, Pt.slots] at X' e1 e2 h1 h2 h3 st
    subst h1; subst h2; subst h3
    exact Or.inl ⟨v, (T.setVm vm₁).calling g' mk As.toArray, t, U', L, hT, X', hL, e1, e2, hq, st⟩
  · dsimp only [Pt.U, Pt.locs, Pt.cells, Pt.slots] at X' e1 e2 h1 h2 h3 st hcl
    subst h1; subst h2; subst h3
    exact Or.inr ⟨q, (T.setVm vm₁).calling g' mk As.toArray, t, U', L, E, ce, hT, X', hL, e1, e2, hq, hce, hcv, vx_cls hW₁ hcl, st⟩
end Runs
section Rows
variable {p : Program} {l : Launch} {e : Env} {R : Room} {s : State} {m : MethodId} {args : Array Value} {below : List Frame} {meth : Method} {c : Code} {H : Heap} {locs : List Loc} {cells slots : Nat} {Q : State → Prop}
variable {mc ms : Nat} {free : Addr → Prop} {A0 A1 : Nat → Prop} {H0 : Heap} {a : Array Value} {pc : Nat} {ls : Array Slot} {st0 rest : List Value}
theorem vx_keep {st₀ t T' : State} {L : List Loc} (h0 : st₀.heap = H) (e1 : T'.heap = t.heap) (hS : va_S A0 H0 H locs) (hA : ∀ q, q < H.size → A1 q → A0 q) (hf : ∀ q, free q → A0 q) (hL : ∀ q ∈ L, free q.base) (hF : va_F A1 st₀ t) :
    H.size ≤ T'.heap.size ∧ (∀ q : Nat, q < H.size → ¬ A1 q → T'.heap[q]? = H[q]?) ∧ va_S A0 H0 T'.heap (locs ++ L) := by
  obtain ⟨hz, hk⟩ := hF
  rw [h0] at hz hk
  exact ⟨by rw [e1]; exact hz, fun q h1 h2 => by rw [e1]; exact hk q h1 h2,
    ⟨Nat.le_trans hS.1 (by rw [e1]; exact hz), fun q h1 h2 => by rw [e1, hk q (Nat.lt_of_lt_of_le h1 hS.1) (fun z => h2 (hA q (Nat.lt_of_lt_of_le h1 hS.1) z))]; exact hS.2.1 q h1 h2, fun q hq => by
      rcases List.mem_append.mp hq with h | h
      · exact hS.2.2 q h
      · exact hf _ (hL q h)⟩⟩
theorem vx_calli {S SX : Type} {post : Int32 → S → Prop} {px : SX → Prop} {B : S → State → Prop} {BX : String → SX → State → Prop} {AX : Nat → Prop} (hr : vx_Run p l e R s m args below meth c H locs cells slots mc ms (F0 m pc ls st0) rest (va_Qi post B A1 a) (vx_X px BX AX) free) (hS : va_S A0 H0 H locs) (hA : ∀ q, q < H.size → A1 q → A0 q) (hf : ∀ q, free q → A0 q) (hAX : ∀ q, q < H.size → AX q → A0 q)
    (kx : ∀ (E : String) (ce : Cell) (q9 : Addr) (u : SX) (t : State) (H1 : Heap) (locs1 : List Loc), t.heap = H1 → s.vm.Alike t.vm → px u → BX E u t → H.size ≤ H1.size → (∀ q : Nat, q < H.size → ¬ AX q → H1[q]? = H[q]?) → va_S A0 H0 H1 locs1 → H1[q9]? = some ce → ce.vm = .none → s.vm.findClass E = some ce.cls → vx_W p l e R s m args below meth c H1 locs1 (cells + mc) (slots + ms) Q (F0 m pc ls rest) q9)
    (kk : ∀ (r : Int32) (u : S) (t : State) (H1 : Heap) (locs1 : List Loc), t.heap = H1 → s.vm.Alike t.vm → post r u → B u t → H.size ≤ H1.size → (∀ q : Nat, q < H.size → ¬ A1 q → H1[q]? = H[q]?) → va_S A0 H0 H1 locs1 → W p l e R s m args below meth c H1 locs1 (cells + mc) (slots + ms) Q (F0 m (pc + 3) ls (.int r :: rest))) : W p l e R s m args below meth c H locs cells slots Q (F0 m pc ls st0) := by
  intro T hT X
  rcases hr T hT X with ⟨v, st₀, t, T', L, h0, X', hL, e1, e2, ⟨⟨r, u, hv, hp, hb⟩, hF⟩, st⟩ | ⟨q, st₀, t, T', L, E, ce, h0, X', hL, e1, e2, ⟨u, hp, hb, hF⟩, hce, hcv, hcl, st⟩
  · cases hv
    obtain ⟨k1, k2, k3⟩ := vx_keep h0 e1 hS hA hf hL hF
    obtain ⟨t2, a1, b1⟩ := kk r u t T'.heap (locs ++ L) e1.symm (by rw [← e2]; exact X'.warmed.alike) hp hb k1 k2 k3 T' rfl X'
    exact ⟨t2, st t2 a1, b1⟩
  · obtain ⟨k1, k2, k3⟩ := vx_keep h0 e1 hS hAX hf hL hF
    obtain ⟨t2, a1, b1⟩ := kx E ce q u t T'.heap (locs ++ L) e1.symm (by rw [← e2]; exact X'.warmed.alike) hp hb k1 k2 k3 (by rw [e1]; exact hce) hcv hcl T' rfl X'
    exact ⟨t2, st.trans a1, b1⟩
theorem vx_calll {S SX : Type} {post : Int64 → S → Prop} {px : SX → Prop} {B : S → State → Prop} {BX : String → SX → State → Prop} {AX : Nat → Prop} (hr : vx_Run p l e R s m args below meth c H locs cells slots mc ms (F0 m pc ls st0) rest (va_Ql post B A1 a) (vx_X px BX AX) free) (hS : va_S A0 H0 H locs) (hA : ∀ q, q < H.size → A1 q → A0 q) (hf : ∀ q, free q → A0 q) (hAX : ∀ q, q < H.size → AX q → A0 q)
    (kx : ∀ (E : String) (ce : Cell) (q9 : Addr) (u : SX) (t : State) (H1 : Heap) (locs1 : List Loc), t.heap = H1 → s.vm.Alike t.vm → px u → BX E u t → H.size ≤ H1.size → (∀ q : Nat, q < H.size → ¬ AX q → H1[q]? = H[q]?) → va_S A0 H0 H1 locs1 → H1[q9]? = some ce → ce.vm = .none → s.vm.findClass E = some ce.cls → vx_W p l e R s m args below meth c H1 locs1 (cells + mc) (slots + ms) Q (F0 m pc ls rest) q9)
    (kk : ∀ (r : Int64) (u : S) (t : State) (H1 : Heap) (locs1 : List Loc), t.heap = H1 → s.vm.Alike t.vm → post r u → B u t → H.size ≤ H1.size → (∀ q : Nat, q < H.size → ¬ A1 q → H1[q]? = H[q]?) → va_S A0 H0 H1 locs1 → W p l e R s m args below meth c H1 locs1 (cells + mc) (slots + ms) Q (F0 m (pc + 3) ls (.long r :: rest))) : W p l e R s m args below meth c H locs cells slots Q (F0 m pc ls st0) := by
  intro T hT X
  rcases hr T hT X with ⟨v, st₀, t, T', L, h0, X', hL, e1, e2, ⟨⟨r, u, hv, hp, hb⟩, hF⟩, st⟩ | ⟨q, st₀, t, T', L, E, ce, h0, X', hL, e1, e2, ⟨u, hp, hb, hF⟩, hce, hcv, hcl, st⟩
  · cases hv
    obtain ⟨k1, k2, k3⟩ := vx_keep h0 e1 hS hA hf hL hF
    obtain ⟨t2, a1, b1⟩ := kk r u t T'.heap (locs ++ L) e1.symm (by rw [← e2]; exact X'.warmed.alike) hp hb k1 k2 k3 T' rfl X'
    exact ⟨t2, st t2 a1, b1⟩
  · obtain ⟨k1, k2, k3⟩ := vx_keep h0 e1 hS hAX hf hL hF
    obtain ⟨t2, a1, b1⟩ := kx E ce q u t T'.heap (locs ++ L) e1.symm (by rw [← e2]; exact X'.warmed.alike) hp hb k1 k2 k3 (by rw [e1]; exact hce) hcv hcl T' rfl X'
    exact ⟨t2, st.trans a1, b1⟩
theorem vx_callf {S SX : Type} {post : UInt32 → S → Prop} {px : SX → Prop} {B : S → State → Prop} {BX : String → SX → State → Prop} {AX : Nat → Prop} (hr : vx_Run p l e R s m args below meth c H locs cells slots mc ms (F0 m pc ls st0) rest (va_Qf post B A1 a) (vx_X px BX AX) free) (hS : va_S A0 H0 H locs) (hA : ∀ q, q < H.size → A1 q → A0 q) (hf : ∀ q, free q → A0 q) (hAX : ∀ q, q < H.size → AX q → A0 q)
    (kx : ∀ (E : String) (ce : Cell) (q9 : Addr) (u : SX) (t : State) (H1 : Heap) (locs1 : List Loc), t.heap = H1 → s.vm.Alike t.vm → px u → BX E u t → H.size ≤ H1.size → (∀ q : Nat, q < H.size → ¬ AX q → H1[q]? = H[q]?) → va_S A0 H0 H1 locs1 → H1[q9]? = some ce → ce.vm = .none → s.vm.findClass E = some ce.cls → vx_W p l e R s m args below meth c H1 locs1 (cells + mc) (slots + ms) Q (F0 m pc ls rest) q9)
    (kk : ∀ (r : UInt32) (u : S) (t : State) (H1 : Heap) (locs1 : List Loc), t.heap = H1 → s.vm.Alike t.vm → post r u → B u t → H.size ≤ H1.size → (∀ q : Nat, q < H.size → ¬ A1 q → H1[q]? = H[q]?) → va_S A0 H0 H1 locs1 → W p l e R s m args below meth c H1 locs1 (cells + mc) (slots + ms) Q (F0 m (pc + 3) ls (.float r :: rest))) : W p l e R s m args below meth c H locs cells slots Q (F0 m pc ls st0) := by
  intro T hT X
  rcases hr T hT X with ⟨v, st₀, t, T', L, h0, X', hL, e1, e2, ⟨⟨r, u, hv, hp, hb⟩, hF⟩, st⟩ | ⟨q, st₀, t, T', L, E, ce, h0, X', hL, e1, e2, ⟨u, hp, hb, hF⟩, hce, hcv, hcl, st⟩
  · cases hv
    obtain ⟨k1, k2, k3⟩ := vx_keep h0 e1 hS hA hf hL hF
    obtain ⟨t2, a1, b1⟩ := kk r u t T'.heap (locs ++ L) e1.symm (by rw [← e2]; exact X'.warmed.alike) hp hb k1 k2 k3 T' rfl X'
    exact ⟨t2, st t2 a1, b1⟩
  · obtain ⟨k1, k2, k3⟩ := vx_keep h0 e1 hS hAX hf hL hF
    obtain ⟨t2, a1, b1⟩ := kx E ce q u t T'.heap (locs ++ L) e1.symm (by rw [← e2]; exact X'.warmed.alike) hp hb k1 k2 k3 (by rw [e1]; exact hce) hcv hcl T' rfl X'
    exact ⟨t2, st.trans a1, b1⟩
theorem vx_calld {S SX : Type} {post : UInt64 → S → Prop} {px : SX → Prop} {B : S → State → Prop} {BX : String → SX → State → Prop} {AX : Nat → Prop} (hr : vx_Run p l e R s m args below meth c H locs cells slots mc ms (F0 m pc ls st0) rest (va_Qd post B A1 a) (vx_X px BX AX) free) (hS : va_S A0 H0 H locs) (hA : ∀ q, q < H.size → A1 q → A0 q) (hf : ∀ q, free q → A0 q) (hAX : ∀ q, q < H.size → AX q → A0 q)
    (kx : ∀ (E : String) (ce : Cell) (q9 : Addr) (u : SX) (t : State) (H1 : Heap) (locs1 : List Loc), t.heap = H1 → s.vm.Alike t.vm → px u → BX E u t → H.size ≤ H1.size → (∀ q : Nat, q < H.size → ¬ AX q → H1[q]? = H[q]?) → va_S A0 H0 H1 locs1 → H1[q9]? = some ce → ce.vm = .none → s.vm.findClass E = some ce.cls → vx_W p l e R s m args below meth c H1 locs1 (cells + mc) (slots + ms) Q (F0 m pc ls rest) q9)
    (kk : ∀ (r : UInt64) (u : S) (t : State) (H1 : Heap) (locs1 : List Loc), t.heap = H1 → s.vm.Alike t.vm → post r u → B u t → H.size ≤ H1.size → (∀ q : Nat, q < H.size → ¬ A1 q → H1[q]? = H[q]?) → va_S A0 H0 H1 locs1 → W p l e R s m args below meth c H1 locs1 (cells + mc) (slots + ms) Q (F0 m (pc + 3) ls (.double r :: rest))) : W p l e R s m args below meth c H locs cells slots Q (F0 m pc ls st0) := by
  intro T hT X
  rcases hr T hT X with ⟨v, st₀, t, T', L, h0, X', hL, e1, e2, ⟨⟨r, u, hv, hp, hb⟩, hF⟩, st⟩ | ⟨q, st₀, t, T', L, E, ce, h0, X', hL, e1, e2, ⟨u, hp, hb, hF⟩, hce, hcv, hcl, st⟩
  · cases hv
    obtain ⟨k1, k2, k3⟩ := vx_keep h0 e1 hS hA hf hL hF
    obtain ⟨t2, a1, b1⟩ := kk r u t T'.heap (locs ++ L) e1.symm (by rw [← e2]; exact X'.warmed.alike) hp hb k1 k2 k3 T' rfl X'
    exact ⟨t2, st t2 a1, b1⟩
  · obtain ⟨k1, k2, k3⟩ := vx_keep h0 e1 hS hAX hf hL hF
    obtain ⟨t2, a1, b1⟩ := kx E ce q u t T'.heap (locs ++ L) e1.symm (by rw [← e2]; exact X'.warmed.alike) hp hb k1 k2 k3 (by rw [e1]; exact hce) hcv hcl T' rfl X'
    exact ⟨t2, st.trans a1, b1⟩
theorem vx_callv {S SX : Type} {post : S → Prop} {px : SX → Prop} {B : S → State → Prop} {BX : String → SX → State → Prop} {AX : Nat → Prop} (hr : vx_Run p l e R s m args below meth c H locs cells slots mc ms (F0 m pc ls st0) rest (va_Qv post B A1 a) (vx_X px BX AX) free) (hS : va_S A0 H0 H locs) (hA : ∀ q, q < H.size → A1 q → A0 q) (hf : ∀ q, free q → A0 q) (hAX : ∀ q, q < H.size → AX q → A0 q)
    (kx : ∀ (E : String) (ce : Cell) (q9 : Addr) (u : SX) (t : State) (H1 : Heap) (locs1 : List Loc), t.heap = H1 → s.vm.Alike t.vm → px u → BX E u t → H.size ≤ H1.size → (∀ q : Nat, q < H.size → ¬ AX q → H1[q]? = H[q]?) → va_S A0 H0 H1 locs1 → H1[q9]? = some ce → ce.vm = .none → s.vm.findClass E = some ce.cls → vx_W p l e R s m args below meth c H1 locs1 (cells + mc) (slots + ms) Q (F0 m pc ls rest) q9)
    (kk : ∀ (u : S) (t : State) (H1 : Heap) (locs1 : List Loc), t.heap = H1 → s.vm.Alike t.vm → post u → B u t → H.size ≤ H1.size → (∀ q : Nat, q < H.size → ¬ A1 q → H1[q]? = H[q]?) → va_S A0 H0 H1 locs1 → W p l e R s m args below meth c H1 locs1 (cells + mc) (slots + ms) Q (F0 m (pc + 3) ls (rest))) : W p l e R s m args below meth c H locs cells slots Q (F0 m pc ls st0) := by
  intro T hT X
  rcases hr T hT X with ⟨v, st₀, t, T', L, h0, X', hL, e1, e2, ⟨⟨u, hv, hp, hb⟩, hF⟩, st⟩ | ⟨q, st₀, t, T', L, E, ce, h0, X', hL, e1, e2, ⟨u, hp, hb, hF⟩, hce, hcv, hcl, st⟩
  · cases hv
    obtain ⟨k1, k2, k3⟩ := vx_keep h0 e1 hS hA hf hL hF
    obtain ⟨t2, a1, b1⟩ := kk u t T'.heap (locs ++ L) e1.symm (by rw [← e2]; exact X'.warmed.alike) hp hb k1 k2 k3 T' rfl X'
    exact ⟨t2, st t2 a1, b1⟩
  · obtain ⟨k1, k2, k3⟩ := vx_keep h0 e1 hS hAX hf hL hF
    obtain ⟨t2, a1, b1⟩ := kx E ce q u t T'.heap (locs ++ L) e1.symm (by rw [← e2]; exact X'.warmed.alike) hp hb k1 k2 k3 (by rw [e1]; exact hce) hcv hcl T' rfl X'
    exact ⟨t2, st.trans a1, b1⟩
/-- caught by the row x of this method's table; the rows ahead don't take it -/
theorem vx_catch {own name : String} {E : String} {ce : Cell} {q : Addr} (hown : s.vm.findClass own = some m.cls) (pre : List ExceptionTableEntry) (x : ExceptionTableEntry) (suf : List ExceptionTableEntry) (hsplit : c.exceptionTable.toList = pre ++ x :: suf)
    (hpass : ∀ z ∈ pre, covers z pc = false ∨ (z.catchType ≠ 0 ∧ ∃ nm : String, (Cond.classLink own z.catchType nm).before args s = true ∧ va_Nc E nm s)) (hx : covers x pc = true) (h0 : x.catchType ≠ 0)
    (hlink : (Cond.classLink own x.catchType name).before args s = true) (hcast : (Cond.castable E name).before args s = true) (hcell : H[q]? = some ce) (hv : ce.vm = .none) (hcl : s.vm.findClass E = some ce.cls)
    (kk : W p l e R s m args below meth c H locs cells slots Q (F0 m x.handlerPc ls [.ref q])) : vx_W p l e R s m args below meth c H locs cells slots Q (F0 m pc ls rest) q := by
  intro T hT X
  have hpl : e.platform.magicAccessors = ({} : Platform).magicAccessors := by rw [X.admits.platform]
  obtain ⟨c3, c4, hc3, hc4, hasg⟩ := Cond.castable_spec hcast
  cases Option.some.inj (hc3.symm.trans hcl)
  obtain ⟨c5, hc5, hcl5⟩ := Cond.classLink_spec hown hlink e.platform hpl
  cases Option.some.inj (hc4.symm.trans hc5)
  obtain ⟨vm', X', st⟩ := X.thenCaughtThrough q (g := F0 m pc ls rest) rfl (Steps.refl _) (by rw [hT]; exact hcell) (by rw [hv]; rfl) (by obtain ⟨k9, h9, -⟩ := Vm.findClass_spec hcl; exact ⟨k9, h9⟩) pre x suf hsplit
    (fun z hz => by
      rcases hpass z hz with h | ⟨hz0, nm, hl1, hn1⟩
      · exact Or.inl h
      · obtain ⟨c6, hc6, hcl6⟩ := Cond.classLink_spec hown hl1 e.platform hpl
        obtain ⟨a8, b8, h1, h2, h3⟩ := hn1
        cases Option.some.inj (h1.symm.trans hcl)
        cases Option.some.inj (h2.symm.trans hc6)
        exact Or.inr ⟨hz0, _, hcl6, h3⟩) hx (Or.inr ⟨h0, c4, hcl5, hasg⟩)
  obtain ⟨t, a1, b1⟩ := kk (T.setVm vm') hT X'
  exact ⟨t, st.trans a1, b1⟩
end Rows
section Ends
variable {p : Program} {l : Launch} {e : Env} {R : Room} {s : State} {m : MethodId} {args : Array Value} {below : List Frame} {meth : Method} {c : Code} {H : Heap} {locs : List Loc} {cells slots : Nat} {Q : State → Prop}
variable {mc ms : Nat} {free : Addr → Prop} {A0 A1 : Nat → Prop} {H0 : Heap} {a : Array Value} {ls : Array Slot} {st0 rest : List Value}
variable {Qc : Array Value → State → Outcome → State → Prop} {XC : String → State → State → Prop}
/-- what a body that may throw owes at its end -/
def vx_MQ (below : List Frame) (Qc : Array Value → State → Outcome → State → Prop) (XC : String → State → State → Prop) (a : Array Value) (s : State) (mc ms : Nat) (free : Addr → Prop) : State → Prop := fun t =>
  ∃ o, t.status = .running ∧ Ended t below o ∧ vx_Q Qc XC mc ms free a s o t
theorem vx_ret {g : JFrame} {mc ms : Nat} (k : W p l e R s m args below meth c H locs cells slots (MQ below Qc args s mc ms free) g) : W p l e R s m args below meth c H locs cells slots (vx_MQ below Qc XC args s mc ms free) g := by
  intro T hT X
  obtain ⟨t, a1, o, b1, b2, b3, b4⟩ := k T hT X
  exact ⟨t, a1, o, b1, b2, Or.inl ⟨b3, b4⟩⟩
/-- not caught here: it goes on to the caller -/
theorem vx_widen {g : JFrame} {q : Addr} {k n : Nat} (h1 : cells ≤ k) (h2 : slots ≤ n) (kk : vx_W p l e R s m args below meth c H locs k n Q g q) : vx_W p l e R s m args below meth c H locs cells slots Q g q := fun T hT X => kk T hT (stand_widen X h1 h2)
theorem vx_out {pc : Nat} {E : String} {ce : Cell} {q : Addr} {mc ms : Nat} (hout : ∀ x ∈ c.exceptionTable.toList, covers x pc = false) (hlocks : meth.locks = false) (hcell : H[q]? = some ce) (hv : ce.vm = .none) (hcl : s.vm.findClass E = some ce.cls)
    (hx : ∀ t : State, t.heap = H → s.vm.Alike t.vm → XC E s t) (hf : ∀ z ∈ locs, free z.base) (hc : cells ≤ mc) (hs : slots ≤ ms) :
    vx_W p l e R s m args below meth c H locs cells slots (vx_MQ below Qc XC args s mc ms free) (F0 m pc ls rest) q := by
  intro T hT X
  obtain ⟨st1, hrun, hend, hW, hsm⟩ := X.leaveThrown q (g := F0 m pc ls rest) rfl rfl rfl hout hlocks
  have hcell9 : (T.setFrames (.throwing q :: below)).heap[q]? = some ce := by
    show T.heap[q]? = some ce
    rw [hT]; exact hcell
  exact ⟨_, st1, .threw q, hrun, hend, Or.inr ⟨q, rfl, E, ce, locs, hx _ hT hW.alike, hcell9, hv, hcl, hW, hsm.mono hc hs, hf⟩⟩
theorem vx_frame {U : State} {k n : Nat} (h : s.sameButNew ({ U with vm := s.vm } : State) locs k n) : s.heap.size ≤ U.heap.size ∧ ∀ q : Nat, q < s.heap.size → (∀ z ∈ locs, z.base ≠ q) → U.heap[q]? = s.heap[q]? := by
  obtain ⟨-, h2, -, -, -, h6⟩ := h
  refine ⟨h2, fun q hq hz => ?_⟩
  obtain ⟨c9, e1, e2, e3, e4⟩ := h6 q _ (Array.getElem?_eq_getElem hq)
  have hs : c9.slots = (s.heap[q]).slots := Array.ext_getElem? fun i => e4 i fun hm => hz _ hm rfl
  have h9 : c9 = s.heap[q] := by
    rw [hs] at e2
    exact e2
  have e5 : U.heap[q]? = some c9 := e1
  rw [e5, h9, Array.getElem?_eq_getElem hq]
/-- the words of a throw but the four that speak of the heap -/
def vx_no (w : Cond) : Bool := decide (w ≠ .isRef (.static Bundle.tN "UNASSIGNED_STACK" Bundle.steD)) && decide (w ≠ .isRef (.static Bundle.tN "SUPPRESSED_SENTINEL" Bundle.listD)) && decide (w ≠ .laysStatic Bundle.tN "UNASSIGNED_STACK" Bundle.steD) && decide (w ≠ .laysStatic Bundle.tN "SUPPRESSED_SENTINEL" Bundle.listD)
def vx_at0 (own : String) (ic : Nat) (X : String) (names : List String) : List Cond := (Bundle.ownAtoms0 own ic X names).filter vx_no
def vx_atS (own : String) (ic : Nat) (X : String) (names : List String) : List Cond := (Bundle.ownAtoms own ic X names).filter vx_no
/-- a word that the tables alone decide, or a good one -/
def vx_ot (w : Cond) : Bool := w.onTables || goodWord w
theorem vx_ot_at {args a' : Array Value} {s U : State} {w : Cond} (hW : s.WarmedH U.vm) (hvm : s.vm = U.vm) (hg : vx_ot w = true) (h : w.before args s = true) : w.before a' U = true := by
  simp only [vx_ot, Bool.or_eq_true] at hg
  rcases hg with hg | hg
  · exact va_tabs hg hvm h
  · exact word_at hW (good_of_word hg) h
/-- a list's words: the good ones out of the method's own list, the others by premises of their own -/
theorem vx_hat {args : Array Value} {s : State} {L B : List Cond} (h1 : ∀ w ∈ L.filter goodWord, w.before args s = true) (h2 : ∀ w ∈ L.filter (fun w => !goodWord w), w ∈ B) (h3 : ∀ w ∈ B, w.before args s = true) : ∀ w ∈ L, w.before args s = true := by
  intro w hw
  by_cases g : goodWord w = true
  · exact h1 w (List.mem_filter.mpr ⟨hw, g⟩)
  · refine h3 w (h2 w (List.mem_filter.mpr ⟨hw, ?_⟩))
    show (!goodWord w) = true
    cases hgw : goodWord w
    · rfl
    · exact absurd hgw g
theorem vx_c {args : Array Value} {s : State} {w : Cond} {B : List Cond} (h : w.before args s = true) (t : ∀ w ∈ B, w.before args s = true) : ∀ w' ∈ w :: B, w'.before args s = true := fun w' h' => (List.mem_cons.mp h').elim (fun e => by rw [e]; exact h) (t w')
theorem vx_n {args : Array Value} {s : State} : ∀ w ∈ ([] : List Cond), w.before args s = true := fun _ h => nomatch h
theorem vx_own {args : Array Value} {s : State} {L : List Cond} (h1 : ∀ w ∈ L.filter vx_no, w.before args s = true)
    (hU : (Cond.isRef (.static Bundle.tN "UNASSIGNED_STACK" Bundle.steD)).before args s = true) (hN : (Cond.isRef (.static Bundle.tN "SUPPRESSED_SENTINEL" Bundle.listD)).before args s = true)
    (lU : (Cond.laysStatic Bundle.tN "UNASSIGNED_STACK" Bundle.steD).before args s = true) (lN : (Cond.laysStatic Bundle.tN "SUPPRESSED_SENTINEL" Bundle.listD).before args s = true) : ∀ w ∈ L, w.before args s = true := by
  intro w hw
  by_cases e1 : w = .isRef (.static Bundle.tN "UNASSIGNED_STACK" Bundle.steD)
  · rw [e1]; exact hU
  · by_cases e2 : w = .isRef (.static Bundle.tN "SUPPRESSED_SENTINEL" Bundle.listD)
    · rw [e2]; exact hN
    · by_cases e3 : w = .laysStatic Bundle.tN "UNASSIGNED_STACK" Bundle.steD
      · rw [e3]; exact lU
      · by_cases e4 : w = .laysStatic Bundle.tN "SUPPRESSED_SENTINEL" Bundle.listD
        · rw [e4]; exact lN
        · exact h1 w (List.mem_filter.mpr ⟨hw, by unfold vx_no; rw [decide_eq_true e1, decide_eq_true e2, decide_eq_true e3, decide_eq_true e4]; rfl⟩)
/-- where a static field lies, its class's statics cell in H -/
def vx_L (C n d : String) (A : Nat → Prop) (U : State) (H : Heap) : Prop := ∃ (c : ClassId) (k : Class) (i : Nat) (f : Field) (a : Nat) (cell : Cell), U.vm.findClass C = some c ∧ U.fieldFound? C n d = some (c, k, i, f) ∧ f.isStatic = true ∧ k.statics = some a ∧ H[a]? = some cell ∧ cell.vm.isStatics = true ∧ cell.cls = c ∧ f.slot < cell.slots.size ∧ k.staticTypes[f.slot]? = some f.type ∧ ¬ A a
theorem vx_L.moved {C n d : String} {A : Nat → Prop} {u U : State} {H : Heap} (hvm : u.vm.Alike U.vm) (h : vx_L C n d A u H) : vx_L C n d A U H := by
  obtain ⟨c, k, i, f, a, cell, h1, h2, h3, h4, h5, h6, h7, h8, h9, h10⟩ := h
  obtain ⟨k', hi', he⟩ := State.fieldFound?_setVm hvm h2
  exact ⟨c, k', i, f, a, cell, by rw [hvm.findClass]; exact h1, hi', h3, by rw [he]; exact h4, h5, h6, h7, h8, by rw [he]; exact h9, h10⟩
theorem vx_L.kept {C n d : String} {A : Nat → Prop} {U : State} {H H1 : Heap} (h : vx_L C n d A U H) (hq : ∀ a : Nat, a < H.size → ¬ A a → H1[a]? = H[a]?) : vx_L C n d A U H1 := by
  obtain ⟨c, k, i, f, a, cell, h1, h2, h3, h4, h5, h6, h7, h8, h9, h10⟩ := h
  exact ⟨c, k, i, f, a, cell, h1, h2, h3, h4, by rw [hq a (Array.getElem?_eq_some_iff.mp h5).1 h10]; exact h5, h6, h7, h8, h9, h10⟩
theorem vx_L.narrow {C n d : String} {A B : Nat → Prop} {U : State} {H : Heap} (h : vx_L C n d A U H) (hAB : ∀ q, B q → A q) : vx_L C n d B U H := by
  obtain ⟨c, k, i, f, a, cell, h1, h2, h3, h4, h5, h6, h7, h8, h9, h10⟩ := h
  exact ⟨c, k, i, f, a, cell, h1, h2, h3, h4, h5, h6, h7, h8, h9, fun z => h10 (hAB _ z)⟩
theorem vx_L.word {C n d : String} {A : Nat → Prop} {s : State} {args : Array Value} (h : vx_L C n d A s s.heap) : (Cond.laysStatic C n d).before args s = true := by
  obtain ⟨c, k, i, f, a, cell, h1, h2, h3, h4, h5, h6, h7, h8, h9, -⟩ := h
  show (Cond.laysStatic C n d).holds args s none s [] = true
  exact Cond.laysStatic_of h1 h2 h3 h4 h5 h6 h7 h8 h9
/-- .. and what it holds: null or some reference -/
def vx_Zq (C n d : String) (A : Nat → Prop) (U : State) (H : Heap) : Prop := va_Zq C n d A U H ∧ vx_L C n d A U H
theorem vx_Zq.moved {C n d : String} {A : Nat → Prop} {u U : State} {H : Heap} (hvm : u.vm.Alike U.vm) (h : vx_Zq C n d A u H) : vx_Zq C n d A U H := ⟨va_Zq.moved hvm h.1, vx_L.moved hvm h.2⟩
theorem vx_Zq.kept {C n d : String} {A : Nat → Prop} {U : State} {H H1 : Heap} (h : vx_Zq C n d A U H) (hq : ∀ a : Nat, a < H.size → ¬ A a → H1[a]? = H[a]?) : vx_Zq C n d A U H1 := ⟨va_Zq.kept h.1 hq, vx_L.kept h.2 hq⟩
theorem vx_Zq.narrow {C n d : String} {A B : Nat → Prop} {U : State} {H : Heap} (h : vx_Zq C n d A U H) (hAB : ∀ q, B q → A q) : vx_Zq C n d B U H := ⟨va_Zq.narrow h.1 hAB, vx_L.narrow h.2 hAB⟩
theorem vx_Zqof {args : Array Value} {s : State} {C n d : String} {A : Nat → Prop} (hl : (Cond.laysStatic C n d).before args s = true) (hini : (Cond.initialized C).before args s = true) (h : (Cond.isRef (.static C n d)).before args s = true) (hA : ∀ a : Nat, a < s.heap.size → ¬ A a) : vx_Zq C n d A s s.heap := by
  refine ⟨va_Zqof hl hini h hA, ?_⟩
  obtain ⟨c, k, i, f, a, cell, h1, h2, h3, h4, h5, h6, h7, h8, h9⟩ := Cond.laysStatic_spec hl
  exact ⟨c, k, i, f, a, cell, h1, h2, h3, h4, h5, h6, h7, h8, h9, hA a (Array.getElem?_eq_some_iff.mp h5).1⟩
theorem vx_isRef {C n d : String} {v : Value} {A : Nat → Prop} {s : State} {args : Array Value} (h : va_Z C n d v A s s.heap) (hv : v.isRef = true) : (Cond.isRef (.static C n d)).before args s = true := by
  obtain ⟨cf, kf, fi, f, a, cell, h1, h2, h3, h4, h5, h6, h7, -⟩ := h
  have he : (Term.static C n d).eval args s none [] s = some v := by
    simp [Term.eval, State.fieldNamed?, h1, h2, h4, h5, h6, h7]
  simp only [Cond.before, Cond.holds, Cond.value, he]
  cases v <;> simp_all [Value.isRef]
theorem vx_isRefq {C n d : String} {A : Nat → Prop} {s : State} {args : Array Value} (h : va_Zq C n d A s s.heap) : (Cond.isRef (.static C n d)).before args s = true := by
  rcases h with h | ⟨t, h⟩
  · exact vx_isRef h rfl
  · exact vx_isRef h rfl
/-- the same frame, seen from here: as if the method were called anew in this heap -/
theorem vx_rebase {T : State} (X : Stand p l e R s m args below meth c T locs cells slots) {R' : Room} (hf : R'.frames ≤ R.frames) (hl : R'.locals ≤ R.locals) (hc : cells + R'.cells ≤ R.cells) (hs : slots + R'.slots ≤ R.slots) :
    Stand p l e R' ((T.setVm s.vm).setFrames (.invoking m args :: below)) m args below meth c T [] 0 0 := by
  have htop : (T.setVm s.vm).topJava?.isSome := X.here.top
  have hF : ((T.setVm s.vm).setFrames (.invoking m args :: below)).frames = .invoking m args :: below := State.frames_setFrames _ (State.cur_lt_of_top htop)
  obtain ⟨g₀, hg0⟩ := Option.isSome_iff_exists.mp htop
  obtain ⟨r, hr⟩ := State.topJava?_eq_some.mp hg0
  have hl9 : e.platform.stackLimits (T.setVm s.vm).me = e.platform.stackLimits s.me := X.limits
  have hb9 : (T.setVm s.vm).me.stackBytes = s.me.stackBytes := X.bytes
  refine ⟨X.admits, X.cas, X.clock, hF, ?_, X.hears, X.method, X.code, X.here, X.tail, X.warmed, ?_, ?_, ?_⟩
  · have h := X.room
    have hU : ((T.setVm s.vm).setFrames (.invoking m args :: below)).localsInUse = s.localsInUse := by
      rw [State.localsInUse_invoking hF (meth := meth) (c := c) X.method X.code, State.localsInUse_invoking X.frames X.method X.code]
    simp only [State.hasRoom, Bool.and_eq_true, decide_eq_true_eq] at h ⊢
    obtain ⟨⟨⟨⟨h1, h2, h3, h4, h5, h6⟩, h7⟩, h8⟩, h9⟩ := h
    rw [X.frames, List.length_cons] at h2 h3
    have q1 := X.heapSize
    have q2 := X.used
    simp only [hF, hU, List.length_cons, State.stackLimits_setFrames, State.stackBytes_setFrames, hl9, hb9]
    refine ⟨⟨⟨⟨by omega, by omega, by omega, by omega, by omega, h6⟩, ?_⟩, ?_⟩, X.book⟩
    · show T.heap.size + R'.cells ≤ e.platform.maxCells
      omega
    · show T.slotsUsed + R'.slots ≤ e.platform.maxSlots
      omega
  · rw [State.stackLimits_setFrames]; rfl
  · rw [State.stackBytes_setFrames]; rfl
  · refine ⟨?_, Nat.le_refl _, Nat.le_refl _, ?_, ?_, fun a c9 h9 => ⟨c9, h9, rfl, rfl, fun _ _ => rfl⟩⟩
    · obtain ⟨t, ht, -⟩ := State.frames_cons hr
      show T.setVm s.vm = { ((T.setVm s.vm).setFrames (.invoking m args :: below)).setFrames (T.setVm s.vm).frames with heap := T.heap, slotsUsed := T.slotsUsed }
      rw [State.setFrames_setFrames, State.setFrames_self ht]
      rfl
    · show T.slotsUsed = T.slotsUsed + ((T.heap.toList.drop T.heap.size).map (·.slots.size)).sum
      rw [List.drop_eq_nil_of_le (Nat.le_of_eq Array.length_toList)]
      rfl
    · show ((T.heap.toList.drop T.heap.size).map (·.slots.size)).sum ≤ 0
      rw [List.drop_eq_nil_of_le (Nat.le_of_eq Array.length_toList)]
      exact Nat.le_refl _
/-- 'throw new E()': new; dup; invokespecial; athrow -/
theorem vx_throw0 {cc : ByteArray} {pc : Nat} (hexec : p.tables.exec = Jvm.exec) (hb : c.code = cc) (hl : l.stackTraces = false) {own cls : String} {names : List String} {ik ic mc ms : Nat} {A : Nat → Prop}
    (hown : s.vm.findClass own = some m.cls) (hcls : Bundle.fit cls = true) (hnames : ∀ n ∈ names, Bundle.fit n = true)
    (hk : (Cond.classLink own ik cls).before args s = true) (hini : (Cond.initialized cls).before args s = true) (hat : ∀ w ∈ vx_at0 own ic cls names, w.before args s = true)
    (hgood : ∀ w ∈ Cond.classLink own ik cls :: Cond.initialized cls :: vx_at0 own ic cls names, vx_ot w = true)
    (hU : vx_Zq Bundle.tN "UNASSIGNED_STACK" Bundle.steD A s s.heap) (hN : vx_Zq Bundle.tN "SUPPRESSED_SENTINEL" Bundle.listD A s s.heap) (hS : va_S A s.heap H locs) (hsize : ls.size = c.maxLocals)
    (d0 : decode cc pc = .ok (.new ik, 3)) (d3 : decode cc (pc + 3) = .ok (.dup, 1)) (d4 : decode cc (pc + 4) = .ok (.invokespecial ic, 3)) (d7 : decode cc (pc + 7) = .ok (.athrow, 1))
    (hout : ∀ x ∈ c.exceptionTable.toList, covers x (pc + 7) = false)
    (hRframes : names.length + 3 < R.frames) (hRlocals : (rest.map fun v => v.category).sum + (13 * (names.length + 1) + 42) ≤ R.locals) (hRcells : cells + 1 ≤ R.cells) (hRslots : slots + 6 ≤ R.slots) (hlocks : meth.locks = false)
    (hx : ∀ t : State, s.vm.Alike t.vm → H.size ≤ t.heap.size → (∀ q : Nat, q < H.size → t.heap[q]? = H[q]?) → XC cls s t)
    (hf : ∀ z ∈ locs, free z.base) (hc : cells + 1 ≤ mc) (hs : slots + 6 ≤ ms) :
    W p l e R s m args below meth c H locs cells slots (vx_MQ below Qc XC args s mc ms free) (F0 m pc ls rest) := by
  intro T hT X
  have htr : e.platform.stackTraces = false := (show e.platform.stackTraces = l.stackTraces by rw [X.admits.platform]).trans hl
  have Y := vx_rebase X (R' := { frames := R.frames, locals := R.locals, cells := 1, slots := 6 }) (Nat.le_refl _) (Nat.le_refl _) hRcells hRslots
  obtain ⟨s', hA⟩ : ∃ z, z = (T.setVm s.vm).setFrames (.invoking m args :: below) := ⟨_, rfl⟩
  rw [← hA] at Y
  have hvm : s'.vm = s.vm := by rw [hA]; rfl
  have hhp : s'.heap = H := by rw [hA]; exact hT
  have hW0 : s.WarmedH s'.vm := by rw [hvm]; exact State.WarmedH.refl s
  have hat' : ∀ w ∈ vx_at0 own ic cls names, w.before args s' = true := fun w hw => vx_ot_at hW0 hvm.symm (hgood w (List.mem_cons_of_mem _ (List.mem_cons_of_mem _ hw))) (hat w hw)
  have hk' : (Cond.classLink own ik cls).before args s' = true := vx_ot_at hW0 hvm.symm (hgood _ List.mem_cons_self) hk
  have hini' : (Cond.initialized cls).before args s' = true := vx_ot_at hW0 hvm.symm (hgood _ (List.mem_cons_of_mem _ List.mem_cons_self)) hini
  have hU' : vx_Zq Bundle.tN "UNASSIGNED_STACK" Bundle.steD A s' s'.heap := by rw [hhp]; exact vx_Zq.moved hW0.alike (hU.kept hS.2.1)
  have hN' : vx_Zq Bundle.tN "SUPPRESSED_SENTINEL" Bundle.listD A s' s'.heap := by rw [hhp]; exact vx_Zq.moved hW0.alike (hN.kept hS.2.1)
  have h : ∀ w ∈ Bundle.ownAtoms0 own ic cls names, w.before args s' = true := vx_own hat' (vx_isRefq hU'.1) (vx_isRefq hN'.1) hU'.2.word hN'.2.word
  have hown' : s'.vm.findClass own = some m.cls := by rw [hvm]; exact hown
  have hins : (Cond.instantiable cls 6).before args s' = true := h _ (by simp [Bundle.ownAtoms0])
  obtain ⟨vm₁, cX, kX, hfX, hkX, -, -, X₁, st1⟩ := Y.newCold hexec (own := own) (C := cls) (index := ik) (n := 6) hown' hk' hins hini'
    (g := F0 m pc ls rest) rfl (by rw [hb]; exact d0) (Nat.le_refl _) (Nat.le_refl _)
  generalize hT1 : (T.setVm vm₁).pushCell { cls := cX, slots := kX.instanceTypes.map defaultValue, vm := .none } = T1 at X₁ st1
  have hcat : (Value.ref T.heap.size).category = 1 := rfl
  have hcellA : T1.heap[T.heap.size]? = some (freshCell cX kX) := by rw [← hT1]; exact State.heap_pushCell_size _ _
  have d3' : decode c.code (pc + 3) = .ok (.dup, 1) := by rw [hb]; exact d3
  obtain ⟨U, hsteps, hrun, hend, hW, hsame, ce, hce, hO⟩ := X₁.ctorThrow0 hexec htr (own := own) (cls := cls) (names := names) (ic := ic) hown' hcls hnames h (fun x hx => nomatch hx) hfX hkX hcellA (by rw [hhp, hT]; exact Nat.le_refl _)
    (g := { method := m, pc := pc + 4, locals := ls, stack := .ref T.heap.size :: .ref T.heap.size :: rest, locked := none }) rfl hsize rfl rfl (rest := rest) rfl
    (by rw [hb]; exact d4) (by rw [hb]; exact d7) hout hRframes (by simp only [List.map_cons, List.sum_cons, hcat]; omega) hlocks
  obtain ⟨f1, f2⟩ := vx_frame hsame
  rw [hhp] at f1 f2
  have hWs : s.WarmedH U.vm := State.WarmedH.trans hW0 hW
  have hcl : s.vm.findClass cls = some ce.cls := by
    have h9 := hO.cls
    rw [hvm] at h9
    exact h9
  have hall : s.sameButNew ({ U with vm := s.vm } : State) locs mc ms := by
    subst hA
    obtain ⟨e1, e2⟩ := hsame
    rw [State.setFrames_setFrames] at e1
    have h2 : (T.setVm s.vm).sameButNew ({ U with vm := s.vm } : State) [] (0 + 1) (0 + 6) := ⟨e1, e2⟩
    have h3 := X.same.trans h2
    rw [List.append_nil] at h3
    exact h3.mono hc hs
  refine ⟨U, ?_, .threw T.heap.size, hrun, hend, Or.inr ⟨T.heap.size, rfl, cls, ce, locs, hx U hWs.alike f1 (fun q hq => f2 q hq (fun z hz => nomatch hz)), hce, hO.vm, hcl, hWs, hall, hf⟩⟩
  refine st1 _ ?_
  show Steps p.tables e below (T1.setTop { method := m, pc := pc + 3, locals := ls, stack := .ref T.heap.size :: rest, locked := none }) _
  jvm_step X₁.here [X₁.here.top, hexec, d3', Value.category]
  exact hsteps
/-- 'throw new E("text")': new; dup; ldc; invokespecial; athrow -/
theorem vx_throwS {cc : ByteArray} {pc : Nat} (hexec : p.tables.exec = Jvm.exec) (hb : c.code = cc) (hl : l.stackTraces = false) {own cls text : String} {names : List String} {ik is ic mc ms sa : Nat} {A : Nat → Prop}
    (hown : s.vm.findClass own = some m.cls) (hcls : Bundle.fit cls = true) (hnames : ∀ n ∈ names, Bundle.fit n = true)
    (hk : (Cond.classLink own ik cls).before args s = true) (hini : (Cond.initialized cls).before args s = true) (hstr : vk_R own is text sa s) (hat : ∀ w ∈ vx_atS own ic cls names, w.before args s = true)
    (hgood : ∀ w ∈ Cond.classLink own ik cls :: Cond.initialized cls :: vx_atS own ic cls names, vx_ot w = true)
    (hU : vx_Zq Bundle.tN "UNASSIGNED_STACK" Bundle.steD A s s.heap) (hN : vx_Zq Bundle.tN "SUPPRESSED_SENTINEL" Bundle.listD A s s.heap) (hS : va_S A s.heap H locs) (hsize : ls.size = c.maxLocals)
    (d0 : decode cc pc = .ok (.new ik, 3)) (d3 : decode cc (pc + 3) = .ok (.dup, 1)) (d4 : decode cc (pc + 4) = .ok (.ldc is, 2)) (d6 : decode cc (pc + 6) = .ok (.invokespecial ic, 3)) (d9 : decode cc (pc + 9) = .ok (.athrow, 1))
    (hout : ∀ x ∈ c.exceptionTable.toList, covers x (pc + 9) = false)
    (hRframes : names.length + 3 < R.frames) (hRlocals : (rest.map fun v => v.category).sum + (13 * (names.length + 1) + 43) ≤ R.locals) (hRcells : cells + 1 ≤ R.cells) (hRslots : slots + 6 ≤ R.slots) (hlocks : meth.locks = false)
    (hx : ∀ t : State, s.vm.Alike t.vm → H.size ≤ t.heap.size → (∀ q : Nat, q < H.size → t.heap[q]? = H[q]?) → XC cls s t)
    (hf : ∀ z ∈ locs, free z.base) (hc : cells + 1 ≤ mc) (hs : slots + 6 ≤ ms) :
    W p l e R s m args below meth c H locs cells slots (vx_MQ below Qc XC args s mc ms free) (F0 m pc ls rest) := by
  intro T hT X
  have htr : e.platform.stackTraces = false := (show e.platform.stackTraces = l.stackTraces by rw [X.admits.platform]).trans hl
  have Y := vx_rebase X (R' := { frames := R.frames, locals := R.locals, cells := 1, slots := 6 }) (Nat.le_refl _) (Nat.le_refl _) hRcells hRslots
  obtain ⟨s', hA⟩ : ∃ z, z = (T.setVm s.vm).setFrames (.invoking m args :: below) := ⟨_, rfl⟩
  rw [← hA] at Y
  have hvm : s'.vm = s.vm := by rw [hA]; rfl
  have hhp : s'.heap = H := by rw [hA]; exact hT
  have hW0 : s.WarmedH s'.vm := by rw [hvm]; exact State.WarmedH.refl s
  have hat' : ∀ w ∈ vx_atS own ic cls names, w.before args s' = true := fun w hw => vx_ot_at hW0 hvm.symm (hgood w (List.mem_cons_of_mem _ (List.mem_cons_of_mem _ hw))) (hat w hw)
  have hk' : (Cond.classLink own ik cls).before args s' = true := vx_ot_at hW0 hvm.symm (hgood _ List.mem_cons_self) hk
  have hini' : (Cond.initialized cls).before args s' = true := vx_ot_at hW0 hvm.symm (hgood _ (List.mem_cons_of_mem _ List.mem_cons_self)) hini
  have hU' : vx_Zq Bundle.tN "UNASSIGNED_STACK" Bundle.steD A s' s'.heap := by rw [hhp]; exact vx_Zq.moved hW0.alike (hU.kept hS.2.1)
  have hN' : vx_Zq Bundle.tN "SUPPRESSED_SENTINEL" Bundle.listD A s' s'.heap := by rw [hhp]; exact vx_Zq.moved hW0.alike (hN.kept hS.2.1)
  have h : ∀ w ∈ Bundle.ownAtoms own ic cls names, w.before args s' = true := vx_own hat' (vx_isRefq hU'.1) (vx_isRefq hN'.1) hU'.2.word hN'.2.word
  have hown' : s'.vm.findClass own = some m.cls := by rw [hvm]; exact hown
  have hins : (Cond.instantiable cls 6).before args s' = true := h _ (by simp [Bundle.ownAtoms])
  obtain ⟨vm₁, cX, kX, hfX, hkX, -, -, X₁, st1⟩ := Y.newCold hexec (own := own) (C := cls) (index := ik) (n := 6) hown' hk' hins hini'
    (g := F0 m pc ls rest) rfl (by rw [hb]; exact d0) (Nat.le_refl _) (Nat.le_refl _)
  generalize hT1 : (T.setVm vm₁).pushCell { cls := cX, slots := kX.instanceTypes.map defaultValue, vm := .none } = T1 at X₁ st1
  have hcat : (Value.ref T.heap.size).category = 1 := rfl
  have hcellA : T1.heap[T.heap.size]? = some (freshCell cX kX) := by rw [← hT1]; exact State.heap_pushCell_size _ _
  have d3' : decode c.code (pc + 3) = .ok (.dup, 1) := by rw [hb]; exact d3
  have d4' : decode c.code (pc + 4) = .ok (.ldc is, 2) := by rw [hb]; exact d4
  have hstr' : vk_R own is text sa s' := vk_R.warm hW0 hstr
  obtain ⟨U, hsteps, hrun, hend, hW, hsame, ce, hce, hO⟩ := X₁.ctorThrowS hexec htr (own := own) (cls := cls) (names := names) (ic := ic) hown' hcls hnames h (fun x hx => nomatch hx) hfX hkX hcellA (by rw [hhp, hT]; exact Nat.le_refl _) (msg := .ref sa) rfl
    (g := { method := m, pc := pc + 6, locals := ls, stack := .ref sa :: .ref T.heap.size :: .ref T.heap.size :: rest, locked := none }) rfl hsize rfl rfl (rest := rest) rfl
    (by rw [hb]; exact d6) (by rw [hb]; exact d9) hout hRframes (by simp only [List.map_cons, List.sum_cons, hcat]; omega) hlocks
  obtain ⟨f1, f2⟩ := vx_frame hsame
  rw [hhp] at f1 f2
  have hWs : s.WarmedH U.vm := State.WarmedH.trans hW0 hW
  have hcl : s.vm.findClass cls = some ce.cls := by
    have h9 := hO.cls
    rw [hvm] at h9
    exact h9
  have hall : s.sameButNew ({ U with vm := s.vm } : State) locs mc ms := by
    subst hA
    obtain ⟨e1, e2⟩ := hsame
    rw [State.setFrames_setFrames] at e1
    have h2 : (T.setVm s.vm).sameButNew ({ U with vm := s.vm } : State) [] (0 + 1) (0 + 6) := ⟨e1, e2⟩
    have h3 := X.same.trans h2
    rw [List.append_nil] at h3
    exact h3.mono hc hs
  refine ⟨U, ?_, .threw T.heap.size, hrun, hend, Or.inr ⟨T.heap.size, rfl, cls, ce, locs, hx U hWs.alike f1 (fun q hq => f2 q hq (fun z hz => nomatch hz)), hce, hO.vm, hcl, hWs, hall, hf⟩⟩
  refine st1 _ ?_
  show Steps p.tables e below (T1.setTop { method := m, pc := pc + 3, locals := ls, stack := .ref T.heap.size :: rest, locked := none }) _
  jvm_step X₁.here [X₁.here.top, hexec, d3', Value.category]
  exact X₁.ldcString hexec (own := own) (text := text) (index := is) (a := sa) hown' hstr'.1 hstr'.2
    (g := { method := m, pc := pc + 4, locals := ls, stack := .ref T.heap.size :: .ref T.heap.size :: rest, locked := none }) rfl d4' _ hsteps
/-- 'throw new E("text")', the text by a wide index -/
theorem vx_throwSW {cc : ByteArray} {pc : Nat} (hexec : p.tables.exec = Jvm.exec) (hb : c.code = cc) (hl : l.stackTraces = false) {own cls text : String} {names : List String} {ik is ic mc ms sa : Nat} {A : Nat → Prop}
    (hown : s.vm.findClass own = some m.cls) (hcls : Bundle.fit cls = true) (hnames : ∀ n ∈ names, Bundle.fit n = true)
    (hk : (Cond.classLink own ik cls).before args s = true) (hini : (Cond.initialized cls).before args s = true) (hstr : vk_R own is text sa s) (hat : ∀ w ∈ vx_atS own ic cls names, w.before args s = true)
    (hgood : ∀ w ∈ Cond.classLink own ik cls :: Cond.initialized cls :: vx_atS own ic cls names, vx_ot w = true)
    (hU : vx_Zq Bundle.tN "UNASSIGNED_STACK" Bundle.steD A s s.heap) (hN : vx_Zq Bundle.tN "SUPPRESSED_SENTINEL" Bundle.listD A s s.heap) (hS : va_S A s.heap H locs) (hsize : ls.size = c.maxLocals)
    (d0 : decode cc pc = .ok (.new ik, 3)) (d3 : decode cc (pc + 3) = .ok (.dup, 1)) (d4 : decode cc (pc + 4) = .ok (.ldc_w is, 3)) (d7 : decode cc (pc + 7) = .ok (.invokespecial ic, 3)) (d10 : decode cc (pc + 10) = .ok (.athrow, 1))
    (hout : ∀ x ∈ c.exceptionTable.toList, covers x (pc + 10) = false)
    (hRframes : names.length + 3 < R.frames) (hRlocals : (rest.map fun v => v.category).sum + (13 * (names.length + 1) + 43) ≤ R.locals) (hRcells : cells + 1 ≤ R.cells) (hRslots : slots + 6 ≤ R.slots) (hlocks : meth.locks = false)
    (hx : ∀ t : State, s.vm.Alike t.vm → H.size ≤ t.heap.size → (∀ q : Nat, q < H.size → t.heap[q]? = H[q]?) → XC cls s t)
    (hf : ∀ z ∈ locs, free z.base) (hc : cells + 1 ≤ mc) (hs : slots + 6 ≤ ms) :
    W p l e R s m args below meth c H locs cells slots (vx_MQ below Qc XC args s mc ms free) (F0 m pc ls rest) := by
  intro T hT X
  have htr : e.platform.stackTraces = false := (show e.platform.stackTraces = l.stackTraces by rw [X.admits.platform]).trans hl
  have Y := vx_rebase X (R' := { frames := R.frames, locals := R.locals, cells := 1, slots := 6 }) (Nat.le_refl _) (Nat.le_refl _) hRcells hRslots
  obtain ⟨s', hA⟩ : ∃ z, z = (T.setVm s.vm).setFrames (.invoking m args :: below) := ⟨_, rfl⟩
  rw [← hA] at Y
  have hvm : s'.vm = s.vm := by rw [hA]; rfl
  have hhp : s'.heap = H := by rw [hA]; exact hT
  have hW0 : s.WarmedH s'.vm := by rw [hvm]; exact State.WarmedH.refl s
  have hat' : ∀ w ∈ vx_atS own ic cls names, w.before args s' = true := fun w hw => vx_ot_at hW0 hvm.symm (hgood w (List.mem_cons_of_mem _ (List.mem_cons_of_mem _ hw))) (hat w hw)
  have hk' : (Cond.classLink own ik cls).before args s' = true := vx_ot_at hW0 hvm.symm (hgood _ List.mem_cons_self) hk
  have hini' : (Cond.initialized cls).before args s' = true := vx_ot_at hW0 hvm.symm (hgood _ (List.mem_cons_of_mem _ List.mem_cons_self)) hini
  have hU' : vx_Zq Bundle.tN "UNASSIGNED_STACK" Bundle.steD A s' s'.heap := by rw [hhp]; exact vx_Zq.moved hW0.alike (hU.kept hS.2.1)
  have hN' : vx_Zq Bundle.tN "SUPPRESSED_SENTINEL" Bundle.listD A s' s'.heap := by rw [hhp]; exact vx_Zq.moved hW0.alike (hN.kept hS.2.1)
  have h : ∀ w ∈ Bundle.ownAtoms own ic cls names, w.before args s' = true := vx_own hat' (vx_isRefq hU'.1) (vx_isRefq hN'.1) hU'.2.word hN'.2.word
  have hown' : s'.vm.findClass own = some m.cls := by rw [hvm]; exact hown
  have hins : (Cond.instantiable cls 6).before args s' = true := h _ (by simp [Bundle.ownAtoms])
  obtain ⟨vm₁, cX, kX, hfX, hkX, -, -, X₁, st1⟩ := Y.newCold hexec (own := own) (C := cls) (index := ik) (n := 6) hown' hk' hins hini'
    (g := F0 m pc ls rest) rfl (by rw [hb]; exact d0) (Nat.le_refl _) (Nat.le_refl _)
  generalize hT1 : (T.setVm vm₁).pushCell { cls := cX, slots := kX.instanceTypes.map defaultValue, vm := .none } = T1 at X₁ st1
  have hcat : (Value.ref T.heap.size).category = 1 := rfl
  have hcellA : T1.heap[T.heap.size]? = some (freshCell cX kX) := by rw [← hT1]; exact State.heap_pushCell_size _ _
  have d3' : decode c.code (pc + 3) = .ok (.dup, 1) := by rw [hb]; exact d3
  have d4' : decode c.code (pc + 4) = .ok (.ldc_w is, 3) := by rw [hb]; exact d4
  have hstr' : vk_R own is text sa s' := vk_R.warm hW0 hstr
  obtain ⟨U, hsteps, hrun, hend, hW, hsame, ce, hce, hO⟩ := X₁.ctorThrowS hexec htr (own := own) (cls := cls) (names := names) (ic := ic) hown' hcls hnames h (fun x hx => nomatch hx) hfX hkX hcellA (by rw [hhp, hT]; exact Nat.le_refl _) (msg := .ref sa) rfl
    (g := { method := m, pc := pc + 7, locals := ls, stack := .ref sa :: .ref T.heap.size :: .ref T.heap.size :: rest, locked := none }) rfl hsize rfl rfl (rest := rest) rfl
    (by rw [hb]; exact d7) (by rw [hb]; exact d10) hout hRframes (by simp only [List.map_cons, List.sum_cons, hcat]; omega) hlocks
  obtain ⟨f1, f2⟩ := vx_frame hsame
  rw [hhp] at f1 f2
  have hWs : s.WarmedH U.vm := State.WarmedH.trans hW0 hW
  have hcl : s.vm.findClass cls = some ce.cls := by
    have h9 := hO.cls
    rw [hvm] at h9
    exact h9
  have hall : s.sameButNew ({ U with vm := s.vm } : State) locs mc ms := by
    subst hA
    obtain ⟨e1, e2⟩ := hsame
    rw [State.setFrames_setFrames] at e1
    have h2 : (T.setVm s.vm).sameButNew ({ U with vm := s.vm } : State) [] (0 + 1) (0 + 6) := ⟨e1, e2⟩
    have h3 := X.same.trans h2
    rw [List.append_nil] at h3
    exact h3.mono hc hs
  refine ⟨U, ?_, .threw T.heap.size, hrun, hend, Or.inr ⟨T.heap.size, rfl, cls, ce, locs, hx U hWs.alike f1 (fun q hq => f2 q hq (fun z hz => nomatch hz)), hce, hO.vm, hcl, hWs, hall, hf⟩⟩
  refine st1 _ ?_
  show Steps p.tables e below (T1.setTop { method := m, pc := pc + 3, locals := ls, stack := .ref T.heap.size :: rest, locked := none }) _
  jvm_step X₁.here [X₁.here.top, hexec, d3', Value.category]
  exact X₁.ldcStringW hexec (own := own) (text := text) (index := is) (a := sa) hown' hstr'.1 hstr'.2
    (g := { method := m, pc := pc + 4, locals := ls, stack := .ref T.heap.size :: .ref T.heap.size :: rest, locked := none }) rfl d4' _ hsteps
end Ends
section Bodies
variable {l : Launch}
theorem vx_ofW {y : MethodName} {ws ws' : List Cond} {rm : Room} {Pc : Array Value → State → Prop} {Qc : Array Value → State → Outcome → State → Prop} {XC : String → State → State → Prop} {mc ms : Nat} {free : Addr → Prop} {cc : ByteArray} {maxL : Nat} {ret : Option FieldType}
    (hy : plainName y.cls = true) (hw : ws = Cond.code y cc maxL ret :: ws')
    (body : ∀ p e s m args below meth c s₁, BodyLoose p l y (headSpec ws rm) cc maxL ret e s m args below meth c s₁ → c.maxLocals = maxL → (∀ x ∈ c.exceptionTable.toList, False) → Pc args s →
      W p l e (headSpec ws rm).room s m args below meth c s.heap [] 0 0 (vx_MQ below Qc XC args s mc ms free) (entryFrame m args maxL)) : vx_Met l y ws rm Pc Qc XC mc ms free := by
  refine MetFree.of_bodyS (code := cc) (maxLocals := maxL) (ret := ret) hy ?_ ?_
  · intro args s m h hn
    obtain ⟨meth, c, h1, h2, h3, h4, h5, h6, -, -⟩ := Cond.code_spec hn (atoms_spec (ws := ws) h _ (by rw [hw]; exact List.mem_cons_self))
    exact ⟨meth, c, h1, h2, h3, h4, h5, h6⟩
  · intro p e s m args below meth c s₁ B hml hP _
    have hh0 : s₁.heap = s.heap := by rw [B.state]; rfl
    have ht : ∀ x ∈ c.exceptionTable.toList, False := by
      obtain ⟨meth9, c9, h1, h2, -, -, -, -, h7, -⟩ := Cond.code_spec B.named (atoms_spec (ws := ws) B.pre _ (by rw [hw]; exact List.mem_cons_self))
      cases Option.some.inj (h1.symm.trans B.method)
      cases Option.some.inj (h2.symm.trans (Stand.of_body B).code)
      intro x hx
      rw [Array.isEmpty_iff.mp h7] at hx
      cases hx
    obtain ⟨t, a1, o, b1, b2, b3⟩ := body p e s m args below meth c s₁ B hml ht hP s₁ hh0 (Stand.of_body B)
    exact ⟨t, o, a1, b1, b2, b3⟩
/-- the table of a body with handlers -/
theorem vx_table {p : Program} {x y : MethodName} {S : Spec} {cc bytes : ByteArray} {maxL maxL' : Nat} {ret ret' : Option FieldType} {e : Env} {s s₁ : State} {m : MethodId} {args : Array Value} {below : List Frame} {meth : Method} {c : Code} {hh : List (Nat × Nat × Nat × Nat)}
    (B : BodyLoose p l y S cc maxL ret e s m args below meth c s₁) (h : (Cond.codeWith y bytes maxL' ret' hh).before args s = true) : c.exceptionTable.toList = tableOf hh := by
  obtain ⟨m9, meth9, c9, hn9, h1, h2, -, -, h6, -⟩ := Cond.codeWith_spec h
  cases Option.some.inj (hn9.symm.trans B.named)
  cases Option.some.inj (h1.symm.trans B.method)
  cases Option.some.inj (h2.symm.trans (Stand.of_body B).code)
  rw [← h6, table_eq]
end Bodies
end VXA
/-! ===== END ===== -/
/-! ===== BEGIN a static call of a method with an exception table ===== -/
section VXS
variable {p : Program} {l : Launch} {e : Env} {R : Room} {s : State} {m : MethodId} {args : Array Value} {below : List Frame} {meth : Method} {c : Code} {T : State} {H : Heap} {locs : List Loc} {cells slots : Nat}
abbrev vx_CSW (R : Room) (s : State) (args : Array Value) (own : String) (index : Nat) (y : MethodName) (bytes : ByteArray) (maxL : Nat) (ret : Option FieldType) (hh : List (Nat × Nat × Nat × Nat)) (ws : List Cond) (rm : Room) (mc ms n : Nat) : Prop :=
  (rm.cells = mc ∧ rm.slots = ms ∧ rm.frames + 1 ≤ R.frames ∧ 8 + (maxL + 11) + rm.locals ≤ R.locals ∧ (∀ w ∈ ws, ∀ (a' : Array Value) (U : State), s.WarmedH U.vm → w.before a' U = true) ∧ Cond.codeWith y bytes maxL ret hh ∈ ws) ∧
  (Cond.codeWith y bytes maxL ret hh).before args s = true ∧ (Cond.initialized y.cls).before args s = true ∧ (y.cls ≠ "java/lang/invoke/MethodHandle" ∧ y.cls ≠ "java/lang/invoke/VarHandle") ∧
  (∀ sig, parseMethodDescriptor y.desc = some sig → n = sig.parameters.length) ∧ (Cond.methodLink own index y).before args s = true ∧ (Cond.static y).before args s = true
theorem vx_cwSW {own : String} {index maxL mc ms : Nat} {y : MethodName} {bytes : ByteArray} {ret : Option FieldType} {hh : List (Nat × Nat × Nat × Nat)} {Ts ws ws' : List Cond} {rm : Room} (n : Nat) (ht : ∀ w ∈ Ts, w.before args s = true) (hT : GoodIn Ts (va_wsS own index y ws)) (hw : ws = Cond.codeWith y bytes maxL ret hh :: ws') (hrc : rm.cells = mc) (hrs : rm.slots = ms)
    (hd : y.cls ≠ "java/lang/invoke/MethodHandle" ∧ y.cls ≠ "java/lang/invoke/VarHandle" ∧ (parseMethodDescriptor y.desc).map (fun d => d.parameters.length) = some n) (hR : rm.frames + 1 ≤ R.frames ∧ 8 + (maxL + 11) + rm.locals ≤ R.locals) :
    vx_CSW R s args own index y bytes maxL ret hh ws rm mc ms n := by
  have ok : ∀ w ∈ va_wsS own index y ws, w.before args s = true := fun w h => ht w (hT w h).1
  have hG : GoodIn Ts ws := fun w h => hT w (by unfold va_wsS; exact List.mem_append_right _ h)
  have hc : Cond.codeWith y bytes maxL ret hh ∈ ws := by rw [hw]; exact List.mem_cons_self
  refine ⟨⟨hrc, hrs, hR.1, hR.2, pay_in ht hG, hc⟩, ht _ (hG _ hc).1, ok _ (by simp [va_wsS]), ⟨hd.1, hd.2.1⟩, fun sig h => ?_, ok _ (by simp [va_wsS]), ok _ (by simp [va_wsS])⟩
  have h2 := hd.2.2
  rw [h] at h2
  exact (Option.some.inj h2).symm
theorem vx_callSW (X : Stand p l e R s m args below meth c T locs cells slots) (hexec : p.tables.exec = Jvm.exec) {own : String} {index : Nat} {y : MethodName} {bytes : ByteArray} {maxL : Nat} {ret : Option FieldType} {hh : List (Nat × Nat × Nat × Nat)}
    (hown : s.vm.findClass own = some m.cls) (hlink : (Cond.methodLink own index y).before args s = true) (hstat : (Cond.static y).before args s = true) (hinit : (Cond.initialized y.cls).before args s = true)
    (hcode : (Cond.codeWith y bytes maxL ret hh).before args s = true) (hy : y.cls ≠ "java/lang/invoke/MethodHandle" ∧ y.cls ≠ "java/lang/invoke/VarHandle")
    {W9 : Nat} {Pre : Pt → Array Value → Prop} {Post : Pt → Array Value → Option Value → Pt → Prop} (hK : Back l R p e below s args y 3 W9 Pre Post)
    {g : JFrame} (hg : g.method = m) (hsize : g.locals.size = c.maxLocals) {argsL rest : List Value} (hlen : ∀ sig, parseMethodDescriptor y.desc = some sig → argsL.length = sig.parameters.length)
    (hstack : g.stack = argsL.reverse ++ rest) (hW : 2 * g.monitorRoom + (rest.map fun v => v.category).sum ≤ W9) (hdg : decode c.code g.pc = .ok (.invokestatic index, 3))
    (hpre : ∀ vm₁, s.WarmedH vm₁ → Pre ⟨T.setVm vm₁, locs, cells, slots⟩ argsL.toArray) :
    ∃ (v : Option Value) (vm₁ : Vm) (B : Pt), s.WarmedH vm₁ ∧ Stand p l e R s m args below meth c B.U B.locs B.cells B.slots ∧ Post ⟨T.setVm vm₁, locs, cells, slots⟩ argsL.toArray v B ∧
      ∀ target, Steps p.tables e below (B.U.setTop { g with pc := g.pc + 3, stack := v.toList ++ rest }) target → Steps p.tables e below (T.setTop g) target := by
  obtain ⟨mk, methM, cM, hnamed, hmethM, -, -, -, -, -, -, hsigM⟩ := Cond.codeWith_spec hcode
  have hstatic : methM.isStatic = true := Cond.static_spec hnamed hmethM hstat
  obtain ⟨kP, hkP, -⟩ := className_of_methodNamed hnamed
  have hinitP : kP.init = .initialized := Cond.initialized_spec (findClass_of_methodNamed hnamed) hkP hinit
  obtain ⟨vm₁, X₁, hstep₁⟩ := X.invokestatic hexec hown hlink hnamed hmethM hstatic hkP hinitP hy (g := g) hg (argsL := argsL) (rest := rest) (hlen _ hsigM) hstack hdg
  obtain ⟨v, B, X', hpost, hsteps⟩ := hK m meth c ⟨T.setVm vm₁, locs, cells, slots⟩ { g with stack := rest } (.invokestatic index) mk argsL.toArray X₁ hg hsize hdg hW (X₁.named hnamed) (hpre vm₁ X₁.warmed)
  exact ⟨v, vm₁, B, X₁.warmed, X', hpost, fun target h => hstep₁ _ fun acts => by rw [doInvoke_state]; exact hsteps.trans h⟩
theorem vx_runSW {y : MethodName} {bytes cc : ByteArray} {maxL nL mc ms n index : Nat} {ret : Option FieldType} {hh : List (Nat × Nat × Nat × Nat)} {ws : List Cond} {rm : Room} {Pc : Array Value → State → Prop} {Qc : Array Value → State → Outcome → State → Prop} {free : Addr → Prop} {Ts : List Cond} {own : String} {As rest : List Value} {g : JFrame}
    (S : CallFix p m c cc nL s args Ts own) (hM : Met l y ws rm Pc Qc mc ms free) (cw : vx_CSW R s args own index y bytes maxL ret hh ws rm mc ms n) (hp : PreS s H Pc As)
    (hg : g.method = m) (hn : As.length = n) (hsize : g.locals.size = nL) (hstack : g.stack = As.reverse ++ rest) (hW : 2 * g.monitorRoom + (rest.map fun v => v.category).sum ≤ 8) (hdg : decode cc g.pc = .ok (.invokestatic index, 3)) (hf : cells + mc ≤ R.cells ∧ slots + ms ≤ R.slots) :
    va_Run p l e R s m args below meth c H locs cells slots mc ms g rest (Qc As.toArray) (free) := by
  obtain ⟨⟨hrc, hrs, hfr, hlo, hws, hcw⟩, hcode, hini, hy, hlen, hl, hstt⟩ := cw
  have hK : Back l R p e below s args y 3 8 (PreOf R mc ms Pc) (PostOf Qc mc ms free) := va_backW (hh := hh) (bytes := bytes) (maxL := maxL) (ret := ret) hM hp.1 hrc hrs hfr hlo hws hcw (fun a' U hW => word_at hW (Or.inl (by first | rfl | simp [Cond.onTables, Cond.keeps, Cond.steady])) hini)
  obtain ⟨hx, hb, hml, ho, -⟩ := S
  intro T hT X
  obtain ⟨v, vm₁, ⟨U', l2, c2, s2⟩, hW₁, X', ⟨g', mk, t, L, e1, e2, hq, h1, hL, h2, h3⟩, st⟩ := vx_callSW X hx (hh := hh) (bytes := bytes) (maxL := maxL) (ret := ret) ho hl hstt hini hcode hy hK hg (hsize.trans hml.symm) (argsL := As) (rest := rest) (fun sig h => hn.trans (hlen sig h)) hstack hW (by rw [hb]; exact hdg)
    (fun vm₁ hW₁ => ⟨hf.1, hf.2, hp.2 (T.setVm vm₁) hT hW₁⟩)
  dsimp only [Pt.U, Pt.locs, Pt.cells, Pt.slots] at X' e1 e2 h1 h2 h3 st
  subst h1; subst h2; subst h3
  exact ⟨v, (T.setVm vm₁).calling g' mk As.toArray, t, U', L, hT, X', hL, e1, e2, hq, st⟩
/-- not caught here, past rows that name other classes: it goes on to the caller -/
theorem vx_outP {p : Program} {l : Launch} {e : Env} {R : Room} {s : State} {m : MethodId} {args : Array Value} {below : List Frame} {meth : Method} {c : Code} {H : Heap} {locs : List Loc} {cells slots : Nat} {free : Addr → Prop} {ls : Array Slot} {rest : List Value} {Qc : Array Value → State → Outcome → State → Prop} {XC : String → State → State → Prop}
    {pc : Nat} {own E : String} {ce : Cell} {q : Addr} {mc ms : Nat} (hown : s.vm.findClass own = some m.cls) (hlocks : meth.locks = false)
    (hpass : ∀ z ∈ c.exceptionTable.toList, covers z pc = false ∨ (z.catchType ≠ 0 ∧ ∃ nm : String, (Cond.classLink own z.catchType nm).before args s = true ∧ va_Nc E nm s)) (hcell : H[q]? = some ce) (hv : ce.vm = .none) (hcl : s.vm.findClass E = some ce.cls)
    (hx : ∀ t : State, t.heap = H → s.vm.Alike t.vm → XC E s t) (hf : ∀ z ∈ locs, free z.base) (hc : cells ≤ mc) (hs : slots ≤ ms) :
    vx_W p l e R s m args below meth c H locs cells slots (vx_MQ below Qc XC args s mc ms free) (F0 m pc ls rest) q := by
  intro T hT X
  have hpl : e.platform.magicAccessors = ({} : Platform).magicAccessors := by rw [X.admits.platform]
  obtain ⟨vm', hW', X', st⟩ := X.outThrough hlocks q (g := F0 m pc ls rest) rfl rfl rfl (cell := ce) (by rw [hT]; exact hcell) (by rw [hv]; rfl)
    (by obtain ⟨k9, h9, -⟩ := Vm.findClass_spec hcl; exact ⟨k9, h9⟩) (fun z hz => by
      rcases hpass z hz with h | ⟨hz0, nm, hl1, hn1⟩
      · exact Or.inl h
      · obtain ⟨c6, hc6, hcl6⟩ := Cond.classLink_spec hown hl1 e.platform hpl
        obtain ⟨a8, b8, h1, h2, h3⟩ := hn1
        cases Option.some.inj (h1.symm.trans hcl)
        cases Option.some.inj (h2.symm.trans hc6)
        exact Or.inr ⟨hz0, _, hcl6, h3⟩)
  obtain ⟨g₀, hfr⟩ := X'.frames_eq
  have hcell9 : ((T.setVm vm').setFrames (.throwing q :: below)).heap[q]? = some ce := by
    show T.heap[q]? = some ce
    rw [hT]; exact hcell
  have hend : Ended ((T.setVm vm').setFrames (.throwing q :: below)) below (.threw q) := State.frames_setFrames _ (State.cur_lt_of_frames hfr)
  refine ⟨(T.setVm vm').setFrames (.throwing q :: below), ?_, .threw q, X'.here.running, hend, Or.inr ⟨q, rfl, E, ce, locs, hx _ hT (X'.ends _).1.alike, hcell9, hv, hcl, (X'.ends _).1, (X'.ends _).2.mono hc hs, hf⟩⟩
  rw [X.pushThrowing_eq]
  exact st
/-- a thing of a world lies in the heap -/
theorem vx_lt {D : va_G} {cl : List vw_C} {ws : va_W} {H1 : Heap} (h : va_P D cl ws H1) {k : Nat} {q : Nat × va_E} (hk : ws[k]? = some q) : q.1 < H1.size := (h k q hk).lt
end VXS
/-! ===== END ===== -/
/-! ===== BEGIN methods with a table of their own: called by a name, returning or throwing ===== -/
section VXH
/-! vx_backW, vx_callVX, vx_callSX, vx_callVW, vx_runVW, vx_runVX, vx_runSX, vx_ofWH follow the same proofs as their sisters above (Free/Laws.lean, Shelf42/LK1.lean); vx_outP calls Shelf42/NT130.lean (outThrough). -/
section
variable {l : Launch} {R : Room} {p : Program} {e : Env} {below : List Frame} {s : State} {sargs : Array Value} {y : MethodName} {len W9 : Nat}
theorem vx_backW {ws : List Cond} {rm : Room} {Pc : Array Value → State → Prop} {Qc : Array Value → State → Outcome → State → Prop} {XC : String → State → State → Prop} {mc ms : Nat} {free : Addr → Prop} {bytes : ByteArray} {maxL : Nat} {ret : Option FieldType} {hh : List (Nat × Nat × Nat × Nat)}
    (hM : vx_Met l y ws rm Pc Qc XC mc ms free) (hblind : FrameBlind Pc) (hrc : rm.cells = mc) (hrs : rm.slots = ms)
    (hframes : rm.frames + 1 ≤ R.frames) (hlocals : W9 + (maxL + 11) + rm.locals ≤ R.locals)
    (hws : ∀ w ∈ ws, ∀ a' U, s.WarmedH U.vm → w.before a' U = true) (hcode : Cond.codeWith y bytes maxL ret hh ∈ ws) (hinit : ∀ a' U, s.WarmedH U.vm → (Cond.initialized y.cls).before a' U = true) :
    vx_Back l R p e below s sargs y len W9 (PreOf R mc ms Pc) (PostOf Qc mc ms free) (vx_Post XC mc ms free) := by
  intro m meth c A g ig mk a X hg hsize hdg hW hn hp
  have h1 : (headSpec ws rm).pre.before a A.U = true := atoms_intro fun w hw => hws w hw _ _ X.warmed
  have h2 : (Cond.codeWith y bytes maxL ret hh).before a A.U = true := hws _ hcode _ _ X.warmed
  have h3 : (Cond.initialized y.cls).before a A.U = true := hinit _ _ X.warmed
  have h4 : A.cells + (headSpec ws rm).room.cells ≤ R.cells := by rw [show (headSpec ws rm).room.cells = mc from hrc]; exact hp.1
  have h5 : A.slots + (headSpec ws rm).room.slots ≤ R.slots := by rw [show (headSpec ws rm).room.slots = ms from hrs]; exact hp.2.1
  have hPc : Pc a (A.U.calling g mk a) := hblind _ _ _ _ hp.2.2
  obtain ⟨U, Ls, c0, s0⟩ := A
  dsimp only [Pt.U, Pt.locs, Pt.cells, Pt.slots] at h1 h2 h3 h4 h5 X hn hPc ⊢
  obtain ⟨m9, methY, cY, hn9, hmY, hcY, -, hlY, -⟩ := Cond.codeWith_spec h2
  cases Option.some.inj (hn9.symm.trans hn)
  obtain ⟨kY, hkY, -⟩ := className_of_methodNamed hn
  have hinitY : kY.init = .initialized := Cond.initialized_spec (findClass_of_methodNamed hn) hkY h3
  have h : At U g.method c below := by rw [hg]; exact X.here
  have hlocals9 : W9 + (maxL + 11) + (headSpec ws rm).room.locals ≤ R.locals := hlocals
  have happ : (headSpec ws rm).appliesLoose y e.platform (U.calling g mk a) = true :=
    Spec.appliesLoose_calling (g := g) h hdg hn hkY hinitY
      (X.room_calling (g := g) (R' := (headSpec ws rm).room) hsize hmY hcY hframes (by rw [hlY]; omega) h4 h5) h1
  obtain ⟨mid, hmid⟩ := h.above
  have hfr : (U.setTop g).frames = (.java g :: mid) ++ below := by rw [State.frames_setTop' g h.top, hmid]; rfl
  obtain ⟨o, s₂, hsteps, -, hend, hq⟩ := Steps.callFree hM p X.admits X.cas X.clock (acts := []) hfr happ hPc trivial
  have hq' : vx_Q Qc XC mc ms free a (U.calling g mk a) o s₂ := hq
  rw [State.frames_setTop' g h.top] at hend
  obtain ⟨g₀, hg0⟩ := Option.isSome_iff_exists.mp h.top
  obtain ⟨r, hr⟩ := State.topJava?_eq_some.mp hg0
  have hr' : (({ U with heap := s₂.heap, slotsUsed := s₂.slotsUsed } : State).setVm s₂.vm).frames = .java g₀ :: r := hr
  rcases hq' with ⟨hqc, L, hfe, hL⟩ | ⟨q, rfl, E, ce, L, hx, hce, hcv, hcl, hW₂, hsm, hL⟩
  · obtain ⟨⟨v, rfl⟩, hW₂, e2, q2, q3, q4, q5, q6⟩ := id hfe
    have e3 : s₂ = ({ (U.calling g mk a).setFrames s₂.frames with heap := s₂.heap, slotsUsed := s₂.slotsUsed } : State).setVm s₂.vm := by
      have : s₂ = ({ s₂ with vm := (U.calling g mk a).vm } : State).setVm s₂.vm := rfl
      rw [e2] at this
      exact this
    obtain ⟨c₂, i₂, len₂, hc₂, hd₂, hf₂⟩ := hend
    have hW' : U.WarmedH s₂.vm := hW₂
    have hcc : c₂ = c := by
      have h1 : s₂.code? g.method = U.code? g.method := by
        rw [State.code?_eq, State.code?_eq, hW'.alike.method?]
      exact Option.some.inj (hc₂.symm.trans (h1.trans h.code))
    subst hcc
    have hlen : len₂ = len := by rw [hdg] at hd₂; cases hd₂; rfl
    subst hlen
    have hs₂ : s₂ = (({ U with heap := s₂.heap, slotsUsed := s₂.slotsUsed } : State).setVm s₂.vm).setTop { g with pc := g.pc + len₂, stack := v.toList ++ g.stack } := by
      refine e3.trans ?_
      rw [hf₂, State.calling_eq h.top, State.setFrames_setFrames, State.setTop_of_frames _ hr', hr]
      rfl
    have hsame : U.sameButNew ({ U with heap := s₂.heap, slotsUsed := s₂.slotsUsed } : State) L mc ms := by
      refine ⟨?_, q2, q3, q4, q5, q6⟩
      obtain ⟨t, ht, -⟩ := State.frames_cons hr
      show ({ U with heap := s₂.heap, slotsUsed := s₂.slotsUsed } : State) = { U.setFrames U.frames with heap := s₂.heap, slotsUsed := s₂.slotsUsed }
      rw [State.setFrames_self ht]
    subst hg
    refine Or.inl ⟨v, ⟨(({ U with heap := s₂.heap, slotsUsed := s₂.slotsUsed } : State).setVm s₂.vm), Ls ++ L, c0 + mc, s0 + ms⟩,
      ⟨X.admits, X.cas, X.clock, X.frames, X.room, X.hears, X.method, X.code, (X.here.setHeapUsed s₂.heap s₂.slotsUsed).setVm hW'.alike, X.tail, State.WarmedH.trans X.warmed hW', X.limits, X.bytes, X.same.trans (hsame.setVm s.vm)⟩,
      ⟨g, mk, s₂, L, rfl, rfl, hqc, rfl, hL, rfl, rfl⟩, ?_⟩
    show Steps p.tables e below _ ((({ U with heap := s₂.heap, slotsUsed := s₂.slotsUsed } : State).setVm s₂.vm).setTop { g with pc := g.pc + len₂, stack := v.toList ++ g.stack })
    rw [← hs₂]
    exact hsteps
  · obtain ⟨e2, q2, q3, q4, q5, q6⟩ := id hsm
    have e3 : s₂ = ({ (U.calling g mk a).setFrames s₂.frames with heap := s₂.heap, slotsUsed := s₂.slotsUsed } : State).setVm s₂.vm := by
      have : s₂ = ({ s₂ with vm := (U.calling g mk a).vm } : State).setVm s₂.vm := rfl
      rw [e2] at this
      exact this
    have hf₂ : s₂.frames = .throwing q :: .java g :: U.frames.tail := hend
    have hW' : U.WarmedH s₂.vm := hW₂
    have hs₂ : s₂ = ((({ U with heap := s₂.heap, slotsUsed := s₂.slotsUsed } : State).setVm s₂.vm).setTop g).pushFrame (.throwing q) := by
      refine e3.trans ?_
      rw [hf₂, State.calling_eq h.top, State.setFrames_setFrames, State.pushFrame, State.frames_setTop _ hr', State.setTop_of_frames _ hr', State.setFrames_setFrames, hr]
      rfl
    have hsame : U.sameButNew ({ U with heap := s₂.heap, slotsUsed := s₂.slotsUsed } : State) L mc ms := by
      refine ⟨?_, q2, q3, q4, q5, q6⟩
      obtain ⟨t, ht, -⟩ := State.frames_cons hr
      show ({ U with heap := s₂.heap, slotsUsed := s₂.slotsUsed } : State) = { U.setFrames U.frames with heap := s₂.heap, slotsUsed := s₂.slotsUsed }
      rw [State.setFrames_self ht]
    subst hg
    refine Or.inr ⟨q, ⟨(({ U with heap := s₂.heap, slotsUsed := s₂.slotsUsed } : State).setVm s₂.vm), Ls ++ L, c0 + mc, s0 + ms⟩,
      ⟨X.admits, X.cas, X.clock, X.frames, X.room, X.hears, X.method, X.code, (X.here.setHeapUsed s₂.heap s₂.slotsUsed).setVm hW'.alike, X.tail, State.WarmedH.trans X.warmed hW', X.limits, X.bytes, X.same.trans (hsame.setVm s.vm)⟩,
      ⟨g, mk, s₂, L, E, ce, rfl, rfl, hx, hce, hcv, hcl, rfl, hL, rfl, rfl⟩, ?_⟩
    show Steps p.tables e below _ (((({ U with heap := s₂.heap, slotsUsed := s₂.slotsUsed } : State).setVm s₂.vm).setTop g).pushFrame (.throwing q))
    rw [← hs₂]
    exact hsteps
end
variable {p : Program} {l : Launch} {e : Env} {R : Room} {s : State} {m : MethodId} {args : Array Value} {below : List Frame} {meth : Method} {c : Code} {T : State} {H : Heap} {locs : List Loc} {cells slots : Nat}
theorem vx_callVX (X : Stand p l e R s m args below meth c T locs cells slots) (hexec : p.tables.exec = Jvm.exec) {own C : String} {index : Nat} {y : MethodName} {bytes : ByteArray} {maxL : Nat} {ret : Option FieldType} {hh : List (Nat × Nat × Nat × Nat)}
    (hown : s.vm.findClass own = some m.cls) (hlink : (Cond.methodLink own index y).before args s = true) (hinst : (Cond.instanceMethod y).before args s = true) (hsel : (Cond.selects C y y).before args s = true)
    (hcode : (Cond.codeWith y bytes maxL ret hh).before args s = true) (hy : y.cls ≠ "java/lang/invoke/MethodHandle" ∧ y.cls ≠ "java/lang/invoke/VarHandle")
    {W9 : Nat} {Pre : Pt → Array Value → Prop} {Post : Pt → Array Value → Option Value → Pt → Prop} {PostX : Pt → Array Value → Addr → Pt → Prop} (hK : vx_Back l R p e below s args y 3 W9 Pre Post PostX)
    {b : Addr} {cellB : Cell} (hcell : T.heap[b]? = some cellB) (hobj : cellB.vm.isStatics = false) (hcls : s.vm.findClass C = some cellB.cls)
    {g : JFrame} (hg : g.method = m) (hsize : g.locals.size = c.maxLocals) {argsL rest : List Value} (hlen : ∀ sig, parseMethodDescriptor y.desc = some sig → argsL.length = sig.parameters.length)
    (hstack : g.stack = argsL.reverse ++ .ref b :: rest) (hW : 2 * g.monitorRoom + (rest.map fun v => v.category).sum ≤ W9) (hdg : decode c.code g.pc = .ok (.invokevirtual index, 3))
    (hpre : ∀ vm₁, s.WarmedH vm₁ → Pre ⟨T.setVm vm₁, locs, cells, slots⟩ (Value.ref b :: argsL).toArray) :
    (∃ (v : Option Value) (vm₁ : Vm) (B : Pt), s.WarmedH vm₁ ∧ Stand p l e R s m args below meth c B.U B.locs B.cells B.slots ∧ Post ⟨T.setVm vm₁, locs, cells, slots⟩ (Value.ref b :: argsL).toArray v B ∧
      ∀ target, Steps p.tables e below (B.U.setTop { g with pc := g.pc + 3, stack := v.toList ++ rest }) target → Steps p.tables e below (T.setTop g) target) ∨
    (∃ (q : Addr) (vm₁ : Vm) (B : Pt), s.WarmedH vm₁ ∧ Stand p l e R s m args below meth c B.U B.locs B.cells B.slots ∧ PostX ⟨T.setVm vm₁, locs, cells, slots⟩ (Value.ref b :: argsL).toArray q B ∧
      Steps p.tables e below (T.setTop g) ((B.U.setTop { g with stack := rest }).pushFrame (.throwing q))) := by
  obtain ⟨mk, methM, hnamed, hmethM, hstM, habM⟩ := Cond.instanceMethod_spec hinst
  obtain ⟨m8, methM', cM, hn8, hmethM', -, -, -, -, -, -, hsigM⟩ := Cond.codeWith_spec hcode
  cases Option.some.inj (hn8.symm.trans hnamed)
  cases hmethM.symm.trans hmethM'
  obtain ⟨c2, r2, m2, q1, q2, q3, q4, kP, hkP, hkPi⟩ := Cond.selects_spec hsel
  cases hcls.symm.trans q1
  cases (State.methodFound?_of_named hnamed hy).symm.trans q2
  cases hnamed.symm.trans q3
  have hselP : selectMethod e.platform s.vm cellB.cls mk = .method mk := by rw [Launch.admits_selectMethod X.admits]; exact q4
  obtain ⟨vm₁, X₁, hstep₁⟩ := X.invokevirtual hexec hown hlink hnamed hmethM hstM hkP hkPi hy (a := b) (cell := cellB) hcell
    (fun z h => by rw [h] at hobj; cases hobj) hselP hmethM habM hkP hkPi (g := g) hg (argsL := argsL) (rest := rest) (hlen _ hsigM) hstack hdg
  rcases hK m meth c ⟨T.setVm vm₁, locs, cells, slots⟩ { g with stack := rest } (.invokevirtual index) mk (Value.ref b :: argsL).toArray X₁ hg hsize hdg hW (X₁.named hnamed) (hpre vm₁ X₁.warmed) with ⟨v, B, X', hpost, hsteps⟩ | ⟨q, B, X', hpost, hsteps⟩
  · exact Or.inl ⟨v, vm₁, B, X₁.warmed, X', hpost, fun target h => hstep₁ _ fun acts => by rw [doInvoke_state]; exact hsteps.trans h⟩
  · exact Or.inr ⟨q, vm₁, B, X₁.warmed, X', hpost, hstep₁ _ fun acts => by rw [doInvoke_state]; exact hsteps⟩
theorem vx_callSX (X : Stand p l e R s m args below meth c T locs cells slots) (hexec : p.tables.exec = Jvm.exec) {own : String} {index : Nat} {y : MethodName} {bytes : ByteArray} {maxL : Nat} {ret : Option FieldType} {hh : List (Nat × Nat × Nat × Nat)}
    (hown : s.vm.findClass own = some m.cls) (hlink : (Cond.methodLink own index y).before args s = true) (hstat : (Cond.static y).before args s = true) (hinit : (Cond.initialized y.cls).before args s = true)
    (hcode : (Cond.codeWith y bytes maxL ret hh).before args s = true) (hy : y.cls ≠ "java/lang/invoke/MethodHandle" ∧ y.cls ≠ "java/lang/invoke/VarHandle")
    {W9 : Nat} {Pre : Pt → Array Value → Prop} {Post : Pt → Array Value → Option Value → Pt → Prop} {PostX : Pt → Array Value → Addr → Pt → Prop} (hK : vx_Back l R p e below s args y 3 W9 Pre Post PostX)
    {g : JFrame} (hg : g.method = m) (hsize : g.locals.size = c.maxLocals) {argsL rest : List Value} (hlen : ∀ sig, parseMethodDescriptor y.desc = some sig → argsL.length = sig.parameters.length)
    (hstack : g.stack = argsL.reverse ++ rest) (hW : 2 * g.monitorRoom + (rest.map fun v => v.category).sum ≤ W9) (hdg : decode c.code g.pc = .ok (.invokestatic index, 3))
    (hpre : ∀ vm₁, s.WarmedH vm₁ → Pre ⟨T.setVm vm₁, locs, cells, slots⟩ argsL.toArray) :
    (∃ (v : Option Value) (vm₁ : Vm) (B : Pt), s.WarmedH vm₁ ∧ Stand p l e R s m args below meth c B.U B.locs B.cells B.slots ∧ Post ⟨T.setVm vm₁, locs, cells, slots⟩ argsL.toArray v B ∧
      ∀ target, Steps p.tables e below (B.U.setTop { g with pc := g.pc + 3, stack := v.toList ++ rest }) target → Steps p.tables e below (T.setTop g) target) ∨
    (∃ (q : Addr) (vm₁ : Vm) (B : Pt), s.WarmedH vm₁ ∧ Stand p l e R s m args below meth c B.U B.locs B.cells B.slots ∧ PostX ⟨T.setVm vm₁, locs, cells, slots⟩ argsL.toArray q B ∧
      Steps p.tables e below (T.setTop g) ((B.U.setTop { g with stack := rest }).pushFrame (.throwing q))) := by
  obtain ⟨mk, methM, cM, hnamed, hmethM, -, -, -, -, -, -, hsigM⟩ := Cond.codeWith_spec hcode
  have hstatic : methM.isStatic = true := Cond.static_spec hnamed hmethM hstat
  obtain ⟨kP, hkP, -⟩ := className_of_methodNamed hnamed
  have hinitP : kP.init = .initialized := Cond.initialized_spec (findClass_of_methodNamed hnamed) hkP hinit
  obtain ⟨vm₁, X₁, hstep₁⟩ := X.invokestatic hexec hown hlink hnamed hmethM hstatic hkP hinitP hy (g := g) hg (argsL := argsL) (rest := rest) (hlen _ hsigM) hstack hdg
  rcases hK m meth c ⟨T.setVm vm₁, locs, cells, slots⟩ { g with stack := rest } (.invokestatic index) mk argsL.toArray X₁ hg hsize hdg hW (X₁.named hnamed) (hpre vm₁ X₁.warmed) with ⟨v, B, X', hpost, hsteps⟩ | ⟨q, B, X', hpost, hsteps⟩
  · exact Or.inl ⟨v, vm₁, B, X₁.warmed, X', hpost, fun target h => hstep₁ _ fun acts => by rw [doInvoke_state]; exact hsteps.trans h⟩
  · exact Or.inr ⟨q, vm₁, B, X₁.warmed, X', hpost, hstep₁ _ fun acts => by rw [doInvoke_state]; exact hsteps⟩
theorem vx_callVW (X : Stand p l e R s m args below meth c T locs cells slots) (hexec : p.tables.exec = Jvm.exec) {own C : String} {index : Nat} {y : MethodName} {bytes : ByteArray} {maxL : Nat} {ret : Option FieldType} {hh : List (Nat × Nat × Nat × Nat)}
    (hown : s.vm.findClass own = some m.cls) (hlink : (Cond.methodLink own index y).before args s = true) (hinst : (Cond.instanceMethod y).before args s = true) (hsel : (Cond.selects C y y).before args s = true)
    (hcode : (Cond.codeWith y bytes maxL ret hh).before args s = true) (hy : y.cls ≠ "java/lang/invoke/MethodHandle" ∧ y.cls ≠ "java/lang/invoke/VarHandle")
    {W9 : Nat} {Pre : Pt → Array Value → Prop} {Post : Pt → Array Value → Option Value → Pt → Prop} (hK : Back l R p e below s args y 3 W9 Pre Post)
    {b : Addr} {cellB : Cell} (hcell : T.heap[b]? = some cellB) (hobj : cellB.vm.isStatics = false) (hcls : s.vm.findClass C = some cellB.cls)
    {g : JFrame} (hg : g.method = m) (hsize : g.locals.size = c.maxLocals) {argsL rest : List Value} (hlen : ∀ sig, parseMethodDescriptor y.desc = some sig → argsL.length = sig.parameters.length)
    (hstack : g.stack = argsL.reverse ++ .ref b :: rest) (hW : 2 * g.monitorRoom + (rest.map fun v => v.category).sum ≤ W9) (hdg : decode c.code g.pc = .ok (.invokevirtual index, 3))
    (hpre : ∀ vm₁, s.WarmedH vm₁ → Pre ⟨T.setVm vm₁, locs, cells, slots⟩ (Value.ref b :: argsL).toArray) :
    ∃ (v : Option Value) (vm₁ : Vm) (B : Pt), s.WarmedH vm₁ ∧ Stand p l e R s m args below meth c B.U B.locs B.cells B.slots ∧ Post ⟨T.setVm vm₁, locs, cells, slots⟩ (Value.ref b :: argsL).toArray v B ∧
      ∀ target, Steps p.tables e below (B.U.setTop { g with pc := g.pc + 3, stack := v.toList ++ rest }) target → Steps p.tables e below (T.setTop g) target := by
  obtain ⟨mk, methM, hnamed, hmethM, hstM, habM⟩ := Cond.instanceMethod_spec hinst
  obtain ⟨m8, methM', cM, hn8, hmethM', -, -, -, -, -, -, hsigM⟩ := Cond.codeWith_spec hcode
  cases Option.some.inj (hn8.symm.trans hnamed)
  cases hmethM.symm.trans hmethM'
  obtain ⟨c2, r2, m2, q1, q2, q3, q4, kP, hkP, hkPi⟩ := Cond.selects_spec hsel
  cases hcls.symm.trans q1
  cases (State.methodFound?_of_named hnamed hy).symm.trans q2
  cases hnamed.symm.trans q3
  have hselP : selectMethod e.platform s.vm cellB.cls mk = .method mk := by rw [Launch.admits_selectMethod X.admits]; exact q4
  obtain ⟨vm₁, X₁, hstep₁⟩ := X.invokevirtual hexec hown hlink hnamed hmethM hstM hkP hkPi hy (a := b) (cell := cellB) hcell
    (fun z h => by rw [h] at hobj; cases hobj) hselP hmethM habM hkP hkPi (g := g) hg (argsL := argsL) (rest := rest) (hlen _ hsigM) hstack hdg
  obtain ⟨v, B, X', hpost, hsteps⟩ := hK m meth c ⟨T.setVm vm₁, locs, cells, slots⟩ { g with stack := rest } (.invokevirtual index) mk (Value.ref b :: argsL).toArray X₁ hg hsize hdg hW (X₁.named hnamed) (hpre vm₁ X₁.warmed)
  exact ⟨v, vm₁, B, X₁.warmed, X', hpost, fun target h => hstep₁ _ fun acts => by rw [doInvoke_state]; exact hsteps.trans h⟩
abbrev vx_CVW (R : Room) (s : State) (args : Array Value) (own C : String) (index : Nat) (y : MethodName) (bytes : ByteArray) (maxL : Nat) (ret : Option FieldType) (hh : List (Nat × Nat × Nat × Nat)) (ws : List Cond) (rm : Room) (mc ms n : Nat) : Prop :=
  (rm.cells = mc ∧ rm.slots = ms ∧ rm.frames + 1 ≤ R.frames ∧ 8 + (maxL + 11) + rm.locals ≤ R.locals ∧ (∀ w ∈ ws, ∀ (a' : Array Value) (U : State), s.WarmedH U.vm → w.before a' U = true) ∧ Cond.codeWith y bytes maxL ret hh ∈ ws) ∧
  (Cond.codeWith y bytes maxL ret hh).before args s = true ∧ (Cond.initialized y.cls).before args s = true ∧ (y.cls ≠ "java/lang/invoke/MethodHandle" ∧ y.cls ≠ "java/lang/invoke/VarHandle") ∧
  (∀ sig, parseMethodDescriptor y.desc = some sig → n = sig.parameters.length) ∧ (Cond.methodLink own index y).before args s = true ∧ (Cond.instanceMethod y).before args s = true ∧ (Cond.selects C y y).before args s = true
theorem vx_cwVW {own C : String} {index maxL mc ms : Nat} {y : MethodName} {bytes : ByteArray} {ret : Option FieldType} {hh : List (Nat × Nat × Nat × Nat)} {Ts ws ws' : List Cond} {rm : Room} (n : Nat) (ht : ∀ w ∈ Ts, w.before args s = true) (hT : GoodIn Ts (wsV own index C y ws)) (hw : ws = Cond.codeWith y bytes maxL ret hh :: ws') (hrc : rm.cells = mc) (hrs : rm.slots = ms)
    (hd : y.cls = C ∧ y.cls ≠ "java/lang/invoke/MethodHandle" ∧ y.cls ≠ "java/lang/invoke/VarHandle" ∧ (parseMethodDescriptor y.desc).map (fun d => d.parameters.length) = some n) (hR : rm.frames + 1 ≤ R.frames ∧ 8 + (maxL + 11) + rm.locals ≤ R.locals) :
    vx_CVW R s args own C index y bytes maxL ret hh ws rm mc ms n := by
  obtain ⟨hC, hd⟩ := hd
  subst hC
  have ok : ∀ w ∈ wsV own index y.cls y ws, w.before args s = true := fun w h => ht w (hT w h).1
  have hG : GoodIn Ts ws := fun w h => hT w (by unfold wsV; exact List.mem_append_right _ h)
  have hc : Cond.codeWith y bytes maxL ret hh ∈ ws := by rw [hw]; exact List.mem_cons_self
  refine ⟨⟨hrc, hrs, hR.1, hR.2, pay_in ht hG, hc⟩, ht _ (hG _ hc).1, ok _ (by simp [wsV]), ⟨hd.1, hd.2.1⟩, fun sig h => ?_, ok _ (by simp [wsV]), ok _ (by simp [wsV]), ok _ (by simp [wsV])⟩
  have h2 := hd.2.2
  rw [h] at h2
  exact (Option.some.inj h2).symm
theorem vx_runVW {y : MethodName} {bytes cc : ByteArray} {maxL nL mc ms n index : Nat} {ret : Option FieldType} {hh : List (Nat × Nat × Nat × Nat)} {ws : List Cond} {rm : Room} {Pc : Array Value → State → Prop} {Qc : Array Value → State → Outcome → State → Prop} {free : Addr → Prop} {Ts : List Cond} {own C : String} {b : Addr} {As rest : List Value} {g : JFrame}
    (S : CallFix p m c cc nL s args Ts own) (hM : Met l y ws rm Pc Qc mc ms free) (cw : vx_CVW R s args own C index y bytes maxL ret hh ws rm mc ms n) (hp : PreV s H C b Pc As)
    (hg : g.method = m) (hn : As.length = n) (hsize : g.locals.size = nL) (hstack : g.stack = As.reverse ++ .ref b :: rest) (hW : 2 * g.monitorRoom + (rest.map fun v => v.category).sum ≤ 8) (hdg : decode cc g.pc = .ok (.invokevirtual index, 3)) (hf : cells + mc ≤ R.cells ∧ slots + ms ≤ R.slots) :
    va_Run p l e R s m args below meth c H locs cells slots mc ms g rest (Qc (Value.ref b :: As).toArray) free := by
  obtain ⟨⟨hrc, hrs, hfr, hlo, hws, hcw⟩, hcode, hini, hy, hlen, hl, hin, hse⟩ := cw
  have hK : Back l R p e below s args y 3 8 (PreOf R mc ms Pc) (PostOf Qc mc ms free) := va_backW (hh := hh) (bytes := bytes) (maxL := maxL) (ret := ret) hM hp.1 hrc hrs hfr hlo hws hcw (fun a' U hW => word_at hW (Or.inl (by first | rfl | simp [Cond.onTables, Cond.keeps, Cond.steady])) hini)
  obtain ⟨hx, hb, hml, ho, -⟩ := S
  obtain ⟨-, ⟨cellB, hcB, hoB, hclB⟩, hPc⟩ := hp
  intro T hT X
  obtain ⟨v, vm₁, ⟨U', l2, c2, s2⟩, hW₁, X', ⟨g', mk, t, L, e1, e2, hq, h1, hL, h2, h3⟩, st⟩ := vx_callVW X hx (C := C) (hh := hh) (bytes := bytes) (maxL := maxL) (ret := ret) ho hl hin hse hcode hy hK (by rw [hT]; exact hcB) hoB hclB hg (hsize.trans hml.symm) (argsL := As) (rest := rest) (fun sig h => hn.trans (hlen sig h)) hstack hW (by rw [hb]; exact hdg)
    (fun vm₁ hW₁ => ⟨hf.1, hf.2, hPc (T.setVm vm₁) hT hW₁⟩)
  dsimp only [Pt.U, Pt.locs, Pt.cells, Pt.slots] at X' e1 e2 h1 h2 h3 st
  subst h1; subst h2; subst h3
  exact ⟨v, (T.setVm vm₁).calling g' mk (Value.ref b :: As).toArray, t, U', L, hT, X', hL, e1, e2, hq, st⟩
section
variable {y : MethodName} {bytes cc : ByteArray} {maxL nL mc ms n index : Nat} {ret : Option FieldType} {ws : List Cond} {rm : Room} {Pc : Array Value → State → Prop} {Qc : Array Value → State → Outcome → State → Prop} {XC : String → State → State → Prop} {free : Addr → Prop} {Ts : List Cond} {own C : String} {b : Addr} {As rest : List Value} {g : JFrame}
theorem vx_runVX {hh : List (Nat × Nat × Nat × Nat)} (S : CallFix p m c cc nL s args Ts own) (hM : vx_Met l y ws rm Pc Qc XC mc ms free) (cw : vx_CVW R s args own C index y bytes maxL ret hh ws rm mc ms n) (hp : PreV s H C b Pc As)
    (hg : g.method = m) (hn : As.length = n) (hsize : g.locals.size = nL) (hstack : g.stack = As.reverse ++ .ref b :: rest) (hW : 2 * g.monitorRoom + (rest.map fun v => v.category).sum ≤ 8) (hdg : decode cc g.pc = .ok (.invokevirtual index, 3)) (hf : cells + mc ≤ R.cells ∧ slots + ms ≤ R.slots) :
    vx_Run p l e R s m args below meth c H locs cells slots mc ms g rest (Qc (Value.ref b :: As).toArray) XC free := by
  obtain ⟨⟨hrc, hrs, hfr, hlo, hws, hcw⟩, hcode, hini, hy, hlen, hl, hin, hse⟩ := cw
  have hK : vx_Back l R p e below s args y 3 8 (PreOf R mc ms Pc) (PostOf Qc mc ms free) (vx_Post XC mc ms free) := vx_backW (hh := hh) (bytes := bytes) (maxL := maxL) (ret := ret) hM hp.1 hrc hrs hfr hlo hws hcw (fun a' U hW => word_at hW (Or.inl (by first | rfl | simp [Cond.onTables, Cond.keeps, Cond.steady])) hini)
  obtain ⟨hx, hb, hml, ho, -⟩ := S
  obtain ⟨-, ⟨cellB, hcB, hoB, hclB⟩, hPc⟩ := hp
  intro T hT X
  rcases vx_callVX X hx (C := C) (hh := hh) (bytes := bytes) (maxL := maxL) (ret := ret) ho hl hin hse hcode hy hK (by rw [hT]; exact hcB) hoB hclB hg (hsize.trans hml.symm) (argsL := As) (rest := rest) (fun sig h => hn.trans (hlen sig h)) hstack hW (by rw [hb]; exact hdg)
    (fun vm₁ hW₁ => ⟨hf.1, hf.2, hPc (T.setVm vm₁) hT hW₁⟩) with ⟨v, vm₁, ⟨U', l2, c2, s2⟩, hW₁, X', ⟨g', mk, t, L, e1, e2, hq, h1, hL, h2, h3⟩, st⟩ | ⟨q, vm₁, ⟨U', l2, c2, s2⟩, hW₁, X', ⟨g', mk, t, L, E, ce, e1, e2, hq, hce, hcv, hcl, h1, hL, h2, h3⟩, st⟩
  · dsimp only [Pt.U, Pt.locs, Pt.cells, Pt.slots] at X' e1 e2 h1 h2 h3 st
    subst h1; subst h2; subst h3
    exact Or.inl ⟨v, (T.setVm vm₁).calling g' mk (Value.ref b :: As).toArray, t, U', L, hT, X', hL, e1, e2, hq, st⟩
  · dsimp only [Pt.U, Pt.locs, Pt.cells, Pt.slots] at X' e1 e2 h1 h2 h3 st hcl
    subst h1; subst h2; subst h3
    exact Or.inr ⟨q, (T.setVm vm₁).calling g' mk (Value.ref b :: As).toArray, t, U', L, E, ce, hT, X', hL, e1, e2, hq, hce, hcv, vx_cls hW₁ hcl, st⟩
theorem vx_runSX {hh : List (Nat × Nat × Nat × Nat)} (S : CallFix p m c cc nL s args Ts own) (hM : vx_Met l y ws rm Pc Qc XC mc ms free) (cw : vx_CSW R s args own index y bytes maxL ret hh ws rm mc ms n) (hp : PreS s H Pc As)
    (hg : g.method = m) (hn : As.length = n) (hsize : g.locals.size = nL) (hstack : g.stack = As.reverse ++ rest) (hW : 2 * g.monitorRoom + (rest.map fun v => v.category).sum ≤ 8) (hdg : decode cc g.pc = .ok (.invokestatic index, 3)) (hf : cells + mc ≤ R.cells ∧ slots + ms ≤ R.slots) :
    vx_Run p l e R s m args below meth c H locs cells slots mc ms g rest (Qc As.toArray) XC free := by
  obtain ⟨⟨hrc, hrs, hfr, hlo, hws, hcw⟩, hcode, hini, hy, hlen, hl, hstt⟩ := cw
  have hK : vx_Back l R p e below s args y 3 8 (PreOf R mc ms Pc) (PostOf Qc mc ms free) (vx_Post XC mc ms free) := vx_backW (hh := hh) (bytes := bytes) (maxL := maxL) (ret := ret) hM hp.1 hrc hrs hfr hlo hws hcw (fun a' U hW => word_at hW (Or.inl (by first | rfl | simp [Cond.onTables, Cond.keeps, Cond.steady])) hini)
  obtain ⟨hx, hb, hml, ho, -⟩ := S
  intro T hT X
  rcases vx_callSX X hx (hh := hh) (bytes := bytes) (maxL := maxL) (ret := ret) ho hl hstt hini hcode hy hK hg (hsize.trans hml.symm) (argsL := As) (rest := rest) (fun sig h => hn.trans (hlen sig h)) hstack hW (by rw [hb]; exact hdg)
    (fun vm₁ hW₁ => ⟨hf.1, hf.2, hp.2 (T.setVm vm₁) hT hW₁⟩) with ⟨v, vm₁, ⟨U', l2, c2, s2⟩, hW₁, X', ⟨g', mk, t, L, e1, e2, hq, h1, hL, h2, h3⟩, st⟩ | ⟨q, vm₁, ⟨U', l2, c2, s2⟩, hW₁, X', ⟨g', mk, t, L, E, ce, e1, e2, hq, hce, hcv, hcl, h1, hL, h2, h3⟩, st⟩
  · dsimp only [Pt.U, Pt.locs, Pt.cells, Pt.slots] at X' e1 e2 h1 h2 h3 st
    subst h1; subst h2; subst h3
    exact Or.inl ⟨v, (T.setVm vm₁).calling g' mk As.toArray, t, U', L, hT, X', hL, e1, e2, hq, st⟩
  · dsimp only [Pt.U, Pt.locs, Pt.cells, Pt.slots] at X' e1 e2 h1 h2 h3 st hcl
    subst h1; subst h2; subst h3
    exact Or.inr ⟨q, (T.setVm vm₁).calling g' mk As.toArray, t, U', L, E, ce, hT, X', hL, e1, e2, hq, hce, hcv, vx_cls hW₁ hcl, st⟩
end
end VXH
theorem vx_ofWH {l : Launch} {y : MethodName} {ws ws' : List Cond} {rm : Room} {Pc : Array Value → State → Prop} {Qc : Array Value → State → Outcome → State → Prop} {XC : String → State → State → Prop} {mc ms : Nat} {free : Addr → Prop} {cc : ByteArray} {maxL : Nat} {ret : Option FieldType} {hh : List (Nat × Nat × Nat × Nat)}
    (hy : plainName y.cls = true) (hw : ws = Cond.codeWith y cc maxL ret hh :: ws')
    (body : ∀ p e s m args below meth c s₁, BodyLoose p l y (headSpec ws rm) cc maxL ret e s m args below meth c s₁ → c.maxLocals = maxL → Pc args s →
      W p l e (headSpec ws rm).room s m args below meth c s.heap [] 0 0 (vx_MQ below Qc XC args s mc ms free) (entryFrame m args maxL)) : vx_Met l y ws rm Pc Qc XC mc ms free := by
  refine MetFree.of_bodyS (code := cc) (maxLocals := maxL) (ret := ret) hy ?_ ?_
  · intro args s m h hn
    obtain ⟨m9, meth, c, hn9, h1, h2, h3, h4, -, h5, h6, -⟩ := Cond.codeWith_spec (atoms_spec (ws := ws) h _ (by rw [hw]; exact List.mem_cons_self))
    cases hn.symm.trans hn9
    exact ⟨meth, c, h1, h2, h3, h4, h5, h6⟩
  · intro p e s m args below meth c s₁ B hml hP _
    have hh0 : s₁.heap = s.heap := by rw [B.state]; rfl
    obtain ⟨t, a1, o, b1, b2, b3⟩ := body p e s m args below meth c s₁ B hml hP s₁ hh0 (Stand.of_body B)
    exact ⟨t, o, a1, b1, b2, b3⟩
/-! ===== END ===== -/
end
section
/-! my rows: a contract's heap is a parameter of the contract; a value that a method answers is a term -/
def cP (av : List Value) (K : State → Prop) (H0 : Heap) : Array Value → State → Prop := fun v U => v = av.toArray ∧ U.heap = H0 ∧ K U
/-- what a contract asks of the tables: of the machine's classes alone, and kept while they warm -/
def cK (K : State → Prop) : Prop := (∀ u U : State, U.vm = u.vm → K u → K U) ∧ ∀ s U : State, s.WarmedH U.vm → K s → K U
theorem cP_blind {av : List Value} {K : State → Prop} {H0 : Heap} (hK : cK K) : FrameBlind (cP av K H0) := fun _ U _ _ h => ⟨h.1, h.2.1, hK.1 U _ rfl h.2.2⟩
theorem cP_S {av : List Value} {K : State → Prop} {H : Heap} {s : State} (hK : cK K) (h : K s) : PreS s H (cP av K H) av := ⟨cP_blind hK, fun U hU hW => ⟨rfl, hU, hK.2 s U hW h⟩⟩
theorem rw_sg {D : va_G} {cl : List vw_C} {H : Heap} {q : Nat × va_E} (h : va_at D cl q H) : va_P D cl [q] H := fun k r hk => by
  have hz : k < 1 := (List.getElem?_eq_some_iff.mp hk).1
  obtain rfl : k = 0 := by omega
  cases hk
  exact h
theorem cP_V {As : List Value} {K : State → Prop} {H : Heap} {s : State} {D : va_G} {cl : List vw_C} {tys : List (ClassId × FieldType)} {b ci N : Nat} {C : String} {T : u_T} {fs : List Value} (hK : cK K) (h : K s) (hk : va_K D cl tys s) (hat : va_at D cl (b, .inr (ci, fs)) H) (hc : cl[ci]? = some (C, T, N)) : PreV s H C b (cP (.ref b :: As) K H) As :=
  ⟨cP_blind hK, va_recv hk (rw_sg hat) hc (q0 := 0) rfl, fun U hU hW => ⟨rfl, hU, hK.2 s U hW h⟩⟩
/-- answers v, nothing changes -/
def cQp (v : Option Value) : Array Value → State → Outcome → State → Prop := fun _ st o t => o = .returned v ∧ t.heap = st.heap
/-- answers v, the heap behind it holds P -/
def cQd (v : Option Value) (P : Heap → Prop) : Array Value → State → Outcome → State → Prop := fun _ _ o t => o = .returned v ∧ P t.heap
def cNo : Addr → Prop := fun _ => False
theorem cNil {A : Nat → Prop} : ∀ q ∈ ([] : List Loc), A q.base := fun _ h => nomatch h
section MyHeads
variable {l : Launch} {y : MethodName} {ws ws' : List Cond} {rm : Room} {K : State → Prop} {H0 : Heap} {Qc : Array Value → State → Outcome → State → Prop} {mc ms : Nat} {free : Addr → Prop} {cc : ByteArray} {maxL : Nat} {ret : Option FieldType}
theorem cHead (av : List Value) (hy : plainName y.cls = true) (hw : ws = Cond.code y cc maxL ret :: ws') (hlen : (lg_sl av).length ≤ maxL)
    (body : ∀ (p : Program) (e : Env) (s : State) (m : MethodId) (below : List Frame) (meth : Method) (c : Code) (ls : Array Slot) (args : Array Value) (QQ : State → Prop), QQ = MQ below Qc args s mc ms free → CallFix p m c cc maxL s args ws' y.cls → meth.sig.returnType = ret → meth.locks = false → meth.name = y.name → s.heap = H0 → K s → lv_has ls maxL (lv_args 0 av) →
      W p l e rm s m args below meth c H0 [] 0 0 QQ (F0 m 0 ls [])) : Met l y ws rm (cP av K H0) Qc mc ms free := by
  refine Met.ofW (cc := cc) (maxL := maxL) (ret := ret) hy hw ?_
  intro p e s m args below meth c s₁ B hml hv
  obtain ⟨ha, hh, hK⟩ := hv
  have hl := lv_entry av (n := maxL) hlen
  have hts := atoms_spec (ws := ws) B.pre
  have hS : CallFix p m c cc maxL s args ws' y.cls := ⟨B.exec, B.bytes, hml, findClass_of_methodNamed B.named, fun w h => hts w (by rw [hw]; exact List.mem_cons_of_mem _ h)⟩
  have h9 := body p e s m below meth c _ args _ rfl hS B.returns B.notSynchronized (name_of_methodNamed B.named B.method).1 hh hK hl
  subst ha
  rw [lg_entry_eq, hh]
  exact h9
end MyHeads
section MyRows
variable {p : Program} {l : Launch} {e : Env} {R : Room} {s : State} {m : MethodId} {args : Array Value} {below : List Frame} {meth : Method} {c : Code} {H : Heap} {locs : List Loc} {cells slots : Nat} {Q : State → Prop}
variable {cc : ByteArray} {pc : Nat} {ls : Array Slot} {rest st0 : List Value} {D : va_G} {cl : List vw_C} {tys : List (ClassId × FieldType)} {A : Nat → Prop} {a : Nat}
-- answers
theorem rt_i {ty : FieldType} {v v' : Int32} {free : Addr → Prop} (hQ : Q = MQ below (cQp (some (.int v'))) args s 0 0 free) (hx : p.tables.exec = Jvm.exec) (hb : c.code = cc) (hr : meth.sig.returnType = some ty) (hlk : meth.locks = false) (hs : s.heap = H) (hn : narrow ty (.int v) = .int v) (hv : v = v') (hd : decode cc pc = .ok (.ireturn, 1)) :
    W p l e R s m args below meth c H [] 0 0 Q (F0 m pc ls [.int v]) := by
  subst hQ
  subst hv
  exact W.zret hx hb hr hn (fun t ht _ => ⟨rfl, ht.trans hs.symm⟩) cNil hd hlk
theorem rt_l {v v' : Int64} {free : Addr → Prop} (hQ : Q = MQ below (cQp (some (.long v'))) args s 0 0 free) (hx : p.tables.exec = Jvm.exec) (hb : c.code = cc) (hr : meth.sig.returnType = some .long) (hlk : meth.locks = false) (hs : s.heap = H) (hv : v = v') (hd : decode cc pc = .ok (.lreturn, 1)) :
    W p l e R s m args below meth c H [] 0 0 Q (F0 m pc ls [.long v]) := by
  subst hQ
  subst hv
  exact W.lret hx hb hr (fun t ht _ => ⟨rfl, ht.trans hs.symm⟩) cNil hd hlk
theorem rt_v {free : Addr → Prop} (hQ : Q = MQ below (cQp none) args s 0 0 free) (hx : p.tables.exec = Jvm.exec) (hb : c.code = cc) (hr : meth.sig.returnType = none) (hlk : meth.locks = false) (hs : s.heap = H) (hd : decode cc pc = .ok (.return_, 1)) :
    W p l e R s m args below meth c H [] 0 0 Q (F0 m pc ls []) := by
  subst hQ
  exact W.vret hx hb hr (fun t ht _ => ⟨rfl, ht.trans hs.symm⟩) cNil hd hlk
theorem rt_di {ty : FieldType} {v v' : Int32} {P : Heap → Prop} {free : Addr → Prop} {mc ms : Nat} (hQ : Q = MQ below (cQd (some (.int v')) P) args s mc ms free) (hx : p.tables.exec = Jvm.exec) (hb : c.code = cc) (hr : meth.sig.returnType = some ty) (hlk : meth.locks = false) (hn : narrow ty (.int v) = .int v) (hv : v = v') (hP : P H) (hL : ∀ q ∈ locs, free q.base) (hc : cells ≤ mc) (hs : slots ≤ ms) (hd : decode cc pc = .ok (.ireturn, 1)) :
    W p l e R s m args below meth c H locs cells slots Q (F0 m pc ls [.int v]) := by
  subst hQ
  subst hv
  exact W.widen hc hs (W.zret hx hb hr hn (fun t ht _ => ⟨rfl, by rw [ht]; exact hP⟩) hL hd hlk)
theorem rt_dl {v v' : Int64} {P : Heap → Prop} {free : Addr → Prop} {mc ms : Nat} (hQ : Q = MQ below (cQd (some (.long v')) P) args s mc ms free) (hx : p.tables.exec = Jvm.exec) (hb : c.code = cc) (hr : meth.sig.returnType = some .long) (hlk : meth.locks = false) (hv : v = v') (hP : P H) (hL : ∀ q ∈ locs, free q.base) (hc : cells ≤ mc) (hs : slots ≤ ms) (hd : decode cc pc = .ok (.lreturn, 1)) :
    W p l e R s m args below meth c H locs cells slots Q (F0 m pc ls [.long v]) := by
  subst hQ
  subst hv
  exact W.widen hc hs (W.lret hx hb hr (fun t ht _ => ⟨rfl, by rw [ht]; exact hP⟩) hL hd hlk)
theorem rt_dv {P : Heap → Prop} {free : Addr → Prop} {mc ms : Nat} (hQ : Q = MQ below (cQd none P) args s mc ms free) (hx : p.tables.exec = Jvm.exec) (hb : c.code = cc) (hr : meth.sig.returnType = none) (hlk : meth.locks = false) (hP : P H) (hL : ∀ q ∈ locs, free q.base) (hc : cells ≤ mc) (hs : slots ≤ ms) (hd : decode cc pc = .ok (.return_, 1)) :
    W p l e R s m args below meth c H locs cells slots Q (F0 m pc ls []) := by
  subst hQ
  exact W.widen hc hs (W.vret hx hb hr (fun t ht _ => ⟨rfl, by rw [ht]; exact hP⟩) hL hd hlk)
-- calls
theorem cl_i {r : Int32} {a : Array Value} (hr : CallRun p l e R s m args below meth c H locs cells slots 0 0 (F0 m pc ls st0) rest (cQp (some (.int r)) a) cNo) (kk : W p l e R s m args below meth c H locs cells slots Q (F0 m (pc + 3) ls (.int r :: rest))) : W p l e R s m args below meth c H locs cells slots Q (F0 m pc ls st0) := by
  intro T hT X
  obtain ⟨v, st₀, t, T', L, h0, X', hL, e1, ⟨hv, hh⟩, st⟩ := hr T hT X
  cases hv
  obtain ⟨t2, a1, b1⟩ := kk T' (by rw [e1, hh, h0]) (Stand.forget X' (fun q h => (hL q h).elim))
  exact ⟨t2, st t2 a1, b1⟩
theorem cl_l {r : Int64} {a : Array Value} (hr : CallRun p l e R s m args below meth c H locs cells slots 0 0 (F0 m pc ls st0) rest (cQp (some (.long r)) a) cNo) (kk : W p l e R s m args below meth c H locs cells slots Q (F0 m (pc + 3) ls (.long r :: rest))) : W p l e R s m args below meth c H locs cells slots Q (F0 m pc ls st0) := by
  intro T hT X
  obtain ⟨v, st₀, t, T', L, h0, X', hL, e1, ⟨hv, hh⟩, st⟩ := hr T hT X
  cases hv
  obtain ⟨t2, a1, b1⟩ := kk T' (by rw [e1, hh, h0]) (Stand.forget X' (fun q h => (hL q h).elim))
  exact ⟨t2, st t2 a1, b1⟩
theorem cl_v {a : Array Value} (hr : CallRun p l e R s m args below meth c H locs cells slots 0 0 (F0 m pc ls st0) rest (cQp none a) cNo) (kk : W p l e R s m args below meth c H locs cells slots Q (F0 m (pc + 3) ls rest)) : W p l e R s m args below meth c H locs cells slots Q (F0 m pc ls st0) := by
  intro T hT X
  obtain ⟨v, st₀, t, T', L, h0, X', hL, e1, ⟨hv, hh⟩, st⟩ := hr T hT X
  cases hv
  obtain ⟨t2, a1, b1⟩ := kk T' (by rw [e1, hh, h0]) (Stand.forget X' (fun q h => (hL q h).elim))
  exact ⟨t2, st t2 a1, b1⟩
theorem cl_d {v : Option Value} {P : Heap → Prop} {free : Addr → Prop} {mc ms : Nat} {a : Array Value} (hr : CallRun p l e R s m args below meth c H locs cells slots mc ms (F0 m pc ls st0) rest (cQd v P a) free) (hL : ∀ q ∈ locs, A q.base) (hf : ∀ q, free q → A q)
    (kk : ∀ (H1 : Heap) (locs1 : List Loc), P H1 → (∀ q ∈ locs1, A q.base) → W p l e R s m args below meth c H1 locs1 (cells + mc) (slots + ms) Q (F0 m (pc + 3) ls (v.toList ++ rest))) : W p l e R s m args below meth c H locs cells slots Q (F0 m pc ls st0) := by
  intro T hT X
  obtain ⟨v, st₀, t, T', L, h0, X', hL1, e1, ⟨hv, hh⟩, st⟩ := hr T hT X
  cases hv
  obtain ⟨t2, a1, b1⟩ := kk t.heap _ hh (t_lL hL (fun q h => hf _ (hL1 q h))) T' e1 X'
  exact ⟨t2, st t2 a1, b1⟩
-- fields
theorem rw_get (hexec : p.tables.exec = Jvm.exec) (hb : c.code = cc) {own C : String} {T : u_T} {N ci index : Nat} {Ts : List Cond} (hts : ∀ w ∈ Ts, w.before args s = true) (hin : ∀ w ∈ u_ws C T N, w ∈ Ts) (hown : s.vm.findClass own = some m.cls) (hK : va_K D cl tys s) {fs : List Value} (hat : va_at D cl (a, .inr (ci, fs)) H) (hc : cl[ci]? = some (C, T, N)) (k : Nat) (hk : k < N) (hlink : (Cond.fieldLink own index (T k).1 (T k).2.1 (T k).2.2.1).before args s = true) {v : Value} (hv : fs[k]? = some v) (hdg : decode cc pc = .ok (.getfield index, 3))
    (kk : W p l e R s m args below meth c H locs cells slots Q (F0 m (pc + 3) ls (v :: rest))) : W p l e R s m args below meth c H locs cells slots Q (F0 m pc ls (.ref a :: rest)) :=
  va_get hexec hb hts hin hown hK (rw_sg hat) 0 rfl hc k hk hlink (fun _ h => h) hv hdg kk
theorem rw_put (hexec : p.tables.exec = Jvm.exec) (hb : c.code = cc) {own C : String} {T : u_T} {N ci index : Nat} {Ts : List Cond} (hts : ∀ w ∈ Ts, w.before args s = true) (hin : ∀ w ∈ u_ws C T N, w ∈ Ts) (ty0 : Nat → FieldType) (hty : ∀ k, k < N → parseFieldDescriptor (T k).2.2.1 = some (ty0 k)) (hnm : ∀ a, a < N → ∀ b, b < N → a ≠ b → (T a).2.1 ≠ (T b).2.1) (hown : s.vm.findClass own = some m.cls) (hK : va_K D cl tys s) {fs : List Value} (hat : va_at D cl (a, .inr (ci, fs)) H) (hc : cl[ci]? = some (C, T, N)) (k : Nat) (hk : k < N) (hlink : (Cond.fieldLink own index (T k).1 (T k).2.1 (T k).2.2.1).before args s = true) (hfin : (T k).2.2.2 = false) {ty : FieldType} {v : Value} (hd : parseFieldDescriptor (T k).2.2.1 = some ty) (hn : narrow ty v = v) (hfit : fits ty v = true) (hl : k < fs.length) (hA : A a) (hL : ∀ q ∈ locs, A q.base)
    (hdg : decode cc pc = .ok (.putfield index, 3)) (kk : ∀ (H1 : Heap) (locs1 : List Loc), H1.size = H.size → (∀ q : Nat, q ≠ a → H1[q]? = H[q]?) → va_at D cl (a, .inr (ci, fs.set k v)) H1 → (∀ q ∈ locs1, A q.base) → W p l e R s m args below meth c H1 locs1 cells slots Q (F0 m (pc + 3) ls rest)) : W p l e R s m args below meth c H locs cells slots Q (F0 m pc ls (v :: .ref a :: rest)) := by
  have hap := va_apart (own := own) hts hin ty0 hty hnm hK hc
  obtain ⟨r, h1, cell, q1, q2, q3, q4⟩ := hat
  have hr : r = (C, T, N) := Option.some.inj (h1.symm.trans hc)
  subst hr
  obtain ⟨hS, hfc, kC, hkC, hkind⟩ := hK.1 ci _ hc
  obtain ⟨cf, kf, fi, f, hi, hsl⟩ := hS k hk
  have hlay := hts _ (hin _ (u_in_lay hk))
  unfold u_lay at hlay
  rw [if_neg (by rw [hfin]; decide)] at hlay
  refine W.putK hexec hb (f := f) ⟨hown, hlink, ⟨_, _, _, hi⟩, (u_facts hfc hkC (u_lays hts hin hk) hi).1⟩ (by rw [q2]; exact u_store hfc hkC hkind hlay hi hd hn hfit) q1 q3 (by rw [hsl]; exact k2_hasslot (q4 k hk)) rfl rfl hdg fun H' e1 e2 e3 => ?_
  rw [hsl] at e1
  exact kk H' _ e2 e3 ⟨_, hc, t_OB.to (V := updV (vp_V fs) k v) ⟨_, e1, q2, q3, t_set q4 hap hk v⟩ (fun j _ => vp_updV_set hl v j)⟩ (t_lc hL hA)
theorem rw_putF (hexec : p.tables.exec = Jvm.exec) (hb : c.code = cc) {own C : String} {T : u_T} {N ci index : Nat} {Ts : List Cond} (hts : ∀ w ∈ Ts, w.before args s = true) (hin : ∀ w ∈ u_ws C T N, w ∈ Ts) (ty0 : Nat → FieldType) (hty : ∀ k, k < N → parseFieldDescriptor (T k).2.2.1 = some (ty0 k)) (hnm : ∀ a, a < N → ∀ b, b < N → a ≠ b → (T a).2.1 ≠ (T b).2.1) (hown : s.vm.findClass own = some m.cls) (hK : va_K D cl tys s) {fs : List Value} (hat : va_at D cl (a, .inr (ci, fs)) H) (hc : cl[ci]? = some (C, T, N)) (k : Nat) (hk : k < N) (hlink : (Cond.fieldLink own index (T k).1 (T k).2.1 (T k).2.2.1).before args s = true) (hfin : (T k).2.2.2 = true) (hin2 : meth.name = "<init>") (hdecl : (T k).1 = own) {ty : FieldType} {v : Value} (hd : parseFieldDescriptor (T k).2.2.1 = some ty) (hn : narrow ty v = v) (hfit : fits ty v = true) (hl : k < fs.length) (hA : A a) (hL : ∀ q ∈ locs, A q.base)
    (hdg : decode cc pc = .ok (.putfield index, 3)) (kk : ∀ (H1 : Heap) (locs1 : List Loc), H1.size = H.size → (∀ q : Nat, q ≠ a → H1[q]? = H[q]?) → va_at D cl (a, .inr (ci, fs.set k v)) H1 → (∀ q ∈ locs1, A q.base) → W p l e R s m args below meth c H1 locs1 cells slots Q (F0 m (pc + 3) ls rest)) : W p l e R s m args below meth c H locs cells slots Q (F0 m pc ls (v :: .ref a :: rest)) := by
  have hap := va_apart (own := own) hts hin ty0 hty hnm hK hc
  obtain ⟨r, h1, cell, q1, q2, q3, q4⟩ := hat
  have hr : r = (C, T, N) := Option.some.inj (h1.symm.trans hc)
  subst hr
  obtain ⟨hS, hfc, kC, hkC, hkind⟩ := hK.1 ci _ hc
  obtain ⟨cf, kf, fi, f, hi, hsl⟩ := hS k hk
  have hlay := hts _ (hin _ (u_in_lay hk))
  unfold u_lay at hlay
  rw [if_pos hfin] at hlay
  have hcf : m.cls = cf := by
    obtain ⟨_, _, c', _, _, _, -, -, hf', -, -, -, hown2, -⟩ := Cond.laysFinal_spec hlay
    have e1 : c' = cf := by have := hi.symm.trans hf'; simp at this; exact this.1.symm
    rw [hdecl] at hown2
    rw [← e1]; exact Option.some.inj (hown.symm.trans hown2)
  refine W.putFinK hexec hb hown hlink hi (u_facts hfc hkC (u_lays hts hin hk) hi).1 hcf hin2 (by rw [q2]; exact u_fits hfc hkC hkind (Or.inr hlay) hi hd hn hfit) q1 q3 (by rw [hsl]; exact k2_hasslot (q4 k hk)) rfl rfl hdg fun H' e1 e2 e3 => ?_
  rw [hsl] at e1
  exact kk H' _ e2 e3 ⟨_, hc, t_OB.to (V := updV (vp_V fs) k v) ⟨_, e1, q2, q3, t_set q4 hap hk v⟩ (fun j _ => vp_updV_set hl v j)⟩ (t_lc hL hA)
-- arrays
theorem rw_iald (hexec : p.tables.exec = Jvm.exec) (hb : c.code = cc) (hK : va_K D cl tys s) (t0 : Nat) {cA : ClassId} {n : Nat} {f : Nat → Int32} (hat : va_at D cl (a, .inl (cA, n, .inl f)) H) (ht : tys[t0]? = some (cA, .int)) {x : Int32} (i : Nat) (hx : x = nI i) (hi : i < n) (hn : n < 2 ^ 31) (hdg : decode cc pc = .ok (.iaload, 1))
    (kk : W p l e R s m args below meth c H locs cells slots Q (F0 m (pc + 1) ls (.int (f i) :: rest))) : W p l e R s m args below meth c H locs cells slots Q (F0 m pc ls (.int x :: .ref a :: rest)) := by
  subst hx
  refine va_iald hexec hb hK (rw_sg hat) 0 t0 rfl ht (vp_in_nI hi hn) hdg ?_
  rw [nI_clamp (by omega)]
  exact kk
theorem rw_lald (hexec : p.tables.exec = Jvm.exec) (hb : c.code = cc) (hK : va_K D cl tys s) (t0 : Nat) {cA : ClassId} {n : Nat} {f : Nat → Int64} (hat : va_at D cl (a, .inl (cA, n, .inr (.inl f))) H) (ht : tys[t0]? = some (cA, .long)) {x : Int32} (i : Nat) (hx : x = nI i) (hi : i < n) (hn : n < 2 ^ 31) (hdg : decode cc pc = .ok (.laload, 1))
    (kk : W p l e R s m args below meth c H locs cells slots Q (F0 m (pc + 1) ls (.long (f i) :: rest))) : W p l e R s m args below meth c H locs cells slots Q (F0 m pc ls (.int x :: .ref a :: rest)) := by
  subst hx
  refine va_lald hexec hb hK (rw_sg hat) 0 t0 rfl ht (vp_in_nI hi hn) hdg ?_
  rw [nI_clamp (by omega)]
  exact kk
theorem rw_aald (hexec : p.tables.exec = Jvm.exec) (hb : c.code = cc) (hK : va_K D cl tys s) (t0 : Nat) {cA : ClassId} {C : String} {n : Nat} {f : Nat → Option Nat} (hat : va_at D cl (a, .inl (cA, n, .inr (.inr (.inr (.inr f))))) H) (ht : tys[t0]? = some (cA, .object C)) {x : Int32} (i : Nat) (hx : x = nI i) (hi : i < n) (hn : n < 2 ^ 31) {q : Nat} (hq : f i = some q) (hdg : decode cc pc = .ok (.aaload, 1))
    (kk : W p l e R s m args below meth c H locs cells slots Q (F0 m (pc + 1) ls (.ref q :: rest))) : W p l e R s m args below meth c H locs cells slots Q (F0 m pc ls (.int x :: .ref a :: rest)) := by
  subst hx
  refine va_aldq hexec hb hK (rw_sg hat) 0 t0 rfl ht (vp_in_nI hi hn) hdg ?_
  rw [nI_clamp (by omega), hq]
  exact kk
theorem rw_iast (hexec : p.tables.exec = Jvm.exec) (hb : c.code = cc) (hK : va_K D cl tys s) (t0 : Nat) {cA : ClassId} {n : Nat} {f : Nat → Int32} (hat : va_at D cl (a, .inl (cA, n, .inl f)) H) (ht : tys[t0]? = some (cA, .int)) {x y : Int32} (i : Nat) (hx : x = nI i) (hi : i < n) (hn : n < 2 ^ 31) (hA : A a) (hL : ∀ q ∈ locs, A q.base) (hdg : decode cc pc = .ok (.iastore, 1))
    (kk : ∀ (H1 : Heap) (locs1 : List Loc), H1.size = H.size → (∀ q : Nat, q ≠ a → H1[q]? = H[q]?) → va_at D cl (a, .inl (cA, n, .inl (upd f i y))) H1 → (∀ q ∈ locs1, A q.base) → W p l e R s m args below meth c H1 locs1 cells slots Q (F0 m (pc + 1) ls rest)) : W p l e R s m args below meth c H locs cells slots Q (F0 m pc ls (.int y :: .int x :: .ref a :: rest)) := by
  subst hx
  have hcl : (nI i).toNatClampNeg = i := nI_clamp (by omega)
  refine W.iast hexec hb hat ((hK.2 t0 _ ht).1 n (fun j => .int (f j))) (fun q => by cases q) (by show ¬ (nI i < 0 ∨ (arrV _ _ _).slots.size ≤ _); rw [arrV_size]; exact vp_in_nI hi hn) rfl rfl hdg fun H1 e z oq => ?_
  refine kk H1 _ z oq ?_ (t_lc hL hA)
  show H1[a]? = some (vp_cell _ _)
  rw [e, hcl, vp_cell_i, vp_cell_i, arrV_store]
  congr 2
  funext q
  by_cases hq : q = i
  · subst hq
    simp [updV, upd]
  · simp [updV, upd, hq]
theorem rw_last (hexec : p.tables.exec = Jvm.exec) (hb : c.code = cc) (hK : va_K D cl tys s) (t0 : Nat) {cA : ClassId} {n : Nat} {f : Nat → Int64} (hat : va_at D cl (a, .inl (cA, n, .inr (.inl f))) H) (ht : tys[t0]? = some (cA, .long)) {x : Int32} {y : Int64} (i : Nat) (hx : x = nI i) (hi : i < n) (hn : n < 2 ^ 31) (hA : A a) (hL : ∀ q ∈ locs, A q.base) (hdg : decode cc pc = .ok (.lastore, 1))
    (kk : ∀ (H1 : Heap) (locs1 : List Loc), H1.size = H.size → (∀ q : Nat, q ≠ a → H1[q]? = H[q]?) → va_at D cl (a, .inl (cA, n, .inr (.inl (vp_updL f i y)))) H1 → (∀ q ∈ locs1, A q.base) → W p l e R s m args below meth c H1 locs1 cells slots Q (F0 m (pc + 1) ls rest)) : W p l e R s m args below meth c H locs cells slots Q (F0 m pc ls (.long y :: .int x :: .ref a :: rest)) := by
  subst hx
  have hcl : (nI i).toNatClampNeg = i := nI_clamp (by omega)
  refine W.last hexec hb hat ((hK.2 t0 _ ht).1 n (fun j => .long (f j))) (fun q => by cases q) (by show ¬ (nI i < 0 ∨ (arrV _ _ _).slots.size ≤ _); rw [arrV_size]; exact vp_in_nI hi hn) rfl rfl hdg fun H1 e z oq => ?_
  refine kk H1 _ z oq ?_ (t_lc hL hA)
  show H1[a]? = some (vp_cell _ _)
  rw [e, hcl, vp_cell_l, vp_cell_l, arrV_store]
  congr 2
  funext q
  by_cases hq : q = i
  · subst hq
    simp [updV, vp_updL]
  · simp [updV, vp_updL, hq]
theorem rw_aast (hexec : p.tables.exec = Jvm.exec) (hb : c.code = cc) (hK : va_K D cl tys s) (t0 ci : Nat) {cA : ClassId} {C : String} {T : u_T} {n N v : Nat} {vs : List Value} {f : Nat → Option Nat} (hat : va_at D cl (a, .inl (cA, n, .inr (.inr (.inr (.inr f))))) H) (ht : tys[t0]? = some (cA, .object C)) (hv : va_at D cl (v, .inr (ci, vs)) H) (hc : cl[ci]? = some (C, T, N)) {x : Int32} (i : Nat) (hx : x = nI i) (hi : i < n) (hn : n < 2 ^ 31) (hA : A a) (hL : ∀ q ∈ locs, A q.base) (hdg : decode cc pc = .ok (.aastore, 1))
    (kk : ∀ (H1 : Heap) (locs1 : List Loc), H1.size = H.size → (∀ q : Nat, q ≠ a → H1[q]? = H[q]?) → va_at D cl (a, .inl (cA, n, .inr (.inr (.inr (.inr (va_up f i (some v))))))) H1 → (∀ q ∈ locs1, A q.base) → W p l e R s m args below meth c H1 locs1 cells slots Q (F0 m (pc + 1) ls rest)) : W p l e R s m args below meth c H locs cells slots Q (F0 m pc ls (.ref v :: .int x :: .ref a :: rest)) := by
  subst hx
  have hcl : (nI i).toNatClampNeg = i := nI_clamp (by omega)
  obtain ⟨r', hr', cellV, g1, g2, g3, -⟩ := hv
  have hcls := (hK.1 ci _ hc).2
  obtain ⟨kA, comp, k1, k2, k3, -⟩ := (hK.2 t0 _ ht).2
  have hcomp : comp = D.1 ci := Option.some.inj (k3.symm.trans hcls.1)
  subst hcomp
  obtain ⟨kC, hkC, -⟩ := hcls.2
  refine W.aast hexec hb hat (fun q h => by cases h) (fun h => by cases h) k1 k2 rfl hkC ⟨fun q => vp_in_nI hi hn (Or.inl q), by show _ < (arrV _ _ _).slots.size; rw [arrV_size, hcl]; exact hi⟩ g1 (fun q h => by rw [g3] at h; cases h) (by rw [g2]; exact hkC) (by rw [g2]; exact va_assign hcls) rfl rfl hdg fun H1 e z oq => ?_
  refine kk H1 _ z oq ?_ (t_lc hL hA)
  show H1[a]? = some (vp_cell _ _)
  rw [e, hcl, vp_cell_q, vp_cell_q, arrV_store]
  congr 2
  funext q
  by_cases hq : q = i
  · subst hq
    simp [updV, va_up, va_rf]
  · simp [updV, va_up, hq]
theorem rw_alen (hexec : p.tables.exec = Jvm.exec) (hb : c.code = cc) (hK : va_K D cl tys s) (t0 : Nat) {cA : ClassId} {x : vp_A} (hat : va_at D cl (a, .inl (cA, x)) H) {ty : FieldType} (ht : tys[t0]? = some (cA, ty)) {v : Int32} (hv : Int32.ofNat x.1 = v) (hdg : decode cc pc = .ok (.arraylength, 1))
    (kk : W p l e R s m args below meth c H locs cells slots Q (F0 m (pc + 1) ls (.int v :: rest))) : W p l e R s m args below meth c H locs cells slots Q (F0 m pc ls (.ref a :: rest)) :=
  va_alen hexec hb hK (rw_sg hat) 0 t0 rfl ht hv hdg kk
-- new cells: at the heap's end
theorem rw_new (hexec : p.tables.exec = Jvm.exec) (hb : c.code = cc) {own C : String} {T : u_T} {N ci index : Nat} {Ts : List Cond} (hts : ∀ w ∈ Ts, w.before args s = true) (hin : ∀ w ∈ u_ws C T N, w ∈ Ts) (ty : Nat → FieldType) (hty : ∀ k, k < N → parseFieldDescriptor (T k).2.2.1 = some (ty k)) (hown : s.vm.findClass own = some m.cls) (hcl : (Cond.classLink own index C).before args s = true) (hinst : (Cond.instantiable C N).before args s = true) (hini : (Cond.initialized C).before args s = true)
    (hK : va_K D cl tys s) (hc : cl[ci]? = some (C, T, N)) {fs : List Value} (hfs : ∀ j, j < N → defaultValue (ty j) = vp_V fs j) (hcells : cells + 1 ≤ R.cells) (hslots : slots + N ≤ R.slots) (hdg : decode cc pc = .ok (.new index, 3))
    (kk : ∀ H1 : Heap, H1.size = H.size + 1 → (∀ q : Nat, q < H.size → H1[q]? = H[q]?) → va_at D cl (H.size, .inr (ci, fs)) H1 → W p l e R s m args below meth c H1 locs (cells + 1) (slots + N) Q (F0 m (pc + 3) ls (.ref H.size :: rest))) : W p l e R s m args below meth c H locs cells slots Q (F0 m pc ls rest) := by
  have hKn := hK.1 ci _ hc
  refine W.newcK hexec hb hown hcl hinst hini rfl hdg hcells hslots hKn.2.1 rfl fun H1 kC hkC e1 z1 o1 => ?_
  exact kk H1 z1 o1 ⟨_, hc, (u_born ty hts hin hKn hkC e1 hty).to hfs⟩
theorem rw_newa (hexec : p.tables.exec = Jvm.exec) (hb : c.code = cc) {atype : ArrayType} (harr : (Cond.arrayClass (newarray.typeOf atype)).before args s = true) (hK : va_K D cl tys s) (t0 : Nat) {cA : ClassId} (ht : tys[t0]? = some (cA, newarray.typeOf atype))
    {n : Int32} {N' : Nat} {a0 : vp_A} (ha : ∀ cA : ClassId, vp_cell cA a0 = arrV cA N' (fun _ => defaultValue (newarray.typeOf atype))) (hn : ¬ n < 0) (hN : n.toNatClampNeg = N') (hbytes : N' * componentBytes (newarray.typeOf atype) ≤ 536870912) (hcells : cells + 1 ≤ R.cells) (hslots : slots + N' ≤ R.slots) (hdg : decode cc pc = .ok (.newarray atype, 2))
    (kk : ∀ H1 : Heap, H1.size = H.size + 1 → (∀ q : Nat, q < H.size → H1[q]? = H[q]?) → va_at D cl (H.size, .inl (cA, a0)) H1 → W p l e R s m args below meth c H1 locs (cells + 1) (slots + N') Q (F0 m (pc + 2) ls (.ref H.size :: rest))) : W p l e R s m args below meth c H locs cells slots Q (F0 m pc ls (.int n :: rest)) := by
  refine va_newaK hexec hb harr rfl hdg rfl hn hN hbytes hcells hslots rfl fun H1 cA' e1 z1 o1 hAr hNm => ?_
  have h2 : va_RA s cA (newarray.typeOf atype) := (hK.2 t0 _ ht).2
  have h3 : s.vm.findClass ("[" ++ (newarray.typeOf atype).toString) = some cA := by cases atype <;> exact h2
  obtain rfl : cA' = cA := Option.some.inj (hNm.symm.trans h3)
  refine kk H1 z1 o1 ?_
  show H1[H.size]? = some (vp_cell _ _)
  rw [ha]
  exact e1
theorem rw_newq (hexec : p.tables.exec = Jvm.exec) (hb : c.code = cc) {own C : String} {index : Nat} (hown : s.vm.findClass own = some m.cls) (hclink : (Cond.classLink own index C).before args s = true) (hover : (Cond.arrayOver (.object C)).before args s = true) (hK : va_K D cl tys s) (t0 : Nat) {cA : ClassId} (ht : tys[t0]? = some (cA, .object C))
    {n : Int32} {N' : Nat} (hn : ¬ n < 0) (hN : n.toNatClampNeg = N') (hbytes : N' * 4 ≤ 536870912) (hcells : cells + 1 ≤ R.cells) (hslots : slots + N' ≤ R.slots) (hdg : decode cc pc = .ok (.anewarray index, 3))
    (kk : ∀ H1 : Heap, H1.size = H.size + 1 → (∀ q : Nat, q < H.size → H1[q]? = H[q]?) → va_at D cl (H.size, .inl (cA, N', .inr (.inr (.inr (.inr (fun _ => none)))))) H1 → W p l e R s m args below meth c H1 locs (cells + 1) (slots + N') Q (F0 m (pc + 3) ls (.ref H.size :: rest))) : W p l e R s m args below meth c H locs cells slots Q (F0 m pc ls (.int n :: rest)) := by
  subst hN
  refine W.anew hexec hb hown hclink hover rfl hdg rfl hn hbytes hcells hslots fun cA' kA comp f1 f2 f3 f4 => ?_
  obtain ⟨kA2, comp2, -, -, -, h3⟩ := (hK.2 t0 _ ht).2
  obtain rfl : cA' = cA := Option.some.inj (f1.symm.trans h3)
  refine kk _ (by simp) (fun q hq => by rw [Array.getElem?_push, if_neg (Nat.ne_of_lt hq)]) ?_
  show (H.push _)[H.size]? = some (vp_cell _ _)
  rw [vp_cell_q, Array.getElem?_push_size, ← arrV_new]
  rfl
-- compares of longs, with the branch behind
theorem ll_lt (hexec : p.tables.exec = Jvm.exec) (hb : c.code = cc) {x y : Int64} {off : Int} {tgt : Nat} (h1 : decode cc pc = .ok (.lcmp, 1)) (h2 : decode cc (pc + 1) = .ok (.ifCond .lt off, 3)) (ht : ((pc + 1 : Nat) : Int) + off = (tgt : Int)) (kt : x < y → W p l e R s m args below meth c H locs cells slots Q (F0 m tgt ls rest)) (kf : ¬ x < y → W p l e R s m args below meth c H locs cells slots Q (F0 m (pc + 4) ls rest)) : W p l e R s m args below meth c H locs cells slots Q (F0 m pc ls (.long y :: .long x :: rest)) :=
  W.lcmp hexec hb h1 (lv_if_lt hexec hb h2 ht (fun h => kt ((lg_cmp_lt x y).mp h)) (fun h => kf (fun q => h ((lg_cmp_lt x y).mpr q))))
theorem ll_le (hexec : p.tables.exec = Jvm.exec) (hb : c.code = cc) {x y : Int64} {off : Int} {tgt : Nat} (h1 : decode cc pc = .ok (.lcmp, 1)) (h2 : decode cc (pc + 1) = .ok (.ifCond .le off, 3)) (ht : ((pc + 1 : Nat) : Int) + off = (tgt : Int)) (kt : x ≤ y → W p l e R s m args below meth c H locs cells slots Q (F0 m tgt ls rest)) (kf : ¬ x ≤ y → W p l e R s m args below meth c H locs cells slots Q (F0 m (pc + 4) ls rest)) : W p l e R s m args below meth c H locs cells slots Q (F0 m pc ls (.long y :: .long x :: rest)) :=
  W.lcmp hexec hb h1 (lv_if_le hexec hb h2 ht (fun h => kt ((lg_cmp_le x y).mp h)) (fun h => kf (fun q => h ((lg_cmp_le x y).mpr q))))
theorem ll_gt (hexec : p.tables.exec = Jvm.exec) (hb : c.code = cc) {x y : Int64} {off : Int} {tgt : Nat} (h1 : decode cc pc = .ok (.lcmp, 1)) (h2 : decode cc (pc + 1) = .ok (.ifCond .gt off, 3)) (ht : ((pc + 1 : Nat) : Int) + off = (tgt : Int)) (kt : y < x → W p l e R s m args below meth c H locs cells slots Q (F0 m tgt ls rest)) (kf : ¬ y < x → W p l e R s m args below meth c H locs cells slots Q (F0 m (pc + 4) ls rest)) : W p l e R s m args below meth c H locs cells slots Q (F0 m pc ls (.long y :: .long x :: rest)) :=
  W.lcmp hexec hb h1 (lv_if_gt hexec hb h2 ht (fun h => kt ((lg_cmp_gt x y).mp h)) (fun h => kf (fun q => h ((lg_cmp_gt x y).mpr q))))
theorem ll_ge (hexec : p.tables.exec = Jvm.exec) (hb : c.code = cc) {x y : Int64} {off : Int} {tgt : Nat} (h1 : decode cc pc = .ok (.lcmp, 1)) (h2 : decode cc (pc + 1) = .ok (.ifCond .ge off, 3)) (ht : ((pc + 1 : Nat) : Int) + off = (tgt : Int)) (kt : y ≤ x → W p l e R s m args below meth c H locs cells slots Q (F0 m tgt ls rest)) (kf : ¬ y ≤ x → W p l e R s m args below meth c H locs cells slots Q (F0 m (pc + 4) ls rest)) : W p l e R s m args below meth c H locs cells slots Q (F0 m pc ls (.long y :: .long x :: rest)) :=
  W.lcmp hexec hb h1 (lv_if_ge hexec hb h2 ht (fun h => kt ((lg_cmp_ge x y).mp h)) (fun h => kf (fun q => h ((lg_cmp_ge x y).mpr q))))
theorem ll_eq (hexec : p.tables.exec = Jvm.exec) (hb : c.code = cc) {x y : Int64} {off : Int} {tgt : Nat} (h1 : decode cc pc = .ok (.lcmp, 1)) (h2 : decode cc (pc + 1) = .ok (.ifCond .eq off, 3)) (ht : ((pc + 1 : Nat) : Int) + off = (tgt : Int)) (kt : x = y → W p l e R s m args below meth c H locs cells slots Q (F0 m tgt ls rest)) (kf : ¬ x = y → W p l e R s m args below meth c H locs cells slots Q (F0 m (pc + 4) ls rest)) : W p l e R s m args below meth c H locs cells slots Q (F0 m pc ls (.long y :: .long x :: rest)) :=
  W.lcmp hexec hb h1 (lv_if_eq hexec hb h2 ht (fun h => kt ((lg_cmp_eq x y).mp h)) (fun h => kf (fun q => h ((lg_cmp_eq x y).mpr q))))
theorem ll_ne (hexec : p.tables.exec = Jvm.exec) (hb : c.code = cc) {x y : Int64} {off : Int} {tgt : Nat} (h1 : decode cc pc = .ok (.lcmp, 1)) (h2 : decode cc (pc + 1) = .ok (.ifCond .ne off, 3)) (ht : ((pc + 1 : Nat) : Int) + off = (tgt : Int)) (kt : ¬ x = y → W p l e R s m args below meth c H locs cells slots Q (F0 m tgt ls rest)) (kf : x = y → W p l e R s m args below meth c H locs cells slots Q (F0 m (pc + 4) ls rest)) : W p l e R s m args below meth c H locs cells slots Q (F0 m pc ls (.long y :: .long x :: rest)) :=
  W.lcmp hexec hb h1 (lv_if_ne hexec hb h2 ht (fun h => kt (fun q => h ((lg_cmp_eq x y).mpr q))) (fun h => kf ((lg_cmp_eq x y).mp h)))
-- another name of the value on top
theorem tp_i {x y : Int32} (h : x = y) (k : W p l e R s m args below meth c H locs cells slots Q (F0 m pc ls (.int y :: rest))) : W p l e R s m args below meth c H locs cells slots Q (F0 m pc ls (.int x :: rest)) := by rw [h]; exact k
theorem tp_l {x y : Int64} (h : x = y) (k : W p l e R s m args below meth c H locs cells slots Q (F0 m pc ls (.long y :: rest))) : W p l e R s m args below meth c H locs cells slots Q (F0 m pc ls (.long x :: rest)) := by rw [h]; exact k
end MyRows
end
section
def cn_R : String := "RuleChoice$Rule"
def ct_R : u_T := fun k => match k with
  | 0 => ("RuleChoice$Rule", "kind", "I", false)
  | 1 => ("RuleChoice$Rule", "classA", "I", false)
  | 2 => ("RuleChoice$Rule", "classB", "I", false)
  | 3 => ("RuleChoice$Rule", "layer", "I", false)
  | 4 => ("RuleChoice$Rule", "value", "J", false)
  | 5 => ("RuleChoice$Rule", "rank", "I", false)
  | _ => ("RuleChoice$Rule", "area", "I", false)
def ck_R : Nat → FieldType := fun k => match k with
  | 0 => .int
  | 1 => .int
  | 2 => .int
  | 3 => .int
  | 4 => .long
  | 5 => .int
  | _ => .int
theorem nm_R : ∀ a, a < 7 → ∀ b, b < 7 → a ≠ b → (ct_R a).2.1 ≠ (ct_R b).2.1 := by decide +kernel
theorem ok_R : ∀ k, k < 7 → parseFieldDescriptor (ct_R k).2.2.1 = some (ck_R k) := by decide +kernel
theorem in_R : ∀ w ∈ u_ws cn_R ct_R 7, w ∈ TB := fun w h => tb_of (List.mem_append_right _ ((by decide +kernel : ∀ w ∈ u_ws cn_R ct_R 7, w ∈ tables_1) w h)) ((by decide +kernel : ∀ w ∈ u_ws cn_R ct_R 7, goodWord w = true) w h)
def cn_A : String := "RuleChoice$Area"
def ct_A : u_T := fun k => match k with
  | 0 => ("RuleChoice$Area", "x0", "J", false)
  | 1 => ("RuleChoice$Area", "y0", "J", false)
  | 2 => ("RuleChoice$Area", "x1", "J", false)
  | _ => ("RuleChoice$Area", "y1", "J", false)
def ck_A : Nat → FieldType := fun k => match k with
  | 0 => .long
  | 1 => .long
  | 2 => .long
  | _ => .long
theorem nm_A : ∀ a, a < 4 → ∀ b, b < 4 → a ≠ b → (ct_A a).2.1 ≠ (ct_A b).2.1 := by decide +kernel
theorem ok_A : ∀ k, k < 4 → parseFieldDescriptor (ct_A k).2.2.1 = some (ck_A k) := by decide +kernel
theorem in_A : ∀ w ∈ u_ws cn_A ct_A 4, w ∈ TB := fun w h => tb_of (List.mem_append_right _ ((by decide +kernel : ∀ w ∈ u_ws cn_A ct_A 4, w ∈ tables_1) w h)) ((by decide +kernel : ∀ w ∈ u_ws cn_A ct_A 4, goodWord w = true) w h)
def cn_T : String := "RuleChoice$Thing"
def ct_T : u_T := fun k => match k with
  | 0 => ("RuleChoice$Thing", "cls", "I", false)
  | 1 => ("RuleChoice$Thing", "layer", "I", false)
  | 2 => ("RuleChoice$Thing", "x", "J", false)
  | _ => ("RuleChoice$Thing", "y", "J", false)
def ck_T : Nat → FieldType := fun k => match k with
  | 0 => .int
  | 1 => .int
  | 2 => .long
  | _ => .long
theorem nm_T : ∀ a, a < 4 → ∀ b, b < 4 → a ≠ b → (ct_T a).2.1 ≠ (ct_T b).2.1 := by decide +kernel
theorem ok_T : ∀ k, k < 4 → parseFieldDescriptor (ct_T k).2.2.1 = some (ck_T k) := by decide +kernel
theorem in_T : ∀ w ∈ u_ws cn_T ct_T 4, w ∈ TB := fun w h => tb_of (List.mem_append_right _ ((by decide +kernel : ∀ w ∈ u_ws cn_T ct_T 4, w ∈ tables_1) w h)) ((by decide +kernel : ∀ w ∈ u_ws cn_T ct_T 4, goodWord w = true) w h)
def cn_N : String := "RuleChoice$Answers"
def ct_N : u_T := fun k => match k with
  | 0 => ("RuleChoice$Answers", "slots", "[I", true)
  | _ => ("RuleChoice$Answers", "count", "I", false)
def ck_N : Nat → FieldType := fun k => match k with
  | 0 => .array .int
  | _ => .int
theorem nm_N : ∀ a, a < 2 → ∀ b, b < 2 → a ≠ b → (ct_N a).2.1 ≠ (ct_N b).2.1 := by decide +kernel
theorem ok_N : ∀ k, k < 2 → parseFieldDescriptor (ct_N k).2.2.1 = some (ck_N k) := by decide +kernel
theorem in_N : ∀ w ∈ u_ws cn_N ct_N 2, w ∈ TB := fun w h => tb_of (List.mem_append_right _ ((by decide +kernel : ∀ w ∈ u_ws cn_N ct_N 2, w ∈ tables_1) w h)) ((by decide +kernel : ∀ w ∈ u_ws cn_N ct_N 2, goodWord w = true) w h)
def cn_P : String := "RuleChoice$Pairs"
def ct_P : u_T := fun k => match k with
  | 0 => ("RuleChoice$Pairs", "lower", "[I", true)
  | 1 => ("RuleChoice$Pairs", "other", "[I", true)
  | _ => ("RuleChoice$Pairs", "count", "I", false)
def ck_P : Nat → FieldType := fun k => match k with
  | 0 => .array .int
  | 1 => .array .int
  | _ => .int
theorem nm_P : ∀ a, a < 3 → ∀ b, b < 3 → a ≠ b → (ct_P a).2.1 ≠ (ct_P b).2.1 := by decide +kernel
theorem ok_P : ∀ k, k < 3 → parseFieldDescriptor (ct_P k).2.2.1 = some (ck_P k) := by decide +kernel
theorem in_P : ∀ w ∈ u_ws cn_P ct_P 3, w ∈ TB := fun w h => tb_of (List.mem_append_right _ ((by decide +kernel : ∀ w ∈ u_ws cn_P ct_P 3, w ∈ tables_1) w h)) ((by decide +kernel : ∀ w ∈ u_ws cn_P ct_P 3, goodWord w = true) w h)
def cn_X : String := "RuleChoice"
def ct_X : u_T := fun k => match k with
  | 0 => ("RuleChoice", "classes", "I", true)
  | 1 => ("RuleChoice", "rules", "[LRuleChoice$Rule;", true)
  | 2 => ("RuleChoice", "areas", "[LRuleChoice$Area;", true)
  | 3 => ("RuleChoice", "things", "[LRuleChoice$Thing;", true)
  | 4 => ("RuleChoice", "answers", "LRuleChoice$Answers;", true)
  | 5 => ("RuleChoice", "nearPairs", "LRuleChoice$Pairs;", true)
  | 6 => ("RuleChoice", "ruleCount", "I", false)
  | 7 => ("RuleChoice", "areaCount", "I", false)
  | 8 => ("RuleChoice", "thingCount", "I", false)
  | _ => ("RuleChoice", "sparedCount", "J", false)
def ck_X : Nat → FieldType := fun k => match k with
  | 0 => .int
  | 1 => .array (.object "RuleChoice$Rule")
  | 2 => .array (.object "RuleChoice$Area")
  | 3 => .array (.object "RuleChoice$Thing")
  | 4 => .object "RuleChoice$Answers"
  | 5 => .object "RuleChoice$Pairs"
  | 6 => .int
  | 7 => .int
  | 8 => .int
  | _ => .long
theorem nm_X : ∀ a, a < 10 → ∀ b, b < 10 → a ≠ b → (ct_X a).2.1 ≠ (ct_X b).2.1 := by decide +kernel
theorem ok_X : ∀ k, k < 10 → parseFieldDescriptor (ct_X k).2.2.1 = some (ck_X k) := by decide +kernel
theorem in_X : ∀ w ∈ u_ws cn_X ct_X 10, w ∈ TB := fun w h => tb_of (List.mem_append_right _ ((by decide +kernel : ∀ w ∈ u_ws cn_X ct_X 10, w ∈ tables_1) w h)) ((by decide +kernel : ∀ w ∈ u_ws cn_X ct_X 10, goodWord w = true) w h)
def cn_M : String := "RuleChoiceModel"
def ct_M : u_T := fun k => match k with
  | 0 => ("RuleChoiceModel", "thrown", "I", false)
  | 1 => ("RuleChoiceModel", "classes", "I", true)
  | 2 => ("RuleChoiceModel", "rules", "I", false)
  | 3 => ("RuleChoiceModel", "kinds", "[I", true)
  | 4 => ("RuleChoiceModel", "ones", "[I", true)
  | 5 => ("RuleChoiceModel", "others", "[I", true)
  | 6 => ("RuleChoiceModel", "layers", "[I", true)
  | 7 => ("RuleChoiceModel", "values", "[J", true)
  | 8 => ("RuleChoiceModel", "ranks", "[I", true)
  | 9 => ("RuleChoiceModel", "within", "[I", true)
  | 10 => ("RuleChoiceModel", "areas", "I", false)
  | 11 => ("RuleChoiceModel", "corners", "[J", true)
  | 12 => ("RuleChoiceModel", "things", "I", false)
  | 13 => ("RuleChoiceModel", "types", "[I", true)
  | 14 => ("RuleChoiceModel", "levels", "[I", true)
  | 15 => ("RuleChoiceModel", "x", "[J", true)
  | 16 => ("RuleChoiceModel", "y", "[J", true)
  | 17 => ("RuleChoiceModel", "keeps", "[Z", true)
  | 18 => ("RuleChoiceModel", "found", "J", false)
  | 19 => ("RuleChoiceModel", "pairs", "I", false)
  | 20 => ("RuleChoiceModel", "pairOne", "[I", true)
  | _ => ("RuleChoiceModel", "pairOther", "[I", true)
def ck_M : Nat → FieldType := fun k => match k with
  | 0 => .int
  | 1 => .int
  | 2 => .int
  | 3 => .array .int
  | 4 => .array .int
  | 5 => .array .int
  | 6 => .array .int
  | 7 => .array .long
  | 8 => .array .int
  | 9 => .array .int
  | 10 => .int
  | 11 => .array .long
  | 12 => .int
  | 13 => .array .int
  | 14 => .array .int
  | 15 => .array .long
  | 16 => .array .long
  | 17 => .array .boolean
  | 18 => .long
  | 19 => .int
  | 20 => .array .int
  | _ => .array .int
theorem nm_M : ∀ a, a < 22 → ∀ b, b < 22 → a ≠ b → (ct_M a).2.1 ≠ (ct_M b).2.1 := by decide +kernel
theorem ok_M : ∀ k, k < 22 → parseFieldDescriptor (ct_M k).2.2.1 = some (ck_M k) := by decide +kernel
theorem in_M : ∀ w ∈ u_ws cn_M ct_M 22, w ∈ TB := fun w h => tb_of (List.mem_append_right _ ((by decide +kernel : ∀ w ∈ u_ws cn_M ct_M 22, w ∈ tables_1) w h)) ((by decide +kernel : ∀ w ∈ u_ws cn_M ct_M 22, goodWord w = true) w h)
def cn_L : String := "RuleChoiceLaw"
abbrev CL : List vw_C := [(cn_X, ct_X, 10), (cn_N, ct_N, 2), (cn_A, ct_A, 4), (cn_P, ct_P, 3), (cn_R, ct_R, 7), (cn_T, ct_T, 4), (cn_M, ct_M, 22)]
abbrev mb_X_init : ByteArray := prog_1_method_1_code
def my_X_init : MethodName := ⟨"RuleChoice", "<init>", "(I)V"⟩
abbrev mk_X_init : Cond := Cond.code my_X_init mb_X_init 3 none
theorem in_X_init : mk_X_init ∈ TB := tb_at 18 (by decide +kernel) (by decide +kernel)
def mw_X_init : List Cond := mk_X_init :: TB
abbrev mb_R_init : ByteArray := prog_5_method_1_code
def my_R_init : MethodName := ⟨"RuleChoice$Rule", "<init>", "()V"⟩
abbrev mk_R_init : Cond := Cond.code my_R_init mb_R_init 1 none
theorem in_R_init : mk_R_init ∈ TB := tb_at 33 (by decide +kernel) (by decide +kernel)
def mw_R_init : List Cond := mk_R_init :: TB
abbrev mb_A_init : ByteArray := prog_3_method_1_code
def my_A_init : MethodName := ⟨"RuleChoice$Area", "<init>", "()V"⟩
abbrev mk_A_init : Cond := Cond.code my_A_init mb_A_init 1 none
theorem in_A_init : mk_A_init ∈ TB := tb_at 65 (by decide +kernel) (by decide +kernel)
def mw_A_init : List Cond := mk_A_init :: TB
abbrev mb_T_init : ByteArray := prog_6_method_1_code
def my_T_init : MethodName := ⟨"RuleChoice$Thing", "<init>", "()V"⟩
abbrev mk_T_init : Cond := Cond.code my_T_init mb_T_init 1 none
theorem in_T_init : mk_T_init ∈ TB := tb_at 85 (by decide +kernel) (by decide +kernel)
def mw_T_init : List Cond := mk_T_init :: TB
abbrev mb_N_init : ByteArray := prog_2_method_1_code
def my_N_init : MethodName := ⟨"RuleChoice$Answers", "<init>", "()V"⟩
abbrev mk_N_init : Cond := Cond.code my_N_init mb_N_init 1 none
theorem in_N_init : mk_N_init ∈ TB := tb_at 108 (by decide +kernel) (by decide +kernel)
def mw_N_init : List Cond := mk_N_init :: TB
abbrev mb_P_init : ByteArray := prog_4_method_1_code
def my_P_init : MethodName := ⟨"RuleChoice$Pairs", "<init>", "()V"⟩
abbrev mk_P_init : Cond := Cond.code my_P_init mb_P_init 1 none
theorem in_P_init : mk_P_init ∈ TB := tb_at 123 (by decide +kernel) (by decide +kernel)
def mw_P_init : List Cond := mk_P_init :: TB
abbrev mb_X_kept : ByteArray := prog_1_method_16_code
def my_X_kept : MethodName := ⟨"RuleChoice", "kept", "()I"⟩
abbrev mk_X_kept : Cond := Cond.code my_X_kept mb_X_kept 1 (some .int)
theorem in_X_kept : mk_X_kept ∈ TB := tb_at 172 (by decide +kernel) (by decide +kernel)
def mw_X_kept : List Cond := mk_X_kept :: TB
abbrev mb_X_spared : ByteArray := prog_1_method_17_code
def my_X_spared : MethodName := ⟨"RuleChoice", "spared", "()J"⟩
abbrev mk_X_spared : Cond := Cond.code my_X_spared mb_X_spared 1 (some .long)
theorem in_X_spared : mk_X_spared ∈ TB := tb_at 176 (by decide +kernel) (by decide +kernel)
def mw_X_spared : List Cond := mk_X_spared :: TB
abbrev mb_L_cell : ByteArray := method_2_code
def my_L_cell : MethodName := ⟨"RuleChoiceLaw", "cell", "([II)I"⟩
abbrev mk_L_cell : Cond := Cond.code my_L_cell mb_L_cell 2 (some .int)
theorem in_L_cell : mk_L_cell ∈ TB := tb_at 179 (by decide +kernel) (by decide +kernel)
def mw_L_cell : List Cond := mk_L_cell :: TB
abbrev mb_L_rule : ByteArray := method_3_code
def my_L_rule : MethodName := ⟨"RuleChoiceLaw", "rule", "(LRuleChoice;IIIIJ[J)I"⟩
abbrev mk_L_rule : Cond := Cond.codeWith my_L_rule mb_L_rule 9 (some .int) [(0, 16, 19, 13), (0, 16, 23, 15)]
theorem in_L_rule : mk_L_rule ∈ TB := tb_at 182 (by decide +kernel) (by decide +kernel)
def mw_L_rule : List Cond := mk_L_rule :: TB
abbrev mb_X_rule : ByteArray := prog_1_method_2_code
def my_X_rule : MethodName := ⟨"RuleChoice", "rule", "(IIIIJ)I"⟩
abbrev mk_X_rule : Cond := Cond.code my_X_rule mb_X_rule 7 (some .int)
theorem in_X_rule : mk_X_rule ∈ TB := tb_at 188 (by decide +kernel) (by decide +kernel)
def mw_X_rule : List Cond := mk_X_rule :: TB
abbrev mb_X_needKind : ByteArray := prog_1_method_26_code
def my_X_needKind : MethodName := ⟨"RuleChoice", "needKind", "(I)V"⟩
abbrev mk_X_needKind : Cond := Cond.code my_X_needKind mb_X_needKind 2 none
theorem in_X_needKind : mk_X_needKind ∈ TB := tb_at 192 (by decide +kernel) (by decide +kernel)
def mw_X_needKind : List Cond := mk_X_needKind :: TB
abbrev mb_X_needClassOrNone : ByteArray := prog_1_method_28_code
def my_X_needClassOrNone : MethodName := ⟨"RuleChoice", "needClassOrNone", "(I)V"⟩
abbrev mk_X_needClassOrNone : Cond := Cond.code my_X_needClassOrNone mb_X_needClassOrNone 2 none
theorem in_X_needClassOrNone : mk_X_needClassOrNone ∈ TB := tb_at 263 (by decide +kernel) (by decide +kernel)
def mw_X_needClassOrNone : List Cond := mk_X_needClassOrNone :: TB
abbrev mb_X_needClass : ByteArray := prog_1_method_27_code
def my_X_needClass : MethodName := ⟨"RuleChoice", "needClass", "(I)V"⟩
abbrev mk_X_needClass : Cond := Cond.code my_X_needClass mb_X_needClass 2 none
theorem in_X_needClass : mk_X_needClass ∈ TB := tb_at 267 (by decide +kernel) (by decide +kernel)
def mw_X_needClass : List Cond := mk_X_needClass :: TB
abbrev mb_X_needLayerOrNone : ByteArray := prog_1_method_30_code
def my_X_needLayerOrNone : MethodName := ⟨"RuleChoice", "needLayerOrNone", "(I)V"⟩
abbrev mk_X_needLayerOrNone : Cond := Cond.code my_X_needLayerOrNone mb_X_needLayerOrNone 2 none
theorem in_X_needLayerOrNone : mk_X_needLayerOrNone ∈ TB := tb_at 272 (by decide +kernel) (by decide +kernel)
def mw_X_needLayerOrNone : List Cond := mk_X_needLayerOrNone :: TB
abbrev mb_X_needLayer : ByteArray := prog_1_method_29_code
def my_X_needLayer : MethodName := ⟨"RuleChoice", "needLayer", "(I)V"⟩
abbrev mk_X_needLayer : Cond := Cond.code my_X_needLayer mb_X_needLayer 2 none
theorem in_X_needLayer : mk_X_needLayer ∈ TB := tb_at 276 (by decide +kernel) (by decide +kernel)
def mw_X_needLayer : List Cond := mk_X_needLayer :: TB
abbrev mb_X_needValue : ByteArray := prog_1_method_35_code
def my_X_needValue : MethodName := ⟨"RuleChoice", "needValue", "(J)V"⟩
abbrev mk_X_needValue : Cond := Cond.code my_X_needValue mb_X_needValue 3 none
theorem in_X_needValue : mk_X_needValue ∈ TB := tb_at 281 (by decide +kernel) (by decide +kernel)
def mw_X_needValue : List Cond := mk_X_needValue :: TB
abbrev mb_R_tell : ByteArray := prog_5_method_2_code
def my_R_tell : MethodName := ⟨"RuleChoice$Rule", "tell", "(IIIIJ)V"⟩
abbrev mk_R_tell : Cond := Cond.code my_R_tell mb_R_tell 7 none
theorem in_R_tell : mk_R_tell ∈ TB := tb_at 302 (by decide +kernel) (by decide +kernel)
def mw_R_tell : List Cond := mk_R_tell :: TB
abbrev mb_N_dropKind : ByteArray := prog_2_method_5_code
def my_N_dropKind : MethodName := ⟨"RuleChoice$Answers", "dropKind", "(I)V"⟩
abbrev mk_N_dropKind : Cond := Cond.code my_N_dropKind mb_N_dropKind 4 none
theorem in_N_dropKind : mk_N_dropKind ∈ TB := tb_at 306 (by decide +kernel) (by decide +kernel)
def mw_N_dropKind : List Cond := mk_N_dropKind :: TB
abbrev mb_N_drop : ByteArray := prog_2_method_7_code
def my_N_drop : MethodName := ⟨"RuleChoice$Answers", "drop", "(I)V"⟩
abbrev mk_N_drop : Cond := Cond.code my_N_drop mb_N_drop 2 none
theorem in_N_drop : mk_N_drop ∈ TB := tb_at 310 (by decide +kernel) (by decide +kernel)
def mw_N_drop : List Cond := mk_N_drop :: TB
abbrev mb_L_rank : ByteArray := method_4_code
def my_L_rank : MethodName := ⟨"RuleChoiceLaw", "rank", "(LRuleChoice;II[J)I"⟩
abbrev mk_L_rank : Cond := Cond.codeWith my_L_rank mb_L_rank 5 (some .int) [(0, 17, 20, 13), (0, 17, 24, 15)]
theorem in_L_rank : mk_L_rank ∈ TB := tb_at 313 (by decide +kernel) (by decide +kernel)
def mw_L_rank : List Cond := mk_L_rank :: TB
abbrev mb_X_rank : ByteArray := prog_1_method_3_code
def my_X_rank : MethodName := ⟨"RuleChoice", "rank", "(II)Z"⟩
abbrev mk_X_rank : Cond := Cond.code my_X_rank mb_X_rank 4 (some .boolean)
theorem in_X_rank : mk_X_rank ∈ TB := tb_at 317 (by decide +kernel) (by decide +kernel)
def mw_X_rank : List Cond := mk_X_rank :: TB
abbrev mb_X_needRule : ByteArray := prog_1_method_31_code
def my_X_needRule : MethodName := ⟨"RuleChoice", "needRule", "(I)V"⟩
abbrev mk_X_needRule : Cond := Cond.code my_X_needRule mb_X_needRule 2 none
theorem in_X_needRule : mk_X_needRule ∈ TB := tb_at 321 (by decide +kernel) (by decide +kernel)
def mw_X_needRule : List Cond := mk_X_needRule :: TB
abbrev mb_X_needRank : ByteArray := prog_1_method_36_code
def my_X_needRank : MethodName := ⟨"RuleChoice", "needRank", "(I)V"⟩
abbrev mk_X_needRank : Cond := Cond.code my_X_needRank mb_X_needRank 2 none
theorem in_X_needRank : mk_X_needRank ∈ TB := tb_at 326 (by decide +kernel) (by decide +kernel)
def mw_X_needRank : List Cond := mk_X_needRank :: TB
abbrev mb_L_area : ByteArray := method_5_code
def my_L_area : MethodName := ⟨"RuleChoiceLaw", "area", "(LRuleChoice;JJJJ[J)I"⟩
abbrev mk_L_area : Cond := Cond.codeWith my_L_area mb_L_area 11 (some .int) [(0, 15, 18, 15)]
theorem in_L_area : mk_L_area ∈ TB := tb_at 330 (by decide +kernel) (by decide +kernel)
def mw_L_area : List Cond := mk_L_area :: TB
abbrev mb_X_area : ByteArray := prog_1_method_4_code
def my_X_area : MethodName := ⟨"RuleChoice", "area", "(JJJJ)I"⟩
abbrev mk_X_area : Cond := Cond.code my_X_area mb_X_area 9 (some .int)
theorem in_X_area : mk_X_area ∈ TB := tb_at 334 (by decide +kernel) (by decide +kernel)
def mw_X_area : List Cond := mk_X_area :: TB
abbrev mb_X_needPlace : ByteArray := prog_1_method_37_code
def my_X_needPlace : MethodName := ⟨"RuleChoice", "needPlace", "(JJ)V"⟩
abbrev mk_X_needPlace : Cond := Cond.code my_X_needPlace mb_X_needPlace 5 none
theorem in_X_needPlace : mk_X_needPlace ∈ TB := tb_at 338 (by decide +kernel) (by decide +kernel)
def mw_X_needPlace : List Cond := mk_X_needPlace :: TB
abbrev mb_X_needUnturned : ByteArray := prog_1_method_38_code
def my_X_needUnturned : MethodName := ⟨"RuleChoice", "needUnturned", "(JJJJ)V"⟩
abbrev mk_X_needUnturned : Cond := Cond.code my_X_needUnturned mb_X_needUnturned 9 none
theorem in_X_needUnturned : mk_X_needUnturned ∈ TB := tb_at 344 (by decide +kernel) (by decide +kernel)
def mw_X_needUnturned : List Cond := mk_X_needUnturned :: TB
abbrev mb_A_span : ByteArray := prog_3_method_2_code
def my_A_span : MethodName := ⟨"RuleChoice$Area", "span", "(JJJJ)V"⟩
abbrev mk_A_span : Cond := Cond.code my_A_span mb_A_span 9 none
theorem in_A_span : mk_A_span ∈ TB := tb_at 349 (by decide +kernel) (by decide +kernel)
def mw_A_span : List Cond := mk_A_span :: TB
abbrev mb_L_inArea : ByteArray := method_6_code
def my_L_inArea : MethodName := ⟨"RuleChoiceLaw", "inArea", "(LRuleChoice;II[J)I"⟩
abbrev mk_L_inArea : Cond := Cond.codeWith my_L_inArea mb_L_inArea 5 (some .int) [(0, 17, 20, 13)]
theorem in_L_inArea : mk_L_inArea ∈ TB := tb_at 352 (by decide +kernel) (by decide +kernel)
def mw_L_inArea : List Cond := mk_L_inArea :: TB
abbrev mb_X_inArea : ByteArray := prog_1_method_5_code
def my_X_inArea : MethodName := ⟨"RuleChoice", "inArea", "(II)Z"⟩
abbrev mk_X_inArea : Cond := Cond.code my_X_inArea mb_X_inArea 4 (some .boolean)
theorem in_X_inArea : mk_X_inArea ∈ TB := tb_at 356 (by decide +kernel) (by decide +kernel)
def mw_X_inArea : List Cond := mk_X_inArea :: TB
abbrev mb_X_needAreaOrNone : ByteArray := prog_1_method_32_code
def my_X_needAreaOrNone : MethodName := ⟨"RuleChoice", "needAreaOrNone", "(I)V"⟩
abbrev mk_X_needAreaOrNone : Cond := Cond.code my_X_needAreaOrNone mb_X_needAreaOrNone 2 none
theorem in_X_needAreaOrNone : mk_X_needAreaOrNone ∈ TB := tb_at 360 (by decide +kernel) (by decide +kernel)
def mw_X_needAreaOrNone : List Cond := mk_X_needAreaOrNone :: TB
abbrev mb_L_thing : ByteArray := method_7_code
def my_L_thing : MethodName := ⟨"RuleChoiceLaw", "thing", "(LRuleChoice;IIJJ[J)I"⟩
abbrev mk_L_thing : Cond := Cond.codeWith my_L_thing mb_L_thing 9 (some .int) [(0, 14, 17, 13), (0, 14, 21, 15)]
theorem in_L_thing : mk_L_thing ∈ TB := tb_at 364 (by decide +kernel) (by decide +kernel)
def mw_L_thing : List Cond := mk_L_thing :: TB
abbrev mb_X_thing : ByteArray := prog_1_method_6_code
def my_X_thing : MethodName := ⟨"RuleChoice", "thing", "(IIJJ)I"⟩
abbrev mk_X_thing : Cond := Cond.code my_X_thing mb_X_thing 8 (some .int)
theorem in_X_thing : mk_X_thing ∈ TB := tb_at 368 (by decide +kernel) (by decide +kernel)
def mw_X_thing : List Cond := mk_X_thing :: TB
abbrev mb_T_become : ByteArray := prog_6_method_2_code
def my_T_become : MethodName := ⟨"RuleChoice$Thing", "become", "(II)V"⟩
abbrev mk_T_become : Cond := Cond.code my_T_become mb_T_become 3 none
theorem in_T_become : mk_T_become ∈ TB := tb_at 372 (by decide +kernel) (by decide +kernel)
def mw_T_become : List Cond := mk_T_become :: TB
abbrev mb_T_put : ByteArray := prog_6_method_3_code
def my_T_put : MethodName := ⟨"RuleChoice$Thing", "put", "(JJ)V"⟩
abbrev mk_T_put : Cond := Cond.code my_T_put mb_T_put 5 none
theorem in_T_put : mk_T_put ∈ TB := tb_at 376 (by decide +kernel) (by decide +kernel)
def mw_T_put : List Cond := mk_T_put :: TB
abbrev mb_L_make : ByteArray := method_8_code
def my_L_make : MethodName := ⟨"RuleChoiceLaw", "make", "(LRuleChoice;III[J)I"⟩
abbrev mk_L_make : Cond := Cond.codeWith my_L_make mb_L_make 6 (some .int) [(0, 19, 22, 13)]
theorem in_L_make : mk_L_make ∈ TB := tb_at 379 (by decide +kernel) (by decide +kernel)
def mw_L_make : List Cond := mk_L_make :: TB
abbrev mb_X_make : ByteArray := prog_1_method_7_code
def my_X_make : MethodName := ⟨"RuleChoice", "make", "(III)Z"⟩
abbrev mk_X_make : Cond := Cond.code my_X_make mb_X_make 5 (some .boolean)
theorem in_X_make : mk_X_make ∈ TB := tb_at 383 (by decide +kernel) (by decide +kernel)
def mw_X_make : List Cond := mk_X_make :: TB
abbrev mb_X_needThing : ByteArray := prog_1_method_33_code
def my_X_needThing : MethodName := ⟨"RuleChoice", "needThing", "(I)V"⟩
abbrev mk_X_needThing : Cond := Cond.code my_X_needThing mb_X_needThing 2 none
theorem in_X_needThing : mk_X_needThing ∈ TB := tb_at 387 (by decide +kernel) (by decide +kernel)
def mw_X_needThing : List Cond := mk_X_needThing :: TB
abbrev mb_N_dropThing : ByteArray := prog_2_method_6_code
def my_N_dropThing : MethodName := ⟨"RuleChoice$Answers", "dropThing", "(I)V"⟩
abbrev mk_N_dropThing : Cond := Cond.code my_N_dropThing mb_N_dropThing 4 none
theorem in_N_dropThing : mk_N_dropThing ∈ TB := tb_at 392 (by decide +kernel) (by decide +kernel)
def mw_N_dropThing : List Cond := mk_N_dropThing :: TB
abbrev mb_N_slotOf : ByteArray := prog_2_method_8_code
def my_N_slotOf : MethodName := ⟨"RuleChoice$Answers", "slotOf", "(III)I"⟩
abbrev mk_N_slotOf : Cond := Cond.code my_N_slotOf mb_N_slotOf 5 (some .int)
theorem in_N_slotOf : mk_N_slotOf ∈ TB := tb_at 395 (by decide +kernel) (by decide +kernel)
def mw_N_slotOf : List Cond := mk_N_slotOf :: TB
abbrev mb_L_move : ByteArray := method_9_code
def my_L_move : MethodName := ⟨"RuleChoiceLaw", "move", "(LRuleChoice;IJJ[J)I"⟩
abbrev mk_L_move : Cond := Cond.codeWith my_L_move mb_L_move 8 (some .int) [(0, 20, 23, 13), (0, 20, 27, 15)]
theorem in_L_move : mk_L_move ∈ TB := tb_at 400 (by decide +kernel) (by decide +kernel)
def mw_L_move : List Cond := mk_L_move :: TB
abbrev mb_X_move : ByteArray := prog_1_method_8_code
def my_X_move : MethodName := ⟨"RuleChoice", "move", "(IJJ)Z"⟩
abbrev mk_X_move : Cond := Cond.code my_X_move mb_X_move 7 (some .boolean)
theorem in_X_move : mk_X_move ∈ TB := tb_at 404 (by decide +kernel) (by decide +kernel)
def mw_X_move : List Cond := mk_X_move :: TB
abbrev mb_X_areasAround : ByteArray := prog_1_method_23_code
def my_X_areasAround : MethodName := ⟨"RuleChoice", "areasAround", "(JJ)I"⟩
abbrev mk_X_areasAround : Cond := Cond.code my_X_areasAround mb_X_areasAround 7 (some .int)
theorem in_X_areasAround : mk_X_areasAround ∈ TB := tb_at 408 (by decide +kernel) (by decide +kernel)
def mw_X_areasAround : List Cond := mk_X_areasAround :: TB
abbrev mb_A_holds : ByteArray := prog_3_method_3_code
def my_A_holds : MethodName := ⟨"RuleChoice$Area", "holds", "(JJ)Z"⟩
abbrev mk_A_holds : Cond := Cond.code my_A_holds mb_A_holds 5 (some .boolean)
theorem in_A_holds : mk_A_holds ∈ TB := tb_at 412 (by decide +kernel) (by decide +kernel)
def mw_A_holds : List Cond := mk_A_holds :: TB
abbrev mb_L_winner : ByteArray := method_10_code
def my_L_winner : MethodName := ⟨"RuleChoiceLaw", "winner", "(LRuleChoice;III[J)I"⟩
abbrev mk_L_winner : Cond := Cond.codeWith my_L_winner mb_L_winner 6 (some .int) [(0, 12, 15, 13)]
theorem in_L_winner : mk_L_winner ∈ TB := tb_at 415 (by decide +kernel) (by decide +kernel)
def mw_L_winner : List Cond := mk_L_winner :: TB
abbrev mb_X_winner : ByteArray := prog_1_method_9_code
def my_X_winner : MethodName := ⟨"RuleChoice", "winner", "(III)I"⟩
abbrev mk_X_winner : Cond := Cond.code my_X_winner mb_X_winner 4 (some .int)
theorem in_X_winner : mk_X_winner ∈ TB := tb_at 419 (by decide +kernel) (by decide +kernel)
def mw_X_winner : List Cond := mk_X_winner :: TB
abbrev mb_X_needKindAndThings : ByteArray := prog_1_method_25_code
def my_X_needKindAndThings : MethodName := ⟨"RuleChoice", "needKindAndThings", "(III)V"⟩
abbrev mk_X_needKindAndThings : Cond := Cond.code my_X_needKindAndThings mb_X_needKindAndThings 4 none
theorem in_X_needKindAndThings : mk_X_needKindAndThings ∈ TB := tb_at 423 (by decide +kernel) (by decide +kernel)
def mw_X_needKindAndThings : List Cond := mk_X_needKindAndThings :: TB
abbrev mb_X_keptWinner : ByteArray := prog_1_method_18_code
def my_X_keptWinner : MethodName := ⟨"RuleChoice", "keptWinner", "(III)I"⟩
abbrev mk_X_keptWinner : Cond := Cond.code my_X_keptWinner mb_X_keptWinner 5 (some .int)
theorem in_X_keptWinner : mk_X_keptWinner ∈ TB := tb_at 427 (by decide +kernel) (by decide +kernel)
def mw_X_keptWinner : List Cond := mk_X_keptWinner :: TB
abbrev mb_N_has : ByteArray := prog_2_method_2_code
def my_N_has : MethodName := ⟨"RuleChoice$Answers", "has", "(III)Z"⟩
abbrev mk_N_has : Cond := Cond.code my_N_has mb_N_has 4 (some .boolean)
theorem in_N_has : mk_N_has ∈ TB := tb_at 431 (by decide +kernel) (by decide +kernel)
def mw_N_has : List Cond := mk_N_has :: TB
abbrev mb_N_read : ByteArray := prog_2_method_3_code
def my_N_read : MethodName := ⟨"RuleChoice$Answers", "read", "(III)I"⟩
abbrev mk_N_read : Cond := Cond.code my_N_read mb_N_read 4 (some .int)
theorem in_N_read : mk_N_read ∈ TB := tb_at 435 (by decide +kernel) (by decide +kernel)
def mw_N_read : List Cond := mk_N_read :: TB
abbrev mb_X_bestBelow : ByteArray := prog_1_method_20_code
def my_X_bestBelow : MethodName := ⟨"RuleChoice", "bestBelow", "(IILRuleChoice$Thing;LRuleChoice$Thing;)I"⟩
abbrev mk_X_bestBelow : Cond := Cond.code my_X_bestBelow mb_X_bestBelow 8 (some .int)
theorem in_X_bestBelow : mk_X_bestBelow ∈ TB := tb_at 439 (by decide +kernel) (by decide +kernel)
def mw_X_bestBelow : List Cond := mk_X_bestBelow :: TB
abbrev mb_X_beats : ByteArray := prog_1_method_21_code
def my_X_beats : MethodName := ⟨"RuleChoice", "beats", "(II)Z"⟩
abbrev mk_X_beats : Cond := Cond.code my_X_beats mb_X_beats 5 (some .boolean)
theorem in_X_beats : mk_X_beats ∈ TB := tb_at 443 (by decide +kernel) (by decide +kernel)
def mw_X_beats : List Cond := mk_X_beats :: TB
abbrev mb_X_hindrance : ByteArray := prog_1_method_22_code
def my_X_hindrance : MethodName := ⟨"RuleChoice", "hindrance", "(LRuleChoice$Rule;ILRuleChoice$Thing;LRuleChoice$Thing;)I"⟩
abbrev mk_X_hindrance : Cond := Cond.code my_X_hindrance mb_X_hindrance 5 (some .int)
theorem in_X_hindrance : mk_X_hindrance ∈ TB := tb_at 447 (by decide +kernel) (by decide +kernel)
def mw_X_hindrance : List Cond := mk_X_hindrance :: TB
abbrev mb_R_isBetween : ByteArray := prog_5_method_3_code
def my_R_isBetween : MethodName := ⟨"RuleChoice$Rule", "isBetween", "(II)Z"⟩
abbrev mk_R_isBetween : Cond := Cond.code my_R_isBetween mb_R_isBetween 3 (some .boolean)
theorem in_R_isBetween : mk_R_isBetween ∈ TB := tb_at 451 (by decide +kernel) (by decide +kernel)
def mw_R_isBetween : List Cond := mk_R_isBetween :: TB
abbrev mb_R_fits : ByteArray := prog_5_method_5_code
def my_R_fits : MethodName := ⟨"RuleChoice$Rule", "fits", "(II)Z"⟩
abbrev mk_R_fits : Cond := Cond.code my_R_fits mb_R_fits 2 (some .boolean)
theorem in_R_fits : mk_R_fits ∈ TB := tb_at 454 (by decide +kernel) (by decide +kernel)
def mw_R_fits : List Cond := mk_R_fits :: TB
abbrev mb_R_isForLayer : ByteArray := prog_5_method_4_code
def my_R_isForLayer : MethodName := ⟨"RuleChoice$Rule", "isForLayer", "(I)Z"⟩
abbrev mk_R_isForLayer : Cond := Cond.code my_R_isForLayer mb_R_isForLayer 2 (some .boolean)
theorem in_R_isForLayer : mk_R_isForLayer ∈ TB := tb_at 458 (by decide +kernel) (by decide +kernel)
def mw_R_isForLayer : List Cond := mk_R_isForLayer :: TB
abbrev mb_N_keep : ByteArray := prog_2_method_4_code
def my_N_keep : MethodName := ⟨"RuleChoice$Answers", "keep", "(IIII)V"⟩
abbrev mk_N_keep : Cond := Cond.code my_N_keep mb_N_keep 6 none
theorem in_N_keep : mk_N_keep ∈ TB := tb_at 462 (by decide +kernel) (by decide +kernel)
def mw_N_keep : List Cond := mk_N_keep :: TB
abbrev mb_L_value : ByteArray := method_11_code
def my_L_value : MethodName := ⟨"RuleChoiceLaw", "value", "(LRuleChoice;III[J)I"⟩
abbrev mk_L_value : Cond := Cond.codeWith my_L_value mb_L_value 6 (some .int) [(0, 11, 14, 13)]
theorem in_L_value : mk_L_value ∈ TB := tb_at 465 (by decide +kernel) (by decide +kernel)
def mw_L_value : List Cond := mk_L_value :: TB
abbrev mb_X_value : ByteArray := prog_1_method_10_code
def my_X_value : MethodName := ⟨"RuleChoice", "value", "(III)J"⟩
abbrev mk_X_value : Cond := Cond.code my_X_value mb_X_value 4 (some .long)
theorem in_X_value : mk_X_value ∈ TB := tb_at 469 (by decide +kernel) (by decide +kernel)
def mw_X_value : List Cond := mk_X_value :: TB
abbrev mb_X_valueOf : ByteArray := prog_1_method_19_code
def my_X_valueOf : MethodName := ⟨"RuleChoice", "valueOf", "(I)J"⟩
abbrev mk_X_valueOf : Cond := Cond.code my_X_valueOf mb_X_valueOf 2 (some .long)
theorem in_X_valueOf : mk_X_valueOf ∈ TB := tb_at 473 (by decide +kernel) (by decide +kernel)
def mw_X_valueOf : List Cond := mk_X_valueOf :: TB
abbrev mb_L_listed : ByteArray := method_12_code
def my_L_listed : MethodName := ⟨"RuleChoiceLaw", "listed", "(LRuleChoice;IIII[J)I"⟩
abbrev mk_L_listed : Cond := Cond.codeWith my_L_listed mb_L_listed 7 (some .int) [(0, 14, 17, 13)]
theorem in_L_listed : mk_L_listed ∈ TB := tb_at 477 (by decide +kernel) (by decide +kernel)
def mw_L_listed : List Cond := mk_L_listed :: TB
abbrev mb_X_listed : ByteArray := prog_1_method_11_code
def my_X_listed : MethodName := ⟨"RuleChoice", "listed", "(IIII)I"⟩
abbrev mk_X_listed : Cond := Cond.code my_X_listed mb_X_listed 7 (some .int)
theorem in_X_listed : mk_X_listed ∈ TB := tb_at 481 (by decide +kernel) (by decide +kernel)
def mw_X_listed : List Cond := mk_X_listed :: TB
abbrev mb_L_why : ByteArray := method_13_code
def my_L_why : MethodName := ⟨"RuleChoiceLaw", "why", "(LRuleChoice;IIII[J)I"⟩
abbrev mk_L_why : Cond := Cond.codeWith my_L_why mb_L_why 7 (some .int) [(0, 14, 17, 13)]
theorem in_L_why : mk_L_why ∈ TB := tb_at 484 (by decide +kernel) (by decide +kernel)
def mw_L_why : List Cond := mk_L_why :: TB
abbrev mb_X_why : ByteArray := prog_1_method_12_code
def my_X_why : MethodName := ⟨"RuleChoice", "why", "(IIII)I"⟩
abbrev mk_X_why : Cond := Cond.code my_X_why mb_X_why 7 (some .int)
theorem in_X_why : mk_X_why ∈ TB := tb_at 488 (by decide +kernel) (by decide +kernel)
def mw_X_why : List Cond := mk_X_why :: TB
abbrev mb_L_greatest : ByteArray := method_14_code
def my_L_greatest : MethodName := ⟨"RuleChoiceLaw", "greatest", "(LRuleChoice;II[J)I"⟩
abbrev mk_L_greatest : Cond := Cond.codeWith my_L_greatest mb_L_greatest 5 (some .int) [(0, 9, 12, 13)]
theorem in_L_greatest : mk_L_greatest ∈ TB := tb_at 491 (by decide +kernel) (by decide +kernel)
def mw_L_greatest : List Cond := mk_L_greatest :: TB
abbrev mb_X_greatest : ByteArray := prog_1_method_13_code
def my_X_greatest : MethodName := ⟨"RuleChoice", "greatest", "(II)J"⟩
abbrev mk_X_greatest : Cond := Cond.code my_X_greatest mb_X_greatest 6 (some .long)
theorem in_X_greatest : mk_X_greatest ∈ TB := tb_at 495 (by decide +kernel) (by decide +kernel)
def mw_X_greatest : List Cond := mk_X_greatest :: TB
abbrev mb_L_close : ByteArray := method_15_code
def my_L_close : MethodName := ⟨"RuleChoiceLaw", "close", "(LRuleChoice;I[J)I"⟩
abbrev mk_L_close : Cond := Cond.codeWith my_L_close mb_L_close 4 (some .int) [(0, 9, 12, 13)]
theorem in_L_close : mk_L_close ∈ TB := tb_at 501 (by decide +kernel) (by decide +kernel)
def mw_L_close : List Cond := mk_L_close :: TB
abbrev mb_X_close : ByteArray := prog_1_method_14_code
def my_X_close : MethodName := ⟨"RuleChoice", "close", "(I)I"⟩
abbrev mk_X_close : Cond := Cond.code my_X_close mb_X_close 4 (some .int)
theorem in_X_close : mk_X_close ∈ TB := tb_at 505 (by decide +kernel) (by decide +kernel)
def mw_X_close : List Cond := mk_X_close :: TB
abbrev mb_P_clear : ByteArray := prog_4_method_2_code
def my_P_clear : MethodName := ⟨"RuleChoice$Pairs", "clear", "()V"⟩
abbrev mk_P_clear : Cond := Cond.code my_P_clear mb_P_clear 1 none
theorem in_P_clear : mk_P_clear ∈ TB := tb_at 509 (by decide +kernel) (by decide +kernel)
def mw_P_clear : List Cond := mk_P_clear :: TB
abbrev mb_X_areTooNear : ByteArray := prog_1_method_24_code
def my_X_areTooNear : MethodName := ⟨"RuleChoice", "areTooNear", "(ILRuleChoice$Thing;LRuleChoice$Thing;)Z"⟩
abbrev mk_X_areTooNear : Cond := Cond.code my_X_areTooNear mb_X_areTooNear 11 (some .boolean)
theorem in_X_areTooNear : mk_X_areTooNear ∈ TB := tb_at 513 (by decide +kernel) (by decide +kernel)
def mw_X_areTooNear : List Cond := mk_X_areTooNear :: TB
abbrev mb_P_add : ByteArray := prog_4_method_3_code
def my_P_add : MethodName := ⟨"RuleChoice$Pairs", "add", "(II)V"⟩
abbrev mk_P_add : Cond := Cond.code my_P_add mb_P_add 3 none
theorem in_P_add : mk_P_add ∈ TB := tb_at 517 (by decide +kernel) (by decide +kernel)
def mw_P_add : List Cond := mk_P_add :: TB
abbrev mb_L_pair : ByteArray := method_16_code
def my_L_pair : MethodName := ⟨"RuleChoiceLaw", "pair", "(LRuleChoice;II[J)I"⟩
abbrev mk_L_pair : Cond := Cond.codeWith my_L_pair mb_L_pair 5 (some .int) [(0, 10, 13, 13)]
theorem in_L_pair : mk_L_pair ∈ TB := tb_at 520 (by decide +kernel) (by decide +kernel)
def mw_L_pair : List Cond := mk_L_pair :: TB
abbrev mb_X_pair : ByteArray := prog_1_method_15_code
def my_X_pair : MethodName := ⟨"RuleChoice", "pair", "(II)I"⟩
abbrev mk_X_pair : Cond := Cond.code my_X_pair mb_X_pair 3 (some .int)
theorem in_X_pair : mk_X_pair ∈ TB := tb_at 524 (by decide +kernel) (by decide +kernel)
def mw_X_pair : List Cond := mk_X_pair :: TB
abbrev mb_X_needSide : ByteArray := prog_1_method_34_code
def my_X_needSide : MethodName := ⟨"RuleChoice", "needSide", "(I)V"⟩
abbrev mk_X_needSide : Cond := Cond.code my_X_needSide mb_X_needSide 2 none
theorem in_X_needSide : mk_X_needSide ∈ TB := tb_at 528 (by decide +kernel) (by decide +kernel)
def mw_X_needSide : List Cond := mk_X_needSide :: TB
abbrev mb_M_init : ByteArray := prog_8_method_1_code
def my_M_init : MethodName := ⟨"RuleChoiceModel", "<init>", "(I)V"⟩
abbrev mk_M_init : Cond := Cond.code my_M_init mb_M_init 2 none
theorem in_M_init : mk_M_init ∈ TB := tb_at 534 (by decide +kernel) (by decide +kernel)
def mw_M_init : List Cond := mk_M_init :: TB
abbrev mb_M_thrown : ByteArray := prog_8_method_2_code
def my_M_thrown : MethodName := ⟨"RuleChoiceModel", "thrown", "()I"⟩
abbrev mk_M_thrown : Cond := Cond.code my_M_thrown mb_M_thrown 1 (some .int)
theorem in_M_thrown : mk_M_thrown ∈ TB := tb_at 608 (by decide +kernel) (by decide +kernel)
def mw_M_thrown : List Cond := mk_M_thrown :: TB
abbrev mb_M_rule : ByteArray := prog_8_method_11_code
def my_M_rule : MethodName := ⟨"RuleChoiceModel", "rule", "(IIIIJ)I"⟩
abbrev mk_M_rule : Cond := Cond.code my_M_rule mb_M_rule 8 (some .int)
theorem in_M_rule : mk_M_rule ∈ TB := tb_at 612 (by decide +kernel) (by decide +kernel)
def mw_M_rule : List Cond := mk_M_rule :: TB
abbrev mb_M_isKind : ByteArray := prog_8_method_3_code
def my_M_isKind : MethodName := ⟨"RuleChoiceModel", "isKind", "(I)Z"⟩
abbrev mk_M_isKind : Cond := Cond.code my_M_isKind mb_M_isKind 1 (some .boolean)
theorem in_M_isKind : mk_M_isKind ∈ TB := tb_at 615 (by decide +kernel) (by decide +kernel)
def mw_M_isKind : List Cond := mk_M_isKind :: TB
abbrev mb_M_isClass : ByteArray := prog_8_method_4_code
def my_M_isClass : MethodName := ⟨"RuleChoiceModel", "isClass", "(I)Z"⟩
abbrev mk_M_isClass : Cond := Cond.code my_M_isClass mb_M_isClass 2 (some .boolean)
theorem in_M_isClass : mk_M_isClass ∈ TB := tb_at 619 (by decide +kernel) (by decide +kernel)
def mw_M_isClass : List Cond := mk_M_isClass :: TB
abbrev mb_M_isLayer : ByteArray := prog_8_method_5_code
def my_M_isLayer : MethodName := ⟨"RuleChoiceModel", "isLayer", "(I)Z"⟩
abbrev mk_M_isLayer : Cond := Cond.code my_M_isLayer mb_M_isLayer 1 (some .boolean)
theorem in_M_isLayer : mk_M_isLayer ∈ TB := tb_at 622 (by decide +kernel) (by decide +kernel)
def mw_M_isLayer : List Cond := mk_M_isLayer :: TB
abbrev mb_M_dropKind : ByteArray := prog_8_method_9_code
def my_M_dropKind : MethodName := ⟨"RuleChoiceModel", "dropKind", "(I)V"⟩
abbrev mk_M_dropKind : Cond := Cond.code my_M_dropKind mb_M_dropKind 3 none
theorem in_M_dropKind : mk_M_dropKind ∈ TB := tb_at 627 (by decide +kernel) (by decide +kernel)
def mw_M_dropKind : List Cond := mk_M_dropKind :: TB
abbrev mb_M_rank : ByteArray := prog_8_method_12_code
def my_M_rank : MethodName := ⟨"RuleChoiceModel", "rank", "(II)Z"⟩
abbrev mk_M_rank : Cond := Cond.code my_M_rank mb_M_rank 3 (some .boolean)
theorem in_M_rank : mk_M_rank ∈ TB := tb_at 631 (by decide +kernel) (by decide +kernel)
def mw_M_rank : List Cond := mk_M_rank :: TB
abbrev mb_M_isRule : ByteArray := prog_8_method_7_code
def my_M_isRule : MethodName := ⟨"RuleChoiceModel", "isRule", "(I)Z"⟩
abbrev mk_M_isRule : Cond := Cond.code my_M_isRule mb_M_isRule 2 (some .boolean)
theorem in_M_isRule : mk_M_isRule ∈ TB := tb_at 635 (by decide +kernel) (by decide +kernel)
def mw_M_isRule : List Cond := mk_M_isRule :: TB
abbrev mb_M_area : ByteArray := prog_8_method_13_code
def my_M_area : MethodName := ⟨"RuleChoiceModel", "area", "(JJJJ)I"⟩
abbrev mk_M_area : Cond := Cond.code my_M_area mb_M_area 9 (some .int)
theorem in_M_area : mk_M_area ∈ TB := tb_at 639 (by decide +kernel) (by decide +kernel)
def mw_M_area : List Cond := mk_M_area :: TB
abbrev mb_M_isPlace : ByteArray := prog_8_method_8_code
def my_M_isPlace : MethodName := ⟨"RuleChoiceModel", "isPlace", "(JJ)Z"⟩
abbrev mk_M_isPlace : Cond := Cond.code my_M_isPlace mb_M_isPlace 4 (some .boolean)
theorem in_M_isPlace : mk_M_isPlace ∈ TB := tb_at 642 (by decide +kernel) (by decide +kernel)
def mw_M_isPlace : List Cond := mk_M_isPlace :: TB
abbrev mb_M_inArea : ByteArray := prog_8_method_14_code
def my_M_inArea : MethodName := ⟨"RuleChoiceModel", "inArea", "(II)Z"⟩
abbrev mk_M_inArea : Cond := Cond.code my_M_inArea mb_M_inArea 3 (some .boolean)
theorem in_M_inArea : mk_M_inArea ∈ TB := tb_at 647 (by decide +kernel) (by decide +kernel)
def mw_M_inArea : List Cond := mk_M_inArea :: TB
abbrev mb_M_thing : ByteArray := prog_8_method_15_code
def my_M_thing : MethodName := ⟨"RuleChoiceModel", "thing", "(IIJJ)I"⟩
abbrev mk_M_thing : Cond := Cond.code my_M_thing mb_M_thing 7 (some .int)
theorem in_M_thing : mk_M_thing ∈ TB := tb_at 651 (by decide +kernel) (by decide +kernel)
def mw_M_thing : List Cond := mk_M_thing :: TB
abbrev mb_M_make : ByteArray := prog_8_method_16_code
def my_M_make : MethodName := ⟨"RuleChoiceModel", "make", "(III)Z"⟩
abbrev mk_M_make : Cond := Cond.code my_M_make mb_M_make 4 (some .boolean)
theorem in_M_make : mk_M_make ∈ TB := tb_at 655 (by decide +kernel) (by decide +kernel)
def mw_M_make : List Cond := mk_M_make :: TB
abbrev mb_M_isThing : ByteArray := prog_8_method_6_code
def my_M_isThing : MethodName := ⟨"RuleChoiceModel", "isThing", "(I)Z"⟩
abbrev mk_M_isThing : Cond := Cond.code my_M_isThing mb_M_isThing 2 (some .boolean)
theorem in_M_isThing : mk_M_isThing ∈ TB := tb_at 659 (by decide +kernel) (by decide +kernel)
def mw_M_isThing : List Cond := mk_M_isThing :: TB
abbrev mb_M_dropThing : ByteArray := prog_8_method_10_code
def my_M_dropThing : MethodName := ⟨"RuleChoiceModel", "dropThing", "(I)V"⟩
abbrev mk_M_dropThing : Cond := Cond.code my_M_dropThing mb_M_dropThing 3 none
theorem in_M_dropThing : mk_M_dropThing ∈ TB := tb_at 663 (by decide +kernel) (by decide +kernel)
def mw_M_dropThing : List Cond := mk_M_dropThing :: TB
abbrev mb_M_move : ByteArray := prog_8_method_19_code
def my_M_move : MethodName := ⟨"RuleChoiceModel", "move", "(IJJ)Z"⟩
abbrev mk_M_move : Cond := Cond.code my_M_move mb_M_move 7 (some .boolean)
theorem in_M_move : mk_M_move ∈ TB := tb_at 667 (by decide +kernel) (by decide +kernel)
def mw_M_move : List Cond := mk_M_move :: TB
abbrev mb_M_areasOf : ByteArray := prog_8_method_18_code
def my_M_areasOf : MethodName := ⟨"RuleChoiceModel", "areasOf", "(I)I"⟩
abbrev mk_M_areasOf : Cond := Cond.code my_M_areasOf mb_M_areasOf 4 (some .int)
theorem in_M_areasOf : mk_M_areasOf ∈ TB := tb_at 671 (by decide +kernel) (by decide +kernel)
def mw_M_areasOf : List Cond := mk_M_areasOf :: TB
abbrev mb_M_lies : ByteArray := prog_8_method_17_code
def my_M_lies : MethodName := ⟨"RuleChoiceModel", "lies", "(II)Z"⟩
abbrev mk_M_lies : Cond := Cond.code my_M_lies mb_M_lies 4 (some .boolean)
theorem in_M_lies : mk_M_lies ∈ TB := tb_at 675 (by decide +kernel) (by decide +kernel)
def mw_M_lies : List Cond := mk_M_lies :: TB
abbrev mb_M_winner : ByteArray := prog_8_method_29_code
def my_M_winner : MethodName := ⟨"RuleChoiceModel", "winner", "(III)I"⟩
abbrev mk_M_winner : Cond := Cond.code my_M_winner mb_M_winner 4 (some .int)
theorem in_M_winner : mk_M_winner ∈ TB := tb_at 679 (by decide +kernel) (by decide +kernel)
def mw_M_winner : List Cond := mk_M_winner :: TB
abbrev mb_M_isAsked : ByteArray := prog_8_method_28_code
def my_M_isAsked : MethodName := ⟨"RuleChoiceModel", "isAsked", "(III)Z"⟩
abbrev mk_M_isAsked : Cond := Cond.code my_M_isAsked mb_M_isAsked 4 (some .boolean)
theorem in_M_isAsked : mk_M_isAsked ∈ TB := tb_at 683 (by decide +kernel) (by decide +kernel)
def mw_M_isAsked : List Cond := mk_M_isAsked :: TB
abbrev mb_M_keep : ByteArray := prog_8_method_27_code
def my_M_keep : MethodName := ⟨"RuleChoiceModel", "keep", "(III)V"⟩
abbrev mk_M_keep : Cond := Cond.code my_M_keep mb_M_keep 5 none
theorem in_M_keep : mk_M_keep ∈ TB := tb_at 687 (by decide +kernel) (by decide +kernel)
def mw_M_keep : List Cond := mk_M_keep :: TB
abbrev mb_M_best : ByteArray := prog_8_method_26_code
def my_M_best : MethodName := ⟨"RuleChoiceModel", "best", "(III)I"⟩
abbrev mk_M_best : Cond := Cond.code my_M_best mb_M_best 6 (some .int)
theorem in_M_best : mk_M_best ∈ TB := tb_at 691 (by decide +kernel) (by decide +kernel)
def mw_M_best : List Cond := mk_M_best :: TB
abbrev mb_M_matches : ByteArray := prog_8_method_24_code
def my_M_matches : MethodName := ⟨"RuleChoiceModel", "matches", "(IIII)Z"⟩
abbrev mk_M_matches : Cond := Cond.code my_M_matches mb_M_matches 5 (some .boolean)
theorem in_M_matches : mk_M_matches ∈ TB := tb_at 695 (by decide +kernel) (by decide +kernel)
def mw_M_matches : List Cond := mk_M_matches :: TB
abbrev mb_M_haveClasses : ByteArray := prog_8_method_21_code
def my_M_haveClasses : MethodName := ⟨"RuleChoiceModel", "haveClasses", "(III)Z"⟩
abbrev mk_M_haveClasses : Cond := Cond.code my_M_haveClasses mb_M_haveClasses 6 (some .boolean)
theorem in_M_haveClasses : mk_M_haveClasses ∈ TB := tb_at 699 (by decide +kernel) (by decide +kernel)
def mw_M_haveClasses : List Cond := mk_M_haveClasses :: TB
abbrev mb_M_isOf : ByteArray := prog_8_method_20_code
def my_M_isOf : MethodName := ⟨"RuleChoiceModel", "isOf", "(II)Z"⟩
abbrev mk_M_isOf : Cond := Cond.code my_M_isOf mb_M_isOf 2 (some .boolean)
theorem in_M_isOf : mk_M_isOf ∈ TB := tb_at 702 (by decide +kernel) (by decide +kernel)
def mw_M_isOf : List Cond := mk_M_isOf :: TB
abbrev mb_M_haveLayer : ByteArray := prog_8_method_22_code
def my_M_haveLayer : MethodName := ⟨"RuleChoiceModel", "haveLayer", "(III)Z"⟩
abbrev mk_M_haveLayer : Cond := Cond.code my_M_haveLayer mb_M_haveLayer 4 (some .boolean)
theorem in_M_haveLayer : mk_M_haveLayer ∈ TB := tb_at 706 (by decide +kernel) (by decide +kernel)
def mw_M_haveLayer : List Cond := mk_M_haveLayer :: TB
abbrev mb_M_lieWithin : ByteArray := prog_8_method_23_code
def my_M_lieWithin : MethodName := ⟨"RuleChoiceModel", "lieWithin", "(III)Z"⟩
abbrev mk_M_lieWithin : Cond := Cond.code my_M_lieWithin mb_M_lieWithin 4 (some .boolean)
theorem in_M_lieWithin : mk_M_lieWithin ∈ TB := tb_at 710 (by decide +kernel) (by decide +kernel)
def mw_M_lieWithin : List Cond := mk_M_lieWithin :: TB
abbrev mb_M_isAhead : ByteArray := prog_8_method_25_code
def my_M_isAhead : MethodName := ⟨"RuleChoiceModel", "isAhead", "(II)Z"⟩
abbrev mk_M_isAhead : Cond := Cond.code my_M_isAhead mb_M_isAhead 3 (some .boolean)
theorem in_M_isAhead : mk_M_isAhead ∈ TB := tb_at 714 (by decide +kernel) (by decide +kernel)
def mw_M_isAhead : List Cond := mk_M_isAhead :: TB
abbrev mb_M_value : ByteArray := prog_8_method_30_code
def my_M_value : MethodName := ⟨"RuleChoiceModel", "value", "(III)J"⟩
abbrev mk_M_value : Cond := Cond.code my_M_value mb_M_value 5 (some .long)
theorem in_M_value : mk_M_value ∈ TB := tb_at 718 (by decide +kernel) (by decide +kernel)
def mw_M_value : List Cond := mk_M_value :: TB
abbrev mb_M_listed : ByteArray := prog_8_method_31_code
def my_M_listed : MethodName := ⟨"RuleChoiceModel", "listed", "(IIII)I"⟩
abbrev mk_M_listed : Cond := Cond.code my_M_listed mb_M_listed 8 (some .int)
theorem in_M_listed : mk_M_listed ∈ TB := tb_at 723 (by decide +kernel) (by decide +kernel)
def mw_M_listed : List Cond := mk_M_listed :: TB
abbrev mb_M_why : ByteArray := prog_8_method_32_code
def my_M_why : MethodName := ⟨"RuleChoiceModel", "why", "(IIII)I"⟩
abbrev mk_M_why : Cond := Cond.code my_M_why mb_M_why 6 (some .int)
theorem in_M_why : mk_M_why ∈ TB := tb_at 727 (by decide +kernel) (by decide +kernel)
def mw_M_why : List Cond := mk_M_why :: TB
abbrev mb_M_greatest : ByteArray := prog_8_method_33_code
def my_M_greatest : MethodName := ⟨"RuleChoiceModel", "greatest", "(II)J"⟩
abbrev mk_M_greatest : Cond := Cond.code my_M_greatest mb_M_greatest 6 (some .long)
theorem in_M_greatest : mk_M_greatest ∈ TB := tb_at 731 (by decide +kernel) (by decide +kernel)
def mw_M_greatest : List Cond := mk_M_greatest :: TB
abbrev mb_M_close : ByteArray := prog_8_method_35_code
def my_M_close : MethodName := ⟨"RuleChoiceModel", "close", "(I)I"⟩
abbrev mk_M_close : Cond := Cond.code my_M_close mb_M_close 4 (some .int)
theorem in_M_close : mk_M_close ∈ TB := tb_at 735 (by decide +kernel) (by decide +kernel)
def mw_M_close : List Cond := mk_M_close :: TB
abbrev mb_M_isClose : ByteArray := prog_8_method_34_code
def my_M_isClose : MethodName := ⟨"RuleChoiceModel", "isClose", "(III)Z"⟩
abbrev mk_M_isClose : Cond := Cond.code my_M_isClose mb_M_isClose 9 (some .boolean)
theorem in_M_isClose : mk_M_isClose ∈ TB := tb_at 739 (by decide +kernel) (by decide +kernel)
def mw_M_isClose : List Cond := mk_M_isClose :: TB
abbrev mb_M_pair : ByteArray := prog_8_method_36_code
def my_M_pair : MethodName := ⟨"RuleChoiceModel", "pair", "(II)I"⟩
abbrev mk_M_pair : Cond := Cond.code my_M_pair mb_M_pair 3 (some .int)
theorem in_M_pair : mk_M_pair ∈ TB := tb_at 743 (by decide +kernel) (by decide +kernel)
def mw_M_pair : List Cond := mk_M_pair :: TB
abbrev mb_M_kept : ByteArray := prog_8_method_37_code
def my_M_kept : MethodName := ⟨"RuleChoiceModel", "kept", "()I"⟩
abbrev mk_M_kept : Cond := Cond.code my_M_kept mb_M_kept 3 (some .int)
theorem in_M_kept : mk_M_kept ∈ TB := tb_at 747 (by decide +kernel) (by decide +kernel)
def mw_M_kept : List Cond := mk_M_kept :: TB
abbrev mb_M_spared : ByteArray := prog_8_method_38_code
def my_M_spared : MethodName := ⟨"RuleChoiceModel", "spared", "()J"⟩
abbrev mk_M_spared : Cond := Cond.code my_M_spared mb_M_spared 1 (some .long)
theorem in_M_spared : mk_M_spared ∈ TB := tb_at 751 (by decide +kernel) (by decide +kernel)
def mw_M_spared : List Cond := mk_M_spared :: TB
end
section
theorem iz_L : Cond.initialized "RuleChoiceLaw" ∈ TB := tb_at 0 (by decide +kernel) (by decide +kernel)
theorem iz_X : Cond.initialized "RuleChoice" ∈ TB := tb_at 1 (by decide +kernel) (by decide +kernel)
theorem iz_Math : Cond.initialized "java/lang/Math" ∈ TB := tb_at 2 (by decide +kernel) (by decide +kernel)
theorem iz_R : Cond.initialized "RuleChoice$Rule" ∈ TB := tb_at 3 (by decide +kernel) (by decide +kernel)
theorem iz_A : Cond.initialized "RuleChoice$Area" ∈ TB := tb_at 4 (by decide +kernel) (by decide +kernel)
theorem iz_T : Cond.initialized "RuleChoice$Thing" ∈ TB := tb_at 5 (by decide +kernel) (by decide +kernel)
theorem iz_N : Cond.initialized "RuleChoice$Answers" ∈ TB := tb_at 6 (by decide +kernel) (by decide +kernel)
theorem iz_P : Cond.initialized "RuleChoice$Pairs" ∈ TB := tb_at 7 (by decide +kernel) (by decide +kernel)
theorem iz_M : Cond.initialized "RuleChoiceModel" ∈ TB := tb_at 8 (by decide +kernel) (by decide +kernel)
theorem iz_Throwable : Cond.initialized "java/lang/Throwable" ∈ TB := tb_at 9 (by decide +kernel) (by decide +kernel)
theorem iz_Exception : Cond.initialized "java/lang/Exception" ∈ TB := tb_at 10 (by decide +kernel) (by decide +kernel)
theorem iz_RuntimeException : Cond.initialized "java/lang/RuntimeException" ∈ TB := tb_at 11 (by decide +kernel) (by decide +kernel)
theorem iz_IndexOutOfBoundsException : Cond.initialized "java/lang/IndexOutOfBoundsException" ∈ TB := tb_at 12 (by decide +kernel) (by decide +kernel)
theorem iz_IllegalArgumentException : Cond.initialized "java/lang/IllegalArgumentException" ∈ TB := tb_at 13 (by decide +kernel) (by decide +kernel)
theorem cl_L_8 : Cond.classLink "RuleChoiceLaw" 8 "RuleChoice" ∈ TB := tb_at 14 (by decide +kernel) (by decide +kernel)
theorem iv_X : Cond.instantiable "RuleChoice" 10 ∈ TB := tb_at 15 (by decide +kernel) (by decide +kernel)
theorem ml_L_73 : Cond.methodLink "RuleChoiceLaw" 73 my_X_init ∈ TB := tb_at 16 (by decide +kernel) (by decide +kernel)
theorem im_X_init : Cond.instanceMethod my_X_init ∈ TB := tb_at 17 (by decide +kernel) (by decide +kernel)
theorem ml_X_1 : Cond.methodLink "RuleChoice" 1 (⟨"java/lang/Object", "<init>", "()V"⟩ : MethodName) ∈ TB := tb_at 19 (by decide +kernel) (by decide +kernel)
theorem ml_X_9 : Cond.methodLink "RuleChoice" 9 (⟨"java/lang/Math", "min", "(II)I"⟩ : MethodName) ∈ TB := tb_at 22 (by decide +kernel) (by decide +kernel)
theorem ml_X_15 : Cond.methodLink "RuleChoice" 15 (⟨"java/lang/Math", "max", "(II)I"⟩ : MethodName) ∈ TB := tb_at 25 (by decide +kernel) (by decide +kernel)
theorem cl_X_22 : Cond.classLink "RuleChoice" 22 "RuleChoice$Rule" ∈ TB := tb_at 28 (by decide +kernel) (by decide +kernel)
theorem iv_R : Cond.instantiable "RuleChoice$Rule" 7 ∈ TB := tb_at 30 (by decide +kernel) (by decide +kernel)
theorem im_R_init : Cond.instanceMethod my_R_init ∈ TB := tb_at 32 (by decide +kernel) (by decide +kernel)
theorem ml_R_3 : Cond.methodLink "RuleChoice$Rule" 3 (⟨"java/lang/Object", "<init>", "()V"⟩ : MethodName) ∈ TB := tb_at 34 (by decide +kernel) (by decide +kernel)
theorem fl_R_15 : Cond.fieldLink "RuleChoice$Rule" 15 "RuleChoice$Rule" "kind" "I" ∈ TB := tb_at 35 (by decide +kernel) (by decide +kernel)
theorem fl_X_90 : Cond.fieldLink "RuleChoice" 90 "RuleChoice$Rule" "kind" "I" ∈ TB := tb_at 36 (by decide +kernel) (by decide +kernel)
theorem fl_R_18 : Cond.fieldLink "RuleChoice$Rule" 18 "RuleChoice$Rule" "classA" "I" ∈ TB := tb_at 37 (by decide +kernel) (by decide +kernel)
theorem fl_R_21 : Cond.fieldLink "RuleChoice$Rule" 21 "RuleChoice$Rule" "classB" "I" ∈ TB := tb_at 38 (by decide +kernel) (by decide +kernel)
theorem fl_R_24 : Cond.fieldLink "RuleChoice$Rule" 24 "RuleChoice$Rule" "layer" "I" ∈ TB := tb_at 39 (by decide +kernel) (by decide +kernel)
theorem fl_R_27 : Cond.fieldLink "RuleChoice$Rule" 27 "RuleChoice$Rule" "value" "J" ∈ TB := tb_at 40 (by decide +kernel) (by decide +kernel)
theorem fl_X_178 : Cond.fieldLink "RuleChoice" 178 "RuleChoice$Rule" "value" "J" ∈ TB := tb_at 41 (by decide +kernel) (by decide +kernel)
theorem fl_X_87 : Cond.fieldLink "RuleChoice" 87 "RuleChoice$Rule" "rank" "I" ∈ TB := tb_at 42 (by decide +kernel) (by decide +kernel)
theorem fl_R_9 : Cond.fieldLink "RuleChoice$Rule" 9 "RuleChoice$Rule" "area" "I" ∈ TB := tb_at 43 (by decide +kernel) (by decide +kernel)
theorem fl_X_110 : Cond.fieldLink "RuleChoice" 110 "RuleChoice$Rule" "area" "I" ∈ TB := tb_at 44 (by decide +kernel) (by decide +kernel)
theorem cl_X_29 : Cond.classLink "RuleChoice" 29 "RuleChoice$Area" ∈ TB := tb_at 60 (by decide +kernel) (by decide +kernel)
theorem iv_A : Cond.instantiable "RuleChoice$Area" 4 ∈ TB := tb_at 62 (by decide +kernel) (by decide +kernel)
theorem im_A_init : Cond.instanceMethod my_A_init ∈ TB := tb_at 64 (by decide +kernel) (by decide +kernel)
theorem ml_A_1 : Cond.methodLink "RuleChoice$Area" 1 (⟨"java/lang/Object", "<init>", "()V"⟩ : MethodName) ∈ TB := tb_at 66 (by decide +kernel) (by decide +kernel)
theorem fl_A_7 : Cond.fieldLink "RuleChoice$Area" 7 "RuleChoice$Area" "x0" "J" ∈ TB := tb_at 67 (by decide +kernel) (by decide +kernel)
theorem fl_A_13 : Cond.fieldLink "RuleChoice$Area" 13 "RuleChoice$Area" "y0" "J" ∈ TB := tb_at 68 (by decide +kernel) (by decide +kernel)
theorem fl_A_16 : Cond.fieldLink "RuleChoice$Area" 16 "RuleChoice$Area" "x1" "J" ∈ TB := tb_at 69 (by decide +kernel) (by decide +kernel)
theorem fl_A_19 : Cond.fieldLink "RuleChoice$Area" 19 "RuleChoice$Area" "y1" "J" ∈ TB := tb_at 70 (by decide +kernel) (by decide +kernel)
theorem cl_X_36 : Cond.classLink "RuleChoice" 36 "RuleChoice$Thing" ∈ TB := tb_at 80 (by decide +kernel) (by decide +kernel)
theorem iv_T : Cond.instantiable "RuleChoice$Thing" 4 ∈ TB := tb_at 82 (by decide +kernel) (by decide +kernel)
theorem im_T_init : Cond.instanceMethod my_T_init ∈ TB := tb_at 84 (by decide +kernel) (by decide +kernel)
theorem ml_T_1 : Cond.methodLink "RuleChoice$Thing" 1 (⟨"java/lang/Object", "<init>", "()V"⟩ : MethodName) ∈ TB := tb_at 86 (by decide +kernel) (by decide +kernel)
theorem fl_T_7 : Cond.fieldLink "RuleChoice$Thing" 7 "RuleChoice$Thing" "cls" "I" ∈ TB := tb_at 87 (by decide +kernel) (by decide +kernel)
theorem fl_X_132 : Cond.fieldLink "RuleChoice" 132 "RuleChoice$Thing" "cls" "I" ∈ TB := tb_at 88 (by decide +kernel) (by decide +kernel)
theorem fl_T_13 : Cond.fieldLink "RuleChoice$Thing" 13 "RuleChoice$Thing" "layer" "I" ∈ TB := tb_at 89 (by decide +kernel) (by decide +kernel)
theorem fl_X_135 : Cond.fieldLink "RuleChoice" 135 "RuleChoice$Thing" "layer" "I" ∈ TB := tb_at 90 (by decide +kernel) (by decide +kernel)
theorem fl_T_16 : Cond.fieldLink "RuleChoice$Thing" 16 "RuleChoice$Thing" "x" "J" ∈ TB := tb_at 91 (by decide +kernel) (by decide +kernel)
theorem fl_X_141 : Cond.fieldLink "RuleChoice" 141 "RuleChoice$Thing" "x" "J" ∈ TB := tb_at 92 (by decide +kernel) (by decide +kernel)
theorem fl_T_20 : Cond.fieldLink "RuleChoice$Thing" 20 "RuleChoice$Thing" "y" "J" ∈ TB := tb_at 93 (by decide +kernel) (by decide +kernel)
theorem fl_X_145 : Cond.fieldLink "RuleChoice" 145 "RuleChoice$Thing" "y" "J" ∈ TB := tb_at 94 (by decide +kernel) (by decide +kernel)
theorem cl_X_43 : Cond.classLink "RuleChoice" 43 "RuleChoice$Answers" ∈ TB := tb_at 104 (by decide +kernel) (by decide +kernel)
theorem iv_N : Cond.instantiable "RuleChoice$Answers" 2 ∈ TB := tb_at 105 (by decide +kernel) (by decide +kernel)
theorem im_N_init : Cond.instanceMethod my_N_init ∈ TB := tb_at 107 (by decide +kernel) (by decide +kernel)
theorem ml_N_3 : Cond.methodLink "RuleChoice$Answers" 3 (⟨"java/lang/Object", "<init>", "()V"⟩ : MethodName) ∈ TB := tb_at 109 (by decide +kernel) (by decide +kernel)
theorem fl_N_11 : Cond.fieldLink "RuleChoice$Answers" 11 "RuleChoice$Answers" "slots" "[I" ∈ TB := tb_at 110 (by decide +kernel) (by decide +kernel)
theorem fl_N_19 : Cond.fieldLink "RuleChoice$Answers" 19 "RuleChoice$Answers" "count" "I" ∈ TB := tb_at 111 (by decide +kernel) (by decide +kernel)
theorem fl_X_207 : Cond.fieldLink "RuleChoice" 207 "RuleChoice$Answers" "count" "I" ∈ TB := tb_at 112 (by decide +kernel) (by decide +kernel)
theorem ac_int : Cond.arrayClass .int ∈ TB := tb_at 118 (by decide +kernel) (by decide +kernel)
theorem cl_X_50 : Cond.classLink "RuleChoice" 50 "RuleChoice$Pairs" ∈ TB := tb_at 119 (by decide +kernel) (by decide +kernel)
theorem iv_P : Cond.instantiable "RuleChoice$Pairs" 3 ∈ TB := tb_at 120 (by decide +kernel) (by decide +kernel)
theorem im_P_init : Cond.instanceMethod my_P_init ∈ TB := tb_at 122 (by decide +kernel) (by decide +kernel)
theorem ml_P_3 : Cond.methodLink "RuleChoice$Pairs" 3 (⟨"java/lang/Object", "<init>", "()V"⟩ : MethodName) ∈ TB := tb_at 124 (by decide +kernel) (by decide +kernel)
theorem fl_P_11 : Cond.fieldLink "RuleChoice$Pairs" 11 "RuleChoice$Pairs" "lower" "[I" ∈ TB := tb_at 125 (by decide +kernel) (by decide +kernel)
theorem fl_X_200 : Cond.fieldLink "RuleChoice" 200 "RuleChoice$Pairs" "lower" "[I" ∈ TB := tb_at 126 (by decide +kernel) (by decide +kernel)
theorem fl_P_15 : Cond.fieldLink "RuleChoice$Pairs" 15 "RuleChoice$Pairs" "other" "[I" ∈ TB := tb_at 127 (by decide +kernel) (by decide +kernel)
theorem fl_X_204 : Cond.fieldLink "RuleChoice" 204 "RuleChoice$Pairs" "other" "[I" ∈ TB := tb_at 128 (by decide +kernel) (by decide +kernel)
theorem fl_P_18 : Cond.fieldLink "RuleChoice$Pairs" 18 "RuleChoice$Pairs" "count" "I" ∈ TB := tb_at 129 (by decide +kernel) (by decide +kernel)
theorem fl_X_194 : Cond.fieldLink "RuleChoice" 194 "RuleChoice$Pairs" "count" "I" ∈ TB := tb_at 130 (by decide +kernel) (by decide +kernel)
theorem fl_X_18 : Cond.fieldLink "RuleChoice" 18 "RuleChoice" "classes" "I" ∈ TB := tb_at 138 (by decide +kernel) (by decide +kernel)
theorem fl_X_24 : Cond.fieldLink "RuleChoice" 24 "RuleChoice" "rules" "[LRuleChoice$Rule;" ∈ TB := tb_at 139 (by decide +kernel) (by decide +kernel)
theorem fl_X_31 : Cond.fieldLink "RuleChoice" 31 "RuleChoice" "areas" "[LRuleChoice$Area;" ∈ TB := tb_at 140 (by decide +kernel) (by decide +kernel)
theorem fl_X_38 : Cond.fieldLink "RuleChoice" 38 "RuleChoice" "things" "[LRuleChoice$Thing;" ∈ TB := tb_at 141 (by decide +kernel) (by decide +kernel)
theorem fl_X_46 : Cond.fieldLink "RuleChoice" 46 "RuleChoice" "answers" "LRuleChoice$Answers;" ∈ TB := tb_at 142 (by decide +kernel) (by decide +kernel)
theorem fl_X_53 : Cond.fieldLink "RuleChoice" 53 "RuleChoice" "nearPairs" "LRuleChoice$Pairs;" ∈ TB := tb_at 143 (by decide +kernel) (by decide +kernel)
theorem fl_X_71 : Cond.fieldLink "RuleChoice" 71 "RuleChoice" "ruleCount" "I" ∈ TB := tb_at 144 (by decide +kernel) (by decide +kernel)
theorem fl_X_101 : Cond.fieldLink "RuleChoice" 101 "RuleChoice" "areaCount" "I" ∈ TB := tb_at 145 (by decide +kernel) (by decide +kernel)
theorem fl_X_119 : Cond.fieldLink "RuleChoice" 119 "RuleChoice" "thingCount" "I" ∈ TB := tb_at 146 (by decide +kernel) (by decide +kernel)
theorem fl_X_208 : Cond.fieldLink "RuleChoice" 208 "RuleChoice" "sparedCount" "J" ∈ TB := tb_at 147 (by decide +kernel) (by decide +kernel)
theorem ml_L_135 : Cond.methodLink "RuleChoiceLaw" 135 my_X_kept ∈ TB := tb_at 169 (by decide +kernel) (by decide +kernel)
theorem im_X_kept : Cond.instanceMethod my_X_kept ∈ TB := tb_at 170 (by decide +kernel) (by decide +kernel)
theorem se_X_kept : Cond.selects "RuleChoice" my_X_kept my_X_kept ∈ TB := tb_at 171 (by decide +kernel) (by decide +kernel)
theorem ml_L_139 : Cond.methodLink "RuleChoiceLaw" 139 my_X_spared ∈ TB := tb_at 173 (by decide +kernel) (by decide +kernel)
theorem im_X_spared : Cond.instanceMethod my_X_spared ∈ TB := tb_at 174 (by decide +kernel) (by decide +kernel)
theorem se_X_spared : Cond.selects "RuleChoice" my_X_spared my_X_spared ∈ TB := tb_at 175 (by decide +kernel) (by decide +kernel)
theorem ml_L_67 : Cond.methodLink "RuleChoiceLaw" 67 my_L_cell ∈ TB := tb_at 177 (by decide +kernel) (by decide +kernel)
theorem st_L_cell : Cond.static my_L_cell ∈ TB := tb_at 178 (by decide +kernel) (by decide +kernel)
theorem ml_L_81 : Cond.methodLink "RuleChoiceLaw" 81 my_L_rule ∈ TB := tb_at 180 (by decide +kernel) (by decide +kernel)
theorem st_L_rule : Cond.static my_L_rule ∈ TB := tb_at 181 (by decide +kernel) (by decide +kernel)
theorem cl_L_13 : Cond.classLink "RuleChoiceLaw" 13 "java/lang/IndexOutOfBoundsException" ∈ TB := tb_at 183 (by decide +kernel) (by decide +kernel)
theorem cl_L_15 : Cond.classLink "RuleChoiceLaw" 15 "java/lang/IllegalArgumentException" ∈ TB := tb_at 184 (by decide +kernel) (by decide +kernel)
theorem ml_L_7 : Cond.methodLink "RuleChoiceLaw" 7 my_X_rule ∈ TB := tb_at 185 (by decide +kernel) (by decide +kernel)
theorem im_X_rule : Cond.instanceMethod my_X_rule ∈ TB := tb_at 186 (by decide +kernel) (by decide +kernel)
theorem se_X_rule : Cond.selects "RuleChoice" my_X_rule my_X_rule ∈ TB := tb_at 187 (by decide +kernel) (by decide +kernel)
theorem ml_X_57 : Cond.methodLink "RuleChoice" 57 my_X_needKind ∈ TB := tb_at 189 (by decide +kernel) (by decide +kernel)
theorem im_X_needKind : Cond.instanceMethod my_X_needKind ∈ TB := tb_at 191 (by decide +kernel) (by decide +kernel)
theorem cl_X_233 : Cond.classLink "RuleChoice" 233 "java/lang/IndexOutOfBoundsException" ∈ TB := tb_at 193 (by decide +kernel) (by decide +kernel)
theorem ml_X_237 : Cond.methodLink "RuleChoice" 237 (⟨"java/lang/IndexOutOfBoundsException", "<init>", "(Ljava/lang/String;)V"⟩ : MethodName) ∈ TB := tb_at 234 (by decide +kernel) (by decide +kernel)
theorem ac_byte : Cond.arrayClass .byte ∈ TB := tb_at 259 (by decide +kernel) (by decide +kernel)
theorem ml_X_61 : Cond.methodLink "RuleChoice" 61 my_X_needClassOrNone ∈ TB := tb_at 260 (by decide +kernel) (by decide +kernel)
theorem im_X_needClassOrNone : Cond.instanceMethod my_X_needClassOrNone ∈ TB := tb_at 262 (by decide +kernel) (by decide +kernel)
theorem ml_X_113 : Cond.methodLink "RuleChoice" 113 my_X_needClass ∈ TB := tb_at 264 (by decide +kernel) (by decide +kernel)
theorem im_X_needClass : Cond.instanceMethod my_X_needClass ∈ TB := tb_at 266 (by decide +kernel) (by decide +kernel)
theorem ml_X_64 : Cond.methodLink "RuleChoice" 64 my_X_needLayerOrNone ∈ TB := tb_at 269 (by decide +kernel) (by decide +kernel)
theorem im_X_needLayerOrNone : Cond.instanceMethod my_X_needLayerOrNone ∈ TB := tb_at 271 (by decide +kernel) (by decide +kernel)
theorem ml_X_116 : Cond.methodLink "RuleChoice" 116 my_X_needLayer ∈ TB := tb_at 273 (by decide +kernel) (by decide +kernel)
theorem im_X_needLayer : Cond.instanceMethod my_X_needLayer ∈ TB := tb_at 275 (by decide +kernel) (by decide +kernel)
theorem ml_X_67 : Cond.methodLink "RuleChoice" 67 my_X_needValue ∈ TB := tb_at 278 (by decide +kernel) (by decide +kernel)
theorem im_X_needValue : Cond.instanceMethod my_X_needValue ∈ TB := tb_at 280 (by decide +kernel) (by decide +kernel)
theorem kl_X_252 : Cond.constantLong "RuleChoice" 252 (1000000) ∈ TB := tb_at 282 (by decide +kernel) (by decide +kernel)
theorem cl_X_254 : Cond.classLink "RuleChoice" 254 "java/lang/IllegalArgumentException" ∈ TB := tb_at 283 (by decide +kernel) (by decide +kernel)
theorem ml_X_258 : Cond.methodLink "RuleChoice" 258 (⟨"java/lang/IllegalArgumentException", "<init>", "(Ljava/lang/String;)V"⟩ : MethodName) ∈ TB := tb_at 293 (by decide +kernel) (by decide +kernel)
theorem ml_X_74 : Cond.methodLink "RuleChoice" 74 my_R_tell ∈ TB := tb_at 299 (by decide +kernel) (by decide +kernel)
theorem im_R_tell : Cond.instanceMethod my_R_tell ∈ TB := tb_at 300 (by decide +kernel) (by decide +kernel)
theorem se_R_tell : Cond.selects "RuleChoice$Rule" my_R_tell my_R_tell ∈ TB := tb_at 301 (by decide +kernel) (by decide +kernel)
theorem ml_X_78 : Cond.methodLink "RuleChoice" 78 my_N_dropKind ∈ TB := tb_at 303 (by decide +kernel) (by decide +kernel)
theorem im_N_dropKind : Cond.instanceMethod my_N_dropKind ∈ TB := tb_at 304 (by decide +kernel) (by decide +kernel)
theorem se_N_dropKind : Cond.selects "RuleChoice$Answers" my_N_dropKind my_N_dropKind ∈ TB := tb_at 305 (by decide +kernel) (by decide +kernel)
theorem ml_N_23 : Cond.methodLink "RuleChoice$Answers" 23 my_N_drop ∈ TB := tb_at 307 (by decide +kernel) (by decide +kernel)
theorem im_N_drop : Cond.instanceMethod my_N_drop ∈ TB := tb_at 309 (by decide +kernel) (by decide +kernel)
theorem ml_L_89 : Cond.methodLink "RuleChoiceLaw" 89 my_L_rank ∈ TB := tb_at 311 (by decide +kernel) (by decide +kernel)
theorem st_L_rank : Cond.static my_L_rank ∈ TB := tb_at 312 (by decide +kernel) (by decide +kernel)
theorem ml_L_17 : Cond.methodLink "RuleChoiceLaw" 17 my_X_rank ∈ TB := tb_at 314 (by decide +kernel) (by decide +kernel)
theorem im_X_rank : Cond.instanceMethod my_X_rank ∈ TB := tb_at 315 (by decide +kernel) (by decide +kernel)
theorem se_X_rank : Cond.selects "RuleChoice" my_X_rank my_X_rank ∈ TB := tb_at 316 (by decide +kernel) (by decide +kernel)
theorem ml_X_81 : Cond.methodLink "RuleChoice" 81 my_X_needRule ∈ TB := tb_at 318 (by decide +kernel) (by decide +kernel)
theorem im_X_needRule : Cond.instanceMethod my_X_needRule ∈ TB := tb_at 320 (by decide +kernel) (by decide +kernel)
theorem ml_X_84 : Cond.methodLink "RuleChoice" 84 my_X_needRank ∈ TB := tb_at 323 (by decide +kernel) (by decide +kernel)
theorem im_X_needRank : Cond.instanceMethod my_X_needRank ∈ TB := tb_at 325 (by decide +kernel) (by decide +kernel)
theorem ml_L_93 : Cond.methodLink "RuleChoiceLaw" 93 my_L_area ∈ TB := tb_at 328 (by decide +kernel) (by decide +kernel)
theorem st_L_area : Cond.static my_L_area ∈ TB := tb_at 329 (by decide +kernel) (by decide +kernel)
theorem ml_L_21 : Cond.methodLink "RuleChoiceLaw" 21 my_X_area ∈ TB := tb_at 331 (by decide +kernel) (by decide +kernel)
theorem im_X_area : Cond.instanceMethod my_X_area ∈ TB := tb_at 332 (by decide +kernel) (by decide +kernel)
theorem se_X_area : Cond.selects "RuleChoice" my_X_area my_X_area ∈ TB := tb_at 333 (by decide +kernel) (by decide +kernel)
theorem ml_X_93 : Cond.methodLink "RuleChoice" 93 my_X_needPlace ∈ TB := tb_at 335 (by decide +kernel) (by decide +kernel)
theorem im_X_needPlace : Cond.instanceMethod my_X_needPlace ∈ TB := tb_at 337 (by decide +kernel) (by decide +kernel)
theorem kl_X_261 : Cond.constantLong "RuleChoice" 261 (-1000000) ∈ TB := tb_at 339 (by decide +kernel) (by decide +kernel)
theorem ml_X_97 : Cond.methodLink "RuleChoice" 97 my_X_needUnturned ∈ TB := tb_at 341 (by decide +kernel) (by decide +kernel)
theorem im_X_needUnturned : Cond.instanceMethod my_X_needUnturned ∈ TB := tb_at 343 (by decide +kernel) (by decide +kernel)
theorem ml_X_104 : Cond.methodLink "RuleChoice" 104 my_A_span ∈ TB := tb_at 346 (by decide +kernel) (by decide +kernel)
theorem im_A_span : Cond.instanceMethod my_A_span ∈ TB := tb_at 347 (by decide +kernel) (by decide +kernel)
theorem se_A_span : Cond.selects "RuleChoice$Area" my_A_span my_A_span ∈ TB := tb_at 348 (by decide +kernel) (by decide +kernel)
theorem ml_L_97 : Cond.methodLink "RuleChoiceLaw" 97 my_L_inArea ∈ TB := tb_at 350 (by decide +kernel) (by decide +kernel)
theorem st_L_inArea : Cond.static my_L_inArea ∈ TB := tb_at 351 (by decide +kernel) (by decide +kernel)
theorem ml_L_25 : Cond.methodLink "RuleChoiceLaw" 25 my_X_inArea ∈ TB := tb_at 353 (by decide +kernel) (by decide +kernel)
theorem im_X_inArea : Cond.instanceMethod my_X_inArea ∈ TB := tb_at 354 (by decide +kernel) (by decide +kernel)
theorem se_X_inArea : Cond.selects "RuleChoice" my_X_inArea my_X_inArea ∈ TB := tb_at 355 (by decide +kernel) (by decide +kernel)
theorem ml_X_107 : Cond.methodLink "RuleChoice" 107 my_X_needAreaOrNone ∈ TB := tb_at 357 (by decide +kernel) (by decide +kernel)
theorem im_X_needAreaOrNone : Cond.instanceMethod my_X_needAreaOrNone ∈ TB := tb_at 359 (by decide +kernel) (by decide +kernel)
theorem ml_L_100 : Cond.methodLink "RuleChoiceLaw" 100 my_L_thing ∈ TB := tb_at 362 (by decide +kernel) (by decide +kernel)
theorem st_L_thing : Cond.static my_L_thing ∈ TB := tb_at 363 (by decide +kernel) (by decide +kernel)
theorem ml_L_28 : Cond.methodLink "RuleChoiceLaw" 28 my_X_thing ∈ TB := tb_at 365 (by decide +kernel) (by decide +kernel)
theorem im_X_thing : Cond.instanceMethod my_X_thing ∈ TB := tb_at 366 (by decide +kernel) (by decide +kernel)
theorem se_X_thing : Cond.selects "RuleChoice" my_X_thing my_X_thing ∈ TB := tb_at 367 (by decide +kernel) (by decide +kernel)
theorem ml_X_122 : Cond.methodLink "RuleChoice" 122 my_T_become ∈ TB := tb_at 369 (by decide +kernel) (by decide +kernel)
theorem im_T_become : Cond.instanceMethod my_T_become ∈ TB := tb_at 370 (by decide +kernel) (by decide +kernel)
theorem se_T_become : Cond.selects "RuleChoice$Thing" my_T_become my_T_become ∈ TB := tb_at 371 (by decide +kernel) (by decide +kernel)
theorem ml_X_126 : Cond.methodLink "RuleChoice" 126 my_T_put ∈ TB := tb_at 373 (by decide +kernel) (by decide +kernel)
theorem im_T_put : Cond.instanceMethod my_T_put ∈ TB := tb_at 374 (by decide +kernel) (by decide +kernel)
theorem se_T_put : Cond.selects "RuleChoice$Thing" my_T_put my_T_put ∈ TB := tb_at 375 (by decide +kernel) (by decide +kernel)
theorem ml_L_104 : Cond.methodLink "RuleChoiceLaw" 104 my_L_make ∈ TB := tb_at 377 (by decide +kernel) (by decide +kernel)
theorem st_L_make : Cond.static my_L_make ∈ TB := tb_at 378 (by decide +kernel) (by decide +kernel)
theorem ml_L_32 : Cond.methodLink "RuleChoiceLaw" 32 my_X_make ∈ TB := tb_at 380 (by decide +kernel) (by decide +kernel)
theorem im_X_make : Cond.instanceMethod my_X_make ∈ TB := tb_at 381 (by decide +kernel) (by decide +kernel)
theorem se_X_make : Cond.selects "RuleChoice" my_X_make my_X_make ∈ TB := tb_at 382 (by decide +kernel) (by decide +kernel)
theorem ml_X_129 : Cond.methodLink "RuleChoice" 129 my_X_needThing ∈ TB := tb_at 384 (by decide +kernel) (by decide +kernel)
theorem im_X_needThing : Cond.instanceMethod my_X_needThing ∈ TB := tb_at 386 (by decide +kernel) (by decide +kernel)
theorem ml_X_138 : Cond.methodLink "RuleChoice" 138 my_N_dropThing ∈ TB := tb_at 389 (by decide +kernel) (by decide +kernel)
theorem im_N_dropThing : Cond.instanceMethod my_N_dropThing ∈ TB := tb_at 390 (by decide +kernel) (by decide +kernel)
theorem se_N_dropThing : Cond.selects "RuleChoice$Answers" my_N_dropThing my_N_dropThing ∈ TB := tb_at 391 (by decide +kernel) (by decide +kernel)
theorem ml_N_15 : Cond.methodLink "RuleChoice$Answers" 15 my_N_slotOf ∈ TB := tb_at 393 (by decide +kernel) (by decide +kernel)
theorem st_N_slotOf : Cond.static my_N_slotOf ∈ TB := tb_at 394 (by decide +kernel) (by decide +kernel)
theorem ml_N_27 : Cond.methodLink "RuleChoice$Answers" 27 (⟨"java/lang/Math", "max", "(II)I"⟩ : MethodName) ∈ TB := tb_at 396 (by decide +kernel) (by decide +kernel)
theorem ml_N_33 : Cond.methodLink "RuleChoice$Answers" 33 (⟨"java/lang/Math", "min", "(II)I"⟩ : MethodName) ∈ TB := tb_at 397 (by decide +kernel) (by decide +kernel)
theorem ml_L_108 : Cond.methodLink "RuleChoiceLaw" 108 my_L_move ∈ TB := tb_at 398 (by decide +kernel) (by decide +kernel)
theorem st_L_move : Cond.static my_L_move ∈ TB := tb_at 399 (by decide +kernel) (by decide +kernel)
theorem ml_L_36 : Cond.methodLink "RuleChoiceLaw" 36 my_X_move ∈ TB := tb_at 401 (by decide +kernel) (by decide +kernel)
theorem im_X_move : Cond.instanceMethod my_X_move ∈ TB := tb_at 402 (by decide +kernel) (by decide +kernel)
theorem se_X_move : Cond.selects "RuleChoice" my_X_move my_X_move ∈ TB := tb_at 403 (by decide +kernel) (by decide +kernel)
theorem ml_X_148 : Cond.methodLink "RuleChoice" 148 my_X_areasAround ∈ TB := tb_at 405 (by decide +kernel) (by decide +kernel)
theorem im_X_areasAround : Cond.instanceMethod my_X_areasAround ∈ TB := tb_at 407 (by decide +kernel) (by decide +kernel)
theorem ml_X_229 : Cond.methodLink "RuleChoice" 229 my_A_holds ∈ TB := tb_at 409 (by decide +kernel) (by decide +kernel)
theorem im_A_holds : Cond.instanceMethod my_A_holds ∈ TB := tb_at 410 (by decide +kernel) (by decide +kernel)
theorem se_A_holds : Cond.selects "RuleChoice$Area" my_A_holds my_A_holds ∈ TB := tb_at 411 (by decide +kernel) (by decide +kernel)
theorem ml_L_112 : Cond.methodLink "RuleChoiceLaw" 112 my_L_winner ∈ TB := tb_at 413 (by decide +kernel) (by decide +kernel)
theorem st_L_winner : Cond.static my_L_winner ∈ TB := tb_at 414 (by decide +kernel) (by decide +kernel)
theorem ml_L_40 : Cond.methodLink "RuleChoiceLaw" 40 my_X_winner ∈ TB := tb_at 416 (by decide +kernel) (by decide +kernel)
theorem im_X_winner : Cond.instanceMethod my_X_winner ∈ TB := tb_at 417 (by decide +kernel) (by decide +kernel)
theorem se_X_winner : Cond.selects "RuleChoice" my_X_winner my_X_winner ∈ TB := tb_at 418 (by decide +kernel) (by decide +kernel)
theorem ml_X_152 : Cond.methodLink "RuleChoice" 152 my_X_needKindAndThings ∈ TB := tb_at 420 (by decide +kernel) (by decide +kernel)
theorem im_X_needKindAndThings : Cond.instanceMethod my_X_needKindAndThings ∈ TB := tb_at 422 (by decide +kernel) (by decide +kernel)
theorem ml_X_156 : Cond.methodLink "RuleChoice" 156 my_X_keptWinner ∈ TB := tb_at 424 (by decide +kernel) (by decide +kernel)
theorem im_X_keptWinner : Cond.instanceMethod my_X_keptWinner ∈ TB := tb_at 426 (by decide +kernel) (by decide +kernel)
theorem ml_X_211 : Cond.methodLink "RuleChoice" 211 my_N_has ∈ TB := tb_at 428 (by decide +kernel) (by decide +kernel)
theorem im_N_has : Cond.instanceMethod my_N_has ∈ TB := tb_at 429 (by decide +kernel) (by decide +kernel)
theorem se_N_has : Cond.selects "RuleChoice$Answers" my_N_has my_N_has ∈ TB := tb_at 430 (by decide +kernel) (by decide +kernel)
theorem ml_X_215 : Cond.methodLink "RuleChoice" 215 my_N_read ∈ TB := tb_at 432 (by decide +kernel) (by decide +kernel)
theorem im_N_read : Cond.instanceMethod my_N_read ∈ TB := tb_at 433 (by decide +kernel) (by decide +kernel)
theorem se_N_read : Cond.selects "RuleChoice$Answers" my_N_read my_N_read ∈ TB := tb_at 434 (by decide +kernel) (by decide +kernel)
theorem ml_X_164 : Cond.methodLink "RuleChoice" 164 my_X_bestBelow ∈ TB := tb_at 436 (by decide +kernel) (by decide +kernel)
theorem im_X_bestBelow : Cond.instanceMethod my_X_bestBelow ∈ TB := tb_at 438 (by decide +kernel) (by decide +kernel)
theorem ml_X_222 : Cond.methodLink "RuleChoice" 222 my_X_beats ∈ TB := tb_at 440 (by decide +kernel) (by decide +kernel)
theorem im_X_beats : Cond.instanceMethod my_X_beats ∈ TB := tb_at 442 (by decide +kernel) (by decide +kernel)
theorem ml_X_168 : Cond.methodLink "RuleChoice" 168 my_X_hindrance ∈ TB := tb_at 444 (by decide +kernel) (by decide +kernel)
theorem im_X_hindrance : Cond.instanceMethod my_X_hindrance ∈ TB := tb_at 446 (by decide +kernel) (by decide +kernel)
theorem ml_X_226 : Cond.methodLink "RuleChoice" 226 my_R_isBetween ∈ TB := tb_at 448 (by decide +kernel) (by decide +kernel)
theorem im_R_isBetween : Cond.instanceMethod my_R_isBetween ∈ TB := tb_at 449 (by decide +kernel) (by decide +kernel)
theorem se_R_isBetween : Cond.selects "RuleChoice$Rule" my_R_isBetween my_R_isBetween ∈ TB := tb_at 450 (by decide +kernel) (by decide +kernel)
theorem ml_R_31 : Cond.methodLink "RuleChoice$Rule" 31 my_R_fits ∈ TB := tb_at 452 (by decide +kernel) (by decide +kernel)
theorem st_R_fits : Cond.static my_R_fits ∈ TB := tb_at 453 (by decide +kernel) (by decide +kernel)
theorem ml_X_174 : Cond.methodLink "RuleChoice" 174 my_R_isForLayer ∈ TB := tb_at 455 (by decide +kernel) (by decide +kernel)
theorem im_R_isForLayer : Cond.instanceMethod my_R_isForLayer ∈ TB := tb_at 456 (by decide +kernel) (by decide +kernel)
theorem se_R_isForLayer : Cond.selects "RuleChoice$Rule" my_R_isForLayer my_R_isForLayer ∈ TB := tb_at 457 (by decide +kernel) (by decide +kernel)
theorem ml_X_218 : Cond.methodLink "RuleChoice" 218 my_N_keep ∈ TB := tb_at 459 (by decide +kernel) (by decide +kernel)
theorem im_N_keep : Cond.instanceMethod my_N_keep ∈ TB := tb_at 460 (by decide +kernel) (by decide +kernel)
theorem se_N_keep : Cond.selects "RuleChoice$Answers" my_N_keep my_N_keep ∈ TB := tb_at 461 (by decide +kernel) (by decide +kernel)
theorem ml_L_115 : Cond.methodLink "RuleChoiceLaw" 115 my_L_value ∈ TB := tb_at 463 (by decide +kernel) (by decide +kernel)
theorem st_L_value : Cond.static my_L_value ∈ TB := tb_at 464 (by decide +kernel) (by decide +kernel)
theorem ml_L_44 : Cond.methodLink "RuleChoiceLaw" 44 my_X_value ∈ TB := tb_at 466 (by decide +kernel) (by decide +kernel)
theorem im_X_value : Cond.instanceMethod my_X_value ∈ TB := tb_at 467 (by decide +kernel) (by decide +kernel)
theorem se_X_value : Cond.selects "RuleChoice" my_X_value my_X_value ∈ TB := tb_at 468 (by decide +kernel) (by decide +kernel)
theorem ml_X_160 : Cond.methodLink "RuleChoice" 160 my_X_valueOf ∈ TB := tb_at 470 (by decide +kernel) (by decide +kernel)
theorem im_X_valueOf : Cond.instanceMethod my_X_valueOf ∈ TB := tb_at 472 (by decide +kernel) (by decide +kernel)
theorem kl_X_172 : Cond.constantLong "RuleChoice" 172 (-1) ∈ TB := tb_at 474 (by decide +kernel) (by decide +kernel)
theorem ml_L_118 : Cond.methodLink "RuleChoiceLaw" 118 my_L_listed ∈ TB := tb_at 475 (by decide +kernel) (by decide +kernel)
theorem st_L_listed : Cond.static my_L_listed ∈ TB := tb_at 476 (by decide +kernel) (by decide +kernel)
theorem ml_L_48 : Cond.methodLink "RuleChoiceLaw" 48 my_X_listed ∈ TB := tb_at 478 (by decide +kernel) (by decide +kernel)
theorem im_X_listed : Cond.instanceMethod my_X_listed ∈ TB := tb_at 479 (by decide +kernel) (by decide +kernel)
theorem se_X_listed : Cond.selects "RuleChoice" my_X_listed my_X_listed ∈ TB := tb_at 480 (by decide +kernel) (by decide +kernel)
theorem ml_L_122 : Cond.methodLink "RuleChoiceLaw" 122 my_L_why ∈ TB := tb_at 482 (by decide +kernel) (by decide +kernel)
theorem st_L_why : Cond.static my_L_why ∈ TB := tb_at 483 (by decide +kernel) (by decide +kernel)
theorem ml_L_52 : Cond.methodLink "RuleChoiceLaw" 52 my_X_why ∈ TB := tb_at 485 (by decide +kernel) (by decide +kernel)
theorem im_X_why : Cond.instanceMethod my_X_why ∈ TB := tb_at 486 (by decide +kernel) (by decide +kernel)
theorem se_X_why : Cond.selects "RuleChoice" my_X_why my_X_why ∈ TB := tb_at 487 (by decide +kernel) (by decide +kernel)
theorem ml_L_125 : Cond.methodLink "RuleChoiceLaw" 125 my_L_greatest ∈ TB := tb_at 489 (by decide +kernel) (by decide +kernel)
theorem st_L_greatest : Cond.static my_L_greatest ∈ TB := tb_at 490 (by decide +kernel) (by decide +kernel)
theorem ml_L_55 : Cond.methodLink "RuleChoiceLaw" 55 my_X_greatest ∈ TB := tb_at 492 (by decide +kernel) (by decide +kernel)
theorem im_X_greatest : Cond.instanceMethod my_X_greatest ∈ TB := tb_at 493 (by decide +kernel) (by decide +kernel)
theorem se_X_greatest : Cond.selects "RuleChoice" my_X_greatest my_X_greatest ∈ TB := tb_at 494 (by decide +kernel) (by decide +kernel)
theorem ml_X_181 : Cond.methodLink "RuleChoice" 181 (⟨"java/lang/Math", "max", "(JJ)J"⟩ : MethodName) ∈ TB := tb_at 496 (by decide +kernel) (by decide +kernel)
theorem ml_L_128 : Cond.methodLink "RuleChoiceLaw" 128 my_L_close ∈ TB := tb_at 499 (by decide +kernel) (by decide +kernel)
theorem st_L_close : Cond.static my_L_close ∈ TB := tb_at 500 (by decide +kernel) (by decide +kernel)
theorem ml_L_59 : Cond.methodLink "RuleChoiceLaw" 59 my_X_close ∈ TB := tb_at 502 (by decide +kernel) (by decide +kernel)
theorem im_X_close : Cond.instanceMethod my_X_close ∈ TB := tb_at 503 (by decide +kernel) (by decide +kernel)
theorem se_X_close : Cond.selects "RuleChoice" my_X_close my_X_close ∈ TB := tb_at 504 (by decide +kernel) (by decide +kernel)
theorem ml_X_184 : Cond.methodLink "RuleChoice" 184 my_P_clear ∈ TB := tb_at 506 (by decide +kernel) (by decide +kernel)
theorem im_P_clear : Cond.instanceMethod my_P_clear ∈ TB := tb_at 507 (by decide +kernel) (by decide +kernel)
theorem se_P_clear : Cond.selects "RuleChoice$Pairs" my_P_clear my_P_clear ∈ TB := tb_at 508 (by decide +kernel) (by decide +kernel)
theorem ml_X_187 : Cond.methodLink "RuleChoice" 187 my_X_areTooNear ∈ TB := tb_at 510 (by decide +kernel) (by decide +kernel)
theorem im_X_areTooNear : Cond.instanceMethod my_X_areTooNear ∈ TB := tb_at 512 (by decide +kernel) (by decide +kernel)
theorem ml_X_191 : Cond.methodLink "RuleChoice" 191 my_P_add ∈ TB := tb_at 514 (by decide +kernel) (by decide +kernel)
theorem im_P_add : Cond.instanceMethod my_P_add ∈ TB := tb_at 515 (by decide +kernel) (by decide +kernel)
theorem se_P_add : Cond.selects "RuleChoice$Pairs" my_P_add my_P_add ∈ TB := tb_at 516 (by decide +kernel) (by decide +kernel)
theorem ml_L_132 : Cond.methodLink "RuleChoiceLaw" 132 my_L_pair ∈ TB := tb_at 518 (by decide +kernel) (by decide +kernel)
theorem st_L_pair : Cond.static my_L_pair ∈ TB := tb_at 519 (by decide +kernel) (by decide +kernel)
theorem ml_L_63 : Cond.methodLink "RuleChoiceLaw" 63 my_X_pair ∈ TB := tb_at 521 (by decide +kernel) (by decide +kernel)
theorem im_X_pair : Cond.instanceMethod my_X_pair ∈ TB := tb_at 522 (by decide +kernel) (by decide +kernel)
theorem se_X_pair : Cond.selects "RuleChoice" my_X_pair my_X_pair ∈ TB := tb_at 523 (by decide +kernel) (by decide +kernel)
theorem ml_X_197 : Cond.methodLink "RuleChoice" 197 my_X_needSide ∈ TB := tb_at 525 (by decide +kernel) (by decide +kernel)
theorem im_X_needSide : Cond.instanceMethod my_X_needSide ∈ TB := tb_at 527 (by decide +kernel) (by decide +kernel)
theorem cl_L_76 : Cond.classLink "RuleChoiceLaw" 76 "RuleChoiceModel" ∈ TB := tb_at 530 (by decide +kernel) (by decide +kernel)
theorem iv_M : Cond.instantiable "RuleChoiceModel" 22 ∈ TB := tb_at 531 (by decide +kernel) (by decide +kernel)
theorem ml_L_78 : Cond.methodLink "RuleChoiceLaw" 78 my_M_init ∈ TB := tb_at 532 (by decide +kernel) (by decide +kernel)
theorem im_M_init : Cond.instanceMethod my_M_init ∈ TB := tb_at 533 (by decide +kernel) (by decide +kernel)
theorem ml_M_1 : Cond.methodLink "RuleChoiceModel" 1 (⟨"java/lang/Object", "<init>", "()V"⟩ : MethodName) ∈ TB := tb_at 535 (by decide +kernel) (by decide +kernel)
theorem fl_M_61 : Cond.fieldLink "RuleChoiceModel" 61 "RuleChoiceModel" "thrown" "I" ∈ TB := tb_at 536 (by decide +kernel) (by decide +kernel)
theorem fl_M_57 : Cond.fieldLink "RuleChoiceModel" 57 "RuleChoiceModel" "classes" "I" ∈ TB := tb_at 537 (by decide +kernel) (by decide +kernel)
theorem fl_M_67 : Cond.fieldLink "RuleChoiceModel" 67 "RuleChoiceModel" "rules" "I" ∈ TB := tb_at 538 (by decide +kernel) (by decide +kernel)
theorem fl_M_7 : Cond.fieldLink "RuleChoiceModel" 7 "RuleChoiceModel" "kinds" "[I" ∈ TB := tb_at 539 (by decide +kernel) (by decide +kernel)
theorem fl_M_13 : Cond.fieldLink "RuleChoiceModel" 13 "RuleChoiceModel" "ones" "[I" ∈ TB := tb_at 540 (by decide +kernel) (by decide +kernel)
theorem fl_M_16 : Cond.fieldLink "RuleChoiceModel" 16 "RuleChoiceModel" "others" "[I" ∈ TB := tb_at 541 (by decide +kernel) (by decide +kernel)
theorem fl_M_19 : Cond.fieldLink "RuleChoiceModel" 19 "RuleChoiceModel" "layers" "[I" ∈ TB := tb_at 542 (by decide +kernel) (by decide +kernel)
theorem fl_M_22 : Cond.fieldLink "RuleChoiceModel" 22 "RuleChoiceModel" "values" "[J" ∈ TB := tb_at 543 (by decide +kernel) (by decide +kernel)
theorem fl_M_26 : Cond.fieldLink "RuleChoiceModel" 26 "RuleChoiceModel" "ranks" "[I" ∈ TB := tb_at 544 (by decide +kernel) (by decide +kernel)
theorem fl_M_29 : Cond.fieldLink "RuleChoiceModel" 29 "RuleChoiceModel" "within" "[I" ∈ TB := tb_at 545 (by decide +kernel) (by decide +kernel)
theorem fl_M_95 : Cond.fieldLink "RuleChoiceModel" 95 "RuleChoiceModel" "areas" "I" ∈ TB := tb_at 546 (by decide +kernel) (by decide +kernel)
theorem fl_M_32 : Cond.fieldLink "RuleChoiceModel" 32 "RuleChoiceModel" "corners" "[J" ∈ TB := tb_at 547 (by decide +kernel) (by decide +kernel)
theorem fl_M_64 : Cond.fieldLink "RuleChoiceModel" 64 "RuleChoiceModel" "things" "I" ∈ TB := tb_at 548 (by decide +kernel) (by decide +kernel)
theorem fl_M_35 : Cond.fieldLink "RuleChoiceModel" 35 "RuleChoiceModel" "types" "[I" ∈ TB := tb_at 549 (by decide +kernel) (by decide +kernel)
theorem fl_M_38 : Cond.fieldLink "RuleChoiceModel" 38 "RuleChoiceModel" "levels" "[I" ∈ TB := tb_at 550 (by decide +kernel) (by decide +kernel)
theorem fl_M_41 : Cond.fieldLink "RuleChoiceModel" 41 "RuleChoiceModel" "x" "[J" ∈ TB := tb_at 551 (by decide +kernel) (by decide +kernel)
theorem fl_M_44 : Cond.fieldLink "RuleChoiceModel" 44 "RuleChoiceModel" "y" "[J" ∈ TB := tb_at 552 (by decide +kernel) (by decide +kernel)
theorem fl_M_47 : Cond.fieldLink "RuleChoiceModel" 47 "RuleChoiceModel" "keeps" "[Z" ∈ TB := tb_at 553 (by decide +kernel) (by decide +kernel)
theorem fl_M_132 : Cond.fieldLink "RuleChoiceModel" 132 "RuleChoiceModel" "found" "J" ∈ TB := tb_at 554 (by decide +kernel) (by decide +kernel)
theorem fl_M_149 : Cond.fieldLink "RuleChoiceModel" 149 "RuleChoiceModel" "pairs" "I" ∈ TB := tb_at 555 (by decide +kernel) (by decide +kernel)
theorem fl_M_51 : Cond.fieldLink "RuleChoiceModel" 51 "RuleChoiceModel" "pairOne" "[I" ∈ TB := tb_at 556 (by decide +kernel) (by decide +kernel)
theorem fl_M_54 : Cond.fieldLink "RuleChoiceModel" 54 "RuleChoiceModel" "pairOther" "[I" ∈ TB := tb_at 557 (by decide +kernel) (by decide +kernel)
theorem ac_long : Cond.arrayClass .long ∈ TB := tb_at 603 (by decide +kernel) (by decide +kernel)
theorem ac_boolean : Cond.arrayClass .boolean ∈ TB := tb_at 604 (by decide +kernel) (by decide +kernel)
theorem ml_L_85 : Cond.methodLink "RuleChoiceLaw" 85 my_M_thrown ∈ TB := tb_at 605 (by decide +kernel) (by decide +kernel)
theorem im_M_thrown : Cond.instanceMethod my_M_thrown ∈ TB := tb_at 606 (by decide +kernel) (by decide +kernel)
theorem se_M_thrown : Cond.selects "RuleChoiceModel" my_M_thrown my_M_thrown ∈ TB := tb_at 607 (by decide +kernel) (by decide +kernel)
theorem ml_L_84 : Cond.methodLink "RuleChoiceLaw" 84 my_M_rule ∈ TB := tb_at 609 (by decide +kernel) (by decide +kernel)
theorem im_M_rule : Cond.instanceMethod my_M_rule ∈ TB := tb_at 610 (by decide +kernel) (by decide +kernel)
theorem se_M_rule : Cond.selects "RuleChoiceModel" my_M_rule my_M_rule ∈ TB := tb_at 611 (by decide +kernel) (by decide +kernel)
theorem ml_M_74 : Cond.methodLink "RuleChoiceModel" 74 my_M_isKind ∈ TB := tb_at 613 (by decide +kernel) (by decide +kernel)
theorem st_M_isKind : Cond.static my_M_isKind ∈ TB := tb_at 614 (by decide +kernel) (by decide +kernel)
theorem ml_M_78 : Cond.methodLink "RuleChoiceModel" 78 my_M_isClass ∈ TB := tb_at 616 (by decide +kernel) (by decide +kernel)
theorem im_M_isClass : Cond.instanceMethod my_M_isClass ∈ TB := tb_at 618 (by decide +kernel) (by decide +kernel)
theorem ml_M_81 : Cond.methodLink "RuleChoiceModel" 81 my_M_isLayer ∈ TB := tb_at 620 (by decide +kernel) (by decide +kernel)
theorem st_M_isLayer : Cond.static my_M_isLayer ∈ TB := tb_at 621 (by decide +kernel) (by decide +kernel)
theorem kl_M_72 : Cond.constantLong "RuleChoiceModel" 72 (1000000) ∈ TB := tb_at 623 (by decide +kernel) (by decide +kernel)
theorem ml_M_84 : Cond.methodLink "RuleChoiceModel" 84 my_M_dropKind ∈ TB := tb_at 624 (by decide +kernel) (by decide +kernel)
theorem im_M_dropKind : Cond.instanceMethod my_M_dropKind ∈ TB := tb_at 626 (by decide +kernel) (by decide +kernel)
theorem ml_L_92 : Cond.methodLink "RuleChoiceLaw" 92 my_M_rank ∈ TB := tb_at 628 (by decide +kernel) (by decide +kernel)
theorem im_M_rank : Cond.instanceMethod my_M_rank ∈ TB := tb_at 629 (by decide +kernel) (by decide +kernel)
theorem se_M_rank : Cond.selects "RuleChoiceModel" my_M_rank my_M_rank ∈ TB := tb_at 630 (by decide +kernel) (by decide +kernel)
theorem ml_M_88 : Cond.methodLink "RuleChoiceModel" 88 my_M_isRule ∈ TB := tb_at 632 (by decide +kernel) (by decide +kernel)
theorem im_M_isRule : Cond.instanceMethod my_M_isRule ∈ TB := tb_at 634 (by decide +kernel) (by decide +kernel)
theorem ml_L_96 : Cond.methodLink "RuleChoiceLaw" 96 my_M_area ∈ TB := tb_at 636 (by decide +kernel) (by decide +kernel)
theorem im_M_area : Cond.instanceMethod my_M_area ∈ TB := tb_at 637 (by decide +kernel) (by decide +kernel)
theorem se_M_area : Cond.selects "RuleChoiceModel" my_M_area my_M_area ∈ TB := tb_at 638 (by decide +kernel) (by decide +kernel)
theorem ml_M_91 : Cond.methodLink "RuleChoiceModel" 91 my_M_isPlace ∈ TB := tb_at 640 (by decide +kernel) (by decide +kernel)
theorem st_M_isPlace : Cond.static my_M_isPlace ∈ TB := tb_at 641 (by decide +kernel) (by decide +kernel)
theorem kl_M_70 : Cond.constantLong "RuleChoiceModel" 70 (-1000000) ∈ TB := tb_at 643 (by decide +kernel) (by decide +kernel)
theorem ml_L_99 : Cond.methodLink "RuleChoiceLaw" 99 my_M_inArea ∈ TB := tb_at 644 (by decide +kernel) (by decide +kernel)
theorem im_M_inArea : Cond.instanceMethod my_M_inArea ∈ TB := tb_at 645 (by decide +kernel) (by decide +kernel)
theorem se_M_inArea : Cond.selects "RuleChoiceModel" my_M_inArea my_M_inArea ∈ TB := tb_at 646 (by decide +kernel) (by decide +kernel)
theorem ml_L_103 : Cond.methodLink "RuleChoiceLaw" 103 my_M_thing ∈ TB := tb_at 648 (by decide +kernel) (by decide +kernel)
theorem im_M_thing : Cond.instanceMethod my_M_thing ∈ TB := tb_at 649 (by decide +kernel) (by decide +kernel)
theorem se_M_thing : Cond.selects "RuleChoiceModel" my_M_thing my_M_thing ∈ TB := tb_at 650 (by decide +kernel) (by decide +kernel)
theorem ml_L_107 : Cond.methodLink "RuleChoiceLaw" 107 my_M_make ∈ TB := tb_at 652 (by decide +kernel) (by decide +kernel)
theorem im_M_make : Cond.instanceMethod my_M_make ∈ TB := tb_at 653 (by decide +kernel) (by decide +kernel)
theorem se_M_make : Cond.selects "RuleChoiceModel" my_M_make my_M_make ∈ TB := tb_at 654 (by decide +kernel) (by decide +kernel)
theorem ml_M_98 : Cond.methodLink "RuleChoiceModel" 98 my_M_isThing ∈ TB := tb_at 656 (by decide +kernel) (by decide +kernel)
theorem im_M_isThing : Cond.instanceMethod my_M_isThing ∈ TB := tb_at 658 (by decide +kernel) (by decide +kernel)
theorem ml_M_101 : Cond.methodLink "RuleChoiceModel" 101 my_M_dropThing ∈ TB := tb_at 660 (by decide +kernel) (by decide +kernel)
theorem im_M_dropThing : Cond.instanceMethod my_M_dropThing ∈ TB := tb_at 662 (by decide +kernel) (by decide +kernel)
theorem ml_L_111 : Cond.methodLink "RuleChoiceLaw" 111 my_M_move ∈ TB := tb_at 664 (by decide +kernel) (by decide +kernel)
theorem im_M_move : Cond.instanceMethod my_M_move ∈ TB := tb_at 665 (by decide +kernel) (by decide +kernel)
theorem se_M_move : Cond.selects "RuleChoiceModel" my_M_move my_M_move ∈ TB := tb_at 666 (by decide +kernel) (by decide +kernel)
theorem ml_M_108 : Cond.methodLink "RuleChoiceModel" 108 my_M_areasOf ∈ TB := tb_at 668 (by decide +kernel) (by decide +kernel)
theorem im_M_areasOf : Cond.instanceMethod my_M_areasOf ∈ TB := tb_at 670 (by decide +kernel) (by decide +kernel)
theorem ml_M_104 : Cond.methodLink "RuleChoiceModel" 104 my_M_lies ∈ TB := tb_at 672 (by decide +kernel) (by decide +kernel)
theorem im_M_lies : Cond.instanceMethod my_M_lies ∈ TB := tb_at 674 (by decide +kernel) (by decide +kernel)
theorem ml_L_114 : Cond.methodLink "RuleChoiceLaw" 114 my_M_winner ∈ TB := tb_at 676 (by decide +kernel) (by decide +kernel)
theorem im_M_winner : Cond.instanceMethod my_M_winner ∈ TB := tb_at 677 (by decide +kernel) (by decide +kernel)
theorem se_M_winner : Cond.selects "RuleChoiceModel" my_M_winner my_M_winner ∈ TB := tb_at 678 (by decide +kernel) (by decide +kernel)
theorem ml_M_136 : Cond.methodLink "RuleChoiceModel" 136 my_M_isAsked ∈ TB := tb_at 680 (by decide +kernel) (by decide +kernel)
theorem im_M_isAsked : Cond.instanceMethod my_M_isAsked ∈ TB := tb_at 682 (by decide +kernel) (by decide +kernel)
theorem ml_M_139 : Cond.methodLink "RuleChoiceModel" 139 my_M_keep ∈ TB := tb_at 684 (by decide +kernel) (by decide +kernel)
theorem im_M_keep : Cond.instanceMethod my_M_keep ∈ TB := tb_at 686 (by decide +kernel) (by decide +kernel)
theorem ml_M_143 : Cond.methodLink "RuleChoiceModel" 143 my_M_best ∈ TB := tb_at 688 (by decide +kernel) (by decide +kernel)
theorem im_M_best : Cond.instanceMethod my_M_best ∈ TB := tb_at 690 (by decide +kernel) (by decide +kernel)
theorem ml_M_125 : Cond.methodLink "RuleChoiceModel" 125 my_M_matches ∈ TB := tb_at 692 (by decide +kernel) (by decide +kernel)
theorem im_M_matches : Cond.instanceMethod my_M_matches ∈ TB := tb_at 694 (by decide +kernel) (by decide +kernel)
theorem ml_M_115 : Cond.methodLink "RuleChoiceModel" 115 my_M_haveClasses ∈ TB := tb_at 696 (by decide +kernel) (by decide +kernel)
theorem im_M_haveClasses : Cond.instanceMethod my_M_haveClasses ∈ TB := tb_at 698 (by decide +kernel) (by decide +kernel)
theorem ml_M_112 : Cond.methodLink "RuleChoiceModel" 112 my_M_isOf ∈ TB := tb_at 700 (by decide +kernel) (by decide +kernel)
theorem st_M_isOf : Cond.static my_M_isOf ∈ TB := tb_at 701 (by decide +kernel) (by decide +kernel)
theorem ml_M_119 : Cond.methodLink "RuleChoiceModel" 119 my_M_haveLayer ∈ TB := tb_at 703 (by decide +kernel) (by decide +kernel)
theorem im_M_haveLayer : Cond.instanceMethod my_M_haveLayer ∈ TB := tb_at 705 (by decide +kernel) (by decide +kernel)
theorem ml_M_122 : Cond.methodLink "RuleChoiceModel" 122 my_M_lieWithin ∈ TB := tb_at 707 (by decide +kernel) (by decide +kernel)
theorem im_M_lieWithin : Cond.instanceMethod my_M_lieWithin ∈ TB := tb_at 709 (by decide +kernel) (by decide +kernel)
theorem ml_M_129 : Cond.methodLink "RuleChoiceModel" 129 my_M_isAhead ∈ TB := tb_at 711 (by decide +kernel) (by decide +kernel)
theorem im_M_isAhead : Cond.instanceMethod my_M_isAhead ∈ TB := tb_at 713 (by decide +kernel) (by decide +kernel)
theorem ml_L_117 : Cond.methodLink "RuleChoiceLaw" 117 my_M_value ∈ TB := tb_at 715 (by decide +kernel) (by decide +kernel)
theorem im_M_value : Cond.instanceMethod my_M_value ∈ TB := tb_at 716 (by decide +kernel) (by decide +kernel)
theorem se_M_value : Cond.selects "RuleChoiceModel" my_M_value my_M_value ∈ TB := tb_at 717 (by decide +kernel) (by decide +kernel)
theorem kl_M_147 : Cond.constantLong "RuleChoiceModel" 147 (-1) ∈ TB := tb_at 719 (by decide +kernel) (by decide +kernel)
theorem ml_L_121 : Cond.methodLink "RuleChoiceLaw" 121 my_M_listed ∈ TB := tb_at 720 (by decide +kernel) (by decide +kernel)
theorem im_M_listed : Cond.instanceMethod my_M_listed ∈ TB := tb_at 721 (by decide +kernel) (by decide +kernel)
theorem se_M_listed : Cond.selects "RuleChoiceModel" my_M_listed my_M_listed ∈ TB := tb_at 722 (by decide +kernel) (by decide +kernel)
theorem ml_L_124 : Cond.methodLink "RuleChoiceLaw" 124 my_M_why ∈ TB := tb_at 724 (by decide +kernel) (by decide +kernel)
theorem im_M_why : Cond.instanceMethod my_M_why ∈ TB := tb_at 725 (by decide +kernel) (by decide +kernel)
theorem se_M_why : Cond.selects "RuleChoiceModel" my_M_why my_M_why ∈ TB := tb_at 726 (by decide +kernel) (by decide +kernel)
theorem ml_L_127 : Cond.methodLink "RuleChoiceLaw" 127 my_M_greatest ∈ TB := tb_at 728 (by decide +kernel) (by decide +kernel)
theorem im_M_greatest : Cond.instanceMethod my_M_greatest ∈ TB := tb_at 729 (by decide +kernel) (by decide +kernel)
theorem se_M_greatest : Cond.selects "RuleChoiceModel" my_M_greatest my_M_greatest ∈ TB := tb_at 730 (by decide +kernel) (by decide +kernel)
theorem ml_L_131 : Cond.methodLink "RuleChoiceLaw" 131 my_M_close ∈ TB := tb_at 732 (by decide +kernel) (by decide +kernel)
theorem im_M_close : Cond.instanceMethod my_M_close ∈ TB := tb_at 733 (by decide +kernel) (by decide +kernel)
theorem se_M_close : Cond.selects "RuleChoiceModel" my_M_close my_M_close ∈ TB := tb_at 734 (by decide +kernel) (by decide +kernel)
theorem ml_M_152 : Cond.methodLink "RuleChoiceModel" 152 my_M_isClose ∈ TB := tb_at 736 (by decide +kernel) (by decide +kernel)
theorem im_M_isClose : Cond.instanceMethod my_M_isClose ∈ TB := tb_at 738 (by decide +kernel) (by decide +kernel)
theorem ml_L_134 : Cond.methodLink "RuleChoiceLaw" 134 my_M_pair ∈ TB := tb_at 740 (by decide +kernel) (by decide +kernel)
theorem im_M_pair : Cond.instanceMethod my_M_pair ∈ TB := tb_at 741 (by decide +kernel) (by decide +kernel)
theorem se_M_pair : Cond.selects "RuleChoiceModel" my_M_pair my_M_pair ∈ TB := tb_at 742 (by decide +kernel) (by decide +kernel)
theorem ml_L_138 : Cond.methodLink "RuleChoiceLaw" 138 my_M_kept ∈ TB := tb_at 744 (by decide +kernel) (by decide +kernel)
theorem im_M_kept : Cond.instanceMethod my_M_kept ∈ TB := tb_at 745 (by decide +kernel) (by decide +kernel)
theorem se_M_kept : Cond.selects "RuleChoiceModel" my_M_kept my_M_kept ∈ TB := tb_at 746 (by decide +kernel) (by decide +kernel)
theorem ml_L_143 : Cond.methodLink "RuleChoiceLaw" 143 my_M_spared ∈ TB := tb_at 748 (by decide +kernel) (by decide +kernel)
theorem im_M_spared : Cond.instanceMethod my_M_spared ∈ TB := tb_at 749 (by decide +kernel) (by decide +kernel)
theorem se_M_spared : Cond.selects "RuleChoiceModel" my_M_spared my_M_spared ∈ TB := tb_at 750 (by decide +kernel) (by decide +kernel)
theorem kl_L_79 : Cond.constantLong "RuleChoiceLaw" 79 (4294967295) ∈ TB := tb_at 752 (by decide +kernel) (by decide +kernel)
theorem se_X_needKind : Cond.selects "RuleChoice" my_X_needKind my_X_needKind ∈ TB := tb_sel (q := (my_X_needKind, 10)) (by decide +kernel) (by decide +kernel)
theorem se_X_needClassOrNone : Cond.selects "RuleChoice" my_X_needClassOrNone my_X_needClassOrNone ∈ TB := tb_sel (q := (my_X_needClassOrNone, 10)) (by decide +kernel) (by decide +kernel)
theorem se_X_needClass : Cond.selects "RuleChoice" my_X_needClass my_X_needClass ∈ TB := tb_sel (q := (my_X_needClass, 10)) (by decide +kernel) (by decide +kernel)
theorem se_X_needLayerOrNone : Cond.selects "RuleChoice" my_X_needLayerOrNone my_X_needLayerOrNone ∈ TB := tb_sel (q := (my_X_needLayerOrNone, 10)) (by decide +kernel) (by decide +kernel)
theorem se_X_needLayer : Cond.selects "RuleChoice" my_X_needLayer my_X_needLayer ∈ TB := tb_sel (q := (my_X_needLayer, 10)) (by decide +kernel) (by decide +kernel)
theorem se_X_needValue : Cond.selects "RuleChoice" my_X_needValue my_X_needValue ∈ TB := tb_sel (q := (my_X_needValue, 10)) (by decide +kernel) (by decide +kernel)
theorem se_N_drop : Cond.selects "RuleChoice$Answers" my_N_drop my_N_drop ∈ TB := tb_sel (q := (my_N_drop, 2)) (by decide +kernel) (by decide +kernel)
theorem se_X_needRule : Cond.selects "RuleChoice" my_X_needRule my_X_needRule ∈ TB := tb_sel (q := (my_X_needRule, 10)) (by decide +kernel) (by decide +kernel)
theorem se_X_needRank : Cond.selects "RuleChoice" my_X_needRank my_X_needRank ∈ TB := tb_sel (q := (my_X_needRank, 10)) (by decide +kernel) (by decide +kernel)
theorem se_X_needPlace : Cond.selects "RuleChoice" my_X_needPlace my_X_needPlace ∈ TB := tb_sel (q := (my_X_needPlace, 10)) (by decide +kernel) (by decide +kernel)
theorem se_X_needUnturned : Cond.selects "RuleChoice" my_X_needUnturned my_X_needUnturned ∈ TB := tb_sel (q := (my_X_needUnturned, 10)) (by decide +kernel) (by decide +kernel)
theorem se_X_needAreaOrNone : Cond.selects "RuleChoice" my_X_needAreaOrNone my_X_needAreaOrNone ∈ TB := tb_sel (q := (my_X_needAreaOrNone, 10)) (by decide +kernel) (by decide +kernel)
theorem se_X_needThing : Cond.selects "RuleChoice" my_X_needThing my_X_needThing ∈ TB := tb_sel (q := (my_X_needThing, 10)) (by decide +kernel) (by decide +kernel)
theorem se_X_areasAround : Cond.selects "RuleChoice" my_X_areasAround my_X_areasAround ∈ TB := tb_sel (q := (my_X_areasAround, 10)) (by decide +kernel) (by decide +kernel)
theorem se_X_needKindAndThings : Cond.selects "RuleChoice" my_X_needKindAndThings my_X_needKindAndThings ∈ TB := tb_sel (q := (my_X_needKindAndThings, 10)) (by decide +kernel) (by decide +kernel)
theorem se_X_keptWinner : Cond.selects "RuleChoice" my_X_keptWinner my_X_keptWinner ∈ TB := tb_sel (q := (my_X_keptWinner, 10)) (by decide +kernel) (by decide +kernel)
theorem se_X_bestBelow : Cond.selects "RuleChoice" my_X_bestBelow my_X_bestBelow ∈ TB := tb_sel (q := (my_X_bestBelow, 10)) (by decide +kernel) (by decide +kernel)
theorem se_X_beats : Cond.selects "RuleChoice" my_X_beats my_X_beats ∈ TB := tb_sel (q := (my_X_beats, 10)) (by decide +kernel) (by decide +kernel)
theorem se_X_hindrance : Cond.selects "RuleChoice" my_X_hindrance my_X_hindrance ∈ TB := tb_sel (q := (my_X_hindrance, 10)) (by decide +kernel) (by decide +kernel)
theorem se_X_valueOf : Cond.selects "RuleChoice" my_X_valueOf my_X_valueOf ∈ TB := tb_sel (q := (my_X_valueOf, 10)) (by decide +kernel) (by decide +kernel)
theorem se_X_areTooNear : Cond.selects "RuleChoice" my_X_areTooNear my_X_areTooNear ∈ TB := tb_sel (q := (my_X_areTooNear, 10)) (by decide +kernel) (by decide +kernel)
theorem se_X_needSide : Cond.selects "RuleChoice" my_X_needSide my_X_needSide ∈ TB := tb_sel (q := (my_X_needSide, 10)) (by decide +kernel) (by decide +kernel)
theorem se_M_isClass : Cond.selects "RuleChoiceModel" my_M_isClass my_M_isClass ∈ TB := tb_sel (q := (my_M_isClass, 22)) (by decide +kernel) (by decide +kernel)
theorem se_M_dropKind : Cond.selects "RuleChoiceModel" my_M_dropKind my_M_dropKind ∈ TB := tb_sel (q := (my_M_dropKind, 22)) (by decide +kernel) (by decide +kernel)
theorem se_M_isRule : Cond.selects "RuleChoiceModel" my_M_isRule my_M_isRule ∈ TB := tb_sel (q := (my_M_isRule, 22)) (by decide +kernel) (by decide +kernel)
theorem se_M_isThing : Cond.selects "RuleChoiceModel" my_M_isThing my_M_isThing ∈ TB := tb_sel (q := (my_M_isThing, 22)) (by decide +kernel) (by decide +kernel)
theorem se_M_dropThing : Cond.selects "RuleChoiceModel" my_M_dropThing my_M_dropThing ∈ TB := tb_sel (q := (my_M_dropThing, 22)) (by decide +kernel) (by decide +kernel)
theorem se_M_areasOf : Cond.selects "RuleChoiceModel" my_M_areasOf my_M_areasOf ∈ TB := tb_sel (q := (my_M_areasOf, 22)) (by decide +kernel) (by decide +kernel)
theorem se_M_lies : Cond.selects "RuleChoiceModel" my_M_lies my_M_lies ∈ TB := tb_sel (q := (my_M_lies, 22)) (by decide +kernel) (by decide +kernel)
theorem se_M_isAsked : Cond.selects "RuleChoiceModel" my_M_isAsked my_M_isAsked ∈ TB := tb_sel (q := (my_M_isAsked, 22)) (by decide +kernel) (by decide +kernel)
theorem se_M_keep : Cond.selects "RuleChoiceModel" my_M_keep my_M_keep ∈ TB := tb_sel (q := (my_M_keep, 22)) (by decide +kernel) (by decide +kernel)
theorem se_M_best : Cond.selects "RuleChoiceModel" my_M_best my_M_best ∈ TB := tb_sel (q := (my_M_best, 22)) (by decide +kernel) (by decide +kernel)
theorem se_M_matches : Cond.selects "RuleChoiceModel" my_M_matches my_M_matches ∈ TB := tb_sel (q := (my_M_matches, 22)) (by decide +kernel) (by decide +kernel)
theorem se_M_haveClasses : Cond.selects "RuleChoiceModel" my_M_haveClasses my_M_haveClasses ∈ TB := tb_sel (q := (my_M_haveClasses, 22)) (by decide +kernel) (by decide +kernel)
theorem se_M_haveLayer : Cond.selects "RuleChoiceModel" my_M_haveLayer my_M_haveLayer ∈ TB := tb_sel (q := (my_M_haveLayer, 22)) (by decide +kernel) (by decide +kernel)
theorem se_M_lieWithin : Cond.selects "RuleChoiceModel" my_M_lieWithin my_M_lieWithin ∈ TB := tb_sel (q := (my_M_lieWithin, 22)) (by decide +kernel) (by decide +kernel)
theorem se_M_isAhead : Cond.selects "RuleChoiceModel" my_M_isAhead my_M_isAhead ∈ TB := tb_sel (q := (my_M_isAhead, 22)) (by decide +kernel) (by decide +kernel)
theorem se_M_isClose : Cond.selects "RuleChoiceModel" my_M_isClose my_M_isClose ∈ TB := tb_sel (q := (my_M_isClose, 22)) (by decide +kernel) (by decide +kernel)
theorem im_objinit : Cond.instanceMethod objectInit ∈ TB := tb_at 20 (by decide +kernel) (by decide +kernel)
theorem in_objinit : Cond.code objectInit ⟨#[0xb1]⟩ 1 none ∈ TB := tb_at 21 (by decide +kernel) (by decide +kernel)
theorem st_maxl : Cond.static Lib.MathLoose.max_long.x ∈ TB := tb_at 497 (by decide +kernel) (by decide +kernel)
theorem in_maxl : Cond.code Lib.MathLoose.max_long.x Lib.MathLoose.max_long.code 4 (some .long) ∈ TB := tb_at 498 (by decide +kernel) (by decide +kernel)
theorem st_max : Cond.static Lib.Math.max.name ∈ TB := tb_at 26 (by decide +kernel) (by decide +kernel)
theorem in_max : Cond.code Lib.Math.max.name Lib.Math.max.code 2 (some .int) ∈ TB := tb_at 27 (by decide +kernel) (by decide +kernel)
theorem st_min : Cond.static Lib.Math.min.name ∈ TB := tb_at 23 (by decide +kernel) (by decide +kernel)
theorem in_min : Cond.code Lib.Math.min.name Lib.Math.min.code 2 (some .int) ∈ TB := tb_at 24 (by decide +kernel) (by decide +kernel)
theorem gv_L_135 : GoodIn TB (wsV "RuleChoiceLaw" 135 "RuleChoice" my_X_kept mw_X_kept) := tb_V ml_L_135 im_X_kept se_X_kept iz_X in_X_kept
theorem gv_L_139 : GoodIn TB (wsV "RuleChoiceLaw" 139 "RuleChoice" my_X_spared mw_X_spared) := tb_V ml_L_139 im_X_spared se_X_spared iz_X in_X_spared
theorem gs_L_67 : GoodIn TB (va_wsS "RuleChoiceLaw" 67 my_L_cell mw_L_cell) := tb_S ml_L_67 st_L_cell iz_L in_L_cell
theorem gs_L_81 : GoodIn TB (va_wsS "RuleChoiceLaw" 81 my_L_rule mw_L_rule) := tb_S ml_L_81 st_L_rule iz_L in_L_rule
theorem gv_L_7 : GoodIn TB (wsV "RuleChoiceLaw" 7 "RuleChoice" my_X_rule mw_X_rule) := tb_V ml_L_7 im_X_rule se_X_rule iz_X in_X_rule
theorem gv_X_57 : GoodIn TB (wsV "RuleChoice" 57 "RuleChoice" my_X_needKind mw_X_needKind) := tb_V ml_X_57 im_X_needKind se_X_needKind iz_X in_X_needKind
theorem gv_X_61 : GoodIn TB (wsV "RuleChoice" 61 "RuleChoice" my_X_needClassOrNone mw_X_needClassOrNone) := tb_V ml_X_61 im_X_needClassOrNone se_X_needClassOrNone iz_X in_X_needClassOrNone
theorem gv_X_113 : GoodIn TB (wsV "RuleChoice" 113 "RuleChoice" my_X_needClass mw_X_needClass) := tb_V ml_X_113 im_X_needClass se_X_needClass iz_X in_X_needClass
theorem gv_X_64 : GoodIn TB (wsV "RuleChoice" 64 "RuleChoice" my_X_needLayerOrNone mw_X_needLayerOrNone) := tb_V ml_X_64 im_X_needLayerOrNone se_X_needLayerOrNone iz_X in_X_needLayerOrNone
theorem gv_X_116 : GoodIn TB (wsV "RuleChoice" 116 "RuleChoice" my_X_needLayer mw_X_needLayer) := tb_V ml_X_116 im_X_needLayer se_X_needLayer iz_X in_X_needLayer
theorem gv_X_67 : GoodIn TB (wsV "RuleChoice" 67 "RuleChoice" my_X_needValue mw_X_needValue) := tb_V ml_X_67 im_X_needValue se_X_needValue iz_X in_X_needValue
theorem gv_X_74 : GoodIn TB (wsV "RuleChoice" 74 "RuleChoice$Rule" my_R_tell mw_R_tell) := tb_V ml_X_74 im_R_tell se_R_tell iz_R in_R_tell
theorem gv_X_78 : GoodIn TB (wsV "RuleChoice" 78 "RuleChoice$Answers" my_N_dropKind mw_N_dropKind) := tb_V ml_X_78 im_N_dropKind se_N_dropKind iz_N in_N_dropKind
theorem gv_N_23 : GoodIn TB (wsV "RuleChoice$Answers" 23 "RuleChoice$Answers" my_N_drop mw_N_drop) := tb_V ml_N_23 im_N_drop se_N_drop iz_N in_N_drop
theorem gs_L_89 : GoodIn TB (va_wsS "RuleChoiceLaw" 89 my_L_rank mw_L_rank) := tb_S ml_L_89 st_L_rank iz_L in_L_rank
theorem gv_L_17 : GoodIn TB (wsV "RuleChoiceLaw" 17 "RuleChoice" my_X_rank mw_X_rank) := tb_V ml_L_17 im_X_rank se_X_rank iz_X in_X_rank
theorem gv_X_81 : GoodIn TB (wsV "RuleChoice" 81 "RuleChoice" my_X_needRule mw_X_needRule) := tb_V ml_X_81 im_X_needRule se_X_needRule iz_X in_X_needRule
theorem gv_X_84 : GoodIn TB (wsV "RuleChoice" 84 "RuleChoice" my_X_needRank mw_X_needRank) := tb_V ml_X_84 im_X_needRank se_X_needRank iz_X in_X_needRank
theorem gs_L_93 : GoodIn TB (va_wsS "RuleChoiceLaw" 93 my_L_area mw_L_area) := tb_S ml_L_93 st_L_area iz_L in_L_area
theorem gv_L_21 : GoodIn TB (wsV "RuleChoiceLaw" 21 "RuleChoice" my_X_area mw_X_area) := tb_V ml_L_21 im_X_area se_X_area iz_X in_X_area
theorem gv_X_93 : GoodIn TB (wsV "RuleChoice" 93 "RuleChoice" my_X_needPlace mw_X_needPlace) := tb_V ml_X_93 im_X_needPlace se_X_needPlace iz_X in_X_needPlace
theorem gv_X_97 : GoodIn TB (wsV "RuleChoice" 97 "RuleChoice" my_X_needUnturned mw_X_needUnturned) := tb_V ml_X_97 im_X_needUnturned se_X_needUnturned iz_X in_X_needUnturned
theorem gv_X_104 : GoodIn TB (wsV "RuleChoice" 104 "RuleChoice$Area" my_A_span mw_A_span) := tb_V ml_X_104 im_A_span se_A_span iz_A in_A_span
theorem gs_L_97 : GoodIn TB (va_wsS "RuleChoiceLaw" 97 my_L_inArea mw_L_inArea) := tb_S ml_L_97 st_L_inArea iz_L in_L_inArea
theorem gv_L_25 : GoodIn TB (wsV "RuleChoiceLaw" 25 "RuleChoice" my_X_inArea mw_X_inArea) := tb_V ml_L_25 im_X_inArea se_X_inArea iz_X in_X_inArea
theorem gv_X_107 : GoodIn TB (wsV "RuleChoice" 107 "RuleChoice" my_X_needAreaOrNone mw_X_needAreaOrNone) := tb_V ml_X_107 im_X_needAreaOrNone se_X_needAreaOrNone iz_X in_X_needAreaOrNone
theorem gs_L_100 : GoodIn TB (va_wsS "RuleChoiceLaw" 100 my_L_thing mw_L_thing) := tb_S ml_L_100 st_L_thing iz_L in_L_thing
theorem gv_L_28 : GoodIn TB (wsV "RuleChoiceLaw" 28 "RuleChoice" my_X_thing mw_X_thing) := tb_V ml_L_28 im_X_thing se_X_thing iz_X in_X_thing
theorem gv_X_122 : GoodIn TB (wsV "RuleChoice" 122 "RuleChoice$Thing" my_T_become mw_T_become) := tb_V ml_X_122 im_T_become se_T_become iz_T in_T_become
theorem gv_X_126 : GoodIn TB (wsV "RuleChoice" 126 "RuleChoice$Thing" my_T_put mw_T_put) := tb_V ml_X_126 im_T_put se_T_put iz_T in_T_put
theorem gs_L_104 : GoodIn TB (va_wsS "RuleChoiceLaw" 104 my_L_make mw_L_make) := tb_S ml_L_104 st_L_make iz_L in_L_make
theorem gv_L_32 : GoodIn TB (wsV "RuleChoiceLaw" 32 "RuleChoice" my_X_make mw_X_make) := tb_V ml_L_32 im_X_make se_X_make iz_X in_X_make
theorem gv_X_129 : GoodIn TB (wsV "RuleChoice" 129 "RuleChoice" my_X_needThing mw_X_needThing) := tb_V ml_X_129 im_X_needThing se_X_needThing iz_X in_X_needThing
theorem gv_X_138 : GoodIn TB (wsV "RuleChoice" 138 "RuleChoice$Answers" my_N_dropThing mw_N_dropThing) := tb_V ml_X_138 im_N_dropThing se_N_dropThing iz_N in_N_dropThing
theorem gs_N_15 : GoodIn TB (va_wsS "RuleChoice$Answers" 15 my_N_slotOf mw_N_slotOf) := tb_S ml_N_15 st_N_slotOf iz_N in_N_slotOf
theorem gs_L_108 : GoodIn TB (va_wsS "RuleChoiceLaw" 108 my_L_move mw_L_move) := tb_S ml_L_108 st_L_move iz_L in_L_move
theorem gv_L_36 : GoodIn TB (wsV "RuleChoiceLaw" 36 "RuleChoice" my_X_move mw_X_move) := tb_V ml_L_36 im_X_move se_X_move iz_X in_X_move
theorem gv_X_148 : GoodIn TB (wsV "RuleChoice" 148 "RuleChoice" my_X_areasAround mw_X_areasAround) := tb_V ml_X_148 im_X_areasAround se_X_areasAround iz_X in_X_areasAround
theorem gv_X_229 : GoodIn TB (wsV "RuleChoice" 229 "RuleChoice$Area" my_A_holds mw_A_holds) := tb_V ml_X_229 im_A_holds se_A_holds iz_A in_A_holds
theorem gs_L_112 : GoodIn TB (va_wsS "RuleChoiceLaw" 112 my_L_winner mw_L_winner) := tb_S ml_L_112 st_L_winner iz_L in_L_winner
theorem gv_L_40 : GoodIn TB (wsV "RuleChoiceLaw" 40 "RuleChoice" my_X_winner mw_X_winner) := tb_V ml_L_40 im_X_winner se_X_winner iz_X in_X_winner
theorem gv_X_152 : GoodIn TB (wsV "RuleChoice" 152 "RuleChoice" my_X_needKindAndThings mw_X_needKindAndThings) := tb_V ml_X_152 im_X_needKindAndThings se_X_needKindAndThings iz_X in_X_needKindAndThings
theorem gv_X_156 : GoodIn TB (wsV "RuleChoice" 156 "RuleChoice" my_X_keptWinner mw_X_keptWinner) := tb_V ml_X_156 im_X_keptWinner se_X_keptWinner iz_X in_X_keptWinner
theorem gv_X_211 : GoodIn TB (wsV "RuleChoice" 211 "RuleChoice$Answers" my_N_has mw_N_has) := tb_V ml_X_211 im_N_has se_N_has iz_N in_N_has
theorem gv_X_215 : GoodIn TB (wsV "RuleChoice" 215 "RuleChoice$Answers" my_N_read mw_N_read) := tb_V ml_X_215 im_N_read se_N_read iz_N in_N_read
theorem gv_X_164 : GoodIn TB (wsV "RuleChoice" 164 "RuleChoice" my_X_bestBelow mw_X_bestBelow) := tb_V ml_X_164 im_X_bestBelow se_X_bestBelow iz_X in_X_bestBelow
theorem gv_X_222 : GoodIn TB (wsV "RuleChoice" 222 "RuleChoice" my_X_beats mw_X_beats) := tb_V ml_X_222 im_X_beats se_X_beats iz_X in_X_beats
theorem gv_X_168 : GoodIn TB (wsV "RuleChoice" 168 "RuleChoice" my_X_hindrance mw_X_hindrance) := tb_V ml_X_168 im_X_hindrance se_X_hindrance iz_X in_X_hindrance
theorem gv_X_226 : GoodIn TB (wsV "RuleChoice" 226 "RuleChoice$Rule" my_R_isBetween mw_R_isBetween) := tb_V ml_X_226 im_R_isBetween se_R_isBetween iz_R in_R_isBetween
theorem gs_R_31 : GoodIn TB (va_wsS "RuleChoice$Rule" 31 my_R_fits mw_R_fits) := tb_S ml_R_31 st_R_fits iz_R in_R_fits
theorem gv_X_174 : GoodIn TB (wsV "RuleChoice" 174 "RuleChoice$Rule" my_R_isForLayer mw_R_isForLayer) := tb_V ml_X_174 im_R_isForLayer se_R_isForLayer iz_R in_R_isForLayer
theorem gv_X_218 : GoodIn TB (wsV "RuleChoice" 218 "RuleChoice$Answers" my_N_keep mw_N_keep) := tb_V ml_X_218 im_N_keep se_N_keep iz_N in_N_keep
theorem gs_L_115 : GoodIn TB (va_wsS "RuleChoiceLaw" 115 my_L_value mw_L_value) := tb_S ml_L_115 st_L_value iz_L in_L_value
theorem gv_L_44 : GoodIn TB (wsV "RuleChoiceLaw" 44 "RuleChoice" my_X_value mw_X_value) := tb_V ml_L_44 im_X_value se_X_value iz_X in_X_value
theorem gv_X_160 : GoodIn TB (wsV "RuleChoice" 160 "RuleChoice" my_X_valueOf mw_X_valueOf) := tb_V ml_X_160 im_X_valueOf se_X_valueOf iz_X in_X_valueOf
theorem gs_L_118 : GoodIn TB (va_wsS "RuleChoiceLaw" 118 my_L_listed mw_L_listed) := tb_S ml_L_118 st_L_listed iz_L in_L_listed
theorem gv_L_48 : GoodIn TB (wsV "RuleChoiceLaw" 48 "RuleChoice" my_X_listed mw_X_listed) := tb_V ml_L_48 im_X_listed se_X_listed iz_X in_X_listed
theorem gs_L_122 : GoodIn TB (va_wsS "RuleChoiceLaw" 122 my_L_why mw_L_why) := tb_S ml_L_122 st_L_why iz_L in_L_why
theorem gv_L_52 : GoodIn TB (wsV "RuleChoiceLaw" 52 "RuleChoice" my_X_why mw_X_why) := tb_V ml_L_52 im_X_why se_X_why iz_X in_X_why
theorem gs_L_125 : GoodIn TB (va_wsS "RuleChoiceLaw" 125 my_L_greatest mw_L_greatest) := tb_S ml_L_125 st_L_greatest iz_L in_L_greatest
theorem gv_L_55 : GoodIn TB (wsV "RuleChoiceLaw" 55 "RuleChoice" my_X_greatest mw_X_greatest) := tb_V ml_L_55 im_X_greatest se_X_greatest iz_X in_X_greatest
theorem gs_L_128 : GoodIn TB (va_wsS "RuleChoiceLaw" 128 my_L_close mw_L_close) := tb_S ml_L_128 st_L_close iz_L in_L_close
theorem gv_L_59 : GoodIn TB (wsV "RuleChoiceLaw" 59 "RuleChoice" my_X_close mw_X_close) := tb_V ml_L_59 im_X_close se_X_close iz_X in_X_close
theorem gv_X_184 : GoodIn TB (wsV "RuleChoice" 184 "RuleChoice$Pairs" my_P_clear mw_P_clear) := tb_V ml_X_184 im_P_clear se_P_clear iz_P in_P_clear
theorem gv_X_187 : GoodIn TB (wsV "RuleChoice" 187 "RuleChoice" my_X_areTooNear mw_X_areTooNear) := tb_V ml_X_187 im_X_areTooNear se_X_areTooNear iz_X in_X_areTooNear
theorem gv_X_191 : GoodIn TB (wsV "RuleChoice" 191 "RuleChoice$Pairs" my_P_add mw_P_add) := tb_V ml_X_191 im_P_add se_P_add iz_P in_P_add
theorem gs_L_132 : GoodIn TB (va_wsS "RuleChoiceLaw" 132 my_L_pair mw_L_pair) := tb_S ml_L_132 st_L_pair iz_L in_L_pair
theorem gv_L_63 : GoodIn TB (wsV "RuleChoiceLaw" 63 "RuleChoice" my_X_pair mw_X_pair) := tb_V ml_L_63 im_X_pair se_X_pair iz_X in_X_pair
theorem gv_X_197 : GoodIn TB (wsV "RuleChoice" 197 "RuleChoice" my_X_needSide mw_X_needSide) := tb_V ml_X_197 im_X_needSide se_X_needSide iz_X in_X_needSide
theorem gv_L_85 : GoodIn TB (wsV "RuleChoiceLaw" 85 "RuleChoiceModel" my_M_thrown mw_M_thrown) := tb_V ml_L_85 im_M_thrown se_M_thrown iz_M in_M_thrown
theorem gv_L_84 : GoodIn TB (wsV "RuleChoiceLaw" 84 "RuleChoiceModel" my_M_rule mw_M_rule) := tb_V ml_L_84 im_M_rule se_M_rule iz_M in_M_rule
theorem gs_M_74 : GoodIn TB (va_wsS "RuleChoiceModel" 74 my_M_isKind mw_M_isKind) := tb_S ml_M_74 st_M_isKind iz_M in_M_isKind
theorem gv_M_78 : GoodIn TB (wsV "RuleChoiceModel" 78 "RuleChoiceModel" my_M_isClass mw_M_isClass) := tb_V ml_M_78 im_M_isClass se_M_isClass iz_M in_M_isClass
theorem gs_M_81 : GoodIn TB (va_wsS "RuleChoiceModel" 81 my_M_isLayer mw_M_isLayer) := tb_S ml_M_81 st_M_isLayer iz_M in_M_isLayer
theorem gv_M_84 : GoodIn TB (wsV "RuleChoiceModel" 84 "RuleChoiceModel" my_M_dropKind mw_M_dropKind) := tb_V ml_M_84 im_M_dropKind se_M_dropKind iz_M in_M_dropKind
theorem gv_L_92 : GoodIn TB (wsV "RuleChoiceLaw" 92 "RuleChoiceModel" my_M_rank mw_M_rank) := tb_V ml_L_92 im_M_rank se_M_rank iz_M in_M_rank
theorem gv_M_88 : GoodIn TB (wsV "RuleChoiceModel" 88 "RuleChoiceModel" my_M_isRule mw_M_isRule) := tb_V ml_M_88 im_M_isRule se_M_isRule iz_M in_M_isRule
theorem gv_L_96 : GoodIn TB (wsV "RuleChoiceLaw" 96 "RuleChoiceModel" my_M_area mw_M_area) := tb_V ml_L_96 im_M_area se_M_area iz_M in_M_area
theorem gs_M_91 : GoodIn TB (va_wsS "RuleChoiceModel" 91 my_M_isPlace mw_M_isPlace) := tb_S ml_M_91 st_M_isPlace iz_M in_M_isPlace
theorem gv_L_99 : GoodIn TB (wsV "RuleChoiceLaw" 99 "RuleChoiceModel" my_M_inArea mw_M_inArea) := tb_V ml_L_99 im_M_inArea se_M_inArea iz_M in_M_inArea
theorem gv_L_103 : GoodIn TB (wsV "RuleChoiceLaw" 103 "RuleChoiceModel" my_M_thing mw_M_thing) := tb_V ml_L_103 im_M_thing se_M_thing iz_M in_M_thing
theorem gv_L_107 : GoodIn TB (wsV "RuleChoiceLaw" 107 "RuleChoiceModel" my_M_make mw_M_make) := tb_V ml_L_107 im_M_make se_M_make iz_M in_M_make
theorem gv_M_98 : GoodIn TB (wsV "RuleChoiceModel" 98 "RuleChoiceModel" my_M_isThing mw_M_isThing) := tb_V ml_M_98 im_M_isThing se_M_isThing iz_M in_M_isThing
theorem gv_M_101 : GoodIn TB (wsV "RuleChoiceModel" 101 "RuleChoiceModel" my_M_dropThing mw_M_dropThing) := tb_V ml_M_101 im_M_dropThing se_M_dropThing iz_M in_M_dropThing
theorem gv_L_111 : GoodIn TB (wsV "RuleChoiceLaw" 111 "RuleChoiceModel" my_M_move mw_M_move) := tb_V ml_L_111 im_M_move se_M_move iz_M in_M_move
theorem gv_M_108 : GoodIn TB (wsV "RuleChoiceModel" 108 "RuleChoiceModel" my_M_areasOf mw_M_areasOf) := tb_V ml_M_108 im_M_areasOf se_M_areasOf iz_M in_M_areasOf
theorem gv_M_104 : GoodIn TB (wsV "RuleChoiceModel" 104 "RuleChoiceModel" my_M_lies mw_M_lies) := tb_V ml_M_104 im_M_lies se_M_lies iz_M in_M_lies
theorem gv_L_114 : GoodIn TB (wsV "RuleChoiceLaw" 114 "RuleChoiceModel" my_M_winner mw_M_winner) := tb_V ml_L_114 im_M_winner se_M_winner iz_M in_M_winner
theorem gv_M_136 : GoodIn TB (wsV "RuleChoiceModel" 136 "RuleChoiceModel" my_M_isAsked mw_M_isAsked) := tb_V ml_M_136 im_M_isAsked se_M_isAsked iz_M in_M_isAsked
theorem gv_M_139 : GoodIn TB (wsV "RuleChoiceModel" 139 "RuleChoiceModel" my_M_keep mw_M_keep) := tb_V ml_M_139 im_M_keep se_M_keep iz_M in_M_keep
theorem gv_M_143 : GoodIn TB (wsV "RuleChoiceModel" 143 "RuleChoiceModel" my_M_best mw_M_best) := tb_V ml_M_143 im_M_best se_M_best iz_M in_M_best
theorem gv_M_125 : GoodIn TB (wsV "RuleChoiceModel" 125 "RuleChoiceModel" my_M_matches mw_M_matches) := tb_V ml_M_125 im_M_matches se_M_matches iz_M in_M_matches
theorem gv_M_115 : GoodIn TB (wsV "RuleChoiceModel" 115 "RuleChoiceModel" my_M_haveClasses mw_M_haveClasses) := tb_V ml_M_115 im_M_haveClasses se_M_haveClasses iz_M in_M_haveClasses
theorem gs_M_112 : GoodIn TB (va_wsS "RuleChoiceModel" 112 my_M_isOf mw_M_isOf) := tb_S ml_M_112 st_M_isOf iz_M in_M_isOf
theorem gv_M_119 : GoodIn TB (wsV "RuleChoiceModel" 119 "RuleChoiceModel" my_M_haveLayer mw_M_haveLayer) := tb_V ml_M_119 im_M_haveLayer se_M_haveLayer iz_M in_M_haveLayer
theorem gv_M_122 : GoodIn TB (wsV "RuleChoiceModel" 122 "RuleChoiceModel" my_M_lieWithin mw_M_lieWithin) := tb_V ml_M_122 im_M_lieWithin se_M_lieWithin iz_M in_M_lieWithin
theorem gv_M_129 : GoodIn TB (wsV "RuleChoiceModel" 129 "RuleChoiceModel" my_M_isAhead mw_M_isAhead) := tb_V ml_M_129 im_M_isAhead se_M_isAhead iz_M in_M_isAhead
theorem gv_L_117 : GoodIn TB (wsV "RuleChoiceLaw" 117 "RuleChoiceModel" my_M_value mw_M_value) := tb_V ml_L_117 im_M_value se_M_value iz_M in_M_value
theorem gv_L_121 : GoodIn TB (wsV "RuleChoiceLaw" 121 "RuleChoiceModel" my_M_listed mw_M_listed) := tb_V ml_L_121 im_M_listed se_M_listed iz_M in_M_listed
theorem gv_L_124 : GoodIn TB (wsV "RuleChoiceLaw" 124 "RuleChoiceModel" my_M_why mw_M_why) := tb_V ml_L_124 im_M_why se_M_why iz_M in_M_why
theorem gv_L_127 : GoodIn TB (wsV "RuleChoiceLaw" 127 "RuleChoiceModel" my_M_greatest mw_M_greatest) := tb_V ml_L_127 im_M_greatest se_M_greatest iz_M in_M_greatest
theorem gv_L_131 : GoodIn TB (wsV "RuleChoiceLaw" 131 "RuleChoiceModel" my_M_close mw_M_close) := tb_V ml_L_131 im_M_close se_M_close iz_M in_M_close
theorem gv_M_152 : GoodIn TB (wsV "RuleChoiceModel" 152 "RuleChoiceModel" my_M_isClose mw_M_isClose) := tb_V ml_M_152 im_M_isClose se_M_isClose iz_M in_M_isClose
theorem gv_L_134 : GoodIn TB (wsV "RuleChoiceLaw" 134 "RuleChoiceModel" my_M_pair mw_M_pair) := tb_V ml_L_134 im_M_pair se_M_pair iz_M in_M_pair
theorem gv_L_138 : GoodIn TB (wsV "RuleChoiceLaw" 138 "RuleChoiceModel" my_M_kept mw_M_kept) := tb_V ml_L_138 im_M_kept se_M_kept iz_M in_M_kept
theorem gv_L_143 : GoodIn TB (wsV "RuleChoiceLaw" 143 "RuleChoiceModel" my_M_spared mw_M_spared) := tb_V ml_L_143 im_M_spared se_M_spared iz_M in_M_spared
end
section
theorem d_X_init_0 : decode mb_X_init 0 = .ok (.aload_n 0, 1) := by decide +kernel
theorem d_X_init_1 : decode mb_X_init 1 = .ok (.invokespecial 1, 3) := by decide +kernel
theorem d_X_init_4 : decode mb_X_init 4 = .ok (.aload_n 0, 1) := by decide +kernel
theorem d_X_init_5 : decode mb_X_init 5 = .ok (.iconst 1, 1) := by decide +kernel
theorem d_X_init_6 : decode mb_X_init 6 = .ok (.bipush 16, 2) := by decide +kernel
theorem d_X_init_8 : decode mb_X_init 8 = .ok (.iload_n 1, 1) := by decide +kernel
theorem d_X_init_9 : decode mb_X_init 9 = .ok (.invokestatic 9, 3) := by decide +kernel
theorem d_X_init_12 : decode mb_X_init 12 = .ok (.invokestatic 15, 3) := by decide +kernel
theorem d_X_init_15 : decode mb_X_init 15 = .ok (.putfield 18, 3) := by decide +kernel
theorem d_X_init_18 : decode mb_X_init 18 = .ok (.aload_n 0, 1) := by decide +kernel
theorem d_X_init_19 : decode mb_X_init 19 = .ok (.bipush 40, 2) := by decide +kernel
theorem d_X_init_21 : decode mb_X_init 21 = .ok (.anewarray 22, 3) := by decide +kernel
theorem d_X_init_24 : decode mb_X_init 24 = .ok (.putfield 24, 3) := by decide +kernel
theorem d_X_init_27 : decode mb_X_init 27 = .ok (.iconst 0, 1) := by decide +kernel
theorem d_X_init_28 : decode mb_X_init 28 = .ok (.istore_n 2, 1) := by decide +kernel
theorem d_X_init_29 : decode mb_X_init 29 = .ok (.iload_n 2, 1) := by decide +kernel
theorem d_X_init_30 : decode mb_X_init 30 = .ok (.bipush 40, 2) := by decide +kernel
theorem d_X_init_32 : decode mb_X_init 32 = .ok (.if_icmp .ge 22, 3) := by decide +kernel
theorem d_X_init_35 : decode mb_X_init 35 = .ok (.aload_n 0, 1) := by decide +kernel
theorem d_X_init_36 : decode mb_X_init 36 = .ok (.getfield 24, 3) := by decide +kernel
theorem d_X_init_39 : decode mb_X_init 39 = .ok (.iload_n 2, 1) := by decide +kernel
theorem d_X_init_40 : decode mb_X_init 40 = .ok (.new 22, 3) := by decide +kernel
theorem d_X_init_43 : decode mb_X_init 43 = .ok (.dup, 1) := by decide +kernel
theorem d_X_init_44 : decode mb_X_init 44 = .ok (.invokespecial 28, 3) := by decide +kernel
theorem d_X_init_47 : decode mb_X_init 47 = .ok (.aastore, 1) := by decide +kernel
theorem d_X_init_48 : decode mb_X_init 48 = .ok (.iinc 2 1, 3) := by decide +kernel
theorem d_X_init_51 : decode mb_X_init 51 = .ok (.goto (-22), 3) := by decide +kernel
theorem d_X_init_54 : decode mb_X_init 54 = .ok (.aload_n 0, 1) := by decide +kernel
theorem d_X_init_55 : decode mb_X_init 55 = .ok (.bipush 12, 2) := by decide +kernel
theorem d_X_init_57 : decode mb_X_init 57 = .ok (.anewarray 29, 3) := by decide +kernel
theorem d_X_init_60 : decode mb_X_init 60 = .ok (.putfield 31, 3) := by decide +kernel
theorem d_X_init_63 : decode mb_X_init 63 = .ok (.iconst 0, 1) := by decide +kernel
theorem d_X_init_64 : decode mb_X_init 64 = .ok (.istore_n 2, 1) := by decide +kernel
theorem d_X_init_65 : decode mb_X_init 65 = .ok (.iload_n 2, 1) := by decide +kernel
theorem d_X_init_66 : decode mb_X_init 66 = .ok (.bipush 12, 2) := by decide +kernel
theorem d_X_init_68 : decode mb_X_init 68 = .ok (.if_icmp .ge 22, 3) := by decide +kernel
theorem d_X_init_71 : decode mb_X_init 71 = .ok (.aload_n 0, 1) := by decide +kernel
theorem d_X_init_72 : decode mb_X_init 72 = .ok (.getfield 31, 3) := by decide +kernel
theorem d_X_init_75 : decode mb_X_init 75 = .ok (.iload_n 2, 1) := by decide +kernel
theorem d_X_init_76 : decode mb_X_init 76 = .ok (.new 29, 3) := by decide +kernel
theorem d_X_init_79 : decode mb_X_init 79 = .ok (.dup, 1) := by decide +kernel
theorem d_X_init_80 : decode mb_X_init 80 = .ok (.invokespecial 35, 3) := by decide +kernel
theorem d_X_init_83 : decode mb_X_init 83 = .ok (.aastore, 1) := by decide +kernel
theorem d_X_init_84 : decode mb_X_init 84 = .ok (.iinc 2 1, 3) := by decide +kernel
theorem d_X_init_87 : decode mb_X_init 87 = .ok (.goto (-22), 3) := by decide +kernel
theorem d_X_init_90 : decode mb_X_init 90 = .ok (.aload_n 0, 1) := by decide +kernel
theorem d_X_init_91 : decode mb_X_init 91 = .ok (.bipush 40, 2) := by decide +kernel
theorem d_X_init_93 : decode mb_X_init 93 = .ok (.anewarray 36, 3) := by decide +kernel
theorem d_X_init_96 : decode mb_X_init 96 = .ok (.putfield 38, 3) := by decide +kernel
theorem d_X_init_99 : decode mb_X_init 99 = .ok (.iconst 0, 1) := by decide +kernel
theorem d_X_init_100 : decode mb_X_init 100 = .ok (.istore_n 2, 1) := by decide +kernel
theorem d_X_init_101 : decode mb_X_init 101 = .ok (.iload_n 2, 1) := by decide +kernel
theorem d_X_init_102 : decode mb_X_init 102 = .ok (.bipush 40, 2) := by decide +kernel
theorem d_X_init_104 : decode mb_X_init 104 = .ok (.if_icmp .ge 22, 3) := by decide +kernel
theorem d_X_init_107 : decode mb_X_init 107 = .ok (.aload_n 0, 1) := by decide +kernel
theorem d_X_init_108 : decode mb_X_init 108 = .ok (.getfield 38, 3) := by decide +kernel
theorem d_X_init_111 : decode mb_X_init 111 = .ok (.iload_n 2, 1) := by decide +kernel
theorem d_X_init_112 : decode mb_X_init 112 = .ok (.new 36, 3) := by decide +kernel
theorem d_X_init_115 : decode mb_X_init 115 = .ok (.dup, 1) := by decide +kernel
theorem d_X_init_116 : decode mb_X_init 116 = .ok (.invokespecial 42, 3) := by decide +kernel
theorem d_X_init_119 : decode mb_X_init 119 = .ok (.aastore, 1) := by decide +kernel
theorem d_X_init_120 : decode mb_X_init 120 = .ok (.iinc 2 1, 3) := by decide +kernel
theorem d_X_init_123 : decode mb_X_init 123 = .ok (.goto (-22), 3) := by decide +kernel
theorem d_X_init_126 : decode mb_X_init 126 = .ok (.aload_n 0, 1) := by decide +kernel
theorem d_X_init_127 : decode mb_X_init 127 = .ok (.new 43, 3) := by decide +kernel
theorem d_X_init_130 : decode mb_X_init 130 = .ok (.dup, 1) := by decide +kernel
theorem d_X_init_131 : decode mb_X_init 131 = .ok (.invokespecial 45, 3) := by decide +kernel
theorem d_X_init_134 : decode mb_X_init 134 = .ok (.putfield 46, 3) := by decide +kernel
theorem d_X_init_137 : decode mb_X_init 137 = .ok (.aload_n 0, 1) := by decide +kernel
theorem d_X_init_138 : decode mb_X_init 138 = .ok (.new 50, 3) := by decide +kernel
theorem d_X_init_141 : decode mb_X_init 141 = .ok (.dup, 1) := by decide +kernel
theorem d_X_init_142 : decode mb_X_init 142 = .ok (.invokespecial 52, 3) := by decide +kernel
theorem d_X_init_145 : decode mb_X_init 145 = .ok (.putfield 53, 3) := by decide +kernel
theorem d_X_init_148 : decode mb_X_init 148 = .ok (.return_, 1) := by decide +kernel
theorem d_R_init_0 : decode mb_R_init 0 = .ok (.aload_n 0, 1) := by decide +kernel
theorem d_R_init_1 : decode mb_R_init 1 = .ok (.invokespecial 3, 3) := by decide +kernel
theorem d_R_init_4 : decode mb_R_init 4 = .ok (.aload_n 0, 1) := by decide +kernel
theorem d_R_init_5 : decode mb_R_init 5 = .ok (.iconst (-1), 1) := by decide +kernel
theorem d_R_init_6 : decode mb_R_init 6 = .ok (.putfield 9, 3) := by decide +kernel
theorem d_R_init_9 : decode mb_R_init 9 = .ok (.return_, 1) := by decide +kernel
theorem d_A_init_0 : decode mb_A_init 0 = .ok (.aload_n 0, 1) := by decide +kernel
theorem d_A_init_1 : decode mb_A_init 1 = .ok (.invokespecial 1, 3) := by decide +kernel
theorem d_A_init_4 : decode mb_A_init 4 = .ok (.return_, 1) := by decide +kernel
theorem d_T_init_0 : decode mb_T_init 0 = .ok (.aload_n 0, 1) := by decide +kernel
theorem d_T_init_1 : decode mb_T_init 1 = .ok (.invokespecial 1, 3) := by decide +kernel
theorem d_T_init_4 : decode mb_T_init 4 = .ok (.return_, 1) := by decide +kernel
theorem d_N_init_0 : decode mb_N_init 0 = .ok (.aload_n 0, 1) := by decide +kernel
theorem d_N_init_1 : decode mb_N_init 1 = .ok (.invokespecial 3, 3) := by decide +kernel
theorem d_N_init_4 : decode mb_N_init 4 = .ok (.aload_n 0, 1) := by decide +kernel
theorem d_N_init_5 : decode mb_N_init 5 = .ok (.sipush 4920, 3) := by decide +kernel
theorem d_N_init_8 : decode mb_N_init 8 = .ok (.newarray .int, 2) := by decide +kernel
theorem d_N_init_10 : decode mb_N_init 10 = .ok (.putfield 11, 3) := by decide +kernel
theorem d_N_init_13 : decode mb_N_init 13 = .ok (.return_, 1) := by decide +kernel
theorem d_P_init_0 : decode mb_P_init 0 = .ok (.aload_n 0, 1) := by decide +kernel
theorem d_P_init_1 : decode mb_P_init 1 = .ok (.invokespecial 3, 3) := by decide +kernel
theorem d_P_init_4 : decode mb_P_init 4 = .ok (.aload_n 0, 1) := by decide +kernel
theorem d_P_init_5 : decode mb_P_init 5 = .ok (.sipush 780, 3) := by decide +kernel
theorem d_P_init_8 : decode mb_P_init 8 = .ok (.newarray .int, 2) := by decide +kernel
theorem d_P_init_10 : decode mb_P_init 10 = .ok (.putfield 11, 3) := by decide +kernel
theorem d_P_init_13 : decode mb_P_init 13 = .ok (.aload_n 0, 1) := by decide +kernel
theorem d_P_init_14 : decode mb_P_init 14 = .ok (.sipush 780, 3) := by decide +kernel
theorem d_P_init_17 : decode mb_P_init 17 = .ok (.newarray .int, 2) := by decide +kernel
theorem d_P_init_19 : decode mb_P_init 19 = .ok (.putfield 15, 3) := by decide +kernel
theorem d_P_init_22 : decode mb_P_init 22 = .ok (.return_, 1) := by decide +kernel
theorem d_X_kept_0 : decode mb_X_kept 0 = .ok (.aload_n 0, 1) := by decide +kernel
theorem d_X_kept_1 : decode mb_X_kept 1 = .ok (.getfield 46, 3) := by decide +kernel
theorem d_X_kept_4 : decode mb_X_kept 4 = .ok (.getfield 207, 3) := by decide +kernel
theorem d_X_kept_7 : decode mb_X_kept 7 = .ok (.ireturn, 1) := by decide +kernel
theorem d_X_spared_0 : decode mb_X_spared 0 = .ok (.aload_n 0, 1) := by decide +kernel
theorem d_X_spared_1 : decode mb_X_spared 1 = .ok (.getfield 208, 3) := by decide +kernel
theorem d_X_spared_4 : decode mb_X_spared 4 = .ok (.lreturn, 1) := by decide +kernel
theorem d_X_rule_0 : decode mb_X_rule 0 = .ok (.aload_n 0, 1) := by decide +kernel
theorem d_X_rule_1 : decode mb_X_rule 1 = .ok (.iload_n 1, 1) := by decide +kernel
theorem d_X_rule_2 : decode mb_X_rule 2 = .ok (.invokevirtual 57, 3) := by decide +kernel
theorem d_X_rule_5 : decode mb_X_rule 5 = .ok (.aload_n 0, 1) := by decide +kernel
theorem d_X_rule_6 : decode mb_X_rule 6 = .ok (.iload_n 2, 1) := by decide +kernel
theorem d_X_rule_7 : decode mb_X_rule 7 = .ok (.invokevirtual 61, 3) := by decide +kernel
theorem d_X_rule_10 : decode mb_X_rule 10 = .ok (.aload_n 0, 1) := by decide +kernel
theorem d_X_rule_11 : decode mb_X_rule 11 = .ok (.iload_n 3, 1) := by decide +kernel
theorem d_X_rule_12 : decode mb_X_rule 12 = .ok (.invokevirtual 61, 3) := by decide +kernel
theorem d_X_rule_15 : decode mb_X_rule 15 = .ok (.aload_n 0, 1) := by decide +kernel
theorem d_X_rule_16 : decode mb_X_rule 16 = .ok (.iload 4, 2) := by decide +kernel
theorem d_X_rule_18 : decode mb_X_rule 18 = .ok (.invokevirtual 64, 3) := by decide +kernel
theorem d_X_rule_21 : decode mb_X_rule 21 = .ok (.aload_n 0, 1) := by decide +kernel
theorem d_X_rule_22 : decode mb_X_rule 22 = .ok (.lload 5, 2) := by decide +kernel
theorem d_X_rule_24 : decode mb_X_rule 24 = .ok (.invokevirtual 67, 3) := by decide +kernel
theorem d_X_rule_27 : decode mb_X_rule 27 = .ok (.aload_n 0, 1) := by decide +kernel
theorem d_X_rule_28 : decode mb_X_rule 28 = .ok (.getfield 71, 3) := by decide +kernel
theorem d_X_rule_31 : decode mb_X_rule 31 = .ok (.bipush 40, 2) := by decide +kernel
theorem d_X_rule_33 : decode mb_X_rule 33 = .ok (.if_icmp .lt 5, 3) := by decide +kernel
theorem d_X_rule_36 : decode mb_X_rule 36 = .ok (.iconst (-1), 1) := by decide +kernel
theorem d_X_rule_37 : decode mb_X_rule 37 = .ok (.ireturn, 1) := by decide +kernel
theorem d_X_rule_38 : decode mb_X_rule 38 = .ok (.aload_n 0, 1) := by decide +kernel
theorem d_X_rule_39 : decode mb_X_rule 39 = .ok (.getfield 24, 3) := by decide +kernel
theorem d_X_rule_42 : decode mb_X_rule 42 = .ok (.aload_n 0, 1) := by decide +kernel
theorem d_X_rule_43 : decode mb_X_rule 43 = .ok (.getfield 71, 3) := by decide +kernel
theorem d_X_rule_46 : decode mb_X_rule 46 = .ok (.aaload, 1) := by decide +kernel
theorem d_X_rule_47 : decode mb_X_rule 47 = .ok (.iload_n 1, 1) := by decide +kernel
theorem d_X_rule_48 : decode mb_X_rule 48 = .ok (.iload_n 2, 1) := by decide +kernel
theorem d_X_rule_49 : decode mb_X_rule 49 = .ok (.iload_n 3, 1) := by decide +kernel
theorem d_X_rule_50 : decode mb_X_rule 50 = .ok (.iload 4, 2) := by decide +kernel
theorem d_X_rule_52 : decode mb_X_rule 52 = .ok (.lload 5, 2) := by decide +kernel
theorem d_X_rule_54 : decode mb_X_rule 54 = .ok (.invokevirtual 74, 3) := by decide +kernel
theorem d_X_rule_57 : decode mb_X_rule 57 = .ok (.aload_n 0, 1) := by decide +kernel
theorem d_X_rule_58 : decode mb_X_rule 58 = .ok (.getfield 46, 3) := by decide +kernel
theorem d_X_rule_61 : decode mb_X_rule 61 = .ok (.iload_n 1, 1) := by decide +kernel
theorem d_X_rule_62 : decode mb_X_rule 62 = .ok (.invokevirtual 78, 3) := by decide +kernel
theorem d_X_rule_65 : decode mb_X_rule 65 = .ok (.aload_n 0, 1) := by decide +kernel
theorem d_X_rule_66 : decode mb_X_rule 66 = .ok (.dup, 1) := by decide +kernel
theorem d_X_rule_67 : decode mb_X_rule 67 = .ok (.getfield 71, 3) := by decide +kernel
theorem d_X_rule_70 : decode mb_X_rule 70 = .ok (.dup_x1, 1) := by decide +kernel
theorem d_X_rule_71 : decode mb_X_rule 71 = .ok (.iconst 1, 1) := by decide +kernel
theorem d_X_rule_72 : decode mb_X_rule 72 = .ok (.iadd, 1) := by decide +kernel
theorem d_X_rule_73 : decode mb_X_rule 73 = .ok (.putfield 71, 3) := by decide +kernel
theorem d_X_rule_76 : decode mb_X_rule 76 = .ok (.ireturn, 1) := by decide +kernel
theorem d_X_needKind_0 : decode mb_X_needKind 0 = .ok (.iload_n 1, 1) := by decide +kernel
theorem d_X_needKind_1 : decode mb_X_needKind 1 = .ok (.ifCond .lt 9, 3) := by decide +kernel
theorem d_X_needKind_4 : decode mb_X_needKind 4 = .ok (.iload_n 1, 1) := by decide +kernel
theorem d_X_needKind_5 : decode mb_X_needKind 5 = .ok (.bipush 6, 2) := by decide +kernel
theorem d_X_needKind_7 : decode mb_X_needKind 7 = .ok (.if_icmp .lt 13, 3) := by decide +kernel
theorem d_X_needKind_10 : decode mb_X_needKind 10 = .ok (.new 233, 3) := by decide +kernel
theorem d_X_needKind_13 : decode mb_X_needKind 13 = .ok (.dup, 1) := by decide +kernel
theorem d_X_needKind_14 : decode mb_X_needKind 14 = .ok (.ldc 235, 2) := by decide +kernel
theorem d_X_needKind_16 : decode mb_X_needKind 16 = .ok (.invokespecial 237, 3) := by decide +kernel
theorem d_X_needKind_19 : decode mb_X_needKind 19 = .ok (.athrow, 1) := by decide +kernel
theorem d_X_needKind_20 : decode mb_X_needKind 20 = .ok (.return_, 1) := by decide +kernel
theorem d_X_needClassOrNone_0 : decode mb_X_needClassOrNone 0 = .ok (.iload_n 1, 1) := by decide +kernel
theorem d_X_needClassOrNone_1 : decode mb_X_needClassOrNone 1 = .ok (.iconst (-1), 1) := by decide +kernel
theorem d_X_needClassOrNone_2 : decode mb_X_needClassOrNone 2 = .ok (.if_icmp .eq 8, 3) := by decide +kernel
theorem d_X_needClassOrNone_5 : decode mb_X_needClassOrNone 5 = .ok (.aload_n 0, 1) := by decide +kernel
theorem d_X_needClassOrNone_6 : decode mb_X_needClassOrNone 6 = .ok (.iload_n 1, 1) := by decide +kernel
theorem d_X_needClassOrNone_7 : decode mb_X_needClassOrNone 7 = .ok (.invokevirtual 113, 3) := by decide +kernel
theorem d_X_needClassOrNone_10 : decode mb_X_needClassOrNone 10 = .ok (.return_, 1) := by decide +kernel
theorem d_X_needClass_0 : decode mb_X_needClass 0 = .ok (.iload_n 1, 1) := by decide +kernel
theorem d_X_needClass_1 : decode mb_X_needClass 1 = .ok (.ifCond .lt 11, 3) := by decide +kernel
theorem d_X_needClass_4 : decode mb_X_needClass 4 = .ok (.iload_n 1, 1) := by decide +kernel
theorem d_X_needClass_5 : decode mb_X_needClass 5 = .ok (.aload_n 0, 1) := by decide +kernel
theorem d_X_needClass_6 : decode mb_X_needClass 6 = .ok (.getfield 18, 3) := by decide +kernel
theorem d_X_needClass_9 : decode mb_X_needClass 9 = .ok (.if_icmp .lt 13, 3) := by decide +kernel
theorem d_X_needClass_12 : decode mb_X_needClass 12 = .ok (.new 233, 3) := by decide +kernel
theorem d_X_needClass_15 : decode mb_X_needClass 15 = .ok (.dup, 1) := by decide +kernel
theorem d_X_needClass_16 : decode mb_X_needClass 16 = .ok (.ldc 240, 2) := by decide +kernel
theorem d_X_needClass_18 : decode mb_X_needClass 18 = .ok (.invokespecial 237, 3) := by decide +kernel
theorem d_X_needClass_21 : decode mb_X_needClass 21 = .ok (.athrow, 1) := by decide +kernel
theorem d_X_needClass_22 : decode mb_X_needClass 22 = .ok (.return_, 1) := by decide +kernel
theorem d_X_needLayerOrNone_0 : decode mb_X_needLayerOrNone 0 = .ok (.iload_n 1, 1) := by decide +kernel
theorem d_X_needLayerOrNone_1 : decode mb_X_needLayerOrNone 1 = .ok (.iconst (-1), 1) := by decide +kernel
theorem d_X_needLayerOrNone_2 : decode mb_X_needLayerOrNone 2 = .ok (.if_icmp .eq 8, 3) := by decide +kernel
theorem d_X_needLayerOrNone_5 : decode mb_X_needLayerOrNone 5 = .ok (.aload_n 0, 1) := by decide +kernel
theorem d_X_needLayerOrNone_6 : decode mb_X_needLayerOrNone 6 = .ok (.iload_n 1, 1) := by decide +kernel
theorem d_X_needLayerOrNone_7 : decode mb_X_needLayerOrNone 7 = .ok (.invokevirtual 116, 3) := by decide +kernel
theorem d_X_needLayerOrNone_10 : decode mb_X_needLayerOrNone 10 = .ok (.return_, 1) := by decide +kernel
theorem d_X_needLayer_0 : decode mb_X_needLayer 0 = .ok (.iload_n 1, 1) := by decide +kernel
theorem d_X_needLayer_1 : decode mb_X_needLayer 1 = .ok (.ifCond .lt 9, 3) := by decide +kernel
theorem d_X_needLayer_4 : decode mb_X_needLayer 4 = .ok (.iload_n 1, 1) := by decide +kernel
theorem d_X_needLayer_5 : decode mb_X_needLayer 5 = .ok (.bipush 8, 2) := by decide +kernel
theorem d_X_needLayer_7 : decode mb_X_needLayer 7 = .ok (.if_icmp .lt 13, 3) := by decide +kernel
theorem d_X_needLayer_10 : decode mb_X_needLayer 10 = .ok (.new 233, 3) := by decide +kernel
theorem d_X_needLayer_13 : decode mb_X_needLayer 13 = .ok (.dup, 1) := by decide +kernel
theorem d_X_needLayer_14 : decode mb_X_needLayer 14 = .ok (.ldc 242, 2) := by decide +kernel
theorem d_X_needLayer_16 : decode mb_X_needLayer 16 = .ok (.invokespecial 237, 3) := by decide +kernel
theorem d_X_needLayer_19 : decode mb_X_needLayer 19 = .ok (.athrow, 1) := by decide +kernel
theorem d_X_needLayer_20 : decode mb_X_needLayer 20 = .ok (.return_, 1) := by decide +kernel
theorem d_X_needValue_0 : decode mb_X_needValue 0 = .ok (.lload_n 1, 1) := by decide +kernel
theorem d_X_needValue_1 : decode mb_X_needValue 1 = .ok (.lconst 0, 1) := by decide +kernel
theorem d_X_needValue_2 : decode mb_X_needValue 2 = .ok (.lcmp, 1) := by decide +kernel
theorem d_X_needValue_3 : decode mb_X_needValue 3 = .ok (.ifCond .lt 11, 3) := by decide +kernel
theorem d_X_needValue_6 : decode mb_X_needValue 6 = .ok (.lload_n 1, 1) := by decide +kernel
theorem d_X_needValue_7 : decode mb_X_needValue 7 = .ok (.ldc2_w 252, 3) := by decide +kernel
theorem d_X_needValue_10 : decode mb_X_needValue 10 = .ok (.lcmp, 1) := by decide +kernel
theorem d_X_needValue_11 : decode mb_X_needValue 11 = .ok (.ifCond .le 14, 3) := by decide +kernel
theorem d_X_needValue_14 : decode mb_X_needValue 14 = .ok (.new 254, 3) := by decide +kernel
theorem d_X_needValue_17 : decode mb_X_needValue 17 = .ok (.dup, 1) := by decide +kernel
theorem d_X_needValue_18 : decode mb_X_needValue 18 = .ok (.ldc_w 256, 3) := by decide +kernel
theorem d_X_needValue_21 : decode mb_X_needValue 21 = .ok (.invokespecial 258, 3) := by decide +kernel
theorem d_X_needValue_24 : decode mb_X_needValue 24 = .ok (.athrow, 1) := by decide +kernel
theorem d_X_needValue_25 : decode mb_X_needValue 25 = .ok (.return_, 1) := by decide +kernel
theorem d_R_tell_0 : decode mb_R_tell 0 = .ok (.aload_n 0, 1) := by decide +kernel
theorem d_R_tell_1 : decode mb_R_tell 1 = .ok (.iload_n 1, 1) := by decide +kernel
theorem d_R_tell_2 : decode mb_R_tell 2 = .ok (.putfield 15, 3) := by decide +kernel
theorem d_R_tell_5 : decode mb_R_tell 5 = .ok (.aload_n 0, 1) := by decide +kernel
theorem d_R_tell_6 : decode mb_R_tell 6 = .ok (.iload_n 2, 1) := by decide +kernel
theorem d_R_tell_7 : decode mb_R_tell 7 = .ok (.putfield 18, 3) := by decide +kernel
theorem d_R_tell_10 : decode mb_R_tell 10 = .ok (.aload_n 0, 1) := by decide +kernel
theorem d_R_tell_11 : decode mb_R_tell 11 = .ok (.iload_n 3, 1) := by decide +kernel
theorem d_R_tell_12 : decode mb_R_tell 12 = .ok (.putfield 21, 3) := by decide +kernel
theorem d_R_tell_15 : decode mb_R_tell 15 = .ok (.aload_n 0, 1) := by decide +kernel
theorem d_R_tell_16 : decode mb_R_tell 16 = .ok (.iload 4, 2) := by decide +kernel
theorem d_R_tell_18 : decode mb_R_tell 18 = .ok (.putfield 24, 3) := by decide +kernel
theorem d_R_tell_21 : decode mb_R_tell 21 = .ok (.aload_n 0, 1) := by decide +kernel
theorem d_R_tell_22 : decode mb_R_tell 22 = .ok (.lload 5, 2) := by decide +kernel
theorem d_R_tell_24 : decode mb_R_tell 24 = .ok (.putfield 27, 3) := by decide +kernel
theorem d_R_tell_27 : decode mb_R_tell 27 = .ok (.return_, 1) := by decide +kernel
theorem d_N_dropKind_0 : decode mb_N_dropKind 0 = .ok (.iload_n 1, 1) := by decide +kernel
theorem d_N_dropKind_1 : decode mb_N_dropKind 1 = .ok (.sipush 820, 3) := by decide +kernel
theorem d_N_dropKind_4 : decode mb_N_dropKind 4 = .ok (.imul, 1) := by decide +kernel
theorem d_N_dropKind_5 : decode mb_N_dropKind 5 = .ok (.istore_n 2, 1) := by decide +kernel
theorem d_N_dropKind_6 : decode mb_N_dropKind 6 = .ok (.iload_n 2, 1) := by decide +kernel
theorem d_N_dropKind_7 : decode mb_N_dropKind 7 = .ok (.istore_n 3, 1) := by decide +kernel
theorem d_N_dropKind_8 : decode mb_N_dropKind 8 = .ok (.iload_n 3, 1) := by decide +kernel
theorem d_N_dropKind_9 : decode mb_N_dropKind 9 = .ok (.iload_n 2, 1) := by decide +kernel
theorem d_N_dropKind_10 : decode mb_N_dropKind 10 = .ok (.sipush 820, 3) := by decide +kernel
theorem d_N_dropKind_13 : decode mb_N_dropKind 13 = .ok (.iadd, 1) := by decide +kernel
theorem d_N_dropKind_14 : decode mb_N_dropKind 14 = .ok (.if_icmp .ge 14, 3) := by decide +kernel
theorem d_N_dropKind_17 : decode mb_N_dropKind 17 = .ok (.aload_n 0, 1) := by decide +kernel
theorem d_N_dropKind_18 : decode mb_N_dropKind 18 = .ok (.iload_n 3, 1) := by decide +kernel
theorem d_N_dropKind_19 : decode mb_N_dropKind 19 = .ok (.invokevirtual 23, 3) := by decide +kernel
theorem d_N_dropKind_22 : decode mb_N_dropKind 22 = .ok (.iinc 3 1, 3) := by decide +kernel
theorem d_N_dropKind_25 : decode mb_N_dropKind 25 = .ok (.goto (-17), 3) := by decide +kernel
theorem d_N_dropKind_28 : decode mb_N_dropKind 28 = .ok (.return_, 1) := by decide +kernel
theorem d_N_drop_0 : decode mb_N_drop 0 = .ok (.aload_n 0, 1) := by decide +kernel
theorem d_N_drop_1 : decode mb_N_drop 1 = .ok (.getfield 11, 3) := by decide +kernel
theorem d_N_drop_4 : decode mb_N_drop 4 = .ok (.iload_n 1, 1) := by decide +kernel
theorem d_N_drop_5 : decode mb_N_drop 5 = .ok (.iaload, 1) := by decide +kernel
theorem d_N_drop_6 : decode mb_N_drop 6 = .ok (.ifCond .eq 20, 3) := by decide +kernel
theorem d_N_drop_9 : decode mb_N_drop 9 = .ok (.aload_n 0, 1) := by decide +kernel
theorem d_N_drop_10 : decode mb_N_drop 10 = .ok (.getfield 11, 3) := by decide +kernel
theorem d_N_drop_13 : decode mb_N_drop 13 = .ok (.iload_n 1, 1) := by decide +kernel
theorem d_N_drop_14 : decode mb_N_drop 14 = .ok (.iconst 0, 1) := by decide +kernel
theorem d_N_drop_15 : decode mb_N_drop 15 = .ok (.iastore, 1) := by decide +kernel
theorem d_N_drop_16 : decode mb_N_drop 16 = .ok (.aload_n 0, 1) := by decide +kernel
theorem d_N_drop_17 : decode mb_N_drop 17 = .ok (.dup, 1) := by decide +kernel
theorem d_N_drop_18 : decode mb_N_drop 18 = .ok (.getfield 19, 3) := by decide +kernel
theorem d_N_drop_21 : decode mb_N_drop 21 = .ok (.iconst 1, 1) := by decide +kernel
theorem d_N_drop_22 : decode mb_N_drop 22 = .ok (.isub, 1) := by decide +kernel
theorem d_N_drop_23 : decode mb_N_drop 23 = .ok (.putfield 19, 3) := by decide +kernel
theorem d_N_drop_26 : decode mb_N_drop 26 = .ok (.return_, 1) := by decide +kernel
theorem d_X_rank_0 : decode mb_X_rank 0 = .ok (.aload_n 0, 1) := by decide +kernel
theorem d_X_rank_1 : decode mb_X_rank 1 = .ok (.iload_n 1, 1) := by decide +kernel
theorem d_X_rank_2 : decode mb_X_rank 2 = .ok (.invokevirtual 81, 3) := by decide +kernel
theorem d_X_rank_5 : decode mb_X_rank 5 = .ok (.aload_n 0, 1) := by decide +kernel
theorem d_X_rank_6 : decode mb_X_rank 6 = .ok (.iload_n 2, 1) := by decide +kernel
theorem d_X_rank_7 : decode mb_X_rank 7 = .ok (.invokevirtual 84, 3) := by decide +kernel
theorem d_X_rank_10 : decode mb_X_rank 10 = .ok (.aload_n 0, 1) := by decide +kernel
theorem d_X_rank_11 : decode mb_X_rank 11 = .ok (.getfield 24, 3) := by decide +kernel
theorem d_X_rank_14 : decode mb_X_rank 14 = .ok (.iload_n 1, 1) := by decide +kernel
theorem d_X_rank_15 : decode mb_X_rank 15 = .ok (.aaload, 1) := by decide +kernel
theorem d_X_rank_16 : decode mb_X_rank 16 = .ok (.astore_n 3, 1) := by decide +kernel
theorem d_X_rank_17 : decode mb_X_rank 17 = .ok (.aload_n 3, 1) := by decide +kernel
theorem d_X_rank_18 : decode mb_X_rank 18 = .ok (.getfield 87, 3) := by decide +kernel
theorem d_X_rank_21 : decode mb_X_rank 21 = .ok (.iload_n 2, 1) := by decide +kernel
theorem d_X_rank_22 : decode mb_X_rank 22 = .ok (.if_icmp .ne 5, 3) := by decide +kernel
theorem d_X_rank_25 : decode mb_X_rank 25 = .ok (.iconst 0, 1) := by decide +kernel
theorem d_X_rank_26 : decode mb_X_rank 26 = .ok (.ireturn, 1) := by decide +kernel
theorem d_X_rank_27 : decode mb_X_rank 27 = .ok (.aload_n 3, 1) := by decide +kernel
theorem d_X_rank_28 : decode mb_X_rank 28 = .ok (.iload_n 2, 1) := by decide +kernel
theorem d_X_rank_29 : decode mb_X_rank 29 = .ok (.putfield 87, 3) := by decide +kernel
theorem d_X_rank_32 : decode mb_X_rank 32 = .ok (.aload_n 0, 1) := by decide +kernel
theorem d_X_rank_33 : decode mb_X_rank 33 = .ok (.getfield 46, 3) := by decide +kernel
theorem d_X_rank_36 : decode mb_X_rank 36 = .ok (.aload_n 3, 1) := by decide +kernel
theorem d_X_rank_37 : decode mb_X_rank 37 = .ok (.getfield 90, 3) := by decide +kernel
theorem d_X_rank_40 : decode mb_X_rank 40 = .ok (.invokevirtual 78, 3) := by decide +kernel
theorem d_X_rank_43 : decode mb_X_rank 43 = .ok (.iconst 1, 1) := by decide +kernel
theorem d_X_rank_44 : decode mb_X_rank 44 = .ok (.ireturn, 1) := by decide +kernel
theorem d_X_needRule_0 : decode mb_X_needRule 0 = .ok (.iload_n 1, 1) := by decide +kernel
theorem d_X_needRule_1 : decode mb_X_needRule 1 = .ok (.ifCond .lt 11, 3) := by decide +kernel
theorem d_X_needRule_4 : decode mb_X_needRule 4 = .ok (.iload_n 1, 1) := by decide +kernel
theorem d_X_needRule_5 : decode mb_X_needRule 5 = .ok (.aload_n 0, 1) := by decide +kernel
theorem d_X_needRule_6 : decode mb_X_needRule 6 = .ok (.getfield 71, 3) := by decide +kernel
theorem d_X_needRule_9 : decode mb_X_needRule 9 = .ok (.if_icmp .lt 13, 3) := by decide +kernel
theorem d_X_needRule_12 : decode mb_X_needRule 12 = .ok (.new 233, 3) := by decide +kernel
theorem d_X_needRule_15 : decode mb_X_needRule 15 = .ok (.dup, 1) := by decide +kernel
theorem d_X_needRule_16 : decode mb_X_needRule 16 = .ok (.ldc 244, 2) := by decide +kernel
theorem d_X_needRule_18 : decode mb_X_needRule 18 = .ok (.invokespecial 237, 3) := by decide +kernel
theorem d_X_needRule_21 : decode mb_X_needRule 21 = .ok (.athrow, 1) := by decide +kernel
theorem d_X_needRule_22 : decode mb_X_needRule 22 = .ok (.return_, 1) := by decide +kernel
theorem d_X_needRank_0 : decode mb_X_needRank 0 = .ok (.iload_n 1, 1) := by decide +kernel
theorem d_X_needRank_1 : decode mb_X_needRank 1 = .ok (.sipush (-1000), 3) := by decide +kernel
theorem d_X_needRank_4 : decode mb_X_needRank 4 = .ok (.if_icmp .lt 10, 3) := by decide +kernel
theorem d_X_needRank_7 : decode mb_X_needRank 7 = .ok (.iload_n 1, 1) := by decide +kernel
theorem d_X_needRank_8 : decode mb_X_needRank 8 = .ok (.sipush 1000, 3) := by decide +kernel
theorem d_X_needRank_11 : decode mb_X_needRank 11 = .ok (.if_icmp .le 14, 3) := by decide +kernel
theorem d_X_needRank_14 : decode mb_X_needRank 14 = .ok (.new 254, 3) := by decide +kernel
theorem d_X_needRank_17 : decode mb_X_needRank 17 = .ok (.dup, 1) := by decide +kernel
theorem d_X_needRank_18 : decode mb_X_needRank 18 = .ok (.ldc_w 259, 3) := by decide +kernel
theorem d_X_needRank_21 : decode mb_X_needRank 21 = .ok (.invokespecial 258, 3) := by decide +kernel
theorem d_X_needRank_24 : decode mb_X_needRank 24 = .ok (.athrow, 1) := by decide +kernel
theorem d_X_needRank_25 : decode mb_X_needRank 25 = .ok (.return_, 1) := by decide +kernel
theorem d_X_area_0 : decode mb_X_area 0 = .ok (.aload_n 0, 1) := by decide +kernel
theorem d_X_area_1 : decode mb_X_area 1 = .ok (.lload_n 1, 1) := by decide +kernel
theorem d_X_area_2 : decode mb_X_area 2 = .ok (.lload_n 3, 1) := by decide +kernel
theorem d_X_area_3 : decode mb_X_area 3 = .ok (.invokevirtual 93, 3) := by decide +kernel
theorem d_X_area_6 : decode mb_X_area 6 = .ok (.aload_n 0, 1) := by decide +kernel
theorem d_X_area_7 : decode mb_X_area 7 = .ok (.lload 5, 2) := by decide +kernel
theorem d_X_area_9 : decode mb_X_area 9 = .ok (.lload 7, 2) := by decide +kernel
theorem d_X_area_11 : decode mb_X_area 11 = .ok (.invokevirtual 93, 3) := by decide +kernel
theorem d_X_area_14 : decode mb_X_area 14 = .ok (.aload_n 0, 1) := by decide +kernel
theorem d_X_area_15 : decode mb_X_area 15 = .ok (.lload_n 1, 1) := by decide +kernel
theorem d_X_area_16 : decode mb_X_area 16 = .ok (.lload_n 3, 1) := by decide +kernel
theorem d_X_area_17 : decode mb_X_area 17 = .ok (.lload 5, 2) := by decide +kernel
theorem d_X_area_19 : decode mb_X_area 19 = .ok (.lload 7, 2) := by decide +kernel
theorem d_X_area_21 : decode mb_X_area 21 = .ok (.invokevirtual 97, 3) := by decide +kernel
theorem d_X_area_24 : decode mb_X_area 24 = .ok (.aload_n 0, 1) := by decide +kernel
theorem d_X_area_25 : decode mb_X_area 25 = .ok (.getfield 101, 3) := by decide +kernel
theorem d_X_area_28 : decode mb_X_area 28 = .ok (.bipush 12, 2) := by decide +kernel
theorem d_X_area_30 : decode mb_X_area 30 = .ok (.if_icmp .lt 5, 3) := by decide +kernel
theorem d_X_area_33 : decode mb_X_area 33 = .ok (.iconst (-1), 1) := by decide +kernel
theorem d_X_area_34 : decode mb_X_area 34 = .ok (.ireturn, 1) := by decide +kernel
theorem d_X_area_35 : decode mb_X_area 35 = .ok (.aload_n 0, 1) := by decide +kernel
theorem d_X_area_36 : decode mb_X_area 36 = .ok (.getfield 31, 3) := by decide +kernel
theorem d_X_area_39 : decode mb_X_area 39 = .ok (.aload_n 0, 1) := by decide +kernel
theorem d_X_area_40 : decode mb_X_area 40 = .ok (.getfield 101, 3) := by decide +kernel
theorem d_X_area_43 : decode mb_X_area 43 = .ok (.aaload, 1) := by decide +kernel
theorem d_X_area_44 : decode mb_X_area 44 = .ok (.lload_n 1, 1) := by decide +kernel
theorem d_X_area_45 : decode mb_X_area 45 = .ok (.lload_n 3, 1) := by decide +kernel
theorem d_X_area_46 : decode mb_X_area 46 = .ok (.lload 5, 2) := by decide +kernel
theorem d_X_area_48 : decode mb_X_area 48 = .ok (.lload 7, 2) := by decide +kernel
theorem d_X_area_50 : decode mb_X_area 50 = .ok (.invokevirtual 104, 3) := by decide +kernel
theorem d_X_area_53 : decode mb_X_area 53 = .ok (.aload_n 0, 1) := by decide +kernel
theorem d_X_area_54 : decode mb_X_area 54 = .ok (.dup, 1) := by decide +kernel
theorem d_X_area_55 : decode mb_X_area 55 = .ok (.getfield 101, 3) := by decide +kernel
theorem d_X_area_58 : decode mb_X_area 58 = .ok (.dup_x1, 1) := by decide +kernel
theorem d_X_area_59 : decode mb_X_area 59 = .ok (.iconst 1, 1) := by decide +kernel
theorem d_X_area_60 : decode mb_X_area 60 = .ok (.iadd, 1) := by decide +kernel
theorem d_X_area_61 : decode mb_X_area 61 = .ok (.putfield 101, 3) := by decide +kernel
theorem d_X_area_64 : decode mb_X_area 64 = .ok (.ireturn, 1) := by decide +kernel
theorem d_X_needPlace_0 : decode mb_X_needPlace 0 = .ok (.lload_n 1, 1) := by decide +kernel
theorem d_X_needPlace_1 : decode mb_X_needPlace 1 = .ok (.ldc2_w 261, 3) := by decide +kernel
theorem d_X_needPlace_4 : decode mb_X_needPlace 4 = .ok (.lcmp, 1) := by decide +kernel
theorem d_X_needPlace_5 : decode mb_X_needPlace 5 = .ok (.ifCond .lt 27, 3) := by decide +kernel
theorem d_X_needPlace_8 : decode mb_X_needPlace 8 = .ok (.lload_n 1, 1) := by decide +kernel
theorem d_X_needPlace_9 : decode mb_X_needPlace 9 = .ok (.ldc2_w 252, 3) := by decide +kernel
theorem d_X_needPlace_12 : decode mb_X_needPlace 12 = .ok (.lcmp, 1) := by decide +kernel
theorem d_X_needPlace_13 : decode mb_X_needPlace 13 = .ok (.ifCond .gt 19, 3) := by decide +kernel
theorem d_X_needPlace_16 : decode mb_X_needPlace 16 = .ok (.lload_n 3, 1) := by decide +kernel
theorem d_X_needPlace_17 : decode mb_X_needPlace 17 = .ok (.ldc2_w 261, 3) := by decide +kernel
theorem d_X_needPlace_20 : decode mb_X_needPlace 20 = .ok (.lcmp, 1) := by decide +kernel
theorem d_X_needPlace_21 : decode mb_X_needPlace 21 = .ok (.ifCond .lt 11, 3) := by decide +kernel
theorem d_X_needPlace_24 : decode mb_X_needPlace 24 = .ok (.lload_n 3, 1) := by decide +kernel
theorem d_X_needPlace_25 : decode mb_X_needPlace 25 = .ok (.ldc2_w 252, 3) := by decide +kernel
theorem d_X_needPlace_28 : decode mb_X_needPlace 28 = .ok (.lcmp, 1) := by decide +kernel
theorem d_X_needPlace_29 : decode mb_X_needPlace 29 = .ok (.ifCond .le 14, 3) := by decide +kernel
theorem d_X_needPlace_32 : decode mb_X_needPlace 32 = .ok (.new 254, 3) := by decide +kernel
theorem d_X_needPlace_35 : decode mb_X_needPlace 35 = .ok (.dup, 1) := by decide +kernel
theorem d_X_needPlace_36 : decode mb_X_needPlace 36 = .ok (.ldc_w 263, 3) := by decide +kernel
theorem d_X_needPlace_39 : decode mb_X_needPlace 39 = .ok (.invokespecial 258, 3) := by decide +kernel
theorem d_X_needPlace_42 : decode mb_X_needPlace 42 = .ok (.athrow, 1) := by decide +kernel
theorem d_X_needPlace_43 : decode mb_X_needPlace 43 = .ok (.return_, 1) := by decide +kernel
theorem d_X_needUnturned_0 : decode mb_X_needUnturned 0 = .ok (.lload_n 1, 1) := by decide +kernel
theorem d_X_needUnturned_1 : decode mb_X_needUnturned 1 = .ok (.lload 5, 2) := by decide +kernel
theorem d_X_needUnturned_3 : decode mb_X_needUnturned 3 = .ok (.lcmp, 1) := by decide +kernel
theorem d_X_needUnturned_4 : decode mb_X_needUnturned 4 = .ok (.ifCond .gt 10, 3) := by decide +kernel
theorem d_X_needUnturned_7 : decode mb_X_needUnturned 7 = .ok (.lload_n 3, 1) := by decide +kernel
theorem d_X_needUnturned_8 : decode mb_X_needUnturned 8 = .ok (.lload 7, 2) := by decide +kernel
theorem d_X_needUnturned_10 : decode mb_X_needUnturned 10 = .ok (.lcmp, 1) := by decide +kernel
theorem d_X_needUnturned_11 : decode mb_X_needUnturned 11 = .ok (.ifCond .le 14, 3) := by decide +kernel
theorem d_X_needUnturned_14 : decode mb_X_needUnturned 14 = .ok (.new 254, 3) := by decide +kernel
theorem d_X_needUnturned_17 : decode mb_X_needUnturned 17 = .ok (.dup, 1) := by decide +kernel
theorem d_X_needUnturned_18 : decode mb_X_needUnturned 18 = .ok (.ldc_w 265, 3) := by decide +kernel
theorem d_X_needUnturned_21 : decode mb_X_needUnturned 21 = .ok (.invokespecial 258, 3) := by decide +kernel
theorem d_X_needUnturned_24 : decode mb_X_needUnturned 24 = .ok (.athrow, 1) := by decide +kernel
theorem d_X_needUnturned_25 : decode mb_X_needUnturned 25 = .ok (.return_, 1) := by decide +kernel
theorem d_A_span_0 : decode mb_A_span 0 = .ok (.aload_n 0, 1) := by decide +kernel
theorem d_A_span_1 : decode mb_A_span 1 = .ok (.lload_n 1, 1) := by decide +kernel
theorem d_A_span_2 : decode mb_A_span 2 = .ok (.putfield 7, 3) := by decide +kernel
theorem d_A_span_5 : decode mb_A_span 5 = .ok (.aload_n 0, 1) := by decide +kernel
theorem d_A_span_6 : decode mb_A_span 6 = .ok (.lload_n 3, 1) := by decide +kernel
theorem d_A_span_7 : decode mb_A_span 7 = .ok (.putfield 13, 3) := by decide +kernel
theorem d_A_span_10 : decode mb_A_span 10 = .ok (.aload_n 0, 1) := by decide +kernel
theorem d_A_span_11 : decode mb_A_span 11 = .ok (.lload 5, 2) := by decide +kernel
theorem d_A_span_13 : decode mb_A_span 13 = .ok (.putfield 16, 3) := by decide +kernel
theorem d_A_span_16 : decode mb_A_span 16 = .ok (.aload_n 0, 1) := by decide +kernel
theorem d_A_span_17 : decode mb_A_span 17 = .ok (.lload 7, 2) := by decide +kernel
theorem d_A_span_19 : decode mb_A_span 19 = .ok (.putfield 19, 3) := by decide +kernel
theorem d_A_span_22 : decode mb_A_span 22 = .ok (.return_, 1) := by decide +kernel
theorem d_X_inArea_0 : decode mb_X_inArea 0 = .ok (.aload_n 0, 1) := by decide +kernel
theorem d_X_inArea_1 : decode mb_X_inArea 1 = .ok (.iload_n 1, 1) := by decide +kernel
theorem d_X_inArea_2 : decode mb_X_inArea 2 = .ok (.invokevirtual 81, 3) := by decide +kernel
theorem d_X_inArea_5 : decode mb_X_inArea 5 = .ok (.aload_n 0, 1) := by decide +kernel
theorem d_X_inArea_6 : decode mb_X_inArea 6 = .ok (.iload_n 2, 1) := by decide +kernel
theorem d_X_inArea_7 : decode mb_X_inArea 7 = .ok (.invokevirtual 107, 3) := by decide +kernel
theorem d_X_inArea_10 : decode mb_X_inArea 10 = .ok (.aload_n 0, 1) := by decide +kernel
theorem d_X_inArea_11 : decode mb_X_inArea 11 = .ok (.getfield 24, 3) := by decide +kernel
theorem d_X_inArea_14 : decode mb_X_inArea 14 = .ok (.iload_n 1, 1) := by decide +kernel
theorem d_X_inArea_15 : decode mb_X_inArea 15 = .ok (.aaload, 1) := by decide +kernel
theorem d_X_inArea_16 : decode mb_X_inArea 16 = .ok (.astore_n 3, 1) := by decide +kernel
theorem d_X_inArea_17 : decode mb_X_inArea 17 = .ok (.aload_n 3, 1) := by decide +kernel
theorem d_X_inArea_18 : decode mb_X_inArea 18 = .ok (.getfield 110, 3) := by decide +kernel
theorem d_X_inArea_21 : decode mb_X_inArea 21 = .ok (.iload_n 2, 1) := by decide +kernel
theorem d_X_inArea_22 : decode mb_X_inArea 22 = .ok (.if_icmp .ne 5, 3) := by decide +kernel
theorem d_X_inArea_25 : decode mb_X_inArea 25 = .ok (.iconst 0, 1) := by decide +kernel
theorem d_X_inArea_26 : decode mb_X_inArea 26 = .ok (.ireturn, 1) := by decide +kernel
theorem d_X_inArea_27 : decode mb_X_inArea 27 = .ok (.aload_n 3, 1) := by decide +kernel
theorem d_X_inArea_28 : decode mb_X_inArea 28 = .ok (.iload_n 2, 1) := by decide +kernel
theorem d_X_inArea_29 : decode mb_X_inArea 29 = .ok (.putfield 110, 3) := by decide +kernel
theorem d_X_inArea_32 : decode mb_X_inArea 32 = .ok (.aload_n 0, 1) := by decide +kernel
theorem d_X_inArea_33 : decode mb_X_inArea 33 = .ok (.getfield 46, 3) := by decide +kernel
theorem d_X_inArea_36 : decode mb_X_inArea 36 = .ok (.aload_n 3, 1) := by decide +kernel
theorem d_X_inArea_37 : decode mb_X_inArea 37 = .ok (.getfield 90, 3) := by decide +kernel
theorem d_X_inArea_40 : decode mb_X_inArea 40 = .ok (.invokevirtual 78, 3) := by decide +kernel
theorem d_X_inArea_43 : decode mb_X_inArea 43 = .ok (.iconst 1, 1) := by decide +kernel
theorem d_X_inArea_44 : decode mb_X_inArea 44 = .ok (.ireturn, 1) := by decide +kernel
theorem d_X_needAreaOrNone_0 : decode mb_X_needAreaOrNone 0 = .ok (.iload_n 1, 1) := by decide +kernel
theorem d_X_needAreaOrNone_1 : decode mb_X_needAreaOrNone 1 = .ok (.iconst (-1), 1) := by decide +kernel
theorem d_X_needAreaOrNone_2 : decode mb_X_needAreaOrNone 2 = .ok (.if_icmp .eq 25, 3) := by decide +kernel
theorem d_X_needAreaOrNone_5 : decode mb_X_needAreaOrNone 5 = .ok (.iload_n 1, 1) := by decide +kernel
theorem d_X_needAreaOrNone_6 : decode mb_X_needAreaOrNone 6 = .ok (.ifCond .lt 11, 3) := by decide +kernel
theorem d_X_needAreaOrNone_9 : decode mb_X_needAreaOrNone 9 = .ok (.iload_n 1, 1) := by decide +kernel
theorem d_X_needAreaOrNone_10 : decode mb_X_needAreaOrNone 10 = .ok (.aload_n 0, 1) := by decide +kernel
theorem d_X_needAreaOrNone_11 : decode mb_X_needAreaOrNone 11 = .ok (.getfield 101, 3) := by decide +kernel
theorem d_X_needAreaOrNone_14 : decode mb_X_needAreaOrNone 14 = .ok (.if_icmp .lt 13, 3) := by decide +kernel
theorem d_X_needAreaOrNone_17 : decode mb_X_needAreaOrNone 17 = .ok (.new 233, 3) := by decide +kernel
theorem d_X_needAreaOrNone_20 : decode mb_X_needAreaOrNone 20 = .ok (.dup, 1) := by decide +kernel
theorem d_X_needAreaOrNone_21 : decode mb_X_needAreaOrNone 21 = .ok (.ldc 246, 2) := by decide +kernel
theorem d_X_needAreaOrNone_23 : decode mb_X_needAreaOrNone 23 = .ok (.invokespecial 237, 3) := by decide +kernel
theorem d_X_needAreaOrNone_26 : decode mb_X_needAreaOrNone 26 = .ok (.athrow, 1) := by decide +kernel
theorem d_X_needAreaOrNone_27 : decode mb_X_needAreaOrNone 27 = .ok (.return_, 1) := by decide +kernel
theorem d_X_thing_0 : decode mb_X_thing 0 = .ok (.aload_n 0, 1) := by decide +kernel
theorem d_X_thing_1 : decode mb_X_thing 1 = .ok (.iload_n 1, 1) := by decide +kernel
theorem d_X_thing_2 : decode mb_X_thing 2 = .ok (.invokevirtual 113, 3) := by decide +kernel
theorem d_X_thing_5 : decode mb_X_thing 5 = .ok (.aload_n 0, 1) := by decide +kernel
theorem d_X_thing_6 : decode mb_X_thing 6 = .ok (.iload_n 2, 1) := by decide +kernel
theorem d_X_thing_7 : decode mb_X_thing 7 = .ok (.invokevirtual 116, 3) := by decide +kernel
theorem d_X_thing_10 : decode mb_X_thing 10 = .ok (.aload_n 0, 1) := by decide +kernel
theorem d_X_thing_11 : decode mb_X_thing 11 = .ok (.lload_n 3, 1) := by decide +kernel
theorem d_X_thing_12 : decode mb_X_thing 12 = .ok (.lload 5, 2) := by decide +kernel
theorem d_X_thing_14 : decode mb_X_thing 14 = .ok (.invokevirtual 93, 3) := by decide +kernel
theorem d_X_thing_17 : decode mb_X_thing 17 = .ok (.aload_n 0, 1) := by decide +kernel
theorem d_X_thing_18 : decode mb_X_thing 18 = .ok (.getfield 119, 3) := by decide +kernel
theorem d_X_thing_21 : decode mb_X_thing 21 = .ok (.bipush 40, 2) := by decide +kernel
theorem d_X_thing_23 : decode mb_X_thing 23 = .ok (.if_icmp .lt 5, 3) := by decide +kernel
theorem d_X_thing_26 : decode mb_X_thing 26 = .ok (.iconst (-1), 1) := by decide +kernel
theorem d_X_thing_27 : decode mb_X_thing 27 = .ok (.ireturn, 1) := by decide +kernel
theorem d_X_thing_28 : decode mb_X_thing 28 = .ok (.aload_n 0, 1) := by decide +kernel
theorem d_X_thing_29 : decode mb_X_thing 29 = .ok (.getfield 38, 3) := by decide +kernel
theorem d_X_thing_32 : decode mb_X_thing 32 = .ok (.aload_n 0, 1) := by decide +kernel
theorem d_X_thing_33 : decode mb_X_thing 33 = .ok (.getfield 119, 3) := by decide +kernel
theorem d_X_thing_36 : decode mb_X_thing 36 = .ok (.aaload, 1) := by decide +kernel
theorem d_X_thing_37 : decode mb_X_thing 37 = .ok (.astore 7, 2) := by decide +kernel
theorem d_X_thing_39 : decode mb_X_thing 39 = .ok (.aload 7, 2) := by decide +kernel
theorem d_X_thing_41 : decode mb_X_thing 41 = .ok (.iload_n 1, 1) := by decide +kernel
theorem d_X_thing_42 : decode mb_X_thing 42 = .ok (.iload_n 2, 1) := by decide +kernel
theorem d_X_thing_43 : decode mb_X_thing 43 = .ok (.invokevirtual 122, 3) := by decide +kernel
theorem d_X_thing_46 : decode mb_X_thing 46 = .ok (.aload 7, 2) := by decide +kernel
theorem d_X_thing_48 : decode mb_X_thing 48 = .ok (.lload_n 3, 1) := by decide +kernel
theorem d_X_thing_49 : decode mb_X_thing 49 = .ok (.lload 5, 2) := by decide +kernel
theorem d_X_thing_51 : decode mb_X_thing 51 = .ok (.invokevirtual 126, 3) := by decide +kernel
theorem d_X_thing_54 : decode mb_X_thing 54 = .ok (.aload_n 0, 1) := by decide +kernel
theorem d_X_thing_55 : decode mb_X_thing 55 = .ok (.dup, 1) := by decide +kernel
theorem d_X_thing_56 : decode mb_X_thing 56 = .ok (.getfield 119, 3) := by decide +kernel
theorem d_X_thing_59 : decode mb_X_thing 59 = .ok (.dup_x1, 1) := by decide +kernel
theorem d_X_thing_60 : decode mb_X_thing 60 = .ok (.iconst 1, 1) := by decide +kernel
theorem d_X_thing_61 : decode mb_X_thing 61 = .ok (.iadd, 1) := by decide +kernel
theorem d_X_thing_62 : decode mb_X_thing 62 = .ok (.putfield 119, 3) := by decide +kernel
theorem d_X_thing_65 : decode mb_X_thing 65 = .ok (.ireturn, 1) := by decide +kernel
theorem d_T_become_0 : decode mb_T_become 0 = .ok (.aload_n 0, 1) := by decide +kernel
theorem d_T_become_1 : decode mb_T_become 1 = .ok (.iload_n 1, 1) := by decide +kernel
theorem d_T_become_2 : decode mb_T_become 2 = .ok (.putfield 7, 3) := by decide +kernel
theorem d_T_become_5 : decode mb_T_become 5 = .ok (.aload_n 0, 1) := by decide +kernel
theorem d_T_become_6 : decode mb_T_become 6 = .ok (.iload_n 2, 1) := by decide +kernel
theorem d_T_become_7 : decode mb_T_become 7 = .ok (.putfield 13, 3) := by decide +kernel
theorem d_T_become_10 : decode mb_T_become 10 = .ok (.return_, 1) := by decide +kernel
theorem d_T_put_0 : decode mb_T_put 0 = .ok (.aload_n 0, 1) := by decide +kernel
theorem d_T_put_1 : decode mb_T_put 1 = .ok (.lload_n 1, 1) := by decide +kernel
theorem d_T_put_2 : decode mb_T_put 2 = .ok (.putfield 16, 3) := by decide +kernel
theorem d_T_put_5 : decode mb_T_put 5 = .ok (.aload_n 0, 1) := by decide +kernel
theorem d_T_put_6 : decode mb_T_put 6 = .ok (.lload_n 3, 1) := by decide +kernel
theorem d_T_put_7 : decode mb_T_put 7 = .ok (.putfield 20, 3) := by decide +kernel
theorem d_T_put_10 : decode mb_T_put 10 = .ok (.return_, 1) := by decide +kernel
theorem d_X_make_0 : decode mb_X_make 0 = .ok (.aload_n 0, 1) := by decide +kernel
theorem d_X_make_1 : decode mb_X_make 1 = .ok (.iload_n 1, 1) := by decide +kernel
theorem d_X_make_2 : decode mb_X_make 2 = .ok (.invokevirtual 129, 3) := by decide +kernel
theorem d_X_make_5 : decode mb_X_make 5 = .ok (.aload_n 0, 1) := by decide +kernel
theorem d_X_make_6 : decode mb_X_make 6 = .ok (.iload_n 2, 1) := by decide +kernel
theorem d_X_make_7 : decode mb_X_make 7 = .ok (.invokevirtual 113, 3) := by decide +kernel
theorem d_X_make_10 : decode mb_X_make 10 = .ok (.aload_n 0, 1) := by decide +kernel
theorem d_X_make_11 : decode mb_X_make 11 = .ok (.iload_n 3, 1) := by decide +kernel
theorem d_X_make_12 : decode mb_X_make 12 = .ok (.invokevirtual 116, 3) := by decide +kernel
theorem d_X_make_15 : decode mb_X_make 15 = .ok (.aload_n 0, 1) := by decide +kernel
theorem d_X_make_16 : decode mb_X_make 16 = .ok (.getfield 38, 3) := by decide +kernel
theorem d_X_make_19 : decode mb_X_make 19 = .ok (.iload_n 1, 1) := by decide +kernel
theorem d_X_make_20 : decode mb_X_make 20 = .ok (.aaload, 1) := by decide +kernel
theorem d_X_make_21 : decode mb_X_make 21 = .ok (.astore 4, 2) := by decide +kernel
theorem d_X_make_23 : decode mb_X_make 23 = .ok (.aload 4, 2) := by decide +kernel
theorem d_X_make_25 : decode mb_X_make 25 = .ok (.getfield 132, 3) := by decide +kernel
theorem d_X_make_28 : decode mb_X_make 28 = .ok (.iload_n 2, 1) := by decide +kernel
theorem d_X_make_29 : decode mb_X_make 29 = .ok (.if_icmp .ne 14, 3) := by decide +kernel
theorem d_X_make_32 : decode mb_X_make 32 = .ok (.aload 4, 2) := by decide +kernel
theorem d_X_make_34 : decode mb_X_make 34 = .ok (.getfield 135, 3) := by decide +kernel
theorem d_X_make_37 : decode mb_X_make 37 = .ok (.iload_n 3, 1) := by decide +kernel
theorem d_X_make_38 : decode mb_X_make 38 = .ok (.if_icmp .ne 5, 3) := by decide +kernel
theorem d_X_make_41 : decode mb_X_make 41 = .ok (.iconst 0, 1) := by decide +kernel
theorem d_X_make_42 : decode mb_X_make 42 = .ok (.ireturn, 1) := by decide +kernel
theorem d_X_make_43 : decode mb_X_make 43 = .ok (.aload 4, 2) := by decide +kernel
theorem d_X_make_45 : decode mb_X_make 45 = .ok (.iload_n 2, 1) := by decide +kernel
theorem d_X_make_46 : decode mb_X_make 46 = .ok (.iload_n 3, 1) := by decide +kernel
theorem d_X_make_47 : decode mb_X_make 47 = .ok (.invokevirtual 122, 3) := by decide +kernel
theorem d_X_make_50 : decode mb_X_make 50 = .ok (.aload_n 0, 1) := by decide +kernel
theorem d_X_make_51 : decode mb_X_make 51 = .ok (.getfield 46, 3) := by decide +kernel
theorem d_X_make_54 : decode mb_X_make 54 = .ok (.iload_n 1, 1) := by decide +kernel
theorem d_X_make_55 : decode mb_X_make 55 = .ok (.invokevirtual 138, 3) := by decide +kernel
theorem d_X_make_58 : decode mb_X_make 58 = .ok (.iconst 1, 1) := by decide +kernel
theorem d_X_make_59 : decode mb_X_make 59 = .ok (.ireturn, 1) := by decide +kernel
theorem d_X_needThing_0 : decode mb_X_needThing 0 = .ok (.iload_n 1, 1) := by decide +kernel
theorem d_X_needThing_1 : decode mb_X_needThing 1 = .ok (.ifCond .lt 11, 3) := by decide +kernel
theorem d_X_needThing_4 : decode mb_X_needThing 4 = .ok (.iload_n 1, 1) := by decide +kernel
theorem d_X_needThing_5 : decode mb_X_needThing 5 = .ok (.aload_n 0, 1) := by decide +kernel
theorem d_X_needThing_6 : decode mb_X_needThing 6 = .ok (.getfield 119, 3) := by decide +kernel
theorem d_X_needThing_9 : decode mb_X_needThing 9 = .ok (.if_icmp .lt 13, 3) := by decide +kernel
theorem d_X_needThing_12 : decode mb_X_needThing 12 = .ok (.new 233, 3) := by decide +kernel
theorem d_X_needThing_15 : decode mb_X_needThing 15 = .ok (.dup, 1) := by decide +kernel
theorem d_X_needThing_16 : decode mb_X_needThing 16 = .ok (.ldc 248, 2) := by decide +kernel
theorem d_X_needThing_18 : decode mb_X_needThing 18 = .ok (.invokespecial 237, 3) := by decide +kernel
theorem d_X_needThing_21 : decode mb_X_needThing 21 = .ok (.athrow, 1) := by decide +kernel
theorem d_X_needThing_22 : decode mb_X_needThing 22 = .ok (.return_, 1) := by decide +kernel
theorem d_N_dropThing_0 : decode mb_N_dropThing 0 = .ok (.iconst 0, 1) := by decide +kernel
theorem d_N_dropThing_1 : decode mb_N_dropThing 1 = .ok (.istore_n 2, 1) := by decide +kernel
theorem d_N_dropThing_2 : decode mb_N_dropThing 2 = .ok (.iload_n 2, 1) := by decide +kernel
theorem d_N_dropThing_3 : decode mb_N_dropThing 3 = .ok (.bipush 6, 2) := by decide +kernel
theorem d_N_dropThing_5 : decode mb_N_dropThing 5 = .ok (.if_icmp .ge 33, 3) := by decide +kernel
theorem d_N_dropThing_8 : decode mb_N_dropThing 8 = .ok (.iconst 0, 1) := by decide +kernel
theorem d_N_dropThing_9 : decode mb_N_dropThing 9 = .ok (.istore_n 3, 1) := by decide +kernel
theorem d_N_dropThing_10 : decode mb_N_dropThing 10 = .ok (.iload_n 3, 1) := by decide +kernel
theorem d_N_dropThing_11 : decode mb_N_dropThing 11 = .ok (.bipush 40, 2) := by decide +kernel
theorem d_N_dropThing_13 : decode mb_N_dropThing 13 = .ok (.if_icmp .ge 19, 3) := by decide +kernel
theorem d_N_dropThing_16 : decode mb_N_dropThing 16 = .ok (.aload_n 0, 1) := by decide +kernel
theorem d_N_dropThing_17 : decode mb_N_dropThing 17 = .ok (.iload_n 2, 1) := by decide +kernel
theorem d_N_dropThing_18 : decode mb_N_dropThing 18 = .ok (.iload_n 1, 1) := by decide +kernel
theorem d_N_dropThing_19 : decode mb_N_dropThing 19 = .ok (.iload_n 3, 1) := by decide +kernel
theorem d_N_dropThing_20 : decode mb_N_dropThing 20 = .ok (.invokestatic 15, 3) := by decide +kernel
theorem d_N_dropThing_23 : decode mb_N_dropThing 23 = .ok (.invokevirtual 23, 3) := by decide +kernel
theorem d_N_dropThing_26 : decode mb_N_dropThing 26 = .ok (.iinc 3 1, 3) := by decide +kernel
theorem d_N_dropThing_29 : decode mb_N_dropThing 29 = .ok (.goto (-19), 3) := by decide +kernel
theorem d_N_dropThing_32 : decode mb_N_dropThing 32 = .ok (.iinc 2 1, 3) := by decide +kernel
theorem d_N_dropThing_35 : decode mb_N_dropThing 35 = .ok (.goto (-33), 3) := by decide +kernel
theorem d_N_dropThing_38 : decode mb_N_dropThing 38 = .ok (.return_, 1) := by decide +kernel
theorem d_N_slotOf_0 : decode mb_N_slotOf 0 = .ok (.iload_n 1, 1) := by decide +kernel
theorem d_N_slotOf_1 : decode mb_N_slotOf 1 = .ok (.iload_n 2, 1) := by decide +kernel
theorem d_N_slotOf_2 : decode mb_N_slotOf 2 = .ok (.invokestatic 27, 3) := by decide +kernel
theorem d_N_slotOf_5 : decode mb_N_slotOf 5 = .ok (.istore_n 3, 1) := by decide +kernel
theorem d_N_slotOf_6 : decode mb_N_slotOf 6 = .ok (.iload_n 1, 1) := by decide +kernel
theorem d_N_slotOf_7 : decode mb_N_slotOf 7 = .ok (.iload_n 2, 1) := by decide +kernel
theorem d_N_slotOf_8 : decode mb_N_slotOf 8 = .ok (.invokestatic 33, 3) := by decide +kernel
theorem d_N_slotOf_11 : decode mb_N_slotOf 11 = .ok (.istore 4, 2) := by decide +kernel
theorem d_N_slotOf_13 : decode mb_N_slotOf 13 = .ok (.iload_n 0, 1) := by decide +kernel
theorem d_N_slotOf_14 : decode mb_N_slotOf 14 = .ok (.sipush 820, 3) := by decide +kernel
theorem d_N_slotOf_17 : decode mb_N_slotOf 17 = .ok (.imul, 1) := by decide +kernel
theorem d_N_slotOf_18 : decode mb_N_slotOf 18 = .ok (.iload_n 3, 1) := by decide +kernel
theorem d_N_slotOf_19 : decode mb_N_slotOf 19 = .ok (.iload_n 3, 1) := by decide +kernel
theorem d_N_slotOf_20 : decode mb_N_slotOf 20 = .ok (.iconst 1, 1) := by decide +kernel
theorem d_N_slotOf_21 : decode mb_N_slotOf 21 = .ok (.iadd, 1) := by decide +kernel
theorem d_N_slotOf_22 : decode mb_N_slotOf 22 = .ok (.imul, 1) := by decide +kernel
theorem d_N_slotOf_23 : decode mb_N_slotOf 23 = .ok (.iconst 2, 1) := by decide +kernel
theorem d_N_slotOf_24 : decode mb_N_slotOf 24 = .ok (.idiv, 1) := by decide +kernel
theorem d_N_slotOf_25 : decode mb_N_slotOf 25 = .ok (.iadd, 1) := by decide +kernel
theorem d_N_slotOf_26 : decode mb_N_slotOf 26 = .ok (.iload 4, 2) := by decide +kernel
theorem d_N_slotOf_28 : decode mb_N_slotOf 28 = .ok (.iadd, 1) := by decide +kernel
theorem d_N_slotOf_29 : decode mb_N_slotOf 29 = .ok (.ireturn, 1) := by decide +kernel
theorem d_X_move_0 : decode mb_X_move 0 = .ok (.aload_n 0, 1) := by decide +kernel
theorem d_X_move_1 : decode mb_X_move 1 = .ok (.iload_n 1, 1) := by decide +kernel
theorem d_X_move_2 : decode mb_X_move 2 = .ok (.invokevirtual 129, 3) := by decide +kernel
theorem d_X_move_5 : decode mb_X_move 5 = .ok (.aload_n 0, 1) := by decide +kernel
theorem d_X_move_6 : decode mb_X_move 6 = .ok (.lload_n 2, 1) := by decide +kernel
theorem d_X_move_7 : decode mb_X_move 7 = .ok (.lload 4, 2) := by decide +kernel
theorem d_X_move_9 : decode mb_X_move 9 = .ok (.invokevirtual 93, 3) := by decide +kernel
theorem d_X_move_12 : decode mb_X_move 12 = .ok (.aload_n 0, 1) := by decide +kernel
theorem d_X_move_13 : decode mb_X_move 13 = .ok (.getfield 38, 3) := by decide +kernel
theorem d_X_move_16 : decode mb_X_move 16 = .ok (.iload_n 1, 1) := by decide +kernel
theorem d_X_move_17 : decode mb_X_move 17 = .ok (.aaload, 1) := by decide +kernel
theorem d_X_move_18 : decode mb_X_move 18 = .ok (.astore 6, 2) := by decide +kernel
theorem d_X_move_20 : decode mb_X_move 20 = .ok (.aload 6, 2) := by decide +kernel
theorem d_X_move_22 : decode mb_X_move 22 = .ok (.getfield 141, 3) := by decide +kernel
theorem d_X_move_25 : decode mb_X_move 25 = .ok (.lload_n 2, 1) := by decide +kernel
theorem d_X_move_26 : decode mb_X_move 26 = .ok (.lcmp, 1) := by decide +kernel
theorem d_X_move_27 : decode mb_X_move 27 = .ok (.ifCond .ne 16, 3) := by decide +kernel
theorem d_X_move_30 : decode mb_X_move 30 = .ok (.aload 6, 2) := by decide +kernel
theorem d_X_move_32 : decode mb_X_move 32 = .ok (.getfield 145, 3) := by decide +kernel
theorem d_X_move_35 : decode mb_X_move 35 = .ok (.lload 4, 2) := by decide +kernel
theorem d_X_move_37 : decode mb_X_move 37 = .ok (.lcmp, 1) := by decide +kernel
theorem d_X_move_38 : decode mb_X_move 38 = .ok (.ifCond .ne 5, 3) := by decide +kernel
theorem d_X_move_41 : decode mb_X_move 41 = .ok (.iconst 0, 1) := by decide +kernel
theorem d_X_move_42 : decode mb_X_move 42 = .ok (.ireturn, 1) := by decide +kernel
theorem d_X_move_43 : decode mb_X_move 43 = .ok (.aload_n 0, 1) := by decide +kernel
theorem d_X_move_44 : decode mb_X_move 44 = .ok (.aload 6, 2) := by decide +kernel
theorem d_X_move_46 : decode mb_X_move 46 = .ok (.getfield 141, 3) := by decide +kernel
theorem d_X_move_49 : decode mb_X_move 49 = .ok (.aload 6, 2) := by decide +kernel
theorem d_X_move_51 : decode mb_X_move 51 = .ok (.getfield 145, 3) := by decide +kernel
theorem d_X_move_54 : decode mb_X_move 54 = .ok (.invokevirtual 148, 3) := by decide +kernel
theorem d_X_move_57 : decode mb_X_move 57 = .ok (.aload_n 0, 1) := by decide +kernel
theorem d_X_move_58 : decode mb_X_move 58 = .ok (.lload_n 2, 1) := by decide +kernel
theorem d_X_move_59 : decode mb_X_move 59 = .ok (.lload 4, 2) := by decide +kernel
theorem d_X_move_61 : decode mb_X_move 61 = .ok (.invokevirtual 148, 3) := by decide +kernel
theorem d_X_move_64 : decode mb_X_move 64 = .ok (.if_icmp .eq 11, 3) := by decide +kernel
theorem d_X_move_67 : decode mb_X_move 67 = .ok (.aload_n 0, 1) := by decide +kernel
theorem d_X_move_68 : decode mb_X_move 68 = .ok (.getfield 46, 3) := by decide +kernel
theorem d_X_move_71 : decode mb_X_move 71 = .ok (.iload_n 1, 1) := by decide +kernel
theorem d_X_move_72 : decode mb_X_move 72 = .ok (.invokevirtual 138, 3) := by decide +kernel
theorem d_X_move_75 : decode mb_X_move 75 = .ok (.aload 6, 2) := by decide +kernel
theorem d_X_move_77 : decode mb_X_move 77 = .ok (.lload_n 2, 1) := by decide +kernel
theorem d_X_move_78 : decode mb_X_move 78 = .ok (.lload 4, 2) := by decide +kernel
theorem d_X_move_80 : decode mb_X_move 80 = .ok (.invokevirtual 126, 3) := by decide +kernel
theorem d_X_move_83 : decode mb_X_move 83 = .ok (.iconst 1, 1) := by decide +kernel
theorem d_X_move_84 : decode mb_X_move 84 = .ok (.ireturn, 1) := by decide +kernel
theorem d_X_areasAround_0 : decode mb_X_areasAround 0 = .ok (.iconst 0, 1) := by decide +kernel
theorem d_X_areasAround_1 : decode mb_X_areasAround 1 = .ok (.istore 5, 2) := by decide +kernel
theorem d_X_areasAround_3 : decode mb_X_areasAround 3 = .ok (.iconst 0, 1) := by decide +kernel
theorem d_X_areasAround_4 : decode mb_X_areasAround 4 = .ok (.istore 6, 2) := by decide +kernel
theorem d_X_areasAround_6 : decode mb_X_areasAround 6 = .ok (.iload 6, 2) := by decide +kernel
theorem d_X_areasAround_8 : decode mb_X_areasAround 8 = .ok (.aload_n 0, 1) := by decide +kernel
theorem d_X_areasAround_9 : decode mb_X_areasAround 9 = .ok (.getfield 101, 3) := by decide +kernel
theorem d_X_areasAround_12 : decode mb_X_areasAround 12 = .ok (.if_icmp .ge 33, 3) := by decide +kernel
theorem d_X_areasAround_15 : decode mb_X_areasAround 15 = .ok (.aload_n 0, 1) := by decide +kernel
theorem d_X_areasAround_16 : decode mb_X_areasAround 16 = .ok (.getfield 31, 3) := by decide +kernel
theorem d_X_areasAround_19 : decode mb_X_areasAround 19 = .ok (.iload 6, 2) := by decide +kernel
theorem d_X_areasAround_21 : decode mb_X_areasAround 21 = .ok (.aaload, 1) := by decide +kernel
theorem d_X_areasAround_22 : decode mb_X_areasAround 22 = .ok (.lload_n 1, 1) := by decide +kernel
theorem d_X_areasAround_23 : decode mb_X_areasAround 23 = .ok (.lload_n 3, 1) := by decide +kernel
theorem d_X_areasAround_24 : decode mb_X_areasAround 24 = .ok (.invokevirtual 229, 3) := by decide +kernel
theorem d_X_areasAround_27 : decode mb_X_areasAround 27 = .ok (.ifCond .eq 12, 3) := by decide +kernel
theorem d_X_areasAround_30 : decode mb_X_areasAround 30 = .ok (.iload 5, 2) := by decide +kernel
theorem d_X_areasAround_32 : decode mb_X_areasAround 32 = .ok (.iconst 1, 1) := by decide +kernel
theorem d_X_areasAround_33 : decode mb_X_areasAround 33 = .ok (.iload 6, 2) := by decide +kernel
theorem d_X_areasAround_35 : decode mb_X_areasAround 35 = .ok (.ishl, 1) := by decide +kernel
theorem d_X_areasAround_36 : decode mb_X_areasAround 36 = .ok (.ior, 1) := by decide +kernel
theorem d_X_areasAround_37 : decode mb_X_areasAround 37 = .ok (.istore 5, 2) := by decide +kernel
theorem d_X_areasAround_39 : decode mb_X_areasAround 39 = .ok (.iinc 6 1, 3) := by decide +kernel
theorem d_X_areasAround_42 : decode mb_X_areasAround 42 = .ok (.goto (-36), 3) := by decide +kernel
theorem d_X_areasAround_45 : decode mb_X_areasAround 45 = .ok (.iload 5, 2) := by decide +kernel
theorem d_X_areasAround_47 : decode mb_X_areasAround 47 = .ok (.ireturn, 1) := by decide +kernel
theorem d_A_holds_0 : decode mb_A_holds 0 = .ok (.aload_n 0, 1) := by decide +kernel
theorem d_A_holds_1 : decode mb_A_holds 1 = .ok (.getfield 7, 3) := by decide +kernel
theorem d_A_holds_4 : decode mb_A_holds 4 = .ok (.lload_n 1, 1) := by decide +kernel
theorem d_A_holds_5 : decode mb_A_holds 5 = .ok (.lcmp, 1) := by decide +kernel
theorem d_A_holds_6 : decode mb_A_holds 6 = .ok (.ifCond .gt 34, 3) := by decide +kernel
theorem d_A_holds_9 : decode mb_A_holds 9 = .ok (.lload_n 1, 1) := by decide +kernel
theorem d_A_holds_10 : decode mb_A_holds 10 = .ok (.aload_n 0, 1) := by decide +kernel
theorem d_A_holds_11 : decode mb_A_holds 11 = .ok (.getfield 16, 3) := by decide +kernel
theorem d_A_holds_14 : decode mb_A_holds 14 = .ok (.lcmp, 1) := by decide +kernel
theorem d_A_holds_15 : decode mb_A_holds 15 = .ok (.ifCond .gt 25, 3) := by decide +kernel
theorem d_A_holds_18 : decode mb_A_holds 18 = .ok (.aload_n 0, 1) := by decide +kernel
theorem d_A_holds_19 : decode mb_A_holds 19 = .ok (.getfield 13, 3) := by decide +kernel
theorem d_A_holds_22 : decode mb_A_holds 22 = .ok (.lload_n 3, 1) := by decide +kernel
theorem d_A_holds_23 : decode mb_A_holds 23 = .ok (.lcmp, 1) := by decide +kernel
theorem d_A_holds_24 : decode mb_A_holds 24 = .ok (.ifCond .gt 16, 3) := by decide +kernel
theorem d_A_holds_27 : decode mb_A_holds 27 = .ok (.lload_n 3, 1) := by decide +kernel
theorem d_A_holds_28 : decode mb_A_holds 28 = .ok (.aload_n 0, 1) := by decide +kernel
theorem d_A_holds_29 : decode mb_A_holds 29 = .ok (.getfield 19, 3) := by decide +kernel
theorem d_A_holds_32 : decode mb_A_holds 32 = .ok (.lcmp, 1) := by decide +kernel
theorem d_A_holds_33 : decode mb_A_holds 33 = .ok (.ifCond .gt 7, 3) := by decide +kernel
theorem d_A_holds_36 : decode mb_A_holds 36 = .ok (.iconst 1, 1) := by decide +kernel
theorem d_A_holds_37 : decode mb_A_holds 37 = .ok (.goto 4, 3) := by decide +kernel
theorem d_A_holds_40 : decode mb_A_holds 40 = .ok (.iconst 0, 1) := by decide +kernel
theorem d_A_holds_41 : decode mb_A_holds 41 = .ok (.ireturn, 1) := by decide +kernel
theorem d_X_winner_0 : decode mb_X_winner 0 = .ok (.aload_n 0, 1) := by decide +kernel
theorem d_X_winner_1 : decode mb_X_winner 1 = .ok (.iload_n 1, 1) := by decide +kernel
theorem d_X_winner_2 : decode mb_X_winner 2 = .ok (.iload_n 2, 1) := by decide +kernel
theorem d_X_winner_3 : decode mb_X_winner 3 = .ok (.iload_n 3, 1) := by decide +kernel
theorem d_X_winner_4 : decode mb_X_winner 4 = .ok (.invokevirtual 152, 3) := by decide +kernel
theorem d_X_winner_7 : decode mb_X_winner 7 = .ok (.aload_n 0, 1) := by decide +kernel
theorem d_X_winner_8 : decode mb_X_winner 8 = .ok (.iload_n 1, 1) := by decide +kernel
theorem d_X_winner_9 : decode mb_X_winner 9 = .ok (.iload_n 2, 1) := by decide +kernel
theorem d_X_winner_10 : decode mb_X_winner 10 = .ok (.iload_n 3, 1) := by decide +kernel
theorem d_X_winner_11 : decode mb_X_winner 11 = .ok (.invokevirtual 156, 3) := by decide +kernel
theorem d_X_winner_14 : decode mb_X_winner 14 = .ok (.ireturn, 1) := by decide +kernel
theorem d_X_needKindAndThings_0 : decode mb_X_needKindAndThings 0 = .ok (.aload_n 0, 1) := by decide +kernel
theorem d_X_needKindAndThings_1 : decode mb_X_needKindAndThings 1 = .ok (.iload_n 1, 1) := by decide +kernel
theorem d_X_needKindAndThings_2 : decode mb_X_needKindAndThings 2 = .ok (.invokevirtual 57, 3) := by decide +kernel
theorem d_X_needKindAndThings_5 : decode mb_X_needKindAndThings 5 = .ok (.aload_n 0, 1) := by decide +kernel
theorem d_X_needKindAndThings_6 : decode mb_X_needKindAndThings 6 = .ok (.iload_n 2, 1) := by decide +kernel
theorem d_X_needKindAndThings_7 : decode mb_X_needKindAndThings 7 = .ok (.invokevirtual 129, 3) := by decide +kernel
theorem d_X_needKindAndThings_10 : decode mb_X_needKindAndThings 10 = .ok (.aload_n 0, 1) := by decide +kernel
theorem d_X_needKindAndThings_11 : decode mb_X_needKindAndThings 11 = .ok (.iload_n 3, 1) := by decide +kernel
theorem d_X_needKindAndThings_12 : decode mb_X_needKindAndThings 12 = .ok (.invokevirtual 129, 3) := by decide +kernel
theorem d_X_needKindAndThings_15 : decode mb_X_needKindAndThings 15 = .ok (.return_, 1) := by decide +kernel
theorem d_X_keptWinner_0 : decode mb_X_keptWinner 0 = .ok (.aload_n 0, 1) := by decide +kernel
theorem d_X_keptWinner_1 : decode mb_X_keptWinner 1 = .ok (.getfield 46, 3) := by decide +kernel
theorem d_X_keptWinner_4 : decode mb_X_keptWinner 4 = .ok (.iload_n 1, 1) := by decide +kernel
theorem d_X_keptWinner_5 : decode mb_X_keptWinner 5 = .ok (.iload_n 2, 1) := by decide +kernel
theorem d_X_keptWinner_6 : decode mb_X_keptWinner 6 = .ok (.iload_n 3, 1) := by decide +kernel
theorem d_X_keptWinner_7 : decode mb_X_keptWinner 7 = .ok (.invokevirtual 211, 3) := by decide +kernel
theorem d_X_keptWinner_10 : decode mb_X_keptWinner 10 = .ok (.ifCond .eq 24, 3) := by decide +kernel
theorem d_X_keptWinner_13 : decode mb_X_keptWinner 13 = .ok (.aload_n 0, 1) := by decide +kernel
theorem d_X_keptWinner_14 : decode mb_X_keptWinner 14 = .ok (.dup, 1) := by decide +kernel
theorem d_X_keptWinner_15 : decode mb_X_keptWinner 15 = .ok (.getfield 208, 3) := by decide +kernel
theorem d_X_keptWinner_18 : decode mb_X_keptWinner 18 = .ok (.lconst 1, 1) := by decide +kernel
theorem d_X_keptWinner_19 : decode mb_X_keptWinner 19 = .ok (.ladd, 1) := by decide +kernel
theorem d_X_keptWinner_20 : decode mb_X_keptWinner 20 = .ok (.putfield 208, 3) := by decide +kernel
theorem d_X_keptWinner_23 : decode mb_X_keptWinner 23 = .ok (.aload_n 0, 1) := by decide +kernel
theorem d_X_keptWinner_24 : decode mb_X_keptWinner 24 = .ok (.getfield 46, 3) := by decide +kernel
theorem d_X_keptWinner_27 : decode mb_X_keptWinner 27 = .ok (.iload_n 1, 1) := by decide +kernel
theorem d_X_keptWinner_28 : decode mb_X_keptWinner 28 = .ok (.iload_n 2, 1) := by decide +kernel
theorem d_X_keptWinner_29 : decode mb_X_keptWinner 29 = .ok (.iload_n 3, 1) := by decide +kernel
theorem d_X_keptWinner_30 : decode mb_X_keptWinner 30 = .ok (.invokevirtual 215, 3) := by decide +kernel
theorem d_X_keptWinner_33 : decode mb_X_keptWinner 33 = .ok (.ireturn, 1) := by decide +kernel
theorem d_X_keptWinner_34 : decode mb_X_keptWinner 34 = .ok (.aload_n 0, 1) := by decide +kernel
theorem d_X_keptWinner_35 : decode mb_X_keptWinner 35 = .ok (.iconst (-1), 1) := by decide +kernel
theorem d_X_keptWinner_36 : decode mb_X_keptWinner 36 = .ok (.iload_n 1, 1) := by decide +kernel
theorem d_X_keptWinner_37 : decode mb_X_keptWinner 37 = .ok (.aload_n 0, 1) := by decide +kernel
theorem d_X_keptWinner_38 : decode mb_X_keptWinner 38 = .ok (.getfield 38, 3) := by decide +kernel
theorem d_X_keptWinner_41 : decode mb_X_keptWinner 41 = .ok (.iload_n 2, 1) := by decide +kernel
theorem d_X_keptWinner_42 : decode mb_X_keptWinner 42 = .ok (.aaload, 1) := by decide +kernel
theorem d_X_keptWinner_43 : decode mb_X_keptWinner 43 = .ok (.aload_n 0, 1) := by decide +kernel
theorem d_X_keptWinner_44 : decode mb_X_keptWinner 44 = .ok (.getfield 38, 3) := by decide +kernel
theorem d_X_keptWinner_47 : decode mb_X_keptWinner 47 = .ok (.iload_n 3, 1) := by decide +kernel
theorem d_X_keptWinner_48 : decode mb_X_keptWinner 48 = .ok (.aaload, 1) := by decide +kernel
theorem d_X_keptWinner_49 : decode mb_X_keptWinner 49 = .ok (.invokevirtual 164, 3) := by decide +kernel
theorem d_X_keptWinner_52 : decode mb_X_keptWinner 52 = .ok (.istore 4, 2) := by decide +kernel
theorem d_X_keptWinner_54 : decode mb_X_keptWinner 54 = .ok (.aload_n 0, 1) := by decide +kernel
theorem d_X_keptWinner_55 : decode mb_X_keptWinner 55 = .ok (.getfield 46, 3) := by decide +kernel
theorem d_X_keptWinner_58 : decode mb_X_keptWinner 58 = .ok (.iload_n 1, 1) := by decide +kernel
theorem d_X_keptWinner_59 : decode mb_X_keptWinner 59 = .ok (.iload_n 2, 1) := by decide +kernel
theorem d_X_keptWinner_60 : decode mb_X_keptWinner 60 = .ok (.iload_n 3, 1) := by decide +kernel
theorem d_X_keptWinner_61 : decode mb_X_keptWinner 61 = .ok (.iload 4, 2) := by decide +kernel
theorem d_X_keptWinner_63 : decode mb_X_keptWinner 63 = .ok (.invokevirtual 218, 3) := by decide +kernel
theorem d_X_keptWinner_66 : decode mb_X_keptWinner 66 = .ok (.iload 4, 2) := by decide +kernel
theorem d_X_keptWinner_68 : decode mb_X_keptWinner 68 = .ok (.ireturn, 1) := by decide +kernel
theorem d_N_has_0 : decode mb_N_has 0 = .ok (.aload_n 0, 1) := by decide +kernel
theorem d_N_has_1 : decode mb_N_has 1 = .ok (.getfield 11, 3) := by decide +kernel
theorem d_N_has_4 : decode mb_N_has 4 = .ok (.iload_n 1, 1) := by decide +kernel
theorem d_N_has_5 : decode mb_N_has 5 = .ok (.iload_n 2, 1) := by decide +kernel
theorem d_N_has_6 : decode mb_N_has 6 = .ok (.iload_n 3, 1) := by decide +kernel
theorem d_N_has_7 : decode mb_N_has 7 = .ok (.invokestatic 15, 3) := by decide +kernel
theorem d_N_has_10 : decode mb_N_has 10 = .ok (.iaload, 1) := by decide +kernel
theorem d_N_has_11 : decode mb_N_has 11 = .ok (.ifCond .eq 7, 3) := by decide +kernel
theorem d_N_has_14 : decode mb_N_has 14 = .ok (.iconst 1, 1) := by decide +kernel
theorem d_N_has_15 : decode mb_N_has 15 = .ok (.goto 4, 3) := by decide +kernel
theorem d_N_has_18 : decode mb_N_has 18 = .ok (.iconst 0, 1) := by decide +kernel
theorem d_N_has_19 : decode mb_N_has 19 = .ok (.ireturn, 1) := by decide +kernel
theorem d_N_read_0 : decode mb_N_read 0 = .ok (.aload_n 0, 1) := by decide +kernel
theorem d_N_read_1 : decode mb_N_read 1 = .ok (.getfield 11, 3) := by decide +kernel
theorem d_N_read_4 : decode mb_N_read 4 = .ok (.iload_n 1, 1) := by decide +kernel
theorem d_N_read_5 : decode mb_N_read 5 = .ok (.iload_n 2, 1) := by decide +kernel
theorem d_N_read_6 : decode mb_N_read 6 = .ok (.iload_n 3, 1) := by decide +kernel
theorem d_N_read_7 : decode mb_N_read 7 = .ok (.invokestatic 15, 3) := by decide +kernel
theorem d_N_read_10 : decode mb_N_read 10 = .ok (.iaload, 1) := by decide +kernel
theorem d_N_read_11 : decode mb_N_read 11 = .ok (.iconst 2, 1) := by decide +kernel
theorem d_N_read_12 : decode mb_N_read 12 = .ok (.isub, 1) := by decide +kernel
theorem d_N_read_13 : decode mb_N_read 13 = .ok (.ireturn, 1) := by decide +kernel
theorem d_X_bestBelow_0 : decode mb_X_bestBelow 0 = .ok (.iconst (-1), 1) := by decide +kernel
theorem d_X_bestBelow_1 : decode mb_X_bestBelow 1 = .ok (.istore 5, 2) := by decide +kernel
theorem d_X_bestBelow_3 : decode mb_X_bestBelow 3 = .ok (.iconst 0, 1) := by decide +kernel
theorem d_X_bestBelow_4 : decode mb_X_bestBelow 4 = .ok (.istore 6, 2) := by decide +kernel
theorem d_X_bestBelow_6 : decode mb_X_bestBelow 6 = .ok (.iload 6, 2) := by decide +kernel
theorem d_X_bestBelow_8 : decode mb_X_bestBelow 8 = .ok (.aload_n 0, 1) := by decide +kernel
theorem d_X_bestBelow_9 : decode mb_X_bestBelow 9 = .ok (.getfield 71, 3) := by decide +kernel
theorem d_X_bestBelow_12 : decode mb_X_bestBelow 12 = .ok (.if_icmp .ge 75, 3) := by decide +kernel
theorem d_X_bestBelow_15 : decode mb_X_bestBelow 15 = .ok (.iload_n 1, 1) := by decide +kernel
theorem d_X_bestBelow_16 : decode mb_X_bestBelow 16 = .ok (.iconst (-1), 1) := by decide +kernel
theorem d_X_bestBelow_17 : decode mb_X_bestBelow 17 = .ok (.if_icmp .eq 13, 3) := by decide +kernel
theorem d_X_bestBelow_20 : decode mb_X_bestBelow 20 = .ok (.aload_n 0, 1) := by decide +kernel
theorem d_X_bestBelow_21 : decode mb_X_bestBelow 21 = .ok (.iload_n 1, 1) := by decide +kernel
theorem d_X_bestBelow_22 : decode mb_X_bestBelow 22 = .ok (.iload 6, 2) := by decide +kernel
theorem d_X_bestBelow_24 : decode mb_X_bestBelow 24 = .ok (.invokevirtual 222, 3) := by decide +kernel
theorem d_X_bestBelow_27 : decode mb_X_bestBelow 27 = .ok (.ifCond .eq 24, 3) := by decide +kernel
theorem d_X_bestBelow_30 : decode mb_X_bestBelow 30 = .ok (.iload 5, 2) := by decide +kernel
theorem d_X_bestBelow_32 : decode mb_X_bestBelow 32 = .ok (.iconst (-1), 1) := by decide +kernel
theorem d_X_bestBelow_33 : decode mb_X_bestBelow 33 = .ok (.if_icmp .eq 14, 3) := by decide +kernel
theorem d_X_bestBelow_36 : decode mb_X_bestBelow 36 = .ok (.aload_n 0, 1) := by decide +kernel
theorem d_X_bestBelow_37 : decode mb_X_bestBelow 37 = .ok (.iload 6, 2) := by decide +kernel
theorem d_X_bestBelow_39 : decode mb_X_bestBelow 39 = .ok (.iload 5, 2) := by decide +kernel
theorem d_X_bestBelow_41 : decode mb_X_bestBelow 41 = .ok (.invokevirtual 222, 3) := by decide +kernel
theorem d_X_bestBelow_44 : decode mb_X_bestBelow 44 = .ok (.ifCond .eq 7, 3) := by decide +kernel
theorem d_X_bestBelow_47 : decode mb_X_bestBelow 47 = .ok (.iconst 1, 1) := by decide +kernel
theorem d_X_bestBelow_48 : decode mb_X_bestBelow 48 = .ok (.goto 4, 3) := by decide +kernel
theorem d_X_bestBelow_51 : decode mb_X_bestBelow 51 = .ok (.iconst 0, 1) := by decide +kernel
theorem d_X_bestBelow_52 : decode mb_X_bestBelow 52 = .ok (.istore 7, 2) := by decide +kernel
theorem d_X_bestBelow_54 : decode mb_X_bestBelow 54 = .ok (.iload 7, 2) := by decide +kernel
theorem d_X_bestBelow_56 : decode mb_X_bestBelow 56 = .ok (.ifCond .eq 25, 3) := by decide +kernel
theorem d_X_bestBelow_59 : decode mb_X_bestBelow 59 = .ok (.aload_n 0, 1) := by decide +kernel
theorem d_X_bestBelow_60 : decode mb_X_bestBelow 60 = .ok (.aload_n 0, 1) := by decide +kernel
theorem d_X_bestBelow_61 : decode mb_X_bestBelow 61 = .ok (.getfield 24, 3) := by decide +kernel
theorem d_X_bestBelow_64 : decode mb_X_bestBelow 64 = .ok (.iload 6, 2) := by decide +kernel
theorem d_X_bestBelow_66 : decode mb_X_bestBelow 66 = .ok (.aaload, 1) := by decide +kernel
theorem d_X_bestBelow_67 : decode mb_X_bestBelow 67 = .ok (.iload_n 2, 1) := by decide +kernel
theorem d_X_bestBelow_68 : decode mb_X_bestBelow 68 = .ok (.aload_n 3, 1) := by decide +kernel
theorem d_X_bestBelow_69 : decode mb_X_bestBelow 69 = .ok (.aload 4, 2) := by decide +kernel
theorem d_X_bestBelow_71 : decode mb_X_bestBelow 71 = .ok (.invokevirtual 168, 3) := by decide +kernel
theorem d_X_bestBelow_74 : decode mb_X_bestBelow 74 = .ok (.ifCond .ne 7, 3) := by decide +kernel
theorem d_X_bestBelow_77 : decode mb_X_bestBelow 77 = .ok (.iload 6, 2) := by decide +kernel
theorem d_X_bestBelow_79 : decode mb_X_bestBelow 79 = .ok (.istore 5, 2) := by decide +kernel
theorem d_X_bestBelow_81 : decode mb_X_bestBelow 81 = .ok (.iinc 6 1, 3) := by decide +kernel
theorem d_X_bestBelow_84 : decode mb_X_bestBelow 84 = .ok (.goto (-78), 3) := by decide +kernel
theorem d_X_bestBelow_87 : decode mb_X_bestBelow 87 = .ok (.iload 5, 2) := by decide +kernel
theorem d_X_bestBelow_89 : decode mb_X_bestBelow 89 = .ok (.ireturn, 1) := by decide +kernel
theorem d_X_beats_0 : decode mb_X_beats 0 = .ok (.aload_n 0, 1) := by decide +kernel
theorem d_X_beats_1 : decode mb_X_beats 1 = .ok (.getfield 24, 3) := by decide +kernel
theorem d_X_beats_4 : decode mb_X_beats 4 = .ok (.iload_n 1, 1) := by decide +kernel
theorem d_X_beats_5 : decode mb_X_beats 5 = .ok (.aaload, 1) := by decide +kernel
theorem d_X_beats_6 : decode mb_X_beats 6 = .ok (.getfield 87, 3) := by decide +kernel
theorem d_X_beats_9 : decode mb_X_beats 9 = .ok (.istore_n 3, 1) := by decide +kernel
theorem d_X_beats_10 : decode mb_X_beats 10 = .ok (.aload_n 0, 1) := by decide +kernel
theorem d_X_beats_11 : decode mb_X_beats 11 = .ok (.getfield 24, 3) := by decide +kernel
theorem d_X_beats_14 : decode mb_X_beats 14 = .ok (.iload_n 2, 1) := by decide +kernel
theorem d_X_beats_15 : decode mb_X_beats 15 = .ok (.aaload, 1) := by decide +kernel
theorem d_X_beats_16 : decode mb_X_beats 16 = .ok (.getfield 87, 3) := by decide +kernel
theorem d_X_beats_19 : decode mb_X_beats 19 = .ok (.istore 4, 2) := by decide +kernel
theorem d_X_beats_21 : decode mb_X_beats 21 = .ok (.iload_n 3, 1) := by decide +kernel
theorem d_X_beats_22 : decode mb_X_beats 22 = .ok (.iload 4, 2) := by decide +kernel
theorem d_X_beats_24 : decode mb_X_beats 24 = .ok (.if_icmp .gt 14, 3) := by decide +kernel
theorem d_X_beats_27 : decode mb_X_beats 27 = .ok (.iload_n 3, 1) := by decide +kernel
theorem d_X_beats_28 : decode mb_X_beats 28 = .ok (.iload 4, 2) := by decide +kernel
theorem d_X_beats_30 : decode mb_X_beats 30 = .ok (.if_icmp .ne 12, 3) := by decide +kernel
theorem d_X_beats_33 : decode mb_X_beats 33 = .ok (.iload_n 1, 1) := by decide +kernel
theorem d_X_beats_34 : decode mb_X_beats 34 = .ok (.iload_n 2, 1) := by decide +kernel
theorem d_X_beats_35 : decode mb_X_beats 35 = .ok (.if_icmp .le 7, 3) := by decide +kernel
theorem d_X_beats_38 : decode mb_X_beats 38 = .ok (.iconst 1, 1) := by decide +kernel
theorem d_X_beats_39 : decode mb_X_beats 39 = .ok (.goto 4, 3) := by decide +kernel
theorem d_X_beats_42 : decode mb_X_beats 42 = .ok (.iconst 0, 1) := by decide +kernel
theorem d_X_beats_43 : decode mb_X_beats 43 = .ok (.ireturn, 1) := by decide +kernel
theorem d_X_hindrance_0 : decode mb_X_hindrance 0 = .ok (.aload_n 1, 1) := by decide +kernel
theorem d_X_hindrance_1 : decode mb_X_hindrance 1 = .ok (.getfield 90, 3) := by decide +kernel
theorem d_X_hindrance_4 : decode mb_X_hindrance 4 = .ok (.iload_n 2, 1) := by decide +kernel
theorem d_X_hindrance_5 : decode mb_X_hindrance 5 = .ok (.if_icmp .eq 5, 3) := by decide +kernel
theorem d_X_hindrance_8 : decode mb_X_hindrance 8 = .ok (.iconst 1, 1) := by decide +kernel
theorem d_X_hindrance_9 : decode mb_X_hindrance 9 = .ok (.ireturn, 1) := by decide +kernel
theorem d_X_hindrance_10 : decode mb_X_hindrance 10 = .ok (.aload_n 1, 1) := by decide +kernel
theorem d_X_hindrance_11 : decode mb_X_hindrance 11 = .ok (.aload_n 3, 1) := by decide +kernel
theorem d_X_hindrance_12 : decode mb_X_hindrance 12 = .ok (.getfield 132, 3) := by decide +kernel
theorem d_X_hindrance_15 : decode mb_X_hindrance 15 = .ok (.aload 4, 2) := by decide +kernel
theorem d_X_hindrance_17 : decode mb_X_hindrance 17 = .ok (.getfield 132, 3) := by decide +kernel
theorem d_X_hindrance_20 : decode mb_X_hindrance 20 = .ok (.invokevirtual 226, 3) := by decide +kernel
theorem d_X_hindrance_23 : decode mb_X_hindrance 23 = .ok (.ifCond .ne 5, 3) := by decide +kernel
theorem d_X_hindrance_26 : decode mb_X_hindrance 26 = .ok (.iconst 2, 1) := by decide +kernel
theorem d_X_hindrance_27 : decode mb_X_hindrance 27 = .ok (.ireturn, 1) := by decide +kernel
theorem d_X_hindrance_28 : decode mb_X_hindrance 28 = .ok (.aload_n 1, 1) := by decide +kernel
theorem d_X_hindrance_29 : decode mb_X_hindrance 29 = .ok (.aload_n 3, 1) := by decide +kernel
theorem d_X_hindrance_30 : decode mb_X_hindrance 30 = .ok (.getfield 135, 3) := by decide +kernel
theorem d_X_hindrance_33 : decode mb_X_hindrance 33 = .ok (.invokevirtual 174, 3) := by decide +kernel
theorem d_X_hindrance_36 : decode mb_X_hindrance 36 = .ok (.ifCond .eq 15, 3) := by decide +kernel
theorem d_X_hindrance_39 : decode mb_X_hindrance 39 = .ok (.aload_n 1, 1) := by decide +kernel
theorem d_X_hindrance_40 : decode mb_X_hindrance 40 = .ok (.aload 4, 2) := by decide +kernel
theorem d_X_hindrance_42 : decode mb_X_hindrance 42 = .ok (.getfield 135, 3) := by decide +kernel
theorem d_X_hindrance_45 : decode mb_X_hindrance 45 = .ok (.invokevirtual 174, 3) := by decide +kernel
theorem d_X_hindrance_48 : decode mb_X_hindrance 48 = .ok (.ifCond .ne 5, 3) := by decide +kernel
theorem d_X_hindrance_51 : decode mb_X_hindrance 51 = .ok (.iconst 3, 1) := by decide +kernel
theorem d_X_hindrance_52 : decode mb_X_hindrance 52 = .ok (.ireturn, 1) := by decide +kernel
theorem d_X_hindrance_53 : decode mb_X_hindrance 53 = .ok (.aload_n 1, 1) := by decide +kernel
theorem d_X_hindrance_54 : decode mb_X_hindrance 54 = .ok (.getfield 110, 3) := by decide +kernel
theorem d_X_hindrance_57 : decode mb_X_hindrance 57 = .ok (.iconst (-1), 1) := by decide +kernel
theorem d_X_hindrance_58 : decode mb_X_hindrance 58 = .ok (.if_icmp .eq 53, 3) := by decide +kernel
theorem d_X_hindrance_61 : decode mb_X_hindrance 61 = .ok (.aload_n 0, 1) := by decide +kernel
theorem d_X_hindrance_62 : decode mb_X_hindrance 62 = .ok (.getfield 31, 3) := by decide +kernel
theorem d_X_hindrance_65 : decode mb_X_hindrance 65 = .ok (.aload_n 1, 1) := by decide +kernel
theorem d_X_hindrance_66 : decode mb_X_hindrance 66 = .ok (.getfield 110, 3) := by decide +kernel
theorem d_X_hindrance_69 : decode mb_X_hindrance 69 = .ok (.aaload, 1) := by decide +kernel
theorem d_X_hindrance_70 : decode mb_X_hindrance 70 = .ok (.aload_n 3, 1) := by decide +kernel
theorem d_X_hindrance_71 : decode mb_X_hindrance 71 = .ok (.getfield 141, 3) := by decide +kernel
theorem d_X_hindrance_74 : decode mb_X_hindrance 74 = .ok (.aload_n 3, 1) := by decide +kernel
theorem d_X_hindrance_75 : decode mb_X_hindrance 75 = .ok (.getfield 145, 3) := by decide +kernel
theorem d_X_hindrance_78 : decode mb_X_hindrance 78 = .ok (.invokevirtual 229, 3) := by decide +kernel
theorem d_X_hindrance_81 : decode mb_X_hindrance 81 = .ok (.ifCond .eq 28, 3) := by decide +kernel
theorem d_X_hindrance_84 : decode mb_X_hindrance 84 = .ok (.aload_n 0, 1) := by decide +kernel
theorem d_X_hindrance_85 : decode mb_X_hindrance 85 = .ok (.getfield 31, 3) := by decide +kernel
theorem d_X_hindrance_88 : decode mb_X_hindrance 88 = .ok (.aload_n 1, 1) := by decide +kernel
theorem d_X_hindrance_89 : decode mb_X_hindrance 89 = .ok (.getfield 110, 3) := by decide +kernel
theorem d_X_hindrance_92 : decode mb_X_hindrance 92 = .ok (.aaload, 1) := by decide +kernel
theorem d_X_hindrance_93 : decode mb_X_hindrance 93 = .ok (.aload 4, 2) := by decide +kernel
theorem d_X_hindrance_95 : decode mb_X_hindrance 95 = .ok (.getfield 141, 3) := by decide +kernel
theorem d_X_hindrance_98 : decode mb_X_hindrance 98 = .ok (.aload 4, 2) := by decide +kernel
theorem d_X_hindrance_100 : decode mb_X_hindrance 100 = .ok (.getfield 145, 3) := by decide +kernel
theorem d_X_hindrance_103 : decode mb_X_hindrance 103 = .ok (.invokevirtual 229, 3) := by decide +kernel
theorem d_X_hindrance_106 : decode mb_X_hindrance 106 = .ok (.ifCond .ne 5, 3) := by decide +kernel
theorem d_X_hindrance_109 : decode mb_X_hindrance 109 = .ok (.iconst 4, 1) := by decide +kernel
theorem d_X_hindrance_110 : decode mb_X_hindrance 110 = .ok (.ireturn, 1) := by decide +kernel
theorem d_X_hindrance_111 : decode mb_X_hindrance 111 = .ok (.iconst 0, 1) := by decide +kernel
theorem d_X_hindrance_112 : decode mb_X_hindrance 112 = .ok (.ireturn, 1) := by decide +kernel
theorem d_R_isBetween_0 : decode mb_R_isBetween 0 = .ok (.aload_n 0, 1) := by decide +kernel
theorem d_R_isBetween_1 : decode mb_R_isBetween 1 = .ok (.getfield 18, 3) := by decide +kernel
theorem d_R_isBetween_4 : decode mb_R_isBetween 4 = .ok (.iload_n 1, 1) := by decide +kernel
theorem d_R_isBetween_5 : decode mb_R_isBetween 5 = .ok (.invokestatic 31, 3) := by decide +kernel
theorem d_R_isBetween_8 : decode mb_R_isBetween 8 = .ok (.ifCond .eq 14, 3) := by decide +kernel
theorem d_R_isBetween_11 : decode mb_R_isBetween 11 = .ok (.aload_n 0, 1) := by decide +kernel
theorem d_R_isBetween_12 : decode mb_R_isBetween 12 = .ok (.getfield 21, 3) := by decide +kernel
theorem d_R_isBetween_15 : decode mb_R_isBetween 15 = .ok (.iload_n 2, 1) := by decide +kernel
theorem d_R_isBetween_16 : decode mb_R_isBetween 16 = .ok (.invokestatic 31, 3) := by decide +kernel
theorem d_R_isBetween_19 : decode mb_R_isBetween 19 = .ok (.ifCond .ne 25, 3) := by decide +kernel
theorem d_R_isBetween_22 : decode mb_R_isBetween 22 = .ok (.aload_n 0, 1) := by decide +kernel
theorem d_R_isBetween_23 : decode mb_R_isBetween 23 = .ok (.getfield 18, 3) := by decide +kernel
theorem d_R_isBetween_26 : decode mb_R_isBetween 26 = .ok (.iload_n 2, 1) := by decide +kernel
theorem d_R_isBetween_27 : decode mb_R_isBetween 27 = .ok (.invokestatic 31, 3) := by decide +kernel
theorem d_R_isBetween_30 : decode mb_R_isBetween 30 = .ok (.ifCond .eq 18, 3) := by decide +kernel
theorem d_R_isBetween_33 : decode mb_R_isBetween 33 = .ok (.aload_n 0, 1) := by decide +kernel
theorem d_R_isBetween_34 : decode mb_R_isBetween 34 = .ok (.getfield 21, 3) := by decide +kernel
theorem d_R_isBetween_37 : decode mb_R_isBetween 37 = .ok (.iload_n 1, 1) := by decide +kernel
theorem d_R_isBetween_38 : decode mb_R_isBetween 38 = .ok (.invokestatic 31, 3) := by decide +kernel
theorem d_R_isBetween_41 : decode mb_R_isBetween 41 = .ok (.ifCond .eq 7, 3) := by decide +kernel
theorem d_R_isBetween_44 : decode mb_R_isBetween 44 = .ok (.iconst 1, 1) := by decide +kernel
theorem d_R_isBetween_45 : decode mb_R_isBetween 45 = .ok (.goto 4, 3) := by decide +kernel
theorem d_R_isBetween_48 : decode mb_R_isBetween 48 = .ok (.iconst 0, 1) := by decide +kernel
theorem d_R_isBetween_49 : decode mb_R_isBetween 49 = .ok (.ireturn, 1) := by decide +kernel
theorem d_R_fits_0 : decode mb_R_fits 0 = .ok (.iload_n 0, 1) := by decide +kernel
theorem d_R_fits_1 : decode mb_R_fits 1 = .ok (.iconst (-1), 1) := by decide +kernel
theorem d_R_fits_2 : decode mb_R_fits 2 = .ok (.if_icmp .eq 8, 3) := by decide +kernel
theorem d_R_fits_5 : decode mb_R_fits 5 = .ok (.iload_n 0, 1) := by decide +kernel
theorem d_R_fits_6 : decode mb_R_fits 6 = .ok (.iload_n 1, 1) := by decide +kernel
theorem d_R_fits_7 : decode mb_R_fits 7 = .ok (.if_icmp .ne 7, 3) := by decide +kernel
theorem d_R_fits_10 : decode mb_R_fits 10 = .ok (.iconst 1, 1) := by decide +kernel
theorem d_R_fits_11 : decode mb_R_fits 11 = .ok (.goto 4, 3) := by decide +kernel
theorem d_R_fits_14 : decode mb_R_fits 14 = .ok (.iconst 0, 1) := by decide +kernel
theorem d_R_fits_15 : decode mb_R_fits 15 = .ok (.ireturn, 1) := by decide +kernel
theorem d_R_isForLayer_0 : decode mb_R_isForLayer 0 = .ok (.aload_n 0, 1) := by decide +kernel
theorem d_R_isForLayer_1 : decode mb_R_isForLayer 1 = .ok (.getfield 24, 3) := by decide +kernel
theorem d_R_isForLayer_4 : decode mb_R_isForLayer 4 = .ok (.iload_n 1, 1) := by decide +kernel
theorem d_R_isForLayer_5 : decode mb_R_isForLayer 5 = .ok (.invokestatic 31, 3) := by decide +kernel
theorem d_R_isForLayer_8 : decode mb_R_isForLayer 8 = .ok (.ireturn, 1) := by decide +kernel
theorem d_N_keep_0 : decode mb_N_keep 0 = .ok (.iload_n 1, 1) := by decide +kernel
theorem d_N_keep_1 : decode mb_N_keep 1 = .ok (.iload_n 2, 1) := by decide +kernel
theorem d_N_keep_2 : decode mb_N_keep 2 = .ok (.iload_n 3, 1) := by decide +kernel
theorem d_N_keep_3 : decode mb_N_keep 3 = .ok (.invokestatic 15, 3) := by decide +kernel
theorem d_N_keep_6 : decode mb_N_keep 6 = .ok (.istore 5, 2) := by decide +kernel
theorem d_N_keep_8 : decode mb_N_keep 8 = .ok (.aload_n 0, 1) := by decide +kernel
theorem d_N_keep_9 : decode mb_N_keep 9 = .ok (.getfield 11, 3) := by decide +kernel
theorem d_N_keep_12 : decode mb_N_keep 12 = .ok (.iload 5, 2) := by decide +kernel
theorem d_N_keep_14 : decode mb_N_keep 14 = .ok (.iaload, 1) := by decide +kernel
theorem d_N_keep_15 : decode mb_N_keep 15 = .ok (.ifCond .ne 13, 3) := by decide +kernel
theorem d_N_keep_18 : decode mb_N_keep 18 = .ok (.aload_n 0, 1) := by decide +kernel
theorem d_N_keep_19 : decode mb_N_keep 19 = .ok (.dup, 1) := by decide +kernel
theorem d_N_keep_20 : decode mb_N_keep 20 = .ok (.getfield 19, 3) := by decide +kernel
theorem d_N_keep_23 : decode mb_N_keep 23 = .ok (.iconst 1, 1) := by decide +kernel
theorem d_N_keep_24 : decode mb_N_keep 24 = .ok (.iadd, 1) := by decide +kernel
theorem d_N_keep_25 : decode mb_N_keep 25 = .ok (.putfield 19, 3) := by decide +kernel
theorem d_N_keep_28 : decode mb_N_keep 28 = .ok (.aload_n 0, 1) := by decide +kernel
theorem d_N_keep_29 : decode mb_N_keep 29 = .ok (.getfield 11, 3) := by decide +kernel
theorem d_N_keep_32 : decode mb_N_keep 32 = .ok (.iload 5, 2) := by decide +kernel
theorem d_N_keep_34 : decode mb_N_keep 34 = .ok (.iload 4, 2) := by decide +kernel
theorem d_N_keep_36 : decode mb_N_keep 36 = .ok (.iconst 2, 1) := by decide +kernel
theorem d_N_keep_37 : decode mb_N_keep 37 = .ok (.iadd, 1) := by decide +kernel
theorem d_N_keep_38 : decode mb_N_keep 38 = .ok (.iastore, 1) := by decide +kernel
theorem d_N_keep_39 : decode mb_N_keep 39 = .ok (.return_, 1) := by decide +kernel
theorem d_X_value_0 : decode mb_X_value 0 = .ok (.aload_n 0, 1) := by decide +kernel
theorem d_X_value_1 : decode mb_X_value 1 = .ok (.iload_n 1, 1) := by decide +kernel
theorem d_X_value_2 : decode mb_X_value 2 = .ok (.iload_n 2, 1) := by decide +kernel
theorem d_X_value_3 : decode mb_X_value 3 = .ok (.iload_n 3, 1) := by decide +kernel
theorem d_X_value_4 : decode mb_X_value 4 = .ok (.invokevirtual 152, 3) := by decide +kernel
theorem d_X_value_7 : decode mb_X_value 7 = .ok (.aload_n 0, 1) := by decide +kernel
theorem d_X_value_8 : decode mb_X_value 8 = .ok (.aload_n 0, 1) := by decide +kernel
theorem d_X_value_9 : decode mb_X_value 9 = .ok (.iload_n 1, 1) := by decide +kernel
theorem d_X_value_10 : decode mb_X_value 10 = .ok (.iload_n 2, 1) := by decide +kernel
theorem d_X_value_11 : decode mb_X_value 11 = .ok (.iload_n 3, 1) := by decide +kernel
theorem d_X_value_12 : decode mb_X_value 12 = .ok (.invokevirtual 156, 3) := by decide +kernel
theorem d_X_value_15 : decode mb_X_value 15 = .ok (.invokevirtual 160, 3) := by decide +kernel
theorem d_X_value_18 : decode mb_X_value 18 = .ok (.lreturn, 1) := by decide +kernel
theorem d_X_valueOf_0 : decode mb_X_valueOf 0 = .ok (.iload_n 1, 1) := by decide +kernel
theorem d_X_valueOf_1 : decode mb_X_valueOf 1 = .ok (.iconst (-1), 1) := by decide +kernel
theorem d_X_valueOf_2 : decode mb_X_valueOf 2 = .ok (.if_icmp .ne 9, 3) := by decide +kernel
theorem d_X_valueOf_5 : decode mb_X_valueOf 5 = .ok (.ldc2_w 172, 3) := by decide +kernel
theorem d_X_valueOf_8 : decode mb_X_valueOf 8 = .ok (.goto 12, 3) := by decide +kernel
theorem d_X_valueOf_11 : decode mb_X_valueOf 11 = .ok (.aload_n 0, 1) := by decide +kernel
theorem d_X_valueOf_12 : decode mb_X_valueOf 12 = .ok (.getfield 24, 3) := by decide +kernel
theorem d_X_valueOf_15 : decode mb_X_valueOf 15 = .ok (.iload_n 1, 1) := by decide +kernel
theorem d_X_valueOf_16 : decode mb_X_valueOf 16 = .ok (.aaload, 1) := by decide +kernel
theorem d_X_valueOf_17 : decode mb_X_valueOf 17 = .ok (.getfield 178, 3) := by decide +kernel
theorem d_X_valueOf_20 : decode mb_X_valueOf 20 = .ok (.lreturn, 1) := by decide +kernel
theorem d_X_listed_0 : decode mb_X_listed 0 = .ok (.aload_n 0, 1) := by decide +kernel
theorem d_X_listed_1 : decode mb_X_listed 1 = .ok (.iload_n 1, 1) := by decide +kernel
theorem d_X_listed_2 : decode mb_X_listed 2 = .ok (.iload_n 2, 1) := by decide +kernel
theorem d_X_listed_3 : decode mb_X_listed 3 = .ok (.iload_n 3, 1) := by decide +kernel
theorem d_X_listed_4 : decode mb_X_listed 4 = .ok (.invokevirtual 152, 3) := by decide +kernel
theorem d_X_listed_7 : decode mb_X_listed 7 = .ok (.iload 4, 2) := by decide +kernel
theorem d_X_listed_9 : decode mb_X_listed 9 = .ok (.ifCond .lt 12, 3) := by decide +kernel
theorem d_X_listed_12 : decode mb_X_listed 12 = .ok (.iload 4, 2) := by decide +kernel
theorem d_X_listed_14 : decode mb_X_listed 14 = .ok (.aload_n 0, 1) := by decide +kernel
theorem d_X_listed_15 : decode mb_X_listed 15 = .ok (.getfield 71, 3) := by decide +kernel
theorem d_X_listed_18 : decode mb_X_listed 18 = .ok (.if_icmp .lt 5, 3) := by decide +kernel
theorem d_X_listed_21 : decode mb_X_listed 21 = .ok (.iconst (-1), 1) := by decide +kernel
theorem d_X_listed_22 : decode mb_X_listed 22 = .ok (.ireturn, 1) := by decide +kernel
theorem d_X_listed_23 : decode mb_X_listed 23 = .ok (.aload_n 0, 1) := by decide +kernel
theorem d_X_listed_24 : decode mb_X_listed 24 = .ok (.iconst (-1), 1) := by decide +kernel
theorem d_X_listed_25 : decode mb_X_listed 25 = .ok (.iload_n 1, 1) := by decide +kernel
theorem d_X_listed_26 : decode mb_X_listed 26 = .ok (.aload_n 0, 1) := by decide +kernel
theorem d_X_listed_27 : decode mb_X_listed 27 = .ok (.getfield 38, 3) := by decide +kernel
theorem d_X_listed_30 : decode mb_X_listed 30 = .ok (.iload_n 2, 1) := by decide +kernel
theorem d_X_listed_31 : decode mb_X_listed 31 = .ok (.aaload, 1) := by decide +kernel
theorem d_X_listed_32 : decode mb_X_listed 32 = .ok (.aload_n 0, 1) := by decide +kernel
theorem d_X_listed_33 : decode mb_X_listed 33 = .ok (.getfield 38, 3) := by decide +kernel
theorem d_X_listed_36 : decode mb_X_listed 36 = .ok (.iload_n 3, 1) := by decide +kernel
theorem d_X_listed_37 : decode mb_X_listed 37 = .ok (.aaload, 1) := by decide +kernel
theorem d_X_listed_38 : decode mb_X_listed 38 = .ok (.invokevirtual 164, 3) := by decide +kernel
theorem d_X_listed_41 : decode mb_X_listed 41 = .ok (.istore 5, 2) := by decide +kernel
theorem d_X_listed_43 : decode mb_X_listed 43 = .ok (.iconst 0, 1) := by decide +kernel
theorem d_X_listed_44 : decode mb_X_listed 44 = .ok (.istore 6, 2) := by decide +kernel
theorem d_X_listed_46 : decode mb_X_listed 46 = .ok (.iload 6, 2) := by decide +kernel
theorem d_X_listed_48 : decode mb_X_listed 48 = .ok (.iload 4, 2) := by decide +kernel
theorem d_X_listed_50 : decode mb_X_listed 50 = .ok (.if_icmp .ge 36, 3) := by decide +kernel
theorem d_X_listed_53 : decode mb_X_listed 53 = .ok (.iload 5, 2) := by decide +kernel
theorem d_X_listed_55 : decode mb_X_listed 55 = .ok (.iconst (-1), 1) := by decide +kernel
theorem d_X_listed_56 : decode mb_X_listed 56 = .ok (.if_icmp .eq 30, 3) := by decide +kernel
theorem d_X_listed_59 : decode mb_X_listed 59 = .ok (.aload_n 0, 1) := by decide +kernel
theorem d_X_listed_60 : decode mb_X_listed 60 = .ok (.iload 5, 2) := by decide +kernel
theorem d_X_listed_62 : decode mb_X_listed 62 = .ok (.iload_n 1, 1) := by decide +kernel
theorem d_X_listed_63 : decode mb_X_listed 63 = .ok (.aload_n 0, 1) := by decide +kernel
theorem d_X_listed_64 : decode mb_X_listed 64 = .ok (.getfield 38, 3) := by decide +kernel
theorem d_X_listed_67 : decode mb_X_listed 67 = .ok (.iload_n 2, 1) := by decide +kernel
theorem d_X_listed_68 : decode mb_X_listed 68 = .ok (.aaload, 1) := by decide +kernel
theorem d_X_listed_69 : decode mb_X_listed 69 = .ok (.aload_n 0, 1) := by decide +kernel
theorem d_X_listed_70 : decode mb_X_listed 70 = .ok (.getfield 38, 3) := by decide +kernel
theorem d_X_listed_73 : decode mb_X_listed 73 = .ok (.iload_n 3, 1) := by decide +kernel
theorem d_X_listed_74 : decode mb_X_listed 74 = .ok (.aaload, 1) := by decide +kernel
theorem d_X_listed_75 : decode mb_X_listed 75 = .ok (.invokevirtual 164, 3) := by decide +kernel
theorem d_X_listed_78 : decode mb_X_listed 78 = .ok (.istore 5, 2) := by decide +kernel
theorem d_X_listed_80 : decode mb_X_listed 80 = .ok (.iinc 6 1, 3) := by decide +kernel
theorem d_X_listed_83 : decode mb_X_listed 83 = .ok (.goto (-37), 3) := by decide +kernel
theorem d_X_listed_86 : decode mb_X_listed 86 = .ok (.iload 5, 2) := by decide +kernel
theorem d_X_listed_88 : decode mb_X_listed 88 = .ok (.ireturn, 1) := by decide +kernel
theorem d_X_why_0 : decode mb_X_why 0 = .ok (.aload_n 0, 1) := by decide +kernel
theorem d_X_why_1 : decode mb_X_why 1 = .ok (.iload_n 1, 1) := by decide +kernel
theorem d_X_why_2 : decode mb_X_why 2 = .ok (.iload_n 2, 1) := by decide +kernel
theorem d_X_why_3 : decode mb_X_why 3 = .ok (.iload_n 3, 1) := by decide +kernel
theorem d_X_why_4 : decode mb_X_why 4 = .ok (.invokevirtual 152, 3) := by decide +kernel
theorem d_X_why_7 : decode mb_X_why 7 = .ok (.aload_n 0, 1) := by decide +kernel
theorem d_X_why_8 : decode mb_X_why 8 = .ok (.iload 4, 2) := by decide +kernel
theorem d_X_why_10 : decode mb_X_why 10 = .ok (.invokevirtual 81, 3) := by decide +kernel
theorem d_X_why_13 : decode mb_X_why 13 = .ok (.aload_n 0, 1) := by decide +kernel
theorem d_X_why_14 : decode mb_X_why 14 = .ok (.aload_n 0, 1) := by decide +kernel
theorem d_X_why_15 : decode mb_X_why 15 = .ok (.getfield 24, 3) := by decide +kernel
theorem d_X_why_18 : decode mb_X_why 18 = .ok (.iload 4, 2) := by decide +kernel
theorem d_X_why_20 : decode mb_X_why 20 = .ok (.aaload, 1) := by decide +kernel
theorem d_X_why_21 : decode mb_X_why 21 = .ok (.iload_n 1, 1) := by decide +kernel
theorem d_X_why_22 : decode mb_X_why 22 = .ok (.aload_n 0, 1) := by decide +kernel
theorem d_X_why_23 : decode mb_X_why 23 = .ok (.getfield 38, 3) := by decide +kernel
theorem d_X_why_26 : decode mb_X_why 26 = .ok (.iload_n 2, 1) := by decide +kernel
theorem d_X_why_27 : decode mb_X_why 27 = .ok (.aaload, 1) := by decide +kernel
theorem d_X_why_28 : decode mb_X_why 28 = .ok (.aload_n 0, 1) := by decide +kernel
theorem d_X_why_29 : decode mb_X_why 29 = .ok (.getfield 38, 3) := by decide +kernel
theorem d_X_why_32 : decode mb_X_why 32 = .ok (.iload_n 3, 1) := by decide +kernel
theorem d_X_why_33 : decode mb_X_why 33 = .ok (.aaload, 1) := by decide +kernel
theorem d_X_why_34 : decode mb_X_why 34 = .ok (.invokevirtual 168, 3) := by decide +kernel
theorem d_X_why_37 : decode mb_X_why 37 = .ok (.istore 5, 2) := by decide +kernel
theorem d_X_why_39 : decode mb_X_why 39 = .ok (.iload 5, 2) := by decide +kernel
theorem d_X_why_41 : decode mb_X_why 41 = .ok (.ifCond .eq 6, 3) := by decide +kernel
theorem d_X_why_44 : decode mb_X_why 44 = .ok (.iload 5, 2) := by decide +kernel
theorem d_X_why_46 : decode mb_X_why 46 = .ok (.ireturn, 1) := by decide +kernel
theorem d_X_why_47 : decode mb_X_why 47 = .ok (.aload_n 0, 1) := by decide +kernel
theorem d_X_why_48 : decode mb_X_why 48 = .ok (.iconst (-1), 1) := by decide +kernel
theorem d_X_why_49 : decode mb_X_why 49 = .ok (.iload_n 1, 1) := by decide +kernel
theorem d_X_why_50 : decode mb_X_why 50 = .ok (.aload_n 0, 1) := by decide +kernel
theorem d_X_why_51 : decode mb_X_why 51 = .ok (.getfield 38, 3) := by decide +kernel
theorem d_X_why_54 : decode mb_X_why 54 = .ok (.iload_n 2, 1) := by decide +kernel
theorem d_X_why_55 : decode mb_X_why 55 = .ok (.aaload, 1) := by decide +kernel
theorem d_X_why_56 : decode mb_X_why 56 = .ok (.aload_n 0, 1) := by decide +kernel
theorem d_X_why_57 : decode mb_X_why 57 = .ok (.getfield 38, 3) := by decide +kernel
theorem d_X_why_60 : decode mb_X_why 60 = .ok (.iload_n 3, 1) := by decide +kernel
theorem d_X_why_61 : decode mb_X_why 61 = .ok (.aaload, 1) := by decide +kernel
theorem d_X_why_62 : decode mb_X_why 62 = .ok (.invokevirtual 164, 3) := by decide +kernel
theorem d_X_why_65 : decode mb_X_why 65 = .ok (.istore 6, 2) := by decide +kernel
theorem d_X_why_67 : decode mb_X_why 67 = .ok (.iload 6, 2) := by decide +kernel
theorem d_X_why_69 : decode mb_X_why 69 = .ok (.iconst (-1), 1) := by decide +kernel
theorem d_X_why_70 : decode mb_X_why 70 = .ok (.if_icmp .eq 10, 3) := by decide +kernel
theorem d_X_why_73 : decode mb_X_why 73 = .ok (.iload 6, 2) := by decide +kernel
theorem d_X_why_75 : decode mb_X_why 75 = .ok (.iload 4, 2) := by decide +kernel
theorem d_X_why_77 : decode mb_X_why 77 = .ok (.if_icmp .ne 5, 3) := by decide +kernel
theorem d_X_why_80 : decode mb_X_why 80 = .ok (.iconst 0, 1) := by decide +kernel
theorem d_X_why_81 : decode mb_X_why 81 = .ok (.ireturn, 1) := by decide +kernel
theorem d_X_why_82 : decode mb_X_why 82 = .ok (.aload_n 0, 1) := by decide +kernel
theorem d_X_why_83 : decode mb_X_why 83 = .ok (.getfield 24, 3) := by decide +kernel
theorem d_X_why_86 : decode mb_X_why 86 = .ok (.iload 4, 2) := by decide +kernel
theorem d_X_why_88 : decode mb_X_why 88 = .ok (.aaload, 1) := by decide +kernel
theorem d_X_why_89 : decode mb_X_why 89 = .ok (.getfield 87, 3) := by decide +kernel
theorem d_X_why_92 : decode mb_X_why 92 = .ok (.aload_n 0, 1) := by decide +kernel
theorem d_X_why_93 : decode mb_X_why 93 = .ok (.getfield 24, 3) := by decide +kernel
theorem d_X_why_96 : decode mb_X_why 96 = .ok (.iload 6, 2) := by decide +kernel
theorem d_X_why_98 : decode mb_X_why 98 = .ok (.aaload, 1) := by decide +kernel
theorem d_X_why_99 : decode mb_X_why 99 = .ok (.getfield 87, 3) := by decide +kernel
theorem d_X_why_102 : decode mb_X_why 102 = .ok (.if_icmp .ge 7, 3) := by decide +kernel
theorem d_X_why_105 : decode mb_X_why 105 = .ok (.iconst 5, 1) := by decide +kernel
theorem d_X_why_106 : decode mb_X_why 106 = .ok (.goto 5, 3) := by decide +kernel
theorem d_X_why_109 : decode mb_X_why 109 = .ok (.bipush 6, 2) := by decide +kernel
theorem d_X_why_111 : decode mb_X_why 111 = .ok (.ireturn, 1) := by decide +kernel
theorem d_X_greatest_0 : decode mb_X_greatest 0 = .ok (.aload_n 0, 1) := by decide +kernel
theorem d_X_greatest_1 : decode mb_X_greatest 1 = .ok (.iload_n 1, 1) := by decide +kernel
theorem d_X_greatest_2 : decode mb_X_greatest 2 = .ok (.invokevirtual 57, 3) := by decide +kernel
theorem d_X_greatest_5 : decode mb_X_greatest 5 = .ok (.aload_n 0, 1) := by decide +kernel
theorem d_X_greatest_6 : decode mb_X_greatest 6 = .ok (.iload_n 2, 1) := by decide +kernel
theorem d_X_greatest_7 : decode mb_X_greatest 7 = .ok (.invokevirtual 116, 3) := by decide +kernel
theorem d_X_greatest_10 : decode mb_X_greatest 10 = .ok (.ldc2_w 172, 3) := by decide +kernel
theorem d_X_greatest_13 : decode mb_X_greatest 13 = .ok (.lstore_n 3, 1) := by decide +kernel
theorem d_X_greatest_14 : decode mb_X_greatest 14 = .ok (.iconst 0, 1) := by decide +kernel
theorem d_X_greatest_15 : decode mb_X_greatest 15 = .ok (.istore 5, 2) := by decide +kernel
theorem d_X_greatest_17 : decode mb_X_greatest 17 = .ok (.iload 5, 2) := by decide +kernel
theorem d_X_greatest_19 : decode mb_X_greatest 19 = .ok (.aload_n 0, 1) := by decide +kernel
theorem d_X_greatest_20 : decode mb_X_greatest 20 = .ok (.getfield 71, 3) := by decide +kernel
theorem d_X_greatest_23 : decode mb_X_greatest 23 = .ok (.if_icmp .ge 52, 3) := by decide +kernel
theorem d_X_greatest_26 : decode mb_X_greatest 26 = .ok (.aload_n 0, 1) := by decide +kernel
theorem d_X_greatest_27 : decode mb_X_greatest 27 = .ok (.getfield 24, 3) := by decide +kernel
theorem d_X_greatest_30 : decode mb_X_greatest 30 = .ok (.iload 5, 2) := by decide +kernel
theorem d_X_greatest_32 : decode mb_X_greatest 32 = .ok (.aaload, 1) := by decide +kernel
theorem d_X_greatest_33 : decode mb_X_greatest 33 = .ok (.getfield 90, 3) := by decide +kernel
theorem d_X_greatest_36 : decode mb_X_greatest 36 = .ok (.iload_n 1, 1) := by decide +kernel
theorem d_X_greatest_37 : decode mb_X_greatest 37 = .ok (.if_icmp .ne 32, 3) := by decide +kernel
theorem d_X_greatest_40 : decode mb_X_greatest 40 = .ok (.aload_n 0, 1) := by decide +kernel
theorem d_X_greatest_41 : decode mb_X_greatest 41 = .ok (.getfield 24, 3) := by decide +kernel
theorem d_X_greatest_44 : decode mb_X_greatest 44 = .ok (.iload 5, 2) := by decide +kernel
theorem d_X_greatest_46 : decode mb_X_greatest 46 = .ok (.aaload, 1) := by decide +kernel
theorem d_X_greatest_47 : decode mb_X_greatest 47 = .ok (.iload_n 2, 1) := by decide +kernel
theorem d_X_greatest_48 : decode mb_X_greatest 48 = .ok (.invokevirtual 174, 3) := by decide +kernel
theorem d_X_greatest_51 : decode mb_X_greatest 51 = .ok (.ifCond .eq 18, 3) := by decide +kernel
theorem d_X_greatest_54 : decode mb_X_greatest 54 = .ok (.lload_n 3, 1) := by decide +kernel
theorem d_X_greatest_55 : decode mb_X_greatest 55 = .ok (.aload_n 0, 1) := by decide +kernel
theorem d_X_greatest_56 : decode mb_X_greatest 56 = .ok (.getfield 24, 3) := by decide +kernel
theorem d_X_greatest_59 : decode mb_X_greatest 59 = .ok (.iload 5, 2) := by decide +kernel
theorem d_X_greatest_61 : decode mb_X_greatest 61 = .ok (.aaload, 1) := by decide +kernel
theorem d_X_greatest_62 : decode mb_X_greatest 62 = .ok (.getfield 178, 3) := by decide +kernel
theorem d_X_greatest_65 : decode mb_X_greatest 65 = .ok (.invokestatic 181, 3) := by decide +kernel
theorem d_X_greatest_68 : decode mb_X_greatest 68 = .ok (.lstore_n 3, 1) := by decide +kernel
theorem d_X_greatest_69 : decode mb_X_greatest 69 = .ok (.iinc 5 1, 3) := by decide +kernel
theorem d_X_greatest_72 : decode mb_X_greatest 72 = .ok (.goto (-55), 3) := by decide +kernel
theorem d_X_greatest_75 : decode mb_X_greatest 75 = .ok (.lload_n 3, 1) := by decide +kernel
theorem d_X_greatest_76 : decode mb_X_greatest 76 = .ok (.lreturn, 1) := by decide +kernel
theorem d_X_close_0 : decode mb_X_close 0 = .ok (.aload_n 0, 1) := by decide +kernel
theorem d_X_close_1 : decode mb_X_close 1 = .ok (.iload_n 1, 1) := by decide +kernel
theorem d_X_close_2 : decode mb_X_close 2 = .ok (.invokevirtual 57, 3) := by decide +kernel
theorem d_X_close_5 : decode mb_X_close 5 = .ok (.aload_n 0, 1) := by decide +kernel
theorem d_X_close_6 : decode mb_X_close 6 = .ok (.getfield 53, 3) := by decide +kernel
theorem d_X_close_9 : decode mb_X_close 9 = .ok (.invokevirtual 184, 3) := by decide +kernel
theorem d_X_close_12 : decode mb_X_close 12 = .ok (.iconst 0, 1) := by decide +kernel
theorem d_X_close_13 : decode mb_X_close 13 = .ok (.istore_n 2, 1) := by decide +kernel
theorem d_X_close_14 : decode mb_X_close 14 = .ok (.iload_n 2, 1) := by decide +kernel
theorem d_X_close_15 : decode mb_X_close 15 = .ok (.aload_n 0, 1) := by decide +kernel
theorem d_X_close_16 : decode mb_X_close 16 = .ok (.getfield 119, 3) := by decide +kernel
theorem d_X_close_19 : decode mb_X_close 19 = .ok (.if_icmp .ge 56, 3) := by decide +kernel
theorem d_X_close_22 : decode mb_X_close 22 = .ok (.iload_n 2, 1) := by decide +kernel
theorem d_X_close_23 : decode mb_X_close 23 = .ok (.iconst 1, 1) := by decide +kernel
theorem d_X_close_24 : decode mb_X_close 24 = .ok (.iadd, 1) := by decide +kernel
theorem d_X_close_25 : decode mb_X_close 25 = .ok (.istore_n 3, 1) := by decide +kernel
theorem d_X_close_26 : decode mb_X_close 26 = .ok (.iload_n 3, 1) := by decide +kernel
theorem d_X_close_27 : decode mb_X_close 27 = .ok (.aload_n 0, 1) := by decide +kernel
theorem d_X_close_28 : decode mb_X_close 28 = .ok (.getfield 119, 3) := by decide +kernel
theorem d_X_close_31 : decode mb_X_close 31 = .ok (.if_icmp .ge 38, 3) := by decide +kernel
theorem d_X_close_34 : decode mb_X_close 34 = .ok (.aload_n 0, 1) := by decide +kernel
theorem d_X_close_35 : decode mb_X_close 35 = .ok (.iload_n 1, 1) := by decide +kernel
theorem d_X_close_36 : decode mb_X_close 36 = .ok (.aload_n 0, 1) := by decide +kernel
theorem d_X_close_37 : decode mb_X_close 37 = .ok (.getfield 38, 3) := by decide +kernel
theorem d_X_close_40 : decode mb_X_close 40 = .ok (.iload_n 2, 1) := by decide +kernel
theorem d_X_close_41 : decode mb_X_close 41 = .ok (.aaload, 1) := by decide +kernel
theorem d_X_close_42 : decode mb_X_close 42 = .ok (.aload_n 0, 1) := by decide +kernel
theorem d_X_close_43 : decode mb_X_close 43 = .ok (.getfield 38, 3) := by decide +kernel
theorem d_X_close_46 : decode mb_X_close 46 = .ok (.iload_n 3, 1) := by decide +kernel
theorem d_X_close_47 : decode mb_X_close 47 = .ok (.aaload, 1) := by decide +kernel
theorem d_X_close_48 : decode mb_X_close 48 = .ok (.invokevirtual 187, 3) := by decide +kernel
theorem d_X_close_51 : decode mb_X_close 51 = .ok (.ifCond .eq 12, 3) := by decide +kernel
theorem d_X_close_54 : decode mb_X_close 54 = .ok (.aload_n 0, 1) := by decide +kernel
theorem d_X_close_55 : decode mb_X_close 55 = .ok (.getfield 53, 3) := by decide +kernel
theorem d_X_close_58 : decode mb_X_close 58 = .ok (.iload_n 2, 1) := by decide +kernel
theorem d_X_close_59 : decode mb_X_close 59 = .ok (.iload_n 3, 1) := by decide +kernel
theorem d_X_close_60 : decode mb_X_close 60 = .ok (.invokevirtual 191, 3) := by decide +kernel
theorem d_X_close_63 : decode mb_X_close 63 = .ok (.iinc 3 1, 3) := by decide +kernel
theorem d_X_close_66 : decode mb_X_close 66 = .ok (.goto (-40), 3) := by decide +kernel
theorem d_X_close_69 : decode mb_X_close 69 = .ok (.iinc 2 1, 3) := by decide +kernel
theorem d_X_close_72 : decode mb_X_close 72 = .ok (.goto (-58), 3) := by decide +kernel
theorem d_X_close_75 : decode mb_X_close 75 = .ok (.aload_n 0, 1) := by decide +kernel
theorem d_X_close_76 : decode mb_X_close 76 = .ok (.getfield 53, 3) := by decide +kernel
theorem d_X_close_79 : decode mb_X_close 79 = .ok (.getfield 194, 3) := by decide +kernel
theorem d_X_close_82 : decode mb_X_close 82 = .ok (.ireturn, 1) := by decide +kernel
theorem d_P_clear_0 : decode mb_P_clear 0 = .ok (.aload_n 0, 1) := by decide +kernel
theorem d_P_clear_1 : decode mb_P_clear 1 = .ok (.iconst 0, 1) := by decide +kernel
theorem d_P_clear_2 : decode mb_P_clear 2 = .ok (.putfield 18, 3) := by decide +kernel
theorem d_P_clear_5 : decode mb_P_clear 5 = .ok (.return_, 1) := by decide +kernel
theorem d_X_areTooNear_0 : decode mb_X_areTooNear 0 = .ok (.aload_n 2, 1) := by decide +kernel
theorem d_X_areTooNear_1 : decode mb_X_areTooNear 1 = .ok (.getfield 135, 3) := by decide +kernel
theorem d_X_areTooNear_4 : decode mb_X_areTooNear 4 = .ok (.aload_n 3, 1) := by decide +kernel
theorem d_X_areTooNear_5 : decode mb_X_areTooNear 5 = .ok (.getfield 135, 3) := by decide +kernel
theorem d_X_areTooNear_8 : decode mb_X_areTooNear 8 = .ok (.if_icmp .eq 5, 3) := by decide +kernel
theorem d_X_areTooNear_11 : decode mb_X_areTooNear 11 = .ok (.iconst 0, 1) := by decide +kernel
theorem d_X_areTooNear_12 : decode mb_X_areTooNear 12 = .ok (.ireturn, 1) := by decide +kernel
theorem d_X_areTooNear_13 : decode mb_X_areTooNear 13 = .ok (.aload_n 0, 1) := by decide +kernel
theorem d_X_areTooNear_14 : decode mb_X_areTooNear 14 = .ok (.iconst (-1), 1) := by decide +kernel
theorem d_X_areTooNear_15 : decode mb_X_areTooNear 15 = .ok (.iload_n 1, 1) := by decide +kernel
theorem d_X_areTooNear_16 : decode mb_X_areTooNear 16 = .ok (.aload_n 2, 1) := by decide +kernel
theorem d_X_areTooNear_17 : decode mb_X_areTooNear 17 = .ok (.aload_n 3, 1) := by decide +kernel
theorem d_X_areTooNear_18 : decode mb_X_areTooNear 18 = .ok (.invokevirtual 164, 3) := by decide +kernel
theorem d_X_areTooNear_21 : decode mb_X_areTooNear 21 = .ok (.istore 4, 2) := by decide +kernel
theorem d_X_areTooNear_23 : decode mb_X_areTooNear 23 = .ok (.iload 4, 2) := by decide +kernel
theorem d_X_areTooNear_25 : decode mb_X_areTooNear 25 = .ok (.iconst (-1), 1) := by decide +kernel
theorem d_X_areTooNear_26 : decode mb_X_areTooNear 26 = .ok (.if_icmp .ne 5, 3) := by decide +kernel
theorem d_X_areTooNear_29 : decode mb_X_areTooNear 29 = .ok (.iconst 0, 1) := by decide +kernel
theorem d_X_areTooNear_30 : decode mb_X_areTooNear 30 = .ok (.ireturn, 1) := by decide +kernel
theorem d_X_areTooNear_31 : decode mb_X_areTooNear 31 = .ok (.aload_n 0, 1) := by decide +kernel
theorem d_X_areTooNear_32 : decode mb_X_areTooNear 32 = .ok (.getfield 24, 3) := by decide +kernel
theorem d_X_areTooNear_35 : decode mb_X_areTooNear 35 = .ok (.iload 4, 2) := by decide +kernel
theorem d_X_areTooNear_37 : decode mb_X_areTooNear 37 = .ok (.aaload, 1) := by decide +kernel
theorem d_X_areTooNear_38 : decode mb_X_areTooNear 38 = .ok (.getfield 178, 3) := by decide +kernel
theorem d_X_areTooNear_41 : decode mb_X_areTooNear 41 = .ok (.lstore 5, 2) := by decide +kernel
theorem d_X_areTooNear_43 : decode mb_X_areTooNear 43 = .ok (.aload_n 2, 1) := by decide +kernel
theorem d_X_areTooNear_44 : decode mb_X_areTooNear 44 = .ok (.getfield 141, 3) := by decide +kernel
theorem d_X_areTooNear_47 : decode mb_X_areTooNear 47 = .ok (.aload_n 3, 1) := by decide +kernel
theorem d_X_areTooNear_48 : decode mb_X_areTooNear 48 = .ok (.getfield 141, 3) := by decide +kernel
theorem d_X_areTooNear_51 : decode mb_X_areTooNear 51 = .ok (.lsub, 1) := by decide +kernel
theorem d_X_areTooNear_52 : decode mb_X_areTooNear 52 = .ok (.lstore 7, 2) := by decide +kernel
theorem d_X_areTooNear_54 : decode mb_X_areTooNear 54 = .ok (.aload_n 2, 1) := by decide +kernel
theorem d_X_areTooNear_55 : decode mb_X_areTooNear 55 = .ok (.getfield 145, 3) := by decide +kernel
theorem d_X_areTooNear_58 : decode mb_X_areTooNear 58 = .ok (.aload_n 3, 1) := by decide +kernel
theorem d_X_areTooNear_59 : decode mb_X_areTooNear 59 = .ok (.getfield 145, 3) := by decide +kernel
theorem d_X_areTooNear_62 : decode mb_X_areTooNear 62 = .ok (.lsub, 1) := by decide +kernel
theorem d_X_areTooNear_63 : decode mb_X_areTooNear 63 = .ok (.lstore 9, 2) := by decide +kernel
theorem d_X_areTooNear_65 : decode mb_X_areTooNear 65 = .ok (.lload 7, 2) := by decide +kernel
theorem d_X_areTooNear_67 : decode mb_X_areTooNear 67 = .ok (.lload 7, 2) := by decide +kernel
theorem d_X_areTooNear_69 : decode mb_X_areTooNear 69 = .ok (.lmul, 1) := by decide +kernel
theorem d_X_areTooNear_70 : decode mb_X_areTooNear 70 = .ok (.lload 9, 2) := by decide +kernel
theorem d_X_areTooNear_72 : decode mb_X_areTooNear 72 = .ok (.lload 9, 2) := by decide +kernel
theorem d_X_areTooNear_74 : decode mb_X_areTooNear 74 = .ok (.lmul, 1) := by decide +kernel
theorem d_X_areTooNear_75 : decode mb_X_areTooNear 75 = .ok (.ladd, 1) := by decide +kernel
theorem d_X_areTooNear_76 : decode mb_X_areTooNear 76 = .ok (.lload 5, 2) := by decide +kernel
theorem d_X_areTooNear_78 : decode mb_X_areTooNear 78 = .ok (.lload 5, 2) := by decide +kernel
theorem d_X_areTooNear_80 : decode mb_X_areTooNear 80 = .ok (.lmul, 1) := by decide +kernel
theorem d_X_areTooNear_81 : decode mb_X_areTooNear 81 = .ok (.lcmp, 1) := by decide +kernel
theorem d_X_areTooNear_82 : decode mb_X_areTooNear 82 = .ok (.ifCond .ge 7, 3) := by decide +kernel
theorem d_X_areTooNear_85 : decode mb_X_areTooNear 85 = .ok (.iconst 1, 1) := by decide +kernel
theorem d_X_areTooNear_86 : decode mb_X_areTooNear 86 = .ok (.goto 4, 3) := by decide +kernel
theorem d_X_areTooNear_89 : decode mb_X_areTooNear 89 = .ok (.iconst 0, 1) := by decide +kernel
theorem d_X_areTooNear_90 : decode mb_X_areTooNear 90 = .ok (.ireturn, 1) := by decide +kernel
theorem d_P_add_0 : decode mb_P_add 0 = .ok (.aload_n 0, 1) := by decide +kernel
theorem d_P_add_1 : decode mb_P_add 1 = .ok (.getfield 18, 3) := by decide +kernel
theorem d_P_add_4 : decode mb_P_add 4 = .ok (.sipush 780, 3) := by decide +kernel
theorem d_P_add_7 : decode mb_P_add 7 = .ok (.if_icmp .ge 33, 3) := by decide +kernel
theorem d_P_add_10 : decode mb_P_add 10 = .ok (.aload_n 0, 1) := by decide +kernel
theorem d_P_add_11 : decode mb_P_add 11 = .ok (.getfield 11, 3) := by decide +kernel
theorem d_P_add_14 : decode mb_P_add 14 = .ok (.aload_n 0, 1) := by decide +kernel
theorem d_P_add_15 : decode mb_P_add 15 = .ok (.getfield 18, 3) := by decide +kernel
theorem d_P_add_18 : decode mb_P_add 18 = .ok (.iload_n 1, 1) := by decide +kernel
theorem d_P_add_19 : decode mb_P_add 19 = .ok (.iastore, 1) := by decide +kernel
theorem d_P_add_20 : decode mb_P_add 20 = .ok (.aload_n 0, 1) := by decide +kernel
theorem d_P_add_21 : decode mb_P_add 21 = .ok (.getfield 15, 3) := by decide +kernel
theorem d_P_add_24 : decode mb_P_add 24 = .ok (.aload_n 0, 1) := by decide +kernel
theorem d_P_add_25 : decode mb_P_add 25 = .ok (.getfield 18, 3) := by decide +kernel
theorem d_P_add_28 : decode mb_P_add 28 = .ok (.iload_n 2, 1) := by decide +kernel
theorem d_P_add_29 : decode mb_P_add 29 = .ok (.iastore, 1) := by decide +kernel
theorem d_P_add_30 : decode mb_P_add 30 = .ok (.aload_n 0, 1) := by decide +kernel
theorem d_P_add_31 : decode mb_P_add 31 = .ok (.dup, 1) := by decide +kernel
theorem d_P_add_32 : decode mb_P_add 32 = .ok (.getfield 18, 3) := by decide +kernel
theorem d_P_add_35 : decode mb_P_add 35 = .ok (.iconst 1, 1) := by decide +kernel
theorem d_P_add_36 : decode mb_P_add 36 = .ok (.iadd, 1) := by decide +kernel
theorem d_P_add_37 : decode mb_P_add 37 = .ok (.putfield 18, 3) := by decide +kernel
theorem d_P_add_40 : decode mb_P_add 40 = .ok (.return_, 1) := by decide +kernel
theorem d_X_pair_0 : decode mb_X_pair 0 = .ok (.aload_n 0, 1) := by decide +kernel
theorem d_X_pair_1 : decode mb_X_pair 1 = .ok (.iload_n 2, 1) := by decide +kernel
theorem d_X_pair_2 : decode mb_X_pair 2 = .ok (.invokevirtual 197, 3) := by decide +kernel
theorem d_X_pair_5 : decode mb_X_pair 5 = .ok (.iload_n 1, 1) := by decide +kernel
theorem d_X_pair_6 : decode mb_X_pair 6 = .ok (.ifCond .lt 14, 3) := by decide +kernel
theorem d_X_pair_9 : decode mb_X_pair 9 = .ok (.iload_n 1, 1) := by decide +kernel
theorem d_X_pair_10 : decode mb_X_pair 10 = .ok (.aload_n 0, 1) := by decide +kernel
theorem d_X_pair_11 : decode mb_X_pair 11 = .ok (.getfield 53, 3) := by decide +kernel
theorem d_X_pair_14 : decode mb_X_pair 14 = .ok (.getfield 194, 3) := by decide +kernel
theorem d_X_pair_17 : decode mb_X_pair 17 = .ok (.if_icmp .lt 5, 3) := by decide +kernel
theorem d_X_pair_20 : decode mb_X_pair 20 = .ok (.iconst (-1), 1) := by decide +kernel
theorem d_X_pair_21 : decode mb_X_pair 21 = .ok (.ireturn, 1) := by decide +kernel
theorem d_X_pair_22 : decode mb_X_pair 22 = .ok (.iload_n 2, 1) := by decide +kernel
theorem d_X_pair_23 : decode mb_X_pair 23 = .ok (.ifCond .ne 15, 3) := by decide +kernel
theorem d_X_pair_26 : decode mb_X_pair 26 = .ok (.aload_n 0, 1) := by decide +kernel
theorem d_X_pair_27 : decode mb_X_pair 27 = .ok (.getfield 53, 3) := by decide +kernel
theorem d_X_pair_30 : decode mb_X_pair 30 = .ok (.getfield 200, 3) := by decide +kernel
theorem d_X_pair_33 : decode mb_X_pair 33 = .ok (.iload_n 1, 1) := by decide +kernel
theorem d_X_pair_34 : decode mb_X_pair 34 = .ok (.iaload, 1) := by decide +kernel
theorem d_X_pair_35 : decode mb_X_pair 35 = .ok (.goto 12, 3) := by decide +kernel
theorem d_X_pair_38 : decode mb_X_pair 38 = .ok (.aload_n 0, 1) := by decide +kernel
theorem d_X_pair_39 : decode mb_X_pair 39 = .ok (.getfield 53, 3) := by decide +kernel
theorem d_X_pair_42 : decode mb_X_pair 42 = .ok (.getfield 204, 3) := by decide +kernel
theorem d_X_pair_45 : decode mb_X_pair 45 = .ok (.iload_n 1, 1) := by decide +kernel
theorem d_X_pair_46 : decode mb_X_pair 46 = .ok (.iaload, 1) := by decide +kernel
theorem d_X_pair_47 : decode mb_X_pair 47 = .ok (.ireturn, 1) := by decide +kernel
theorem d_X_needSide_0 : decode mb_X_needSide 0 = .ok (.iload_n 1, 1) := by decide +kernel
theorem d_X_needSide_1 : decode mb_X_needSide 1 = .ok (.ifCond .eq 18, 3) := by decide +kernel
theorem d_X_needSide_4 : decode mb_X_needSide 4 = .ok (.iload_n 1, 1) := by decide +kernel
theorem d_X_needSide_5 : decode mb_X_needSide 5 = .ok (.iconst 1, 1) := by decide +kernel
theorem d_X_needSide_6 : decode mb_X_needSide 6 = .ok (.if_icmp .eq 13, 3) := by decide +kernel
theorem d_X_needSide_9 : decode mb_X_needSide 9 = .ok (.new 233, 3) := by decide +kernel
theorem d_X_needSide_12 : decode mb_X_needSide 12 = .ok (.dup, 1) := by decide +kernel
theorem d_X_needSide_13 : decode mb_X_needSide 13 = .ok (.ldc 250, 2) := by decide +kernel
theorem d_X_needSide_15 : decode mb_X_needSide 15 = .ok (.invokespecial 237, 3) := by decide +kernel
theorem d_X_needSide_18 : decode mb_X_needSide 18 = .ok (.athrow, 1) := by decide +kernel
theorem d_X_needSide_19 : decode mb_X_needSide 19 = .ok (.return_, 1) := by decide +kernel
end
section
theorem d_M_init_0 : decode mb_M_init 0 = .ok (.aload_n 0, 1) := by decide +kernel
theorem d_M_init_1 : decode mb_M_init 1 = .ok (.invokespecial 1, 3) := by decide +kernel
theorem d_M_init_4 : decode mb_M_init 4 = .ok (.aload_n 0, 1) := by decide +kernel
theorem d_M_init_5 : decode mb_M_init 5 = .ok (.bipush 40, 2) := by decide +kernel
theorem d_M_init_7 : decode mb_M_init 7 = .ok (.newarray .int, 2) := by decide +kernel
theorem d_M_init_9 : decode mb_M_init 9 = .ok (.putfield 7, 3) := by decide +kernel
theorem d_M_init_12 : decode mb_M_init 12 = .ok (.aload_n 0, 1) := by decide +kernel
theorem d_M_init_13 : decode mb_M_init 13 = .ok (.bipush 40, 2) := by decide +kernel
theorem d_M_init_15 : decode mb_M_init 15 = .ok (.newarray .int, 2) := by decide +kernel
theorem d_M_init_17 : decode mb_M_init 17 = .ok (.putfield 13, 3) := by decide +kernel
theorem d_M_init_20 : decode mb_M_init 20 = .ok (.aload_n 0, 1) := by decide +kernel
theorem d_M_init_21 : decode mb_M_init 21 = .ok (.bipush 40, 2) := by decide +kernel
theorem d_M_init_23 : decode mb_M_init 23 = .ok (.newarray .int, 2) := by decide +kernel
theorem d_M_init_25 : decode mb_M_init 25 = .ok (.putfield 16, 3) := by decide +kernel
theorem d_M_init_28 : decode mb_M_init 28 = .ok (.aload_n 0, 1) := by decide +kernel
theorem d_M_init_29 : decode mb_M_init 29 = .ok (.bipush 40, 2) := by decide +kernel
theorem d_M_init_31 : decode mb_M_init 31 = .ok (.newarray .int, 2) := by decide +kernel
theorem d_M_init_33 : decode mb_M_init 33 = .ok (.putfield 19, 3) := by decide +kernel
theorem d_M_init_36 : decode mb_M_init 36 = .ok (.aload_n 0, 1) := by decide +kernel
theorem d_M_init_37 : decode mb_M_init 37 = .ok (.bipush 40, 2) := by decide +kernel
theorem d_M_init_39 : decode mb_M_init 39 = .ok (.newarray .long, 2) := by decide +kernel
theorem d_M_init_41 : decode mb_M_init 41 = .ok (.putfield 22, 3) := by decide +kernel
theorem d_M_init_44 : decode mb_M_init 44 = .ok (.aload_n 0, 1) := by decide +kernel
theorem d_M_init_45 : decode mb_M_init 45 = .ok (.bipush 40, 2) := by decide +kernel
theorem d_M_init_47 : decode mb_M_init 47 = .ok (.newarray .int, 2) := by decide +kernel
theorem d_M_init_49 : decode mb_M_init 49 = .ok (.putfield 26, 3) := by decide +kernel
theorem d_M_init_52 : decode mb_M_init 52 = .ok (.aload_n 0, 1) := by decide +kernel
theorem d_M_init_53 : decode mb_M_init 53 = .ok (.bipush 40, 2) := by decide +kernel
theorem d_M_init_55 : decode mb_M_init 55 = .ok (.newarray .int, 2) := by decide +kernel
theorem d_M_init_57 : decode mb_M_init 57 = .ok (.putfield 29, 3) := by decide +kernel
theorem d_M_init_60 : decode mb_M_init 60 = .ok (.aload_n 0, 1) := by decide +kernel
theorem d_M_init_61 : decode mb_M_init 61 = .ok (.bipush 48, 2) := by decide +kernel
theorem d_M_init_63 : decode mb_M_init 63 = .ok (.newarray .long, 2) := by decide +kernel
theorem d_M_init_65 : decode mb_M_init 65 = .ok (.putfield 32, 3) := by decide +kernel
theorem d_M_init_68 : decode mb_M_init 68 = .ok (.aload_n 0, 1) := by decide +kernel
theorem d_M_init_69 : decode mb_M_init 69 = .ok (.bipush 40, 2) := by decide +kernel
theorem d_M_init_71 : decode mb_M_init 71 = .ok (.newarray .int, 2) := by decide +kernel
theorem d_M_init_73 : decode mb_M_init 73 = .ok (.putfield 35, 3) := by decide +kernel
theorem d_M_init_76 : decode mb_M_init 76 = .ok (.aload_n 0, 1) := by decide +kernel
theorem d_M_init_77 : decode mb_M_init 77 = .ok (.bipush 40, 2) := by decide +kernel
theorem d_M_init_79 : decode mb_M_init 79 = .ok (.newarray .int, 2) := by decide +kernel
theorem d_M_init_81 : decode mb_M_init 81 = .ok (.putfield 38, 3) := by decide +kernel
theorem d_M_init_84 : decode mb_M_init 84 = .ok (.aload_n 0, 1) := by decide +kernel
theorem d_M_init_85 : decode mb_M_init 85 = .ok (.bipush 40, 2) := by decide +kernel
theorem d_M_init_87 : decode mb_M_init 87 = .ok (.newarray .long, 2) := by decide +kernel
theorem d_M_init_89 : decode mb_M_init 89 = .ok (.putfield 41, 3) := by decide +kernel
theorem d_M_init_92 : decode mb_M_init 92 = .ok (.aload_n 0, 1) := by decide +kernel
theorem d_M_init_93 : decode mb_M_init 93 = .ok (.bipush 40, 2) := by decide +kernel
theorem d_M_init_95 : decode mb_M_init 95 = .ok (.newarray .long, 2) := by decide +kernel
theorem d_M_init_97 : decode mb_M_init 97 = .ok (.putfield 44, 3) := by decide +kernel
theorem d_M_init_100 : decode mb_M_init 100 = .ok (.aload_n 0, 1) := by decide +kernel
theorem d_M_init_101 : decode mb_M_init 101 = .ok (.sipush 9600, 3) := by decide +kernel
theorem d_M_init_104 : decode mb_M_init 104 = .ok (.newarray .boolean, 2) := by decide +kernel
theorem d_M_init_106 : decode mb_M_init 106 = .ok (.putfield 47, 3) := by decide +kernel
theorem d_M_init_109 : decode mb_M_init 109 = .ok (.aload_n 0, 1) := by decide +kernel
theorem d_M_init_110 : decode mb_M_init 110 = .ok (.sipush 780, 3) := by decide +kernel
theorem d_M_init_113 : decode mb_M_init 113 = .ok (.newarray .int, 2) := by decide +kernel
theorem d_M_init_115 : decode mb_M_init 115 = .ok (.putfield 51, 3) := by decide +kernel
theorem d_M_init_118 : decode mb_M_init 118 = .ok (.aload_n 0, 1) := by decide +kernel
theorem d_M_init_119 : decode mb_M_init 119 = .ok (.sipush 780, 3) := by decide +kernel
theorem d_M_init_122 : decode mb_M_init 122 = .ok (.newarray .int, 2) := by decide +kernel
theorem d_M_init_124 : decode mb_M_init 124 = .ok (.putfield 54, 3) := by decide +kernel
theorem d_M_init_127 : decode mb_M_init 127 = .ok (.aload_n 0, 1) := by decide +kernel
theorem d_M_init_128 : decode mb_M_init 128 = .ok (.iload_n 1, 1) := by decide +kernel
theorem d_M_init_129 : decode mb_M_init 129 = .ok (.iconst 1, 1) := by decide +kernel
theorem d_M_init_130 : decode mb_M_init 130 = .ok (.if_icmp .ge 7, 3) := by decide +kernel
theorem d_M_init_133 : decode mb_M_init 133 = .ok (.iconst 1, 1) := by decide +kernel
theorem d_M_init_134 : decode mb_M_init 134 = .ok (.goto 15, 3) := by decide +kernel
theorem d_M_init_137 : decode mb_M_init 137 = .ok (.iload_n 1, 1) := by decide +kernel
theorem d_M_init_138 : decode mb_M_init 138 = .ok (.bipush 16, 2) := by decide +kernel
theorem d_M_init_140 : decode mb_M_init 140 = .ok (.if_icmp .le 8, 3) := by decide +kernel
theorem d_M_init_143 : decode mb_M_init 143 = .ok (.bipush 16, 2) := by decide +kernel
theorem d_M_init_145 : decode mb_M_init 145 = .ok (.goto 4, 3) := by decide +kernel
theorem d_M_init_148 : decode mb_M_init 148 = .ok (.iload_n 1, 1) := by decide +kernel
theorem d_M_init_149 : decode mb_M_init 149 = .ok (.putfield 57, 3) := by decide +kernel
theorem d_M_init_152 : decode mb_M_init 152 = .ok (.return_, 1) := by decide +kernel
theorem d_M_thrown_0 : decode mb_M_thrown 0 = .ok (.aload_n 0, 1) := by decide +kernel
theorem d_M_thrown_1 : decode mb_M_thrown 1 = .ok (.getfield 61, 3) := by decide +kernel
theorem d_M_thrown_4 : decode mb_M_thrown 4 = .ok (.ireturn, 1) := by decide +kernel
theorem d_M_rule_0 : decode mb_M_rule 0 = .ok (.iload_n 1, 1) := by decide +kernel
theorem d_M_rule_1 : decode mb_M_rule 1 = .ok (.invokestatic 74, 3) := by decide +kernel
theorem d_M_rule_4 : decode mb_M_rule 4 = .ok (.ifCond .eq 47, 3) := by decide +kernel
theorem d_M_rule_7 : decode mb_M_rule 7 = .ok (.iload_n 2, 1) := by decide +kernel
theorem d_M_rule_8 : decode mb_M_rule 8 = .ok (.iconst (-1), 1) := by decide +kernel
theorem d_M_rule_9 : decode mb_M_rule 9 = .ok (.if_icmp .eq 11, 3) := by decide +kernel
theorem d_M_rule_12 : decode mb_M_rule 12 = .ok (.aload_n 0, 1) := by decide +kernel
theorem d_M_rule_13 : decode mb_M_rule 13 = .ok (.iload_n 2, 1) := by decide +kernel
theorem d_M_rule_14 : decode mb_M_rule 14 = .ok (.invokevirtual 78, 3) := by decide +kernel
theorem d_M_rule_17 : decode mb_M_rule 17 = .ok (.ifCond .eq 34, 3) := by decide +kernel
theorem d_M_rule_20 : decode mb_M_rule 20 = .ok (.iload_n 3, 1) := by decide +kernel
theorem d_M_rule_21 : decode mb_M_rule 21 = .ok (.iconst (-1), 1) := by decide +kernel
theorem d_M_rule_22 : decode mb_M_rule 22 = .ok (.if_icmp .eq 11, 3) := by decide +kernel
theorem d_M_rule_25 : decode mb_M_rule 25 = .ok (.aload_n 0, 1) := by decide +kernel
theorem d_M_rule_26 : decode mb_M_rule 26 = .ok (.iload_n 3, 1) := by decide +kernel
theorem d_M_rule_27 : decode mb_M_rule 27 = .ok (.invokevirtual 78, 3) := by decide +kernel
theorem d_M_rule_30 : decode mb_M_rule 30 = .ok (.ifCond .eq 21, 3) := by decide +kernel
theorem d_M_rule_33 : decode mb_M_rule 33 = .ok (.iload 4, 2) := by decide +kernel
theorem d_M_rule_35 : decode mb_M_rule 35 = .ok (.iconst (-1), 1) := by decide +kernel
theorem d_M_rule_36 : decode mb_M_rule 36 = .ok (.if_icmp .eq 11, 3) := by decide +kernel
theorem d_M_rule_39 : decode mb_M_rule 39 = .ok (.iload 4, 2) := by decide +kernel
theorem d_M_rule_41 : decode mb_M_rule 41 = .ok (.invokestatic 81, 3) := by decide +kernel
theorem d_M_rule_44 : decode mb_M_rule 44 = .ok (.ifCond .eq 7, 3) := by decide +kernel
theorem d_M_rule_47 : decode mb_M_rule 47 = .ok (.iconst 1, 1) := by decide +kernel
theorem d_M_rule_48 : decode mb_M_rule 48 = .ok (.goto 4, 3) := by decide +kernel
theorem d_M_rule_51 : decode mb_M_rule 51 = .ok (.iconst 0, 1) := by decide +kernel
theorem d_M_rule_52 : decode mb_M_rule 52 = .ok (.istore 7, 2) := by decide +kernel
theorem d_M_rule_54 : decode mb_M_rule 54 = .ok (.aload_n 0, 1) := by decide +kernel
theorem d_M_rule_55 : decode mb_M_rule 55 = .ok (.iload 7, 2) := by decide +kernel
theorem d_M_rule_57 : decode mb_M_rule 57 = .ok (.ifCond .ne 7, 3) := by decide +kernel
theorem d_M_rule_60 : decode mb_M_rule 60 = .ok (.iconst 1, 1) := by decide +kernel
theorem d_M_rule_61 : decode mb_M_rule 61 = .ok (.goto 24, 3) := by decide +kernel
theorem d_M_rule_64 : decode mb_M_rule 64 = .ok (.lload 5, 2) := by decide +kernel
theorem d_M_rule_66 : decode mb_M_rule 66 = .ok (.lconst 0, 1) := by decide +kernel
theorem d_M_rule_67 : decode mb_M_rule 67 = .ok (.lcmp, 1) := by decide +kernel
theorem d_M_rule_68 : decode mb_M_rule 68 = .ok (.ifCond .lt 12, 3) := by decide +kernel
theorem d_M_rule_71 : decode mb_M_rule 71 = .ok (.lload 5, 2) := by decide +kernel
theorem d_M_rule_73 : decode mb_M_rule 73 = .ok (.ldc2_w 72, 3) := by decide +kernel
theorem d_M_rule_76 : decode mb_M_rule 76 = .ok (.lcmp, 1) := by decide +kernel
theorem d_M_rule_77 : decode mb_M_rule 77 = .ok (.ifCond .le 7, 3) := by decide +kernel
theorem d_M_rule_80 : decode mb_M_rule 80 = .ok (.iconst 2, 1) := by decide +kernel
theorem d_M_rule_81 : decode mb_M_rule 81 = .ok (.goto 4, 3) := by decide +kernel
theorem d_M_rule_84 : decode mb_M_rule 84 = .ok (.iconst 0, 1) := by decide +kernel
theorem d_M_rule_85 : decode mb_M_rule 85 = .ok (.putfield 61, 3) := by decide +kernel
theorem d_M_rule_88 : decode mb_M_rule 88 = .ok (.aload_n 0, 1) := by decide +kernel
theorem d_M_rule_89 : decode mb_M_rule 89 = .ok (.getfield 61, 3) := by decide +kernel
theorem d_M_rule_92 : decode mb_M_rule 92 = .ok (.ifCond .eq 5, 3) := by decide +kernel
theorem d_M_rule_95 : decode mb_M_rule 95 = .ok (.iconst 0, 1) := by decide +kernel
theorem d_M_rule_96 : decode mb_M_rule 96 = .ok (.ireturn, 1) := by decide +kernel
theorem d_M_rule_97 : decode mb_M_rule 97 = .ok (.aload_n 0, 1) := by decide +kernel
theorem d_M_rule_98 : decode mb_M_rule 98 = .ok (.getfield 67, 3) := by decide +kernel
theorem d_M_rule_101 : decode mb_M_rule 101 = .ok (.bipush 40, 2) := by decide +kernel
theorem d_M_rule_103 : decode mb_M_rule 103 = .ok (.if_icmp .ne 5, 3) := by decide +kernel
theorem d_M_rule_106 : decode mb_M_rule 106 = .ok (.iconst (-1), 1) := by decide +kernel
theorem d_M_rule_107 : decode mb_M_rule 107 = .ok (.ireturn, 1) := by decide +kernel
theorem d_M_rule_108 : decode mb_M_rule 108 = .ok (.aload_n 0, 1) := by decide +kernel
theorem d_M_rule_109 : decode mb_M_rule 109 = .ok (.getfield 7, 3) := by decide +kernel
theorem d_M_rule_112 : decode mb_M_rule 112 = .ok (.aload_n 0, 1) := by decide +kernel
theorem d_M_rule_113 : decode mb_M_rule 113 = .ok (.getfield 67, 3) := by decide +kernel
theorem d_M_rule_116 : decode mb_M_rule 116 = .ok (.iload_n 1, 1) := by decide +kernel
theorem d_M_rule_117 : decode mb_M_rule 117 = .ok (.iastore, 1) := by decide +kernel
theorem d_M_rule_118 : decode mb_M_rule 118 = .ok (.aload_n 0, 1) := by decide +kernel
theorem d_M_rule_119 : decode mb_M_rule 119 = .ok (.getfield 13, 3) := by decide +kernel
theorem d_M_rule_122 : decode mb_M_rule 122 = .ok (.aload_n 0, 1) := by decide +kernel
theorem d_M_rule_123 : decode mb_M_rule 123 = .ok (.getfield 67, 3) := by decide +kernel
theorem d_M_rule_126 : decode mb_M_rule 126 = .ok (.iload_n 2, 1) := by decide +kernel
theorem d_M_rule_127 : decode mb_M_rule 127 = .ok (.iastore, 1) := by decide +kernel
theorem d_M_rule_128 : decode mb_M_rule 128 = .ok (.aload_n 0, 1) := by decide +kernel
theorem d_M_rule_129 : decode mb_M_rule 129 = .ok (.getfield 16, 3) := by decide +kernel
theorem d_M_rule_132 : decode mb_M_rule 132 = .ok (.aload_n 0, 1) := by decide +kernel
theorem d_M_rule_133 : decode mb_M_rule 133 = .ok (.getfield 67, 3) := by decide +kernel
theorem d_M_rule_136 : decode mb_M_rule 136 = .ok (.iload_n 3, 1) := by decide +kernel
theorem d_M_rule_137 : decode mb_M_rule 137 = .ok (.iastore, 1) := by decide +kernel
theorem d_M_rule_138 : decode mb_M_rule 138 = .ok (.aload_n 0, 1) := by decide +kernel
theorem d_M_rule_139 : decode mb_M_rule 139 = .ok (.getfield 19, 3) := by decide +kernel
theorem d_M_rule_142 : decode mb_M_rule 142 = .ok (.aload_n 0, 1) := by decide +kernel
theorem d_M_rule_143 : decode mb_M_rule 143 = .ok (.getfield 67, 3) := by decide +kernel
theorem d_M_rule_146 : decode mb_M_rule 146 = .ok (.iload 4, 2) := by decide +kernel
theorem d_M_rule_148 : decode mb_M_rule 148 = .ok (.iastore, 1) := by decide +kernel
theorem d_M_rule_149 : decode mb_M_rule 149 = .ok (.aload_n 0, 1) := by decide +kernel
theorem d_M_rule_150 : decode mb_M_rule 150 = .ok (.getfield 22, 3) := by decide +kernel
theorem d_M_rule_153 : decode mb_M_rule 153 = .ok (.aload_n 0, 1) := by decide +kernel
theorem d_M_rule_154 : decode mb_M_rule 154 = .ok (.getfield 67, 3) := by decide +kernel
theorem d_M_rule_157 : decode mb_M_rule 157 = .ok (.lload 5, 2) := by decide +kernel
theorem d_M_rule_159 : decode mb_M_rule 159 = .ok (.lastore, 1) := by decide +kernel
theorem d_M_rule_160 : decode mb_M_rule 160 = .ok (.aload_n 0, 1) := by decide +kernel
theorem d_M_rule_161 : decode mb_M_rule 161 = .ok (.iload_n 1, 1) := by decide +kernel
theorem d_M_rule_162 : decode mb_M_rule 162 = .ok (.invokevirtual 84, 3) := by decide +kernel
theorem d_M_rule_165 : decode mb_M_rule 165 = .ok (.aload_n 0, 1) := by decide +kernel
theorem d_M_rule_166 : decode mb_M_rule 166 = .ok (.dup, 1) := by decide +kernel
theorem d_M_rule_167 : decode mb_M_rule 167 = .ok (.getfield 67, 3) := by decide +kernel
theorem d_M_rule_170 : decode mb_M_rule 170 = .ok (.iconst 1, 1) := by decide +kernel
theorem d_M_rule_171 : decode mb_M_rule 171 = .ok (.iadd, 1) := by decide +kernel
theorem d_M_rule_172 : decode mb_M_rule 172 = .ok (.putfield 67, 3) := by decide +kernel
theorem d_M_rule_175 : decode mb_M_rule 175 = .ok (.aload_n 0, 1) := by decide +kernel
theorem d_M_rule_176 : decode mb_M_rule 176 = .ok (.getfield 67, 3) := by decide +kernel
theorem d_M_rule_179 : decode mb_M_rule 179 = .ok (.iconst 1, 1) := by decide +kernel
theorem d_M_rule_180 : decode mb_M_rule 180 = .ok (.isub, 1) := by decide +kernel
theorem d_M_rule_181 : decode mb_M_rule 181 = .ok (.ireturn, 1) := by decide +kernel
theorem d_M_isKind_0 : decode mb_M_isKind 0 = .ok (.iload_n 0, 1) := by decide +kernel
theorem d_M_isKind_1 : decode mb_M_isKind 1 = .ok (.ifCond .lt 13, 3) := by decide +kernel
theorem d_M_isKind_4 : decode mb_M_isKind 4 = .ok (.iload_n 0, 1) := by decide +kernel
theorem d_M_isKind_5 : decode mb_M_isKind 5 = .ok (.bipush 6, 2) := by decide +kernel
theorem d_M_isKind_7 : decode mb_M_isKind 7 = .ok (.if_icmp .ge 7, 3) := by decide +kernel
theorem d_M_isKind_10 : decode mb_M_isKind 10 = .ok (.iconst 1, 1) := by decide +kernel
theorem d_M_isKind_11 : decode mb_M_isKind 11 = .ok (.goto 4, 3) := by decide +kernel
theorem d_M_isKind_14 : decode mb_M_isKind 14 = .ok (.iconst 0, 1) := by decide +kernel
theorem d_M_isKind_15 : decode mb_M_isKind 15 = .ok (.ireturn, 1) := by decide +kernel
theorem d_M_isClass_0 : decode mb_M_isClass 0 = .ok (.iload_n 1, 1) := by decide +kernel
theorem d_M_isClass_1 : decode mb_M_isClass 1 = .ok (.ifCond .lt 15, 3) := by decide +kernel
theorem d_M_isClass_4 : decode mb_M_isClass 4 = .ok (.iload_n 1, 1) := by decide +kernel
theorem d_M_isClass_5 : decode mb_M_isClass 5 = .ok (.aload_n 0, 1) := by decide +kernel
theorem d_M_isClass_6 : decode mb_M_isClass 6 = .ok (.getfield 57, 3) := by decide +kernel
theorem d_M_isClass_9 : decode mb_M_isClass 9 = .ok (.if_icmp .ge 7, 3) := by decide +kernel
theorem d_M_isClass_12 : decode mb_M_isClass 12 = .ok (.iconst 1, 1) := by decide +kernel
theorem d_M_isClass_13 : decode mb_M_isClass 13 = .ok (.goto 4, 3) := by decide +kernel
theorem d_M_isClass_16 : decode mb_M_isClass 16 = .ok (.iconst 0, 1) := by decide +kernel
theorem d_M_isClass_17 : decode mb_M_isClass 17 = .ok (.ireturn, 1) := by decide +kernel
theorem d_M_isLayer_0 : decode mb_M_isLayer 0 = .ok (.iload_n 0, 1) := by decide +kernel
theorem d_M_isLayer_1 : decode mb_M_isLayer 1 = .ok (.ifCond .lt 13, 3) := by decide +kernel
theorem d_M_isLayer_4 : decode mb_M_isLayer 4 = .ok (.iload_n 0, 1) := by decide +kernel
theorem d_M_isLayer_5 : decode mb_M_isLayer 5 = .ok (.bipush 8, 2) := by decide +kernel
theorem d_M_isLayer_7 : decode mb_M_isLayer 7 = .ok (.if_icmp .ge 7, 3) := by decide +kernel
theorem d_M_isLayer_10 : decode mb_M_isLayer 10 = .ok (.iconst 1, 1) := by decide +kernel
theorem d_M_isLayer_11 : decode mb_M_isLayer 11 = .ok (.goto 4, 3) := by decide +kernel
theorem d_M_isLayer_14 : decode mb_M_isLayer 14 = .ok (.iconst 0, 1) := by decide +kernel
theorem d_M_isLayer_15 : decode mb_M_isLayer 15 = .ok (.ireturn, 1) := by decide +kernel
theorem d_M_dropKind_0 : decode mb_M_dropKind 0 = .ok (.sipush 1600, 3) := by decide +kernel
theorem d_M_dropKind_3 : decode mb_M_dropKind 3 = .ok (.iload_n 1, 1) := by decide +kernel
theorem d_M_dropKind_4 : decode mb_M_dropKind 4 = .ok (.imul, 1) := by decide +kernel
theorem d_M_dropKind_5 : decode mb_M_dropKind 5 = .ok (.istore_n 2, 1) := by decide +kernel
theorem d_M_dropKind_6 : decode mb_M_dropKind 6 = .ok (.iload_n 2, 1) := by decide +kernel
theorem d_M_dropKind_7 : decode mb_M_dropKind 7 = .ok (.sipush 1600, 3) := by decide +kernel
theorem d_M_dropKind_10 : decode mb_M_dropKind 10 = .ok (.iload_n 1, 1) := by decide +kernel
theorem d_M_dropKind_11 : decode mb_M_dropKind 11 = .ok (.imul, 1) := by decide +kernel
theorem d_M_dropKind_12 : decode mb_M_dropKind 12 = .ok (.sipush 1600, 3) := by decide +kernel
theorem d_M_dropKind_15 : decode mb_M_dropKind 15 = .ok (.iadd, 1) := by decide +kernel
theorem d_M_dropKind_16 : decode mb_M_dropKind 16 = .ok (.if_icmp .ge 16, 3) := by decide +kernel
theorem d_M_dropKind_19 : decode mb_M_dropKind 19 = .ok (.aload_n 0, 1) := by decide +kernel
theorem d_M_dropKind_20 : decode mb_M_dropKind 20 = .ok (.getfield 47, 3) := by decide +kernel
theorem d_M_dropKind_23 : decode mb_M_dropKind 23 = .ok (.iload_n 2, 1) := by decide +kernel
theorem d_M_dropKind_24 : decode mb_M_dropKind 24 = .ok (.iconst 0, 1) := by decide +kernel
theorem d_M_dropKind_25 : decode mb_M_dropKind 25 = .ok (.bastore, 1) := by decide +kernel
theorem d_M_dropKind_26 : decode mb_M_dropKind 26 = .ok (.iinc 2 1, 3) := by decide +kernel
theorem d_M_dropKind_29 : decode mb_M_dropKind 29 = .ok (.goto (-23), 3) := by decide +kernel
theorem d_M_dropKind_32 : decode mb_M_dropKind 32 = .ok (.return_, 1) := by decide +kernel
theorem d_M_rank_0 : decode mb_M_rank 0 = .ok (.aload_n 0, 1) := by decide +kernel
theorem d_M_rank_1 : decode mb_M_rank 1 = .ok (.aload_n 0, 1) := by decide +kernel
theorem d_M_rank_2 : decode mb_M_rank 2 = .ok (.iload_n 1, 1) := by decide +kernel
theorem d_M_rank_3 : decode mb_M_rank 3 = .ok (.invokevirtual 88, 3) := by decide +kernel
theorem d_M_rank_6 : decode mb_M_rank 6 = .ok (.ifCond .ne 7, 3) := by decide +kernel
theorem d_M_rank_9 : decode mb_M_rank 9 = .ok (.iconst 1, 1) := by decide +kernel
theorem d_M_rank_10 : decode mb_M_rank 10 = .ok (.goto 22, 3) := by decide +kernel
theorem d_M_rank_13 : decode mb_M_rank 13 = .ok (.iload_n 2, 1) := by decide +kernel
theorem d_M_rank_14 : decode mb_M_rank 14 = .ok (.sipush (-1000), 3) := by decide +kernel
theorem d_M_rank_17 : decode mb_M_rank 17 = .ok (.if_icmp .lt 10, 3) := by decide +kernel
theorem d_M_rank_20 : decode mb_M_rank 20 = .ok (.iload_n 2, 1) := by decide +kernel
theorem d_M_rank_21 : decode mb_M_rank 21 = .ok (.sipush 1000, 3) := by decide +kernel
theorem d_M_rank_24 : decode mb_M_rank 24 = .ok (.if_icmp .le 7, 3) := by decide +kernel
theorem d_M_rank_27 : decode mb_M_rank 27 = .ok (.iconst 2, 1) := by decide +kernel
theorem d_M_rank_28 : decode mb_M_rank 28 = .ok (.goto 4, 3) := by decide +kernel
theorem d_M_rank_31 : decode mb_M_rank 31 = .ok (.iconst 0, 1) := by decide +kernel
theorem d_M_rank_32 : decode mb_M_rank 32 = .ok (.putfield 61, 3) := by decide +kernel
theorem d_M_rank_35 : decode mb_M_rank 35 = .ok (.aload_n 0, 1) := by decide +kernel
theorem d_M_rank_36 : decode mb_M_rank 36 = .ok (.getfield 61, 3) := by decide +kernel
theorem d_M_rank_39 : decode mb_M_rank 39 = .ok (.ifCond .ne 13, 3) := by decide +kernel
theorem d_M_rank_42 : decode mb_M_rank 42 = .ok (.aload_n 0, 1) := by decide +kernel
theorem d_M_rank_43 : decode mb_M_rank 43 = .ok (.getfield 26, 3) := by decide +kernel
theorem d_M_rank_46 : decode mb_M_rank 46 = .ok (.iload_n 1, 1) := by decide +kernel
theorem d_M_rank_47 : decode mb_M_rank 47 = .ok (.iaload, 1) := by decide +kernel
theorem d_M_rank_48 : decode mb_M_rank 48 = .ok (.iload_n 2, 1) := by decide +kernel
theorem d_M_rank_49 : decode mb_M_rank 49 = .ok (.if_icmp .ne 5, 3) := by decide +kernel
theorem d_M_rank_52 : decode mb_M_rank 52 = .ok (.iconst 0, 1) := by decide +kernel
theorem d_M_rank_53 : decode mb_M_rank 53 = .ok (.ireturn, 1) := by decide +kernel
theorem d_M_rank_54 : decode mb_M_rank 54 = .ok (.aload_n 0, 1) := by decide +kernel
theorem d_M_rank_55 : decode mb_M_rank 55 = .ok (.getfield 26, 3) := by decide +kernel
theorem d_M_rank_58 : decode mb_M_rank 58 = .ok (.iload_n 1, 1) := by decide +kernel
theorem d_M_rank_59 : decode mb_M_rank 59 = .ok (.iload_n 2, 1) := by decide +kernel
theorem d_M_rank_60 : decode mb_M_rank 60 = .ok (.iastore, 1) := by decide +kernel
theorem d_M_rank_61 : decode mb_M_rank 61 = .ok (.aload_n 0, 1) := by decide +kernel
theorem d_M_rank_62 : decode mb_M_rank 62 = .ok (.aload_n 0, 1) := by decide +kernel
theorem d_M_rank_63 : decode mb_M_rank 63 = .ok (.getfield 7, 3) := by decide +kernel
theorem d_M_rank_66 : decode mb_M_rank 66 = .ok (.iload_n 1, 1) := by decide +kernel
theorem d_M_rank_67 : decode mb_M_rank 67 = .ok (.iaload, 1) := by decide +kernel
theorem d_M_rank_68 : decode mb_M_rank 68 = .ok (.invokevirtual 84, 3) := by decide +kernel
theorem d_M_rank_71 : decode mb_M_rank 71 = .ok (.iconst 1, 1) := by decide +kernel
theorem d_M_rank_72 : decode mb_M_rank 72 = .ok (.ireturn, 1) := by decide +kernel
theorem d_M_isRule_0 : decode mb_M_isRule 0 = .ok (.iload_n 1, 1) := by decide +kernel
theorem d_M_isRule_1 : decode mb_M_isRule 1 = .ok (.ifCond .lt 15, 3) := by decide +kernel
theorem d_M_isRule_4 : decode mb_M_isRule 4 = .ok (.iload_n 1, 1) := by decide +kernel
theorem d_M_isRule_5 : decode mb_M_isRule 5 = .ok (.aload_n 0, 1) := by decide +kernel
theorem d_M_isRule_6 : decode mb_M_isRule 6 = .ok (.getfield 67, 3) := by decide +kernel
theorem d_M_isRule_9 : decode mb_M_isRule 9 = .ok (.if_icmp .ge 7, 3) := by decide +kernel
theorem d_M_isRule_12 : decode mb_M_isRule 12 = .ok (.iconst 1, 1) := by decide +kernel
theorem d_M_isRule_13 : decode mb_M_isRule 13 = .ok (.goto 4, 3) := by decide +kernel
theorem d_M_isRule_16 : decode mb_M_isRule 16 = .ok (.iconst 0, 1) := by decide +kernel
theorem d_M_isRule_17 : decode mb_M_isRule 17 = .ok (.ireturn, 1) := by decide +kernel
theorem d_M_area_0 : decode mb_M_area 0 = .ok (.aload_n 0, 1) := by decide +kernel
theorem d_M_area_1 : decode mb_M_area 1 = .ok (.lload_n 1, 1) := by decide +kernel
theorem d_M_area_2 : decode mb_M_area 2 = .ok (.lload 5, 2) := by decide +kernel
theorem d_M_area_4 : decode mb_M_area 4 = .ok (.lcmp, 1) := by decide +kernel
theorem d_M_area_5 : decode mb_M_area 5 = .ok (.ifCond .gt 32, 3) := by decide +kernel
theorem d_M_area_8 : decode mb_M_area 8 = .ok (.lload_n 3, 1) := by decide +kernel
theorem d_M_area_9 : decode mb_M_area 9 = .ok (.lload 7, 2) := by decide +kernel
theorem d_M_area_11 : decode mb_M_area 11 = .ok (.lcmp, 1) := by decide +kernel
theorem d_M_area_12 : decode mb_M_area 12 = .ok (.ifCond .gt 25, 3) := by decide +kernel
theorem d_M_area_15 : decode mb_M_area 15 = .ok (.lload_n 1, 1) := by decide +kernel
theorem d_M_area_16 : decode mb_M_area 16 = .ok (.lload_n 3, 1) := by decide +kernel
theorem d_M_area_17 : decode mb_M_area 17 = .ok (.invokestatic 91, 3) := by decide +kernel
theorem d_M_area_20 : decode mb_M_area 20 = .ok (.ifCond .eq 17, 3) := by decide +kernel
theorem d_M_area_23 : decode mb_M_area 23 = .ok (.lload 5, 2) := by decide +kernel
theorem d_M_area_25 : decode mb_M_area 25 = .ok (.lload 7, 2) := by decide +kernel
theorem d_M_area_27 : decode mb_M_area 27 = .ok (.invokestatic 91, 3) := by decide +kernel
theorem d_M_area_30 : decode mb_M_area 30 = .ok (.ifCond .eq 7, 3) := by decide +kernel
theorem d_M_area_33 : decode mb_M_area 33 = .ok (.iconst 0, 1) := by decide +kernel
theorem d_M_area_34 : decode mb_M_area 34 = .ok (.goto 4, 3) := by decide +kernel
theorem d_M_area_37 : decode mb_M_area 37 = .ok (.iconst 1, 1) := by decide +kernel
theorem d_M_area_38 : decode mb_M_area 38 = .ok (.putfield 61, 3) := by decide +kernel
theorem d_M_area_41 : decode mb_M_area 41 = .ok (.aload_n 0, 1) := by decide +kernel
theorem d_M_area_42 : decode mb_M_area 42 = .ok (.getfield 61, 3) := by decide +kernel
theorem d_M_area_45 : decode mb_M_area 45 = .ok (.ifCond .eq 5, 3) := by decide +kernel
theorem d_M_area_48 : decode mb_M_area 48 = .ok (.iconst 0, 1) := by decide +kernel
theorem d_M_area_49 : decode mb_M_area 49 = .ok (.ireturn, 1) := by decide +kernel
theorem d_M_area_50 : decode mb_M_area 50 = .ok (.aload_n 0, 1) := by decide +kernel
theorem d_M_area_51 : decode mb_M_area 51 = .ok (.getfield 95, 3) := by decide +kernel
theorem d_M_area_54 : decode mb_M_area 54 = .ok (.bipush 12, 2) := by decide +kernel
theorem d_M_area_56 : decode mb_M_area 56 = .ok (.if_icmp .ne 5, 3) := by decide +kernel
theorem d_M_area_59 : decode mb_M_area 59 = .ok (.iconst (-1), 1) := by decide +kernel
theorem d_M_area_60 : decode mb_M_area 60 = .ok (.ireturn, 1) := by decide +kernel
theorem d_M_area_61 : decode mb_M_area 61 = .ok (.aload_n 0, 1) := by decide +kernel
theorem d_M_area_62 : decode mb_M_area 62 = .ok (.getfield 32, 3) := by decide +kernel
theorem d_M_area_65 : decode mb_M_area 65 = .ok (.iconst 4, 1) := by decide +kernel
theorem d_M_area_66 : decode mb_M_area 66 = .ok (.aload_n 0, 1) := by decide +kernel
theorem d_M_area_67 : decode mb_M_area 67 = .ok (.getfield 95, 3) := by decide +kernel
theorem d_M_area_70 : decode mb_M_area 70 = .ok (.imul, 1) := by decide +kernel
theorem d_M_area_71 : decode mb_M_area 71 = .ok (.lload_n 1, 1) := by decide +kernel
theorem d_M_area_72 : decode mb_M_area 72 = .ok (.lastore, 1) := by decide +kernel
theorem d_M_area_73 : decode mb_M_area 73 = .ok (.aload_n 0, 1) := by decide +kernel
theorem d_M_area_74 : decode mb_M_area 74 = .ok (.getfield 32, 3) := by decide +kernel
theorem d_M_area_77 : decode mb_M_area 77 = .ok (.iconst 4, 1) := by decide +kernel
theorem d_M_area_78 : decode mb_M_area 78 = .ok (.aload_n 0, 1) := by decide +kernel
theorem d_M_area_79 : decode mb_M_area 79 = .ok (.getfield 95, 3) := by decide +kernel
theorem d_M_area_82 : decode mb_M_area 82 = .ok (.imul, 1) := by decide +kernel
theorem d_M_area_83 : decode mb_M_area 83 = .ok (.iconst 1, 1) := by decide +kernel
theorem d_M_area_84 : decode mb_M_area 84 = .ok (.iadd, 1) := by decide +kernel
theorem d_M_area_85 : decode mb_M_area 85 = .ok (.lload_n 3, 1) := by decide +kernel
theorem d_M_area_86 : decode mb_M_area 86 = .ok (.lastore, 1) := by decide +kernel
theorem d_M_area_87 : decode mb_M_area 87 = .ok (.aload_n 0, 1) := by decide +kernel
theorem d_M_area_88 : decode mb_M_area 88 = .ok (.getfield 32, 3) := by decide +kernel
theorem d_M_area_91 : decode mb_M_area 91 = .ok (.iconst 4, 1) := by decide +kernel
theorem d_M_area_92 : decode mb_M_area 92 = .ok (.aload_n 0, 1) := by decide +kernel
theorem d_M_area_93 : decode mb_M_area 93 = .ok (.getfield 95, 3) := by decide +kernel
theorem d_M_area_96 : decode mb_M_area 96 = .ok (.imul, 1) := by decide +kernel
theorem d_M_area_97 : decode mb_M_area 97 = .ok (.iconst 2, 1) := by decide +kernel
theorem d_M_area_98 : decode mb_M_area 98 = .ok (.iadd, 1) := by decide +kernel
theorem d_M_area_99 : decode mb_M_area 99 = .ok (.lload 5, 2) := by decide +kernel
theorem d_M_area_101 : decode mb_M_area 101 = .ok (.lastore, 1) := by decide +kernel
theorem d_M_area_102 : decode mb_M_area 102 = .ok (.aload_n 0, 1) := by decide +kernel
theorem d_M_area_103 : decode mb_M_area 103 = .ok (.getfield 32, 3) := by decide +kernel
theorem d_M_area_106 : decode mb_M_area 106 = .ok (.iconst 4, 1) := by decide +kernel
theorem d_M_area_107 : decode mb_M_area 107 = .ok (.aload_n 0, 1) := by decide +kernel
theorem d_M_area_108 : decode mb_M_area 108 = .ok (.getfield 95, 3) := by decide +kernel
theorem d_M_area_111 : decode mb_M_area 111 = .ok (.imul, 1) := by decide +kernel
theorem d_M_area_112 : decode mb_M_area 112 = .ok (.iconst 3, 1) := by decide +kernel
theorem d_M_area_113 : decode mb_M_area 113 = .ok (.iadd, 1) := by decide +kernel
theorem d_M_area_114 : decode mb_M_area 114 = .ok (.lload 7, 2) := by decide +kernel
theorem d_M_area_116 : decode mb_M_area 116 = .ok (.lastore, 1) := by decide +kernel
theorem d_M_area_117 : decode mb_M_area 117 = .ok (.aload_n 0, 1) := by decide +kernel
theorem d_M_area_118 : decode mb_M_area 118 = .ok (.dup, 1) := by decide +kernel
theorem d_M_area_119 : decode mb_M_area 119 = .ok (.getfield 95, 3) := by decide +kernel
theorem d_M_area_122 : decode mb_M_area 122 = .ok (.iconst 1, 1) := by decide +kernel
theorem d_M_area_123 : decode mb_M_area 123 = .ok (.iadd, 1) := by decide +kernel
theorem d_M_area_124 : decode mb_M_area 124 = .ok (.putfield 95, 3) := by decide +kernel
theorem d_M_area_127 : decode mb_M_area 127 = .ok (.aload_n 0, 1) := by decide +kernel
theorem d_M_area_128 : decode mb_M_area 128 = .ok (.getfield 95, 3) := by decide +kernel
theorem d_M_area_131 : decode mb_M_area 131 = .ok (.iconst 1, 1) := by decide +kernel
theorem d_M_area_132 : decode mb_M_area 132 = .ok (.isub, 1) := by decide +kernel
theorem d_M_area_133 : decode mb_M_area 133 = .ok (.ireturn, 1) := by decide +kernel
theorem d_M_isPlace_0 : decode mb_M_isPlace 0 = .ok (.lload_n 0, 1) := by decide +kernel
theorem d_M_isPlace_1 : decode mb_M_isPlace 1 = .ok (.ldc2_w 70, 3) := by decide +kernel
theorem d_M_isPlace_4 : decode mb_M_isPlace 4 = .ok (.lcmp, 1) := by decide +kernel
theorem d_M_isPlace_5 : decode mb_M_isPlace 5 = .ok (.ifCond .lt 31, 3) := by decide +kernel
theorem d_M_isPlace_8 : decode mb_M_isPlace 8 = .ok (.lload_n 0, 1) := by decide +kernel
theorem d_M_isPlace_9 : decode mb_M_isPlace 9 = .ok (.ldc2_w 72, 3) := by decide +kernel
theorem d_M_isPlace_12 : decode mb_M_isPlace 12 = .ok (.lcmp, 1) := by decide +kernel
theorem d_M_isPlace_13 : decode mb_M_isPlace 13 = .ok (.ifCond .gt 23, 3) := by decide +kernel
theorem d_M_isPlace_16 : decode mb_M_isPlace 16 = .ok (.lload_n 2, 1) := by decide +kernel
theorem d_M_isPlace_17 : decode mb_M_isPlace 17 = .ok (.ldc2_w 70, 3) := by decide +kernel
theorem d_M_isPlace_20 : decode mb_M_isPlace 20 = .ok (.lcmp, 1) := by decide +kernel
theorem d_M_isPlace_21 : decode mb_M_isPlace 21 = .ok (.ifCond .lt 15, 3) := by decide +kernel
theorem d_M_isPlace_24 : decode mb_M_isPlace 24 = .ok (.lload_n 2, 1) := by decide +kernel
theorem d_M_isPlace_25 : decode mb_M_isPlace 25 = .ok (.ldc2_w 72, 3) := by decide +kernel
theorem d_M_isPlace_28 : decode mb_M_isPlace 28 = .ok (.lcmp, 1) := by decide +kernel
theorem d_M_isPlace_29 : decode mb_M_isPlace 29 = .ok (.ifCond .gt 7, 3) := by decide +kernel
theorem d_M_isPlace_32 : decode mb_M_isPlace 32 = .ok (.iconst 1, 1) := by decide +kernel
theorem d_M_isPlace_33 : decode mb_M_isPlace 33 = .ok (.goto 4, 3) := by decide +kernel
theorem d_M_isPlace_36 : decode mb_M_isPlace 36 = .ok (.iconst 0, 1) := by decide +kernel
theorem d_M_isPlace_37 : decode mb_M_isPlace 37 = .ok (.ireturn, 1) := by decide +kernel
theorem d_M_inArea_0 : decode mb_M_inArea 0 = .ok (.aload_n 0, 1) := by decide +kernel
theorem d_M_inArea_1 : decode mb_M_inArea 1 = .ok (.aload_n 0, 1) := by decide +kernel
theorem d_M_inArea_2 : decode mb_M_inArea 2 = .ok (.iload_n 1, 1) := by decide +kernel
theorem d_M_inArea_3 : decode mb_M_inArea 3 = .ok (.invokevirtual 88, 3) := by decide +kernel
theorem d_M_inArea_6 : decode mb_M_inArea 6 = .ok (.ifCond .eq 20, 3) := by decide +kernel
theorem d_M_inArea_9 : decode mb_M_inArea 9 = .ok (.iload_n 2, 1) := by decide +kernel
theorem d_M_inArea_10 : decode mb_M_inArea 10 = .ok (.iconst (-1), 1) := by decide +kernel
theorem d_M_inArea_11 : decode mb_M_inArea 11 = .ok (.if_icmp .lt 15, 3) := by decide +kernel
theorem d_M_inArea_14 : decode mb_M_inArea 14 = .ok (.iload_n 2, 1) := by decide +kernel
theorem d_M_inArea_15 : decode mb_M_inArea 15 = .ok (.aload_n 0, 1) := by decide +kernel
theorem d_M_inArea_16 : decode mb_M_inArea 16 = .ok (.getfield 95, 3) := by decide +kernel
theorem d_M_inArea_19 : decode mb_M_inArea 19 = .ok (.if_icmp .ge 7, 3) := by decide +kernel
theorem d_M_inArea_22 : decode mb_M_inArea 22 = .ok (.iconst 0, 1) := by decide +kernel
theorem d_M_inArea_23 : decode mb_M_inArea 23 = .ok (.goto 4, 3) := by decide +kernel
theorem d_M_inArea_26 : decode mb_M_inArea 26 = .ok (.iconst 1, 1) := by decide +kernel
theorem d_M_inArea_27 : decode mb_M_inArea 27 = .ok (.putfield 61, 3) := by decide +kernel
theorem d_M_inArea_30 : decode mb_M_inArea 30 = .ok (.aload_n 0, 1) := by decide +kernel
theorem d_M_inArea_31 : decode mb_M_inArea 31 = .ok (.getfield 61, 3) := by decide +kernel
theorem d_M_inArea_34 : decode mb_M_inArea 34 = .ok (.ifCond .ne 15, 3) := by decide +kernel
theorem d_M_inArea_37 : decode mb_M_inArea 37 = .ok (.aload_n 0, 1) := by decide +kernel
theorem d_M_inArea_38 : decode mb_M_inArea 38 = .ok (.getfield 29, 3) := by decide +kernel
theorem d_M_inArea_41 : decode mb_M_inArea 41 = .ok (.iload_n 1, 1) := by decide +kernel
theorem d_M_inArea_42 : decode mb_M_inArea 42 = .ok (.iaload, 1) := by decide +kernel
theorem d_M_inArea_43 : decode mb_M_inArea 43 = .ok (.iload_n 2, 1) := by decide +kernel
theorem d_M_inArea_44 : decode mb_M_inArea 44 = .ok (.iconst 1, 1) := by decide +kernel
theorem d_M_inArea_45 : decode mb_M_inArea 45 = .ok (.iadd, 1) := by decide +kernel
theorem d_M_inArea_46 : decode mb_M_inArea 46 = .ok (.if_icmp .ne 5, 3) := by decide +kernel
theorem d_M_inArea_49 : decode mb_M_inArea 49 = .ok (.iconst 0, 1) := by decide +kernel
theorem d_M_inArea_50 : decode mb_M_inArea 50 = .ok (.ireturn, 1) := by decide +kernel
theorem d_M_inArea_51 : decode mb_M_inArea 51 = .ok (.aload_n 0, 1) := by decide +kernel
theorem d_M_inArea_52 : decode mb_M_inArea 52 = .ok (.getfield 29, 3) := by decide +kernel
theorem d_M_inArea_55 : decode mb_M_inArea 55 = .ok (.iload_n 1, 1) := by decide +kernel
theorem d_M_inArea_56 : decode mb_M_inArea 56 = .ok (.iload_n 2, 1) := by decide +kernel
theorem d_M_inArea_57 : decode mb_M_inArea 57 = .ok (.iconst 1, 1) := by decide +kernel
theorem d_M_inArea_58 : decode mb_M_inArea 58 = .ok (.iadd, 1) := by decide +kernel
theorem d_M_inArea_59 : decode mb_M_inArea 59 = .ok (.iastore, 1) := by decide +kernel
theorem d_M_inArea_60 : decode mb_M_inArea 60 = .ok (.aload_n 0, 1) := by decide +kernel
theorem d_M_inArea_61 : decode mb_M_inArea 61 = .ok (.aload_n 0, 1) := by decide +kernel
theorem d_M_inArea_62 : decode mb_M_inArea 62 = .ok (.getfield 7, 3) := by decide +kernel
theorem d_M_inArea_65 : decode mb_M_inArea 65 = .ok (.iload_n 1, 1) := by decide +kernel
theorem d_M_inArea_66 : decode mb_M_inArea 66 = .ok (.iaload, 1) := by decide +kernel
theorem d_M_inArea_67 : decode mb_M_inArea 67 = .ok (.invokevirtual 84, 3) := by decide +kernel
theorem d_M_inArea_70 : decode mb_M_inArea 70 = .ok (.iconst 1, 1) := by decide +kernel
theorem d_M_inArea_71 : decode mb_M_inArea 71 = .ok (.ireturn, 1) := by decide +kernel
theorem d_M_thing_0 : decode mb_M_thing 0 = .ok (.aload_n 0, 1) := by decide +kernel
theorem d_M_thing_1 : decode mb_M_thing 1 = .ok (.aload_n 0, 1) := by decide +kernel
theorem d_M_thing_2 : decode mb_M_thing 2 = .ok (.iload_n 1, 1) := by decide +kernel
theorem d_M_thing_3 : decode mb_M_thing 3 = .ok (.invokevirtual 78, 3) := by decide +kernel
theorem d_M_thing_6 : decode mb_M_thing 6 = .ok (.ifCond .eq 10, 3) := by decide +kernel
theorem d_M_thing_9 : decode mb_M_thing 9 = .ok (.iload_n 2, 1) := by decide +kernel
theorem d_M_thing_10 : decode mb_M_thing 10 = .ok (.invokestatic 81, 3) := by decide +kernel
theorem d_M_thing_13 : decode mb_M_thing 13 = .ok (.ifCond .ne 7, 3) := by decide +kernel
theorem d_M_thing_16 : decode mb_M_thing 16 = .ok (.iconst 1, 1) := by decide +kernel
theorem d_M_thing_17 : decode mb_M_thing 17 = .ok (.goto 17, 3) := by decide +kernel
theorem d_M_thing_20 : decode mb_M_thing 20 = .ok (.lload_n 3, 1) := by decide +kernel
theorem d_M_thing_21 : decode mb_M_thing 21 = .ok (.lload 5, 2) := by decide +kernel
theorem d_M_thing_23 : decode mb_M_thing 23 = .ok (.invokestatic 91, 3) := by decide +kernel
theorem d_M_thing_26 : decode mb_M_thing 26 = .ok (.ifCond .eq 7, 3) := by decide +kernel
theorem d_M_thing_29 : decode mb_M_thing 29 = .ok (.iconst 0, 1) := by decide +kernel
theorem d_M_thing_30 : decode mb_M_thing 30 = .ok (.goto 4, 3) := by decide +kernel
theorem d_M_thing_33 : decode mb_M_thing 33 = .ok (.iconst 2, 1) := by decide +kernel
theorem d_M_thing_34 : decode mb_M_thing 34 = .ok (.putfield 61, 3) := by decide +kernel
theorem d_M_thing_37 : decode mb_M_thing 37 = .ok (.aload_n 0, 1) := by decide +kernel
theorem d_M_thing_38 : decode mb_M_thing 38 = .ok (.getfield 61, 3) := by decide +kernel
theorem d_M_thing_41 : decode mb_M_thing 41 = .ok (.ifCond .eq 5, 3) := by decide +kernel
theorem d_M_thing_44 : decode mb_M_thing 44 = .ok (.iconst 0, 1) := by decide +kernel
theorem d_M_thing_45 : decode mb_M_thing 45 = .ok (.ireturn, 1) := by decide +kernel
theorem d_M_thing_46 : decode mb_M_thing 46 = .ok (.aload_n 0, 1) := by decide +kernel
theorem d_M_thing_47 : decode mb_M_thing 47 = .ok (.getfield 64, 3) := by decide +kernel
theorem d_M_thing_50 : decode mb_M_thing 50 = .ok (.bipush 40, 2) := by decide +kernel
theorem d_M_thing_52 : decode mb_M_thing 52 = .ok (.if_icmp .ne 5, 3) := by decide +kernel
theorem d_M_thing_55 : decode mb_M_thing 55 = .ok (.iconst (-1), 1) := by decide +kernel
theorem d_M_thing_56 : decode mb_M_thing 56 = .ok (.ireturn, 1) := by decide +kernel
theorem d_M_thing_57 : decode mb_M_thing 57 = .ok (.aload_n 0, 1) := by decide +kernel
theorem d_M_thing_58 : decode mb_M_thing 58 = .ok (.getfield 35, 3) := by decide +kernel
theorem d_M_thing_61 : decode mb_M_thing 61 = .ok (.aload_n 0, 1) := by decide +kernel
theorem d_M_thing_62 : decode mb_M_thing 62 = .ok (.getfield 64, 3) := by decide +kernel
theorem d_M_thing_65 : decode mb_M_thing 65 = .ok (.iload_n 1, 1) := by decide +kernel
theorem d_M_thing_66 : decode mb_M_thing 66 = .ok (.iastore, 1) := by decide +kernel
theorem d_M_thing_67 : decode mb_M_thing 67 = .ok (.aload_n 0, 1) := by decide +kernel
theorem d_M_thing_68 : decode mb_M_thing 68 = .ok (.getfield 38, 3) := by decide +kernel
theorem d_M_thing_71 : decode mb_M_thing 71 = .ok (.aload_n 0, 1) := by decide +kernel
theorem d_M_thing_72 : decode mb_M_thing 72 = .ok (.getfield 64, 3) := by decide +kernel
theorem d_M_thing_75 : decode mb_M_thing 75 = .ok (.iload_n 2, 1) := by decide +kernel
theorem d_M_thing_76 : decode mb_M_thing 76 = .ok (.iastore, 1) := by decide +kernel
theorem d_M_thing_77 : decode mb_M_thing 77 = .ok (.aload_n 0, 1) := by decide +kernel
theorem d_M_thing_78 : decode mb_M_thing 78 = .ok (.getfield 41, 3) := by decide +kernel
theorem d_M_thing_81 : decode mb_M_thing 81 = .ok (.aload_n 0, 1) := by decide +kernel
theorem d_M_thing_82 : decode mb_M_thing 82 = .ok (.getfield 64, 3) := by decide +kernel
theorem d_M_thing_85 : decode mb_M_thing 85 = .ok (.lload_n 3, 1) := by decide +kernel
theorem d_M_thing_86 : decode mb_M_thing 86 = .ok (.lastore, 1) := by decide +kernel
theorem d_M_thing_87 : decode mb_M_thing 87 = .ok (.aload_n 0, 1) := by decide +kernel
theorem d_M_thing_88 : decode mb_M_thing 88 = .ok (.getfield 44, 3) := by decide +kernel
theorem d_M_thing_91 : decode mb_M_thing 91 = .ok (.aload_n 0, 1) := by decide +kernel
theorem d_M_thing_92 : decode mb_M_thing 92 = .ok (.getfield 64, 3) := by decide +kernel
theorem d_M_thing_95 : decode mb_M_thing 95 = .ok (.lload 5, 2) := by decide +kernel
theorem d_M_thing_97 : decode mb_M_thing 97 = .ok (.lastore, 1) := by decide +kernel
theorem d_M_thing_98 : decode mb_M_thing 98 = .ok (.aload_n 0, 1) := by decide +kernel
theorem d_M_thing_99 : decode mb_M_thing 99 = .ok (.dup, 1) := by decide +kernel
theorem d_M_thing_100 : decode mb_M_thing 100 = .ok (.getfield 64, 3) := by decide +kernel
theorem d_M_thing_103 : decode mb_M_thing 103 = .ok (.iconst 1, 1) := by decide +kernel
theorem d_M_thing_104 : decode mb_M_thing 104 = .ok (.iadd, 1) := by decide +kernel
theorem d_M_thing_105 : decode mb_M_thing 105 = .ok (.putfield 64, 3) := by decide +kernel
theorem d_M_thing_108 : decode mb_M_thing 108 = .ok (.aload_n 0, 1) := by decide +kernel
theorem d_M_thing_109 : decode mb_M_thing 109 = .ok (.getfield 64, 3) := by decide +kernel
theorem d_M_thing_112 : decode mb_M_thing 112 = .ok (.iconst 1, 1) := by decide +kernel
theorem d_M_thing_113 : decode mb_M_thing 113 = .ok (.isub, 1) := by decide +kernel
theorem d_M_thing_114 : decode mb_M_thing 114 = .ok (.ireturn, 1) := by decide +kernel
theorem d_M_make_0 : decode mb_M_make 0 = .ok (.aload_n 0, 1) := by decide +kernel
theorem d_M_make_1 : decode mb_M_make 1 = .ok (.aload_n 0, 1) := by decide +kernel
theorem d_M_make_2 : decode mb_M_make 2 = .ok (.iload_n 1, 1) := by decide +kernel
theorem d_M_make_3 : decode mb_M_make 3 = .ok (.invokevirtual 98, 3) := by decide +kernel
theorem d_M_make_6 : decode mb_M_make 6 = .ok (.ifCond .eq 22, 3) := by decide +kernel
theorem d_M_make_9 : decode mb_M_make 9 = .ok (.aload_n 0, 1) := by decide +kernel
theorem d_M_make_10 : decode mb_M_make 10 = .ok (.iload_n 2, 1) := by decide +kernel
theorem d_M_make_11 : decode mb_M_make 11 = .ok (.invokevirtual 78, 3) := by decide +kernel
theorem d_M_make_14 : decode mb_M_make 14 = .ok (.ifCond .eq 14, 3) := by decide +kernel
theorem d_M_make_17 : decode mb_M_make 17 = .ok (.iload_n 3, 1) := by decide +kernel
theorem d_M_make_18 : decode mb_M_make 18 = .ok (.invokestatic 81, 3) := by decide +kernel
theorem d_M_make_21 : decode mb_M_make 21 = .ok (.ifCond .eq 7, 3) := by decide +kernel
theorem d_M_make_24 : decode mb_M_make 24 = .ok (.iconst 0, 1) := by decide +kernel
theorem d_M_make_25 : decode mb_M_make 25 = .ok (.goto 4, 3) := by decide +kernel
theorem d_M_make_28 : decode mb_M_make 28 = .ok (.iconst 1, 1) := by decide +kernel
theorem d_M_make_29 : decode mb_M_make 29 = .ok (.putfield 61, 3) := by decide +kernel
theorem d_M_make_32 : decode mb_M_make 32 = .ok (.aload_n 0, 1) := by decide +kernel
theorem d_M_make_33 : decode mb_M_make 33 = .ok (.getfield 61, 3) := by decide +kernel
theorem d_M_make_36 : decode mb_M_make 36 = .ok (.ifCond .ne 23, 3) := by decide +kernel
theorem d_M_make_39 : decode mb_M_make 39 = .ok (.aload_n 0, 1) := by decide +kernel
theorem d_M_make_40 : decode mb_M_make 40 = .ok (.getfield 35, 3) := by decide +kernel
theorem d_M_make_43 : decode mb_M_make 43 = .ok (.iload_n 1, 1) := by decide +kernel
theorem d_M_make_44 : decode mb_M_make 44 = .ok (.iaload, 1) := by decide +kernel
theorem d_M_make_45 : decode mb_M_make 45 = .ok (.iload_n 2, 1) := by decide +kernel
theorem d_M_make_46 : decode mb_M_make 46 = .ok (.if_icmp .ne 15, 3) := by decide +kernel
theorem d_M_make_49 : decode mb_M_make 49 = .ok (.aload_n 0, 1) := by decide +kernel
theorem d_M_make_50 : decode mb_M_make 50 = .ok (.getfield 38, 3) := by decide +kernel
theorem d_M_make_53 : decode mb_M_make 53 = .ok (.iload_n 1, 1) := by decide +kernel
theorem d_M_make_54 : decode mb_M_make 54 = .ok (.iaload, 1) := by decide +kernel
theorem d_M_make_55 : decode mb_M_make 55 = .ok (.iload_n 3, 1) := by decide +kernel
theorem d_M_make_56 : decode mb_M_make 56 = .ok (.if_icmp .ne 5, 3) := by decide +kernel
theorem d_M_make_59 : decode mb_M_make 59 = .ok (.iconst 0, 1) := by decide +kernel
theorem d_M_make_60 : decode mb_M_make 60 = .ok (.ireturn, 1) := by decide +kernel
theorem d_M_make_61 : decode mb_M_make 61 = .ok (.aload_n 0, 1) := by decide +kernel
theorem d_M_make_62 : decode mb_M_make 62 = .ok (.getfield 35, 3) := by decide +kernel
theorem d_M_make_65 : decode mb_M_make 65 = .ok (.iload_n 1, 1) := by decide +kernel
theorem d_M_make_66 : decode mb_M_make 66 = .ok (.iload_n 2, 1) := by decide +kernel
theorem d_M_make_67 : decode mb_M_make 67 = .ok (.iastore, 1) := by decide +kernel
theorem d_M_make_68 : decode mb_M_make 68 = .ok (.aload_n 0, 1) := by decide +kernel
theorem d_M_make_69 : decode mb_M_make 69 = .ok (.getfield 38, 3) := by decide +kernel
theorem d_M_make_72 : decode mb_M_make 72 = .ok (.iload_n 1, 1) := by decide +kernel
theorem d_M_make_73 : decode mb_M_make 73 = .ok (.iload_n 3, 1) := by decide +kernel
theorem d_M_make_74 : decode mb_M_make 74 = .ok (.iastore, 1) := by decide +kernel
theorem d_M_make_75 : decode mb_M_make 75 = .ok (.aload_n 0, 1) := by decide +kernel
theorem d_M_make_76 : decode mb_M_make 76 = .ok (.iload_n 1, 1) := by decide +kernel
theorem d_M_make_77 : decode mb_M_make 77 = .ok (.invokevirtual 101, 3) := by decide +kernel
theorem d_M_make_80 : decode mb_M_make 80 = .ok (.iconst 1, 1) := by decide +kernel
theorem d_M_make_81 : decode mb_M_make 81 = .ok (.ireturn, 1) := by decide +kernel
theorem d_M_isThing_0 : decode mb_M_isThing 0 = .ok (.iload_n 1, 1) := by decide +kernel
theorem d_M_isThing_1 : decode mb_M_isThing 1 = .ok (.ifCond .lt 15, 3) := by decide +kernel
theorem d_M_isThing_4 : decode mb_M_isThing 4 = .ok (.iload_n 1, 1) := by decide +kernel
theorem d_M_isThing_5 : decode mb_M_isThing 5 = .ok (.aload_n 0, 1) := by decide +kernel
theorem d_M_isThing_6 : decode mb_M_isThing 6 = .ok (.getfield 64, 3) := by decide +kernel
theorem d_M_isThing_9 : decode mb_M_isThing 9 = .ok (.if_icmp .ge 7, 3) := by decide +kernel
theorem d_M_isThing_12 : decode mb_M_isThing 12 = .ok (.iconst 1, 1) := by decide +kernel
theorem d_M_isThing_13 : decode mb_M_isThing 13 = .ok (.goto 4, 3) := by decide +kernel
theorem d_M_isThing_16 : decode mb_M_isThing 16 = .ok (.iconst 0, 1) := by decide +kernel
theorem d_M_isThing_17 : decode mb_M_isThing 17 = .ok (.ireturn, 1) := by decide +kernel
theorem d_M_dropThing_0 : decode mb_M_dropThing 0 = .ok (.iconst 0, 1) := by decide +kernel
theorem d_M_dropThing_1 : decode mb_M_dropThing 1 = .ok (.istore_n 2, 1) := by decide +kernel
theorem d_M_dropThing_2 : decode mb_M_dropThing 2 = .ok (.iload_n 2, 1) := by decide +kernel
theorem d_M_dropThing_3 : decode mb_M_dropThing 3 = .ok (.sipush 9600, 3) := by decide +kernel
theorem d_M_dropThing_6 : decode mb_M_dropThing 6 = .ok (.if_icmp .ge 36, 3) := by decide +kernel
theorem d_M_dropThing_9 : decode mb_M_dropThing 9 = .ok (.iload_n 2, 1) := by decide +kernel
theorem d_M_dropThing_10 : decode mb_M_dropThing 10 = .ok (.sipush 1600, 3) := by decide +kernel
theorem d_M_dropThing_13 : decode mb_M_dropThing 13 = .ok (.irem, 1) := by decide +kernel
theorem d_M_dropThing_14 : decode mb_M_dropThing 14 = .ok (.bipush 40, 2) := by decide +kernel
theorem d_M_dropThing_16 : decode mb_M_dropThing 16 = .ok (.idiv, 1) := by decide +kernel
theorem d_M_dropThing_17 : decode mb_M_dropThing 17 = .ok (.iload_n 1, 1) := by decide +kernel
theorem d_M_dropThing_18 : decode mb_M_dropThing 18 = .ok (.if_icmp .eq 11, 3) := by decide +kernel
theorem d_M_dropThing_21 : decode mb_M_dropThing 21 = .ok (.iload_n 2, 1) := by decide +kernel
theorem d_M_dropThing_22 : decode mb_M_dropThing 22 = .ok (.bipush 40, 2) := by decide +kernel
theorem d_M_dropThing_24 : decode mb_M_dropThing 24 = .ok (.irem, 1) := by decide +kernel
theorem d_M_dropThing_25 : decode mb_M_dropThing 25 = .ok (.iload_n 1, 1) := by decide +kernel
theorem d_M_dropThing_26 : decode mb_M_dropThing 26 = .ok (.if_icmp .ne 10, 3) := by decide +kernel
theorem d_M_dropThing_29 : decode mb_M_dropThing 29 = .ok (.aload_n 0, 1) := by decide +kernel
theorem d_M_dropThing_30 : decode mb_M_dropThing 30 = .ok (.getfield 47, 3) := by decide +kernel
theorem d_M_dropThing_33 : decode mb_M_dropThing 33 = .ok (.iload_n 2, 1) := by decide +kernel
theorem d_M_dropThing_34 : decode mb_M_dropThing 34 = .ok (.iconst 0, 1) := by decide +kernel
theorem d_M_dropThing_35 : decode mb_M_dropThing 35 = .ok (.bastore, 1) := by decide +kernel
theorem d_M_dropThing_36 : decode mb_M_dropThing 36 = .ok (.iinc 2 1, 3) := by decide +kernel
theorem d_M_dropThing_39 : decode mb_M_dropThing 39 = .ok (.goto (-37), 3) := by decide +kernel
theorem d_M_dropThing_42 : decode mb_M_dropThing 42 = .ok (.return_, 1) := by decide +kernel
theorem d_M_move_0 : decode mb_M_move 0 = .ok (.aload_n 0, 1) := by decide +kernel
theorem d_M_move_1 : decode mb_M_move 1 = .ok (.aload_n 0, 1) := by decide +kernel
theorem d_M_move_2 : decode mb_M_move 2 = .ok (.iload_n 1, 1) := by decide +kernel
theorem d_M_move_3 : decode mb_M_move 3 = .ok (.invokevirtual 98, 3) := by decide +kernel
theorem d_M_move_6 : decode mb_M_move 6 = .ok (.ifCond .ne 7, 3) := by decide +kernel
theorem d_M_move_9 : decode mb_M_move 9 = .ok (.iconst 1, 1) := by decide +kernel
theorem d_M_move_10 : decode mb_M_move 10 = .ok (.goto 17, 3) := by decide +kernel
theorem d_M_move_13 : decode mb_M_move 13 = .ok (.lload_n 2, 1) := by decide +kernel
theorem d_M_move_14 : decode mb_M_move 14 = .ok (.lload 4, 2) := by decide +kernel
theorem d_M_move_16 : decode mb_M_move 16 = .ok (.invokestatic 91, 3) := by decide +kernel
theorem d_M_move_19 : decode mb_M_move 19 = .ok (.ifCond .eq 7, 3) := by decide +kernel
theorem d_M_move_22 : decode mb_M_move 22 = .ok (.iconst 0, 1) := by decide +kernel
theorem d_M_move_23 : decode mb_M_move 23 = .ok (.goto 4, 3) := by decide +kernel
theorem d_M_move_26 : decode mb_M_move 26 = .ok (.iconst 2, 1) := by decide +kernel
theorem d_M_move_27 : decode mb_M_move 27 = .ok (.putfield 61, 3) := by decide +kernel
theorem d_M_move_30 : decode mb_M_move 30 = .ok (.aload_n 0, 1) := by decide +kernel
theorem d_M_move_31 : decode mb_M_move 31 = .ok (.getfield 61, 3) := by decide +kernel
theorem d_M_move_34 : decode mb_M_move 34 = .ok (.ifCond .ne 26, 3) := by decide +kernel
theorem d_M_move_37 : decode mb_M_move 37 = .ok (.aload_n 0, 1) := by decide +kernel
theorem d_M_move_38 : decode mb_M_move 38 = .ok (.getfield 41, 3) := by decide +kernel
theorem d_M_move_41 : decode mb_M_move 41 = .ok (.iload_n 1, 1) := by decide +kernel
theorem d_M_move_42 : decode mb_M_move 42 = .ok (.laload, 1) := by decide +kernel
theorem d_M_move_43 : decode mb_M_move 43 = .ok (.lload_n 2, 1) := by decide +kernel
theorem d_M_move_44 : decode mb_M_move 44 = .ok (.lcmp, 1) := by decide +kernel
theorem d_M_move_45 : decode mb_M_move 45 = .ok (.ifCond .ne 17, 3) := by decide +kernel
theorem d_M_move_48 : decode mb_M_move 48 = .ok (.aload_n 0, 1) := by decide +kernel
theorem d_M_move_49 : decode mb_M_move 49 = .ok (.getfield 44, 3) := by decide +kernel
theorem d_M_move_52 : decode mb_M_move 52 = .ok (.iload_n 1, 1) := by decide +kernel
theorem d_M_move_53 : decode mb_M_move 53 = .ok (.laload, 1) := by decide +kernel
theorem d_M_move_54 : decode mb_M_move 54 = .ok (.lload 4, 2) := by decide +kernel
theorem d_M_move_56 : decode mb_M_move 56 = .ok (.lcmp, 1) := by decide +kernel
theorem d_M_move_57 : decode mb_M_move 57 = .ok (.ifCond .ne 5, 3) := by decide +kernel
theorem d_M_move_60 : decode mb_M_move 60 = .ok (.iconst 0, 1) := by decide +kernel
theorem d_M_move_61 : decode mb_M_move 61 = .ok (.ireturn, 1) := by decide +kernel
theorem d_M_move_62 : decode mb_M_move 62 = .ok (.aload_n 0, 1) := by decide +kernel
theorem d_M_move_63 : decode mb_M_move 63 = .ok (.iload_n 1, 1) := by decide +kernel
theorem d_M_move_64 : decode mb_M_move 64 = .ok (.invokevirtual 108, 3) := by decide +kernel
theorem d_M_move_67 : decode mb_M_move 67 = .ok (.istore 6, 2) := by decide +kernel
theorem d_M_move_69 : decode mb_M_move 69 = .ok (.aload_n 0, 1) := by decide +kernel
theorem d_M_move_70 : decode mb_M_move 70 = .ok (.getfield 41, 3) := by decide +kernel
theorem d_M_move_73 : decode mb_M_move 73 = .ok (.iload_n 1, 1) := by decide +kernel
theorem d_M_move_74 : decode mb_M_move 74 = .ok (.lload_n 2, 1) := by decide +kernel
theorem d_M_move_75 : decode mb_M_move 75 = .ok (.lastore, 1) := by decide +kernel
theorem d_M_move_76 : decode mb_M_move 76 = .ok (.aload_n 0, 1) := by decide +kernel
theorem d_M_move_77 : decode mb_M_move 77 = .ok (.getfield 44, 3) := by decide +kernel
theorem d_M_move_80 : decode mb_M_move 80 = .ok (.iload_n 1, 1) := by decide +kernel
theorem d_M_move_81 : decode mb_M_move 81 = .ok (.lload 4, 2) := by decide +kernel
theorem d_M_move_83 : decode mb_M_move 83 = .ok (.lastore, 1) := by decide +kernel
theorem d_M_move_84 : decode mb_M_move 84 = .ok (.aload_n 0, 1) := by decide +kernel
theorem d_M_move_85 : decode mb_M_move 85 = .ok (.iload_n 1, 1) := by decide +kernel
theorem d_M_move_86 : decode mb_M_move 86 = .ok (.invokevirtual 108, 3) := by decide +kernel
theorem d_M_move_89 : decode mb_M_move 89 = .ok (.iload 6, 2) := by decide +kernel
theorem d_M_move_91 : decode mb_M_move 91 = .ok (.if_icmp .eq 8, 3) := by decide +kernel
theorem d_M_move_94 : decode mb_M_move 94 = .ok (.aload_n 0, 1) := by decide +kernel
theorem d_M_move_95 : decode mb_M_move 95 = .ok (.iload_n 1, 1) := by decide +kernel
theorem d_M_move_96 : decode mb_M_move 96 = .ok (.invokevirtual 101, 3) := by decide +kernel
theorem d_M_move_99 : decode mb_M_move 99 = .ok (.iconst 1, 1) := by decide +kernel
theorem d_M_move_100 : decode mb_M_move 100 = .ok (.ireturn, 1) := by decide +kernel
theorem d_M_areasOf_0 : decode mb_M_areasOf 0 = .ok (.iconst 0, 1) := by decide +kernel
theorem d_M_areasOf_1 : decode mb_M_areasOf 1 = .ok (.istore_n 2, 1) := by decide +kernel
theorem d_M_areasOf_2 : decode mb_M_areasOf 2 = .ok (.iconst 0, 1) := by decide +kernel
theorem d_M_areasOf_3 : decode mb_M_areasOf 3 = .ok (.istore_n 3, 1) := by decide +kernel
theorem d_M_areasOf_4 : decode mb_M_areasOf 4 = .ok (.iload_n 3, 1) := by decide +kernel
theorem d_M_areasOf_5 : decode mb_M_areasOf 5 = .ok (.aload_n 0, 1) := by decide +kernel
theorem d_M_areasOf_6 : decode mb_M_areasOf 6 = .ok (.getfield 95, 3) := by decide +kernel
theorem d_M_areasOf_9 : decode mb_M_areasOf 9 = .ok (.if_icmp .ge 28, 3) := by decide +kernel
theorem d_M_areasOf_12 : decode mb_M_areasOf 12 = .ok (.iload_n 2, 1) := by decide +kernel
theorem d_M_areasOf_13 : decode mb_M_areasOf 13 = .ok (.aload_n 0, 1) := by decide +kernel
theorem d_M_areasOf_14 : decode mb_M_areasOf 14 = .ok (.iload_n 1, 1) := by decide +kernel
theorem d_M_areasOf_15 : decode mb_M_areasOf 15 = .ok (.iload_n 3, 1) := by decide +kernel
theorem d_M_areasOf_16 : decode mb_M_areasOf 16 = .ok (.invokevirtual 104, 3) := by decide +kernel
theorem d_M_areasOf_19 : decode mb_M_areasOf 19 = .ok (.ifCond .eq 9, 3) := by decide +kernel
theorem d_M_areasOf_22 : decode mb_M_areasOf 22 = .ok (.iconst 1, 1) := by decide +kernel
theorem d_M_areasOf_23 : decode mb_M_areasOf 23 = .ok (.iload_n 3, 1) := by decide +kernel
theorem d_M_areasOf_24 : decode mb_M_areasOf 24 = .ok (.ishl, 1) := by decide +kernel
theorem d_M_areasOf_25 : decode mb_M_areasOf 25 = .ok (.goto 4, 3) := by decide +kernel
theorem d_M_areasOf_28 : decode mb_M_areasOf 28 = .ok (.iconst 0, 1) := by decide +kernel
theorem d_M_areasOf_29 : decode mb_M_areasOf 29 = .ok (.ior, 1) := by decide +kernel
theorem d_M_areasOf_30 : decode mb_M_areasOf 30 = .ok (.istore_n 2, 1) := by decide +kernel
theorem d_M_areasOf_31 : decode mb_M_areasOf 31 = .ok (.iinc 3 1, 3) := by decide +kernel
theorem d_M_areasOf_34 : decode mb_M_areasOf 34 = .ok (.goto (-30), 3) := by decide +kernel
theorem d_M_areasOf_37 : decode mb_M_areasOf 37 = .ok (.iload_n 2, 1) := by decide +kernel
theorem d_M_areasOf_38 : decode mb_M_areasOf 38 = .ok (.ireturn, 1) := by decide +kernel
theorem d_M_lies_0 : decode mb_M_lies 0 = .ok (.iconst 4, 1) := by decide +kernel
theorem d_M_lies_1 : decode mb_M_lies 1 = .ok (.iload_n 2, 1) := by decide +kernel
theorem d_M_lies_2 : decode mb_M_lies 2 = .ok (.imul, 1) := by decide +kernel
theorem d_M_lies_3 : decode mb_M_lies 3 = .ok (.istore_n 3, 1) := by decide +kernel
theorem d_M_lies_4 : decode mb_M_lies 4 = .ok (.aload_n 0, 1) := by decide +kernel
theorem d_M_lies_5 : decode mb_M_lies 5 = .ok (.getfield 41, 3) := by decide +kernel
theorem d_M_lies_8 : decode mb_M_lies 8 = .ok (.iload_n 1, 1) := by decide +kernel
theorem d_M_lies_9 : decode mb_M_lies 9 = .ok (.laload, 1) := by decide +kernel
theorem d_M_lies_10 : decode mb_M_lies 10 = .ok (.aload_n 0, 1) := by decide +kernel
theorem d_M_lies_11 : decode mb_M_lies 11 = .ok (.getfield 32, 3) := by decide +kernel
theorem d_M_lies_14 : decode mb_M_lies 14 = .ok (.iload_n 3, 1) := by decide +kernel
theorem d_M_lies_15 : decode mb_M_lies 15 = .ok (.laload, 1) := by decide +kernel
theorem d_M_lies_16 : decode mb_M_lies 16 = .ok (.lcmp, 1) := by decide +kernel
theorem d_M_lies_17 : decode mb_M_lies 17 = .ok (.ifCond .lt 61, 3) := by decide +kernel
theorem d_M_lies_20 : decode mb_M_lies 20 = .ok (.aload_n 0, 1) := by decide +kernel
theorem d_M_lies_21 : decode mb_M_lies 21 = .ok (.getfield 41, 3) := by decide +kernel
theorem d_M_lies_24 : decode mb_M_lies 24 = .ok (.iload_n 1, 1) := by decide +kernel
theorem d_M_lies_25 : decode mb_M_lies 25 = .ok (.laload, 1) := by decide +kernel
theorem d_M_lies_26 : decode mb_M_lies 26 = .ok (.aload_n 0, 1) := by decide +kernel
theorem d_M_lies_27 : decode mb_M_lies 27 = .ok (.getfield 32, 3) := by decide +kernel
theorem d_M_lies_30 : decode mb_M_lies 30 = .ok (.iload_n 3, 1) := by decide +kernel
theorem d_M_lies_31 : decode mb_M_lies 31 = .ok (.iconst 2, 1) := by decide +kernel
theorem d_M_lies_32 : decode mb_M_lies 32 = .ok (.iadd, 1) := by decide +kernel
theorem d_M_lies_33 : decode mb_M_lies 33 = .ok (.laload, 1) := by decide +kernel
theorem d_M_lies_34 : decode mb_M_lies 34 = .ok (.lcmp, 1) := by decide +kernel
theorem d_M_lies_35 : decode mb_M_lies 35 = .ok (.ifCond .gt 43, 3) := by decide +kernel
theorem d_M_lies_38 : decode mb_M_lies 38 = .ok (.aload_n 0, 1) := by decide +kernel
theorem d_M_lies_39 : decode mb_M_lies 39 = .ok (.getfield 44, 3) := by decide +kernel
theorem d_M_lies_42 : decode mb_M_lies 42 = .ok (.iload_n 1, 1) := by decide +kernel
theorem d_M_lies_43 : decode mb_M_lies 43 = .ok (.laload, 1) := by decide +kernel
theorem d_M_lies_44 : decode mb_M_lies 44 = .ok (.aload_n 0, 1) := by decide +kernel
theorem d_M_lies_45 : decode mb_M_lies 45 = .ok (.getfield 32, 3) := by decide +kernel
theorem d_M_lies_48 : decode mb_M_lies 48 = .ok (.iload_n 3, 1) := by decide +kernel
theorem d_M_lies_49 : decode mb_M_lies 49 = .ok (.iconst 1, 1) := by decide +kernel
theorem d_M_lies_50 : decode mb_M_lies 50 = .ok (.iadd, 1) := by decide +kernel
theorem d_M_lies_51 : decode mb_M_lies 51 = .ok (.laload, 1) := by decide +kernel
theorem d_M_lies_52 : decode mb_M_lies 52 = .ok (.lcmp, 1) := by decide +kernel
theorem d_M_lies_53 : decode mb_M_lies 53 = .ok (.ifCond .lt 25, 3) := by decide +kernel
theorem d_M_lies_56 : decode mb_M_lies 56 = .ok (.aload_n 0, 1) := by decide +kernel
theorem d_M_lies_57 : decode mb_M_lies 57 = .ok (.getfield 44, 3) := by decide +kernel
theorem d_M_lies_60 : decode mb_M_lies 60 = .ok (.iload_n 1, 1) := by decide +kernel
theorem d_M_lies_61 : decode mb_M_lies 61 = .ok (.laload, 1) := by decide +kernel
theorem d_M_lies_62 : decode mb_M_lies 62 = .ok (.aload_n 0, 1) := by decide +kernel
theorem d_M_lies_63 : decode mb_M_lies 63 = .ok (.getfield 32, 3) := by decide +kernel
theorem d_M_lies_66 : decode mb_M_lies 66 = .ok (.iload_n 3, 1) := by decide +kernel
theorem d_M_lies_67 : decode mb_M_lies 67 = .ok (.iconst 3, 1) := by decide +kernel
theorem d_M_lies_68 : decode mb_M_lies 68 = .ok (.iadd, 1) := by decide +kernel
theorem d_M_lies_69 : decode mb_M_lies 69 = .ok (.laload, 1) := by decide +kernel
theorem d_M_lies_70 : decode mb_M_lies 70 = .ok (.lcmp, 1) := by decide +kernel
theorem d_M_lies_71 : decode mb_M_lies 71 = .ok (.ifCond .gt 7, 3) := by decide +kernel
theorem d_M_lies_74 : decode mb_M_lies 74 = .ok (.iconst 1, 1) := by decide +kernel
theorem d_M_lies_75 : decode mb_M_lies 75 = .ok (.goto 4, 3) := by decide +kernel
theorem d_M_lies_78 : decode mb_M_lies 78 = .ok (.iconst 0, 1) := by decide +kernel
theorem d_M_lies_79 : decode mb_M_lies 79 = .ok (.ireturn, 1) := by decide +kernel
theorem d_M_winner_0 : decode mb_M_winner 0 = .ok (.aload_n 0, 1) := by decide +kernel
theorem d_M_winner_1 : decode mb_M_winner 1 = .ok (.aload_n 0, 1) := by decide +kernel
theorem d_M_winner_2 : decode mb_M_winner 2 = .ok (.iload_n 1, 1) := by decide +kernel
theorem d_M_winner_3 : decode mb_M_winner 3 = .ok (.iload_n 2, 1) := by decide +kernel
theorem d_M_winner_4 : decode mb_M_winner 4 = .ok (.iload_n 3, 1) := by decide +kernel
theorem d_M_winner_5 : decode mb_M_winner 5 = .ok (.invokevirtual 136, 3) := by decide +kernel
theorem d_M_winner_8 : decode mb_M_winner 8 = .ok (.ifCond .eq 7, 3) := by decide +kernel
theorem d_M_winner_11 : decode mb_M_winner 11 = .ok (.iconst 0, 1) := by decide +kernel
theorem d_M_winner_12 : decode mb_M_winner 12 = .ok (.goto 4, 3) := by decide +kernel
theorem d_M_winner_15 : decode mb_M_winner 15 = .ok (.iconst 1, 1) := by decide +kernel
theorem d_M_winner_16 : decode mb_M_winner 16 = .ok (.putfield 61, 3) := by decide +kernel
theorem d_M_winner_19 : decode mb_M_winner 19 = .ok (.aload_n 0, 1) := by decide +kernel
theorem d_M_winner_20 : decode mb_M_winner 20 = .ok (.getfield 61, 3) := by decide +kernel
theorem d_M_winner_23 : decode mb_M_winner 23 = .ok (.ifCond .eq 5, 3) := by decide +kernel
theorem d_M_winner_26 : decode mb_M_winner 26 = .ok (.iconst 0, 1) := by decide +kernel
theorem d_M_winner_27 : decode mb_M_winner 27 = .ok (.ireturn, 1) := by decide +kernel
theorem d_M_winner_28 : decode mb_M_winner 28 = .ok (.aload_n 0, 1) := by decide +kernel
theorem d_M_winner_29 : decode mb_M_winner 29 = .ok (.iload_n 1, 1) := by decide +kernel
theorem d_M_winner_30 : decode mb_M_winner 30 = .ok (.iload_n 2, 1) := by decide +kernel
theorem d_M_winner_31 : decode mb_M_winner 31 = .ok (.iload_n 3, 1) := by decide +kernel
theorem d_M_winner_32 : decode mb_M_winner 32 = .ok (.invokevirtual 139, 3) := by decide +kernel
theorem d_M_winner_35 : decode mb_M_winner 35 = .ok (.aload_n 0, 1) := by decide +kernel
theorem d_M_winner_36 : decode mb_M_winner 36 = .ok (.iload_n 1, 1) := by decide +kernel
theorem d_M_winner_37 : decode mb_M_winner 37 = .ok (.iload_n 2, 1) := by decide +kernel
theorem d_M_winner_38 : decode mb_M_winner 38 = .ok (.iload_n 3, 1) := by decide +kernel
theorem d_M_winner_39 : decode mb_M_winner 39 = .ok (.invokevirtual 143, 3) := by decide +kernel
theorem d_M_winner_42 : decode mb_M_winner 42 = .ok (.ireturn, 1) := by decide +kernel
theorem d_M_isAsked_0 : decode mb_M_isAsked 0 = .ok (.iload_n 1, 1) := by decide +kernel
theorem d_M_isAsked_1 : decode mb_M_isAsked 1 = .ok (.invokestatic 74, 3) := by decide +kernel
theorem d_M_isAsked_4 : decode mb_M_isAsked 4 = .ok (.ifCond .eq 23, 3) := by decide +kernel
theorem d_M_isAsked_7 : decode mb_M_isAsked 7 = .ok (.aload_n 0, 1) := by decide +kernel
theorem d_M_isAsked_8 : decode mb_M_isAsked 8 = .ok (.iload_n 2, 1) := by decide +kernel
theorem d_M_isAsked_9 : decode mb_M_isAsked 9 = .ok (.invokevirtual 98, 3) := by decide +kernel
theorem d_M_isAsked_12 : decode mb_M_isAsked 12 = .ok (.ifCond .eq 15, 3) := by decide +kernel
theorem d_M_isAsked_15 : decode mb_M_isAsked 15 = .ok (.aload_n 0, 1) := by decide +kernel
theorem d_M_isAsked_16 : decode mb_M_isAsked 16 = .ok (.iload_n 3, 1) := by decide +kernel
theorem d_M_isAsked_17 : decode mb_M_isAsked 17 = .ok (.invokevirtual 98, 3) := by decide +kernel
theorem d_M_isAsked_20 : decode mb_M_isAsked 20 = .ok (.ifCond .eq 7, 3) := by decide +kernel
theorem d_M_isAsked_23 : decode mb_M_isAsked 23 = .ok (.iconst 1, 1) := by decide +kernel
theorem d_M_isAsked_24 : decode mb_M_isAsked 24 = .ok (.goto 4, 3) := by decide +kernel
theorem d_M_isAsked_27 : decode mb_M_isAsked 27 = .ok (.iconst 0, 1) := by decide +kernel
theorem d_M_isAsked_28 : decode mb_M_isAsked 28 = .ok (.ireturn, 1) := by decide +kernel
theorem d_M_keep_0 : decode mb_M_keep 0 = .ok (.sipush 1600, 3) := by decide +kernel
theorem d_M_keep_3 : decode mb_M_keep 3 = .ok (.iload_n 1, 1) := by decide +kernel
theorem d_M_keep_4 : decode mb_M_keep 4 = .ok (.imul, 1) := by decide +kernel
theorem d_M_keep_5 : decode mb_M_keep 5 = .ok (.iload_n 2, 1) := by decide +kernel
theorem d_M_keep_6 : decode mb_M_keep 6 = .ok (.iload_n 3, 1) := by decide +kernel
theorem d_M_keep_7 : decode mb_M_keep 7 = .ok (.if_icmp .ge 12, 3) := by decide +kernel
theorem d_M_keep_10 : decode mb_M_keep 10 = .ok (.bipush 40, 2) := by decide +kernel
theorem d_M_keep_12 : decode mb_M_keep 12 = .ok (.iload_n 2, 1) := by decide +kernel
theorem d_M_keep_13 : decode mb_M_keep 13 = .ok (.imul, 1) := by decide +kernel
theorem d_M_keep_14 : decode mb_M_keep 14 = .ok (.iload_n 3, 1) := by decide +kernel
theorem d_M_keep_15 : decode mb_M_keep 15 = .ok (.iadd, 1) := by decide +kernel
theorem d_M_keep_16 : decode mb_M_keep 16 = .ok (.goto 9, 3) := by decide +kernel
theorem d_M_keep_19 : decode mb_M_keep 19 = .ok (.bipush 40, 2) := by decide +kernel
theorem d_M_keep_21 : decode mb_M_keep 21 = .ok (.iload_n 3, 1) := by decide +kernel
theorem d_M_keep_22 : decode mb_M_keep 22 = .ok (.imul, 1) := by decide +kernel
theorem d_M_keep_23 : decode mb_M_keep 23 = .ok (.iload_n 2, 1) := by decide +kernel
theorem d_M_keep_24 : decode mb_M_keep 24 = .ok (.iadd, 1) := by decide +kernel
theorem d_M_keep_25 : decode mb_M_keep 25 = .ok (.iadd, 1) := by decide +kernel
theorem d_M_keep_26 : decode mb_M_keep 26 = .ok (.istore 4, 2) := by decide +kernel
theorem d_M_keep_28 : decode mb_M_keep 28 = .ok (.aload_n 0, 1) := by decide +kernel
theorem d_M_keep_29 : decode mb_M_keep 29 = .ok (.dup, 1) := by decide +kernel
theorem d_M_keep_30 : decode mb_M_keep 30 = .ok (.getfield 132, 3) := by decide +kernel
theorem d_M_keep_33 : decode mb_M_keep 33 = .ok (.aload_n 0, 1) := by decide +kernel
theorem d_M_keep_34 : decode mb_M_keep 34 = .ok (.getfield 47, 3) := by decide +kernel
theorem d_M_keep_37 : decode mb_M_keep 37 = .ok (.iload 4, 2) := by decide +kernel
theorem d_M_keep_39 : decode mb_M_keep 39 = .ok (.baload, 1) := by decide +kernel
theorem d_M_keep_40 : decode mb_M_keep 40 = .ok (.ifCond .eq 7, 3) := by decide +kernel
theorem d_M_keep_43 : decode mb_M_keep 43 = .ok (.lconst 1, 1) := by decide +kernel
theorem d_M_keep_44 : decode mb_M_keep 44 = .ok (.goto 4, 3) := by decide +kernel
theorem d_M_keep_47 : decode mb_M_keep 47 = .ok (.lconst 0, 1) := by decide +kernel
theorem d_M_keep_48 : decode mb_M_keep 48 = .ok (.ladd, 1) := by decide +kernel
theorem d_M_keep_49 : decode mb_M_keep 49 = .ok (.putfield 132, 3) := by decide +kernel
theorem d_M_keep_52 : decode mb_M_keep 52 = .ok (.aload_n 0, 1) := by decide +kernel
theorem d_M_keep_53 : decode mb_M_keep 53 = .ok (.getfield 47, 3) := by decide +kernel
theorem d_M_keep_56 : decode mb_M_keep 56 = .ok (.iload 4, 2) := by decide +kernel
theorem d_M_keep_58 : decode mb_M_keep 58 = .ok (.iconst 1, 1) := by decide +kernel
theorem d_M_keep_59 : decode mb_M_keep 59 = .ok (.bastore, 1) := by decide +kernel
theorem d_M_keep_60 : decode mb_M_keep 60 = .ok (.return_, 1) := by decide +kernel
theorem d_M_best_0 : decode mb_M_best 0 = .ok (.iconst (-1), 1) := by decide +kernel
theorem d_M_best_1 : decode mb_M_best 1 = .ok (.istore 4, 2) := by decide +kernel
theorem d_M_best_3 : decode mb_M_best 3 = .ok (.iconst 0, 1) := by decide +kernel
theorem d_M_best_4 : decode mb_M_best 4 = .ok (.istore 5, 2) := by decide +kernel
theorem d_M_best_6 : decode mb_M_best 6 = .ok (.iload 5, 2) := by decide +kernel
theorem d_M_best_8 : decode mb_M_best 8 = .ok (.aload_n 0, 1) := by decide +kernel
theorem d_M_best_9 : decode mb_M_best 9 = .ok (.getfield 67, 3) := by decide +kernel
theorem d_M_best_12 : decode mb_M_best 12 = .ok (.if_icmp .ge 42, 3) := by decide +kernel
theorem d_M_best_15 : decode mb_M_best 15 = .ok (.aload_n 0, 1) := by decide +kernel
theorem d_M_best_16 : decode mb_M_best 16 = .ok (.iload 5, 2) := by decide +kernel
theorem d_M_best_18 : decode mb_M_best 18 = .ok (.iload_n 1, 1) := by decide +kernel
theorem d_M_best_19 : decode mb_M_best 19 = .ok (.iload_n 2, 1) := by decide +kernel
theorem d_M_best_20 : decode mb_M_best 20 = .ok (.iload_n 3, 1) := by decide +kernel
theorem d_M_best_21 : decode mb_M_best 21 = .ok (.invokevirtual 125, 3) := by decide +kernel
theorem d_M_best_24 : decode mb_M_best 24 = .ok (.ifCond .eq 24, 3) := by decide +kernel
theorem d_M_best_27 : decode mb_M_best 27 = .ok (.iload 4, 2) := by decide +kernel
theorem d_M_best_29 : decode mb_M_best 29 = .ok (.iconst (-1), 1) := by decide +kernel
theorem d_M_best_30 : decode mb_M_best 30 = .ok (.if_icmp .eq 14, 3) := by decide +kernel
theorem d_M_best_33 : decode mb_M_best 33 = .ok (.aload_n 0, 1) := by decide +kernel
theorem d_M_best_34 : decode mb_M_best 34 = .ok (.iload 5, 2) := by decide +kernel
theorem d_M_best_36 : decode mb_M_best 36 = .ok (.iload 4, 2) := by decide +kernel
theorem d_M_best_38 : decode mb_M_best 38 = .ok (.invokevirtual 129, 3) := by decide +kernel
theorem d_M_best_41 : decode mb_M_best 41 = .ok (.ifCond .eq 7, 3) := by decide +kernel
theorem d_M_best_44 : decode mb_M_best 44 = .ok (.iload 5, 2) := by decide +kernel
theorem d_M_best_46 : decode mb_M_best 46 = .ok (.istore 4, 2) := by decide +kernel
theorem d_M_best_48 : decode mb_M_best 48 = .ok (.iinc 5 1, 3) := by decide +kernel
theorem d_M_best_51 : decode mb_M_best 51 = .ok (.goto (-45), 3) := by decide +kernel
theorem d_M_best_54 : decode mb_M_best 54 = .ok (.iload 4, 2) := by decide +kernel
theorem d_M_best_56 : decode mb_M_best 56 = .ok (.ireturn, 1) := by decide +kernel
theorem d_M_matches_0 : decode mb_M_matches 0 = .ok (.aload_n 0, 1) := by decide +kernel
theorem d_M_matches_1 : decode mb_M_matches 1 = .ok (.getfield 7, 3) := by decide +kernel
theorem d_M_matches_4 : decode mb_M_matches 4 = .ok (.iload_n 1, 1) := by decide +kernel
theorem d_M_matches_5 : decode mb_M_matches 5 = .ok (.iaload, 1) := by decide +kernel
theorem d_M_matches_6 : decode mb_M_matches 6 = .ok (.iload_n 2, 1) := by decide +kernel
theorem d_M_matches_7 : decode mb_M_matches 7 = .ok (.if_icmp .ne 40, 3) := by decide +kernel
theorem d_M_matches_10 : decode mb_M_matches 10 = .ok (.aload_n 0, 1) := by decide +kernel
theorem d_M_matches_11 : decode mb_M_matches 11 = .ok (.iload_n 1, 1) := by decide +kernel
theorem d_M_matches_12 : decode mb_M_matches 12 = .ok (.iload_n 3, 1) := by decide +kernel
theorem d_M_matches_13 : decode mb_M_matches 13 = .ok (.iload 4, 2) := by decide +kernel
theorem d_M_matches_15 : decode mb_M_matches 15 = .ok (.invokevirtual 115, 3) := by decide +kernel
theorem d_M_matches_18 : decode mb_M_matches 18 = .ok (.ifCond .eq 29, 3) := by decide +kernel
theorem d_M_matches_21 : decode mb_M_matches 21 = .ok (.aload_n 0, 1) := by decide +kernel
theorem d_M_matches_22 : decode mb_M_matches 22 = .ok (.iload_n 1, 1) := by decide +kernel
theorem d_M_matches_23 : decode mb_M_matches 23 = .ok (.iload_n 3, 1) := by decide +kernel
theorem d_M_matches_24 : decode mb_M_matches 24 = .ok (.iload 4, 2) := by decide +kernel
theorem d_M_matches_26 : decode mb_M_matches 26 = .ok (.invokevirtual 119, 3) := by decide +kernel
theorem d_M_matches_29 : decode mb_M_matches 29 = .ok (.ifCond .eq 18, 3) := by decide +kernel
theorem d_M_matches_32 : decode mb_M_matches 32 = .ok (.aload_n 0, 1) := by decide +kernel
theorem d_M_matches_33 : decode mb_M_matches 33 = .ok (.iload_n 1, 1) := by decide +kernel
theorem d_M_matches_34 : decode mb_M_matches 34 = .ok (.iload_n 3, 1) := by decide +kernel
theorem d_M_matches_35 : decode mb_M_matches 35 = .ok (.iload 4, 2) := by decide +kernel
theorem d_M_matches_37 : decode mb_M_matches 37 = .ok (.invokevirtual 122, 3) := by decide +kernel
theorem d_M_matches_40 : decode mb_M_matches 40 = .ok (.ifCond .eq 7, 3) := by decide +kernel
theorem d_M_matches_43 : decode mb_M_matches 43 = .ok (.iconst 1, 1) := by decide +kernel
theorem d_M_matches_44 : decode mb_M_matches 44 = .ok (.goto 4, 3) := by decide +kernel
theorem d_M_matches_47 : decode mb_M_matches 47 = .ok (.iconst 0, 1) := by decide +kernel
theorem d_M_matches_48 : decode mb_M_matches 48 = .ok (.ireturn, 1) := by decide +kernel
theorem d_M_haveClasses_0 : decode mb_M_haveClasses 0 = .ok (.aload_n 0, 1) := by decide +kernel
theorem d_M_haveClasses_1 : decode mb_M_haveClasses 1 = .ok (.getfield 35, 3) := by decide +kernel
theorem d_M_haveClasses_4 : decode mb_M_haveClasses 4 = .ok (.iload_n 2, 1) := by decide +kernel
theorem d_M_haveClasses_5 : decode mb_M_haveClasses 5 = .ok (.iaload, 1) := by decide +kernel
theorem d_M_haveClasses_6 : decode mb_M_haveClasses 6 = .ok (.istore 4, 2) := by decide +kernel
theorem d_M_haveClasses_8 : decode mb_M_haveClasses 8 = .ok (.aload_n 0, 1) := by decide +kernel
theorem d_M_haveClasses_9 : decode mb_M_haveClasses 9 = .ok (.getfield 35, 3) := by decide +kernel
theorem d_M_haveClasses_12 : decode mb_M_haveClasses 12 = .ok (.iload_n 3, 1) := by decide +kernel
theorem d_M_haveClasses_13 : decode mb_M_haveClasses 13 = .ok (.iaload, 1) := by decide +kernel
theorem d_M_haveClasses_14 : decode mb_M_haveClasses 14 = .ok (.istore 5, 2) := by decide +kernel
theorem d_M_haveClasses_16 : decode mb_M_haveClasses 16 = .ok (.aload_n 0, 1) := by decide +kernel
theorem d_M_haveClasses_17 : decode mb_M_haveClasses 17 = .ok (.getfield 13, 3) := by decide +kernel
theorem d_M_haveClasses_20 : decode mb_M_haveClasses 20 = .ok (.iload_n 1, 1) := by decide +kernel
theorem d_M_haveClasses_21 : decode mb_M_haveClasses 21 = .ok (.iaload, 1) := by decide +kernel
theorem d_M_haveClasses_22 : decode mb_M_haveClasses 22 = .ok (.iload 4, 2) := by decide +kernel
theorem d_M_haveClasses_24 : decode mb_M_haveClasses 24 = .ok (.invokestatic 112, 3) := by decide +kernel
theorem d_M_haveClasses_27 : decode mb_M_haveClasses 27 = .ok (.ifCond .eq 17, 3) := by decide +kernel
theorem d_M_haveClasses_30 : decode mb_M_haveClasses 30 = .ok (.aload_n 0, 1) := by decide +kernel
theorem d_M_haveClasses_31 : decode mb_M_haveClasses 31 = .ok (.getfield 16, 3) := by decide +kernel
theorem d_M_haveClasses_34 : decode mb_M_haveClasses 34 = .ok (.iload_n 1, 1) := by decide +kernel
theorem d_M_haveClasses_35 : decode mb_M_haveClasses 35 = .ok (.iaload, 1) := by decide +kernel
theorem d_M_haveClasses_36 : decode mb_M_haveClasses 36 = .ok (.iload 5, 2) := by decide +kernel
theorem d_M_haveClasses_38 : decode mb_M_haveClasses 38 = .ok (.invokestatic 112, 3) := by decide +kernel
theorem d_M_haveClasses_41 : decode mb_M_haveClasses 41 = .ok (.ifCond .ne 31, 3) := by decide +kernel
theorem d_M_haveClasses_44 : decode mb_M_haveClasses 44 = .ok (.aload_n 0, 1) := by decide +kernel
theorem d_M_haveClasses_45 : decode mb_M_haveClasses 45 = .ok (.getfield 13, 3) := by decide +kernel
theorem d_M_haveClasses_48 : decode mb_M_haveClasses 48 = .ok (.iload_n 1, 1) := by decide +kernel
theorem d_M_haveClasses_49 : decode mb_M_haveClasses 49 = .ok (.iaload, 1) := by decide +kernel
theorem d_M_haveClasses_50 : decode mb_M_haveClasses 50 = .ok (.iload 5, 2) := by decide +kernel
theorem d_M_haveClasses_52 : decode mb_M_haveClasses 52 = .ok (.invokestatic 112, 3) := by decide +kernel
theorem d_M_haveClasses_55 : decode mb_M_haveClasses 55 = .ok (.ifCond .eq 21, 3) := by decide +kernel
theorem d_M_haveClasses_58 : decode mb_M_haveClasses 58 = .ok (.aload_n 0, 1) := by decide +kernel
theorem d_M_haveClasses_59 : decode mb_M_haveClasses 59 = .ok (.getfield 16, 3) := by decide +kernel
theorem d_M_haveClasses_62 : decode mb_M_haveClasses 62 = .ok (.iload_n 1, 1) := by decide +kernel
theorem d_M_haveClasses_63 : decode mb_M_haveClasses 63 = .ok (.iaload, 1) := by decide +kernel
theorem d_M_haveClasses_64 : decode mb_M_haveClasses 64 = .ok (.iload 4, 2) := by decide +kernel
theorem d_M_haveClasses_66 : decode mb_M_haveClasses 66 = .ok (.invokestatic 112, 3) := by decide +kernel
theorem d_M_haveClasses_69 : decode mb_M_haveClasses 69 = .ok (.ifCond .eq 7, 3) := by decide +kernel
theorem d_M_haveClasses_72 : decode mb_M_haveClasses 72 = .ok (.iconst 1, 1) := by decide +kernel
theorem d_M_haveClasses_73 : decode mb_M_haveClasses 73 = .ok (.goto 4, 3) := by decide +kernel
theorem d_M_haveClasses_76 : decode mb_M_haveClasses 76 = .ok (.iconst 0, 1) := by decide +kernel
theorem d_M_haveClasses_77 : decode mb_M_haveClasses 77 = .ok (.ireturn, 1) := by decide +kernel
theorem d_M_isOf_0 : decode mb_M_isOf 0 = .ok (.iload_n 0, 1) := by decide +kernel
theorem d_M_isOf_1 : decode mb_M_isOf 1 = .ok (.iconst (-1), 1) := by decide +kernel
theorem d_M_isOf_2 : decode mb_M_isOf 2 = .ok (.if_icmp .eq 8, 3) := by decide +kernel
theorem d_M_isOf_5 : decode mb_M_isOf 5 = .ok (.iload_n 0, 1) := by decide +kernel
theorem d_M_isOf_6 : decode mb_M_isOf 6 = .ok (.iload_n 1, 1) := by decide +kernel
theorem d_M_isOf_7 : decode mb_M_isOf 7 = .ok (.if_icmp .ne 7, 3) := by decide +kernel
theorem d_M_isOf_10 : decode mb_M_isOf 10 = .ok (.iconst 1, 1) := by decide +kernel
theorem d_M_isOf_11 : decode mb_M_isOf 11 = .ok (.goto 4, 3) := by decide +kernel
theorem d_M_isOf_14 : decode mb_M_isOf 14 = .ok (.iconst 0, 1) := by decide +kernel
theorem d_M_isOf_15 : decode mb_M_isOf 15 = .ok (.ireturn, 1) := by decide +kernel
theorem d_M_haveLayer_0 : decode mb_M_haveLayer 0 = .ok (.aload_n 0, 1) := by decide +kernel
theorem d_M_haveLayer_1 : decode mb_M_haveLayer 1 = .ok (.getfield 19, 3) := by decide +kernel
theorem d_M_haveLayer_4 : decode mb_M_haveLayer 4 = .ok (.iload_n 1, 1) := by decide +kernel
theorem d_M_haveLayer_5 : decode mb_M_haveLayer 5 = .ok (.iaload, 1) := by decide +kernel
theorem d_M_haveLayer_6 : decode mb_M_haveLayer 6 = .ok (.aload_n 0, 1) := by decide +kernel
theorem d_M_haveLayer_7 : decode mb_M_haveLayer 7 = .ok (.getfield 38, 3) := by decide +kernel
theorem d_M_haveLayer_10 : decode mb_M_haveLayer 10 = .ok (.iload_n 2, 1) := by decide +kernel
theorem d_M_haveLayer_11 : decode mb_M_haveLayer 11 = .ok (.iaload, 1) := by decide +kernel
theorem d_M_haveLayer_12 : decode mb_M_haveLayer 12 = .ok (.invokestatic 112, 3) := by decide +kernel
theorem d_M_haveLayer_15 : decode mb_M_haveLayer 15 = .ok (.ifCond .eq 25, 3) := by decide +kernel
theorem d_M_haveLayer_18 : decode mb_M_haveLayer 18 = .ok (.aload_n 0, 1) := by decide +kernel
theorem d_M_haveLayer_19 : decode mb_M_haveLayer 19 = .ok (.getfield 19, 3) := by decide +kernel
theorem d_M_haveLayer_22 : decode mb_M_haveLayer 22 = .ok (.iload_n 1, 1) := by decide +kernel
theorem d_M_haveLayer_23 : decode mb_M_haveLayer 23 = .ok (.iaload, 1) := by decide +kernel
theorem d_M_haveLayer_24 : decode mb_M_haveLayer 24 = .ok (.aload_n 0, 1) := by decide +kernel
theorem d_M_haveLayer_25 : decode mb_M_haveLayer 25 = .ok (.getfield 38, 3) := by decide +kernel
theorem d_M_haveLayer_28 : decode mb_M_haveLayer 28 = .ok (.iload_n 3, 1) := by decide +kernel
theorem d_M_haveLayer_29 : decode mb_M_haveLayer 29 = .ok (.iaload, 1) := by decide +kernel
theorem d_M_haveLayer_30 : decode mb_M_haveLayer 30 = .ok (.invokestatic 112, 3) := by decide +kernel
theorem d_M_haveLayer_33 : decode mb_M_haveLayer 33 = .ok (.ifCond .eq 7, 3) := by decide +kernel
theorem d_M_haveLayer_36 : decode mb_M_haveLayer 36 = .ok (.iconst 1, 1) := by decide +kernel
theorem d_M_haveLayer_37 : decode mb_M_haveLayer 37 = .ok (.goto 4, 3) := by decide +kernel
theorem d_M_haveLayer_40 : decode mb_M_haveLayer 40 = .ok (.iconst 0, 1) := by decide +kernel
theorem d_M_haveLayer_41 : decode mb_M_haveLayer 41 = .ok (.ireturn, 1) := by decide +kernel
theorem d_M_lieWithin_0 : decode mb_M_lieWithin 0 = .ok (.aload_n 0, 1) := by decide +kernel
theorem d_M_lieWithin_1 : decode mb_M_lieWithin 1 = .ok (.getfield 29, 3) := by decide +kernel
theorem d_M_lieWithin_4 : decode mb_M_lieWithin 4 = .ok (.iload_n 1, 1) := by decide +kernel
theorem d_M_lieWithin_5 : decode mb_M_lieWithin 5 = .ok (.iaload, 1) := by decide +kernel
theorem d_M_lieWithin_6 : decode mb_M_lieWithin 6 = .ok (.ifCond .eq 35, 3) := by decide +kernel
theorem d_M_lieWithin_9 : decode mb_M_lieWithin 9 = .ok (.aload_n 0, 1) := by decide +kernel
theorem d_M_lieWithin_10 : decode mb_M_lieWithin 10 = .ok (.iload_n 2, 1) := by decide +kernel
theorem d_M_lieWithin_11 : decode mb_M_lieWithin 11 = .ok (.aload_n 0, 1) := by decide +kernel
theorem d_M_lieWithin_12 : decode mb_M_lieWithin 12 = .ok (.getfield 29, 3) := by decide +kernel
theorem d_M_lieWithin_15 : decode mb_M_lieWithin 15 = .ok (.iload_n 1, 1) := by decide +kernel
theorem d_M_lieWithin_16 : decode mb_M_lieWithin 16 = .ok (.iaload, 1) := by decide +kernel
theorem d_M_lieWithin_17 : decode mb_M_lieWithin 17 = .ok (.iconst 1, 1) := by decide +kernel
theorem d_M_lieWithin_18 : decode mb_M_lieWithin 18 = .ok (.isub, 1) := by decide +kernel
theorem d_M_lieWithin_19 : decode mb_M_lieWithin 19 = .ok (.invokevirtual 104, 3) := by decide +kernel
theorem d_M_lieWithin_22 : decode mb_M_lieWithin 22 = .ok (.ifCond .eq 23, 3) := by decide +kernel
theorem d_M_lieWithin_25 : decode mb_M_lieWithin 25 = .ok (.aload_n 0, 1) := by decide +kernel
theorem d_M_lieWithin_26 : decode mb_M_lieWithin 26 = .ok (.iload_n 3, 1) := by decide +kernel
theorem d_M_lieWithin_27 : decode mb_M_lieWithin 27 = .ok (.aload_n 0, 1) := by decide +kernel
theorem d_M_lieWithin_28 : decode mb_M_lieWithin 28 = .ok (.getfield 29, 3) := by decide +kernel
theorem d_M_lieWithin_31 : decode mb_M_lieWithin 31 = .ok (.iload_n 1, 1) := by decide +kernel
theorem d_M_lieWithin_32 : decode mb_M_lieWithin 32 = .ok (.iaload, 1) := by decide +kernel
theorem d_M_lieWithin_33 : decode mb_M_lieWithin 33 = .ok (.iconst 1, 1) := by decide +kernel
theorem d_M_lieWithin_34 : decode mb_M_lieWithin 34 = .ok (.isub, 1) := by decide +kernel
theorem d_M_lieWithin_35 : decode mb_M_lieWithin 35 = .ok (.invokevirtual 104, 3) := by decide +kernel
theorem d_M_lieWithin_38 : decode mb_M_lieWithin 38 = .ok (.ifCond .eq 7, 3) := by decide +kernel
theorem d_M_lieWithin_41 : decode mb_M_lieWithin 41 = .ok (.iconst 1, 1) := by decide +kernel
theorem d_M_lieWithin_42 : decode mb_M_lieWithin 42 = .ok (.goto 4, 3) := by decide +kernel
theorem d_M_lieWithin_45 : decode mb_M_lieWithin 45 = .ok (.iconst 0, 1) := by decide +kernel
theorem d_M_lieWithin_46 : decode mb_M_lieWithin 46 = .ok (.ireturn, 1) := by decide +kernel
theorem d_M_isAhead_0 : decode mb_M_isAhead 0 = .ok (.aload_n 0, 1) := by decide +kernel
theorem d_M_isAhead_1 : decode mb_M_isAhead 1 = .ok (.getfield 26, 3) := by decide +kernel
theorem d_M_isAhead_4 : decode mb_M_isAhead 4 = .ok (.iload_n 1, 1) := by decide +kernel
theorem d_M_isAhead_5 : decode mb_M_isAhead 5 = .ok (.iaload, 1) := by decide +kernel
theorem d_M_isAhead_6 : decode mb_M_isAhead 6 = .ok (.aload_n 0, 1) := by decide +kernel
theorem d_M_isAhead_7 : decode mb_M_isAhead 7 = .ok (.getfield 26, 3) := by decide +kernel
theorem d_M_isAhead_10 : decode mb_M_isAhead 10 = .ok (.iload_n 2, 1) := by decide +kernel
theorem d_M_isAhead_11 : decode mb_M_isAhead 11 = .ok (.iaload, 1) := by decide +kernel
theorem d_M_isAhead_12 : decode mb_M_isAhead 12 = .ok (.if_icmp .eq 26, 3) := by decide +kernel
theorem d_M_isAhead_15 : decode mb_M_isAhead 15 = .ok (.aload_n 0, 1) := by decide +kernel
theorem d_M_isAhead_16 : decode mb_M_isAhead 16 = .ok (.getfield 26, 3) := by decide +kernel
theorem d_M_isAhead_19 : decode mb_M_isAhead 19 = .ok (.iload_n 1, 1) := by decide +kernel
theorem d_M_isAhead_20 : decode mb_M_isAhead 20 = .ok (.iaload, 1) := by decide +kernel
theorem d_M_isAhead_21 : decode mb_M_isAhead 21 = .ok (.aload_n 0, 1) := by decide +kernel
theorem d_M_isAhead_22 : decode mb_M_isAhead 22 = .ok (.getfield 26, 3) := by decide +kernel
theorem d_M_isAhead_25 : decode mb_M_isAhead 25 = .ok (.iload_n 2, 1) := by decide +kernel
theorem d_M_isAhead_26 : decode mb_M_isAhead 26 = .ok (.iaload, 1) := by decide +kernel
theorem d_M_isAhead_27 : decode mb_M_isAhead 27 = .ok (.if_icmp .le 7, 3) := by decide +kernel
theorem d_M_isAhead_30 : decode mb_M_isAhead 30 = .ok (.iconst 1, 1) := by decide +kernel
theorem d_M_isAhead_31 : decode mb_M_isAhead 31 = .ok (.goto 17, 3) := by decide +kernel
theorem d_M_isAhead_34 : decode mb_M_isAhead 34 = .ok (.iconst 0, 1) := by decide +kernel
theorem d_M_isAhead_35 : decode mb_M_isAhead 35 = .ok (.goto 13, 3) := by decide +kernel
theorem d_M_isAhead_38 : decode mb_M_isAhead 38 = .ok (.iload_n 1, 1) := by decide +kernel
theorem d_M_isAhead_39 : decode mb_M_isAhead 39 = .ok (.iload_n 2, 1) := by decide +kernel
theorem d_M_isAhead_40 : decode mb_M_isAhead 40 = .ok (.if_icmp .le 7, 3) := by decide +kernel
theorem d_M_isAhead_43 : decode mb_M_isAhead 43 = .ok (.iconst 1, 1) := by decide +kernel
theorem d_M_isAhead_44 : decode mb_M_isAhead 44 = .ok (.goto 4, 3) := by decide +kernel
theorem d_M_isAhead_47 : decode mb_M_isAhead 47 = .ok (.iconst 0, 1) := by decide +kernel
theorem d_M_isAhead_48 : decode mb_M_isAhead 48 = .ok (.ireturn, 1) := by decide +kernel
theorem d_M_value_0 : decode mb_M_value 0 = .ok (.aload_n 0, 1) := by decide +kernel
theorem d_M_value_1 : decode mb_M_value 1 = .ok (.aload_n 0, 1) := by decide +kernel
theorem d_M_value_2 : decode mb_M_value 2 = .ok (.iload_n 1, 1) := by decide +kernel
theorem d_M_value_3 : decode mb_M_value 3 = .ok (.iload_n 2, 1) := by decide +kernel
theorem d_M_value_4 : decode mb_M_value 4 = .ok (.iload_n 3, 1) := by decide +kernel
theorem d_M_value_5 : decode mb_M_value 5 = .ok (.invokevirtual 136, 3) := by decide +kernel
theorem d_M_value_8 : decode mb_M_value 8 = .ok (.ifCond .eq 7, 3) := by decide +kernel
theorem d_M_value_11 : decode mb_M_value 11 = .ok (.iconst 0, 1) := by decide +kernel
theorem d_M_value_12 : decode mb_M_value 12 = .ok (.goto 4, 3) := by decide +kernel
theorem d_M_value_15 : decode mb_M_value 15 = .ok (.iconst 1, 1) := by decide +kernel
theorem d_M_value_16 : decode mb_M_value 16 = .ok (.putfield 61, 3) := by decide +kernel
theorem d_M_value_19 : decode mb_M_value 19 = .ok (.aload_n 0, 1) := by decide +kernel
theorem d_M_value_20 : decode mb_M_value 20 = .ok (.getfield 61, 3) := by decide +kernel
theorem d_M_value_23 : decode mb_M_value 23 = .ok (.ifCond .eq 5, 3) := by decide +kernel
theorem d_M_value_26 : decode mb_M_value 26 = .ok (.lconst 0, 1) := by decide +kernel
theorem d_M_value_27 : decode mb_M_value 27 = .ok (.lreturn, 1) := by decide +kernel
theorem d_M_value_28 : decode mb_M_value 28 = .ok (.aload_n 0, 1) := by decide +kernel
theorem d_M_value_29 : decode mb_M_value 29 = .ok (.iload_n 1, 1) := by decide +kernel
theorem d_M_value_30 : decode mb_M_value 30 = .ok (.iload_n 2, 1) := by decide +kernel
theorem d_M_value_31 : decode mb_M_value 31 = .ok (.iload_n 3, 1) := by decide +kernel
theorem d_M_value_32 : decode mb_M_value 32 = .ok (.invokevirtual 139, 3) := by decide +kernel
theorem d_M_value_35 : decode mb_M_value 35 = .ok (.aload_n 0, 1) := by decide +kernel
theorem d_M_value_36 : decode mb_M_value 36 = .ok (.iload_n 1, 1) := by decide +kernel
theorem d_M_value_37 : decode mb_M_value 37 = .ok (.iload_n 2, 1) := by decide +kernel
theorem d_M_value_38 : decode mb_M_value 38 = .ok (.iload_n 3, 1) := by decide +kernel
theorem d_M_value_39 : decode mb_M_value 39 = .ok (.invokevirtual 143, 3) := by decide +kernel
theorem d_M_value_42 : decode mb_M_value 42 = .ok (.istore 4, 2) := by decide +kernel
theorem d_M_value_44 : decode mb_M_value 44 = .ok (.iload 4, 2) := by decide +kernel
theorem d_M_value_46 : decode mb_M_value 46 = .ok (.iconst (-1), 1) := by decide +kernel
theorem d_M_value_47 : decode mb_M_value 47 = .ok (.if_icmp .ne 9, 3) := by decide +kernel
theorem d_M_value_50 : decode mb_M_value 50 = .ok (.ldc2_w 147, 3) := by decide +kernel
theorem d_M_value_53 : decode mb_M_value 53 = .ok (.goto 10, 3) := by decide +kernel
theorem d_M_value_56 : decode mb_M_value 56 = .ok (.aload_n 0, 1) := by decide +kernel
theorem d_M_value_57 : decode mb_M_value 57 = .ok (.getfield 22, 3) := by decide +kernel
theorem d_M_value_60 : decode mb_M_value 60 = .ok (.iload 4, 2) := by decide +kernel
theorem d_M_value_62 : decode mb_M_value 62 = .ok (.laload, 1) := by decide +kernel
theorem d_M_value_63 : decode mb_M_value 63 = .ok (.lreturn, 1) := by decide +kernel
theorem d_M_listed_0 : decode mb_M_listed 0 = .ok (.aload_n 0, 1) := by decide +kernel
theorem d_M_listed_1 : decode mb_M_listed 1 = .ok (.aload_n 0, 1) := by decide +kernel
theorem d_M_listed_2 : decode mb_M_listed 2 = .ok (.iload_n 1, 1) := by decide +kernel
theorem d_M_listed_3 : decode mb_M_listed 3 = .ok (.iload_n 2, 1) := by decide +kernel
theorem d_M_listed_4 : decode mb_M_listed 4 = .ok (.iload_n 3, 1) := by decide +kernel
theorem d_M_listed_5 : decode mb_M_listed 5 = .ok (.invokevirtual 136, 3) := by decide +kernel
theorem d_M_listed_8 : decode mb_M_listed 8 = .ok (.ifCond .eq 7, 3) := by decide +kernel
theorem d_M_listed_11 : decode mb_M_listed 11 = .ok (.iconst 0, 1) := by decide +kernel
theorem d_M_listed_12 : decode mb_M_listed 12 = .ok (.goto 4, 3) := by decide +kernel
theorem d_M_listed_15 : decode mb_M_listed 15 = .ok (.iconst 1, 1) := by decide +kernel
theorem d_M_listed_16 : decode mb_M_listed 16 = .ok (.putfield 61, 3) := by decide +kernel
theorem d_M_listed_19 : decode mb_M_listed 19 = .ok (.aload_n 0, 1) := by decide +kernel
theorem d_M_listed_20 : decode mb_M_listed 20 = .ok (.getfield 61, 3) := by decide +kernel
theorem d_M_listed_23 : decode mb_M_listed 23 = .ok (.ifCond .eq 5, 3) := by decide +kernel
theorem d_M_listed_26 : decode mb_M_listed 26 = .ok (.iconst 0, 1) := by decide +kernel
theorem d_M_listed_27 : decode mb_M_listed 27 = .ok (.ireturn, 1) := by decide +kernel
theorem d_M_listed_28 : decode mb_M_listed 28 = .ok (.iconst 0, 1) := by decide +kernel
theorem d_M_listed_29 : decode mb_M_listed 29 = .ok (.istore 5, 2) := by decide +kernel
theorem d_M_listed_31 : decode mb_M_listed 31 = .ok (.iload 5, 2) := by decide +kernel
theorem d_M_listed_33 : decode mb_M_listed 33 = .ok (.aload_n 0, 1) := by decide +kernel
theorem d_M_listed_34 : decode mb_M_listed 34 = .ok (.getfield 67, 3) := by decide +kernel
theorem d_M_listed_37 : decode mb_M_listed 37 = .ok (.if_icmp .ge 88, 3) := by decide +kernel
theorem d_M_listed_40 : decode mb_M_listed 40 = .ok (.aload_n 0, 1) := by decide +kernel
theorem d_M_listed_41 : decode mb_M_listed 41 = .ok (.iload 5, 2) := by decide +kernel
theorem d_M_listed_43 : decode mb_M_listed 43 = .ok (.iload_n 1, 1) := by decide +kernel
theorem d_M_listed_44 : decode mb_M_listed 44 = .ok (.iload_n 2, 1) := by decide +kernel
theorem d_M_listed_45 : decode mb_M_listed 45 = .ok (.iload_n 3, 1) := by decide +kernel
theorem d_M_listed_46 : decode mb_M_listed 46 = .ok (.invokevirtual 125, 3) := by decide +kernel
theorem d_M_listed_49 : decode mb_M_listed 49 = .ok (.ifCond .ne 6, 3) := by decide +kernel
theorem d_M_listed_52 : decode mb_M_listed 52 = .ok (.goto 67, 3) := by decide +kernel
theorem d_M_listed_55 : decode mb_M_listed 55 = .ok (.iconst 0, 1) := by decide +kernel
theorem d_M_listed_56 : decode mb_M_listed 56 = .ok (.istore 6, 2) := by decide +kernel
theorem d_M_listed_58 : decode mb_M_listed 58 = .ok (.iconst 0, 1) := by decide +kernel
theorem d_M_listed_59 : decode mb_M_listed 59 = .ok (.istore 7, 2) := by decide +kernel
theorem d_M_listed_61 : decode mb_M_listed 61 = .ok (.iload 7, 2) := by decide +kernel
theorem d_M_listed_63 : decode mb_M_listed 63 = .ok (.aload_n 0, 1) := by decide +kernel
theorem d_M_listed_64 : decode mb_M_listed 64 = .ok (.getfield 67, 3) := by decide +kernel
theorem d_M_listed_67 : decode mb_M_listed 67 = .ok (.if_icmp .ge 42, 3) := by decide +kernel
theorem d_M_listed_70 : decode mb_M_listed 70 = .ok (.iload 6, 2) := by decide +kernel
theorem d_M_listed_72 : decode mb_M_listed 72 = .ok (.aload_n 0, 1) := by decide +kernel
theorem d_M_listed_73 : decode mb_M_listed 73 = .ok (.iload 7, 2) := by decide +kernel
theorem d_M_listed_75 : decode mb_M_listed 75 = .ok (.iload_n 1, 1) := by decide +kernel
theorem d_M_listed_76 : decode mb_M_listed 76 = .ok (.iload_n 2, 1) := by decide +kernel
theorem d_M_listed_77 : decode mb_M_listed 77 = .ok (.iload_n 3, 1) := by decide +kernel
theorem d_M_listed_78 : decode mb_M_listed 78 = .ok (.invokevirtual 125, 3) := by decide +kernel
theorem d_M_listed_81 : decode mb_M_listed 81 = .ok (.ifCond .eq 18, 3) := by decide +kernel
theorem d_M_listed_84 : decode mb_M_listed 84 = .ok (.aload_n 0, 1) := by decide +kernel
theorem d_M_listed_85 : decode mb_M_listed 85 = .ok (.iload 7, 2) := by decide +kernel
theorem d_M_listed_87 : decode mb_M_listed 87 = .ok (.iload 5, 2) := by decide +kernel
theorem d_M_listed_89 : decode mb_M_listed 89 = .ok (.invokevirtual 129, 3) := by decide +kernel
theorem d_M_listed_92 : decode mb_M_listed 92 = .ok (.ifCond .eq 7, 3) := by decide +kernel
theorem d_M_listed_95 : decode mb_M_listed 95 = .ok (.iconst 1, 1) := by decide +kernel
theorem d_M_listed_96 : decode mb_M_listed 96 = .ok (.goto 4, 3) := by decide +kernel
theorem d_M_listed_99 : decode mb_M_listed 99 = .ok (.iconst 0, 1) := by decide +kernel
theorem d_M_listed_100 : decode mb_M_listed 100 = .ok (.iadd, 1) := by decide +kernel
theorem d_M_listed_101 : decode mb_M_listed 101 = .ok (.istore 6, 2) := by decide +kernel
theorem d_M_listed_103 : decode mb_M_listed 103 = .ok (.iinc 7 1, 3) := by decide +kernel
theorem d_M_listed_106 : decode mb_M_listed 106 = .ok (.goto (-45), 3) := by decide +kernel
theorem d_M_listed_109 : decode mb_M_listed 109 = .ok (.iload 6, 2) := by decide +kernel
theorem d_M_listed_111 : decode mb_M_listed 111 = .ok (.iload 4, 2) := by decide +kernel
theorem d_M_listed_113 : decode mb_M_listed 113 = .ok (.if_icmp .ne 6, 3) := by decide +kernel
theorem d_M_listed_116 : decode mb_M_listed 116 = .ok (.iload 5, 2) := by decide +kernel
theorem d_M_listed_118 : decode mb_M_listed 118 = .ok (.ireturn, 1) := by decide +kernel
theorem d_M_listed_119 : decode mb_M_listed 119 = .ok (.iinc 5 1, 3) := by decide +kernel
theorem d_M_listed_122 : decode mb_M_listed 122 = .ok (.goto (-91), 3) := by decide +kernel
theorem d_M_listed_125 : decode mb_M_listed 125 = .ok (.iconst (-1), 1) := by decide +kernel
theorem d_M_listed_126 : decode mb_M_listed 126 = .ok (.ireturn, 1) := by decide +kernel
theorem d_M_why_0 : decode mb_M_why 0 = .ok (.aload_n 0, 1) := by decide +kernel
theorem d_M_why_1 : decode mb_M_why 1 = .ok (.aload_n 0, 1) := by decide +kernel
theorem d_M_why_2 : decode mb_M_why 2 = .ok (.iload_n 1, 1) := by decide +kernel
theorem d_M_why_3 : decode mb_M_why 3 = .ok (.iload_n 2, 1) := by decide +kernel
theorem d_M_why_4 : decode mb_M_why 4 = .ok (.iload_n 3, 1) := by decide +kernel
theorem d_M_why_5 : decode mb_M_why 5 = .ok (.invokevirtual 136, 3) := by decide +kernel
theorem d_M_why_8 : decode mb_M_why 8 = .ok (.ifCond .eq 16, 3) := by decide +kernel
theorem d_M_why_11 : decode mb_M_why 11 = .ok (.aload_n 0, 1) := by decide +kernel
theorem d_M_why_12 : decode mb_M_why 12 = .ok (.iload 4, 2) := by decide +kernel
theorem d_M_why_14 : decode mb_M_why 14 = .ok (.invokevirtual 88, 3) := by decide +kernel
theorem d_M_why_17 : decode mb_M_why 17 = .ok (.ifCond .eq 7, 3) := by decide +kernel
theorem d_M_why_20 : decode mb_M_why 20 = .ok (.iconst 0, 1) := by decide +kernel
theorem d_M_why_21 : decode mb_M_why 21 = .ok (.goto 4, 3) := by decide +kernel
theorem d_M_why_24 : decode mb_M_why 24 = .ok (.iconst 1, 1) := by decide +kernel
theorem d_M_why_25 : decode mb_M_why 25 = .ok (.putfield 61, 3) := by decide +kernel
theorem d_M_why_28 : decode mb_M_why 28 = .ok (.aload_n 0, 1) := by decide +kernel
theorem d_M_why_29 : decode mb_M_why 29 = .ok (.getfield 61, 3) := by decide +kernel
theorem d_M_why_32 : decode mb_M_why 32 = .ok (.ifCond .eq 5, 3) := by decide +kernel
theorem d_M_why_35 : decode mb_M_why 35 = .ok (.iconst 0, 1) := by decide +kernel
theorem d_M_why_36 : decode mb_M_why 36 = .ok (.ireturn, 1) := by decide +kernel
theorem d_M_why_37 : decode mb_M_why 37 = .ok (.aload_n 0, 1) := by decide +kernel
theorem d_M_why_38 : decode mb_M_why 38 = .ok (.getfield 7, 3) := by decide +kernel
theorem d_M_why_41 : decode mb_M_why 41 = .ok (.iload 4, 2) := by decide +kernel
theorem d_M_why_43 : decode mb_M_why 43 = .ok (.iaload, 1) := by decide +kernel
theorem d_M_why_44 : decode mb_M_why 44 = .ok (.iload_n 1, 1) := by decide +kernel
theorem d_M_why_45 : decode mb_M_why 45 = .ok (.if_icmp .eq 5, 3) := by decide +kernel
theorem d_M_why_48 : decode mb_M_why 48 = .ok (.iconst 1, 1) := by decide +kernel
theorem d_M_why_49 : decode mb_M_why 49 = .ok (.ireturn, 1) := by decide +kernel
theorem d_M_why_50 : decode mb_M_why 50 = .ok (.aload_n 0, 1) := by decide +kernel
theorem d_M_why_51 : decode mb_M_why 51 = .ok (.iload 4, 2) := by decide +kernel
theorem d_M_why_53 : decode mb_M_why 53 = .ok (.iload_n 2, 1) := by decide +kernel
theorem d_M_why_54 : decode mb_M_why 54 = .ok (.iload_n 3, 1) := by decide +kernel
theorem d_M_why_55 : decode mb_M_why 55 = .ok (.invokevirtual 115, 3) := by decide +kernel
theorem d_M_why_58 : decode mb_M_why 58 = .ok (.ifCond .ne 5, 3) := by decide +kernel
theorem d_M_why_61 : decode mb_M_why 61 = .ok (.iconst 2, 1) := by decide +kernel
theorem d_M_why_62 : decode mb_M_why 62 = .ok (.ireturn, 1) := by decide +kernel
theorem d_M_why_63 : decode mb_M_why 63 = .ok (.aload_n 0, 1) := by decide +kernel
theorem d_M_why_64 : decode mb_M_why 64 = .ok (.iload 4, 2) := by decide +kernel
theorem d_M_why_66 : decode mb_M_why 66 = .ok (.iload_n 2, 1) := by decide +kernel
theorem d_M_why_67 : decode mb_M_why 67 = .ok (.iload_n 3, 1) := by decide +kernel
theorem d_M_why_68 : decode mb_M_why 68 = .ok (.invokevirtual 119, 3) := by decide +kernel
theorem d_M_why_71 : decode mb_M_why 71 = .ok (.ifCond .ne 5, 3) := by decide +kernel
theorem d_M_why_74 : decode mb_M_why 74 = .ok (.iconst 3, 1) := by decide +kernel
theorem d_M_why_75 : decode mb_M_why 75 = .ok (.ireturn, 1) := by decide +kernel
theorem d_M_why_76 : decode mb_M_why 76 = .ok (.aload_n 0, 1) := by decide +kernel
theorem d_M_why_77 : decode mb_M_why 77 = .ok (.iload 4, 2) := by decide +kernel
theorem d_M_why_79 : decode mb_M_why 79 = .ok (.iload_n 2, 1) := by decide +kernel
theorem d_M_why_80 : decode mb_M_why 80 = .ok (.iload_n 3, 1) := by decide +kernel
theorem d_M_why_81 : decode mb_M_why 81 = .ok (.invokevirtual 122, 3) := by decide +kernel
theorem d_M_why_84 : decode mb_M_why 84 = .ok (.ifCond .ne 5, 3) := by decide +kernel
theorem d_M_why_87 : decode mb_M_why 87 = .ok (.iconst 4, 1) := by decide +kernel
theorem d_M_why_88 : decode mb_M_why 88 = .ok (.ireturn, 1) := by decide +kernel
theorem d_M_why_89 : decode mb_M_why 89 = .ok (.aload_n 0, 1) := by decide +kernel
theorem d_M_why_90 : decode mb_M_why 90 = .ok (.iload_n 1, 1) := by decide +kernel
theorem d_M_why_91 : decode mb_M_why 91 = .ok (.iload_n 2, 1) := by decide +kernel
theorem d_M_why_92 : decode mb_M_why 92 = .ok (.iload_n 3, 1) := by decide +kernel
theorem d_M_why_93 : decode mb_M_why 93 = .ok (.invokevirtual 143, 3) := by decide +kernel
theorem d_M_why_96 : decode mb_M_why 96 = .ok (.istore 5, 2) := by decide +kernel
theorem d_M_why_98 : decode mb_M_why 98 = .ok (.iload 5, 2) := by decide +kernel
theorem d_M_why_100 : decode mb_M_why 100 = .ok (.iload 4, 2) := by decide +kernel
theorem d_M_why_102 : decode mb_M_why 102 = .ok (.if_icmp .ne 5, 3) := by decide +kernel
theorem d_M_why_105 : decode mb_M_why 105 = .ok (.iconst 0, 1) := by decide +kernel
theorem d_M_why_106 : decode mb_M_why 106 = .ok (.ireturn, 1) := by decide +kernel
theorem d_M_why_107 : decode mb_M_why 107 = .ok (.aload_n 0, 1) := by decide +kernel
theorem d_M_why_108 : decode mb_M_why 108 = .ok (.getfield 26, 3) := by decide +kernel
theorem d_M_why_111 : decode mb_M_why 111 = .ok (.iload 4, 2) := by decide +kernel
theorem d_M_why_113 : decode mb_M_why 113 = .ok (.iaload, 1) := by decide +kernel
theorem d_M_why_114 : decode mb_M_why 114 = .ok (.aload_n 0, 1) := by decide +kernel
theorem d_M_why_115 : decode mb_M_why 115 = .ok (.getfield 26, 3) := by decide +kernel
theorem d_M_why_118 : decode mb_M_why 118 = .ok (.iload 5, 2) := by decide +kernel
theorem d_M_why_120 : decode mb_M_why 120 = .ok (.iaload, 1) := by decide +kernel
theorem d_M_why_121 : decode mb_M_why 121 = .ok (.if_icmp .ge 7, 3) := by decide +kernel
theorem d_M_why_124 : decode mb_M_why 124 = .ok (.iconst 5, 1) := by decide +kernel
theorem d_M_why_125 : decode mb_M_why 125 = .ok (.goto 5, 3) := by decide +kernel
theorem d_M_why_128 : decode mb_M_why 128 = .ok (.bipush 6, 2) := by decide +kernel
theorem d_M_why_130 : decode mb_M_why 130 = .ok (.ireturn, 1) := by decide +kernel
theorem d_M_greatest_0 : decode mb_M_greatest 0 = .ok (.aload_n 0, 1) := by decide +kernel
theorem d_M_greatest_1 : decode mb_M_greatest 1 = .ok (.iload_n 1, 1) := by decide +kernel
theorem d_M_greatest_2 : decode mb_M_greatest 2 = .ok (.invokestatic 74, 3) := by decide +kernel
theorem d_M_greatest_5 : decode mb_M_greatest 5 = .ok (.ifCond .eq 14, 3) := by decide +kernel
theorem d_M_greatest_8 : decode mb_M_greatest 8 = .ok (.iload_n 2, 1) := by decide +kernel
theorem d_M_greatest_9 : decode mb_M_greatest 9 = .ok (.invokestatic 81, 3) := by decide +kernel
theorem d_M_greatest_12 : decode mb_M_greatest 12 = .ok (.ifCond .eq 7, 3) := by decide +kernel
theorem d_M_greatest_15 : decode mb_M_greatest 15 = .ok (.iconst 0, 1) := by decide +kernel
theorem d_M_greatest_16 : decode mb_M_greatest 16 = .ok (.goto 4, 3) := by decide +kernel
theorem d_M_greatest_19 : decode mb_M_greatest 19 = .ok (.iconst 1, 1) := by decide +kernel
theorem d_M_greatest_20 : decode mb_M_greatest 20 = .ok (.putfield 61, 3) := by decide +kernel
theorem d_M_greatest_23 : decode mb_M_greatest 23 = .ok (.ldc2_w 147, 3) := by decide +kernel
theorem d_M_greatest_26 : decode mb_M_greatest 26 = .ok (.lstore_n 3, 1) := by decide +kernel
theorem d_M_greatest_27 : decode mb_M_greatest 27 = .ok (.iconst 0, 1) := by decide +kernel
theorem d_M_greatest_28 : decode mb_M_greatest 28 = .ok (.istore 5, 2) := by decide +kernel
theorem d_M_greatest_30 : decode mb_M_greatest 30 = .ok (.iload 5, 2) := by decide +kernel
theorem d_M_greatest_32 : decode mb_M_greatest 32 = .ok (.aload_n 0, 1) := by decide +kernel
theorem d_M_greatest_33 : decode mb_M_greatest 33 = .ok (.getfield 67, 3) := by decide +kernel
theorem d_M_greatest_36 : decode mb_M_greatest 36 = .ok (.if_icmp .ge 61, 3) := by decide +kernel
theorem d_M_greatest_39 : decode mb_M_greatest 39 = .ok (.aload_n 0, 1) := by decide +kernel
theorem d_M_greatest_40 : decode mb_M_greatest 40 = .ok (.getfield 61, 3) := by decide +kernel
theorem d_M_greatest_43 : decode mb_M_greatest 43 = .ok (.ifCond .ne 54, 3) := by decide +kernel
theorem d_M_greatest_46 : decode mb_M_greatest 46 = .ok (.aload_n 0, 1) := by decide +kernel
theorem d_M_greatest_47 : decode mb_M_greatest 47 = .ok (.getfield 7, 3) := by decide +kernel
theorem d_M_greatest_50 : decode mb_M_greatest 50 = .ok (.iload 5, 2) := by decide +kernel
theorem d_M_greatest_52 : decode mb_M_greatest 52 = .ok (.iaload, 1) := by decide +kernel
theorem d_M_greatest_53 : decode mb_M_greatest 53 = .ok (.iload_n 1, 1) := by decide +kernel
theorem d_M_greatest_54 : decode mb_M_greatest 54 = .ok (.if_icmp .ne 37, 3) := by decide +kernel
theorem d_M_greatest_57 : decode mb_M_greatest 57 = .ok (.aload_n 0, 1) := by decide +kernel
theorem d_M_greatest_58 : decode mb_M_greatest 58 = .ok (.getfield 19, 3) := by decide +kernel
theorem d_M_greatest_61 : decode mb_M_greatest 61 = .ok (.iload 5, 2) := by decide +kernel
theorem d_M_greatest_63 : decode mb_M_greatest 63 = .ok (.iaload, 1) := by decide +kernel
theorem d_M_greatest_64 : decode mb_M_greatest 64 = .ok (.iload_n 2, 1) := by decide +kernel
theorem d_M_greatest_65 : decode mb_M_greatest 65 = .ok (.invokestatic 112, 3) := by decide +kernel
theorem d_M_greatest_68 : decode mb_M_greatest 68 = .ok (.ifCond .eq 23, 3) := by decide +kernel
theorem d_M_greatest_71 : decode mb_M_greatest 71 = .ok (.aload_n 0, 1) := by decide +kernel
theorem d_M_greatest_72 : decode mb_M_greatest 72 = .ok (.getfield 22, 3) := by decide +kernel
theorem d_M_greatest_75 : decode mb_M_greatest 75 = .ok (.iload 5, 2) := by decide +kernel
theorem d_M_greatest_77 : decode mb_M_greatest 77 = .ok (.laload, 1) := by decide +kernel
theorem d_M_greatest_78 : decode mb_M_greatest 78 = .ok (.lload_n 3, 1) := by decide +kernel
theorem d_M_greatest_79 : decode mb_M_greatest 79 = .ok (.lcmp, 1) := by decide +kernel
theorem d_M_greatest_80 : decode mb_M_greatest 80 = .ok (.ifCond .le 11, 3) := by decide +kernel
theorem d_M_greatest_83 : decode mb_M_greatest 83 = .ok (.aload_n 0, 1) := by decide +kernel
theorem d_M_greatest_84 : decode mb_M_greatest 84 = .ok (.getfield 22, 3) := by decide +kernel
theorem d_M_greatest_87 : decode mb_M_greatest 87 = .ok (.iload 5, 2) := by decide +kernel
theorem d_M_greatest_89 : decode mb_M_greatest 89 = .ok (.laload, 1) := by decide +kernel
theorem d_M_greatest_90 : decode mb_M_greatest 90 = .ok (.lstore_n 3, 1) := by decide +kernel
theorem d_M_greatest_91 : decode mb_M_greatest 91 = .ok (.iinc 5 1, 3) := by decide +kernel
theorem d_M_greatest_94 : decode mb_M_greatest 94 = .ok (.goto (-64), 3) := by decide +kernel
theorem d_M_greatest_97 : decode mb_M_greatest 97 = .ok (.aload_n 0, 1) := by decide +kernel
theorem d_M_greatest_98 : decode mb_M_greatest 98 = .ok (.getfield 61, 3) := by decide +kernel
theorem d_M_greatest_101 : decode mb_M_greatest 101 = .ok (.ifCond .eq 7, 3) := by decide +kernel
theorem d_M_greatest_104 : decode mb_M_greatest 104 = .ok (.lconst 0, 1) := by decide +kernel
theorem d_M_greatest_105 : decode mb_M_greatest 105 = .ok (.goto 4, 3) := by decide +kernel
theorem d_M_greatest_108 : decode mb_M_greatest 108 = .ok (.lload_n 3, 1) := by decide +kernel
theorem d_M_greatest_109 : decode mb_M_greatest 109 = .ok (.lreturn, 1) := by decide +kernel
theorem d_M_close_0 : decode mb_M_close 0 = .ok (.aload_n 0, 1) := by decide +kernel
theorem d_M_close_1 : decode mb_M_close 1 = .ok (.iload_n 1, 1) := by decide +kernel
theorem d_M_close_2 : decode mb_M_close 2 = .ok (.invokestatic 74, 3) := by decide +kernel
theorem d_M_close_5 : decode mb_M_close 5 = .ok (.ifCond .eq 7, 3) := by decide +kernel
theorem d_M_close_8 : decode mb_M_close 8 = .ok (.iconst 0, 1) := by decide +kernel
theorem d_M_close_9 : decode mb_M_close 9 = .ok (.goto 4, 3) := by decide +kernel
theorem d_M_close_12 : decode mb_M_close 12 = .ok (.iconst 1, 1) := by decide +kernel
theorem d_M_close_13 : decode mb_M_close 13 = .ok (.putfield 61, 3) := by decide +kernel
theorem d_M_close_16 : decode mb_M_close 16 = .ok (.aload_n 0, 1) := by decide +kernel
theorem d_M_close_17 : decode mb_M_close 17 = .ok (.getfield 61, 3) := by decide +kernel
theorem d_M_close_20 : decode mb_M_close 20 = .ok (.ifCond .eq 5, 3) := by decide +kernel
theorem d_M_close_23 : decode mb_M_close 23 = .ok (.iconst 0, 1) := by decide +kernel
theorem d_M_close_24 : decode mb_M_close 24 = .ok (.ireturn, 1) := by decide +kernel
theorem d_M_close_25 : decode mb_M_close 25 = .ok (.aload_n 0, 1) := by decide +kernel
theorem d_M_close_26 : decode mb_M_close 26 = .ok (.iconst 0, 1) := by decide +kernel
theorem d_M_close_27 : decode mb_M_close 27 = .ok (.putfield 149, 3) := by decide +kernel
theorem d_M_close_30 : decode mb_M_close 30 = .ok (.iconst 0, 1) := by decide +kernel
theorem d_M_close_31 : decode mb_M_close 31 = .ok (.istore_n 2, 1) := by decide +kernel
theorem d_M_close_32 : decode mb_M_close 32 = .ok (.iload_n 2, 1) := by decide +kernel
theorem d_M_close_33 : decode mb_M_close 33 = .ok (.aload_n 0, 1) := by decide +kernel
theorem d_M_close_34 : decode mb_M_close 34 = .ok (.getfield 64, 3) := by decide +kernel
theorem d_M_close_37 : decode mb_M_close 37 = .ok (.if_icmp .ge 70, 3) := by decide +kernel
theorem d_M_close_40 : decode mb_M_close 40 = .ok (.iload_n 2, 1) := by decide +kernel
theorem d_M_close_41 : decode mb_M_close 41 = .ok (.iconst 1, 1) := by decide +kernel
theorem d_M_close_42 : decode mb_M_close 42 = .ok (.iadd, 1) := by decide +kernel
theorem d_M_close_43 : decode mb_M_close 43 = .ok (.istore_n 3, 1) := by decide +kernel
theorem d_M_close_44 : decode mb_M_close 44 = .ok (.iload_n 3, 1) := by decide +kernel
theorem d_M_close_45 : decode mb_M_close 45 = .ok (.aload_n 0, 1) := by decide +kernel
theorem d_M_close_46 : decode mb_M_close 46 = .ok (.getfield 64, 3) := by decide +kernel
theorem d_M_close_49 : decode mb_M_close 49 = .ok (.if_icmp .ge 52, 3) := by decide +kernel
theorem d_M_close_52 : decode mb_M_close 52 = .ok (.aload_n 0, 1) := by decide +kernel
theorem d_M_close_53 : decode mb_M_close 53 = .ok (.iload_n 1, 1) := by decide +kernel
theorem d_M_close_54 : decode mb_M_close 54 = .ok (.iload_n 2, 1) := by decide +kernel
theorem d_M_close_55 : decode mb_M_close 55 = .ok (.iload_n 3, 1) := by decide +kernel
theorem d_M_close_56 : decode mb_M_close 56 = .ok (.invokevirtual 152, 3) := by decide +kernel
theorem d_M_close_59 : decode mb_M_close 59 = .ok (.ifCond .ne 6, 3) := by decide +kernel
theorem d_M_close_62 : decode mb_M_close 62 = .ok (.goto 33, 3) := by decide +kernel
theorem d_M_close_65 : decode mb_M_close 65 = .ok (.aload_n 0, 1) := by decide +kernel
theorem d_M_close_66 : decode mb_M_close 66 = .ok (.getfield 51, 3) := by decide +kernel
theorem d_M_close_69 : decode mb_M_close 69 = .ok (.aload_n 0, 1) := by decide +kernel
theorem d_M_close_70 : decode mb_M_close 70 = .ok (.getfield 149, 3) := by decide +kernel
theorem d_M_close_73 : decode mb_M_close 73 = .ok (.iload_n 2, 1) := by decide +kernel
theorem d_M_close_74 : decode mb_M_close 74 = .ok (.iastore, 1) := by decide +kernel
theorem d_M_close_75 : decode mb_M_close 75 = .ok (.aload_n 0, 1) := by decide +kernel
theorem d_M_close_76 : decode mb_M_close 76 = .ok (.getfield 54, 3) := by decide +kernel
theorem d_M_close_79 : decode mb_M_close 79 = .ok (.aload_n 0, 1) := by decide +kernel
theorem d_M_close_80 : decode mb_M_close 80 = .ok (.getfield 149, 3) := by decide +kernel
theorem d_M_close_83 : decode mb_M_close 83 = .ok (.iload_n 3, 1) := by decide +kernel
theorem d_M_close_84 : decode mb_M_close 84 = .ok (.iastore, 1) := by decide +kernel
theorem d_M_close_85 : decode mb_M_close 85 = .ok (.aload_n 0, 1) := by decide +kernel
theorem d_M_close_86 : decode mb_M_close 86 = .ok (.dup, 1) := by decide +kernel
theorem d_M_close_87 : decode mb_M_close 87 = .ok (.getfield 149, 3) := by decide +kernel
theorem d_M_close_90 : decode mb_M_close 90 = .ok (.iconst 1, 1) := by decide +kernel
theorem d_M_close_91 : decode mb_M_close 91 = .ok (.iadd, 1) := by decide +kernel
theorem d_M_close_92 : decode mb_M_close 92 = .ok (.putfield 149, 3) := by decide +kernel
theorem d_M_close_95 : decode mb_M_close 95 = .ok (.iinc 3 1, 3) := by decide +kernel
theorem d_M_close_98 : decode mb_M_close 98 = .ok (.goto (-54), 3) := by decide +kernel
theorem d_M_close_101 : decode mb_M_close 101 = .ok (.iinc 2 1, 3) := by decide +kernel
theorem d_M_close_104 : decode mb_M_close 104 = .ok (.goto (-72), 3) := by decide +kernel
theorem d_M_close_107 : decode mb_M_close 107 = .ok (.aload_n 0, 1) := by decide +kernel
theorem d_M_close_108 : decode mb_M_close 108 = .ok (.getfield 149, 3) := by decide +kernel
theorem d_M_close_111 : decode mb_M_close 111 = .ok (.ireturn, 1) := by decide +kernel
theorem d_M_isClose_0 : decode mb_M_isClose 0 = .ok (.aload_n 0, 1) := by decide +kernel
theorem d_M_isClose_1 : decode mb_M_isClose 1 = .ok (.getfield 38, 3) := by decide +kernel
theorem d_M_isClose_4 : decode mb_M_isClose 4 = .ok (.iload_n 2, 1) := by decide +kernel
theorem d_M_isClose_5 : decode mb_M_isClose 5 = .ok (.iaload, 1) := by decide +kernel
theorem d_M_isClose_6 : decode mb_M_isClose 6 = .ok (.aload_n 0, 1) := by decide +kernel
theorem d_M_isClose_7 : decode mb_M_isClose 7 = .ok (.getfield 38, 3) := by decide +kernel
theorem d_M_isClose_10 : decode mb_M_isClose 10 = .ok (.iload_n 3, 1) := by decide +kernel
theorem d_M_isClose_11 : decode mb_M_isClose 11 = .ok (.iaload, 1) := by decide +kernel
theorem d_M_isClose_12 : decode mb_M_isClose 12 = .ok (.if_icmp .eq 5, 3) := by decide +kernel
theorem d_M_isClose_15 : decode mb_M_isClose 15 = .ok (.iconst 0, 1) := by decide +kernel
theorem d_M_isClose_16 : decode mb_M_isClose 16 = .ok (.ireturn, 1) := by decide +kernel
theorem d_M_isClose_17 : decode mb_M_isClose 17 = .ok (.aload_n 0, 1) := by decide +kernel
theorem d_M_isClose_18 : decode mb_M_isClose 18 = .ok (.iload_n 1, 1) := by decide +kernel
theorem d_M_isClose_19 : decode mb_M_isClose 19 = .ok (.iload_n 2, 1) := by decide +kernel
theorem d_M_isClose_20 : decode mb_M_isClose 20 = .ok (.iload_n 3, 1) := by decide +kernel
theorem d_M_isClose_21 : decode mb_M_isClose 21 = .ok (.invokevirtual 143, 3) := by decide +kernel
theorem d_M_isClose_24 : decode mb_M_isClose 24 = .ok (.istore 4, 2) := by decide +kernel
theorem d_M_isClose_26 : decode mb_M_isClose 26 = .ok (.aload_n 0, 1) := by decide +kernel
theorem d_M_isClose_27 : decode mb_M_isClose 27 = .ok (.getfield 41, 3) := by decide +kernel
theorem d_M_isClose_30 : decode mb_M_isClose 30 = .ok (.iload_n 2, 1) := by decide +kernel
theorem d_M_isClose_31 : decode mb_M_isClose 31 = .ok (.laload, 1) := by decide +kernel
theorem d_M_isClose_32 : decode mb_M_isClose 32 = .ok (.aload_n 0, 1) := by decide +kernel
theorem d_M_isClose_33 : decode mb_M_isClose 33 = .ok (.getfield 41, 3) := by decide +kernel
theorem d_M_isClose_36 : decode mb_M_isClose 36 = .ok (.iload_n 3, 1) := by decide +kernel
theorem d_M_isClose_37 : decode mb_M_isClose 37 = .ok (.laload, 1) := by decide +kernel
theorem d_M_isClose_38 : decode mb_M_isClose 38 = .ok (.lsub, 1) := by decide +kernel
theorem d_M_isClose_39 : decode mb_M_isClose 39 = .ok (.lstore 5, 2) := by decide +kernel
theorem d_M_isClose_41 : decode mb_M_isClose 41 = .ok (.aload_n 0, 1) := by decide +kernel
theorem d_M_isClose_42 : decode mb_M_isClose 42 = .ok (.getfield 44, 3) := by decide +kernel
theorem d_M_isClose_45 : decode mb_M_isClose 45 = .ok (.iload_n 2, 1) := by decide +kernel
theorem d_M_isClose_46 : decode mb_M_isClose 46 = .ok (.laload, 1) := by decide +kernel
theorem d_M_isClose_47 : decode mb_M_isClose 47 = .ok (.aload_n 0, 1) := by decide +kernel
theorem d_M_isClose_48 : decode mb_M_isClose 48 = .ok (.getfield 44, 3) := by decide +kernel
theorem d_M_isClose_51 : decode mb_M_isClose 51 = .ok (.iload_n 3, 1) := by decide +kernel
theorem d_M_isClose_52 : decode mb_M_isClose 52 = .ok (.laload, 1) := by decide +kernel
theorem d_M_isClose_53 : decode mb_M_isClose 53 = .ok (.lsub, 1) := by decide +kernel
theorem d_M_isClose_54 : decode mb_M_isClose 54 = .ok (.lstore 7, 2) := by decide +kernel
theorem d_M_isClose_56 : decode mb_M_isClose 56 = .ok (.iload 4, 2) := by decide +kernel
theorem d_M_isClose_58 : decode mb_M_isClose 58 = .ok (.iconst (-1), 1) := by decide +kernel
theorem d_M_isClose_59 : decode mb_M_isClose 59 = .ok (.if_icmp .eq 37, 3) := by decide +kernel
theorem d_M_isClose_62 : decode mb_M_isClose 62 = .ok (.lload 5, 2) := by decide +kernel
theorem d_M_isClose_64 : decode mb_M_isClose 64 = .ok (.lload 5, 2) := by decide +kernel
theorem d_M_isClose_66 : decode mb_M_isClose 66 = .ok (.lmul, 1) := by decide +kernel
theorem d_M_isClose_67 : decode mb_M_isClose 67 = .ok (.lload 7, 2) := by decide +kernel
theorem d_M_isClose_69 : decode mb_M_isClose 69 = .ok (.lload 7, 2) := by decide +kernel
theorem d_M_isClose_71 : decode mb_M_isClose 71 = .ok (.lmul, 1) := by decide +kernel
theorem d_M_isClose_72 : decode mb_M_isClose 72 = .ok (.ladd, 1) := by decide +kernel
theorem d_M_isClose_73 : decode mb_M_isClose 73 = .ok (.aload_n 0, 1) := by decide +kernel
theorem d_M_isClose_74 : decode mb_M_isClose 74 = .ok (.getfield 22, 3) := by decide +kernel
theorem d_M_isClose_77 : decode mb_M_isClose 77 = .ok (.iload 4, 2) := by decide +kernel
theorem d_M_isClose_79 : decode mb_M_isClose 79 = .ok (.laload, 1) := by decide +kernel
theorem d_M_isClose_80 : decode mb_M_isClose 80 = .ok (.aload_n 0, 1) := by decide +kernel
theorem d_M_isClose_81 : decode mb_M_isClose 81 = .ok (.getfield 22, 3) := by decide +kernel
theorem d_M_isClose_84 : decode mb_M_isClose 84 = .ok (.iload 4, 2) := by decide +kernel
theorem d_M_isClose_86 : decode mb_M_isClose 86 = .ok (.laload, 1) := by decide +kernel
theorem d_M_isClose_87 : decode mb_M_isClose 87 = .ok (.lmul, 1) := by decide +kernel
theorem d_M_isClose_88 : decode mb_M_isClose 88 = .ok (.lcmp, 1) := by decide +kernel
theorem d_M_isClose_89 : decode mb_M_isClose 89 = .ok (.ifCond .ge 7, 3) := by decide +kernel
theorem d_M_isClose_92 : decode mb_M_isClose 92 = .ok (.iconst 1, 1) := by decide +kernel
theorem d_M_isClose_93 : decode mb_M_isClose 93 = .ok (.goto 4, 3) := by decide +kernel
theorem d_M_isClose_96 : decode mb_M_isClose 96 = .ok (.iconst 0, 1) := by decide +kernel
theorem d_M_isClose_97 : decode mb_M_isClose 97 = .ok (.ireturn, 1) := by decide +kernel
theorem d_M_pair_0 : decode mb_M_pair 0 = .ok (.aload_n 0, 1) := by decide +kernel
theorem d_M_pair_1 : decode mb_M_pair 1 = .ok (.iload_n 2, 1) := by decide +kernel
theorem d_M_pair_2 : decode mb_M_pair 2 = .ok (.ifCond .eq 8, 3) := by decide +kernel
theorem d_M_pair_5 : decode mb_M_pair 5 = .ok (.iload_n 2, 1) := by decide +kernel
theorem d_M_pair_6 : decode mb_M_pair 6 = .ok (.iconst 1, 1) := by decide +kernel
theorem d_M_pair_7 : decode mb_M_pair 7 = .ok (.if_icmp .ne 7, 3) := by decide +kernel
theorem d_M_pair_10 : decode mb_M_pair 10 = .ok (.iconst 0, 1) := by decide +kernel
theorem d_M_pair_11 : decode mb_M_pair 11 = .ok (.goto 4, 3) := by decide +kernel
theorem d_M_pair_14 : decode mb_M_pair 14 = .ok (.iconst 1, 1) := by decide +kernel
theorem d_M_pair_15 : decode mb_M_pair 15 = .ok (.putfield 61, 3) := by decide +kernel
theorem d_M_pair_18 : decode mb_M_pair 18 = .ok (.aload_n 0, 1) := by decide +kernel
theorem d_M_pair_19 : decode mb_M_pair 19 = .ok (.getfield 61, 3) := by decide +kernel
theorem d_M_pair_22 : decode mb_M_pair 22 = .ok (.ifCond .eq 5, 3) := by decide +kernel
theorem d_M_pair_25 : decode mb_M_pair 25 = .ok (.iconst 0, 1) := by decide +kernel
theorem d_M_pair_26 : decode mb_M_pair 26 = .ok (.ireturn, 1) := by decide +kernel
theorem d_M_pair_27 : decode mb_M_pair 27 = .ok (.iload_n 1, 1) := by decide +kernel
theorem d_M_pair_28 : decode mb_M_pair 28 = .ok (.ifCond .lt 11, 3) := by decide +kernel
theorem d_M_pair_31 : decode mb_M_pair 31 = .ok (.iload_n 1, 1) := by decide +kernel
theorem d_M_pair_32 : decode mb_M_pair 32 = .ok (.aload_n 0, 1) := by decide +kernel
theorem d_M_pair_33 : decode mb_M_pair 33 = .ok (.getfield 149, 3) := by decide +kernel
theorem d_M_pair_36 : decode mb_M_pair 36 = .ok (.if_icmp .lt 5, 3) := by decide +kernel
theorem d_M_pair_39 : decode mb_M_pair 39 = .ok (.iconst (-1), 1) := by decide +kernel
theorem d_M_pair_40 : decode mb_M_pair 40 = .ok (.ireturn, 1) := by decide +kernel
theorem d_M_pair_41 : decode mb_M_pair 41 = .ok (.iload_n 2, 1) := by decide +kernel
theorem d_M_pair_42 : decode mb_M_pair 42 = .ok (.ifCond .ne 12, 3) := by decide +kernel
theorem d_M_pair_45 : decode mb_M_pair 45 = .ok (.aload_n 0, 1) := by decide +kernel
theorem d_M_pair_46 : decode mb_M_pair 46 = .ok (.getfield 51, 3) := by decide +kernel
theorem d_M_pair_49 : decode mb_M_pair 49 = .ok (.iload_n 1, 1) := by decide +kernel
theorem d_M_pair_50 : decode mb_M_pair 50 = .ok (.iaload, 1) := by decide +kernel
theorem d_M_pair_51 : decode mb_M_pair 51 = .ok (.goto 9, 3) := by decide +kernel
theorem d_M_pair_54 : decode mb_M_pair 54 = .ok (.aload_n 0, 1) := by decide +kernel
theorem d_M_pair_55 : decode mb_M_pair 55 = .ok (.getfield 54, 3) := by decide +kernel
theorem d_M_pair_58 : decode mb_M_pair 58 = .ok (.iload_n 1, 1) := by decide +kernel
theorem d_M_pair_59 : decode mb_M_pair 59 = .ok (.iaload, 1) := by decide +kernel
theorem d_M_pair_60 : decode mb_M_pair 60 = .ok (.ireturn, 1) := by decide +kernel
theorem d_M_kept_0 : decode mb_M_kept 0 = .ok (.aload_n 0, 1) := by decide +kernel
theorem d_M_kept_1 : decode mb_M_kept 1 = .ok (.iconst 0, 1) := by decide +kernel
theorem d_M_kept_2 : decode mb_M_kept 2 = .ok (.putfield 61, 3) := by decide +kernel
theorem d_M_kept_5 : decode mb_M_kept 5 = .ok (.iconst 0, 1) := by decide +kernel
theorem d_M_kept_6 : decode mb_M_kept 6 = .ok (.istore_n 1, 1) := by decide +kernel
theorem d_M_kept_7 : decode mb_M_kept 7 = .ok (.iconst 0, 1) := by decide +kernel
theorem d_M_kept_8 : decode mb_M_kept 8 = .ok (.istore_n 2, 1) := by decide +kernel
theorem d_M_kept_9 : decode mb_M_kept 9 = .ok (.iload_n 2, 1) := by decide +kernel
theorem d_M_kept_10 : decode mb_M_kept 10 = .ok (.sipush 9600, 3) := by decide +kernel
theorem d_M_kept_13 : decode mb_M_kept 13 = .ok (.if_icmp .ge 26, 3) := by decide +kernel
theorem d_M_kept_16 : decode mb_M_kept 16 = .ok (.iload_n 1, 1) := by decide +kernel
theorem d_M_kept_17 : decode mb_M_kept 17 = .ok (.aload_n 0, 1) := by decide +kernel
theorem d_M_kept_18 : decode mb_M_kept 18 = .ok (.getfield 47, 3) := by decide +kernel
theorem d_M_kept_21 : decode mb_M_kept 21 = .ok (.iload_n 2, 1) := by decide +kernel
theorem d_M_kept_22 : decode mb_M_kept 22 = .ok (.baload, 1) := by decide +kernel
theorem d_M_kept_23 : decode mb_M_kept 23 = .ok (.ifCond .eq 7, 3) := by decide +kernel
theorem d_M_kept_26 : decode mb_M_kept 26 = .ok (.iconst 1, 1) := by decide +kernel
theorem d_M_kept_27 : decode mb_M_kept 27 = .ok (.goto 4, 3) := by decide +kernel
theorem d_M_kept_30 : decode mb_M_kept 30 = .ok (.iconst 0, 1) := by decide +kernel
theorem d_M_kept_31 : decode mb_M_kept 31 = .ok (.iadd, 1) := by decide +kernel
theorem d_M_kept_32 : decode mb_M_kept 32 = .ok (.istore_n 1, 1) := by decide +kernel
theorem d_M_kept_33 : decode mb_M_kept 33 = .ok (.iinc 2 1, 3) := by decide +kernel
theorem d_M_kept_36 : decode mb_M_kept 36 = .ok (.goto (-27), 3) := by decide +kernel
theorem d_M_kept_39 : decode mb_M_kept 39 = .ok (.iload_n 1, 1) := by decide +kernel
theorem d_M_kept_40 : decode mb_M_kept 40 = .ok (.ireturn, 1) := by decide +kernel
theorem d_M_spared_0 : decode mb_M_spared 0 = .ok (.aload_n 0, 1) := by decide +kernel
theorem d_M_spared_1 : decode mb_M_spared 1 = .ok (.iconst 0, 1) := by decide +kernel
theorem d_M_spared_2 : decode mb_M_spared 2 = .ok (.putfield 61, 3) := by decide +kernel
theorem d_M_spared_5 : decode mb_M_spared 5 = .ok (.aload_n 0, 1) := by decide +kernel
theorem d_M_spared_6 : decode mb_M_spared 6 = .ok (.getfield 132, 3) := by decide +kernel
theorem d_M_spared_9 : decode mb_M_spared 9 = .ok (.lreturn, 1) := by decide +kernel
end
section
theorem d_L_cell_0 : decode mb_L_cell 0 = .ok (.iload_n 1, 1) := by decide +kernel
theorem d_L_cell_1 : decode mb_L_cell 1 = .ok (.aload_n 0, 1) := by decide +kernel
theorem d_L_cell_2 : decode mb_L_cell 2 = .ok (.arraylength, 1) := by decide +kernel
theorem d_L_cell_3 : decode mb_L_cell 3 = .ok (.if_icmp .ge 9, 3) := by decide +kernel
theorem d_L_cell_6 : decode mb_L_cell 6 = .ok (.aload_n 0, 1) := by decide +kernel
theorem d_L_cell_7 : decode mb_L_cell 7 = .ok (.iload_n 1, 1) := by decide +kernel
theorem d_L_cell_8 : decode mb_L_cell 8 = .ok (.iaload, 1) := by decide +kernel
theorem d_L_cell_9 : decode mb_L_cell 9 = .ok (.goto 4, 3) := by decide +kernel
theorem d_L_cell_12 : decode mb_L_cell 12 = .ok (.iconst 0, 1) := by decide +kernel
theorem d_L_cell_13 : decode mb_L_cell 13 = .ok (.ireturn, 1) := by decide +kernel
theorem d_L_rule_0 : decode mb_L_rule 0 = .ok (.aload 7, 2) := by decide +kernel
theorem d_L_rule_2 : decode mb_L_rule 2 = .ok (.iconst 0, 1) := by decide +kernel
theorem d_L_rule_3 : decode mb_L_rule 3 = .ok (.aload_n 0, 1) := by decide +kernel
theorem d_L_rule_4 : decode mb_L_rule 4 = .ok (.iload_n 1, 1) := by decide +kernel
theorem d_L_rule_5 : decode mb_L_rule 5 = .ok (.iload_n 2, 1) := by decide +kernel
theorem d_L_rule_6 : decode mb_L_rule 6 = .ok (.iload_n 3, 1) := by decide +kernel
theorem d_L_rule_7 : decode mb_L_rule 7 = .ok (.iload 4, 2) := by decide +kernel
theorem d_L_rule_9 : decode mb_L_rule 9 = .ok (.lload 5, 2) := by decide +kernel
theorem d_L_rule_11 : decode mb_L_rule 11 = .ok (.invokevirtual 7, 3) := by decide +kernel
theorem d_L_rule_14 : decode mb_L_rule 14 = .ok (.i2l, 1) := by decide +kernel
theorem d_L_rule_15 : decode mb_L_rule 15 = .ok (.lastore, 1) := by decide +kernel
theorem d_L_rule_16 : decode mb_L_rule 16 = .ok (.goto 11, 3) := by decide +kernel
theorem d_L_rule_19 : decode mb_L_rule 19 = .ok (.astore 8, 2) := by decide +kernel
theorem d_L_rule_21 : decode mb_L_rule 21 = .ok (.iconst 1, 1) := by decide +kernel
theorem d_L_rule_22 : decode mb_L_rule 22 = .ok (.ireturn, 1) := by decide +kernel
theorem d_L_rule_23 : decode mb_L_rule 23 = .ok (.astore 8, 2) := by decide +kernel
theorem d_L_rule_25 : decode mb_L_rule 25 = .ok (.iconst 2, 1) := by decide +kernel
theorem d_L_rule_26 : decode mb_L_rule 26 = .ok (.ireturn, 1) := by decide +kernel
theorem d_L_rule_27 : decode mb_L_rule 27 = .ok (.iconst 0, 1) := by decide +kernel
theorem d_L_rule_28 : decode mb_L_rule 28 = .ok (.ireturn, 1) := by decide +kernel
theorem d_L_rank_0 : decode mb_L_rank 0 = .ok (.aload_n 3, 1) := by decide +kernel
theorem d_L_rank_1 : decode mb_L_rank 1 = .ok (.iconst 0, 1) := by decide +kernel
theorem d_L_rank_2 : decode mb_L_rank 2 = .ok (.aload_n 0, 1) := by decide +kernel
theorem d_L_rank_3 : decode mb_L_rank 3 = .ok (.iload_n 1, 1) := by decide +kernel
theorem d_L_rank_4 : decode mb_L_rank 4 = .ok (.iload_n 2, 1) := by decide +kernel
theorem d_L_rank_5 : decode mb_L_rank 5 = .ok (.invokevirtual 17, 3) := by decide +kernel
theorem d_L_rank_8 : decode mb_L_rank 8 = .ok (.ifCond .eq 7, 3) := by decide +kernel
theorem d_L_rank_11 : decode mb_L_rank 11 = .ok (.lconst 1, 1) := by decide +kernel
theorem d_L_rank_12 : decode mb_L_rank 12 = .ok (.goto 4, 3) := by decide +kernel
theorem d_L_rank_15 : decode mb_L_rank 15 = .ok (.lconst 0, 1) := by decide +kernel
theorem d_L_rank_16 : decode mb_L_rank 16 = .ok (.lastore, 1) := by decide +kernel
theorem d_L_rank_17 : decode mb_L_rank 17 = .ok (.goto 11, 3) := by decide +kernel
theorem d_L_rank_20 : decode mb_L_rank 20 = .ok (.astore 4, 2) := by decide +kernel
theorem d_L_rank_22 : decode mb_L_rank 22 = .ok (.iconst 1, 1) := by decide +kernel
theorem d_L_rank_23 : decode mb_L_rank 23 = .ok (.ireturn, 1) := by decide +kernel
theorem d_L_rank_24 : decode mb_L_rank 24 = .ok (.astore 4, 2) := by decide +kernel
theorem d_L_rank_26 : decode mb_L_rank 26 = .ok (.iconst 2, 1) := by decide +kernel
theorem d_L_rank_27 : decode mb_L_rank 27 = .ok (.ireturn, 1) := by decide +kernel
theorem d_L_rank_28 : decode mb_L_rank 28 = .ok (.iconst 0, 1) := by decide +kernel
theorem d_L_rank_29 : decode mb_L_rank 29 = .ok (.ireturn, 1) := by decide +kernel
theorem d_L_area_0 : decode mb_L_area 0 = .ok (.aload 9, 2) := by decide +kernel
theorem d_L_area_2 : decode mb_L_area 2 = .ok (.iconst 0, 1) := by decide +kernel
theorem d_L_area_3 : decode mb_L_area 3 = .ok (.aload_n 0, 1) := by decide +kernel
theorem d_L_area_4 : decode mb_L_area 4 = .ok (.lload_n 1, 1) := by decide +kernel
theorem d_L_area_5 : decode mb_L_area 5 = .ok (.lload_n 3, 1) := by decide +kernel
theorem d_L_area_6 : decode mb_L_area 6 = .ok (.lload 5, 2) := by decide +kernel
theorem d_L_area_8 : decode mb_L_area 8 = .ok (.lload 7, 2) := by decide +kernel
theorem d_L_area_10 : decode mb_L_area 10 = .ok (.invokevirtual 21, 3) := by decide +kernel
theorem d_L_area_13 : decode mb_L_area 13 = .ok (.i2l, 1) := by decide +kernel
theorem d_L_area_14 : decode mb_L_area 14 = .ok (.lastore, 1) := by decide +kernel
theorem d_L_area_15 : decode mb_L_area 15 = .ok (.goto 7, 3) := by decide +kernel
theorem d_L_area_18 : decode mb_L_area 18 = .ok (.astore 10, 2) := by decide +kernel
theorem d_L_area_20 : decode mb_L_area 20 = .ok (.iconst 1, 1) := by decide +kernel
theorem d_L_area_21 : decode mb_L_area 21 = .ok (.ireturn, 1) := by decide +kernel
theorem d_L_area_22 : decode mb_L_area 22 = .ok (.iconst 0, 1) := by decide +kernel
theorem d_L_area_23 : decode mb_L_area 23 = .ok (.ireturn, 1) := by decide +kernel
theorem d_L_inArea_0 : decode mb_L_inArea 0 = .ok (.aload_n 3, 1) := by decide +kernel
theorem d_L_inArea_1 : decode mb_L_inArea 1 = .ok (.iconst 0, 1) := by decide +kernel
theorem d_L_inArea_2 : decode mb_L_inArea 2 = .ok (.aload_n 0, 1) := by decide +kernel
theorem d_L_inArea_3 : decode mb_L_inArea 3 = .ok (.iload_n 1, 1) := by decide +kernel
theorem d_L_inArea_4 : decode mb_L_inArea 4 = .ok (.iload_n 2, 1) := by decide +kernel
theorem d_L_inArea_5 : decode mb_L_inArea 5 = .ok (.invokevirtual 25, 3) := by decide +kernel
theorem d_L_inArea_8 : decode mb_L_inArea 8 = .ok (.ifCond .eq 7, 3) := by decide +kernel
theorem d_L_inArea_11 : decode mb_L_inArea 11 = .ok (.lconst 1, 1) := by decide +kernel
theorem d_L_inArea_12 : decode mb_L_inArea 12 = .ok (.goto 4, 3) := by decide +kernel
theorem d_L_inArea_15 : decode mb_L_inArea 15 = .ok (.lconst 0, 1) := by decide +kernel
theorem d_L_inArea_16 : decode mb_L_inArea 16 = .ok (.lastore, 1) := by decide +kernel
theorem d_L_inArea_17 : decode mb_L_inArea 17 = .ok (.goto 7, 3) := by decide +kernel
theorem d_L_inArea_20 : decode mb_L_inArea 20 = .ok (.astore 4, 2) := by decide +kernel
theorem d_L_inArea_22 : decode mb_L_inArea 22 = .ok (.iconst 1, 1) := by decide +kernel
theorem d_L_inArea_23 : decode mb_L_inArea 23 = .ok (.ireturn, 1) := by decide +kernel
theorem d_L_inArea_24 : decode mb_L_inArea 24 = .ok (.iconst 0, 1) := by decide +kernel
theorem d_L_inArea_25 : decode mb_L_inArea 25 = .ok (.ireturn, 1) := by decide +kernel
theorem d_L_thing_0 : decode mb_L_thing 0 = .ok (.aload 7, 2) := by decide +kernel
theorem d_L_thing_2 : decode mb_L_thing 2 = .ok (.iconst 0, 1) := by decide +kernel
theorem d_L_thing_3 : decode mb_L_thing 3 = .ok (.aload_n 0, 1) := by decide +kernel
theorem d_L_thing_4 : decode mb_L_thing 4 = .ok (.iload_n 1, 1) := by decide +kernel
theorem d_L_thing_5 : decode mb_L_thing 5 = .ok (.iload_n 2, 1) := by decide +kernel
theorem d_L_thing_6 : decode mb_L_thing 6 = .ok (.lload_n 3, 1) := by decide +kernel
theorem d_L_thing_7 : decode mb_L_thing 7 = .ok (.lload 5, 2) := by decide +kernel
theorem d_L_thing_9 : decode mb_L_thing 9 = .ok (.invokevirtual 28, 3) := by decide +kernel
theorem d_L_thing_12 : decode mb_L_thing 12 = .ok (.i2l, 1) := by decide +kernel
theorem d_L_thing_13 : decode mb_L_thing 13 = .ok (.lastore, 1) := by decide +kernel
theorem d_L_thing_14 : decode mb_L_thing 14 = .ok (.goto 11, 3) := by decide +kernel
theorem d_L_thing_17 : decode mb_L_thing 17 = .ok (.astore 8, 2) := by decide +kernel
theorem d_L_thing_19 : decode mb_L_thing 19 = .ok (.iconst 1, 1) := by decide +kernel
theorem d_L_thing_20 : decode mb_L_thing 20 = .ok (.ireturn, 1) := by decide +kernel
theorem d_L_thing_21 : decode mb_L_thing 21 = .ok (.astore 8, 2) := by decide +kernel
theorem d_L_thing_23 : decode mb_L_thing 23 = .ok (.iconst 2, 1) := by decide +kernel
theorem d_L_thing_24 : decode mb_L_thing 24 = .ok (.ireturn, 1) := by decide +kernel
theorem d_L_thing_25 : decode mb_L_thing 25 = .ok (.iconst 0, 1) := by decide +kernel
theorem d_L_thing_26 : decode mb_L_thing 26 = .ok (.ireturn, 1) := by decide +kernel
theorem d_L_make_0 : decode mb_L_make 0 = .ok (.aload 4, 2) := by decide +kernel
theorem d_L_make_2 : decode mb_L_make 2 = .ok (.iconst 0, 1) := by decide +kernel
theorem d_L_make_3 : decode mb_L_make 3 = .ok (.aload_n 0, 1) := by decide +kernel
theorem d_L_make_4 : decode mb_L_make 4 = .ok (.iload_n 1, 1) := by decide +kernel
theorem d_L_make_5 : decode mb_L_make 5 = .ok (.iload_n 2, 1) := by decide +kernel
theorem d_L_make_6 : decode mb_L_make 6 = .ok (.iload_n 3, 1) := by decide +kernel
theorem d_L_make_7 : decode mb_L_make 7 = .ok (.invokevirtual 32, 3) := by decide +kernel
theorem d_L_make_10 : decode mb_L_make 10 = .ok (.ifCond .eq 7, 3) := by decide +kernel
theorem d_L_make_13 : decode mb_L_make 13 = .ok (.lconst 1, 1) := by decide +kernel
theorem d_L_make_14 : decode mb_L_make 14 = .ok (.goto 4, 3) := by decide +kernel
theorem d_L_make_17 : decode mb_L_make 17 = .ok (.lconst 0, 1) := by decide +kernel
theorem d_L_make_18 : decode mb_L_make 18 = .ok (.lastore, 1) := by decide +kernel
theorem d_L_make_19 : decode mb_L_make 19 = .ok (.goto 7, 3) := by decide +kernel
theorem d_L_make_22 : decode mb_L_make 22 = .ok (.astore 5, 2) := by decide +kernel
theorem d_L_make_24 : decode mb_L_make 24 = .ok (.iconst 1, 1) := by decide +kernel
theorem d_L_make_25 : decode mb_L_make 25 = .ok (.ireturn, 1) := by decide +kernel
theorem d_L_make_26 : decode mb_L_make 26 = .ok (.iconst 0, 1) := by decide +kernel
theorem d_L_make_27 : decode mb_L_make 27 = .ok (.ireturn, 1) := by decide +kernel
theorem d_L_move_0 : decode mb_L_move 0 = .ok (.aload 6, 2) := by decide +kernel
theorem d_L_move_2 : decode mb_L_move 2 = .ok (.iconst 0, 1) := by decide +kernel
theorem d_L_move_3 : decode mb_L_move 3 = .ok (.aload_n 0, 1) := by decide +kernel
theorem d_L_move_4 : decode mb_L_move 4 = .ok (.iload_n 1, 1) := by decide +kernel
theorem d_L_move_5 : decode mb_L_move 5 = .ok (.lload_n 2, 1) := by decide +kernel
theorem d_L_move_6 : decode mb_L_move 6 = .ok (.lload 4, 2) := by decide +kernel
theorem d_L_move_8 : decode mb_L_move 8 = .ok (.invokevirtual 36, 3) := by decide +kernel
theorem d_L_move_11 : decode mb_L_move 11 = .ok (.ifCond .eq 7, 3) := by decide +kernel
theorem d_L_move_14 : decode mb_L_move 14 = .ok (.lconst 1, 1) := by decide +kernel
theorem d_L_move_15 : decode mb_L_move 15 = .ok (.goto 4, 3) := by decide +kernel
theorem d_L_move_18 : decode mb_L_move 18 = .ok (.lconst 0, 1) := by decide +kernel
theorem d_L_move_19 : decode mb_L_move 19 = .ok (.lastore, 1) := by decide +kernel
theorem d_L_move_20 : decode mb_L_move 20 = .ok (.goto 11, 3) := by decide +kernel
theorem d_L_move_23 : decode mb_L_move 23 = .ok (.astore 7, 2) := by decide +kernel
theorem d_L_move_25 : decode mb_L_move 25 = .ok (.iconst 1, 1) := by decide +kernel
theorem d_L_move_26 : decode mb_L_move 26 = .ok (.ireturn, 1) := by decide +kernel
theorem d_L_move_27 : decode mb_L_move 27 = .ok (.astore 7, 2) := by decide +kernel
theorem d_L_move_29 : decode mb_L_move 29 = .ok (.iconst 2, 1) := by decide +kernel
theorem d_L_move_30 : decode mb_L_move 30 = .ok (.ireturn, 1) := by decide +kernel
theorem d_L_move_31 : decode mb_L_move 31 = .ok (.iconst 0, 1) := by decide +kernel
theorem d_L_move_32 : decode mb_L_move 32 = .ok (.ireturn, 1) := by decide +kernel
theorem d_L_winner_0 : decode mb_L_winner 0 = .ok (.aload 4, 2) := by decide +kernel
theorem d_L_winner_2 : decode mb_L_winner 2 = .ok (.iconst 0, 1) := by decide +kernel
theorem d_L_winner_3 : decode mb_L_winner 3 = .ok (.aload_n 0, 1) := by decide +kernel
theorem d_L_winner_4 : decode mb_L_winner 4 = .ok (.iload_n 1, 1) := by decide +kernel
theorem d_L_winner_5 : decode mb_L_winner 5 = .ok (.iload_n 2, 1) := by decide +kernel
theorem d_L_winner_6 : decode mb_L_winner 6 = .ok (.iload_n 3, 1) := by decide +kernel
theorem d_L_winner_7 : decode mb_L_winner 7 = .ok (.invokevirtual 40, 3) := by decide +kernel
theorem d_L_winner_10 : decode mb_L_winner 10 = .ok (.i2l, 1) := by decide +kernel
theorem d_L_winner_11 : decode mb_L_winner 11 = .ok (.lastore, 1) := by decide +kernel
theorem d_L_winner_12 : decode mb_L_winner 12 = .ok (.goto 7, 3) := by decide +kernel
theorem d_L_winner_15 : decode mb_L_winner 15 = .ok (.astore 5, 2) := by decide +kernel
theorem d_L_winner_17 : decode mb_L_winner 17 = .ok (.iconst 1, 1) := by decide +kernel
theorem d_L_winner_18 : decode mb_L_winner 18 = .ok (.ireturn, 1) := by decide +kernel
theorem d_L_winner_19 : decode mb_L_winner 19 = .ok (.iconst 0, 1) := by decide +kernel
theorem d_L_winner_20 : decode mb_L_winner 20 = .ok (.ireturn, 1) := by decide +kernel
theorem d_L_value_0 : decode mb_L_value 0 = .ok (.aload 4, 2) := by decide +kernel
theorem d_L_value_2 : decode mb_L_value 2 = .ok (.iconst 0, 1) := by decide +kernel
theorem d_L_value_3 : decode mb_L_value 3 = .ok (.aload_n 0, 1) := by decide +kernel
theorem d_L_value_4 : decode mb_L_value 4 = .ok (.iload_n 1, 1) := by decide +kernel
theorem d_L_value_5 : decode mb_L_value 5 = .ok (.iload_n 2, 1) := by decide +kernel
theorem d_L_value_6 : decode mb_L_value 6 = .ok (.iload_n 3, 1) := by decide +kernel
theorem d_L_value_7 : decode mb_L_value 7 = .ok (.invokevirtual 44, 3) := by decide +kernel
theorem d_L_value_10 : decode mb_L_value 10 = .ok (.lastore, 1) := by decide +kernel
theorem d_L_value_11 : decode mb_L_value 11 = .ok (.goto 7, 3) := by decide +kernel
theorem d_L_value_14 : decode mb_L_value 14 = .ok (.astore 5, 2) := by decide +kernel
theorem d_L_value_16 : decode mb_L_value 16 = .ok (.iconst 1, 1) := by decide +kernel
theorem d_L_value_17 : decode mb_L_value 17 = .ok (.ireturn, 1) := by decide +kernel
theorem d_L_value_18 : decode mb_L_value 18 = .ok (.iconst 0, 1) := by decide +kernel
theorem d_L_value_19 : decode mb_L_value 19 = .ok (.ireturn, 1) := by decide +kernel
theorem d_L_listed_0 : decode mb_L_listed 0 = .ok (.aload 5, 2) := by decide +kernel
theorem d_L_listed_2 : decode mb_L_listed 2 = .ok (.iconst 0, 1) := by decide +kernel
theorem d_L_listed_3 : decode mb_L_listed 3 = .ok (.aload_n 0, 1) := by decide +kernel
theorem d_L_listed_4 : decode mb_L_listed 4 = .ok (.iload_n 1, 1) := by decide +kernel
theorem d_L_listed_5 : decode mb_L_listed 5 = .ok (.iload_n 2, 1) := by decide +kernel
theorem d_L_listed_6 : decode mb_L_listed 6 = .ok (.iload_n 3, 1) := by decide +kernel
theorem d_L_listed_7 : decode mb_L_listed 7 = .ok (.iload 4, 2) := by decide +kernel
theorem d_L_listed_9 : decode mb_L_listed 9 = .ok (.invokevirtual 48, 3) := by decide +kernel
theorem d_L_listed_12 : decode mb_L_listed 12 = .ok (.i2l, 1) := by decide +kernel
theorem d_L_listed_13 : decode mb_L_listed 13 = .ok (.lastore, 1) := by decide +kernel
theorem d_L_listed_14 : decode mb_L_listed 14 = .ok (.goto 7, 3) := by decide +kernel
theorem d_L_listed_17 : decode mb_L_listed 17 = .ok (.astore 6, 2) := by decide +kernel
theorem d_L_listed_19 : decode mb_L_listed 19 = .ok (.iconst 1, 1) := by decide +kernel
theorem d_L_listed_20 : decode mb_L_listed 20 = .ok (.ireturn, 1) := by decide +kernel
theorem d_L_listed_21 : decode mb_L_listed 21 = .ok (.iconst 0, 1) := by decide +kernel
theorem d_L_listed_22 : decode mb_L_listed 22 = .ok (.ireturn, 1) := by decide +kernel
theorem d_L_why_0 : decode mb_L_why 0 = .ok (.aload 5, 2) := by decide +kernel
theorem d_L_why_2 : decode mb_L_why 2 = .ok (.iconst 0, 1) := by decide +kernel
theorem d_L_why_3 : decode mb_L_why 3 = .ok (.aload_n 0, 1) := by decide +kernel
theorem d_L_why_4 : decode mb_L_why 4 = .ok (.iload_n 1, 1) := by decide +kernel
theorem d_L_why_5 : decode mb_L_why 5 = .ok (.iload_n 2, 1) := by decide +kernel
theorem d_L_why_6 : decode mb_L_why 6 = .ok (.iload_n 3, 1) := by decide +kernel
theorem d_L_why_7 : decode mb_L_why 7 = .ok (.iload 4, 2) := by decide +kernel
theorem d_L_why_9 : decode mb_L_why 9 = .ok (.invokevirtual 52, 3) := by decide +kernel
theorem d_L_why_12 : decode mb_L_why 12 = .ok (.i2l, 1) := by decide +kernel
theorem d_L_why_13 : decode mb_L_why 13 = .ok (.lastore, 1) := by decide +kernel
theorem d_L_why_14 : decode mb_L_why 14 = .ok (.goto 7, 3) := by decide +kernel
theorem d_L_why_17 : decode mb_L_why 17 = .ok (.astore 6, 2) := by decide +kernel
theorem d_L_why_19 : decode mb_L_why 19 = .ok (.iconst 1, 1) := by decide +kernel
theorem d_L_why_20 : decode mb_L_why 20 = .ok (.ireturn, 1) := by decide +kernel
theorem d_L_why_21 : decode mb_L_why 21 = .ok (.iconst 0, 1) := by decide +kernel
theorem d_L_why_22 : decode mb_L_why 22 = .ok (.ireturn, 1) := by decide +kernel
theorem d_L_greatest_0 : decode mb_L_greatest 0 = .ok (.aload_n 3, 1) := by decide +kernel
theorem d_L_greatest_1 : decode mb_L_greatest 1 = .ok (.iconst 0, 1) := by decide +kernel
theorem d_L_greatest_2 : decode mb_L_greatest 2 = .ok (.aload_n 0, 1) := by decide +kernel
theorem d_L_greatest_3 : decode mb_L_greatest 3 = .ok (.iload_n 1, 1) := by decide +kernel
theorem d_L_greatest_4 : decode mb_L_greatest 4 = .ok (.iload_n 2, 1) := by decide +kernel
theorem d_L_greatest_5 : decode mb_L_greatest 5 = .ok (.invokevirtual 55, 3) := by decide +kernel
theorem d_L_greatest_8 : decode mb_L_greatest 8 = .ok (.lastore, 1) := by decide +kernel
theorem d_L_greatest_9 : decode mb_L_greatest 9 = .ok (.goto 7, 3) := by decide +kernel
theorem d_L_greatest_12 : decode mb_L_greatest 12 = .ok (.astore 4, 2) := by decide +kernel
theorem d_L_greatest_14 : decode mb_L_greatest 14 = .ok (.iconst 1, 1) := by decide +kernel
theorem d_L_greatest_15 : decode mb_L_greatest 15 = .ok (.ireturn, 1) := by decide +kernel
theorem d_L_greatest_16 : decode mb_L_greatest 16 = .ok (.iconst 0, 1) := by decide +kernel
theorem d_L_greatest_17 : decode mb_L_greatest 17 = .ok (.ireturn, 1) := by decide +kernel
theorem d_L_close_0 : decode mb_L_close 0 = .ok (.aload_n 2, 1) := by decide +kernel
theorem d_L_close_1 : decode mb_L_close 1 = .ok (.iconst 0, 1) := by decide +kernel
theorem d_L_close_2 : decode mb_L_close 2 = .ok (.aload_n 0, 1) := by decide +kernel
theorem d_L_close_3 : decode mb_L_close 3 = .ok (.iload_n 1, 1) := by decide +kernel
theorem d_L_close_4 : decode mb_L_close 4 = .ok (.invokevirtual 59, 3) := by decide +kernel
theorem d_L_close_7 : decode mb_L_close 7 = .ok (.i2l, 1) := by decide +kernel
theorem d_L_close_8 : decode mb_L_close 8 = .ok (.lastore, 1) := by decide +kernel
theorem d_L_close_9 : decode mb_L_close 9 = .ok (.goto 6, 3) := by decide +kernel
theorem d_L_close_12 : decode mb_L_close 12 = .ok (.astore_n 3, 1) := by decide +kernel
theorem d_L_close_13 : decode mb_L_close 13 = .ok (.iconst 1, 1) := by decide +kernel
theorem d_L_close_14 : decode mb_L_close 14 = .ok (.ireturn, 1) := by decide +kernel
theorem d_L_close_15 : decode mb_L_close 15 = .ok (.iconst 0, 1) := by decide +kernel
theorem d_L_close_16 : decode mb_L_close 16 = .ok (.ireturn, 1) := by decide +kernel
theorem d_L_pair_0 : decode mb_L_pair 0 = .ok (.aload_n 3, 1) := by decide +kernel
theorem d_L_pair_1 : decode mb_L_pair 1 = .ok (.iconst 0, 1) := by decide +kernel
theorem d_L_pair_2 : decode mb_L_pair 2 = .ok (.aload_n 0, 1) := by decide +kernel
theorem d_L_pair_3 : decode mb_L_pair 3 = .ok (.iload_n 1, 1) := by decide +kernel
theorem d_L_pair_4 : decode mb_L_pair 4 = .ok (.iload_n 2, 1) := by decide +kernel
theorem d_L_pair_5 : decode mb_L_pair 5 = .ok (.invokevirtual 63, 3) := by decide +kernel
theorem d_L_pair_8 : decode mb_L_pair 8 = .ok (.i2l, 1) := by decide +kernel
theorem d_L_pair_9 : decode mb_L_pair 9 = .ok (.lastore, 1) := by decide +kernel
theorem d_L_pair_10 : decode mb_L_pair 10 = .ok (.goto 7, 3) := by decide +kernel
theorem d_L_pair_13 : decode mb_L_pair 13 = .ok (.astore 4, 2) := by decide +kernel
theorem d_L_pair_15 : decode mb_L_pair 15 = .ok (.iconst 1, 1) := by decide +kernel
theorem d_L_pair_16 : decode mb_L_pair 16 = .ok (.ireturn, 1) := by decide +kernel
theorem d_L_pair_17 : decode mb_L_pair 17 = .ok (.iconst 0, 1) := by decide +kernel
theorem d_L_pair_18 : decode mb_L_pair 18 = .ok (.ireturn, 1) := by decide +kernel
end
section
/-! the run's fixed things: the classes' numbers and slots, the array classes, the heap at the law's entry, the texts' addresses -/
abbrev EV : Type := va_G × (Nat → ClassId) × Heap × (Nat → Nat)
abbrev evH (ev : EV) : Heap := ev.2.2.1
def TY (ev : EV) : List (ClassId × FieldType) := [(ev.2.1 0, .int), (ev.2.1 1, .long), (ev.2.1 2, .boolean), (ev.2.1 3, .object "RuleChoice$Rule"), (ev.2.1 4, .object "RuleChoice$Area"), (ev.2.1 5, .object "RuleChoice$Thing")]
def TX : List (Nat × String) := [(235, "no such kind"), (240, "no such class"), (242, "no such layer"), (244, "no such rule"), (246, "no such area"), (248, "no such thing"), (250, "which is 0 or 1"), (256, "no value"), (259, "no rank"), (263, "no place"), (265, "the area is turned")]
def CH : List String := ["java/lang/RuntimeException", "java/lang/Exception"]
def DM : List MethodName := [Bundle.initS "java/lang/RuntimeException", Bundle.initS "java/lang/Exception", Bundle.initS Bundle.tN]
def NQ : List (Nat × MethodName) := [(28, my_R_init), (35, my_A_init), (42, my_T_init), (45, my_N_init), (52, my_P_init)]
def cIX : String := "java/lang/IndexOutOfBoundsException"
def cIA : String := "java/lang/IllegalArgumentException"
def KG (ev : EV) (U : State) : Prop := va_K ev.1 CL (TY ev) U ∧ (vx_Zq Bundle.tN "UNASSIGNED_STACK" Bundle.steD (fun q => (evH ev).size ≤ q) U (evH ev) ∧ vx_Zq Bundle.tN "SUPPRESSED_SENTINEL" Bundle.listD (fun q => (evH ev).size ≤ q) U (evH ev)) ∧ (∀ q ∈ TX, vk_R "RuleChoice" q.1 q.2 (ev.2.2.2 q.1) U) ∧ (∀ x ∈ DM, va_Nw (.declares x) U) ∧ (va_Nw (.castable cIX cIX) U ∧ va_Nw (.castable cIA cIA) U ∧ va_Nc cIA cIX U) ∧ (∀ q ∈ NQ, va_Nw (.methodLinkNest "RuleChoice" q.1 q.2 "RuleChoice") U) ∧ va_AO "RuleChoice$Rule" U ∧ va_AO "RuleChoice$Area" U ∧ va_AO "RuleChoice$Thing" U
theorem nw_of {c : Cond} (hc : c.onTables = true) {u U : State} (h : c.before #[] (u.setVm U.vm) = true) : va_Nw c U := va_tabs hc (rfl : (u.setVm U.vm).vm = U.vm) h
theorem nw_decl {x : MethodName} {u U : State} (hvm : u.vm.Alike U.vm) (h : va_Nw (.declares x) u) : va_Nw (.declares x) U := nw_of rfl (u := u) (by rw [Cond.declares_setVm hvm]; exact h)
theorem nw_cast {x y : String} {u U : State} (hvm : u.vm.Alike U.vm) (h : va_Nw (.castable x y) u) : va_Nw (.castable x y) U := nw_of rfl (u := u) (by rw [Cond.castable_setVm hvm]; exact h)
theorem KG_ok (ev : EV) : cK (KG ev) := by
  refine ⟨fun u U hv h => ?_, fun s U hW h => ?_⟩
  · have ha : u.vm.Alike U.vm := by rw [hv]; exact Vm.Alike.refl _
    obtain ⟨h1, ⟨h2, h3⟩, h4, h5, ⟨h6, h7, h8⟩, h9, h10, h11, h12⟩ := h
    exact ⟨va_K.moved ha h1, ⟨vx_Zq.moved ha h2, vx_Zq.moved ha h3⟩, fun q hq => vk_R.same hv (h4 q hq), fun x hx => nw_decl ha (h5 x hx), ⟨nw_cast ha h6, nw_cast ha h7, va_Nc.moved ha h8⟩, fun q hq => va_Nw.same rfl hv.symm (h9 q hq), va_AO.moved ha h10, va_AO.moved ha h11, va_AO.moved ha h12⟩
  · have ha := hW.alike
    obtain ⟨h1, ⟨h2, h3⟩, h4, h5, ⟨h6, h7, h8⟩, h9, h10, h11, h12⟩ := h
    exact ⟨va_K.moved ha h1, ⟨vx_Zq.moved ha h2, vx_Zq.moved ha h3⟩, fun q hq => vk_R.warm hW (h4 q hq), fun x hx => nw_decl ha (h5 x hx), ⟨nw_cast ha h6, nw_cast ha h7, va_Nc.moved ha h8⟩, fun q hq => va_Nw.warmM hW (h9 q hq), va_AO.moved ha h10, va_AO.moved ha h11, va_AO.moved ha h12⟩
/-- nothing that was there at the law's entry has changed -/
def Old (ev : EV) (H : Heap) : Prop := (evH ev).size ≤ H.size ∧ ∀ q : Nat, q < (evH ev).size → H[q]? = (evH ev)[q]?
/-- cells came, none changed -/
def Ext (H H1 : Heap) : Prop := H.size ≤ H1.size ∧ ∀ q : Nat, q < H.size → H1[q]? = H[q]?
theorem Ext.rf {H : Heap} : Ext H H := ⟨Nat.le_refl _, fun _ _ => rfl⟩
theorem Ext.trans {H H1 H2 : Heap} (h1 : Ext H H1) (h2 : Ext H1 H2) : Ext H H2 := ⟨Nat.le_trans h1.1 h2.1, fun q hq => (h2.2 q (Nat.lt_of_lt_of_le hq h1.1)).trans (h1.2 q hq)⟩
theorem Old.ext {ev : EV} {H H1 : Heap} (h : Old ev H) (e : Ext H H1) : Old ev H1 := ⟨Nat.le_trans h.1 e.1, fun q hq => (e.2 q (Nat.lt_of_lt_of_le hq h.1)).trans (h.2 q hq)⟩
/-! methods that may throw -/
/-- answers nothing, nothing changes, and this is so -/
def cQod (ok : Prop) (v : Option Value) (P : Heap → Prop) : Array Value → State → Outcome → State → Prop := fun _ _ o t => ok ∧ o = .returned v ∧ P t.heap
def cQo (P : Prop) : Array Value → State → Outcome → State → Prop := fun _ st o t => P ∧ o = .returned none ∧ t.heap = st.heap
def cX (P : String → Heap → Prop) : String → State → State → Prop := fun E _ t => P E t.heap
section MyHeadsX
variable {l : Launch} {y : MethodName} {ws ws' : List Cond} {rm : Room} {K : State → Prop} {H0 : Heap} {Qc : Array Value → State → Outcome → State → Prop} {XC : String → State → State → Prop} {mc ms : Nat} {free : Addr → Prop} {cc : ByteArray} {maxL : Nat} {ret : Option FieldType}
theorem cHeadX (av : List Value) (hy : plainName y.cls = true) (hw : ws = Cond.code y cc maxL ret :: ws') (hlen : (lg_sl av).length ≤ maxL)
    (body : ∀ (p : Program) (e : Env) (s : State) (m : MethodId) (below : List Frame) (meth : Method) (c : Code) (ls : Array Slot) (args : Array Value) (QQ : State → Prop), QQ = vx_MQ below Qc XC args s mc ms free → (∀ x ∈ c.exceptionTable.toList, False) → CallFix p m c cc maxL s args ws' y.cls → meth.sig.returnType = ret → meth.locks = false → meth.name = y.name → s.heap = H0 → K s → lv_has ls maxL (lv_args 0 av) →
      W p l e rm s m args below meth c H0 [] 0 0 QQ (F0 m 0 ls [])) : vx_Met l y ws rm (cP av K H0) Qc XC mc ms free := by
  refine vx_ofW (cc := cc) (maxL := maxL) (ret := ret) hy hw ?_
  intro p e s m args below meth c s₁ B hml htab hv
  obtain ⟨ha, hh, hK⟩ := hv
  have hl := lv_entry av (n := maxL) hlen
  have hts := atoms_spec (ws := ws) B.pre
  have hS : CallFix p m c cc maxL s args ws' y.cls := ⟨B.exec, B.bytes, hml, findClass_of_methodNamed B.named, fun w h => hts w (by rw [hw]; exact List.mem_cons_of_mem _ h)⟩
  have h9 := body p e s m below meth c _ args _ rfl htab hS B.returns B.notSynchronized (name_of_methodNamed B.named B.method).1 hh hK hl
  subst ha
  rw [lg_entry_eq, hh]
  exact h9
end MyHeadsX
section MyRowsX
variable {p : Program} {l : Launch} {e : Env} {R : Room} {s : State} {m : MethodId} {args : Array Value} {below : List Frame} {meth : Method} {c : Code} {H : Heap} {locs : List Loc} {cells slots : Nat} {Q : State → Prop}
variable {cc : ByteArray} {pc : Nat} {ls : Array Slot} {rest st0 : List Value} {XC : String → State → State → Prop} {A : Nat → Prop} {mc ms : Nat} {free : Addr → Prop}
theorem rx_v {P : Prop} (hQ : Q = vx_MQ below (cQo P) XC args s mc ms free) (hP : P) (hx : p.tables.exec = Jvm.exec) (hb : c.code = cc) (hr : meth.sig.returnType = none) (hlk : meth.locks = false) (hs : s.heap = H) (hd : decode cc pc = .ok (.return_, 1)) :
    W p l e R s m args below meth c H [] 0 0 Q (F0 m pc ls []) := by
  subst hQ
  exact vx_ret (W.widen (Nat.zero_le _) (Nat.zero_le _) (W.vret hx hb hr (fun t ht _ => ⟨hP, rfl, ht.trans hs.symm⟩) cNil hd hlk))
theorem rx_vc {P : Prop} (hQ : Q = vx_MQ below (cQo P) XC args s mc ms free) (hP : P) (hx : p.tables.exec = Jvm.exec) (hb : c.code = cc) (hr : meth.sig.returnType = none) (hlk : meth.locks = false) (hs : s.heap = H) (hL : ∀ q ∈ locs, free q.base) (hc : cells ≤ mc) (hsl : slots ≤ ms) (hd : decode cc pc = .ok (.return_, 1)) :
    W p l e R s m args below meth c H locs cells slots Q (F0 m pc ls []) := by
  subst hQ
  exact vx_ret (W.widen hc hsl (W.vret hx hb hr (fun t ht _ => ⟨hP, rfl, ht.trans hs.symm⟩) hL hd hlk))
theorem rx_dv {P : Heap → Prop} (hQ : Q = vx_MQ below (cQd none P) XC args s mc ms free) (hx : p.tables.exec = Jvm.exec) (hb : c.code = cc) (hr : meth.sig.returnType = none) (hlk : meth.locks = false) (hP : P H) (hL : ∀ q ∈ locs, free q.base) (hc : cells ≤ mc) (hs : slots ≤ ms) (hd : decode cc pc = .ok (.return_, 1)) :
    W p l e R s m args below meth c H locs cells slots Q (F0 m pc ls []) := by
  subst hQ
  exact vx_ret (W.widen hc hs (W.vret hx hb hr (fun t ht _ => ⟨rfl, by rw [ht]; exact hP⟩) hL hd hlk))
theorem ry_i {ty : FieldType} {ok : Prop} {v v' : Int32} {P : Heap → Prop} (hQ : Q = vx_MQ below (cQod ok (some (.int v')) P) XC args s mc ms free) (hok : ok) (hx : p.tables.exec = Jvm.exec) (hb : c.code = cc) (hr : meth.sig.returnType = some ty) (hlk : meth.locks = false) (hn : narrow ty (.int v) = .int v) (hv : v = v') (hP : P H) (hL : ∀ q ∈ locs, free q.base) (hc : cells ≤ mc) (hs : slots ≤ ms) (hd : decode cc pc = .ok (.ireturn, 1)) :
    W p l e R s m args below meth c H locs cells slots Q (F0 m pc ls [.int v]) := by
  subst hQ
  subst hv
  exact vx_ret (W.widen hc hs (W.zret hx hb hr hn (fun t ht _ => ⟨hok, rfl, by rw [ht]; exact hP⟩) hL hd hlk))
theorem ry_l {ok : Prop} {v v' : Int64} {P : Heap → Prop} (hQ : Q = vx_MQ below (cQod ok (some (.long v')) P) XC args s mc ms free) (hok : ok) (hx : p.tables.exec = Jvm.exec) (hb : c.code = cc) (hr : meth.sig.returnType = some .long) (hlk : meth.locks = false) (hv : v = v') (hP : P H) (hL : ∀ q ∈ locs, free q.base) (hc : cells ≤ mc) (hs : slots ≤ ms) (hd : decode cc pc = .ok (.lreturn, 1)) :
    W p l e R s m args below meth c H locs cells slots Q (F0 m pc ls [.long v]) := by
  subst hQ
  subst hv
  exact vx_ret (W.widen hc hs (W.lret hx hb hr (fun t ht _ => ⟨hok, rfl, by rw [ht]; exact hP⟩) hL hd hlk))
theorem rx_di {ty : FieldType} {v v' : Int32} {P : Heap → Prop} (hQ : Q = vx_MQ below (cQd (some (.int v')) P) XC args s mc ms free) (hx : p.tables.exec = Jvm.exec) (hb : c.code = cc) (hr : meth.sig.returnType = some ty) (hlk : meth.locks = false) (hn : narrow ty (.int v) = .int v) (hv : v = v') (hP : P H) (hL : ∀ q ∈ locs, free q.base) (hc : cells ≤ mc) (hs : slots ≤ ms) (hd : decode cc pc = .ok (.ireturn, 1)) :
    W p l e R s m args below meth c H locs cells slots Q (F0 m pc ls [.int v]) := by
  subst hQ
  subst hv
  exact vx_ret (W.widen hc hs (W.zret hx hb hr hn (fun t ht _ => ⟨rfl, by rw [ht]; exact hP⟩) hL hd hlk))
theorem rx_dl {v v' : Int64} {P : Heap → Prop} (hQ : Q = vx_MQ below (cQd (some (.long v')) P) XC args s mc ms free) (hx : p.tables.exec = Jvm.exec) (hb : c.code = cc) (hr : meth.sig.returnType = some .long) (hlk : meth.locks = false) (hv : v = v') (hP : P H) (hL : ∀ q ∈ locs, free q.base) (hc : cells ≤ mc) (hs : slots ≤ ms) (hd : decode cc pc = .ok (.lreturn, 1)) :
    W p l e R s m args below meth c H locs cells slots Q (F0 m pc ls [.long v]) := by
  subst hQ
  subst hv
  exact vx_ret (W.widen hc hs (W.lret hx hb hr (fun t ht _ => ⟨rfl, by rw [ht]; exact hP⟩) hL hd hlk))
/-- 'throw new E(text)' of the class -/
theorem rx_throw {ev : EV} {Qc : Array Value → State → Outcome → State → Prop} {P : String → Heap → Prop} (hQ : Q = vx_MQ below Qc (cX P) args s mc ms free) (hx : p.tables.exec = Jvm.exec) (hb : c.code = cc) (hT : l.stackTraces = false) {cls text : String} {ik is ic : Nat}
    (hown : s.vm.findClass "RuleChoice" = some m.cls) (hK : KG ev s) (hs : s.heap = H) (hold : Old ev H) (hsz : ls.size = c.maxLocals) (hts : ∀ w ∈ TB, w.before args s = true) (htab : ∀ x ∈ c.exceptionTable.toList, False) (hlk : meth.locks = false)
    (hcls : Bundle.fit cls = true) (hk : Cond.classLink "RuleChoice" ik cls ∈ TB) (hini : Cond.initialized cls ∈ TB) (htx : (is, text) ∈ TX) (hat : ∀ w ∈ (vx_atS "RuleChoice" ic cls CH).filter goodWord, w ∈ TB) (hno : ∀ w ∈ (vx_atS "RuleChoice" ic cls CH).filter (fun w => !goodWord w), w ∈ [Cond.declares (Bundle.initS "java/lang/RuntimeException"), Cond.declares (Bundle.initS "java/lang/Exception"), Cond.declares (Bundle.initS Bundle.tN), Cond.castable cIX cIX, Cond.castable cIA cIA])
    (hgood : ∀ w ∈ Cond.classLink "RuleChoice" ik cls :: Cond.initialized cls :: vx_atS "RuleChoice" ic cls CH, vx_ot w = true)
    (d0 : decode cc pc = .ok (.new ik, 3)) (d3 : decode cc (pc + 3) = .ok (.dup, 1)) (d4 : decode cc (pc + 4) = .ok (.ldc is, 2)) (d6 : decode cc (pc + 6) = .ok (.invokespecial ic, 3)) (d9 : decode cc (pc + 9) = .ok (.athrow, 1))
    (hRf : 5 < R.frames) (hRl : (rest.map fun v => v.category).sum + 82 ≤ R.locals) (hRc : 1 ≤ R.cells) (hRs : 6 ≤ R.slots) (hc : 1 ≤ mc) (hms : 6 ≤ ms)
    (hP : ∀ H1 : Heap, Ext H H1 → P cls H1) : W p l e R s m args below meth c H [] 0 0 Q (F0 m pc ls rest) := by
  subst hQ
  obtain ⟨-, ⟨hU, hN⟩, hX, hDM, ⟨hc1, hc2, -⟩, -⟩ := hK
  have hq : ∀ a : Nat, a < (evH ev).size → ¬ (evH ev).size ≤ a → s.heap[a]? = (evH ev)[a]? := fun a h1 _ => by rw [hs]; exact hold.2 a h1
  have hB : ∀ w ∈ [Cond.declares (Bundle.initS "java/lang/RuntimeException"), Cond.declares (Bundle.initS "java/lang/Exception"), Cond.declares (Bundle.initS Bundle.tN), Cond.castable cIX cIX, Cond.castable cIA cIA], w.before args s = true :=
    vx_c (va_Nw.use rfl (hDM _ (by simp [DM]))) (vx_c (va_Nw.use rfl (hDM _ (by simp [DM]))) (vx_c (va_Nw.use rfl (hDM _ (by simp [DM]))) (vx_c (va_Nw.use rfl hc1) (vx_c (va_Nw.use rfl hc2) vx_n))))
  exact vx_throwS (A := fun q => (evH ev).size ≤ q) (names := CH) (text := text) (sa := ev.2.2.2 is) hx hb hT hown hcls (by decide) (hts _ hk) (hts _ hini) (hX _ htx) (vx_hat (fun w hw => hts w (hat w hw)) hno hB) hgood (hU.kept hq) (hN.kept hq) (by rw [hs]; exact va_S.rf) hsz d0 d3 d4 d6 d9 (fun x h => (htab x h).elim) hRf hRl (by omega) (by omega) hlk
    (fun t _ h1 h2 => hP _ ⟨h1, h2⟩) cNil hc hms
/-- 'throw new E(text)' of the class -/
theorem rx_throwW {ev : EV} {Qc : Array Value → State → Outcome → State → Prop} {P : String → Heap → Prop} (hQ : Q = vx_MQ below Qc (cX P) args s mc ms free) (hx : p.tables.exec = Jvm.exec) (hb : c.code = cc) (hT : l.stackTraces = false) {cls text : String} {ik is ic : Nat}
    (hown : s.vm.findClass "RuleChoice" = some m.cls) (hK : KG ev s) (hs : s.heap = H) (hold : Old ev H) (hsz : ls.size = c.maxLocals) (hts : ∀ w ∈ TB, w.before args s = true) (htab : ∀ x ∈ c.exceptionTable.toList, False) (hlk : meth.locks = false)
    (hcls : Bundle.fit cls = true) (hk : Cond.classLink "RuleChoice" ik cls ∈ TB) (hini : Cond.initialized cls ∈ TB) (htx : (is, text) ∈ TX) (hat : ∀ w ∈ (vx_atS "RuleChoice" ic cls CH).filter goodWord, w ∈ TB) (hno : ∀ w ∈ (vx_atS "RuleChoice" ic cls CH).filter (fun w => !goodWord w), w ∈ [Cond.declares (Bundle.initS "java/lang/RuntimeException"), Cond.declares (Bundle.initS "java/lang/Exception"), Cond.declares (Bundle.initS Bundle.tN), Cond.castable cIX cIX, Cond.castable cIA cIA])
    (hgood : ∀ w ∈ Cond.classLink "RuleChoice" ik cls :: Cond.initialized cls :: vx_atS "RuleChoice" ic cls CH, vx_ot w = true)
    (d0 : decode cc pc = .ok (.new ik, 3)) (d3 : decode cc (pc + 3) = .ok (.dup, 1)) (d4 : decode cc (pc + 4) = .ok (.ldc_w is, 3)) (d6 : decode cc (pc + 7) = .ok (.invokespecial ic, 3)) (d9 : decode cc (pc + 10) = .ok (.athrow, 1))
    (hRf : 5 < R.frames) (hRl : (rest.map fun v => v.category).sum + 82 ≤ R.locals) (hRc : 1 ≤ R.cells) (hRs : 6 ≤ R.slots) (hc : 1 ≤ mc) (hms : 6 ≤ ms)
    (hP : ∀ H1 : Heap, Ext H H1 → P cls H1) : W p l e R s m args below meth c H [] 0 0 Q (F0 m pc ls rest) := by
  subst hQ
  obtain ⟨-, ⟨hU, hN⟩, hX, hDM, ⟨hc1, hc2, -⟩, -⟩ := hK
  have hq : ∀ a : Nat, a < (evH ev).size → ¬ (evH ev).size ≤ a → s.heap[a]? = (evH ev)[a]? := fun a h1 _ => by rw [hs]; exact hold.2 a h1
  have hB : ∀ w ∈ [Cond.declares (Bundle.initS "java/lang/RuntimeException"), Cond.declares (Bundle.initS "java/lang/Exception"), Cond.declares (Bundle.initS Bundle.tN), Cond.castable cIX cIX, Cond.castable cIA cIA], w.before args s = true :=
    vx_c (va_Nw.use rfl (hDM _ (by simp [DM]))) (vx_c (va_Nw.use rfl (hDM _ (by simp [DM]))) (vx_c (va_Nw.use rfl (hDM _ (by simp [DM]))) (vx_c (va_Nw.use rfl hc1) (vx_c (va_Nw.use rfl hc2) vx_n))))
  exact vx_throwSW (A := fun q => (evH ev).size ≤ q) (names := CH) (text := text) (sa := ev.2.2.2 is) hx hb hT hown hcls (by decide) (hts _ hk) (hts _ hini) (hX _ htx) (vx_hat (fun w hw => hts w (hat w hw)) hno hB) hgood (hU.kept hq) (hN.kept hq) (by rw [hs]; exact va_S.rf) hsz d0 d3 d4 d6 d9 (fun x h => (htab x h).elim) hRf hRl (by omega) (by omega) hlk
    (fun t _ h1 h2 => hP _ ⟨h1, h2⟩) cNil hc hms
/-- a call that may throw; nothing of the world changes where it returns -/
theorem cx_v {ok : Prop} {P : String → Heap → Prop} {a : Array Value} (hr : vx_Run p l e R s m args below meth c H locs cells slots mc ms (F0 m pc ls st0) rest (cQo ok a) (cX P) cNo) (hL : ∀ q ∈ locs, A q.base)
    (kx : ∀ (E : String) (H1 : Heap) (ce : Cell) (q9 : Addr) (locs1 : List Loc), P E H1 → (∀ q ∈ locs1, A q.base) → H1[q9]? = some ce → ce.vm = .none → s.vm.findClass E = some ce.cls → vx_W p l e R s m args below meth c H1 locs1 (cells + mc) (slots + ms) Q (F0 m pc ls rest) q9)
    (kk : ok → W p l e R s m args below meth c H locs (cells + mc) (slots + ms) Q (F0 m (pc + 3) ls rest)) : W p l e R s m args below meth c H locs cells slots Q (F0 m pc ls st0) := by
  intro T hT X
  rcases hr T hT X with ⟨v, st₀, t, T', L, h0, X', hL1, e1, e2, ⟨hok, hv, hh⟩, st⟩ | ⟨q, st₀, t, T', L, E, ce, h0, X', hL1, e1, e2, hp, hce, hcv, hcl, st⟩
  · cases hv
    obtain ⟨t2, a1, b1⟩ := kk hok T' (by rw [e1, hh, h0]) (Stand.forget X' (fun q h => (hL1 q h).elim))
    exact ⟨t2, st t2 a1, b1⟩
  · obtain ⟨t2, a1, b1⟩ := kx E t.heap ce q (locs ++ L) hp (t_lL hL (fun q h => (hL1 q h).elim)) hce hcv hcl T' e1 X'
    exact ⟨t2, st.trans a1, b1⟩
/-- a call that may throw; where it returns v the heap holds P, where it throws E it holds PX E -/
theorem cx_d {v : Option Value} {P : Heap → Prop} {PX : String → Heap → Prop} {a : Array Value} (hr : vx_Run p l e R s m args below meth c H locs cells slots mc ms (F0 m pc ls st0) rest (cQd v P a) (cX PX) free) (hL : ∀ q ∈ locs, A q.base) (hf : ∀ q, free q → A q)
    (kx : ∀ (E : String) (H1 : Heap) (ce : Cell) (q9 : Addr) (locs1 : List Loc), PX E H1 → (∀ q ∈ locs1, A q.base) → H1[q9]? = some ce → ce.vm = .none → s.vm.findClass E = some ce.cls → vx_W p l e R s m args below meth c H1 locs1 (cells + mc) (slots + ms) Q (F0 m pc ls rest) q9)
    (kk : ∀ (H1 : Heap) (locs1 : List Loc), P H1 → (∀ q ∈ locs1, A q.base) → W p l e R s m args below meth c H1 locs1 (cells + mc) (slots + ms) Q (F0 m (pc + 3) ls (v.toList ++ rest))) : W p l e R s m args below meth c H locs cells slots Q (F0 m pc ls st0) := by
  intro T hT X
  rcases hr T hT X with ⟨v, st₀, t, T', L, h0, X', hL1, e1, e2, ⟨hv, hh⟩, st⟩ | ⟨q, st₀, t, T', L, E, ce, h0, X', hL1, e1, e2, hp, hce, hcv, hcl, st⟩
  · cases hv
    obtain ⟨t2, a1, b1⟩ := kk t.heap _ hh (t_lL hL (fun q h => hf _ (hL1 q h))) T' e1 X'
    exact ⟨t2, st t2 a1, b1⟩
  · obtain ⟨t2, a1, b1⟩ := kx E t.heap ce q (locs ++ L) hp (t_lL hL (fun q h => hf _ (hL1 q h))) hce hcv hcl T' e1 X'
    exact ⟨t2, st.trans a1, b1⟩
/-- it goes on to the caller -/
theorem cx_out {Qc : Array Value → State → Outcome → State → Prop} {PX : String → Heap → Prop} {E : String} {ce : Cell} {q : Addr} (hQ : Q = vx_MQ below Qc (cX PX) args s mc ms free) (htab : ∀ x ∈ c.exceptionTable.toList, False) (hlk : meth.locks = false) (hcell : H[q]? = some ce) (hv : ce.vm = .none) (hcl : s.vm.findClass E = some ce.cls) (hP : PX E H) (hf : ∀ z ∈ locs, free z.base) (hc : cells ≤ mc) (hs : slots ≤ ms) :
    vx_W p l e R s m args below meth c H locs cells slots Q (F0 m pc ls rest) q := by
  subst hQ
  exact vx_out (fun x h => (htab x h).elim) hlk hcell hv hcl (fun t ht _ => by show PX E t.heap; rw [ht]; exact hP) hf hc hs
end MyRowsX
end
section
/-! what the system is: rules, areas, things, as numbers -/
abbrev Ru : Type := Int32 × Int32 × Int32 × Int32 × Int64 × Int32 × Option Nat
abbrev Aa : Type := Int64 × Int64 × Int64 × Int64
abbrev Tt : Type := Int32 × Int32 × Int64 × Int64
/-- NONE or a number -/
def oI (o : Option Nat) : Int32 := match o with
  | none => -1
  | some a => nI a
/-- the model's: 0 or a number and one -/
def oW (o : Option Nat) : Int32 := match o with
  | none => 0
  | some a => nI (a + 1)
def bI (b : Bool) : Int32 := if b then 1 else 0
theorem bI_t : bI true = 1 := rfl
theorem bI_f : bI false = 0 := rfl
theorem bI_n (b : Bool) : narrow .boolean (.int (bI b)) = .int (bI b) := by cases b <;> rfl
theorem bI_ne (b : Bool) : ¬ bI b = 0 ↔ b = true := by cases b <;> decide
theorem bI_eq (b : Bool) : bI b = 0 ↔ b = false := by cases b <;> decide
theorem nI_ne {a : Nat} (h : a < 2 ^ 31) : ¬ nI a = -1 := fun e => by
  have h1 := nI_pos' h
  rw [e] at h1
  exact absurd h1 (by decide)
theorem oI_none : oI none = -1 := rfl
theorem oI_some (a : Nat) : oI (some a) = nI a := rfl
def fitB (w g : Int32) : Bool := decide (w = -1) || decide (w = g)
def btwB (r : Ru) (x y : Int32) : Bool := (fitB r.2.1 x && fitB r.2.2.1 y) || (fitB r.2.1 y && fitB r.2.2.1 x)
def layB (r : Ru) (x : Int32) : Bool := fitB r.2.2.2.1 x
def inB (a : Aa) (x y : Int64) : Bool := !decide (x < a.1) && (!decide (a.2.2.1 < x) && (!decide (y < a.2.1) && !decide (a.2.2.2 < y)))
def arB (ar : Nat → Aa) (o : Option Nat) (s t : Tt) : Bool := match o with
  | none => true
  | some a => inB (ar a) s.2.2.1 s.2.2.2 && inB (ar a) t.2.2.1 t.2.2.2
/-- why a rule doesn't match; 0, when it does -/
def hindF (ar : Nat → Aa) (r : Ru) (kind : Int32) (s t : Tt) : Int32 :=
  if r.1 = kind then (if btwB r s.1 t.1 = true then (if (layB r s.2.1 && layB r t.2.1) = true then (if arB ar r.2.2.2.2.2.2 s t = true then 0 else 4) else 3) else 2) else 1
def matB (ar : Nat → Aa) (r : Ru) (kind : Int32) (s t : Tt) : Bool := decide (r.1 = kind) && (btwB r s.1 t.1 && ((layB r s.2.1 && layB r t.2.1) && arB ar r.2.2.2.2.2.2 s t))
theorem hind_mat (ar : Nat → Aa) (r : Ru) (kind : Int32) (s t : Tt) : hindF ar r kind s t = 0 ↔ matB ar r kind s t = true := by
  unfold hindF matB
  by_cases h1 : r.1 = kind <;> cases h2 : btwB r s.1 t.1 <;> cases h3 : (layB r s.2.1 && layB r t.2.1) <;> cases h4 : arB ar r.2.2.2.2.2.2 s t <;> simp [h1]
/-- rule i beats rule j -/
def ahB (ru : Nat → Ru) (i j : Nat) : Bool := decide ((ru j).2.2.2.2.2.1 < (ru i).2.2.2.2.2.1) || (decide ((ru i).2.2.2.2.2.1 = (ru j).2.2.2.2.2.1) && decide (j < i))
def upB (ru : Nat → Ru) (up : Option Nat) (i : Nat) : Bool := match up with
  | none => true
  | some j => ahB ru j i
def btB (ru : Nat → Ru) (i : Nat) (best : Option Nat) : Bool := match best with
  | none => true
  | some j => ahB ru i j
/-- the best among the first n that the rule 'up' beats -/
def besF (ru : Nat → Ru) (ar : Nat → Aa) (up : Option Nat) (kind : Int32) (s t : Tt) : Nat → Option Nat
  | 0 => none
  | n + 1 => if (upB ru up n && btB ru n (besF ru ar up kind s t n) && matB ar (ru n) kind s t) = true then some n else besF ru ar up kind s t n
theorem besF_lt {ru : Nat → Ru} {ar : Nat → Aa} {up : Option Nat} {kind : Int32} {s t : Tt} : ∀ (n i : Nat), besF ru ar up kind s t n = some i → i < n
  | 0, i, h => by cases h
  | n + 1, i, h => by
    unfold besF at h
    split at h
    · cases h; omega
    · have := besF_lt n i h; omega
/-! the arguments that are right -/
def okK (k : Int32) : Prop := ¬ k < 0 ∧ k < 6
def okC (n c : Int32) : Prop := ¬ c < 0 ∧ c < n
def okCN (n c : Int32) : Prop := c = -1 ∨ okC n c
def okL (x : Int32) : Prop := ¬ x < 0 ∧ x < 8
def okLN (x : Int32) : Prop := x = -1 ∨ okL x
def okI (n : Nat) (x : Int32) : Prop := ¬ x < 0 ∧ x < nI n
def okIN (n : Nat) (x : Int32) : Prop := x = -1 ∨ okI n x
def okS (x : Int32) : Prop := x = 0 ∨ x = 1
def okV (v : Int64) : Prop := ¬ v < 0 ∧ v ≤ 1000000
def okR (r : Int32) : Prop := ¬ r < -1000 ∧ r ≤ 1000
def okP (x y : Int64) : Prop := (¬ x < -1000000 ∧ x ≤ 1000000) ∧ ¬ y < -1000000 ∧ y ≤ 1000000
def okT (x0 y0 x1 y1 : Int64) : Prop := x0 ≤ x1 ∧ y0 ≤ y1
theorem okI_ix {n : Nat} {x : Int32} (hn : n < 2 ^ 31) (h : okI n x) : ∃ i, i < n ∧ x = nI i := by
  obtain ⟨j, hj, rfl⟩ := nI_of h.1
  exact ⟨j, (nI_ltI hj hn).mp h.2, rfl⟩
theorem okI_of {n i : Nat} (hn : n < 2 ^ 31) (h : i < n) : okI n (nI i) := ⟨nI_pos (by omega), (nI_ltI (by omega) hn).mpr h⟩
theorem oI_m1 {o : Option Nat} (hb : ∀ a, o = some a → a < 2 ^ 31) (h : oI o = -1) : o = none := by
  cases o with
  | none => rfl
  | some a => exact absurd h (nI_ne (hb a rfl))
theorem oI_no {o : Option Nat} (h : ¬ oI o = -1) : ∃ a, o = some a := by
  cases o with
  | none => exact absurd rfl h
  | some a => exact ⟨a, rfl⟩
theorem besF_y {ru : Nat → Ru} {ar : Nat → Aa} {up : Option Nat} {kind : Int32} {s t : Tt} {n : Nat} (h1 : upB ru up n = true) (h2 : btB ru n (besF ru ar up kind s t n) = true) (h3 : matB ar (ru n) kind s t = true) : besF ru ar up kind s t (n + 1) = some n := by
  unfold besF
  rw [h1, h2, h3]
  rfl
theorem besF_u {ru : Nat → Ru} {ar : Nat → Aa} {up : Option Nat} {kind : Int32} {s t : Tt} {n : Nat} (h1 : upB ru up n = false) : besF ru ar up kind s t (n + 1) = besF ru ar up kind s t n := by
  rw [besF, h1]
  rfl
theorem besF_b {ru : Nat → Ru} {ar : Nat → Aa} {up : Option Nat} {kind : Int32} {s t : Tt} {n : Nat} (h1 : btB ru n (besF ru ar up kind s t n) = false) : besF ru ar up kind s t (n + 1) = besF ru ar up kind s t n := by
  rw [besF, h1]
  simp
theorem besF_m {ru : Nat → Ru} {ar : Nat → Aa} {up : Option Nat} {kind : Int32} {s t : Tt} {n : Nat} (h1 : matB ar (ru n) kind s t = false) : besF ru ar up kind s t (n + 1) = besF ru ar up kind s t n := by
  rw [besF, h1]
  simp
theorem mat_f {ar : Nat → Aa} {r : Ru} {kind : Int32} {s t : Tt} (h : ¬ hindF ar r kind s t = 0) : matB ar r kind s t = false := by
  cases hm : matB ar r kind s t with
  | false => rfl
  | true => exact absurd ((hind_mat ar r kind s t).mpr hm) h
/-- the value of a winner -/
def valF (ru : Nat → Ru) (o : Option Nat) : Int64 := match o with
  | none => -1
  | some i => (ru i).2.2.2.2.1
/-- the areas of the first n in which a place lies, a bit for each -/
def arnF (ar : Nat → Aa) (x y : Int64) : Nat → Int32
  | 0 => 0
  | n + 1 => if inB (ar n) x y = true then arnF ar x y n ||| ((1 : Int32) <<< (nI n &&& 31)) else arnF ar x y n
theorem arnF_y {ar : Nat → Aa} {x y : Int64} {n : Nat} (h : inB (ar n) x y = true) : arnF ar x y (n + 1) = arnF ar x y n ||| ((1 : Int32) <<< (nI n &&& 31)) := by rw [arnF, if_pos h]
theorem arnF_n {ar : Nat → Aa} {x y : Int64} {n : Nat} (h : inB (ar n) x y = false) : arnF ar x y (n + 1) = arnF ar x y n := by rw [arnF, if_neg (by rw [h]; decide)]
/-- two things too near -/
def dsF (s t : Tt) : Int64 := (s.2.2.1 - t.2.2.1) * (s.2.2.1 - t.2.2.1) + (s.2.2.2 - t.2.2.2) * (s.2.2.2 - t.2.2.2)
def nerB (ru : Nat → Ru) (ar : Nat → Aa) (nr : Nat) (kind : Int32) (s t : Tt) : Bool := decide (s.2.1 = t.2.1) && match besF ru ar none kind s t nr with
  | none => false
  | some i => decide (dsF s t < (ru i).2.2.2.2.1 * (ru i).2.2.2.2.1)
/-! kept answers: slots, and how many hold one -/
def cntF (f : Nat → Int32) : Nat → Nat
  | 0 => 0
  | n + 1 => cntF f n + (if f n = 0 then 0 else 1)
theorem cnt_le (f : Nat → Int32) : ∀ n, cntF f n ≤ n
  | 0 => Nat.le_refl 0
  | n + 1 => by
    have := cnt_le f n
    unfold cntF
    split <;> omega
theorem cnt_out {f : Nat → Int32} {s : Nat} {v : Int32} : ∀ n, n ≤ s → cntF (upd f s v) n = cntF f n
  | 0, _ => rfl
  | n + 1, h => by
    have := cnt_out (f := f) (s := s) (v := v) n (by omega)
    unfold cntF
    rw [this, pk_un (by omega)]
theorem cnt_drop {f : Nat → Int32} {s : Nat} (h0 : ¬ f s = 0) : ∀ n, s < n → cntF (upd f s 0) n + 1 = cntF f n
  | 0, h => by omega
  | n + 1, h => by
    unfold cntF
    by_cases e : s = n
    · subst e
      rw [cnt_out s (Nat.le_refl _), pk_us, if_pos rfl, if_neg h0]
    · have := cnt_drop h0 n (by omega)
      rw [pk_un (fun q => e q.symm)]
      omega
theorem cnt_keep {f : Nat → Int32} {s : Nat} {v : Int32} (h0 : f s = 0) (hv : ¬ v = 0) : ∀ n, s < n → cntF (upd f s v) n = cntF f n + 1
  | 0, h => by omega
  | n + 1, h => by
    unfold cntF
    by_cases e : s = n
    · subst e
      rw [cnt_out s (Nat.le_refl _), pk_us, if_neg hv, if_pos h0]
    · have := cnt_keep h0 hv n (by omega)
      rw [pk_un (fun q => e q.symm)]
      omega
theorem upd_0 {f : Nat → Int32} {s : Nat} (h0 : f s = 0) : upd f s 0 = f := by
  funext j
  by_cases e : j = s
  · subst e; rw [pk_us, h0]
  · rw [pk_un e]
/-- the slot of a kind and two things -/
def sIx (k x y : Nat) : Nat := k * 820 + (max x y * (max x y + 1) / 2 + min x y)
theorem tri_lt {h : Nat} (hh : h < 40) : h * (h + 1) / 2 ≤ 780 := by
  have : h * (h + 1) ≤ 39 * 40 := Nat.mul_le_mul (by omega) (by omega)
  omega
theorem sIx_lt {k x y : Nat} (hk : k < 6) (hx : x < 40) (hy : y < 40) : sIx k x y < 4920 := by
  have h1 : max x y < 40 := by omega
  have h2 := tri_lt h1
  unfold sIx
  omega
/-- slots emptied from lo on, n of them -/
def dSf (sl : Nat → Int32) (lo : Nat) : Nat → Nat → Int32
  | 0 => sl
  | n + 1 => upd (dSf sl lo n) (lo + n) 0
def dOf (sl : Nat → Int32) (k t : Nat) : Nat → Nat → Int32
  | 0 => sl
  | n + 1 => upd (dOf sl k t n) (sIx k t n) 0
def dKf (sl : Nat → Int32) (t : Nat) : Nat → Nat → Int32
  | 0 => sl
  | n + 1 => dOf (dKf sl t n) n t 40
end
section
/-! the class's cells, at their places behind its own cell b -/
abbrev pt (ev : EV) (H : Heap) (a : Nat) (e : va_E) : Prop := va_at ev.1 CL (a, e) H
abbrev oC (ci : Nat) (fs : List Value) : va_E := .inr (ci, fs)
abbrev aI (ev : EV) (n : Nat) (f : Nat → Int32) : va_E := .inl (ev.2.1 0, n, .inl f)
abbrev aL (ev : EV) (n : Nat) (f : Nat → Int64) : va_E := .inl (ev.2.1 1, n, .inr (.inl f))
abbrev aZ (ev : EV) (n : Nat) (f : Nat → Int32) : va_E := .inl (ev.2.1 2, n, .inl f)
abbrev aQ (ev : EV) (k n : Nat) (f : Nat → Option Nat) : va_E := .inl (ev.2.1 k, n, .inr (.inr (.inr (.inr f))))
abbrev ruV (r : Ru) : List Value := [.int r.1, .int r.2.1, .int r.2.2.1, .int r.2.2.2.1, .long r.2.2.2.2.1, .int r.2.2.2.2.2.1, .int (oI r.2.2.2.2.2.2)]
abbrev aaV (r : Aa) : List Value := [.long r.1, .long r.2.1, .long r.2.2.1, .long r.2.2.2]
abbrev ttV (r : Tt) : List Value := [.int r.1, .int r.2.1, .long r.2.2.1, .long r.2.2.2]
/-- classes, the three counts, how often spared; rules, areas, things -/
abbrev XS : Type := (Int32 × Nat × Nat × Nat × Int64) × (Nat → Ru) × (Nat → Aa) × (Nat → Tt)
abbrev xO (ev : EV) (b : Nat) (q : Int32 × Nat × Nat × Nat × Int64) (H : Heap) : Prop := pt ev H b (oC 0 [.int q.1, .ref (b + 1), .ref (b + 42), .ref (b + 55), .ref (b + 96), .ref (b + 98), .int (nI q.2.1), .int (nI q.2.2.1), .int (nI q.2.2.2.1), .long q.2.2.2.2])
def xR (ev : EV) (b : Nat) (ru : Nat → Ru) (H : Heap) : Prop := pt ev H (b + 1) (aQ ev 3 40 (fun j => some (b + 2 + j))) ∧ ∀ i, i < 40 → pt ev H (b + 2 + i) (oC 4 (ruV (ru i)))
def xA (ev : EV) (b : Nat) (ar : Nat → Aa) (H : Heap) : Prop := pt ev H (b + 42) (aQ ev 4 12 (fun j => some (b + 43 + j))) ∧ ∀ i, i < 12 → pt ev H (b + 43 + i) (oC 2 (aaV (ar i)))
def xT (ev : EV) (b : Nat) (th : Nat → Tt) (H : Heap) : Prop := pt ev H (b + 55) (aQ ev 5 40 (fun j => some (b + 56 + j))) ∧ ∀ i, i < 40 → pt ev H (b + 56 + i) (oC 5 (ttV (th i)))
def xB (u : XS) : Prop := u.1.2.1 ≤ 40 ∧ u.1.2.2.1 ≤ 12 ∧ u.1.2.2.2.1 ≤ 40 ∧ (∀ i a, i < 40 → (u.2.1 i).2.2.2.2.2.2 = some a → a < u.1.2.2.1) ∧ ∀ i, i < 40 → okK (u.2.1 i).1
theorem xB_12 {u : XS} (h : xB u) {i a : Nat} (hi : i < 40) (e : (u.2.1 i).2.2.2.2.2.2 = some a) : a < 12 := Nat.lt_of_lt_of_le (h.2.2.2.1 i a hi e) h.2.1
def XW (ev : EV) (b : Nat) (u : XS) (H : Heap) : Prop := xO ev b u.1 H ∧ xR ev b u.2.1 H ∧ xA ev b u.2.2.1 H ∧ xT ev b u.2.2.2 H ∧ xB u
/-- kept answers: the slots, how many -/
def xN (ev : EV) (q : Nat) (sl : Nat → Int32) (H : Heap) : Prop := pt ev H q (oC 1 [.ref (q + 1), .int (nI (cntF sl 4920))]) ∧ pt ev H (q + 1) (aI ev 4920 sl)
/-- pairs that are too near -/
def xP (ev : EV) (q : Nat) (v : Nat × (Nat → Int32) × (Nat → Int32)) (H : Heap) : Prop := pt ev H q (oC 3 [.ref (q + 1), .ref (q + 2), .int (nI v.1)]) ∧ pt ev H (q + 1) (aI ev 780 v.2.1) ∧ pt ev H (q + 2) (aI ev 780 v.2.2) ∧ v.1 ≤ 780
theorem pt_k {ev : EV} {H H1 : Heap} {a : Nat} {e : va_E} (h : pt ev H a e) (hq : H1[a]? = H[a]?) : pt ev H1 a e := va_at.kept h hq
theorem pt_lt {ev : EV} {H : Heap} {a : Nat} {e : va_E} (h : pt ev H a e) : a < H.size := va_at.lt h
theorem xO_k {ev : EV} {b : Nat} {q : Int32 × Nat × Nat × Nat × Int64} {H H1 : Heap} (h : xO ev b q H) (hq : H1[b]? = H[b]?) : xO ev b q H1 := pt_k h hq
theorem xR_k {ev : EV} {b : Nat} {v : Nat → Ru} {H H1 : Heap} (h : xR ev b v H) (hq : ∀ q : Nat, b + 1 ≤ q → q < b + 42 → H1[q]? = H[q]?) : xR ev b v H1 := ⟨pt_k h.1 (hq _ (by omega) (by omega)), fun i hi => pt_k (h.2 i hi) (hq _ (by omega) (by omega))⟩
theorem xA_k {ev : EV} {b : Nat} {v : Nat → Aa} {H H1 : Heap} (h : xA ev b v H) (hq : ∀ q : Nat, b + 42 ≤ q → q < b + 55 → H1[q]? = H[q]?) : xA ev b v H1 := ⟨pt_k h.1 (hq _ (by omega) (by omega)), fun i hi => pt_k (h.2 i hi) (hq _ (by omega) (by omega))⟩
theorem xT_k {ev : EV} {b : Nat} {v : Nat → Tt} {H H1 : Heap} (h : xT ev b v H) (hq : ∀ q : Nat, b + 55 ≤ q → q < b + 96 → H1[q]? = H[q]?) : xT ev b v H1 := ⟨pt_k h.1 (hq _ (by omega) (by omega)), fun i hi => pt_k (h.2 i hi) (hq _ (by omega) (by omega))⟩
theorem XW_k {ev : EV} {b : Nat} {u : XS} {H H1 : Heap} (h : XW ev b u H) (hq : ∀ q : Nat, b ≤ q → q < b + 96 → H1[q]? = H[q]?) : XW ev b u H1 :=
  ⟨xO_k h.1 (hq _ (by omega) (by omega)), xR_k h.2.1 (fun q _ _ => hq _ (by omega) (by omega)), xA_k h.2.2.1 (fun q _ _ => hq _ (by omega) (by omega)), xT_k h.2.2.2.1 (fun q _ _ => hq _ (by omega) (by omega)), h.2.2.2.2⟩
theorem xN_k {ev : EV} {q : Nat} {sl : Nat → Int32} {H H1 : Heap} (h : xN ev q sl H) (hq : ∀ x : Nat, q ≤ x → x < q + 2 → H1[x]? = H[x]?) : xN ev q sl H1 := ⟨pt_k h.1 (hq _ (by omega) (by omega)), pt_k h.2 (hq _ (by omega) (by omega))⟩
theorem xP_k {ev : EV} {q : Nat} {v : Nat × (Nat → Int32) × (Nat → Int32)} {H H1 : Heap} (h : xP ev q v H) (hq : ∀ x : Nat, q ≤ x → x < q + 3 → H1[x]? = H[x]?) : xP ev q v H1 := ⟨pt_k h.1 (hq _ (by omega) (by omega)), pt_k h.2.1 (hq _ (by omega) (by omega)), pt_k h.2.2.1 (hq _ (by omega) (by omega)), h.2.2.2⟩
/-- since H only cells of a block have changed, none came -/
def Blk (lo hi : Nat) (H H1 : Heap) : Prop := H1.size = H.size ∧ ∀ q : Nat, (q < lo ∨ hi ≤ q) → H1[q]? = H[q]?
theorem Blk.rf {lo hi : Nat} {H : Heap} : Blk lo hi H H := ⟨rfl, fun _ _ => rfl⟩
theorem Blk.trans {lo hi : Nat} {H H1 H2 : Heap} (h1 : Blk lo hi H H1) (h2 : Blk lo hi H1 H2) : Blk lo hi H H2 := ⟨h2.1.trans h1.1, fun q hq => (h2.2 q hq).trans (h1.2 q hq)⟩
theorem Blk.wide {lo hi lo' hi' : Nat} {H H1 : Heap} (h : Blk lo hi H H1) (h1 : lo' ≤ lo) (h2 : hi ≤ hi') : Blk lo' hi' H H1 := ⟨h.1, fun q hq => h.2 q (by omega)⟩
theorem Blk.one {a : Nat} {H H1 : Heap} (z : H1.size = H.size) (o : ∀ q : Nat, q ≠ a → H1[q]? = H[q]?) : Blk a (a + 1) H H1 := ⟨z, fun q hq => o q (by omega)⟩
abbrev inBk (lo hi : Nat) : Nat → Prop := fun q => lo ≤ q ∧ q < hi
/-- of a state: the winner for a kind and two things -/
def besU (u : XS) (k x y : Nat) : Option Nat := besF u.2.1 u.2.2.1 none (nI k) (u.2.2.2 x) (u.2.2.2 y) u.1.2.1
/-- which answers are kept, and that each is the winner -/
def KP (u : XS) (kp : Nat → Nat → Nat → Bool) (sl : Nat → Int32) : Prop := ∀ k x y, k < 6 → x ≤ y → y < 40 → sl (sIx k x y) = (if kp k x y = true then oI (besU u k x y) + 2 else 0) ∧ (kp k x y = true → y < u.1.2.2.2.1)
abbrev KT : Type := Nat → Nat → Nat → Bool
abbrev PT : Type := Nat × (Nat → Int32) × (Nat → Int32)
/-- the whole class -/
def XF (ev : EV) (b : Nat) (u : XS) (kp : KT) (v : PT) (H : Heap) : Prop := XW ev b u H ∧ (∃ sl, KP u kp sl ∧ xN ev (b + 96) sl H) ∧ xP ev (b + 98) v H ∧ Old ev H ∧ (evH ev).size ≤ b
/-- since H only cells of the class's block have changed; new ones may have come -/
def Frm (b n : Nat) (H H1 : Heap) : Prop := H.size ≤ H1.size ∧ ∀ q : Nat, q < H.size → (q < b ∨ b + n ≤ q) → H1[q]? = H[q]?
theorem Frm.ext {b n : Nat} {H H1 : Heap} (h : Ext H H1) : Frm b n H H1 := ⟨h.1, fun q hq _ => h.2 q hq⟩
theorem Frm.blk {b n lo hi : Nat} {H H1 : Heap} (h : Blk lo hi H H1) (h1 : b ≤ lo) (h2 : hi ≤ b + n) : Frm b n H H1 := ⟨Nat.le_of_eq h.1.symm, fun q _ hq => h.2 q (by omega)⟩
theorem Old.blk {ev : EV} {lo hi : Nat} {H H1 : Heap} (h : Old ev H) (hB : Blk lo hi H H1) (hl : (evH ev).size ≤ lo) : Old ev H1 := ⟨by rw [hB.1]; exact h.1, fun q hq => (hB.2 q (Or.inl (by omega))).trans (h.2 q hq)⟩
theorem XF_ext {ev : EV} {b : Nat} {u : XS} {kp : KT} {v : PT} {H H1 : Heap} (h : XF ev b u kp v H) (e : Ext H H1) : XF ev b u kp v H1 := by
  obtain ⟨h1, ⟨sl, h2, h3⟩, h4, h5, h6⟩ := h
  have z : b + 100 < H.size := pt_lt h4.2.2.1
  exact ⟨XW_k h1 (fun q _ _ => e.2 q (by omega)), ⟨sl, h2, xN_k h3 (fun q _ _ => e.2 q (by omega))⟩, xP_k h4 (fun q _ _ => e.2 q (by omega)), h5.ext e, h6⟩
end
section
def rm_R_fits : Room := { frames := 0, cells := 0, slots := 0, locals := 0 }
set_option maxRecDepth 100000 in
set_option maxHeartbeats 4000000 in
theorem c_R_fits {l : Launch} {ev : EV} {H0 : Heap} (w g : Int32)  : Met l my_R_fits mw_R_fits rm_R_fits (cP [.int w, .int g] (KG ev) H0) (cQp (some (.int (bI (fitB w g))))) 0 0 cNo := by
  refine cHead [.int w, .int g] (by decide) rfl (Nat.le_of_ble_eq_true rfl) ?_
  intro p e s m below meth c ls args QQ hQ S hr hlk hnm hs hK hl
  have S : CallFix p m c mb_R_fits 2 s args TB "RuleChoice$Rule" := S
  obtain ⟨hx, hb, hml, hown, hts⟩ := id S
  have hl : lv_has ls 2 [(0, .int w), (1, .int g)] := hl
  refine lv_iload_n hx hb d_R_fits_0 rfl (lv_at hl 0 rfl) ?_
  refine lv_iconst (v := (-1)) hx hb d_R_fits_1 (by decide) ?_
  refine lv_icmp_eq (tgt := 10) hx hb d_R_fits_2 (by decide) (fun c2 => ?_) (fun c2 => ?_)
  · refine lv_iconst (v := 1) hx hb d_R_fits_10 (by decide) ?_
    refine lv_goto (tgt := 15) hx hb d_R_fits_11 (by decide) ?_
    exact rt_i hQ hx hb hr hlk hs (rfl) (by simp [fitB, bI, c2]) d_R_fits_15
  · refine lv_iload_n hx hb d_R_fits_5 rfl (lv_at hl 0 rfl) ?_
    refine lv_iload_n hx hb d_R_fits_6 rfl (lv_at hl 1 rfl) ?_
    refine lv_icmp_ne (tgt := 14) hx hb d_R_fits_7 (by decide) (fun c7 => ?_) (fun c7 => ?_)
    · refine lv_iconst (v := 0) hx hb d_R_fits_14 (by decide) ?_
      exact rt_i hQ hx hb hr hlk hs (rfl) (by simp [fitB, bI, c2, c7]) d_R_fits_15
    · refine lv_iconst (v := 1) hx hb d_R_fits_10 (by decide) ?_
      refine lv_goto (tgt := 15) hx hb d_R_fits_11 (by decide) ?_
      exact rt_i hQ hx hb hr hlk hs (rfl) (by simp [fitB, bI, c2, c7]) d_R_fits_15
def rm_R_isBetween : Room := { frames := 1, cells := 0, slots := 0, locals := 21 }
set_option maxRecDepth 100000 in
set_option maxHeartbeats 4000000 in
theorem c_R_isBetween {l : Launch} {ev : EV} {H0 : Heap} {a : Nat} {r : Ru} (hr0 : pt ev H0 a (oC 4 (ruV r))) (x y : Int32) : Met l my_R_isBetween mw_R_isBetween rm_R_isBetween (cP [.ref a, .int x, .int y] (KG ev) H0) (cQp (some (.int (bI (btwB r x y))))) 0 0 cNo := by
  refine cHead [.ref a, .int x, .int y] (by decide) rfl (Nat.le_of_ble_eq_true rfl) ?_
  intro p e s m below meth c ls args QQ hQ S hr hlk hnm hs hK hl
  have S : CallFix p m c mb_R_isBetween 3 s args TB "RuleChoice$Rule" := S
  obtain ⟨hx, hb, hml, hown, hts⟩ := id S
  have hl : lv_has ls 3 [(0, .ref a), (1, .int x), (2, .int y)] := hl
  refine lv_aload_n hx hb d_R_isBetween_0 rfl (lv_at hl 0 rfl) ?_
  refine rw_get hx hb hts in_R hown hK.1 hr0 rfl 1 (by decide) (hts _ fl_R_18) rfl d_R_isBetween_1 ?_
  refine lv_iload_n hx hb d_R_isBetween_4 rfl (lv_at hl 1 rfl) ?_
  refine cl_i (W.runS (As := [.int r.2.1, .int x]) (rest := []) S (c_R_fits r.2.1 x) (va_cwS 2 hts gs_R_31 rfl rfl rfl (by decide +kernel) ⟨Nat.le_of_ble_eq_true rfl, Nat.le_of_ble_eq_true rfl⟩) (cP_S (KG_ok _) hK) rfl rfl hl.1 rfl (lv_room (Nat.le_of_ble_eq_true rfl)) d_R_isBetween_5 ⟨Nat.le_of_ble_eq_true rfl, Nat.le_of_ble_eq_true rfl⟩) ?_
  refine lv_if_eq (tgt := 22) hx hb d_R_isBetween_8 (by decide) (fun c8 => ?_) (fun c8 => ?_)
  · refine lv_aload_n hx hb d_R_isBetween_22 rfl (lv_at hl 0 rfl) ?_
    refine rw_get hx hb hts in_R hown hK.1 hr0 rfl 1 (by decide) (hts _ fl_R_18) rfl d_R_isBetween_23 ?_
    refine lv_iload_n hx hb d_R_isBetween_26 rfl (lv_at hl 2 rfl) ?_
    refine cl_i (W.runS (As := [.int r.2.1, .int y]) (rest := []) S (c_R_fits r.2.1 y) (va_cwS 2 hts gs_R_31 rfl rfl rfl (by decide +kernel) ⟨Nat.le_of_ble_eq_true rfl, Nat.le_of_ble_eq_true rfl⟩) (cP_S (KG_ok _) hK) rfl rfl hl.1 rfl (lv_room (Nat.le_of_ble_eq_true rfl)) d_R_isBetween_27 ⟨Nat.le_of_ble_eq_true rfl, Nat.le_of_ble_eq_true rfl⟩) ?_
    refine lv_if_eq (tgt := 48) hx hb d_R_isBetween_30 (by decide) (fun c30 => ?_) (fun c30 => ?_)
    · refine lv_iconst (v := 0) hx hb d_R_isBetween_48 (by decide) ?_
      exact rt_i hQ hx hb hr hlk hs (rfl) (by simp only [bI_eq, bI_ne] at c8 c30; simp [btwB, bI, c8, c30]) d_R_isBetween_49
    · refine lv_aload_n hx hb d_R_isBetween_33 rfl (lv_at hl 0 rfl) ?_
      refine rw_get hx hb hts in_R hown hK.1 hr0 rfl 2 (by decide) (hts _ fl_R_21) rfl d_R_isBetween_34 ?_
      refine lv_iload_n hx hb d_R_isBetween_37 rfl (lv_at hl 1 rfl) ?_
      refine cl_i (W.runS (As := [.int r.2.2.1, .int x]) (rest := []) S (c_R_fits r.2.2.1 x) (va_cwS 2 hts gs_R_31 rfl rfl rfl (by decide +kernel) ⟨Nat.le_of_ble_eq_true rfl, Nat.le_of_ble_eq_true rfl⟩) (cP_S (KG_ok _) hK) rfl rfl hl.1 rfl (lv_room (Nat.le_of_ble_eq_true rfl)) d_R_isBetween_38 ⟨Nat.le_of_ble_eq_true rfl, Nat.le_of_ble_eq_true rfl⟩) ?_
      refine lv_if_eq (tgt := 48) hx hb d_R_isBetween_41 (by decide) (fun c41 => ?_) (fun c41 => ?_)
      · refine lv_iconst (v := 0) hx hb d_R_isBetween_48 (by decide) ?_
        exact rt_i hQ hx hb hr hlk hs (rfl) (by simp only [bI_eq, bI_ne] at c8 c30 c41; simp [btwB, bI, c8, c30, c41]) d_R_isBetween_49
      · refine lv_iconst (v := 1) hx hb d_R_isBetween_44 (by decide) ?_
        refine lv_goto (tgt := 49) hx hb d_R_isBetween_45 (by decide) ?_
        exact rt_i hQ hx hb hr hlk hs (rfl) (by simp only [bI_eq, bI_ne] at c8 c30 c41; simp [btwB, bI, c8, c30, c41]) d_R_isBetween_49
  · refine lv_aload_n hx hb d_R_isBetween_11 rfl (lv_at hl 0 rfl) ?_
    refine rw_get hx hb hts in_R hown hK.1 hr0 rfl 2 (by decide) (hts _ fl_R_21) rfl d_R_isBetween_12 ?_
    refine lv_iload_n hx hb d_R_isBetween_15 rfl (lv_at hl 2 rfl) ?_
    refine cl_i (W.runS (As := [.int r.2.2.1, .int y]) (rest := []) S (c_R_fits r.2.2.1 y) (va_cwS 2 hts gs_R_31 rfl rfl rfl (by decide +kernel) ⟨Nat.le_of_ble_eq_true rfl, Nat.le_of_ble_eq_true rfl⟩) (cP_S (KG_ok _) hK) rfl rfl hl.1 rfl (lv_room (Nat.le_of_ble_eq_true rfl)) d_R_isBetween_16 ⟨Nat.le_of_ble_eq_true rfl, Nat.le_of_ble_eq_true rfl⟩) ?_
    refine lv_if_ne (tgt := 44) hx hb d_R_isBetween_19 (by decide) (fun c19 => ?_) (fun c19 => ?_)
    · refine lv_iconst (v := 1) hx hb d_R_isBetween_44 (by decide) ?_
      refine lv_goto (tgt := 49) hx hb d_R_isBetween_45 (by decide) ?_
      exact rt_i hQ hx hb hr hlk hs (rfl) (by simp only [bI_eq, bI_ne] at c8 c19; simp [btwB, bI, c8, c19]) d_R_isBetween_49
    · refine lv_aload_n hx hb d_R_isBetween_22 rfl (lv_at hl 0 rfl) ?_
      refine rw_get hx hb hts in_R hown hK.1 hr0 rfl 1 (by decide) (hts _ fl_R_18) rfl d_R_isBetween_23 ?_
      refine lv_iload_n hx hb d_R_isBetween_26 rfl (lv_at hl 2 rfl) ?_
      refine cl_i (W.runS (As := [.int r.2.1, .int y]) (rest := []) S (c_R_fits r.2.1 y) (va_cwS 2 hts gs_R_31 rfl rfl rfl (by decide +kernel) ⟨Nat.le_of_ble_eq_true rfl, Nat.le_of_ble_eq_true rfl⟩) (cP_S (KG_ok _) hK) rfl rfl hl.1 rfl (lv_room (Nat.le_of_ble_eq_true rfl)) d_R_isBetween_27 ⟨Nat.le_of_ble_eq_true rfl, Nat.le_of_ble_eq_true rfl⟩) ?_
      refine lv_if_eq (tgt := 48) hx hb d_R_isBetween_30 (by decide) (fun c30 => ?_) (fun c30 => ?_)
      · refine lv_iconst (v := 0) hx hb d_R_isBetween_48 (by decide) ?_
        exact rt_i hQ hx hb hr hlk hs (rfl) (by simp only [bI_eq, bI_ne] at c8 c19 c30; simp [btwB, bI, c8, c19, c30]) d_R_isBetween_49
      · refine lv_aload_n hx hb d_R_isBetween_33 rfl (lv_at hl 0 rfl) ?_
        refine rw_get hx hb hts in_R hown hK.1 hr0 rfl 2 (by decide) (hts _ fl_R_21) rfl d_R_isBetween_34 ?_
        refine lv_iload_n hx hb d_R_isBetween_37 rfl (lv_at hl 1 rfl) ?_
        refine cl_i (W.runS (As := [.int r.2.2.1, .int x]) (rest := []) S (c_R_fits r.2.2.1 x) (va_cwS 2 hts gs_R_31 rfl rfl rfl (by decide +kernel) ⟨Nat.le_of_ble_eq_true rfl, Nat.le_of_ble_eq_true rfl⟩) (cP_S (KG_ok _) hK) rfl rfl hl.1 rfl (lv_room (Nat.le_of_ble_eq_true rfl)) d_R_isBetween_38 ⟨Nat.le_of_ble_eq_true rfl, Nat.le_of_ble_eq_true rfl⟩) ?_
        refine lv_if_eq (tgt := 48) hx hb d_R_isBetween_41 (by decide) (fun c41 => ?_) (fun c41 => ?_)
        · refine lv_iconst (v := 0) hx hb d_R_isBetween_48 (by decide) ?_
          exact rt_i hQ hx hb hr hlk hs (rfl) (by simp only [bI_eq, bI_ne] at c8 c19 c30 c41; simp [btwB, bI, c8, c19, c30, c41]) d_R_isBetween_49
        · refine lv_iconst (v := 1) hx hb d_R_isBetween_44 (by decide) ?_
          refine lv_goto (tgt := 49) hx hb d_R_isBetween_45 (by decide) ?_
          exact rt_i hQ hx hb hr hlk hs (rfl) (by simp only [bI_eq, bI_ne] at c8 c19 c30 c41; simp [btwB, bI, c8, c19, c30, c41]) d_R_isBetween_49
def rm_R_isForLayer : Room := { frames := 1, cells := 0, slots := 0, locals := 21 }
set_option maxRecDepth 100000 in
set_option maxHeartbeats 4000000 in
theorem c_R_isForLayer {l : Launch} {ev : EV} {H0 : Heap} {a : Nat} {r : Ru} (hr0 : pt ev H0 a (oC 4 (ruV r))) (x : Int32) : Met l my_R_isForLayer mw_R_isForLayer rm_R_isForLayer (cP [.ref a, .int x] (KG ev) H0) (cQp (some (.int (bI (layB r x))))) 0 0 cNo := by
  refine cHead [.ref a, .int x] (by decide) rfl (Nat.le_of_ble_eq_true rfl) ?_
  intro p e s m below meth c ls args QQ hQ S hr hlk hnm hs hK hl
  have S : CallFix p m c mb_R_isForLayer 2 s args TB "RuleChoice$Rule" := S
  obtain ⟨hx, hb, hml, hown, hts⟩ := id S
  have hl : lv_has ls 2 [(0, .ref a), (1, .int x)] := hl
  refine lv_aload_n hx hb d_R_isForLayer_0 rfl (lv_at hl 0 rfl) ?_
  refine rw_get hx hb hts in_R hown hK.1 hr0 rfl 3 (by decide) (hts _ fl_R_24) rfl d_R_isForLayer_1 ?_
  refine lv_iload_n hx hb d_R_isForLayer_4 rfl (lv_at hl 1 rfl) ?_
  refine cl_i (W.runS (As := [.int r.2.2.2.1, .int x]) (rest := []) S (c_R_fits r.2.2.2.1 x) (va_cwS 2 hts gs_R_31 rfl rfl rfl (by decide +kernel) ⟨Nat.le_of_ble_eq_true rfl, Nat.le_of_ble_eq_true rfl⟩) (cP_S (KG_ok _) hK) rfl rfl hl.1 rfl (lv_room (Nat.le_of_ble_eq_true rfl)) d_R_isForLayer_5 ⟨Nat.le_of_ble_eq_true rfl, Nat.le_of_ble_eq_true rfl⟩) ?_
  exact rt_i hQ hx hb hr hlk hs (bI_n _) (rfl) d_R_isForLayer_8
def rm_A_holds : Room := { frames := 0, cells := 0, slots := 0, locals := 0 }
set_option maxRecDepth 100000 in
set_option maxHeartbeats 4000000 in
theorem c_A_holds {l : Launch} {ev : EV} {H0 : Heap} {a : Nat} {r : Aa} (hr0 : pt ev H0 a (oC 2 (aaV r))) (x y : Int64) : Met l my_A_holds mw_A_holds rm_A_holds (cP [.ref a, .long x, .long y] (KG ev) H0) (cQp (some (.int (bI (inB r x y))))) 0 0 cNo := by
  refine cHead [.ref a, .long x, .long y] (by decide) rfl (Nat.le_of_ble_eq_true rfl) ?_
  intro p e s m below meth c ls args QQ hQ S hr hlk hnm hs hK hl
  have S : CallFix p m c mb_A_holds 5 s args TB "RuleChoice$Area" := S
  obtain ⟨hx, hb, hml, hown, hts⟩ := id S
  have hl : lv_has ls 5 [(0, .ref a), (1, .long x), (3, .long y)] := hl
  refine lv_aload_n hx hb d_A_holds_0 rfl (lv_at hl 0 rfl) ?_
  refine rw_get hx hb hts in_A hown hK.1 hr0 rfl 0 (by decide) (hts _ fl_A_7) rfl d_A_holds_1 ?_
  refine lv_lload_n hx hb d_A_holds_4 rfl (lv_at hl 1 rfl) ?_
  refine ll_gt (tgt := 40) hx hb d_A_holds_5 d_A_holds_6 (by decide) (fun c6 => ?_) (fun c6 => ?_)
  · refine lv_iconst (v := 0) hx hb d_A_holds_40 (by decide) ?_
    exact rt_i hQ hx hb hr hlk hs (rfl) (by simp [inB, bI, c6]) d_A_holds_41
  · refine lv_lload_n hx hb d_A_holds_9 rfl (lv_at hl 1 rfl) ?_
    refine lv_aload_n hx hb d_A_holds_10 rfl (lv_at hl 0 rfl) ?_
    refine rw_get hx hb hts in_A hown hK.1 hr0 rfl 2 (by decide) (hts _ fl_A_16) rfl d_A_holds_11 ?_
    refine ll_gt (tgt := 40) hx hb d_A_holds_14 d_A_holds_15 (by decide) (fun c15 => ?_) (fun c15 => ?_)
    · refine lv_iconst (v := 0) hx hb d_A_holds_40 (by decide) ?_
      exact rt_i hQ hx hb hr hlk hs (rfl) (by simp [inB, bI, c6, c15]) d_A_holds_41
    · refine lv_aload_n hx hb d_A_holds_18 rfl (lv_at hl 0 rfl) ?_
      refine rw_get hx hb hts in_A hown hK.1 hr0 rfl 1 (by decide) (hts _ fl_A_13) rfl d_A_holds_19 ?_
      refine lv_lload_n hx hb d_A_holds_22 rfl (lv_at hl 2 rfl) ?_
      refine ll_gt (tgt := 40) hx hb d_A_holds_23 d_A_holds_24 (by decide) (fun c24 => ?_) (fun c24 => ?_)
      · refine lv_iconst (v := 0) hx hb d_A_holds_40 (by decide) ?_
        exact rt_i hQ hx hb hr hlk hs (rfl) (by simp [inB, bI, c6, c15, c24]) d_A_holds_41
      · refine lv_lload_n hx hb d_A_holds_27 rfl (lv_at hl 2 rfl) ?_
        refine lv_aload_n hx hb d_A_holds_28 rfl (lv_at hl 0 rfl) ?_
        refine rw_get hx hb hts in_A hown hK.1 hr0 rfl 3 (by decide) (hts _ fl_A_19) rfl d_A_holds_29 ?_
        refine ll_gt (tgt := 40) hx hb d_A_holds_32 d_A_holds_33 (by decide) (fun c33 => ?_) (fun c33 => ?_)
        · refine lv_iconst (v := 0) hx hb d_A_holds_40 (by decide) ?_
          exact rt_i hQ hx hb hr hlk hs (rfl) (by simp [inB, bI, c6, c15, c24, c33]) d_A_holds_41
        · refine lv_iconst (v := 1) hx hb d_A_holds_36 (by decide) ?_
          refine lv_goto (tgt := 41) hx hb d_A_holds_37 (by decide) ?_
          exact rt_i hQ hx hb hr hlk hs (rfl) (by simp [inB, bI, c6, c15, c24, c33]) d_A_holds_41
end
section
theorem hat_IX : ∀ w ∈ (vx_atS "RuleChoice" 237 cIX CH).filter goodWord, w ∈ TB := fun w h => tb_of ((by decide +kernel : ∀ w ∈ (vx_atS "RuleChoice" 237 cIX CH).filter goodWord, w ∈ lw_tbl) w h) (List.mem_filter.mp h).2
theorem hno_IX : ∀ w ∈ (vx_atS "RuleChoice" 237 cIX CH).filter (fun w => !goodWord w), w ∈ [Cond.declares (Bundle.initS "java/lang/RuntimeException"), Cond.declares (Bundle.initS "java/lang/Exception"), Cond.declares (Bundle.initS Bundle.tN), Cond.castable cIX cIX, Cond.castable cIA cIA] := by decide +kernel
theorem hgo_IX : ∀ w ∈ Cond.classLink "RuleChoice" 233 cIX :: Cond.initialized cIX :: vx_atS "RuleChoice" 237 cIX CH, vx_ot w = true := by decide +kernel
theorem hat_IA : ∀ w ∈ (vx_atS "RuleChoice" 258 cIA CH).filter goodWord, w ∈ TB := fun w h => tb_of ((by decide +kernel : ∀ w ∈ (vx_atS "RuleChoice" 258 cIA CH).filter goodWord, w ∈ lw_tbl) w h) (List.mem_filter.mp h).2
theorem hno_IA : ∀ w ∈ (vx_atS "RuleChoice" 258 cIA CH).filter (fun w => !goodWord w), w ∈ [Cond.declares (Bundle.initS "java/lang/RuntimeException"), Cond.declares (Bundle.initS "java/lang/Exception"), Cond.declares (Bundle.initS Bundle.tN), Cond.castable cIX cIX, Cond.castable cIA cIA] := by decide +kernel
theorem hgo_IA : ∀ w ∈ Cond.classLink "RuleChoice" 254 cIA :: Cond.initialized cIA :: vx_atS "RuleChoice" 258 cIA CH, vx_ot w = true := by decide +kernel
def rm_X_needKind : Room := { frames := 6, cells := 1, slots := 6, locals := 83 }
set_option maxRecDepth 100000 in
set_option maxHeartbeats 4000000 in
theorem c_X_needKind {l : Launch} {ev : EV} {H0 : Heap} {b : Nat} (hT : l.stackTraces = false) (hold : Old ev H0) (x : Int32) : vx_Met l my_X_needKind mw_X_needKind rm_X_needKind (cP [.ref b, .int x] (KG ev) H0) (cQo (okK x)) (cX (fun E H1 => ¬ (okK x) ∧ E = cIX ∧ Ext H0 H1)) 1 6 cNo := by
  refine cHeadX [.ref b, .int x] (by decide) rfl (Nat.le_of_ble_eq_true rfl) ?_
  intro p e s m below meth c ls args QQ hQ htab S hr hlk hnm hs hK hl
  have S : CallFix p m c mb_X_needKind 2 s args TB "RuleChoice" := S
  obtain ⟨hx, hb, hml, hown, hts⟩ := id S
  have hl : lv_has ls 2 [(0, .ref b), (1, .int x)] := hl
  refine lv_iload_n hx hb d_X_needKind_0 rfl (lv_at hl 1 rfl) ?_
  refine lv_if_lt (tgt := 10) hx hb d_X_needKind_1 (by decide) (fun c1 => ?_) (fun c1 => ?_)
  · exact rx_throw (cls := cIX) (text := "no such kind") (ik := 233) (is := 235) (ic := 237) hQ hx hb hT hown hK hs hold (hl.1.trans hml.symm) hts htab hlk (by decide) cl_X_233 iz_IndexOutOfBoundsException (by decide) hat_IX hno_IX hgo_IX d_X_needKind_10 d_X_needKind_13 d_X_needKind_14 d_X_needKind_16 d_X_needKind_19 (Nat.le_of_ble_eq_true rfl) (Nat.le_of_ble_eq_true rfl) (Nat.le_of_ble_eq_true rfl) (Nat.le_of_ble_eq_true rfl) (Nat.le_of_ble_eq_true rfl) (Nat.le_of_ble_eq_true rfl) (fun H1 he => ⟨by simp [okK, c1, Int32.not_le.mpr c1], rfl, he⟩)
  · refine lv_iload_n hx hb d_X_needKind_4 rfl (lv_at hl 1 rfl) ?_
    refine lv_bipush (v := 6) hx hb d_X_needKind_5 (by decide) ?_
    refine lv_icmp_lt (tgt := 20) hx hb d_X_needKind_7 (by decide) (fun c7 => ?_) (fun c7 => ?_)
    · exact rx_v hQ (by simp [okK, c1, Int32.not_lt.mp c1, c7, Int32.not_le.mpr c7]) hx hb hr hlk hs d_X_needKind_20
    · exact rx_throw (cls := cIX) (text := "no such kind") (ik := 233) (is := 235) (ic := 237) hQ hx hb hT hown hK hs hold (hl.1.trans hml.symm) hts htab hlk (by decide) cl_X_233 iz_IndexOutOfBoundsException (by decide) hat_IX hno_IX hgo_IX d_X_needKind_10 d_X_needKind_13 d_X_needKind_14 d_X_needKind_16 d_X_needKind_19 (Nat.le_of_ble_eq_true rfl) (Nat.le_of_ble_eq_true rfl) (Nat.le_of_ble_eq_true rfl) (Nat.le_of_ble_eq_true rfl) (Nat.le_of_ble_eq_true rfl) (Nat.le_of_ble_eq_true rfl) (fun H1 he => ⟨by simp [okK, c1, Int32.not_lt.mp c1, c7, Int32.not_lt.mp c7], rfl, he⟩)
def rm_X_needLayer : Room := { frames := 6, cells := 1, slots := 6, locals := 83 }
set_option maxRecDepth 100000 in
set_option maxHeartbeats 4000000 in
theorem c_X_needLayer {l : Launch} {ev : EV} {H0 : Heap} {b : Nat} (hT : l.stackTraces = false) (hold : Old ev H0) (x : Int32) : vx_Met l my_X_needLayer mw_X_needLayer rm_X_needLayer (cP [.ref b, .int x] (KG ev) H0) (cQo (okL x)) (cX (fun E H1 => ¬ (okL x) ∧ E = cIX ∧ Ext H0 H1)) 1 6 cNo := by
  refine cHeadX [.ref b, .int x] (by decide) rfl (Nat.le_of_ble_eq_true rfl) ?_
  intro p e s m below meth c ls args QQ hQ htab S hr hlk hnm hs hK hl
  have S : CallFix p m c mb_X_needLayer 2 s args TB "RuleChoice" := S
  obtain ⟨hx, hb, hml, hown, hts⟩ := id S
  have hl : lv_has ls 2 [(0, .ref b), (1, .int x)] := hl
  refine lv_iload_n hx hb d_X_needLayer_0 rfl (lv_at hl 1 rfl) ?_
  refine lv_if_lt (tgt := 10) hx hb d_X_needLayer_1 (by decide) (fun c1 => ?_) (fun c1 => ?_)
  · exact rx_throw (cls := cIX) (text := "no such layer") (ik := 233) (is := 242) (ic := 237) hQ hx hb hT hown hK hs hold (hl.1.trans hml.symm) hts htab hlk (by decide) cl_X_233 iz_IndexOutOfBoundsException (by decide) hat_IX hno_IX hgo_IX d_X_needLayer_10 d_X_needLayer_13 d_X_needLayer_14 d_X_needLayer_16 d_X_needLayer_19 (Nat.le_of_ble_eq_true rfl) (Nat.le_of_ble_eq_true rfl) (Nat.le_of_ble_eq_true rfl) (Nat.le_of_ble_eq_true rfl) (Nat.le_of_ble_eq_true rfl) (Nat.le_of_ble_eq_true rfl) (fun H1 he => ⟨by simp [okL, c1, Int32.not_le.mpr c1], rfl, he⟩)
  · refine lv_iload_n hx hb d_X_needLayer_4 rfl (lv_at hl 1 rfl) ?_
    refine lv_bipush (v := 8) hx hb d_X_needLayer_5 (by decide) ?_
    refine lv_icmp_lt (tgt := 20) hx hb d_X_needLayer_7 (by decide) (fun c7 => ?_) (fun c7 => ?_)
    · exact rx_v hQ (by simp [okL, c1, Int32.not_lt.mp c1, c7, Int32.not_le.mpr c7]) hx hb hr hlk hs d_X_needLayer_20
    · exact rx_throw (cls := cIX) (text := "no such layer") (ik := 233) (is := 242) (ic := 237) hQ hx hb hT hown hK hs hold (hl.1.trans hml.symm) hts htab hlk (by decide) cl_X_233 iz_IndexOutOfBoundsException (by decide) hat_IX hno_IX hgo_IX d_X_needLayer_10 d_X_needLayer_13 d_X_needLayer_14 d_X_needLayer_16 d_X_needLayer_19 (Nat.le_of_ble_eq_true rfl) (Nat.le_of_ble_eq_true rfl) (Nat.le_of_ble_eq_true rfl) (Nat.le_of_ble_eq_true rfl) (Nat.le_of_ble_eq_true rfl) (Nat.le_of_ble_eq_true rfl) (fun H1 he => ⟨by simp [okL, c1, Int32.not_lt.mp c1, c7, Int32.not_lt.mp c7], rfl, he⟩)
def rm_X_needSide : Room := { frames := 6, cells := 1, slots := 6, locals := 83 }
set_option maxRecDepth 100000 in
set_option maxHeartbeats 4000000 in
theorem c_X_needSide {l : Launch} {ev : EV} {H0 : Heap} {b : Nat} (hT : l.stackTraces = false) (hold : Old ev H0) (x : Int32) : vx_Met l my_X_needSide mw_X_needSide rm_X_needSide (cP [.ref b, .int x] (KG ev) H0) (cQo (okS x)) (cX (fun E H1 => ¬ (okS x) ∧ E = cIX ∧ Ext H0 H1)) 1 6 cNo := by
  refine cHeadX [.ref b, .int x] (by decide) rfl (Nat.le_of_ble_eq_true rfl) ?_
  intro p e s m below meth c ls args QQ hQ htab S hr hlk hnm hs hK hl
  have S : CallFix p m c mb_X_needSide 2 s args TB "RuleChoice" := S
  obtain ⟨hx, hb, hml, hown, hts⟩ := id S
  have hl : lv_has ls 2 [(0, .ref b), (1, .int x)] := hl
  refine lv_iload_n hx hb d_X_needSide_0 rfl (lv_at hl 1 rfl) ?_
  refine lv_if_eq (tgt := 19) hx hb d_X_needSide_1 (by decide) (fun c1 => ?_) (fun c1 => ?_)
  · exact rx_v hQ (by simp [okS, c1]) hx hb hr hlk hs d_X_needSide_19
  · refine lv_iload_n hx hb d_X_needSide_4 rfl (lv_at hl 1 rfl) ?_
    refine lv_iconst (v := 1) hx hb d_X_needSide_5 (by decide) ?_
    refine lv_icmp_eq (tgt := 19) hx hb d_X_needSide_6 (by decide) (fun c6 => ?_) (fun c6 => ?_)
    · exact rx_v hQ (by simp [okS, c1, c6]) hx hb hr hlk hs d_X_needSide_19
    · exact rx_throw (cls := cIX) (text := "which is 0 or 1") (ik := 233) (is := 250) (ic := 237) hQ hx hb hT hown hK hs hold (hl.1.trans hml.symm) hts htab hlk (by decide) cl_X_233 iz_IndexOutOfBoundsException (by decide) hat_IX hno_IX hgo_IX d_X_needSide_9 d_X_needSide_12 d_X_needSide_13 d_X_needSide_15 d_X_needSide_18 (Nat.le_of_ble_eq_true rfl) (Nat.le_of_ble_eq_true rfl) (Nat.le_of_ble_eq_true rfl) (Nat.le_of_ble_eq_true rfl) (Nat.le_of_ble_eq_true rfl) (Nat.le_of_ble_eq_true rfl) (fun H1 he => ⟨by simp [okS, c1, c6], rfl, he⟩)
def rm_X_needRank : Room := { frames := 6, cells := 1, slots := 6, locals := 83 }
set_option maxRecDepth 100000 in
set_option maxHeartbeats 4000000 in
theorem c_X_needRank {l : Launch} {ev : EV} {H0 : Heap} {b : Nat} (hT : l.stackTraces = false) (hold : Old ev H0) (x : Int32) : vx_Met l my_X_needRank mw_X_needRank rm_X_needRank (cP [.ref b, .int x] (KG ev) H0) (cQo (okR x)) (cX (fun E H1 => ¬ (okR x) ∧ E = cIA ∧ Ext H0 H1)) 1 6 cNo := by
  refine cHeadX [.ref b, .int x] (by decide) rfl (Nat.le_of_ble_eq_true rfl) ?_
  intro p e s m below meth c ls args QQ hQ htab S hr hlk hnm hs hK hl
  have S : CallFix p m c mb_X_needRank 2 s args TB "RuleChoice" := S
  obtain ⟨hx, hb, hml, hown, hts⟩ := id S
  have hl : lv_has ls 2 [(0, .ref b), (1, .int x)] := hl
  refine lv_iload_n hx hb d_X_needRank_0 rfl (lv_at hl 1 rfl) ?_
  refine lv_sipush (v := (-1000)) hx hb d_X_needRank_1 (by decide) ?_
  refine lv_icmp_lt (tgt := 14) hx hb d_X_needRank_4 (by decide) (fun c4 => ?_) (fun c4 => ?_)
  · exact rx_throwW (cls := cIA) (text := "no rank") (ik := 254) (is := 259) (ic := 258) hQ hx hb hT hown hK hs hold (hl.1.trans hml.symm) hts htab hlk (by decide) cl_X_254 iz_IllegalArgumentException (by decide) hat_IA hno_IA hgo_IA d_X_needRank_14 d_X_needRank_17 d_X_needRank_18 d_X_needRank_21 d_X_needRank_24 (Nat.le_of_ble_eq_true rfl) (Nat.le_of_ble_eq_true rfl) (Nat.le_of_ble_eq_true rfl) (Nat.le_of_ble_eq_true rfl) (Nat.le_of_ble_eq_true rfl) (Nat.le_of_ble_eq_true rfl) (fun H1 he => ⟨by simp [okR, c4, Int32.not_le.mpr c4], rfl, he⟩)
  · refine lv_iload_n hx hb d_X_needRank_7 rfl (lv_at hl 1 rfl) ?_
    refine lv_sipush (v := 1000) hx hb d_X_needRank_8 (by decide) ?_
    refine lv_icmp_le (tgt := 25) hx hb d_X_needRank_11 (by decide) (fun c11 => ?_) (fun c11 => ?_)
    · exact rx_v hQ (by simp [okR, c4, Int32.not_lt.mp c4, c11, Int32.not_lt.mpr c11]) hx hb hr hlk hs d_X_needRank_25
    · exact rx_throwW (cls := cIA) (text := "no rank") (ik := 254) (is := 259) (ic := 258) hQ hx hb hT hown hK hs hold (hl.1.trans hml.symm) hts htab hlk (by decide) cl_X_254 iz_IllegalArgumentException (by decide) hat_IA hno_IA hgo_IA d_X_needRank_14 d_X_needRank_17 d_X_needRank_18 d_X_needRank_21 d_X_needRank_24 (Nat.le_of_ble_eq_true rfl) (Nat.le_of_ble_eq_true rfl) (Nat.le_of_ble_eq_true rfl) (Nat.le_of_ble_eq_true rfl) (Nat.le_of_ble_eq_true rfl) (Nat.le_of_ble_eq_true rfl) (fun H1 he => ⟨by simp [okR, c4, Int32.not_lt.mp c4, c11, Int32.not_le.mp c11], rfl, he⟩)
def rm_X_needClass : Room := { frames := 6, cells := 1, slots := 6, locals := 83 }
set_option maxRecDepth 100000 in
set_option maxHeartbeats 4000000 in
theorem c_X_needClass {l : Launch} {ev : EV} {H0 : Heap} {b : Nat} {u : XS} (hT : l.stackTraces = false) (hold : Old ev H0) (hw : XW ev b u H0) (x : Int32) : vx_Met l my_X_needClass mw_X_needClass rm_X_needClass (cP [.ref b, .int x] (KG ev) H0) (cQo (okC u.1.1 x)) (cX (fun E H1 => ¬ (okC u.1.1 x) ∧ E = cIX ∧ Ext H0 H1)) 1 6 cNo := by
  refine cHeadX [.ref b, .int x] (by decide) rfl (Nat.le_of_ble_eq_true rfl) ?_
  intro p e s m below meth c ls args QQ hQ htab S hr hlk hnm hs hK hl
  have S : CallFix p m c mb_X_needClass 2 s args TB "RuleChoice" := S
  obtain ⟨hx, hb, hml, hown, hts⟩ := id S
  have hl : lv_has ls 2 [(0, .ref b), (1, .int x)] := hl
  refine lv_iload_n hx hb d_X_needClass_0 rfl (lv_at hl 1 rfl) ?_
  refine lv_if_lt (tgt := 12) hx hb d_X_needClass_1 (by decide) (fun c1 => ?_) (fun c1 => ?_)
  · exact rx_throw (cls := cIX) (text := "no such class") (ik := 233) (is := 240) (ic := 237) hQ hx hb hT hown hK hs hold (hl.1.trans hml.symm) hts htab hlk (by decide) cl_X_233 iz_IndexOutOfBoundsException (by decide) hat_IX hno_IX hgo_IX d_X_needClass_12 d_X_needClass_15 d_X_needClass_16 d_X_needClass_18 d_X_needClass_21 (Nat.le_of_ble_eq_true rfl) (Nat.le_of_ble_eq_true rfl) (Nat.le_of_ble_eq_true rfl) (Nat.le_of_ble_eq_true rfl) (Nat.le_of_ble_eq_true rfl) (Nat.le_of_ble_eq_true rfl) (fun H1 he => ⟨by simp [okC, c1, Int32.not_le.mpr c1], rfl, he⟩)
  · refine lv_iload_n hx hb d_X_needClass_4 rfl (lv_at hl 1 rfl) ?_
    refine lv_aload_n hx hb d_X_needClass_5 rfl (lv_at hl 0 rfl) ?_
    refine rw_get hx hb hts in_X hown hK.1 hw.1 rfl 0 (by decide) (hts _ fl_X_18) rfl d_X_needClass_6 ?_
    refine lv_icmp_lt (tgt := 22) hx hb d_X_needClass_9 (by decide) (fun c9 => ?_) (fun c9 => ?_)
    · exact rx_v hQ (by simp [okC, c1, Int32.not_lt.mp c1, c9, Int32.not_le.mpr c9]) hx hb hr hlk hs d_X_needClass_22
    · exact rx_throw (cls := cIX) (text := "no such class") (ik := 233) (is := 240) (ic := 237) hQ hx hb hT hown hK hs hold (hl.1.trans hml.symm) hts htab hlk (by decide) cl_X_233 iz_IndexOutOfBoundsException (by decide) hat_IX hno_IX hgo_IX d_X_needClass_12 d_X_needClass_15 d_X_needClass_16 d_X_needClass_18 d_X_needClass_21 (Nat.le_of_ble_eq_true rfl) (Nat.le_of_ble_eq_true rfl) (Nat.le_of_ble_eq_true rfl) (Nat.le_of_ble_eq_true rfl) (Nat.le_of_ble_eq_true rfl) (Nat.le_of_ble_eq_true rfl) (fun H1 he => ⟨by simp [okC, c1, Int32.not_lt.mp c1, c9, Int32.not_lt.mp c9], rfl, he⟩)
def rm_X_needRule : Room := { frames := 6, cells := 1, slots := 6, locals := 83 }
set_option maxRecDepth 100000 in
set_option maxHeartbeats 4000000 in
theorem c_X_needRule {l : Launch} {ev : EV} {H0 : Heap} {b : Nat} {u : XS} (hT : l.stackTraces = false) (hold : Old ev H0) (hw : XW ev b u H0) (x : Int32) : vx_Met l my_X_needRule mw_X_needRule rm_X_needRule (cP [.ref b, .int x] (KG ev) H0) (cQo (okI u.1.2.1 x)) (cX (fun E H1 => ¬ (okI u.1.2.1 x) ∧ E = cIX ∧ Ext H0 H1)) 1 6 cNo := by
  refine cHeadX [.ref b, .int x] (by decide) rfl (Nat.le_of_ble_eq_true rfl) ?_
  intro p e s m below meth c ls args QQ hQ htab S hr hlk hnm hs hK hl
  have S : CallFix p m c mb_X_needRule 2 s args TB "RuleChoice" := S
  obtain ⟨hx, hb, hml, hown, hts⟩ := id S
  have hl : lv_has ls 2 [(0, .ref b), (1, .int x)] := hl
  refine lv_iload_n hx hb d_X_needRule_0 rfl (lv_at hl 1 rfl) ?_
  refine lv_if_lt (tgt := 12) hx hb d_X_needRule_1 (by decide) (fun c1 => ?_) (fun c1 => ?_)
  · exact rx_throw (cls := cIX) (text := "no such rule") (ik := 233) (is := 244) (ic := 237) hQ hx hb hT hown hK hs hold (hl.1.trans hml.symm) hts htab hlk (by decide) cl_X_233 iz_IndexOutOfBoundsException (by decide) hat_IX hno_IX hgo_IX d_X_needRule_12 d_X_needRule_15 d_X_needRule_16 d_X_needRule_18 d_X_needRule_21 (Nat.le_of_ble_eq_true rfl) (Nat.le_of_ble_eq_true rfl) (Nat.le_of_ble_eq_true rfl) (Nat.le_of_ble_eq_true rfl) (Nat.le_of_ble_eq_true rfl) (Nat.le_of_ble_eq_true rfl) (fun H1 he => ⟨by simp [okI, c1, Int32.not_le.mpr c1], rfl, he⟩)
  · refine lv_iload_n hx hb d_X_needRule_4 rfl (lv_at hl 1 rfl) ?_
    refine lv_aload_n hx hb d_X_needRule_5 rfl (lv_at hl 0 rfl) ?_
    refine rw_get hx hb hts in_X hown hK.1 hw.1 rfl 6 (by decide) (hts _ fl_X_71) rfl d_X_needRule_6 ?_
    refine lv_icmp_lt (tgt := 22) hx hb d_X_needRule_9 (by decide) (fun c9 => ?_) (fun c9 => ?_)
    · exact rx_v hQ (by simp [okI, c1, Int32.not_lt.mp c1, c9, Int32.not_le.mpr c9]) hx hb hr hlk hs d_X_needRule_22
    · exact rx_throw (cls := cIX) (text := "no such rule") (ik := 233) (is := 244) (ic := 237) hQ hx hb hT hown hK hs hold (hl.1.trans hml.symm) hts htab hlk (by decide) cl_X_233 iz_IndexOutOfBoundsException (by decide) hat_IX hno_IX hgo_IX d_X_needRule_12 d_X_needRule_15 d_X_needRule_16 d_X_needRule_18 d_X_needRule_21 (Nat.le_of_ble_eq_true rfl) (Nat.le_of_ble_eq_true rfl) (Nat.le_of_ble_eq_true rfl) (Nat.le_of_ble_eq_true rfl) (Nat.le_of_ble_eq_true rfl) (Nat.le_of_ble_eq_true rfl) (fun H1 he => ⟨by simp [okI, c1, Int32.not_lt.mp c1, c9, Int32.not_lt.mp c9], rfl, he⟩)
def rm_X_needThing : Room := { frames := 6, cells := 1, slots := 6, locals := 83 }
set_option maxRecDepth 100000 in
set_option maxHeartbeats 4000000 in
theorem c_X_needThing {l : Launch} {ev : EV} {H0 : Heap} {b : Nat} {u : XS} (hT : l.stackTraces = false) (hold : Old ev H0) (hw : XW ev b u H0) (x : Int32) : vx_Met l my_X_needThing mw_X_needThing rm_X_needThing (cP [.ref b, .int x] (KG ev) H0) (cQo (okI u.1.2.2.2.1 x)) (cX (fun E H1 => ¬ (okI u.1.2.2.2.1 x) ∧ E = cIX ∧ Ext H0 H1)) 1 6 cNo := by
  refine cHeadX [.ref b, .int x] (by decide) rfl (Nat.le_of_ble_eq_true rfl) ?_
  intro p e s m below meth c ls args QQ hQ htab S hr hlk hnm hs hK hl
  have S : CallFix p m c mb_X_needThing 2 s args TB "RuleChoice" := S
  obtain ⟨hx, hb, hml, hown, hts⟩ := id S
  have hl : lv_has ls 2 [(0, .ref b), (1, .int x)] := hl
  refine lv_iload_n hx hb d_X_needThing_0 rfl (lv_at hl 1 rfl) ?_
  refine lv_if_lt (tgt := 12) hx hb d_X_needThing_1 (by decide) (fun c1 => ?_) (fun c1 => ?_)
  · exact rx_throw (cls := cIX) (text := "no such thing") (ik := 233) (is := 248) (ic := 237) hQ hx hb hT hown hK hs hold (hl.1.trans hml.symm) hts htab hlk (by decide) cl_X_233 iz_IndexOutOfBoundsException (by decide) hat_IX hno_IX hgo_IX d_X_needThing_12 d_X_needThing_15 d_X_needThing_16 d_X_needThing_18 d_X_needThing_21 (Nat.le_of_ble_eq_true rfl) (Nat.le_of_ble_eq_true rfl) (Nat.le_of_ble_eq_true rfl) (Nat.le_of_ble_eq_true rfl) (Nat.le_of_ble_eq_true rfl) (Nat.le_of_ble_eq_true rfl) (fun H1 he => ⟨by simp [okI, c1, Int32.not_le.mpr c1], rfl, he⟩)
  · refine lv_iload_n hx hb d_X_needThing_4 rfl (lv_at hl 1 rfl) ?_
    refine lv_aload_n hx hb d_X_needThing_5 rfl (lv_at hl 0 rfl) ?_
    refine rw_get hx hb hts in_X hown hK.1 hw.1 rfl 8 (by decide) (hts _ fl_X_119) rfl d_X_needThing_6 ?_
    refine lv_icmp_lt (tgt := 22) hx hb d_X_needThing_9 (by decide) (fun c9 => ?_) (fun c9 => ?_)
    · exact rx_v hQ (by simp [okI, c1, Int32.not_lt.mp c1, c9, Int32.not_le.mpr c9]) hx hb hr hlk hs d_X_needThing_22
    · exact rx_throw (cls := cIX) (text := "no such thing") (ik := 233) (is := 248) (ic := 237) hQ hx hb hT hown hK hs hold (hl.1.trans hml.symm) hts htab hlk (by decide) cl_X_233 iz_IndexOutOfBoundsException (by decide) hat_IX hno_IX hgo_IX d_X_needThing_12 d_X_needThing_15 d_X_needThing_16 d_X_needThing_18 d_X_needThing_21 (Nat.le_of_ble_eq_true rfl) (Nat.le_of_ble_eq_true rfl) (Nat.le_of_ble_eq_true rfl) (Nat.le_of_ble_eq_true rfl) (Nat.le_of_ble_eq_true rfl) (Nat.le_of_ble_eq_true rfl) (fun H1 he => ⟨by simp [okI, c1, Int32.not_lt.mp c1, c9, Int32.not_lt.mp c9], rfl, he⟩)
def rm_X_needAreaOrNone : Room := { frames := 6, cells := 1, slots := 6, locals := 83 }
set_option maxRecDepth 100000 in
set_option maxHeartbeats 4000000 in
theorem c_X_needAreaOrNone {l : Launch} {ev : EV} {H0 : Heap} {b : Nat} {u : XS} (hT : l.stackTraces = false) (hold : Old ev H0) (hw : XW ev b u H0) (x : Int32) : vx_Met l my_X_needAreaOrNone mw_X_needAreaOrNone rm_X_needAreaOrNone (cP [.ref b, .int x] (KG ev) H0) (cQo (okIN u.1.2.2.1 x)) (cX (fun E H1 => ¬ (okIN u.1.2.2.1 x) ∧ E = cIX ∧ Ext H0 H1)) 1 6 cNo := by
  refine cHeadX [.ref b, .int x] (by decide) rfl (Nat.le_of_ble_eq_true rfl) ?_
  intro p e s m below meth c ls args QQ hQ htab S hr hlk hnm hs hK hl
  have S : CallFix p m c mb_X_needAreaOrNone 2 s args TB "RuleChoice" := S
  obtain ⟨hx, hb, hml, hown, hts⟩ := id S
  have hl : lv_has ls 2 [(0, .ref b), (1, .int x)] := hl
  refine lv_iload_n hx hb d_X_needAreaOrNone_0 rfl (lv_at hl 1 rfl) ?_
  refine lv_iconst (v := (-1)) hx hb d_X_needAreaOrNone_1 (by decide) ?_
  refine lv_icmp_eq (tgt := 27) hx hb d_X_needAreaOrNone_2 (by decide) (fun c2 => ?_) (fun c2 => ?_)
  · exact rx_v hQ (by simp [okIN, okI, c2]) hx hb hr hlk hs d_X_needAreaOrNone_27
  · refine lv_iload_n hx hb d_X_needAreaOrNone_5 rfl (lv_at hl 1 rfl) ?_
    refine lv_if_lt (tgt := 17) hx hb d_X_needAreaOrNone_6 (by decide) (fun c6 => ?_) (fun c6 => ?_)
    · exact rx_throw (cls := cIX) (text := "no such area") (ik := 233) (is := 246) (ic := 237) hQ hx hb hT hown hK hs hold (hl.1.trans hml.symm) hts htab hlk (by decide) cl_X_233 iz_IndexOutOfBoundsException (by decide) hat_IX hno_IX hgo_IX d_X_needAreaOrNone_17 d_X_needAreaOrNone_20 d_X_needAreaOrNone_21 d_X_needAreaOrNone_23 d_X_needAreaOrNone_26 (Nat.le_of_ble_eq_true rfl) (Nat.le_of_ble_eq_true rfl) (Nat.le_of_ble_eq_true rfl) (Nat.le_of_ble_eq_true rfl) (Nat.le_of_ble_eq_true rfl) (Nat.le_of_ble_eq_true rfl) (fun H1 he => ⟨by simp [okIN, okI, c2, c6, Int32.not_le.mpr c6], rfl, he⟩)
    · refine lv_iload_n hx hb d_X_needAreaOrNone_9 rfl (lv_at hl 1 rfl) ?_
      refine lv_aload_n hx hb d_X_needAreaOrNone_10 rfl (lv_at hl 0 rfl) ?_
      refine rw_get hx hb hts in_X hown hK.1 hw.1 rfl 7 (by decide) (hts _ fl_X_101) rfl d_X_needAreaOrNone_11 ?_
      refine lv_icmp_lt (tgt := 27) hx hb d_X_needAreaOrNone_14 (by decide) (fun c14 => ?_) (fun c14 => ?_)
      · exact rx_v hQ (by simp [okIN, okI, c2, c6, Int32.not_lt.mp c6, c14, Int32.not_le.mpr c14]) hx hb hr hlk hs d_X_needAreaOrNone_27
      · exact rx_throw (cls := cIX) (text := "no such area") (ik := 233) (is := 246) (ic := 237) hQ hx hb hT hown hK hs hold (hl.1.trans hml.symm) hts htab hlk (by decide) cl_X_233 iz_IndexOutOfBoundsException (by decide) hat_IX hno_IX hgo_IX d_X_needAreaOrNone_17 d_X_needAreaOrNone_20 d_X_needAreaOrNone_21 d_X_needAreaOrNone_23 d_X_needAreaOrNone_26 (Nat.le_of_ble_eq_true rfl) (Nat.le_of_ble_eq_true rfl) (Nat.le_of_ble_eq_true rfl) (Nat.le_of_ble_eq_true rfl) (Nat.le_of_ble_eq_true rfl) (Nat.le_of_ble_eq_true rfl) (fun H1 he => ⟨by simp [okIN, okI, c2, c6, Int32.not_lt.mp c6, c14, Int32.not_lt.mp c14], rfl, he⟩)
def rm_X_needValue : Room := { frames := 6, cells := 1, slots := 6, locals := 83 }
set_option maxRecDepth 100000 in
set_option maxHeartbeats 4000000 in
theorem c_X_needValue {l : Launch} {ev : EV} {H0 : Heap} {b : Nat} (hT : l.stackTraces = false) (hold : Old ev H0) (x : Int64) : vx_Met l my_X_needValue mw_X_needValue rm_X_needValue (cP [.ref b, .long x] (KG ev) H0) (cQo (okV x)) (cX (fun E H1 => ¬ (okV x) ∧ E = cIA ∧ Ext H0 H1)) 1 6 cNo := by
  refine cHeadX [.ref b, .long x] (by decide) rfl (Nat.le_of_ble_eq_true rfl) ?_
  intro p e s m below meth c ls args QQ hQ htab S hr hlk hnm hs hK hl
  have S : CallFix p m c mb_X_needValue 3 s args TB "RuleChoice" := S
  obtain ⟨hx, hb, hml, hown, hts⟩ := id S
  have hl : lv_has ls 3 [(0, .ref b), (1, .long x)] := hl
  refine lv_lload_n hx hb d_X_needValue_0 rfl (lv_at hl 1 rfl) ?_
  refine lv_lconst (v := 0) hx hb d_X_needValue_1 (by decide) ?_
  refine ll_lt (tgt := 14) hx hb d_X_needValue_2 d_X_needValue_3 (by decide) (fun c3 => ?_) (fun c3 => ?_)
  · exact rx_throwW (cls := cIA) (text := "no value") (ik := 254) (is := 256) (ic := 258) hQ hx hb hT hown hK hs hold (hl.1.trans hml.symm) hts htab hlk (by decide) cl_X_254 iz_IllegalArgumentException (by decide) hat_IA hno_IA hgo_IA d_X_needValue_14 d_X_needValue_17 d_X_needValue_18 d_X_needValue_21 d_X_needValue_24 (Nat.le_of_ble_eq_true rfl) (Nat.le_of_ble_eq_true rfl) (Nat.le_of_ble_eq_true rfl) (Nat.le_of_ble_eq_true rfl) (Nat.le_of_ble_eq_true rfl) (Nat.le_of_ble_eq_true rfl) (fun H1 he => ⟨by simp [okV, c3, Int64.not_le.mpr c3], rfl, he⟩)
  · refine lv_lload_n hx hb d_X_needValue_6 rfl (lv_at hl 1 rfl) ?_
    refine lv_ldc2 (v := 1000000) hx hb hown (hts _ kl_X_252) d_X_needValue_7 ?_
    refine ll_le (tgt := 25) hx hb d_X_needValue_10 d_X_needValue_11 (by decide) (fun c11 => ?_) (fun c11 => ?_)
    · exact rx_v hQ (by simp [okV, c3, Int64.not_lt.mp c3, c11, Int64.not_lt.mpr c11]) hx hb hr hlk hs d_X_needValue_25
    · exact rx_throwW (cls := cIA) (text := "no value") (ik := 254) (is := 256) (ic := 258) hQ hx hb hT hown hK hs hold (hl.1.trans hml.symm) hts htab hlk (by decide) cl_X_254 iz_IllegalArgumentException (by decide) hat_IA hno_IA hgo_IA d_X_needValue_14 d_X_needValue_17 d_X_needValue_18 d_X_needValue_21 d_X_needValue_24 (Nat.le_of_ble_eq_true rfl) (Nat.le_of_ble_eq_true rfl) (Nat.le_of_ble_eq_true rfl) (Nat.le_of_ble_eq_true rfl) (Nat.le_of_ble_eq_true rfl) (Nat.le_of_ble_eq_true rfl) (fun H1 he => ⟨by simp [okV, c3, Int64.not_lt.mp c3, c11, Int64.not_le.mp c11], rfl, he⟩)
def rm_X_needPlace : Room := { frames := 6, cells := 1, slots := 6, locals := 83 }
set_option maxRecDepth 100000 in
set_option maxHeartbeats 4000000 in
theorem c_X_needPlace {l : Launch} {ev : EV} {H0 : Heap} {b : Nat} (hT : l.stackTraces = false) (hold : Old ev H0) (x y : Int64) : vx_Met l my_X_needPlace mw_X_needPlace rm_X_needPlace (cP [.ref b, .long x, .long y] (KG ev) H0) (cQo (okP x y)) (cX (fun E H1 => ¬ (okP x y) ∧ E = cIA ∧ Ext H0 H1)) 1 6 cNo := by
  refine cHeadX [.ref b, .long x, .long y] (by decide) rfl (Nat.le_of_ble_eq_true rfl) ?_
  intro p e s m below meth c ls args QQ hQ htab S hr hlk hnm hs hK hl
  have S : CallFix p m c mb_X_needPlace 5 s args TB "RuleChoice" := S
  obtain ⟨hx, hb, hml, hown, hts⟩ := id S
  have hl : lv_has ls 5 [(0, .ref b), (1, .long x), (3, .long y)] := hl
  refine lv_lload_n hx hb d_X_needPlace_0 rfl (lv_at hl 1 rfl) ?_
  refine lv_ldc2 (v := (-1000000)) hx hb hown (hts _ kl_X_261) d_X_needPlace_1 ?_
  refine ll_lt (tgt := 32) hx hb d_X_needPlace_4 d_X_needPlace_5 (by decide) (fun c5 => ?_) (fun c5 => ?_)
  · exact rx_throwW (cls := cIA) (text := "no place") (ik := 254) (is := 263) (ic := 258) hQ hx hb hT hown hK hs hold (hl.1.trans hml.symm) hts htab hlk (by decide) cl_X_254 iz_IllegalArgumentException (by decide) hat_IA hno_IA hgo_IA d_X_needPlace_32 d_X_needPlace_35 d_X_needPlace_36 d_X_needPlace_39 d_X_needPlace_42 (Nat.le_of_ble_eq_true rfl) (Nat.le_of_ble_eq_true rfl) (Nat.le_of_ble_eq_true rfl) (Nat.le_of_ble_eq_true rfl) (Nat.le_of_ble_eq_true rfl) (Nat.le_of_ble_eq_true rfl) (fun H1 he => ⟨by simp [okP, c5, Int64.not_le.mpr c5], rfl, he⟩)
  · refine lv_lload_n hx hb d_X_needPlace_8 rfl (lv_at hl 1 rfl) ?_
    refine lv_ldc2 (v := 1000000) hx hb hown (hts _ kl_X_252) d_X_needPlace_9 ?_
    refine ll_gt (tgt := 32) hx hb d_X_needPlace_12 d_X_needPlace_13 (by decide) (fun c13 => ?_) (fun c13 => ?_)
    · exact rx_throwW (cls := cIA) (text := "no place") (ik := 254) (is := 263) (ic := 258) hQ hx hb hT hown hK hs hold (hl.1.trans hml.symm) hts htab hlk (by decide) cl_X_254 iz_IllegalArgumentException (by decide) hat_IA hno_IA hgo_IA d_X_needPlace_32 d_X_needPlace_35 d_X_needPlace_36 d_X_needPlace_39 d_X_needPlace_42 (Nat.le_of_ble_eq_true rfl) (Nat.le_of_ble_eq_true rfl) (Nat.le_of_ble_eq_true rfl) (Nat.le_of_ble_eq_true rfl) (Nat.le_of_ble_eq_true rfl) (Nat.le_of_ble_eq_true rfl) (fun H1 he => ⟨by simp [okP, c5, Int64.not_lt.mp c5, c13, Int64.not_le.mpr c13], rfl, he⟩)
    · refine lv_lload_n hx hb d_X_needPlace_16 rfl (lv_at hl 2 rfl) ?_
      refine lv_ldc2 (v := (-1000000)) hx hb hown (hts _ kl_X_261) d_X_needPlace_17 ?_
      refine ll_lt (tgt := 32) hx hb d_X_needPlace_20 d_X_needPlace_21 (by decide) (fun c21 => ?_) (fun c21 => ?_)
      · exact rx_throwW (cls := cIA) (text := "no place") (ik := 254) (is := 263) (ic := 258) hQ hx hb hT hown hK hs hold (hl.1.trans hml.symm) hts htab hlk (by decide) cl_X_254 iz_IllegalArgumentException (by decide) hat_IA hno_IA hgo_IA d_X_needPlace_32 d_X_needPlace_35 d_X_needPlace_36 d_X_needPlace_39 d_X_needPlace_42 (Nat.le_of_ble_eq_true rfl) (Nat.le_of_ble_eq_true rfl) (Nat.le_of_ble_eq_true rfl) (Nat.le_of_ble_eq_true rfl) (Nat.le_of_ble_eq_true rfl) (Nat.le_of_ble_eq_true rfl) (fun H1 he => ⟨by simp [okP, c5, Int64.not_lt.mp c5, c13, Int64.not_lt.mp c13, c21, Int64.not_le.mpr c21], rfl, he⟩)
      · refine lv_lload_n hx hb d_X_needPlace_24 rfl (lv_at hl 2 rfl) ?_
        refine lv_ldc2 (v := 1000000) hx hb hown (hts _ kl_X_252) d_X_needPlace_25 ?_
        refine ll_le (tgt := 43) hx hb d_X_needPlace_28 d_X_needPlace_29 (by decide) (fun c29 => ?_) (fun c29 => ?_)
        · exact rx_v hQ (by simp [okP, c5, Int64.not_lt.mp c5, c13, Int64.not_lt.mp c13, c21, Int64.not_lt.mp c21, c29, Int64.not_lt.mpr c29]) hx hb hr hlk hs d_X_needPlace_43
        · exact rx_throwW (cls := cIA) (text := "no place") (ik := 254) (is := 263) (ic := 258) hQ hx hb hT hown hK hs hold (hl.1.trans hml.symm) hts htab hlk (by decide) cl_X_254 iz_IllegalArgumentException (by decide) hat_IA hno_IA hgo_IA d_X_needPlace_32 d_X_needPlace_35 d_X_needPlace_36 d_X_needPlace_39 d_X_needPlace_42 (Nat.le_of_ble_eq_true rfl) (Nat.le_of_ble_eq_true rfl) (Nat.le_of_ble_eq_true rfl) (Nat.le_of_ble_eq_true rfl) (Nat.le_of_ble_eq_true rfl) (Nat.le_of_ble_eq_true rfl) (fun H1 he => ⟨by simp [okP, c5, Int64.not_lt.mp c5, c13, Int64.not_lt.mp c13, c21, Int64.not_lt.mp c21, c29, Int64.not_le.mp c29], rfl, he⟩)
def rm_X_needUnturned : Room := { frames := 6, cells := 1, slots := 6, locals := 83 }
set_option maxRecDepth 100000 in
set_option maxHeartbeats 4000000 in
theorem c_X_needUnturned {l : Launch} {ev : EV} {H0 : Heap} {b : Nat} (hT : l.stackTraces = false) (hold : Old ev H0) (x0 y0 x1 y1 : Int64) : vx_Met l my_X_needUnturned mw_X_needUnturned rm_X_needUnturned (cP [.ref b, .long x0, .long y0, .long x1, .long y1] (KG ev) H0) (cQo (okT x0 y0 x1 y1)) (cX (fun E H1 => ¬ (okT x0 y0 x1 y1) ∧ E = cIA ∧ Ext H0 H1)) 1 6 cNo := by
  refine cHeadX [.ref b, .long x0, .long y0, .long x1, .long y1] (by decide) rfl (Nat.le_of_ble_eq_true rfl) ?_
  intro p e s m below meth c ls args QQ hQ htab S hr hlk hnm hs hK hl
  have S : CallFix p m c mb_X_needUnturned 9 s args TB "RuleChoice" := S
  obtain ⟨hx, hb, hml, hown, hts⟩ := id S
  have hl : lv_has ls 9 [(0, .ref b), (1, .long x0), (3, .long y0), (5, .long x1), (7, .long y1)] := hl
  refine lv_lload_n hx hb d_X_needUnturned_0 rfl (lv_at hl 1 rfl) ?_
  refine lv_lload hx hb d_X_needUnturned_1 (lv_at hl 3 rfl) ?_
  refine ll_gt (tgt := 14) hx hb d_X_needUnturned_3 d_X_needUnturned_4 (by decide) (fun c4 => ?_) (fun c4 => ?_)
  · exact rx_throwW (cls := cIA) (text := "the area is turned") (ik := 254) (is := 265) (ic := 258) hQ hx hb hT hown hK hs hold (hl.1.trans hml.symm) hts htab hlk (by decide) cl_X_254 iz_IllegalArgumentException (by decide) hat_IA hno_IA hgo_IA d_X_needUnturned_14 d_X_needUnturned_17 d_X_needUnturned_18 d_X_needUnturned_21 d_X_needUnturned_24 (Nat.le_of_ble_eq_true rfl) (Nat.le_of_ble_eq_true rfl) (Nat.le_of_ble_eq_true rfl) (Nat.le_of_ble_eq_true rfl) (Nat.le_of_ble_eq_true rfl) (Nat.le_of_ble_eq_true rfl) (fun H1 he => ⟨by simp [okT, c4, Int64.not_le.mpr c4], rfl, he⟩)
  · refine lv_lload_n hx hb d_X_needUnturned_7 rfl (lv_at hl 2 rfl) ?_
    refine lv_lload hx hb d_X_needUnturned_8 (lv_at hl 4 rfl) ?_
    refine ll_le (tgt := 25) hx hb d_X_needUnturned_10 d_X_needUnturned_11 (by decide) (fun c11 => ?_) (fun c11 => ?_)
    · exact rx_v hQ (by simp [okT, c4, Int64.not_lt.mp c4, c11, Int64.not_lt.mpr c11]) hx hb hr hlk hs d_X_needUnturned_25
    · exact rx_throwW (cls := cIA) (text := "the area is turned") (ik := 254) (is := 265) (ic := 258) hQ hx hb hT hown hK hs hold (hl.1.trans hml.symm) hts htab hlk (by decide) cl_X_254 iz_IllegalArgumentException (by decide) hat_IA hno_IA hgo_IA d_X_needUnturned_14 d_X_needUnturned_17 d_X_needUnturned_18 d_X_needUnturned_21 d_X_needUnturned_24 (Nat.le_of_ble_eq_true rfl) (Nat.le_of_ble_eq_true rfl) (Nat.le_of_ble_eq_true rfl) (Nat.le_of_ble_eq_true rfl) (Nat.le_of_ble_eq_true rfl) (Nat.le_of_ble_eq_true rfl) (fun H1 he => ⟨by simp [okT, c4, Int64.not_lt.mp c4, c11, Int64.not_le.mp c11], rfl, he⟩)
end
section
def rm_X_hindrance : Room := { frames := 2, cells := 0, slots := 0, locals := 43 }
set_option maxRecDepth 100000 in
set_option maxHeartbeats 4000000 in
theorem c_X_hindrance {l : Launch} {ev : EV} {H0 : Heap} {b : Nat} {u : XS} (hw : XW ev b u H0) {i j k : Nat} (hi : i < 40) (hj : j < 40) (hk : k < 40) (kind : Int32) : Met l my_X_hindrance mw_X_hindrance rm_X_hindrance (cP [.ref b, .ref (b + 2 + i), .int kind, .ref (b + 56 + j), .ref (b + 56 + k)] (KG ev) H0) (cQp (some (.int (hindF u.2.2.1 (u.2.1 i) kind (u.2.2.2 j) (u.2.2.2 k))))) 0 0 cNo := by
  refine cHead [.ref b, .ref (b + 2 + i), .int kind, .ref (b + 56 + j), .ref (b + 56 + k)] (by decide) rfl (Nat.le_of_ble_eq_true rfl) ?_
  intro p e s m below meth c ls args QQ hQ S hr hlk hnm hs hK hl
  have S : CallFix p m c mb_X_hindrance 5 s args TB "RuleChoice" := S
  obtain ⟨hx, hb, hml, hown, hts⟩ := id S
  have hl : lv_has ls 5 [(0, .ref b), (1, .ref (b + 2 + i)), (2, .int kind), (3, .ref (b + 56 + j)), (4, .ref (b + 56 + k))] := hl
  refine lv_aload_n hx hb d_X_hindrance_0 rfl (lv_at hl 1 rfl) ?_
  refine rw_get hx hb hts in_R hown hK.1 (hw.2.1.2 i (hi)) rfl 0 (by decide) (hts _ fl_X_90) rfl d_X_hindrance_1 ?_
  refine lv_iload_n hx hb d_X_hindrance_4 rfl (lv_at hl 2 rfl) ?_
  refine lv_icmp_eq (tgt := 10) hx hb d_X_hindrance_5 (by decide) (fun c5 => ?_) (fun c5 => ?_)
  · refine lv_aload_n hx hb d_X_hindrance_10 rfl (lv_at hl 1 rfl) ?_
    refine lv_aload_n hx hb d_X_hindrance_11 rfl (lv_at hl 3 rfl) ?_
    refine rw_get hx hb hts in_T hown hK.1 (hw.2.2.2.1.2 j (hj)) rfl 0 (by decide) (hts _ fl_X_132) rfl d_X_hindrance_12 ?_
    refine lv_aload hx hb d_X_hindrance_15 (lv_at hl 4 rfl) ?_
    refine rw_get hx hb hts in_T hown hK.1 (hw.2.2.2.1.2 k (hk)) rfl 0 (by decide) (hts _ fl_X_132) rfl d_X_hindrance_17 ?_
    refine cl_i (W.runV (As := [.int ((u.2.2.2 j).1), .int ((u.2.2.2 k).1)]) (rest := []) S (c_R_isBetween (hw.2.1.2 i (hi)) ((u.2.2.2 j).1) ((u.2.2.2 k).1)) (cwV 2 hts gv_X_226 rfl rfl rfl (by decide +kernel) ⟨Nat.le_of_ble_eq_true rfl, Nat.le_of_ble_eq_true rfl⟩) (cP_V (KG_ok _) hK hK.1 (hw.2.1.2 i (hi)) rfl) rfl rfl hl.1 rfl (lv_room (Nat.le_of_ble_eq_true rfl)) d_X_hindrance_20 ⟨Nat.le_of_ble_eq_true rfl, Nat.le_of_ble_eq_true rfl⟩) ?_
    refine lv_if_ne (tgt := 28) hx hb d_X_hindrance_23 (by decide) (fun c23 => ?_) (fun c23 => ?_)
    · refine lv_aload_n hx hb d_X_hindrance_28 rfl (lv_at hl 1 rfl) ?_
      refine lv_aload_n hx hb d_X_hindrance_29 rfl (lv_at hl 3 rfl) ?_
      refine rw_get hx hb hts in_T hown hK.1 (hw.2.2.2.1.2 j (hj)) rfl 1 (by decide) (hts _ fl_X_135) rfl d_X_hindrance_30 ?_
      refine cl_i (W.runV (As := [.int ((u.2.2.2 j).2.1)]) (rest := []) S (c_R_isForLayer (hw.2.1.2 i (hi)) ((u.2.2.2 j).2.1)) (cwV 1 hts gv_X_174 rfl rfl rfl (by decide +kernel) ⟨Nat.le_of_ble_eq_true rfl, Nat.le_of_ble_eq_true rfl⟩) (cP_V (KG_ok _) hK hK.1 (hw.2.1.2 i (hi)) rfl) rfl rfl hl.1 rfl (lv_room (Nat.le_of_ble_eq_true rfl)) d_X_hindrance_33 ⟨Nat.le_of_ble_eq_true rfl, Nat.le_of_ble_eq_true rfl⟩) ?_
      refine lv_if_eq (tgt := 51) hx hb d_X_hindrance_36 (by decide) (fun c36 => ?_) (fun c36 => ?_)
      · refine lv_iconst (v := 3) hx hb d_X_hindrance_51 (by decide) ?_
        exact rt_i hQ hx hb hr hlk hs (rfl) (by (try simp only [bI_eq, bI_ne] at c5 c23 c36); simp [hindF, arB, c5, c23, c36]) d_X_hindrance_52
      · refine lv_aload_n hx hb d_X_hindrance_39 rfl (lv_at hl 1 rfl) ?_
        refine lv_aload hx hb d_X_hindrance_40 (lv_at hl 4 rfl) ?_
        refine rw_get hx hb hts in_T hown hK.1 (hw.2.2.2.1.2 k (hk)) rfl 1 (by decide) (hts _ fl_X_135) rfl d_X_hindrance_42 ?_
        refine cl_i (W.runV (As := [.int ((u.2.2.2 k).2.1)]) (rest := []) S (c_R_isForLayer (hw.2.1.2 i (hi)) ((u.2.2.2 k).2.1)) (cwV 1 hts gv_X_174 rfl rfl rfl (by decide +kernel) ⟨Nat.le_of_ble_eq_true rfl, Nat.le_of_ble_eq_true rfl⟩) (cP_V (KG_ok _) hK hK.1 (hw.2.1.2 i (hi)) rfl) rfl rfl hl.1 rfl (lv_room (Nat.le_of_ble_eq_true rfl)) d_X_hindrance_45 ⟨Nat.le_of_ble_eq_true rfl, Nat.le_of_ble_eq_true rfl⟩) ?_
        refine lv_if_ne (tgt := 53) hx hb d_X_hindrance_48 (by decide) (fun c48 => ?_) (fun c48 => ?_)
        · refine lv_aload_n hx hb d_X_hindrance_53 rfl (lv_at hl 1 rfl) ?_
          refine rw_get hx hb hts in_R hown hK.1 (hw.2.1.2 i (hi)) rfl 6 (by decide) (hts _ fl_X_110) rfl d_X_hindrance_54 ?_
          refine lv_iconst (v := (-1)) hx hb d_X_hindrance_57 (by decide) ?_
          refine lv_icmp_eq (tgt := 111) hx hb d_X_hindrance_58 (by decide) (fun c58 => ?_) (fun c58 => ?_)
          · refine lv_iconst (v := 0) hx hb d_X_hindrance_111 (by decide) ?_
            exact rt_i hQ hx hb hr hlk hs (rfl) (by have g58 : (u.2.1 i).2.2.2.2.2.2 = none := oI_m1 (fun a h => Nat.lt_trans (xB_12 hw.2.2.2.2 hi h) (by decide)) c58; (try simp only [bI_eq, bI_ne] at c5 c23 c36 c48 c58); simp [hindF, arB, g58, c5, c23, c36, c48]) d_X_hindrance_112
          · obtain ⟨a9, ha9⟩ := oI_no c58
            have hb9 : a9 < 12 := xB_12 hw.2.2.2.2 hi ha9
            refine lv_aload_n hx hb d_X_hindrance_61 rfl (lv_at hl 0 rfl) ?_
            refine rw_get hx hb hts in_X hown hK.1 hw.1 rfl 2 (by decide) (hts _ fl_X_31) rfl d_X_hindrance_62 ?_
            refine lv_aload_n hx hb d_X_hindrance_65 rfl (lv_at hl 1 rfl) ?_
            refine rw_get hx hb hts in_R hown hK.1 (hw.2.1.2 i (hi)) rfl 6 (by decide) (hts _ fl_X_110) rfl d_X_hindrance_66 ?_
            refine rw_aald hx hb hK.1 4 hw.2.2.1.1 rfl a9 (by rw [ha9]; rfl) (hb9) (by decide) rfl d_X_hindrance_69 ?_
            refine lv_aload_n hx hb d_X_hindrance_70 rfl (lv_at hl 3 rfl) ?_
            refine rw_get hx hb hts in_T hown hK.1 (hw.2.2.2.1.2 j (hj)) rfl 2 (by decide) (hts _ fl_X_141) rfl d_X_hindrance_71 ?_
            refine lv_aload_n hx hb d_X_hindrance_74 rfl (lv_at hl 3 rfl) ?_
            refine rw_get hx hb hts in_T hown hK.1 (hw.2.2.2.1.2 j (hj)) rfl 3 (by decide) (hts _ fl_X_145) rfl d_X_hindrance_75 ?_
            refine cl_i (W.runV (As := [.long ((u.2.2.2 j).2.2.1), .long ((u.2.2.2 j).2.2.2)]) (rest := []) S (c_A_holds (hw.2.2.1.2 a9 (hb9)) ((u.2.2.2 j).2.2.1) ((u.2.2.2 j).2.2.2)) (cwV 2 hts gv_X_229 rfl rfl rfl (by decide +kernel) ⟨Nat.le_of_ble_eq_true rfl, Nat.le_of_ble_eq_true rfl⟩) (cP_V (KG_ok _) hK hK.1 (hw.2.2.1.2 a9 (hb9)) rfl) rfl rfl hl.1 rfl (lv_room (Nat.le_of_ble_eq_true rfl)) d_X_hindrance_78 ⟨Nat.le_of_ble_eq_true rfl, Nat.le_of_ble_eq_true rfl⟩) ?_
            refine lv_if_eq (tgt := 109) hx hb d_X_hindrance_81 (by decide) (fun c81 => ?_) (fun c81 => ?_)
            · refine lv_iconst (v := 4) hx hb d_X_hindrance_109 (by decide) ?_
              exact rt_i hQ hx hb hr hlk hs (rfl) (by (try simp only [bI_eq, bI_ne] at c5 c23 c36 c48 c58 c81); simp [hindF, arB, ha9, c5, c23, c36, c48, c58, c81]) d_X_hindrance_110
            · refine lv_aload_n hx hb d_X_hindrance_84 rfl (lv_at hl 0 rfl) ?_
              refine rw_get hx hb hts in_X hown hK.1 hw.1 rfl 2 (by decide) (hts _ fl_X_31) rfl d_X_hindrance_85 ?_
              refine lv_aload_n hx hb d_X_hindrance_88 rfl (lv_at hl 1 rfl) ?_
              refine rw_get hx hb hts in_R hown hK.1 (hw.2.1.2 i (hi)) rfl 6 (by decide) (hts _ fl_X_110) rfl d_X_hindrance_89 ?_
              refine rw_aald hx hb hK.1 4 hw.2.2.1.1 rfl a9 (by rw [ha9]; rfl) (hb9) (by decide) rfl d_X_hindrance_92 ?_
              refine lv_aload hx hb d_X_hindrance_93 (lv_at hl 4 rfl) ?_
              refine rw_get hx hb hts in_T hown hK.1 (hw.2.2.2.1.2 k (hk)) rfl 2 (by decide) (hts _ fl_X_141) rfl d_X_hindrance_95 ?_
              refine lv_aload hx hb d_X_hindrance_98 (lv_at hl 4 rfl) ?_
              refine rw_get hx hb hts in_T hown hK.1 (hw.2.2.2.1.2 k (hk)) rfl 3 (by decide) (hts _ fl_X_145) rfl d_X_hindrance_100 ?_
              refine cl_i (W.runV (As := [.long ((u.2.2.2 k).2.2.1), .long ((u.2.2.2 k).2.2.2)]) (rest := []) S (c_A_holds (hw.2.2.1.2 a9 (hb9)) ((u.2.2.2 k).2.2.1) ((u.2.2.2 k).2.2.2)) (cwV 2 hts gv_X_229 rfl rfl rfl (by decide +kernel) ⟨Nat.le_of_ble_eq_true rfl, Nat.le_of_ble_eq_true rfl⟩) (cP_V (KG_ok _) hK hK.1 (hw.2.2.1.2 a9 (hb9)) rfl) rfl rfl hl.1 rfl (lv_room (Nat.le_of_ble_eq_true rfl)) d_X_hindrance_103 ⟨Nat.le_of_ble_eq_true rfl, Nat.le_of_ble_eq_true rfl⟩) ?_
              refine lv_if_ne (tgt := 111) hx hb d_X_hindrance_106 (by decide) (fun c106 => ?_) (fun c106 => ?_)
              · refine lv_iconst (v := 0) hx hb d_X_hindrance_111 (by decide) ?_
                exact rt_i hQ hx hb hr hlk hs (rfl) (by (try simp only [bI_eq, bI_ne] at c5 c23 c36 c48 c58 c81 c106); simp [hindF, arB, ha9, c5, c23, c36, c48, c58, c81, c106]) d_X_hindrance_112
              · refine lv_iconst (v := 4) hx hb d_X_hindrance_109 (by decide) ?_
                exact rt_i hQ hx hb hr hlk hs (rfl) (by (try simp only [bI_eq, bI_ne] at c5 c23 c36 c48 c58 c81 c106); simp [hindF, arB, ha9, c5, c23, c36, c48, c58, c81, c106]) d_X_hindrance_110
        · refine lv_iconst (v := 3) hx hb d_X_hindrance_51 (by decide) ?_
          exact rt_i hQ hx hb hr hlk hs (rfl) (by (try simp only [bI_eq, bI_ne] at c5 c23 c36 c48); simp [hindF, arB, c5, c23, c36, c48]) d_X_hindrance_52
    · refine lv_iconst (v := 2) hx hb d_X_hindrance_26 (by decide) ?_
      exact rt_i hQ hx hb hr hlk hs (rfl) (by (try simp only [bI_eq, bI_ne] at c5 c23); simp [hindF, arB, c5, c23]) d_X_hindrance_27
  · refine lv_iconst (v := 1) hx hb d_X_hindrance_8 (by decide) ?_
    exact rt_i hQ hx hb hr hlk hs (rfl) (by (try simp only [bI_eq, bI_ne] at c5); simp [hindF, arB, c5]) d_X_hindrance_9
def rm_X_beats : Room := { frames := 0, cells := 0, slots := 0, locals := 0 }
set_option maxRecDepth 100000 in
set_option maxHeartbeats 4000000 in
theorem c_X_beats {l : Launch} {ev : EV} {H0 : Heap} {b : Nat} {u : XS} (hw : XW ev b u H0) {i j : Nat} {x y : Int32} (ex : x = nI i) (ey : y = nI j) (hi : i < 40) (hj : j < 40) : Met l my_X_beats mw_X_beats rm_X_beats (cP [.ref b, .int x, .int y] (KG ev) H0) (cQp (some (.int (bI (ahB u.2.1 i j))))) 0 0 cNo := by
  refine cHead [.ref b, .int x, .int y] (by decide) rfl (Nat.le_of_ble_eq_true rfl) ?_
  intro p e s m below meth c ls args QQ hQ S hr hlk hnm hs hK hl
  have S : CallFix p m c mb_X_beats 5 s args TB "RuleChoice" := S
  obtain ⟨hx, hb, hml, hown, hts⟩ := id S
  subst ex; subst ey
  have hl : lv_has ls 5 [(0, .ref b), (1, .int (nI i)), (2, .int (nI j))] := hl
  refine lv_aload_n hx hb d_X_beats_0 rfl (lv_at hl 0 rfl) ?_
  refine rw_get hx hb hts in_X hown hK.1 hw.1 rfl 1 (by decide) (hts _ fl_X_24) rfl d_X_beats_1 ?_
  refine lv_iload_n hx hb d_X_beats_4 rfl (lv_at hl 1 rfl) ?_
  refine rw_aald hx hb hK.1 3 hw.2.1.1 rfl i (rfl) (hi) (by decide) rfl d_X_beats_5 ?_
  refine rw_get hx hb hts in_R hown hK.1 (hw.2.1.2 i (hi)) rfl 5 (by decide) (hts _ fl_X_87) rfl d_X_beats_6 ?_
  refine lv_istore_n (lv' := [(3, .int ((u.2.1 i).2.2.2.2.2.1)), (0, .ref b), (1, .int (nI i)), (2, .int (nI j))]) hx hb d_X_beats_9 rfl hl (by decide) rfl (fun ls hl => ?_)
  refine lv_aload_n hx hb d_X_beats_10 rfl (lv_at hl 1 rfl) ?_
  refine rw_get hx hb hts in_X hown hK.1 hw.1 rfl 1 (by decide) (hts _ fl_X_24) rfl d_X_beats_11 ?_
  refine lv_iload_n hx hb d_X_beats_14 rfl (lv_at hl 3 rfl) ?_
  refine rw_aald hx hb hK.1 3 hw.2.1.1 rfl j (rfl) (hj) (by decide) rfl d_X_beats_15 ?_
  refine rw_get hx hb hts in_R hown hK.1 (hw.2.1.2 j (hj)) rfl 5 (by decide) (hts _ fl_X_87) rfl d_X_beats_16 ?_
  refine lv_istore (lv' := [(4, .int ((u.2.1 j).2.2.2.2.2.1)), (3, .int ((u.2.1 i).2.2.2.2.2.1)), (0, .ref b), (1, .int (nI i)), (2, .int (nI j))]) hx hb d_X_beats_19 hl (by decide) rfl (fun ls hl => ?_)
  refine lv_iload_n hx hb d_X_beats_21 rfl (lv_at hl 1 rfl) ?_
  refine lv_iload hx hb d_X_beats_22 (lv_at hl 0 rfl) ?_
  refine lv_icmp_gt (tgt := 38) hx hb d_X_beats_24 (by decide) (fun c24 => ?_) (fun c24 => ?_)
  · refine lv_iconst (v := 1) hx hb d_X_beats_38 (by decide) ?_
    refine lv_goto (tgt := 43) hx hb d_X_beats_39 (by decide) ?_
    exact rt_i hQ hx hb hr hlk hs (rfl) (by simp [ahB, bI, c24, Int32.not_le.mpr c24]) d_X_beats_43
  · refine lv_iload_n hx hb d_X_beats_27 rfl (lv_at hl 1 rfl) ?_
    refine lv_iload hx hb d_X_beats_28 (lv_at hl 0 rfl) ?_
    refine lv_icmp_ne (tgt := 42) hx hb d_X_beats_30 (by decide) (fun c30 => ?_) (fun c30 => ?_)
    · refine lv_iconst (v := 0) hx hb d_X_beats_42 (by decide) ?_
      exact rt_i hQ hx hb hr hlk hs (rfl) (by simp [ahB, bI, c24, c30, Int32.not_lt.mp c24]) d_X_beats_43
    · refine lv_iload_n hx hb d_X_beats_33 rfl (lv_at hl 3 rfl) ?_
      refine lv_iload_n hx hb d_X_beats_34 rfl (lv_at hl 4 rfl) ?_
      refine lv_icmp_le (tgt := 42) hx hb d_X_beats_35 (by decide) (fun c35 => ?_) (fun c35 => ?_)
      · refine lv_iconst (v := 0) hx hb d_X_beats_42 (by decide) ?_
        exact rt_i hQ hx hb hr hlk hs (rfl) (by have g35 : ¬ j < i := Nat.not_lt.mpr ((nI_leI (by omega) (by omega)).mp c35); simp [ahB, bI, c24, c30, g35, Int32.not_lt.mp c24]) d_X_beats_43
      · refine lv_iconst (v := 1) hx hb d_X_beats_38 (by decide) ?_
        refine lv_goto (tgt := 43) hx hb d_X_beats_39 (by decide) ?_
        exact rt_i hQ hx hb hr hlk hs (rfl) (by have g35 : j < i := Nat.not_le.mp (fun h => c35 ((nI_leI (by omega) (by omega)).mpr h)); simp [ahB, bI, c24, c30, g35, Int32.not_lt.mp c24]) d_X_beats_43
def rm_X_bestBelow : Room := { frames := 3, cells := 0, slots := 0, locals := 67 }
set_option maxRecDepth 100000 in
set_option maxHeartbeats 4000000 in
theorem c_X_bestBelow {l : Launch} {ev : EV} {H0 : Heap} {b : Nat} {u : XS} (hw : XW ev b u H0) {up : Option Nat} {j k : Nat} (hu : ∀ a, up = some a → a < 40) (hj : j < 40) (hk : k < 40) (kind : Int32) : Met l my_X_bestBelow mw_X_bestBelow rm_X_bestBelow (cP [.ref b, .int (oI up), .int kind, .ref (b + 56 + j), .ref (b + 56 + k)] (KG ev) H0) (cQp (some (.int (oI (besF u.2.1 u.2.2.1 up kind (u.2.2.2 j) (u.2.2.2 k) u.1.2.1))))) 0 0 cNo := by
  refine cHead [.ref b, .int (oI up), .int kind, .ref (b + 56 + j), .ref (b + 56 + k)] (by decide) rfl (Nat.le_of_ble_eq_true rfl) ?_
  intro p e s m below meth c ls args QQ hQ S hr hlk hnm hs hK hl
  have S : CallFix p m c mb_X_bestBelow 8 s args TB "RuleChoice" := S
  obtain ⟨hx, hb, hml, hown, hts⟩ := id S
  have hn40 : u.1.2.1 ≤ 40 := hw.2.2.2.2.1
  have hl : lv_has ls 8 [(0, .ref b), (1, .int (oI up)), (2, .int kind), (3, .ref (b + 56 + j)), (4, .ref (b + 56 + k))] := hl
  refine lv_iconst (v := (-1)) hx hb d_X_bestBelow_0 (by decide) ?_
  refine lv_istore (lv' := [(5, .int (-1)), (0, .ref b), (1, .int (oI up)), (2, .int kind), (3, .ref (b + 56 + j)), (4, .ref (b + 56 + k))]) hx hb d_X_bestBelow_1 hl (by decide) rfl (fun ls hl => ?_)
  refine lv_iconst (v := 0) hx hb d_X_bestBelow_3 (by decide) ?_
  refine lv_istore (lv' := [(6, .int 0), (5, .int (-1)), (0, .ref b), (1, .int (oI up)), (2, .int kind), (3, .ref (b + 56 + j)), (4, .ref (b + 56 + k))]) hx hb d_X_bestBelow_4 hl (by decide) rfl (fun ls hl => ?_)
  have LP : ∀ (n i : Nat) (bs : Int32) (ls : Array Slot), bs = oI (besF u.2.1 u.2.2.1 up kind (u.2.2.2 j) (u.2.2.2 k) i) → i ≤ u.1.2.1 → u.1.2.1 - i < n → lv_has ls 8 [(0, .ref b), (1, .int (oI up)), (2, .int kind), (3, .ref (b + 56 + j)), (4, .ref (b + 56 + k)), (5, .int bs), (6, .int (nI i))] → W p l e rm_X_bestBelow s m args below meth c H0 [] 0 0 QQ (F0 m 6 ls []) := by
    intro n
    induction n with
    | zero => intro i bs ls h1 h2 h3; exact absurd h3 (by omega)
    | succ n ih =>
      intro i bs ls ebs hle hn hl
      refine lv_iload hx hb d_X_bestBelow_6 (lv_at hl 6 rfl) ?_
      refine lv_aload_n hx hb d_X_bestBelow_8 rfl (lv_at hl 0 rfl) ?_
      refine rw_get hx hb hts in_X hown hK.1 hw.1 rfl 6 (by decide) (hts _ fl_X_71) rfl d_X_bestBelow_9 ?_
      refine lv_icmp_ge (tgt := 87) hx hb d_X_bestBelow_12 (by decide) (fun c12 => ?_) (fun c12 => ?_)
      · refine lv_iload hx hb d_X_bestBelow_87 (lv_at hl 5 rfl) ?_
        exact rt_i hQ hx hb hr hlk hs (rfl) (by rw [ebs]; congr 2; exact Nat.le_antisymm hle (Nat.not_lt.mp (fun h => absurd c12 (nI_ge h (by omega))))) d_X_bestBelow_89
      · have hlt : i < u.1.2.1 := Nat.not_le.mp (fun h => c12 (nI_le h (by omega)))
        have h40 : i < 40 := by omega
        refine lv_iload_n hx hb d_X_bestBelow_15 rfl (lv_at hl 1 rfl) ?_
        refine lv_iconst (v := (-1)) hx hb d_X_bestBelow_16 (by decide) ?_
        refine lv_icmp_eq (tgt := 30) hx hb d_X_bestBelow_17 (by decide) (fun c17 => ?_) (fun c17 => ?_)
        · have gup : up = none := oI_m1 (fun a h => Nat.lt_trans (hu a h) (by decide)) c17
          refine lv_iload hx hb d_X_bestBelow_30 (lv_at hl 5 rfl) ?_
          refine lv_iconst (v := (-1)) hx hb d_X_bestBelow_32 (by decide) ?_
          refine lv_icmp_eq (tgt := 47) hx hb d_X_bestBelow_33 (by decide) (fun c33 => ?_) (fun c33 => ?_)
          · have g33 : besF u.2.1 u.2.2.1 up kind (u.2.2.2 j) (u.2.2.2 k) i = none := oI_m1 (fun a h => Nat.lt_trans (besF_lt i a h) (by omega)) (by rw [← ebs]; exact c33)
            refine lv_iconst (v := 1) hx hb d_X_bestBelow_47 (by decide) ?_
            refine lv_goto (tgt := 52) hx hb d_X_bestBelow_48 (by decide) ?_
            refine lv_istore (lv' := [(7, .int 1), (0, .ref b), (1, .int (oI up)), (2, .int kind), (3, .ref (b + 56 + j)), (4, .ref (b + 56 + k)), (5, .int bs), (6, .int (nI i))]) hx hb d_X_bestBelow_52 hl (by decide) rfl (fun ls hl => ?_)
            refine lv_iload hx hb d_X_bestBelow_54 (lv_at hl 0 rfl) ?_
            refine lv_if_eq (tgt := 81) hx hb d_X_bestBelow_56 (by decide) (fun c56 => ?_) (fun c56 => ?_)
            · exact absurd c56 (by decide)
            · refine lv_aload_n hx hb d_X_bestBelow_59 rfl (lv_at hl 1 rfl) ?_
              refine lv_aload_n hx hb d_X_bestBelow_60 rfl (lv_at hl 1 rfl) ?_
              refine rw_get hx hb hts in_X hown hK.1 hw.1 rfl 1 (by decide) (hts _ fl_X_24) rfl d_X_bestBelow_61 ?_
              refine lv_iload hx hb d_X_bestBelow_64 (lv_at hl 7 rfl) ?_
              refine rw_aald hx hb hK.1 3 hw.2.1.1 rfl i (rfl) (h40) (by decide) rfl d_X_bestBelow_66 ?_
              refine lv_iload_n hx hb d_X_bestBelow_67 rfl (lv_at hl 3 rfl) ?_
              refine lv_aload_n hx hb d_X_bestBelow_68 rfl (lv_at hl 4 rfl) ?_
              refine lv_aload hx hb d_X_bestBelow_69 (lv_at hl 5 rfl) ?_
              refine cl_i (W.runV (As := [.ref (b + 2 + i), .int kind, .ref (b + 56 + j), .ref (b + 56 + k)]) (rest := []) S (c_X_hindrance hw (i := i) (j := j) (k := k) (h40) (hj) (hk) kind) (cwV 4 hts gv_X_168 rfl rfl rfl (by decide +kernel) ⟨Nat.le_of_ble_eq_true rfl, Nat.le_of_ble_eq_true rfl⟩) (cP_V (KG_ok _) hK hK.1 hw.1 rfl) rfl rfl hl.1 rfl (lv_room (Nat.le_of_ble_eq_true rfl)) d_X_bestBelow_71 ⟨Nat.le_of_ble_eq_true rfl, Nat.le_of_ble_eq_true rfl⟩) ?_
              refine lv_if_ne (tgt := 81) hx hb d_X_bestBelow_74 (by decide) (fun c74 => ?_) (fun c74 => ?_)
              · refine lv_iinc (v := (nI (i + 1))) (lv' := [(6, .int (nI (i + 1))), (7, .int 1), (0, .ref b), (1, .int (oI up)), (2, .int kind), (3, .ref (b + 56 + j)), (4, .ref (b + 56 + k)), (5, .int bs)]) hx hb d_X_bestBelow_81 hl (k := 7) rfl ((nI_1 i)) (by decide) rfl (fun ls hl => ?_)
                refine lv_goto (tgt := 6) hx hb d_X_bestBelow_84 (by decide) ?_
                exact ih (i + 1) _ ls (by rw [besF_m (mat_f c74)]; exact ebs) (by omega) (by omega) (lv_sub hl [2, 3, 4, 5, 6, 7, 0] rfl)
              · refine lv_iload hx hb d_X_bestBelow_77 (lv_at hl 7 rfl) ?_
                refine lv_istore (lv' := [(5, .int (nI i)), (7, .int 1), (0, .ref b), (1, .int (oI up)), (2, .int kind), (3, .ref (b + 56 + j)), (4, .ref (b + 56 + k)), (6, .int (nI i))]) hx hb d_X_bestBelow_79 hl (by decide) rfl (fun ls hl => ?_)
                refine lv_iinc (v := (nI (i + 1))) (lv' := [(6, .int (nI (i + 1))), (5, .int (nI i)), (7, .int 1), (0, .ref b), (1, .int (oI up)), (2, .int kind), (3, .ref (b + 56 + j)), (4, .ref (b + 56 + k))]) hx hb d_X_bestBelow_81 hl (k := 7) rfl ((nI_1 i)) (by decide) rfl (fun ls hl => ?_)
                refine lv_goto (tgt := 6) hx hb d_X_bestBelow_84 (by decide) ?_
                exact ih (i + 1) _ ls (by rw [besF_y (by rw [gup]; rfl) (by rw [g33]; rfl) ((hind_mat _ _ _ _ _).mp c74)]; rfl) (by omega) (by omega) (lv_sub hl [3, 4, 5, 6, 7, 1, 0] rfl)
          · obtain ⟨j2, g33⟩ : ∃ a, besF u.2.1 u.2.2.1 up kind (u.2.2.2 j) (u.2.2.2 k) i = some a := oI_no (by rw [← ebs]; exact c33)
            have hj2 : j2 < 40 := Nat.lt_of_lt_of_le (besF_lt i j2 g33) (by omega)
            refine lv_aload_n hx hb d_X_bestBelow_36 rfl (lv_at hl 0 rfl) ?_
            refine lv_iload hx hb d_X_bestBelow_37 (lv_at hl 6 rfl) ?_
            refine lv_iload hx hb d_X_bestBelow_39 (lv_at hl 5 rfl) ?_
            refine cl_i (W.runV (As := [.int (nI i), .int bs]) (rest := []) S (c_X_beats hw (i := i) (j := j2) (rfl) (by rw [ebs, g33]; rfl) (h40) (hj2)) (cwV 2 hts gv_X_222 rfl rfl rfl (by decide +kernel) ⟨Nat.le_of_ble_eq_true rfl, Nat.le_of_ble_eq_true rfl⟩) (cP_V (KG_ok _) hK hK.1 hw.1 rfl) rfl rfl hl.1 rfl (lv_room (Nat.le_of_ble_eq_true rfl)) d_X_bestBelow_41 ⟨Nat.le_of_ble_eq_true rfl, Nat.le_of_ble_eq_true rfl⟩) ?_
            refine lv_if_eq (tgt := 51) hx hb d_X_bestBelow_44 (by decide) (fun c44 => ?_) (fun c44 => ?_)
            · refine lv_iconst (v := 0) hx hb d_X_bestBelow_51 (by decide) ?_
              refine lv_istore (lv' := [(7, .int 0), (0, .ref b), (1, .int (oI up)), (2, .int kind), (3, .ref (b + 56 + j)), (4, .ref (b + 56 + k)), (5, .int bs), (6, .int (nI i))]) hx hb d_X_bestBelow_52 hl (by decide) rfl (fun ls hl => ?_)
              refine lv_iload hx hb d_X_bestBelow_54 (lv_at hl 0 rfl) ?_
              refine lv_if_eq (tgt := 81) hx hb d_X_bestBelow_56 (by decide) (fun c56 => ?_) (fun c56 => ?_)
              · refine lv_iinc (v := (nI (i + 1))) (lv' := [(6, .int (nI (i + 1))), (7, .int 0), (0, .ref b), (1, .int (oI up)), (2, .int kind), (3, .ref (b + 56 + j)), (4, .ref (b + 56 + k)), (5, .int bs)]) hx hb d_X_bestBelow_81 hl (k := 7) rfl ((nI_1 i)) (by decide) rfl (fun ls hl => ?_)
                refine lv_goto (tgt := 6) hx hb d_X_bestBelow_84 (by decide) ?_
                exact ih (i + 1) _ ls (by rw [besF_b (by simp only [bI_eq] at c44; rw [g33]; exact c44)]; exact ebs) (by omega) (by omega) (lv_sub hl [2, 3, 4, 5, 6, 7, 0] rfl)
              · exact absurd c56 (by decide)
            · refine lv_iconst (v := 1) hx hb d_X_bestBelow_47 (by decide) ?_
              refine lv_goto (tgt := 52) hx hb d_X_bestBelow_48 (by decide) ?_
              refine lv_istore (lv' := [(7, .int 1), (0, .ref b), (1, .int (oI up)), (2, .int kind), (3, .ref (b + 56 + j)), (4, .ref (b + 56 + k)), (5, .int bs), (6, .int (nI i))]) hx hb d_X_bestBelow_52 hl (by decide) rfl (fun ls hl => ?_)
              refine lv_iload hx hb d_X_bestBelow_54 (lv_at hl 0 rfl) ?_
              refine lv_if_eq (tgt := 81) hx hb d_X_bestBelow_56 (by decide) (fun c56 => ?_) (fun c56 => ?_)
              · exact absurd c56 (by decide)
              · refine lv_aload_n hx hb d_X_bestBelow_59 rfl (lv_at hl 1 rfl) ?_
                refine lv_aload_n hx hb d_X_bestBelow_60 rfl (lv_at hl 1 rfl) ?_
                refine rw_get hx hb hts in_X hown hK.1 hw.1 rfl 1 (by decide) (hts _ fl_X_24) rfl d_X_bestBelow_61 ?_
                refine lv_iload hx hb d_X_bestBelow_64 (lv_at hl 7 rfl) ?_
                refine rw_aald hx hb hK.1 3 hw.2.1.1 rfl i (rfl) (h40) (by decide) rfl d_X_bestBelow_66 ?_
                refine lv_iload_n hx hb d_X_bestBelow_67 rfl (lv_at hl 3 rfl) ?_
                refine lv_aload_n hx hb d_X_bestBelow_68 rfl (lv_at hl 4 rfl) ?_
                refine lv_aload hx hb d_X_bestBelow_69 (lv_at hl 5 rfl) ?_
                refine cl_i (W.runV (As := [.ref (b + 2 + i), .int kind, .ref (b + 56 + j), .ref (b + 56 + k)]) (rest := []) S (c_X_hindrance hw (i := i) (j := j) (k := k) (h40) (hj) (hk) kind) (cwV 4 hts gv_X_168 rfl rfl rfl (by decide +kernel) ⟨Nat.le_of_ble_eq_true rfl, Nat.le_of_ble_eq_true rfl⟩) (cP_V (KG_ok _) hK hK.1 hw.1 rfl) rfl rfl hl.1 rfl (lv_room (Nat.le_of_ble_eq_true rfl)) d_X_bestBelow_71 ⟨Nat.le_of_ble_eq_true rfl, Nat.le_of_ble_eq_true rfl⟩) ?_
                refine lv_if_ne (tgt := 81) hx hb d_X_bestBelow_74 (by decide) (fun c74 => ?_) (fun c74 => ?_)
                · refine lv_iinc (v := (nI (i + 1))) (lv' := [(6, .int (nI (i + 1))), (7, .int 1), (0, .ref b), (1, .int (oI up)), (2, .int kind), (3, .ref (b + 56 + j)), (4, .ref (b + 56 + k)), (5, .int bs)]) hx hb d_X_bestBelow_81 hl (k := 7) rfl ((nI_1 i)) (by decide) rfl (fun ls hl => ?_)
                  refine lv_goto (tgt := 6) hx hb d_X_bestBelow_84 (by decide) ?_
                  exact ih (i + 1) _ ls (by rw [besF_m (mat_f c74)]; exact ebs) (by omega) (by omega) (lv_sub hl [2, 3, 4, 5, 6, 7, 0] rfl)
                · refine lv_iload hx hb d_X_bestBelow_77 (lv_at hl 7 rfl) ?_
                  refine lv_istore (lv' := [(5, .int (nI i)), (7, .int 1), (0, .ref b), (1, .int (oI up)), (2, .int kind), (3, .ref (b + 56 + j)), (4, .ref (b + 56 + k)), (6, .int (nI i))]) hx hb d_X_bestBelow_79 hl (by decide) rfl (fun ls hl => ?_)
                  refine lv_iinc (v := (nI (i + 1))) (lv' := [(6, .int (nI (i + 1))), (5, .int (nI i)), (7, .int 1), (0, .ref b), (1, .int (oI up)), (2, .int kind), (3, .ref (b + 56 + j)), (4, .ref (b + 56 + k))]) hx hb d_X_bestBelow_81 hl (k := 7) rfl ((nI_1 i)) (by decide) rfl (fun ls hl => ?_)
                  refine lv_goto (tgt := 6) hx hb d_X_bestBelow_84 (by decide) ?_
                  exact ih (i + 1) _ ls (by rw [besF_y (by rw [gup]; rfl) (by simp only [bI_eq, Bool.not_eq_false] at c44; rw [g33]; exact c44) ((hind_mat _ _ _ _ _).mp c74)]; rfl) (by omega) (by omega) (lv_sub hl [3, 4, 5, 6, 7, 1, 0] rfl)
        · obtain ⟨j1, hup⟩ := oI_no c17
          have hj1 : j1 < 40 := hu j1 hup
          refine lv_aload_n hx hb d_X_bestBelow_20 rfl (lv_at hl 0 rfl) ?_
          refine lv_iload_n hx hb d_X_bestBelow_21 rfl (lv_at hl 1 rfl) ?_
          refine lv_iload hx hb d_X_bestBelow_22 (lv_at hl 6 rfl) ?_
          refine cl_i (W.runV (As := [.int (oI up), .int (nI i)]) (rest := []) S (c_X_beats hw (i := j1) (j := i) (by rw [hup]; rfl) (rfl) (hj1) (h40)) (cwV 2 hts gv_X_222 rfl rfl rfl (by decide +kernel) ⟨Nat.le_of_ble_eq_true rfl, Nat.le_of_ble_eq_true rfl⟩) (cP_V (KG_ok _) hK hK.1 hw.1 rfl) rfl rfl hl.1 rfl (lv_room (Nat.le_of_ble_eq_true rfl)) d_X_bestBelow_24 ⟨Nat.le_of_ble_eq_true rfl, Nat.le_of_ble_eq_true rfl⟩) ?_
          refine lv_if_eq (tgt := 51) hx hb d_X_bestBelow_27 (by decide) (fun c27 => ?_) (fun c27 => ?_)
          · refine lv_iconst (v := 0) hx hb d_X_bestBelow_51 (by decide) ?_
            refine lv_istore (lv' := [(7, .int 0), (0, .ref b), (1, .int (oI up)), (2, .int kind), (3, .ref (b + 56 + j)), (4, .ref (b + 56 + k)), (5, .int bs), (6, .int (nI i))]) hx hb d_X_bestBelow_52 hl (by decide) rfl (fun ls hl => ?_)
            refine lv_iload hx hb d_X_bestBelow_54 (lv_at hl 0 rfl) ?_
            refine lv_if_eq (tgt := 81) hx hb d_X_bestBelow_56 (by decide) (fun c56 => ?_) (fun c56 => ?_)
            · refine lv_iinc (v := (nI (i + 1))) (lv' := [(6, .int (nI (i + 1))), (7, .int 0), (0, .ref b), (1, .int (oI up)), (2, .int kind), (3, .ref (b + 56 + j)), (4, .ref (b + 56 + k)), (5, .int bs)]) hx hb d_X_bestBelow_81 hl (k := 7) rfl ((nI_1 i)) (by decide) rfl (fun ls hl => ?_)
              refine lv_goto (tgt := 6) hx hb d_X_bestBelow_84 (by decide) ?_
              exact ih (i + 1) _ ls (by rw [besF_u (by simp only [bI_eq] at c27; rw [hup]; exact c27)]; exact ebs) (by omega) (by omega) (lv_sub hl [2, 3, 4, 5, 6, 7, 0] rfl)
            · exact absurd c56 (by decide)
          · refine lv_iload hx hb d_X_bestBelow_30 (lv_at hl 5 rfl) ?_
            refine lv_iconst (v := (-1)) hx hb d_X_bestBelow_32 (by decide) ?_
            refine lv_icmp_eq (tgt := 47) hx hb d_X_bestBelow_33 (by decide) (fun c33 => ?_) (fun c33 => ?_)
            · have g33 : besF u.2.1 u.2.2.1 up kind (u.2.2.2 j) (u.2.2.2 k) i = none := oI_m1 (fun a h => Nat.lt_trans (besF_lt i a h) (by omega)) (by rw [← ebs]; exact c33)
              refine lv_iconst (v := 1) hx hb d_X_bestBelow_47 (by decide) ?_
              refine lv_goto (tgt := 52) hx hb d_X_bestBelow_48 (by decide) ?_
              refine lv_istore (lv' := [(7, .int 1), (0, .ref b), (1, .int (oI up)), (2, .int kind), (3, .ref (b + 56 + j)), (4, .ref (b + 56 + k)), (5, .int bs), (6, .int (nI i))]) hx hb d_X_bestBelow_52 hl (by decide) rfl (fun ls hl => ?_)
              refine lv_iload hx hb d_X_bestBelow_54 (lv_at hl 0 rfl) ?_
              refine lv_if_eq (tgt := 81) hx hb d_X_bestBelow_56 (by decide) (fun c56 => ?_) (fun c56 => ?_)
              · exact absurd c56 (by decide)
              · refine lv_aload_n hx hb d_X_bestBelow_59 rfl (lv_at hl 1 rfl) ?_
                refine lv_aload_n hx hb d_X_bestBelow_60 rfl (lv_at hl 1 rfl) ?_
                refine rw_get hx hb hts in_X hown hK.1 hw.1 rfl 1 (by decide) (hts _ fl_X_24) rfl d_X_bestBelow_61 ?_
                refine lv_iload hx hb d_X_bestBelow_64 (lv_at hl 7 rfl) ?_
                refine rw_aald hx hb hK.1 3 hw.2.1.1 rfl i (rfl) (h40) (by decide) rfl d_X_bestBelow_66 ?_
                refine lv_iload_n hx hb d_X_bestBelow_67 rfl (lv_at hl 3 rfl) ?_
                refine lv_aload_n hx hb d_X_bestBelow_68 rfl (lv_at hl 4 rfl) ?_
                refine lv_aload hx hb d_X_bestBelow_69 (lv_at hl 5 rfl) ?_
                refine cl_i (W.runV (As := [.ref (b + 2 + i), .int kind, .ref (b + 56 + j), .ref (b + 56 + k)]) (rest := []) S (c_X_hindrance hw (i := i) (j := j) (k := k) (h40) (hj) (hk) kind) (cwV 4 hts gv_X_168 rfl rfl rfl (by decide +kernel) ⟨Nat.le_of_ble_eq_true rfl, Nat.le_of_ble_eq_true rfl⟩) (cP_V (KG_ok _) hK hK.1 hw.1 rfl) rfl rfl hl.1 rfl (lv_room (Nat.le_of_ble_eq_true rfl)) d_X_bestBelow_71 ⟨Nat.le_of_ble_eq_true rfl, Nat.le_of_ble_eq_true rfl⟩) ?_
                refine lv_if_ne (tgt := 81) hx hb d_X_bestBelow_74 (by decide) (fun c74 => ?_) (fun c74 => ?_)
                · refine lv_iinc (v := (nI (i + 1))) (lv' := [(6, .int (nI (i + 1))), (7, .int 1), (0, .ref b), (1, .int (oI up)), (2, .int kind), (3, .ref (b + 56 + j)), (4, .ref (b + 56 + k)), (5, .int bs)]) hx hb d_X_bestBelow_81 hl (k := 7) rfl ((nI_1 i)) (by decide) rfl (fun ls hl => ?_)
                  refine lv_goto (tgt := 6) hx hb d_X_bestBelow_84 (by decide) ?_
                  exact ih (i + 1) _ ls (by rw [besF_m (mat_f c74)]; exact ebs) (by omega) (by omega) (lv_sub hl [2, 3, 4, 5, 6, 7, 0] rfl)
                · refine lv_iload hx hb d_X_bestBelow_77 (lv_at hl 7 rfl) ?_
                  refine lv_istore (lv' := [(5, .int (nI i)), (7, .int 1), (0, .ref b), (1, .int (oI up)), (2, .int kind), (3, .ref (b + 56 + j)), (4, .ref (b + 56 + k)), (6, .int (nI i))]) hx hb d_X_bestBelow_79 hl (by decide) rfl (fun ls hl => ?_)
                  refine lv_iinc (v := (nI (i + 1))) (lv' := [(6, .int (nI (i + 1))), (5, .int (nI i)), (7, .int 1), (0, .ref b), (1, .int (oI up)), (2, .int kind), (3, .ref (b + 56 + j)), (4, .ref (b + 56 + k))]) hx hb d_X_bestBelow_81 hl (k := 7) rfl ((nI_1 i)) (by decide) rfl (fun ls hl => ?_)
                  refine lv_goto (tgt := 6) hx hb d_X_bestBelow_84 (by decide) ?_
                  exact ih (i + 1) _ ls (by rw [besF_y (by simp only [bI_eq, Bool.not_eq_false] at c27; rw [hup]; exact c27) (by rw [g33]; rfl) ((hind_mat _ _ _ _ _).mp c74)]; rfl) (by omega) (by omega) (lv_sub hl [3, 4, 5, 6, 7, 1, 0] rfl)
            · obtain ⟨j2, g33⟩ : ∃ a, besF u.2.1 u.2.2.1 up kind (u.2.2.2 j) (u.2.2.2 k) i = some a := oI_no (by rw [← ebs]; exact c33)
              have hj2 : j2 < 40 := Nat.lt_of_lt_of_le (besF_lt i j2 g33) (by omega)
              refine lv_aload_n hx hb d_X_bestBelow_36 rfl (lv_at hl 0 rfl) ?_
              refine lv_iload hx hb d_X_bestBelow_37 (lv_at hl 6 rfl) ?_
              refine lv_iload hx hb d_X_bestBelow_39 (lv_at hl 5 rfl) ?_
              refine cl_i (W.runV (As := [.int (nI i), .int bs]) (rest := []) S (c_X_beats hw (i := i) (j := j2) (rfl) (by rw [ebs, g33]; rfl) (h40) (hj2)) (cwV 2 hts gv_X_222 rfl rfl rfl (by decide +kernel) ⟨Nat.le_of_ble_eq_true rfl, Nat.le_of_ble_eq_true rfl⟩) (cP_V (KG_ok _) hK hK.1 hw.1 rfl) rfl rfl hl.1 rfl (lv_room (Nat.le_of_ble_eq_true rfl)) d_X_bestBelow_41 ⟨Nat.le_of_ble_eq_true rfl, Nat.le_of_ble_eq_true rfl⟩) ?_
              refine lv_if_eq (tgt := 51) hx hb d_X_bestBelow_44 (by decide) (fun c44 => ?_) (fun c44 => ?_)
              · refine lv_iconst (v := 0) hx hb d_X_bestBelow_51 (by decide) ?_
                refine lv_istore (lv' := [(7, .int 0), (0, .ref b), (1, .int (oI up)), (2, .int kind), (3, .ref (b + 56 + j)), (4, .ref (b + 56 + k)), (5, .int bs), (6, .int (nI i))]) hx hb d_X_bestBelow_52 hl (by decide) rfl (fun ls hl => ?_)
                refine lv_iload hx hb d_X_bestBelow_54 (lv_at hl 0 rfl) ?_
                refine lv_if_eq (tgt := 81) hx hb d_X_bestBelow_56 (by decide) (fun c56 => ?_) (fun c56 => ?_)
                · refine lv_iinc (v := (nI (i + 1))) (lv' := [(6, .int (nI (i + 1))), (7, .int 0), (0, .ref b), (1, .int (oI up)), (2, .int kind), (3, .ref (b + 56 + j)), (4, .ref (b + 56 + k)), (5, .int bs)]) hx hb d_X_bestBelow_81 hl (k := 7) rfl ((nI_1 i)) (by decide) rfl (fun ls hl => ?_)
                  refine lv_goto (tgt := 6) hx hb d_X_bestBelow_84 (by decide) ?_
                  exact ih (i + 1) _ ls (by rw [besF_b (by simp only [bI_eq] at c44; rw [g33]; exact c44)]; exact ebs) (by omega) (by omega) (lv_sub hl [2, 3, 4, 5, 6, 7, 0] rfl)
                · exact absurd c56 (by decide)
              · refine lv_iconst (v := 1) hx hb d_X_bestBelow_47 (by decide) ?_
                refine lv_goto (tgt := 52) hx hb d_X_bestBelow_48 (by decide) ?_
                refine lv_istore (lv' := [(7, .int 1), (0, .ref b), (1, .int (oI up)), (2, .int kind), (3, .ref (b + 56 + j)), (4, .ref (b + 56 + k)), (5, .int bs), (6, .int (nI i))]) hx hb d_X_bestBelow_52 hl (by decide) rfl (fun ls hl => ?_)
                refine lv_iload hx hb d_X_bestBelow_54 (lv_at hl 0 rfl) ?_
                refine lv_if_eq (tgt := 81) hx hb d_X_bestBelow_56 (by decide) (fun c56 => ?_) (fun c56 => ?_)
                · exact absurd c56 (by decide)
                · refine lv_aload_n hx hb d_X_bestBelow_59 rfl (lv_at hl 1 rfl) ?_
                  refine lv_aload_n hx hb d_X_bestBelow_60 rfl (lv_at hl 1 rfl) ?_
                  refine rw_get hx hb hts in_X hown hK.1 hw.1 rfl 1 (by decide) (hts _ fl_X_24) rfl d_X_bestBelow_61 ?_
                  refine lv_iload hx hb d_X_bestBelow_64 (lv_at hl 7 rfl) ?_
                  refine rw_aald hx hb hK.1 3 hw.2.1.1 rfl i (rfl) (h40) (by decide) rfl d_X_bestBelow_66 ?_
                  refine lv_iload_n hx hb d_X_bestBelow_67 rfl (lv_at hl 3 rfl) ?_
                  refine lv_aload_n hx hb d_X_bestBelow_68 rfl (lv_at hl 4 rfl) ?_
                  refine lv_aload hx hb d_X_bestBelow_69 (lv_at hl 5 rfl) ?_
                  refine cl_i (W.runV (As := [.ref (b + 2 + i), .int kind, .ref (b + 56 + j), .ref (b + 56 + k)]) (rest := []) S (c_X_hindrance hw (i := i) (j := j) (k := k) (h40) (hj) (hk) kind) (cwV 4 hts gv_X_168 rfl rfl rfl (by decide +kernel) ⟨Nat.le_of_ble_eq_true rfl, Nat.le_of_ble_eq_true rfl⟩) (cP_V (KG_ok _) hK hK.1 hw.1 rfl) rfl rfl hl.1 rfl (lv_room (Nat.le_of_ble_eq_true rfl)) d_X_bestBelow_71 ⟨Nat.le_of_ble_eq_true rfl, Nat.le_of_ble_eq_true rfl⟩) ?_
                  refine lv_if_ne (tgt := 81) hx hb d_X_bestBelow_74 (by decide) (fun c74 => ?_) (fun c74 => ?_)
                  · refine lv_iinc (v := (nI (i + 1))) (lv' := [(6, .int (nI (i + 1))), (7, .int 1), (0, .ref b), (1, .int (oI up)), (2, .int kind), (3, .ref (b + 56 + j)), (4, .ref (b + 56 + k)), (5, .int bs)]) hx hb d_X_bestBelow_81 hl (k := 7) rfl ((nI_1 i)) (by decide) rfl (fun ls hl => ?_)
                    refine lv_goto (tgt := 6) hx hb d_X_bestBelow_84 (by decide) ?_
                    exact ih (i + 1) _ ls (by rw [besF_m (mat_f c74)]; exact ebs) (by omega) (by omega) (lv_sub hl [2, 3, 4, 5, 6, 7, 0] rfl)
                  · refine lv_iload hx hb d_X_bestBelow_77 (lv_at hl 7 rfl) ?_
                    refine lv_istore (lv' := [(5, .int (nI i)), (7, .int 1), (0, .ref b), (1, .int (oI up)), (2, .int kind), (3, .ref (b + 56 + j)), (4, .ref (b + 56 + k)), (6, .int (nI i))]) hx hb d_X_bestBelow_79 hl (by decide) rfl (fun ls hl => ?_)
                    refine lv_iinc (v := (nI (i + 1))) (lv' := [(6, .int (nI (i + 1))), (5, .int (nI i)), (7, .int 1), (0, .ref b), (1, .int (oI up)), (2, .int kind), (3, .ref (b + 56 + j)), (4, .ref (b + 56 + k))]) hx hb d_X_bestBelow_81 hl (k := 7) rfl ((nI_1 i)) (by decide) rfl (fun ls hl => ?_)
                    refine lv_goto (tgt := 6) hx hb d_X_bestBelow_84 (by decide) ?_
                    exact ih (i + 1) _ ls (by rw [besF_y (by simp only [bI_eq, Bool.not_eq_false] at c27; rw [hup]; exact c27) (by simp only [bI_eq, Bool.not_eq_false] at c44; rw [g33]; exact c44) ((hind_mat _ _ _ _ _).mp c74)]; rfl) (by omega) (by omega) (lv_sub hl [3, 4, 5, 6, 7, 1, 0] rfl)
  exact LP _ 0 (-1) ls rfl (Nat.zero_le _) (Nat.lt_succ_self _) (lv_sub hl [2, 3, 4, 5, 6, 1, 0] rfl)
end
section
def rm_X_valueOf : Room := { frames := 0, cells := 0, slots := 0, locals := 0 }
set_option maxRecDepth 100000 in
set_option maxHeartbeats 4000000 in
theorem c_X_valueOf {l : Launch} {ev : EV} {H0 : Heap} {b : Nat} {u : XS} (hw : XW ev b u H0) {o : Option Nat} (ho : ∀ a, o = some a → a < 40) : Met l my_X_valueOf mw_X_valueOf rm_X_valueOf (cP [.ref b, .int (oI o)] (KG ev) H0) (cQp (some (.long (valF u.2.1 o)))) 0 0 cNo := by
  refine cHead [.ref b, .int (oI o)] (by decide) rfl (Nat.le_of_ble_eq_true rfl) ?_
  intro p e s m below meth c ls args QQ hQ S hr hlk hnm hs hK hl
  have S : CallFix p m c mb_X_valueOf 2 s args TB "RuleChoice" := S
  obtain ⟨hx, hb, hml, hown, hts⟩ := id S
  have hl : lv_has ls 2 [(0, .ref b), (1, .int (oI o))] := hl
  refine lv_iload_n hx hb d_X_valueOf_0 rfl (lv_at hl 1 rfl) ?_
  refine lv_iconst (v := (-1)) hx hb d_X_valueOf_1 (by decide) ?_
  refine lv_icmp_ne (tgt := 11) hx hb d_X_valueOf_2 (by decide) (fun c2 => ?_) (fun c2 => ?_)
  · obtain ⟨i, gi⟩ := oI_no c2
    have hi : i < 40 := ho i gi
    refine lv_aload_n hx hb d_X_valueOf_11 rfl (lv_at hl 0 rfl) ?_
    refine rw_get hx hb hts in_X hown hK.1 hw.1 rfl 1 (by decide) (hts _ fl_X_24) rfl d_X_valueOf_12 ?_
    refine lv_iload_n hx hb d_X_valueOf_15 rfl (lv_at hl 1 rfl) ?_
    refine rw_aald hx hb hK.1 3 hw.2.1.1 rfl i (by rw [gi]; rfl) (hi) (by decide) rfl d_X_valueOf_16 ?_
    refine rw_get hx hb hts in_R hown hK.1 (hw.2.1.2 i (hi)) rfl 4 (by decide) (hts _ fl_X_178) rfl d_X_valueOf_17 ?_
    exact rt_l hQ hx hb hr hlk hs (by rw [gi]; rfl) d_X_valueOf_20
  · refine lv_ldc2 (v := (-1)) hx hb hown (hts _ kl_X_172) d_X_valueOf_5 ?_
    refine lv_goto (tgt := 20) hx hb d_X_valueOf_8 (by decide) ?_
    exact rt_l hQ hx hb hr hlk hs (by rw [oI_m1 (fun a h => Nat.lt_trans (ho a h) (by decide)) c2]; rfl) d_X_valueOf_20
def rm_X_areasAround : Room := { frames := 1, cells := 0, slots := 0, locals := 24 }
set_option maxRecDepth 100000 in
set_option maxHeartbeats 4000000 in
theorem c_X_areasAround {l : Launch} {ev : EV} {H0 : Heap} {b : Nat} {u : XS} (hw : XW ev b u H0) (x y : Int64) : Met l my_X_areasAround mw_X_areasAround rm_X_areasAround (cP [.ref b, .long x, .long y] (KG ev) H0) (cQp (some (.int (arnF u.2.2.1 x y u.1.2.2.1)))) 0 0 cNo := by
  refine cHead [.ref b, .long x, .long y] (by decide) rfl (Nat.le_of_ble_eq_true rfl) ?_
  intro p e s m below meth c ls args QQ hQ S hr hlk hnm hs hK hl
  have S : CallFix p m c mb_X_areasAround 7 s args TB "RuleChoice" := S
  obtain ⟨hx, hb, hml, hown, hts⟩ := id S
  have hn12 : u.1.2.2.1 ≤ 12 := hw.2.2.2.2.2.1
  have hl : lv_has ls 7 [(0, .ref b), (1, .long x), (3, .long y)] := hl
  refine lv_iconst (v := 0) hx hb d_X_areasAround_0 (by decide) ?_
  refine lv_istore (lv' := [(5, .int 0), (0, .ref b), (1, .long x), (3, .long y)]) hx hb d_X_areasAround_1 hl (by decide) rfl (fun ls hl => ?_)
  refine lv_iconst (v := 0) hx hb d_X_areasAround_3 (by decide) ?_
  refine lv_istore (lv' := [(6, .int 0), (5, .int 0), (0, .ref b), (1, .long x), (3, .long y)]) hx hb d_X_areasAround_4 hl (by decide) rfl (fun ls hl => ?_)
  have LP : ∀ (n i : Nat) (bs : Int32) (ls : Array Slot), bs = arnF u.2.2.1 x y i → i ≤ u.1.2.2.1 → u.1.2.2.1 - i < n → lv_has ls 7 [(0, .ref b), (1, .long x), (3, .long y), (5, .int bs), (6, .int (nI i))] → W p l e rm_X_areasAround s m args below meth c H0 [] 0 0 QQ (F0 m 6 ls []) := by
    intro n
    induction n with
    | zero => intro i bs ls h1 h2 h3; exact absurd h3 (by omega)
    | succ n ih =>
      intro i bs ls ebs hle hn hl
      refine lv_iload hx hb d_X_areasAround_6 (lv_at hl 4 rfl) ?_
      refine lv_aload_n hx hb d_X_areasAround_8 rfl (lv_at hl 0 rfl) ?_
      refine rw_get hx hb hts in_X hown hK.1 hw.1 rfl 7 (by decide) (hts _ fl_X_101) rfl d_X_areasAround_9 ?_
      refine lv_icmp_ge (tgt := 45) hx hb d_X_areasAround_12 (by decide) (fun c12 => ?_) (fun c12 => ?_)
      · refine lv_iload hx hb d_X_areasAround_45 (lv_at hl 3 rfl) ?_
        exact rt_i hQ hx hb hr hlk hs (rfl) (by rw [ebs]; congr 1; exact Nat.le_antisymm hle (Nat.not_lt.mp (fun h => absurd c12 (nI_ge h (by omega))))) d_X_areasAround_47
      · have hlt : i < u.1.2.2.1 := Nat.not_le.mp (fun h => c12 (nI_le h (by omega)))
        have h12 : i < 12 := by omega
        refine lv_aload_n hx hb d_X_areasAround_15 rfl (lv_at hl 0 rfl) ?_
        refine rw_get hx hb hts in_X hown hK.1 hw.1 rfl 2 (by decide) (hts _ fl_X_31) rfl d_X_areasAround_16 ?_
        refine lv_iload hx hb d_X_areasAround_19 (lv_at hl 4 rfl) ?_
        refine rw_aald hx hb hK.1 4 hw.2.2.1.1 rfl i (rfl) (h12) (by decide) rfl d_X_areasAround_21 ?_
        refine lv_lload_n hx hb d_X_areasAround_22 rfl (lv_at hl 1 rfl) ?_
        refine lv_lload_n hx hb d_X_areasAround_23 rfl (lv_at hl 2 rfl) ?_
        refine cl_i (W.runV (As := [.long x, .long y]) (rest := []) S (c_A_holds (hw.2.2.1.2 i (h12)) x y) (cwV 2 hts gv_X_229 rfl rfl rfl (by decide +kernel) ⟨Nat.le_of_ble_eq_true rfl, Nat.le_of_ble_eq_true rfl⟩) (cP_V (KG_ok _) hK hK.1 (hw.2.2.1.2 i (h12)) rfl) rfl rfl hl.1 rfl (lv_room (Nat.le_of_ble_eq_true rfl)) d_X_areasAround_24 ⟨Nat.le_of_ble_eq_true rfl, Nat.le_of_ble_eq_true rfl⟩) ?_
        refine lv_if_eq (tgt := 39) hx hb d_X_areasAround_27 (by decide) (fun c27 => ?_) (fun c27 => ?_)
        · refine lv_iinc (v := (nI (i + 1))) (lv' := [(6, .int (nI (i + 1))), (0, .ref b), (1, .long x), (3, .long y), (5, .int bs)]) hx hb d_X_areasAround_39 hl (k := 4) rfl ((nI_1 i)) (by decide) rfl (fun ls hl => ?_)
          refine lv_goto (tgt := 6) hx hb d_X_areasAround_42 (by decide) ?_
          exact ih (i + 1) _ ls (by rw [arnF_n ((bI_eq _).mp c27)]; exact ebs) (by omega) (by omega) (lv_sub hl [1, 2, 3, 4, 0] rfl)
        · refine lv_iload hx hb d_X_areasAround_30 (lv_at hl 3 rfl) ?_
          refine lv_iconst (v := 1) hx hb d_X_areasAround_32 (by decide) ?_
          refine lv_iload hx hb d_X_areasAround_33 (lv_at hl 4 rfl) ?_
          refine lv_ishl hx hb d_X_areasAround_35 ?_
          refine lv_ior hx hb d_X_areasAround_36 ?_
          refine lv_istore (lv' := [(5, .int (bs ||| (1 <<< ((nI i) &&& 31)))), (0, .ref b), (1, .long x), (3, .long y), (6, .int (nI i))]) hx hb d_X_areasAround_37 hl (by decide) rfl (fun ls hl => ?_)
          refine lv_iinc (v := (nI (i + 1))) (lv' := [(6, .int (nI (i + 1))), (5, .int (bs ||| (1 <<< ((nI i) &&& 31)))), (0, .ref b), (1, .long x), (3, .long y)]) hx hb d_X_areasAround_39 hl (k := 4) rfl ((nI_1 i)) (by decide) rfl (fun ls hl => ?_)
          refine lv_goto (tgt := 6) hx hb d_X_areasAround_42 (by decide) ?_
          exact ih (i + 1) _ ls (by rw [arnF_y ((bI_ne _).mp c27), ebs]) (by omega) (by omega) (lv_sub hl [2, 3, 4, 1, 0] rfl)
  exact LP _ 0 0 ls rfl (Nat.zero_le _) (Nat.lt_succ_self _) (lv_sub hl [2, 3, 4, 1, 0] rfl)
def rm_X_areTooNear : Room := { frames := 4, cells := 0, slots := 0, locals := 94 }
set_option maxRecDepth 100000 in
set_option maxHeartbeats 4000000 in
theorem c_X_areTooNear {l : Launch} {ev : EV} {H0 : Heap} {b : Nat} {u : XS} (hw : XW ev b u H0) {j k : Nat} (hj : j < 40) (hk : k < 40) (kind : Int32) : Met l my_X_areTooNear mw_X_areTooNear rm_X_areTooNear (cP [.ref b, .int kind, .ref (b + 56 + j), .ref (b + 56 + k)] (KG ev) H0) (cQp (some (.int (bI (nerB u.2.1 u.2.2.1 u.1.2.1 kind (u.2.2.2 j) (u.2.2.2 k)))))) 0 0 cNo := by
  refine cHead [.ref b, .int kind, .ref (b + 56 + j), .ref (b + 56 + k)] (by decide) rfl (Nat.le_of_ble_eq_true rfl) ?_
  intro p e s m below meth c ls args QQ hQ S hr hlk hnm hs hK hl
  have S : CallFix p m c mb_X_areTooNear 11 s args TB "RuleChoice" := S
  obtain ⟨hx, hb, hml, hown, hts⟩ := id S
  have hl : lv_has ls 11 [(0, .ref b), (1, .int kind), (2, .ref (b + 56 + j)), (3, .ref (b + 56 + k))] := hl
  refine lv_aload_n hx hb d_X_areTooNear_0 rfl (lv_at hl 2 rfl) ?_
  refine rw_get hx hb hts in_T hown hK.1 (hw.2.2.2.1.2 j (hj)) rfl 1 (by decide) (hts _ fl_X_135) rfl d_X_areTooNear_1 ?_
  refine lv_aload_n hx hb d_X_areTooNear_4 rfl (lv_at hl 3 rfl) ?_
  refine rw_get hx hb hts in_T hown hK.1 (hw.2.2.2.1.2 k (hk)) rfl 1 (by decide) (hts _ fl_X_135) rfl d_X_areTooNear_5 ?_
  refine lv_icmp_eq (tgt := 13) hx hb d_X_areTooNear_8 (by decide) (fun c8 => ?_) (fun c8 => ?_)
  · refine lv_aload_n hx hb d_X_areTooNear_13 rfl (lv_at hl 0 rfl) ?_
    refine lv_iconst (v := (-1)) hx hb d_X_areTooNear_14 (by decide) ?_
    refine lv_iload_n hx hb d_X_areTooNear_15 rfl (lv_at hl 1 rfl) ?_
    refine lv_aload_n hx hb d_X_areTooNear_16 rfl (lv_at hl 2 rfl) ?_
    refine lv_aload_n hx hb d_X_areTooNear_17 rfl (lv_at hl 3 rfl) ?_
    refine cl_i (W.runV (As := [.int (-1), .int kind, .ref (b + 56 + j), .ref (b + 56 + k)]) (rest := []) S (c_X_bestBelow hw (up := none) (j := j) (k := k) (fun _ h => by cases h) (hj) (hk) kind) (cwV 4 hts gv_X_164 rfl rfl rfl (by decide +kernel) ⟨Nat.le_of_ble_eq_true rfl, Nat.le_of_ble_eq_true rfl⟩) (cP_V (KG_ok _) hK hK.1 hw.1 rfl) rfl rfl hl.1 rfl (lv_room (Nat.le_of_ble_eq_true rfl)) d_X_areTooNear_18 ⟨Nat.le_of_ble_eq_true rfl, Nat.le_of_ble_eq_true rfl⟩) ?_
    refine lv_istore (lv' := [(4, .int (oI (besF u.2.1 u.2.2.1 none kind (u.2.2.2 j) (u.2.2.2 k) u.1.2.1))), (0, .ref b), (1, .int kind), (2, .ref (b + 56 + j)), (3, .ref (b + 56 + k))]) hx hb d_X_areTooNear_21 hl (by decide) rfl (fun ls hl => ?_)
    refine lv_iload hx hb d_X_areTooNear_23 (lv_at hl 0 rfl) ?_
    refine lv_iconst (v := (-1)) hx hb d_X_areTooNear_25 (by decide) ?_
    refine lv_icmp_ne (tgt := 31) hx hb d_X_areTooNear_26 (by decide) (fun c26 => ?_) (fun c26 => ?_)
    · obtain ⟨i, gi⟩ := oI_no c26
      have hi : i < 40 := Nat.lt_of_lt_of_le (besF_lt _ _ gi) hw.2.2.2.2.1
      refine lv_aload_n hx hb d_X_areTooNear_31 rfl (lv_at hl 1 rfl) ?_
      refine rw_get hx hb hts in_X hown hK.1 hw.1 rfl 1 (by decide) (hts _ fl_X_24) rfl d_X_areTooNear_32 ?_
      refine lv_iload hx hb d_X_areTooNear_35 (lv_at hl 0 rfl) ?_
      refine rw_aald hx hb hK.1 3 hw.2.1.1 rfl i (by rw [gi]; rfl) (hi) (by decide) rfl d_X_areTooNear_37 ?_
      refine rw_get hx hb hts in_R hown hK.1 (hw.2.1.2 i (hi)) rfl 4 (by decide) (hts _ fl_X_178) rfl d_X_areTooNear_38 ?_
      refine lv_lstore (lv' := [(5, .long ((u.2.1 i).2.2.2.2.1)), (4, .int (oI (besF u.2.1 u.2.2.1 none kind (u.2.2.2 j) (u.2.2.2 k) u.1.2.1))), (0, .ref b), (1, .int kind), (2, .ref (b + 56 + j)), (3, .ref (b + 56 + k))]) hx hb d_X_areTooNear_41 hl (by decide) rfl (fun ls hl => ?_)
      refine lv_aload_n hx hb d_X_areTooNear_43 rfl (lv_at hl 4 rfl) ?_
      refine rw_get hx hb hts in_T hown hK.1 (hw.2.2.2.1.2 j (hj)) rfl 2 (by decide) (hts _ fl_X_141) rfl d_X_areTooNear_44 ?_
      refine lv_aload_n hx hb d_X_areTooNear_47 rfl (lv_at hl 5 rfl) ?_
      refine rw_get hx hb hts in_T hown hK.1 (hw.2.2.2.1.2 k (hk)) rfl 2 (by decide) (hts _ fl_X_141) rfl d_X_areTooNear_48 ?_
      refine lv_lsub hx hb d_X_areTooNear_51 ?_
      refine lv_lstore (lv' := [(7, .long (((u.2.2.2 j).2.2.1) - ((u.2.2.2 k).2.2.1))), (5, .long ((u.2.1 i).2.2.2.2.1)), (4, .int (oI (besF u.2.1 u.2.2.1 none kind (u.2.2.2 j) (u.2.2.2 k) u.1.2.1))), (0, .ref b), (1, .int kind), (2, .ref (b + 56 + j)), (3, .ref (b + 56 + k))]) hx hb d_X_areTooNear_52 hl (by decide) rfl (fun ls hl => ?_)
      refine lv_aload_n hx hb d_X_areTooNear_54 rfl (lv_at hl 5 rfl) ?_
      refine rw_get hx hb hts in_T hown hK.1 (hw.2.2.2.1.2 j (hj)) rfl 3 (by decide) (hts _ fl_X_145) rfl d_X_areTooNear_55 ?_
      refine lv_aload_n hx hb d_X_areTooNear_58 rfl (lv_at hl 6 rfl) ?_
      refine rw_get hx hb hts in_T hown hK.1 (hw.2.2.2.1.2 k (hk)) rfl 3 (by decide) (hts _ fl_X_145) rfl d_X_areTooNear_59 ?_
      refine lv_lsub hx hb d_X_areTooNear_62 ?_
      refine lv_lstore (lv' := [(9, .long (((u.2.2.2 j).2.2.2) - ((u.2.2.2 k).2.2.2))), (7, .long (((u.2.2.2 j).2.2.1) - ((u.2.2.2 k).2.2.1))), (5, .long ((u.2.1 i).2.2.2.2.1)), (4, .int (oI (besF u.2.1 u.2.2.1 none kind (u.2.2.2 j) (u.2.2.2 k) u.1.2.1))), (0, .ref b), (1, .int kind), (2, .ref (b + 56 + j)), (3, .ref (b + 56 + k))]) hx hb d_X_areTooNear_63 hl (by decide) rfl (fun ls hl => ?_)
      refine lv_lload hx hb d_X_areTooNear_65 (lv_at hl 1 rfl) ?_
      refine lv_lload hx hb d_X_areTooNear_67 (lv_at hl 1 rfl) ?_
      refine lv_lmul hx hb d_X_areTooNear_69 ?_
      refine lv_lload hx hb d_X_areTooNear_70 (lv_at hl 0 rfl) ?_
      refine lv_lload hx hb d_X_areTooNear_72 (lv_at hl 0 rfl) ?_
      refine lv_lmul hx hb d_X_areTooNear_74 ?_
      refine lv_ladd hx hb d_X_areTooNear_75 ?_
      refine lv_lload hx hb d_X_areTooNear_76 (lv_at hl 2 rfl) ?_
      refine lv_lload hx hb d_X_areTooNear_78 (lv_at hl 2 rfl) ?_
      refine lv_lmul hx hb d_X_areTooNear_80 ?_
      refine ll_ge (tgt := 89) hx hb d_X_areTooNear_81 d_X_areTooNear_82 (by decide) (fun c82 => ?_) (fun c82 => ?_)
      · refine lv_iconst (v := 0) hx hb d_X_areTooNear_89 (by decide) ?_
        exact rt_i hQ hx hb hr hlk hs (rfl) (by simp [nerB, bI, c8, gi, dsF, c82, Int64.not_lt.mpr c82]) d_X_areTooNear_90
      · refine lv_iconst (v := 1) hx hb d_X_areTooNear_85 (by decide) ?_
        refine lv_goto (tgt := 90) hx hb d_X_areTooNear_86 (by decide) ?_
        exact rt_i hQ hx hb hr hlk hs (rfl) (by simp [nerB, bI, c8, gi, dsF, c82, Int64.not_le.mp c82]) d_X_areTooNear_90
    · refine lv_iconst (v := 0) hx hb d_X_areTooNear_29 (by decide) ?_
      exact rt_i hQ hx hb hr hlk hs (rfl) (by have gi : besF u.2.1 u.2.2.1 none kind (u.2.2.2 j) (u.2.2.2 k) u.1.2.1 = none := oI_m1 (fun a h => Nat.lt_trans (besF_lt _ _ h) (Nat.lt_of_le_of_lt hw.2.2.2.2.1 (by decide))) c26; simp [nerB, bI, gi]) d_X_areTooNear_30
  · refine lv_iconst (v := 0) hx hb d_X_areTooNear_11 (by decide) ?_
    exact rt_i hQ hx hb hr hlk hs (rfl) (by simp [nerB, bI, c8]) d_X_areTooNear_12
def rm_X_needClassOrNone : Room := { frames := 7, cells := 1, slots := 6, locals := 104 }
set_option maxRecDepth 100000 in
set_option maxHeartbeats 4000000 in
theorem c_X_needClassOrNone {l : Launch} {ev : EV} {H0 : Heap} {b : Nat} {u : XS} (hT : l.stackTraces = false) (hold : Old ev H0) (hw : XW ev b u H0) (x : Int32) : vx_Met l my_X_needClassOrNone mw_X_needClassOrNone rm_X_needClassOrNone (cP [.ref b, .int x] (KG ev) H0) (cQo (okCN u.1.1 x)) (cX (fun E H1 => ¬ (okCN u.1.1 x) ∧ E = cIX ∧ Ext H0 H1)) 1 6 cNo := by
  refine cHeadX [.ref b, .int x] (by decide) rfl (Nat.le_of_ble_eq_true rfl) ?_
  intro p e s m below meth c ls args QQ hQ htab S hr hlk hnm hs hK hl
  have S : CallFix p m c mb_X_needClassOrNone 2 s args TB "RuleChoice" := S
  obtain ⟨hx, hb, hml, hown, hts⟩ := id S
  have hl : lv_has ls 2 [(0, .ref b), (1, .int x)] := hl
  refine lv_iload_n hx hb d_X_needClassOrNone_0 rfl (lv_at hl 1 rfl) ?_
  refine lv_iconst (v := (-1)) hx hb d_X_needClassOrNone_1 (by decide) ?_
  refine lv_icmp_eq (tgt := 10) hx hb d_X_needClassOrNone_2 (by decide) (fun c2 => ?_) (fun c2 => ?_)
  · exact rx_v hQ (Or.inl c2) hx hb hr hlk hs d_X_needClassOrNone_10
  · refine lv_aload_n hx hb d_X_needClassOrNone_5 rfl (lv_at hl 0 rfl) ?_
    refine lv_iload_n hx hb d_X_needClassOrNone_6 rfl (lv_at hl 1 rfl) ?_
    refine cx_v (vx_runV (As := [.int x]) (rest := []) S (c_X_needClass hT hold hw x) (cwV 1 hts gv_X_113 rfl rfl rfl (by decide +kernel) ⟨Nat.le_of_ble_eq_true rfl, Nat.le_of_ble_eq_true rfl⟩) (cP_V (KG_ok _) hK hK.1 hw.1 rfl) rfl rfl hl.1 rfl (lv_room (Nat.le_of_ble_eq_true rfl)) d_X_needClassOrNone_7 ⟨Nat.le_of_ble_eq_true rfl, Nat.le_of_ble_eq_true rfl⟩) (A := cNo) cNil (fun E1 H2 ce3 q4 L5 hp6 hL7 h8 h9 h10 => ?_) (fun k11 => ?_)
    · exact cx_out hQ htab hlk h8 h9 h10 ⟨fun h => h.elim c2 hp6.1, hp6.2.1, hp6.2.2⟩ hL7 (Nat.le_of_ble_eq_true rfl) (Nat.le_of_ble_eq_true rfl)
    · exact rx_vc hQ (Or.inr k11) hx hb hr hlk hs cNil (Nat.le_of_ble_eq_true rfl) (Nat.le_of_ble_eq_true rfl) d_X_needClassOrNone_10
def rm_X_needLayerOrNone : Room := { frames := 7, cells := 1, slots := 6, locals := 104 }
set_option maxRecDepth 100000 in
set_option maxHeartbeats 4000000 in
theorem c_X_needLayerOrNone {l : Launch} {ev : EV} {H0 : Heap} {b : Nat} {fs : List Value} (hT : l.stackTraces = false) (hold : Old ev H0) (hw0 : pt ev H0 b (oC 0 fs)) (x : Int32) : vx_Met l my_X_needLayerOrNone mw_X_needLayerOrNone rm_X_needLayerOrNone (cP [.ref b, .int x] (KG ev) H0) (cQo (okLN x)) (cX (fun E H1 => ¬ (okLN x) ∧ E = cIX ∧ Ext H0 H1)) 1 6 cNo := by
  refine cHeadX [.ref b, .int x] (by decide) rfl (Nat.le_of_ble_eq_true rfl) ?_
  intro p e s m below meth c ls args QQ hQ htab S hr hlk hnm hs hK hl
  have S : CallFix p m c mb_X_needLayerOrNone 2 s args TB "RuleChoice" := S
  obtain ⟨hx, hb, hml, hown, hts⟩ := id S
  have hl : lv_has ls 2 [(0, .ref b), (1, .int x)] := hl
  refine lv_iload_n hx hb d_X_needLayerOrNone_0 rfl (lv_at hl 1 rfl) ?_
  refine lv_iconst (v := (-1)) hx hb d_X_needLayerOrNone_1 (by decide) ?_
  refine lv_icmp_eq (tgt := 10) hx hb d_X_needLayerOrNone_2 (by decide) (fun c2 => ?_) (fun c2 => ?_)
  · exact rx_v hQ (Or.inl c2) hx hb hr hlk hs d_X_needLayerOrNone_10
  · refine lv_aload_n hx hb d_X_needLayerOrNone_5 rfl (lv_at hl 0 rfl) ?_
    refine lv_iload_n hx hb d_X_needLayerOrNone_6 rfl (lv_at hl 1 rfl) ?_
    refine cx_v (vx_runV (As := [.int x]) (rest := []) S (c_X_needLayer hT hold x) (cwV 1 hts gv_X_116 rfl rfl rfl (by decide +kernel) ⟨Nat.le_of_ble_eq_true rfl, Nat.le_of_ble_eq_true rfl⟩) (cP_V (KG_ok _) hK hK.1 hw0 rfl) rfl rfl hl.1 rfl (lv_room (Nat.le_of_ble_eq_true rfl)) d_X_needLayerOrNone_7 ⟨Nat.le_of_ble_eq_true rfl, Nat.le_of_ble_eq_true rfl⟩) (A := cNo) cNil (fun E1 H2 ce3 q4 L5 hp6 hL7 h8 h9 h10 => ?_) (fun k11 => ?_)
    · exact cx_out hQ htab hlk h8 h9 h10 ⟨fun h => h.elim c2 hp6.1, hp6.2.1, hp6.2.2⟩ hL7 (Nat.le_of_ble_eq_true rfl) (Nat.le_of_ble_eq_true rfl)
    · exact rx_vc hQ (Or.inr k11) hx hb hr hlk hs cNil (Nat.le_of_ble_eq_true rfl) (Nat.le_of_ble_eq_true rfl) d_X_needLayerOrNone_10
def rm_X_needKindAndThings : Room := { frames := 7, cells := 3, slots := 18, locals := 104 }
set_option maxRecDepth 100000 in
set_option maxHeartbeats 4000000 in
theorem c_X_needKindAndThings {l : Launch} {ev : EV} {H0 : Heap} {b : Nat} {u : XS} (hT : l.stackTraces = false) (hold : Old ev H0) (hw : XW ev b u H0) (k x y : Int32) : vx_Met l my_X_needKindAndThings mw_X_needKindAndThings rm_X_needKindAndThings (cP [.ref b, .int k, .int x, .int y] (KG ev) H0) (cQo (okK k ∧ okI u.1.2.2.2.1 x ∧ okI u.1.2.2.2.1 y)) (cX (fun E H1 => ¬ (okK k ∧ okI u.1.2.2.2.1 x ∧ okI u.1.2.2.2.1 y) ∧ E = cIX ∧ Ext H0 H1)) 3 18 cNo := by
  refine cHeadX [.ref b, .int k, .int x, .int y] (by decide) rfl (Nat.le_of_ble_eq_true rfl) ?_
  intro p e s m below meth c ls args QQ hQ htab S hr hlk hnm hs hK hl
  have S : CallFix p m c mb_X_needKindAndThings 4 s args TB "RuleChoice" := S
  obtain ⟨hx, hb, hml, hown, hts⟩ := id S
  have hl : lv_has ls 4 [(0, .ref b), (1, .int k), (2, .int x), (3, .int y)] := hl
  refine lv_aload_n hx hb d_X_needKindAndThings_0 rfl (lv_at hl 0 rfl) ?_
  refine lv_iload_n hx hb d_X_needKindAndThings_1 rfl (lv_at hl 1 rfl) ?_
  refine cx_v (vx_runV (As := [.int k]) (rest := []) S (c_X_needKind hT hold k) (cwV 1 hts gv_X_57 rfl rfl rfl (by decide +kernel) ⟨Nat.le_of_ble_eq_true rfl, Nat.le_of_ble_eq_true rfl⟩) (cP_V (KG_ok _) hK hK.1 hw.1 rfl) rfl rfl hl.1 rfl (lv_room (Nat.le_of_ble_eq_true rfl)) d_X_needKindAndThings_2 ⟨Nat.le_of_ble_eq_true rfl, Nat.le_of_ble_eq_true rfl⟩) (A := cNo) cNil (fun E1 H2 ce3 q4 L5 hp6 hL7 h8 h9 h10 => ?_) (fun k11 => ?_)
  · exact cx_out hQ htab hlk h8 h9 h10 ⟨fun h => hp6.1 h.1, hp6.2.1, hp6.2.2⟩ hL7 (Nat.le_of_ble_eq_true rfl) (Nat.le_of_ble_eq_true rfl)
  · refine lv_aload_n hx hb d_X_needKindAndThings_5 rfl (lv_at hl 0 rfl) ?_
    refine lv_iload_n hx hb d_X_needKindAndThings_6 rfl (lv_at hl 2 rfl) ?_
    refine cx_v (vx_runV (As := [.int x]) (rest := []) S (c_X_needThing hT hold hw x) (cwV 1 hts gv_X_129 rfl rfl rfl (by decide +kernel) ⟨Nat.le_of_ble_eq_true rfl, Nat.le_of_ble_eq_true rfl⟩) (cP_V (KG_ok _) hK hK.1 hw.1 rfl) rfl rfl hl.1 rfl (lv_room (Nat.le_of_ble_eq_true rfl)) d_X_needKindAndThings_7 ⟨Nat.le_of_ble_eq_true rfl, Nat.le_of_ble_eq_true rfl⟩) (A := cNo) cNil (fun E12 H13 ce14 q15 L16 hp17 hL18 h19 h20 h21 => ?_) (fun k22 => ?_)
    · exact cx_out hQ htab hlk h19 h20 h21 ⟨fun h => hp17.1 h.2.1, hp17.2.1, hp17.2.2⟩ hL18 (Nat.le_of_ble_eq_true rfl) (Nat.le_of_ble_eq_true rfl)
    · refine lv_aload_n hx hb d_X_needKindAndThings_10 rfl (lv_at hl 0 rfl) ?_
      refine lv_iload_n hx hb d_X_needKindAndThings_11 rfl (lv_at hl 3 rfl) ?_
      refine cx_v (vx_runV (As := [.int y]) (rest := []) S (c_X_needThing hT hold hw y) (cwV 1 hts gv_X_129 rfl rfl rfl (by decide +kernel) ⟨Nat.le_of_ble_eq_true rfl, Nat.le_of_ble_eq_true rfl⟩) (cP_V (KG_ok _) hK hK.1 hw.1 rfl) rfl rfl hl.1 rfl (lv_room (Nat.le_of_ble_eq_true rfl)) d_X_needKindAndThings_12 ⟨Nat.le_of_ble_eq_true rfl, Nat.le_of_ble_eq_true rfl⟩) (A := cNo) cNil (fun E23 H24 ce25 q26 L27 hp28 hL29 h30 h31 h32 => ?_) (fun k33 => ?_)
      · exact cx_out hQ htab hlk h30 h31 h32 ⟨fun h => hp28.1 h.2.2, hp28.2.1, hp28.2.2⟩ hL29 (Nat.le_of_ble_eq_true rfl) (Nat.le_of_ble_eq_true rfl)
      · exact rx_vc hQ (⟨k11, k22, k33⟩) hx hb hr hlk hs cNil (Nat.le_of_ble_eq_true rfl) (Nat.le_of_ble_eq_true rfl) d_X_needKindAndThings_15
end
section
def rm_R_tell : Room := { frames := 0, cells := 0, slots := 0, locals := 0 }
set_option maxRecDepth 100000 in
set_option maxHeartbeats 4000000 in
theorem c_R_tell {l : Launch} {ev : EV} {H0 : Heap} {a : Nat} {r : Ru} (h0 : pt ev H0 a (oC 4 (ruV r))) (k ca cb la : Int32) (v : Int64) : Met l my_R_tell mw_R_tell rm_R_tell (cP [.ref a, .int k, .int ca, .int cb, .int la, .long v] (KG ev) H0) (cQd none (fun H1 => pt ev H1 a (oC 4 (ruV (k, ca, cb, la, v, r.2.2.2.2.2))) ∧ Blk a (a + 1) H0 H1)) 0 0 (inBk a (a + 1)) := by
  refine cHead [.ref a, .int k, .int ca, .int cb, .int la, .long v] (by decide) rfl (Nat.le_of_ble_eq_true rfl) ?_
  intro p e s m below meth c ls args QQ hQ S hr hlk hnm hs hK hl
  have S : CallFix p m c mb_R_tell 7 s args TB "RuleChoice$Rule" := S
  obtain ⟨hx, hb, hml, hown, hts⟩ := id S
  have hl : lv_has ls 7 [(0, .ref a), (1, .int k), (2, .int ca), (3, .int cb), (4, .int la), (5, .long v)] := hl
  refine lv_aload_n hx hb d_R_tell_0 rfl (lv_at hl 0 rfl) ?_
  refine lv_iload_n hx hb d_R_tell_1 rfl (lv_at hl 1 rfl) ?_
  refine rw_put hx hb hts in_R ck_R ok_R nm_R hown hK.1 h0 rfl 0 (by decide) (hts _ fl_R_15) rfl (ok_R 0 (by decide)) rfl rfl (Nat.le_of_ble_eq_true rfl) (⟨Nat.le_refl _, Nat.lt_succ_self _⟩) (A := inBk a (a + 1)) cNil d_R_tell_2 (fun H1 L2 z3 o4 hat5 hL6 => ?_)
  have hB7 := Blk.trans (Blk.rf (lo := a) (hi := a + 1) (H := H0)) (Blk.one z3 o4)
  refine lv_aload_n hx hb d_R_tell_5 rfl (lv_at hl 0 rfl) ?_
  refine lv_iload_n hx hb d_R_tell_6 rfl (lv_at hl 2 rfl) ?_
  refine rw_put hx hb hts in_R ck_R ok_R nm_R hown hK.1 hat5 rfl 1 (by decide) (hts _ fl_R_18) rfl (ok_R 1 (by decide)) rfl rfl (Nat.le_of_ble_eq_true rfl) (⟨Nat.le_refl _, Nat.lt_succ_self _⟩) hL6 d_R_tell_7 (fun H8 L9 z10 o11 hat12 hL13 => ?_)
  have hB14 := Blk.trans hB7 (Blk.one z10 o11)
  refine lv_aload_n hx hb d_R_tell_10 rfl (lv_at hl 0 rfl) ?_
  refine lv_iload_n hx hb d_R_tell_11 rfl (lv_at hl 3 rfl) ?_
  refine rw_put hx hb hts in_R ck_R ok_R nm_R hown hK.1 hat12 rfl 2 (by decide) (hts _ fl_R_21) rfl (ok_R 2 (by decide)) rfl rfl (Nat.le_of_ble_eq_true rfl) (⟨Nat.le_refl _, Nat.lt_succ_self _⟩) hL13 d_R_tell_12 (fun H15 L16 z17 o18 hat19 hL20 => ?_)
  have hB21 := Blk.trans hB14 (Blk.one z17 o18)
  refine lv_aload_n hx hb d_R_tell_15 rfl (lv_at hl 0 rfl) ?_
  refine lv_iload hx hb d_R_tell_16 (lv_at hl 4 rfl) ?_
  refine rw_put hx hb hts in_R ck_R ok_R nm_R hown hK.1 hat19 rfl 3 (by decide) (hts _ fl_R_24) rfl (ok_R 3 (by decide)) rfl rfl (Nat.le_of_ble_eq_true rfl) (⟨Nat.le_refl _, Nat.lt_succ_self _⟩) hL20 d_R_tell_18 (fun H22 L23 z24 o25 hat26 hL27 => ?_)
  have hB28 := Blk.trans hB21 (Blk.one z24 o25)
  refine lv_aload_n hx hb d_R_tell_21 rfl (lv_at hl 0 rfl) ?_
  refine lv_lload hx hb d_R_tell_22 (lv_at hl 5 rfl) ?_
  refine rw_put hx hb hts in_R ck_R ok_R nm_R hown hK.1 hat26 rfl 4 (by decide) (hts _ fl_R_27) rfl (ok_R 4 (by decide)) rfl rfl (Nat.le_of_ble_eq_true rfl) (⟨Nat.le_refl _, Nat.lt_succ_self _⟩) hL27 d_R_tell_24 (fun H29 L30 z31 o32 hat33 hL34 => ?_)
  have hB35 := Blk.trans hB28 (Blk.one z31 o32)
  exact rt_dv hQ hx hb hr hlk ⟨hat33, hB35⟩ hL34 (Nat.le_of_ble_eq_true rfl) (Nat.le_of_ble_eq_true rfl) d_R_tell_27
def rm_A_span : Room := { frames := 0, cells := 0, slots := 0, locals := 0 }
set_option maxRecDepth 100000 in
set_option maxHeartbeats 4000000 in
theorem c_A_span {l : Launch} {ev : EV} {H0 : Heap} {a : Nat} {r : Aa} (h0 : pt ev H0 a (oC 2 (aaV r))) (x0 y0 x1 y1 : Int64) : Met l my_A_span mw_A_span rm_A_span (cP [.ref a, .long x0, .long y0, .long x1, .long y1] (KG ev) H0) (cQd none (fun H1 => pt ev H1 a (oC 2 (aaV (x0, y0, x1, y1))) ∧ Blk a (a + 1) H0 H1)) 0 0 (inBk a (a + 1)) := by
  refine cHead [.ref a, .long x0, .long y0, .long x1, .long y1] (by decide) rfl (Nat.le_of_ble_eq_true rfl) ?_
  intro p e s m below meth c ls args QQ hQ S hr hlk hnm hs hK hl
  have S : CallFix p m c mb_A_span 9 s args TB "RuleChoice$Area" := S
  obtain ⟨hx, hb, hml, hown, hts⟩ := id S
  have hl : lv_has ls 9 [(0, .ref a), (1, .long x0), (3, .long y0), (5, .long x1), (7, .long y1)] := hl
  refine lv_aload_n hx hb d_A_span_0 rfl (lv_at hl 0 rfl) ?_
  refine lv_lload_n hx hb d_A_span_1 rfl (lv_at hl 1 rfl) ?_
  refine rw_put hx hb hts in_A ck_A ok_A nm_A hown hK.1 h0 rfl 0 (by decide) (hts _ fl_A_7) rfl (ok_A 0 (by decide)) rfl rfl (Nat.le_of_ble_eq_true rfl) (⟨Nat.le_refl _, Nat.lt_succ_self _⟩) (A := inBk a (a + 1)) cNil d_A_span_2 (fun H1 L2 z3 o4 hat5 hL6 => ?_)
  have hB7 := Blk.trans (Blk.rf (lo := a) (hi := a + 1) (H := H0)) (Blk.one z3 o4)
  refine lv_aload_n hx hb d_A_span_5 rfl (lv_at hl 0 rfl) ?_
  refine lv_lload_n hx hb d_A_span_6 rfl (lv_at hl 2 rfl) ?_
  refine rw_put hx hb hts in_A ck_A ok_A nm_A hown hK.1 hat5 rfl 1 (by decide) (hts _ fl_A_13) rfl (ok_A 1 (by decide)) rfl rfl (Nat.le_of_ble_eq_true rfl) (⟨Nat.le_refl _, Nat.lt_succ_self _⟩) hL6 d_A_span_7 (fun H8 L9 z10 o11 hat12 hL13 => ?_)
  have hB14 := Blk.trans hB7 (Blk.one z10 o11)
  refine lv_aload_n hx hb d_A_span_10 rfl (lv_at hl 0 rfl) ?_
  refine lv_lload hx hb d_A_span_11 (lv_at hl 3 rfl) ?_
  refine rw_put hx hb hts in_A ck_A ok_A nm_A hown hK.1 hat12 rfl 2 (by decide) (hts _ fl_A_16) rfl (ok_A 2 (by decide)) rfl rfl (Nat.le_of_ble_eq_true rfl) (⟨Nat.le_refl _, Nat.lt_succ_self _⟩) hL13 d_A_span_13 (fun H15 L16 z17 o18 hat19 hL20 => ?_)
  have hB21 := Blk.trans hB14 (Blk.one z17 o18)
  refine lv_aload_n hx hb d_A_span_16 rfl (lv_at hl 0 rfl) ?_
  refine lv_lload hx hb d_A_span_17 (lv_at hl 4 rfl) ?_
  refine rw_put hx hb hts in_A ck_A ok_A nm_A hown hK.1 hat19 rfl 3 (by decide) (hts _ fl_A_19) rfl (ok_A 3 (by decide)) rfl rfl (Nat.le_of_ble_eq_true rfl) (⟨Nat.le_refl _, Nat.lt_succ_self _⟩) hL20 d_A_span_19 (fun H22 L23 z24 o25 hat26 hL27 => ?_)
  have hB28 := Blk.trans hB21 (Blk.one z24 o25)
  exact rt_dv hQ hx hb hr hlk ⟨hat26, hB28⟩ hL27 (Nat.le_of_ble_eq_true rfl) (Nat.le_of_ble_eq_true rfl) d_A_span_22
def rm_T_become : Room := { frames := 0, cells := 0, slots := 0, locals := 0 }
set_option maxRecDepth 100000 in
set_option maxHeartbeats 4000000 in
theorem c_T_become {l : Launch} {ev : EV} {H0 : Heap} {a : Nat} {r : Tt} (h0 : pt ev H0 a (oC 5 (ttV r))) (x y : Int32) : Met l my_T_become mw_T_become rm_T_become (cP [.ref a, .int x, .int y] (KG ev) H0) (cQd none (fun H1 => pt ev H1 a (oC 5 (ttV (x, y, r.2.2))) ∧ Blk a (a + 1) H0 H1)) 0 0 (inBk a (a + 1)) := by
  refine cHead [.ref a, .int x, .int y] (by decide) rfl (Nat.le_of_ble_eq_true rfl) ?_
  intro p e s m below meth c ls args QQ hQ S hr hlk hnm hs hK hl
  have S : CallFix p m c mb_T_become 3 s args TB "RuleChoice$Thing" := S
  obtain ⟨hx, hb, hml, hown, hts⟩ := id S
  have hl : lv_has ls 3 [(0, .ref a), (1, .int x), (2, .int y)] := hl
  refine lv_aload_n hx hb d_T_become_0 rfl (lv_at hl 0 rfl) ?_
  refine lv_iload_n hx hb d_T_become_1 rfl (lv_at hl 1 rfl) ?_
  refine rw_put hx hb hts in_T ck_T ok_T nm_T hown hK.1 h0 rfl 0 (by decide) (hts _ fl_T_7) rfl (ok_T 0 (by decide)) rfl rfl (Nat.le_of_ble_eq_true rfl) (⟨Nat.le_refl _, Nat.lt_succ_self _⟩) (A := inBk a (a + 1)) cNil d_T_become_2 (fun H1 L2 z3 o4 hat5 hL6 => ?_)
  have hB7 := Blk.trans (Blk.rf (lo := a) (hi := a + 1) (H := H0)) (Blk.one z3 o4)
  refine lv_aload_n hx hb d_T_become_5 rfl (lv_at hl 0 rfl) ?_
  refine lv_iload_n hx hb d_T_become_6 rfl (lv_at hl 2 rfl) ?_
  refine rw_put hx hb hts in_T ck_T ok_T nm_T hown hK.1 hat5 rfl 1 (by decide) (hts _ fl_T_13) rfl (ok_T 1 (by decide)) rfl rfl (Nat.le_of_ble_eq_true rfl) (⟨Nat.le_refl _, Nat.lt_succ_self _⟩) hL6 d_T_become_7 (fun H8 L9 z10 o11 hat12 hL13 => ?_)
  have hB14 := Blk.trans hB7 (Blk.one z10 o11)
  exact rt_dv hQ hx hb hr hlk ⟨hat12, hB14⟩ hL13 (Nat.le_of_ble_eq_true rfl) (Nat.le_of_ble_eq_true rfl) d_T_become_10
def rm_T_put : Room := { frames := 0, cells := 0, slots := 0, locals := 0 }
set_option maxRecDepth 100000 in
set_option maxHeartbeats 4000000 in
theorem c_T_put {l : Launch} {ev : EV} {H0 : Heap} {a : Nat} {r : Tt} (h0 : pt ev H0 a (oC 5 (ttV r))) (x y : Int64) : Met l my_T_put mw_T_put rm_T_put (cP [.ref a, .long x, .long y] (KG ev) H0) (cQd none (fun H1 => pt ev H1 a (oC 5 (ttV (r.1, r.2.1, x, y))) ∧ Blk a (a + 1) H0 H1)) 0 0 (inBk a (a + 1)) := by
  refine cHead [.ref a, .long x, .long y] (by decide) rfl (Nat.le_of_ble_eq_true rfl) ?_
  intro p e s m below meth c ls args QQ hQ S hr hlk hnm hs hK hl
  have S : CallFix p m c mb_T_put 5 s args TB "RuleChoice$Thing" := S
  obtain ⟨hx, hb, hml, hown, hts⟩ := id S
  have hl : lv_has ls 5 [(0, .ref a), (1, .long x), (3, .long y)] := hl
  refine lv_aload_n hx hb d_T_put_0 rfl (lv_at hl 0 rfl) ?_
  refine lv_lload_n hx hb d_T_put_1 rfl (lv_at hl 1 rfl) ?_
  refine rw_put hx hb hts in_T ck_T ok_T nm_T hown hK.1 h0 rfl 2 (by decide) (hts _ fl_T_16) rfl (ok_T 2 (by decide)) rfl rfl (Nat.le_of_ble_eq_true rfl) (⟨Nat.le_refl _, Nat.lt_succ_self _⟩) (A := inBk a (a + 1)) cNil d_T_put_2 (fun H1 L2 z3 o4 hat5 hL6 => ?_)
  have hB7 := Blk.trans (Blk.rf (lo := a) (hi := a + 1) (H := H0)) (Blk.one z3 o4)
  refine lv_aload_n hx hb d_T_put_5 rfl (lv_at hl 0 rfl) ?_
  refine lv_lload_n hx hb d_T_put_6 rfl (lv_at hl 2 rfl) ?_
  refine rw_put hx hb hts in_T ck_T ok_T nm_T hown hK.1 hat5 rfl 3 (by decide) (hts _ fl_T_20) rfl (ok_T 3 (by decide)) rfl rfl (Nat.le_of_ble_eq_true rfl) (⟨Nat.le_refl _, Nat.lt_succ_self _⟩) hL6 d_T_put_7 (fun H8 L9 z10 o11 hat12 hL13 => ?_)
  have hB14 := Blk.trans hB7 (Blk.one z10 o11)
  exact rt_dv hQ hx hb hr hlk ⟨hat12, hB14⟩ hL13 (Nat.le_of_ble_eq_true rfl) (Nat.le_of_ble_eq_true rfl) d_T_put_10
def rm_N_slotOf : Room := { frames := 1, cells := 0, slots := 0, locals := 29 }
theorem sl_eq {k x y : Nat} (hk : k < 6) (hx : x < 40) (hy : y < 40) : nI k * 820 + (if nI x < nI y then nI y else nI x) * ((if nI x < nI y then nI y else nI x) + 1) / 2 + (if nI y < nI x then nI y else nI x) = nI (sIx k x y) := by
  have e1 : (if nI x < nI y then nI y else nI x) = nI (max x y) := by
    by_cases h : x < y
    · rw [if_pos ((nI_ltI (by omega) (by omega)).mpr h), Nat.max_eq_right (by omega)]
    · rw [if_neg (fun q => h ((nI_ltI (by omega) (by omega)).mp q)), Nat.max_eq_left (by omega)]
  have e2 : (if nI y < nI x then nI y else nI x) = nI (min x y) := by
    by_cases h : y < x
    · rw [if_pos ((nI_ltI (by omega) (by omega)).mpr h), Nat.min_eq_right (by omega)]
    · rw [if_neg (fun q => h ((nI_ltI (by omega) (by omega)).mp q)), Nat.min_eq_left (by omega)]
  have hm : max x y < 40 := by omega
  have hm2 : max x y * (max x y + 1) ≤ 39 * 40 := Nat.mul_le_mul (by omega) (by omega)
  rw [e1, e2, nI_1, pk_mul, show (820 : Int32) = nI 820 from rfl, pk_mul, show (2 : Int32) = nI 2 from rfl, pk_div (by omega) (by omega) (by omega), nI_add, nI_add]
  unfold sIx
  rw [Nat.add_assoc]
set_option maxRecDepth 100000 in
set_option maxHeartbeats 4000000 in
theorem c_N_slotOf {l : Launch} {ev : EV} {H0 : Heap} {k x y : Nat} {p0 p1 p2 : Int32} (e0 : p0 = nI k) (e1 : p1 = nI x) (e2 : p2 = nI y) (hk : k < 6) (hx0 : x < 40) (hy0 : y < 40) : Met l my_N_slotOf mw_N_slotOf rm_N_slotOf (cP [.int p0, .int p1, .int p2] (KG ev) H0) (cQp (some (.int (nI (sIx k x y))))) 0 0 cNo := by
  refine cHead [.int p0, .int p1, .int p2] (by decide) rfl (Nat.le_of_ble_eq_true rfl) ?_
  intro p e s m below meth c ls args QQ hQ S hr hlk hnm hs hK hl
  have S : CallFix p m c mb_N_slotOf 5 s args TB "RuleChoice$Answers" := S
  obtain ⟨hx, hb, hml, hown, hts⟩ := id S
  subst e0; subst e1; subst e2
  have hl : lv_has ls 5 [(0, .int (nI k)), (1, .int (nI x)), (2, .int (nI y))] := hl
  refine lv_iload_n hx hb d_N_slotOf_0 rfl (lv_at hl 1 rfl) ?_
  refine lv_iload_n hx hb d_N_slotOf_1 rfl (lv_at hl 2 rfl) ?_
  refine va_mmax hx hb (hml.trans hl.1.symm) hown (hts _ ml_N_27) (hts _ st_max) (hts _ iz_Math) (hts _ in_max) (Nat.le_of_ble_eq_true rfl) (Nat.le_of_ble_eq_true rfl) (Nat.le_of_ble_eq_true rfl) (Nat.le_of_ble_eq_true rfl) d_N_slotOf_2 ?_
  refine lv_istore_n (lv' := [(3, .int (if (nI x) < (nI y) then (nI y) else (nI x))), (0, .int (nI k)), (1, .int (nI x)), (2, .int (nI y))]) hx hb d_N_slotOf_5 rfl hl (by decide) rfl (fun ls hl => ?_)
  refine lv_iload_n hx hb d_N_slotOf_6 rfl (lv_at hl 2 rfl) ?_
  refine lv_iload_n hx hb d_N_slotOf_7 rfl (lv_at hl 3 rfl) ?_
  refine va_mmin hx hb (hml.trans hl.1.symm) hown (hts _ ml_N_33) (hts _ st_min) (hts _ iz_Math) (hts _ in_min) (Nat.le_of_ble_eq_true rfl) (Nat.le_of_ble_eq_true rfl) (Nat.le_of_ble_eq_true rfl) (Nat.le_of_ble_eq_true rfl) d_N_slotOf_8 ?_
  refine lv_istore (lv' := [(4, .int (if (nI y) < (nI x) then (nI y) else (nI x))), (3, .int (if (nI x) < (nI y) then (nI y) else (nI x))), (0, .int (nI k)), (1, .int (nI x)), (2, .int (nI y))]) hx hb d_N_slotOf_11 hl (by decide) rfl (fun ls hl => ?_)
  refine lv_iload_n hx hb d_N_slotOf_13 rfl (lv_at hl 2 rfl) ?_
  refine lv_sipush (v := 820) hx hb d_N_slotOf_14 (by decide) ?_
  refine lv_imul hx hb d_N_slotOf_17 ?_
  refine lv_iload_n hx hb d_N_slotOf_18 rfl (lv_at hl 1 rfl) ?_
  refine lv_iload_n hx hb d_N_slotOf_19 rfl (lv_at hl 1 rfl) ?_
  refine lv_iconst (v := 1) hx hb d_N_slotOf_20 (by decide) ?_
  refine lv_iadd hx hb d_N_slotOf_21 ?_
  refine lv_imul hx hb d_N_slotOf_22 ?_
  refine lv_iconst (v := 2) hx hb d_N_slotOf_23 (by decide) ?_
  refine lv_idiv hx hb d_N_slotOf_24 (by decide) ?_
  refine lv_iadd hx hb d_N_slotOf_25 ?_
  refine lv_iload hx hb d_N_slotOf_26 (lv_at hl 0 rfl) ?_
  refine lv_iadd hx hb d_N_slotOf_28 ?_
  exact rt_i hQ hx hb hr hlk hs (rfl) (sl_eq hk hx0 hy0) d_N_slotOf_29
def rm_N_has : Room := { frames := 2, cells := 0, slots := 0, locals := 53 }
set_option maxRecDepth 100000 in
set_option maxHeartbeats 4000000 in
theorem c_N_has {l : Launch} {ev : EV} {H0 : Heap} {q : Nat} {sl : Nat → Int32} (hn : xN ev q sl H0) {k x y : Nat} {p0 p1 p2 : Int32} (e0 : p0 = nI k) (e1 : p1 = nI x) (e2 : p2 = nI y) (hk : k < 6) (hx0 : x < 40) (hy0 : y < 40) : Met l my_N_has mw_N_has rm_N_has (cP [.ref q, .int p0, .int p1, .int p2] (KG ev) H0) (cQp (some (.int (bI (!decide (sl (sIx k x y) = 0)))))) 0 0 cNo := by
  refine cHead [.ref q, .int p0, .int p1, .int p2] (by decide) rfl (Nat.le_of_ble_eq_true rfl) ?_
  intro p e s m below meth c ls args QQ hQ S hr hlk hnm hs hK hl
  have S : CallFix p m c mb_N_has 4 s args TB "RuleChoice$Answers" := S
  obtain ⟨hx, hb, hml, hown, hts⟩ := id S
  subst e0; subst e1; subst e2
  have hl : lv_has ls 4 [(0, .ref q), (1, .int (nI k)), (2, .int (nI x)), (3, .int (nI y))] := hl
  refine lv_aload_n hx hb d_N_has_0 rfl (lv_at hl 0 rfl) ?_
  refine rw_get hx hb hts in_N hown hK.1 hn.1 rfl 0 (by decide) (hts _ fl_N_11) rfl d_N_has_1 ?_
  refine lv_iload_n hx hb d_N_has_4 rfl (lv_at hl 1 rfl) ?_
  refine lv_iload_n hx hb d_N_has_5 rfl (lv_at hl 2 rfl) ?_
  refine lv_iload_n hx hb d_N_has_6 rfl (lv_at hl 3 rfl) ?_
  refine cl_i (W.runS (As := [.int (nI k), .int (nI x), .int (nI y)]) (rest := [.ref (q + 1)]) S (c_N_slotOf (rfl) (rfl) (rfl) (hk) (hx0) (hy0)) (va_cwS 3 hts gs_N_15 rfl rfl rfl (by decide +kernel) ⟨Nat.le_of_ble_eq_true rfl, Nat.le_of_ble_eq_true rfl⟩) (cP_S (KG_ok _) hK) rfl rfl hl.1 rfl (lv_room (Nat.le_of_ble_eq_true rfl)) d_N_has_7 ⟨Nat.le_of_ble_eq_true rfl, Nat.le_of_ble_eq_true rfl⟩) ?_
  refine rw_iald hx hb hK.1 0 hn.2 rfl (sIx k x y) (rfl) (sIx_lt (hk) (hx0) (hy0)) (by decide) d_N_has_10 ?_
  refine lv_if_eq (tgt := 18) hx hb d_N_has_11 (by decide) (fun c11 => ?_) (fun c11 => ?_)
  · refine lv_iconst (v := 0) hx hb d_N_has_18 (by decide) ?_
    exact rt_i hQ hx hb hr hlk hs (rfl) (by simp [bI, c11]) d_N_has_19
  · refine lv_iconst (v := 1) hx hb d_N_has_14 (by decide) ?_
    refine lv_goto (tgt := 19) hx hb d_N_has_15 (by decide) ?_
    exact rt_i hQ hx hb hr hlk hs (rfl) (by simp [bI, c11]) d_N_has_19
def rm_N_read : Room := { frames := 2, cells := 0, slots := 0, locals := 53 }
set_option maxRecDepth 100000 in
set_option maxHeartbeats 4000000 in
theorem c_N_read {l : Launch} {ev : EV} {H0 : Heap} {q : Nat} {sl : Nat → Int32} (hn : xN ev q sl H0) {k x y : Nat} {p0 p1 p2 : Int32} (e0 : p0 = nI k) (e1 : p1 = nI x) (e2 : p2 = nI y) (hk : k < 6) (hx0 : x < 40) (hy0 : y < 40) : Met l my_N_read mw_N_read rm_N_read (cP [.ref q, .int p0, .int p1, .int p2] (KG ev) H0) (cQp (some (.int (sl (sIx k x y) - 2)))) 0 0 cNo := by
  refine cHead [.ref q, .int p0, .int p1, .int p2] (by decide) rfl (Nat.le_of_ble_eq_true rfl) ?_
  intro p e s m below meth c ls args QQ hQ S hr hlk hnm hs hK hl
  have S : CallFix p m c mb_N_read 4 s args TB "RuleChoice$Answers" := S
  obtain ⟨hx, hb, hml, hown, hts⟩ := id S
  subst e0; subst e1; subst e2
  have hl : lv_has ls 4 [(0, .ref q), (1, .int (nI k)), (2, .int (nI x)), (3, .int (nI y))] := hl
  refine lv_aload_n hx hb d_N_read_0 rfl (lv_at hl 0 rfl) ?_
  refine rw_get hx hb hts in_N hown hK.1 hn.1 rfl 0 (by decide) (hts _ fl_N_11) rfl d_N_read_1 ?_
  refine lv_iload_n hx hb d_N_read_4 rfl (lv_at hl 1 rfl) ?_
  refine lv_iload_n hx hb d_N_read_5 rfl (lv_at hl 2 rfl) ?_
  refine lv_iload_n hx hb d_N_read_6 rfl (lv_at hl 3 rfl) ?_
  refine cl_i (W.runS (As := [.int (nI k), .int (nI x), .int (nI y)]) (rest := [.ref (q + 1)]) S (c_N_slotOf (rfl) (rfl) (rfl) (hk) (hx0) (hy0)) (va_cwS 3 hts gs_N_15 rfl rfl rfl (by decide +kernel) ⟨Nat.le_of_ble_eq_true rfl, Nat.le_of_ble_eq_true rfl⟩) (cP_S (KG_ok _) hK) rfl rfl hl.1 rfl (lv_room (Nat.le_of_ble_eq_true rfl)) d_N_read_7 ⟨Nat.le_of_ble_eq_true rfl, Nat.le_of_ble_eq_true rfl⟩) ?_
  refine rw_iald hx hb hK.1 0 hn.2 rfl (sIx k x y) (rfl) (sIx_lt (hk) (hx0) (hy0)) (by decide) d_N_read_10 ?_
  refine lv_iconst (v := 2) hx hb d_N_read_11 (by decide) ?_
  refine lv_isub hx hb d_N_read_12 ?_
  exact rt_i hQ hx hb hr hlk hs (rfl) (rfl) d_N_read_13
def rm_N_drop : Room := { frames := 0, cells := 0, slots := 0, locals := 0 }
set_option maxRecDepth 100000 in
set_option maxHeartbeats 4000000 in
theorem c_N_drop {l : Launch} {ev : EV} {H0 : Heap} {q : Nat} {sl : Nat → Int32} (hn : xN ev q sl H0) {i : Nat} {p0 : Int32} (e0 : p0 = nI i) (hi : i < 4920) : Met l my_N_drop mw_N_drop rm_N_drop (cP [.ref q, .int p0] (KG ev) H0) (cQd none (fun H1 => xN ev q (upd sl i 0) H1 ∧ Blk q (q + 2) H0 H1)) 0 0 (inBk q (q + 2)) := by
  refine cHead [.ref q, .int p0] (by decide) rfl (Nat.le_of_ble_eq_true rfl) ?_
  intro p e s m below meth c ls args QQ hQ S hr hlk hnm hs hK hl
  have S : CallFix p m c mb_N_drop 2 s args TB "RuleChoice$Answers" := S
  obtain ⟨hx, hb, hml, hown, hts⟩ := id S
  subst e0
  have hl : lv_has ls 2 [(0, .ref q), (1, .int (nI i))] := hl
  refine lv_aload_n hx hb d_N_drop_0 rfl (lv_at hl 0 rfl) ?_
  refine rw_get hx hb hts in_N hown hK.1 hn.1 rfl 0 (by decide) (hts _ fl_N_11) rfl d_N_drop_1 ?_
  refine lv_iload_n hx hb d_N_drop_4 rfl (lv_at hl 1 rfl) ?_
  refine rw_iald hx hb hK.1 0 hn.2 rfl i (rfl) (hi) (by decide) d_N_drop_5 ?_
  refine lv_if_eq (tgt := 26) hx hb d_N_drop_6 (by decide) (fun c6 => ?_) (fun c6 => ?_)
  · exact rt_dv hQ hx hb hr hlk ⟨by rw [upd_0 c6]; exact hn, Blk.rf⟩ cNil (Nat.le_of_ble_eq_true rfl) (Nat.le_of_ble_eq_true rfl) d_N_drop_26
  · refine lv_aload_n hx hb d_N_drop_9 rfl (lv_at hl 0 rfl) ?_
    refine rw_get hx hb hts in_N hown hK.1 hn.1 rfl 0 (by decide) (hts _ fl_N_11) rfl d_N_drop_10 ?_
    refine lv_iload_n hx hb d_N_drop_13 rfl (lv_at hl 1 rfl) ?_
    refine lv_iconst (v := 0) hx hb d_N_drop_14 (by decide) ?_
    refine rw_iast hx hb hK.1 0 hn.2 rfl i (rfl) (hi) (by decide) (⟨by omega, by omega⟩) (A := inBk q (q + 2)) cNil d_N_drop_15 (fun H1 L2 z3 o4 hat5 hL6 => ?_)
    have hB7 : Blk q (q + 2) H0 H1 := (Blk.one z3 o4).wide (by omega) (by omega)
    have hat9 := pt_k hn.1 (o4 q (by omega))
    refine lv_aload_n hx hb d_N_drop_16 rfl (lv_at hl 0 rfl) ?_
    refine lv_dup hx hb d_N_drop_17 rfl ?_
    refine rw_get hx hb hts in_N hown hK.1 hat9 rfl 1 (by decide) (hts _ fl_N_19) rfl d_N_drop_18 ?_
    refine lv_iconst (v := 1) hx hb d_N_drop_21 (by decide) ?_
    refine lv_isub hx hb d_N_drop_22 ?_
    refine rw_put hx hb hts in_N ck_N ok_N nm_N hown hK.1 hat9 rfl 1 (by decide) (hts _ fl_N_19) rfl (ok_N 1 (by decide)) rfl rfl (Nat.le_of_ble_eq_true rfl) (⟨Nat.le_refl _, by omega⟩) hL6 d_N_drop_23 (fun H8 L9 z10 o11 hat12 hL13 => ?_)
    have hB9 : Blk q (q + 2) H0 H8 := Blk.trans hB7 ((Blk.one z10 o11).wide (by omega) (by omega))
    have hat8 := pt_k hat5 (o11 (q + 1) (by omega))
    have e9 : nI (cntF sl 4920) - 1 = nI (cntF (upd sl i 0) 4920) := by rw [← cnt_drop c6 4920 hi]; exact nI_pred _
    exact rt_dv hQ hx hb hr hlk ⟨⟨by rw [← e9]; exact hat12, hat8⟩, hB9⟩ hL13 (Nat.le_of_ble_eq_true rfl) (Nat.le_of_ble_eq_true rfl) d_N_drop_26
def rm_N_keep : Room := { frames := 2, cells := 0, slots := 0, locals := 53 }
set_option maxRecDepth 100000 in
set_option maxHeartbeats 4000000 in
theorem c_N_keep {l : Launch} {ev : EV} {H0 : Heap} {q : Nat} {sl : Nat → Int32} (hn : xN ev q sl H0) {k x y : Nat} {p0 p1 p2 : Int32} (e0 : p0 = nI k) (e1 : p1 = nI x) (e2 : p2 = nI y) (hk : k < 6) (hx0 : x < 40) (hy0 : y < 40) {v : Int32} (hz : sl (sIx k x y) = 0) (hv : ¬ v + 2 = 0) : Met l my_N_keep mw_N_keep rm_N_keep (cP [.ref q, .int p0, .int p1, .int p2, .int v] (KG ev) H0) (cQd none (fun H1 => xN ev q (upd sl (sIx k x y) (v + 2)) H1 ∧ Blk q (q + 2) H0 H1)) 0 0 (inBk q (q + 2)) := by
  refine cHead [.ref q, .int p0, .int p1, .int p2, .int v] (by decide) rfl (Nat.le_of_ble_eq_true rfl) ?_
  intro p e s m below meth c ls args QQ hQ S hr hlk hnm hs hK hl
  have S : CallFix p m c mb_N_keep 6 s args TB "RuleChoice$Answers" := S
  obtain ⟨hx, hb, hml, hown, hts⟩ := id S
  subst e0; subst e1; subst e2
  have hl : lv_has ls 6 [(0, .ref q), (1, .int (nI k)), (2, .int (nI x)), (3, .int (nI y)), (4, .int v)] := hl
  refine lv_iload_n hx hb d_N_keep_0 rfl (lv_at hl 1 rfl) ?_
  refine lv_iload_n hx hb d_N_keep_1 rfl (lv_at hl 2 rfl) ?_
  refine lv_iload_n hx hb d_N_keep_2 rfl (lv_at hl 3 rfl) ?_
  refine cl_i (W.runS (As := [.int (nI k), .int (nI x), .int (nI y)]) (rest := []) S (c_N_slotOf (rfl) (rfl) (rfl) (hk) (hx0) (hy0)) (va_cwS 3 hts gs_N_15 rfl rfl rfl (by decide +kernel) ⟨Nat.le_of_ble_eq_true rfl, Nat.le_of_ble_eq_true rfl⟩) (cP_S (KG_ok _) hK) rfl rfl hl.1 rfl (lv_room (Nat.le_of_ble_eq_true rfl)) d_N_keep_3 ⟨Nat.le_of_ble_eq_true rfl, Nat.le_of_ble_eq_true rfl⟩) ?_
  refine lv_istore (lv' := [(5, .int (nI (sIx k x y))), (0, .ref q), (1, .int (nI k)), (2, .int (nI x)), (3, .int (nI y)), (4, .int v)]) hx hb d_N_keep_6 hl (by decide) rfl (fun ls hl => ?_)
  refine lv_aload_n hx hb d_N_keep_8 rfl (lv_at hl 1 rfl) ?_
  refine rw_get hx hb hts in_N hown hK.1 hn.1 rfl 0 (by decide) (hts _ fl_N_11) rfl d_N_keep_9 ?_
  refine lv_iload hx hb d_N_keep_12 (lv_at hl 0 rfl) ?_
  refine rw_iald hx hb hK.1 0 hn.2 rfl (sIx k x y) (rfl) (sIx_lt (hk) (hx0) (hy0)) (by decide) d_N_keep_14 ?_
  refine lv_if_ne (tgt := 28) hx hb d_N_keep_15 (by decide) (fun c15 => ?_) (fun c15 => ?_)
  · exact absurd hz c15
  · refine lv_aload_n hx hb d_N_keep_18 rfl (lv_at hl 1 rfl) ?_
    refine lv_dup hx hb d_N_keep_19 rfl ?_
    refine rw_get hx hb hts in_N hown hK.1 hn.1 rfl 1 (by decide) (hts _ fl_N_19) rfl d_N_keep_20 ?_
    refine lv_iconst (v := 1) hx hb d_N_keep_23 (by decide) ?_
    refine lv_iadd hx hb d_N_keep_24 ?_
    refine rw_put hx hb hts in_N ck_N ok_N nm_N hown hK.1 hn.1 rfl 1 (by decide) (hts _ fl_N_19) rfl (ok_N 1 (by decide)) rfl rfl (Nat.le_of_ble_eq_true rfl) (⟨Nat.le_refl _, by omega⟩) (A := inBk q (q + 2)) cNil d_N_keep_25 (fun H1 L2 z3 o4 hat5 hL6 => ?_)
    have hB9 : Blk q (q + 2) H0 H1 := (Blk.one z3 o4).wide (by omega) (by omega)
    have hat8 := pt_k hn.2 (o4 (q + 1) (by omega))
    refine lv_aload_n hx hb d_N_keep_28 rfl (lv_at hl 1 rfl) ?_
    refine rw_get hx hb hts in_N hown hK.1 hat5 rfl 0 (by decide) (hts _ fl_N_11) rfl d_N_keep_29 ?_
    refine lv_iload hx hb d_N_keep_32 (lv_at hl 0 rfl) ?_
    refine lv_iload hx hb d_N_keep_34 (lv_at hl 5 rfl) ?_
    refine lv_iconst (v := 2) hx hb d_N_keep_36 (by decide) ?_
    refine lv_iadd hx hb d_N_keep_37 ?_
    refine rw_iast hx hb hK.1 0 hat8 rfl (sIx k x y) (rfl) (sIx_lt (hk) (hx0) (hy0)) (by decide) (⟨by omega, by omega⟩) hL6 d_N_keep_38 (fun H7 L8 z9 o10 hat11 hL12 => ?_)
    have hB8 : Blk q (q + 2) H0 H7 := Blk.trans hB9 ((Blk.one z9 o10).wide (by omega) (by omega))
    have hat7 := pt_k hat5 (o10 q (by omega))
    have e9 : nI (cntF sl 4920) + 1 = nI (cntF (upd sl (sIx k x y) (v + 2)) 4920) := by rw [cnt_keep hz hv 4920 (sIx_lt hk hx0 hy0)]; exact nI_1 _
    exact rt_dv hQ hx hb hr hlk ⟨⟨by rw [← e9]; exact hat7, hat11⟩, hB8⟩ hL12 (Nat.le_of_ble_eq_true rfl) (Nat.le_of_ble_eq_true rfl) d_N_keep_39
end
section
def rm_N_dropKind : Room := { frames := 1, cells := 0, slots := 0, locals := 21 }
set_option maxRecDepth 100000 in
set_option maxHeartbeats 4000000 in
theorem c_N_dropKind {l : Launch} {ev : EV} {H0 : Heap} {q : Nat} {sl : Nat → Int32} (hn : xN ev q sl H0) {k : Nat} {p0 : Int32} (e0 : p0 = nI k) (hk : k < 6) : Met l my_N_dropKind mw_N_dropKind rm_N_dropKind (cP [.ref q, .int p0] (KG ev) H0) (cQd none (fun H1 => xN ev q (dSf sl (k * 820) 820) H1 ∧ Blk q (q + 2) H0 H1)) 0 0 (inBk q (q + 2)) := by
  refine cHead [.ref q, .int p0] (by decide) rfl (Nat.le_of_ble_eq_true rfl) ?_
  intro p e s m below meth c ls args QQ hQ S hr hlk hnm hs hK hl
  have S : CallFix p m c mb_N_dropKind 4 s args TB "RuleChoice$Answers" := S
  obtain ⟨hx, hb, hml, hown, hts⟩ := id S
  subst e0
  have hl : lv_has ls 4 [(0, .ref q), (1, .int (nI k))] := hl
  refine lv_iload_n hx hb d_N_dropKind_0 rfl (lv_at hl 1 rfl) ?_
  refine lv_sipush (v := 820) hx hb d_N_dropKind_1 (by decide) ?_
  refine lv_imul hx hb d_N_dropKind_4 ?_
  refine tp_i (y := (nI (k * 820))) (pk_mul k 820) ?_
  refine lv_istore_n (lv' := [(2, .int (nI (k * 820))), (0, .ref q), (1, .int (nI k))]) hx hb d_N_dropKind_5 rfl hl (by decide) rfl (fun ls hl => ?_)
  refine lv_iload_n hx hb d_N_dropKind_6 rfl (lv_at hl 0 rfl) ?_
  refine tp_i (y := (nI (k * 820 + 0))) (rfl) ?_
  refine lv_istore_n (lv' := [(3, .int (nI (k * 820 + 0))), (2, .int (nI (k * 820))), (0, .ref q), (1, .int (nI k))]) hx hb d_N_dropKind_7 rfl hl (by decide) rfl (fun ls hl => ?_)
  have LP : ∀ (n i : Nat) (ls : Array Slot) (H : Heap) (locs : List Loc), xN ev q (dSf sl (k * 820) i) H → Blk q (q + 2) H0 H → (∀ z ∈ locs, inBk q (q + 2) z.base) → i ≤ 820 → 820 - i < n → lv_has ls 4 [(0, .ref q), (2, .int (nI (k * 820))), (3, .int (nI (k * 820 + i)))] → W p l e rm_N_dropKind s m args below meth c H locs 0 0 QQ (F0 m 8 ls []) := by
    intro n
    induction n with
    | zero => intro i ls H locs _ _ _ h2 h3; exact absurd h3 (by omega)
    | succ n ih =>
      intro i ls H locs hn9 hB hL hle hlt9 hl
      refine lv_iload_n hx hb d_N_dropKind_8 rfl (lv_at hl 2 rfl) ?_
      refine lv_iload_n hx hb d_N_dropKind_9 rfl (lv_at hl 1 rfl) ?_
      refine lv_sipush (v := 820) hx hb d_N_dropKind_10 (by decide) ?_
      refine lv_iadd hx hb d_N_dropKind_13 ?_
      refine tp_i (y := (nI (k * 820 + 820))) (nI_add (k * 820) 820) ?_
      refine lv_icmp_ge (tgt := 28) hx hb d_N_dropKind_14 (by decide) (fun c14 => ?_) (fun c14 => ?_)
      · have e9 : i = 820 := Nat.le_antisymm hle (Nat.not_lt.mp (fun h => absurd c14 (nI_ge (by omega) (by omega))))
        exact rt_dv hQ hx hb hr hlk ⟨by subst e9; exact hn9, hB⟩ hL (Nat.le_of_ble_eq_true rfl) (Nat.le_of_ble_eq_true rfl) d_N_dropKind_28
      · have hlt : i < 820 := Nat.not_le.mp (fun h => c14 (nI_le (by omega) (by omega)))
        refine lv_aload_n hx hb d_N_dropKind_17 rfl (lv_at hl 0 rfl) ?_
        refine lv_iload_n hx hb d_N_dropKind_18 rfl (lv_at hl 2 rfl) ?_
        refine cl_d (W.runV (As := [.int (nI (k * 820 + i))]) (rest := []) S (c_N_drop hn9 (i := (k * 820 + i)) (rfl) (by omega)) (cwV 1 hts gv_N_23 rfl rfl rfl (by decide +kernel) ⟨Nat.le_of_ble_eq_true rfl, Nat.le_of_ble_eq_true rfl⟩) (cP_V (KG_ok _) hK hK.1 hn9.1 rfl) rfl rfl hl.1 rfl (lv_room (Nat.le_of_ble_eq_true rfl)) d_N_dropKind_19 ⟨Nat.le_of_ble_eq_true rfl, Nat.le_of_ble_eq_true rfl⟩) hL (fun _ h => h) (fun H1 L2 hp3 hL4 => ?_)
        have hB8 := Blk.trans hB hp3.2
        refine lv_iinc (v := (nI (k * 820 + (i + 1)))) (lv' := [(3, .int (nI (k * 820 + (i + 1)))), (0, .ref q), (2, .int (nI (k * 820)))]) hx hb d_N_dropKind_22 hl (k := 2) rfl ((nI_1 (k * 820 + i))) (by decide) rfl (fun ls hl => ?_)
        refine lv_goto (tgt := 8) hx hb d_N_dropKind_25 (by decide) ?_
        exact ih (i + 1) ls _ _ hp3.1 hB8 hL4 (by omega) (by omega) (lv_sub hl [1, 2, 0] rfl)
  exact LP _ 0 ls H0 [] hn Blk.rf cNil (Nat.zero_le _) (Nat.lt_succ_self _) (lv_sub hl [2, 1, 0] rfl)
def rm_N_dropThing : Room := { frames := 2, cells := 0, slots := 0, locals := 53 }
set_option maxRecDepth 100000 in
set_option maxHeartbeats 4000000 in
theorem c_N_dropThing {l : Launch} {ev : EV} {H0 : Heap} {q : Nat} {sl : Nat → Int32} (hn : xN ev q sl H0) {t : Nat} {p0 : Int32} (e0 : p0 = nI t) (ht : t < 40) : Met l my_N_dropThing mw_N_dropThing rm_N_dropThing (cP [.ref q, .int p0] (KG ev) H0) (cQd none (fun H1 => xN ev q (dKf sl t 6) H1 ∧ Blk q (q + 2) H0 H1)) 0 0 (inBk q (q + 2)) := by
  refine cHead [.ref q, .int p0] (by decide) rfl (Nat.le_of_ble_eq_true rfl) ?_
  intro p e s m below meth c ls args QQ hQ S hr hlk hnm hs hK hl
  have S : CallFix p m c mb_N_dropThing 4 s args TB "RuleChoice$Answers" := S
  obtain ⟨hx, hb, hml, hown, hts⟩ := id S
  subst e0
  have hl : lv_has ls 4 [(0, .ref q), (1, .int (nI t))] := hl
  refine lv_iconst (v := 0) hx hb d_N_dropThing_0 (by decide) ?_
  refine lv_istore_n (lv' := [(2, .int 0), (0, .ref q), (1, .int (nI t))]) hx hb d_N_dropThing_1 rfl hl (by decide) rfl (fun ls hl => ?_)
  have LP : ∀ (n k : Nat) (ls : Array Slot) (H : Heap) (locs : List Loc), xN ev q (dKf sl t k) H → Blk q (q + 2) H0 H → (∀ z ∈ locs, inBk q (q + 2) z.base) → k ≤ 6 → 6 - k < n → lv_has ls 4 [(0, .ref q), (1, .int (nI t)), (2, .int (nI k))] → W p l e rm_N_dropThing s m args below meth c H locs 0 0 QQ (F0 m 2 ls []) := by
    intro n
    induction n with
    | zero => intro k ls H locs _ _ _ h2 h3; exact absurd h3 (by omega)
    | succ n ih =>
      intro k ls H locs hn9 hB hL hle hlt9 hl
      refine lv_iload_n hx hb d_N_dropThing_2 rfl (lv_at hl 2 rfl) ?_
      refine lv_bipush (v := 6) hx hb d_N_dropThing_3 (by decide) ?_
      refine lv_icmp_ge (tgt := 38) hx hb d_N_dropThing_5 (by decide) (fun c5 => ?_) (fun c5 => ?_)
      · have e9 : k = 6 := Nat.le_antisymm hle (Nat.not_lt.mp (fun h => absurd c5 (nI_ge (b := 6) h (by decide))))
        exact rt_dv hQ hx hb hr hlk ⟨by subst e9; exact hn9, hB⟩ hL (Nat.le_of_ble_eq_true rfl) (Nat.le_of_ble_eq_true rfl) d_N_dropThing_38
      · refine lv_iconst (v := 0) hx hb d_N_dropThing_8 (by decide) ?_
        refine lv_istore_n (lv' := [(3, .int 0), (0, .ref q), (1, .int (nI t)), (2, .int (nI k))]) hx hb d_N_dropThing_9 rfl hl (by decide) rfl (fun ls hl => ?_)
        have hk6 : k < 6 := Nat.not_le.mp (fun h => c5 (nI_le (a := 6) h (by omega)))
        have LQ : ∀ (n2 o : Nat) (ls : Array Slot) (H : Heap) (locs : List Loc), xN ev q (dOf (dKf sl t k) k t o) H → Blk q (q + 2) H0 H → (∀ z ∈ locs, inBk q (q + 2) z.base) → o ≤ 40 → 40 - o < n2 → lv_has ls 4 [(0, .ref q), (1, .int (nI t)), (2, .int (nI k)), (3, .int (nI o))] → W p l e rm_N_dropThing s m args below meth c H locs 0 0 QQ (F0 m 10 ls []) := by
          intro n2
          induction n2 with
          | zero => intro o ls H locs _ _ _ h2 h3; exact absurd h3 (by omega)
          | succ n2 ih2 =>
            intro o ls H locs hn8 hB hL hle2 hlt8 hl
            refine lv_iload_n hx hb d_N_dropThing_10 rfl (lv_at hl 3 rfl) ?_
            refine lv_bipush (v := 40) hx hb d_N_dropThing_11 (by decide) ?_
            refine lv_icmp_ge (tgt := 32) hx hb d_N_dropThing_13 (by decide) (fun c13 => ?_) (fun c13 => ?_)
            · have e8 : o = 40 := Nat.le_antisymm hle2 (Nat.not_lt.mp (fun h => absurd c13 (nI_ge (b := 40) h (by decide))))
              have hn7 : xN ev q (dKf sl t (k + 1)) H := by subst e8; exact hn8
              refine lv_iinc (v := (nI (k + 1))) (lv' := [(2, .int (nI (k + 1))), (0, .ref q), (1, .int (nI t)), (3, .int (nI o))]) hx hb d_N_dropThing_32 hl (k := 2) rfl ((nI_1 k)) (by decide) rfl (fun ls hl => ?_)
              refine lv_goto (tgt := 2) hx hb d_N_dropThing_35 (by decide) ?_
              exact ih (k + 1) ls _ _ hn7 hB hL (by omega) (by omega) (lv_sub hl [1, 2, 0] rfl)
            · have ho : o < 40 := Nat.not_le.mp (fun h => c13 (nI_le (a := 40) h (by omega)))
              refine lv_aload_n hx hb d_N_dropThing_16 rfl (lv_at hl 0 rfl) ?_
              refine lv_iload_n hx hb d_N_dropThing_17 rfl (lv_at hl 2 rfl) ?_
              refine lv_iload_n hx hb d_N_dropThing_18 rfl (lv_at hl 1 rfl) ?_
              refine lv_iload_n hx hb d_N_dropThing_19 rfl (lv_at hl 3 rfl) ?_
              refine cl_i (W.runS (As := [.int (nI k), .int (nI t), .int (nI o)]) (rest := [.ref q]) S (c_N_slotOf (rfl) (rfl) (rfl) (hk6) (ht) (ho)) (va_cwS 3 hts gs_N_15 rfl rfl rfl (by decide +kernel) ⟨Nat.le_of_ble_eq_true rfl, Nat.le_of_ble_eq_true rfl⟩) (cP_S (KG_ok _) hK) rfl rfl hl.1 rfl (lv_room (Nat.le_of_ble_eq_true rfl)) d_N_dropThing_20 ⟨Nat.le_of_ble_eq_true rfl, Nat.le_of_ble_eq_true rfl⟩) ?_
              refine cl_d (W.runV (As := [.int (nI (sIx k t o))]) (rest := []) S (c_N_drop hn8 (i := (sIx k t o)) (rfl) (sIx_lt (hk6) (ht) (ho))) (cwV 1 hts gv_N_23 rfl rfl rfl (by decide +kernel) ⟨Nat.le_of_ble_eq_true rfl, Nat.le_of_ble_eq_true rfl⟩) (cP_V (KG_ok _) hK hK.1 hn8.1 rfl) rfl rfl hl.1 rfl (lv_room (Nat.le_of_ble_eq_true rfl)) d_N_dropThing_23 ⟨Nat.le_of_ble_eq_true rfl, Nat.le_of_ble_eq_true rfl⟩) hL (fun _ h => h) (fun H1 L2 hp3 hL4 => ?_)
              have hB8 := Blk.trans hB hp3.2
              refine lv_iinc (v := (nI (o + 1))) (lv' := [(3, .int (nI (o + 1))), (0, .ref q), (1, .int (nI t)), (2, .int (nI k))]) hx hb d_N_dropThing_26 hl (k := 3) rfl ((nI_1 o)) (by decide) rfl (fun ls hl => ?_)
              refine lv_goto (tgt := 10) hx hb d_N_dropThing_29 (by decide) ?_
              exact ih2 (o + 1) ls _ _ hp3.1 hB8 hL4 (by omega) (by omega) (lv_sub hl [1, 2, 3, 0] rfl)
        exact LQ _ 0 ls H locs hn9 hB hL (Nat.zero_le _) (Nat.lt_succ_self _) (lv_sub hl [1, 2, 3, 0] rfl)
  exact LP _ 0 ls H0 [] hn Blk.rf cNil (Nat.zero_le _) (Nat.lt_succ_self _) (lv_sub hl [1, 2, 0] rfl)
def rm_P_clear : Room := { frames := 0, cells := 0, slots := 0, locals := 0 }
set_option maxRecDepth 100000 in
set_option maxHeartbeats 4000000 in
theorem c_P_clear {l : Launch} {ev : EV} {H0 : Heap} {q : Nat} {v : Nat × (Nat → Int32) × (Nat → Int32)} (hp0 : xP ev q v H0) : Met l my_P_clear mw_P_clear rm_P_clear (cP [.ref q] (KG ev) H0) (cQd none (fun H1 => xP ev q (0, v.2) H1 ∧ Blk q (q + 3) H0 H1)) 0 0 (inBk q (q + 3)) := by
  refine cHead [.ref q] (by decide) rfl (Nat.le_of_ble_eq_true rfl) ?_
  intro p e s m below meth c ls args QQ hQ S hr hlk hnm hs hK hl
  have S : CallFix p m c mb_P_clear 1 s args TB "RuleChoice$Pairs" := S
  obtain ⟨hx, hb, hml, hown, hts⟩ := id S
  have hl : lv_has ls 1 [(0, .ref q)] := hl
  refine lv_aload_n hx hb d_P_clear_0 rfl (lv_at hl 0 rfl) ?_
  refine lv_iconst (v := 0) hx hb d_P_clear_1 (by decide) ?_
  refine rw_put hx hb hts in_P ck_P ok_P nm_P hown hK.1 hp0.1 rfl 2 (by decide) (hts _ fl_P_18) rfl (ok_P 2 (by decide)) rfl rfl (Nat.le_of_ble_eq_true rfl) (⟨Nat.le_refl _, by omega⟩) (A := inBk q (q + 3)) cNil d_P_clear_2 (fun H1 L2 z3 o4 hat5 hL6 => ?_)
  exact rt_dv hQ hx hb hr hlk ⟨⟨hat5, pt_k hp0.2.1 (o4 _ (by omega)), pt_k hp0.2.2.1 (o4 _ (by omega)), Nat.zero_le _⟩, (Blk.one z3 o4).wide (by omega) (by omega)⟩ hL6 (Nat.le_of_ble_eq_true rfl) (Nat.le_of_ble_eq_true rfl) d_P_clear_5
def rm_P_add : Room := { frames := 0, cells := 0, slots := 0, locals := 0 }
set_option maxRecDepth 100000 in
set_option maxHeartbeats 4000000 in
theorem c_P_add {l : Launch} {ev : EV} {H0 : Heap} {q : Nat} {v : Nat × (Nat → Int32) × (Nat → Int32)} (hp0 : xP ev q v H0) (hr9 : v.1 < 780) (x y : Int32) : Met l my_P_add mw_P_add rm_P_add (cP [.ref q, .int x, .int y] (KG ev) H0) (cQd none (fun H1 => xP ev q (v.1 + 1, upd v.2.1 v.1 x, upd v.2.2 v.1 y) H1 ∧ Blk q (q + 3) H0 H1)) 0 0 (inBk q (q + 3)) := by
  refine cHead [.ref q, .int x, .int y] (by decide) rfl (Nat.le_of_ble_eq_true rfl) ?_
  intro p e s m below meth c ls args QQ hQ S hr hlk hnm hs hK hl
  have S : CallFix p m c mb_P_add 3 s args TB "RuleChoice$Pairs" := S
  obtain ⟨hx, hb, hml, hown, hts⟩ := id S
  have hl : lv_has ls 3 [(0, .ref q), (1, .int x), (2, .int y)] := hl
  refine lv_aload_n hx hb d_P_add_0 rfl (lv_at hl 0 rfl) ?_
  refine rw_get hx hb hts in_P hown hK.1 hp0.1 rfl 2 (by decide) (hts _ fl_P_18) rfl d_P_add_1 ?_
  refine lv_sipush (v := 780) hx hb d_P_add_4 (by decide) ?_
  refine lv_icmp_ge (tgt := 40) hx hb d_P_add_7 (by decide) (fun c7 => ?_) (fun c7 => ?_)
  · exact absurd c7 (nI_ge (b := 780) hr9 (by decide))
  · refine lv_aload_n hx hb d_P_add_10 rfl (lv_at hl 0 rfl) ?_
    refine rw_get hx hb hts in_P hown hK.1 hp0.1 rfl 0 (by decide) (hts _ fl_P_11) rfl d_P_add_11 ?_
    refine lv_aload_n hx hb d_P_add_14 rfl (lv_at hl 0 rfl) ?_
    refine rw_get hx hb hts in_P hown hK.1 hp0.1 rfl 2 (by decide) (hts _ fl_P_18) rfl d_P_add_15 ?_
    refine lv_iload_n hx hb d_P_add_18 rfl (lv_at hl 1 rfl) ?_
    refine rw_iast hx hb hK.1 0 hp0.2.1 rfl v.1 (rfl) (hr9) (by decide) (⟨by omega, by omega⟩) (A := inBk q (q + 3)) cNil d_P_add_19 (fun H1 L2 z3 o4 hat5 hL6 => ?_)
    have g0 := pt_k hp0.1 (o4 q (by omega))
    have g2 := pt_k hp0.2.2.1 (o4 (q + 2) (by omega))
    refine lv_aload_n hx hb d_P_add_20 rfl (lv_at hl 0 rfl) ?_
    refine rw_get hx hb hts in_P hown hK.1 g0 rfl 1 (by decide) (hts _ fl_P_15) rfl d_P_add_21 ?_
    refine lv_aload_n hx hb d_P_add_24 rfl (lv_at hl 0 rfl) ?_
    refine rw_get hx hb hts in_P hown hK.1 g0 rfl 2 (by decide) (hts _ fl_P_18) rfl d_P_add_25 ?_
    refine lv_iload_n hx hb d_P_add_28 rfl (lv_at hl 2 rfl) ?_
    refine rw_iast hx hb hK.1 0 g2 rfl v.1 (rfl) (hr9) (by decide) (⟨by omega, by omega⟩) hL6 d_P_add_29 (fun H7 L8 z9 o10 hat11 hL12 => ?_)
    have g3 := pt_k g0 (o10 q (by omega))
    have g4 := pt_k hat5 (o10 (q + 1) (by omega))
    refine lv_aload_n hx hb d_P_add_30 rfl (lv_at hl 0 rfl) ?_
    refine lv_dup hx hb d_P_add_31 rfl ?_
    refine rw_get hx hb hts in_P hown hK.1 g3 rfl 2 (by decide) (hts _ fl_P_18) rfl d_P_add_32 ?_
    refine lv_iconst (v := 1) hx hb d_P_add_35 (by decide) ?_
    refine lv_iadd hx hb d_P_add_36 ?_
    refine rw_put hx hb hts in_P ck_P ok_P nm_P hown hK.1 g3 rfl 2 (by decide) (hts _ fl_P_18) rfl (ok_P 2 (by decide)) rfl rfl (Nat.le_of_ble_eq_true rfl) (⟨Nat.le_refl _, by omega⟩) hL12 d_P_add_37 (fun H13 L14 z15 o16 hat17 hL18 => ?_)
    exact rt_dv hQ hx hb hr hlk ⟨⟨by rw [show nI (v.1 + 1) = nI v.1 + 1 from (nI_1 _).symm]; exact hat17, pt_k g4 (o16 _ (by omega)), pt_k hat11 (o16 _ (by omega)), hr9⟩, Blk.trans (Blk.trans ((Blk.one z3 o4).wide (by omega) (by omega)) ((Blk.one z9 o10).wide (by omega) (by omega))) ((Blk.one z15 o16).wide (by omega) (by omega))⟩ hL18 (Nat.le_of_ble_eq_true rfl) (Nat.le_of_ble_eq_true rfl) d_P_add_40
end
section
/-! the winner hangs on the rules of its kind, on the two things, on the areas of these rules -/
theorem besF_mat {ru : Nat → Ru} {ar : Nat → Aa} {up : Option Nat} {kind : Int32} {s t : Tt} : ∀ (n i : Nat), besF ru ar up kind s t n = some i → matB ar (ru i) kind s t = true
  | 0, i, h => by cases h
  | n + 1, i, h => by
    unfold besF at h
    split at h
    · rename_i g
      cases h
      simp only [Bool.and_eq_true] at g
      exact g.2
    · exact besF_mat n i h
theorem mat_k {ar : Nat → Aa} {r : Ru} {kind : Int32} {s t : Tt} (h : matB ar r kind s t = true) : r.1 = kind := by
  unfold matB at h
  simp only [Bool.and_eq_true, decide_eq_true_eq] at h
  exact h.1
/-- other rules of this kind, other areas that no rule of it has, things that look alike: the same winner -/
theorem besF_same {ru ru' : Nat → Ru} {ar ar' : Nat → Aa} {kind : Int32} {s t s' t' : Tt} : ∀ n, (∀ i, i < n → (ru' i = ru i ∨ ((ru i).1 ≠ kind ∧ (ru' i).1 ≠ kind))) → (∀ i, i < n → matB ar' (ru i) kind s' t' = matB ar (ru i) kind s t) → besF ru' ar' none kind s' t' n = besF ru ar none kind s t n
  | 0, _, _ => rfl
  | n + 1, h, hm => by
    have ih := besF_same (ru := ru) (ru' := ru') (ar := ar) (ar' := ar') (kind := kind) (s := s) (t := t) (s' := s') (t' := t') n (fun i hi => h i (by omega)) (fun i hi => hm i (by omega))
    have hn := h n (by omega)
    have hmn := hm n (by omega)
    cases hmat : matB ar (ru n) kind s t with
    | false =>
      have h2 : matB ar' (ru' n) kind s' t' = false := by
        rcases hn with e | ⟨e1, e2⟩
        · rw [e, hmn]; exact hmat
        · cases hc : matB ar' (ru' n) kind s' t' with
          | false => rfl
          | true => exact absurd (mat_k hc) e2
      rw [besF_m hmat, besF_m h2, ih]
    | true =>
      have e : ru' n = ru n := by
        rcases hn with e | ⟨e1, -⟩
        · exact e
        · exact absurd (mat_k hmat) e1
      have h2 : matB ar' (ru' n) kind s' t' = true := by rw [e, hmn]; exact hmat
      have hb : btB ru' n (besF ru' ar' none kind s' t' n) = btB ru n (besF ru ar none kind s t n) := by
        rw [ih]
        cases hbs : besF ru ar none kind s t n with
        | none => rfl
        | some j =>
          have hj := besF_lt n j hbs
          have hjm := besF_mat n j hbs
          have ej : ru' j = ru j := by
            rcases h j (by omega) with q | ⟨q, -⟩
            · exact q
            · exact absurd (mat_k hjm) q
          show ahB ru' n j = ahB ru n j
          unfold ahB
          rw [e, ej]
      cases hbb : btB ru n (besF ru ar none kind s t n) with
      | false => rw [besF_b hbb, besF_b (by rw [hb]; exact hbb), ih]
      | true => rw [besF_y rfl hbb hmat, besF_y rfl (by rw [hb]; exact hbb) h2]
theorem besF_40 {ru : Nat → Ru} {ar : Nat → Aa} {up : Option Nat} {kind : Int32} {s t : Tt} {n : Nat} (hn : n ≤ 40) : ∀ a, besF ru ar up kind s t n = some a → a < 40 := fun a h => Nat.lt_of_lt_of_le (besF_lt n a h) hn
theorem oI_2 {o : Option Nat} (h : ∀ a, o = some a → a < 40) : ¬ oI o + 2 = 0 := by
  cases o with
  | none => decide
  | some a =>
    have := h a rfl
    show ¬ nI a + 2 = 0
    rw [show (2 : Int32) = nI 2 from rfl, nI_add]
    exact nI_ne0 (by omega) (by omega)
theorem i_as (x : Int32) : x + 2 - 2 = x := by
  apply Int32.toInt_inj.mp
  rw [show x + 2 - 2 = x + (2 - 2) from by rw [Int32.sub_eq_add_neg, Int32.add_assoc]; rfl]
  simp
theorem okK_ix {k : Int32} (h : okK k) : ∃ i, i < 6 ∧ k = nI i := okI_ix (n := 6) (by decide) h
/-! slots: different keys, different slots -/
theorem tri_step {h : Nat} : (h + 1) * (h + 1 + 1) / 2 = h * (h + 1) / 2 + (h + 1) := by
  have e : (h + 1) * (h + 1 + 1) = h * (h + 1) + (h + 1) * 2 := by rw [Nat.add_mul, Nat.mul_add]; omega
  rw [e]
  omega
theorem tri_mono {a b : Nat} (h : a < b) : a * (a + 1) / 2 + (a + 1) ≤ b * (b + 1) / 2 := by
  induction b with
  | zero => omega
  | succ b ih =>
    rw [tri_step]
    by_cases e : a = b
    · subst e; omega
    · have := ih (by omega)
      omega
theorem sIx_le {k x y : Nat} (h : x ≤ y) : sIx k x y = k * 820 + (y * (y + 1) / 2 + x) := by
  unfold sIx
  rw [Nat.max_eq_right h, Nat.min_eq_left h]
theorem sIx_comm (k x y : Nat) : sIx k x y = sIx k y x := by
  unfold sIx
  rw [Nat.max_comm, Nat.min_comm]
theorem sIx_bd {k x y : Nat} (h : x ≤ y) (hy : y < 40) : k * 820 ≤ sIx k x y ∧ sIx k x y < k * 820 + 820 := by
  rw [sIx_le h]
  have := tri_lt hy
  omega
theorem sIx_inj {k x y k' x' y' : Nat} (h : x ≤ y) (hy : y < 40) (h' : x' ≤ y') (hy' : y' < 40) (e : sIx k x y = sIx k' x' y') : k = k' ∧ x = x' ∧ y = y' := by
  have b1 := sIx_bd (k := k) h hy
  have b2 := sIx_bd (k := k') h' hy'
  have ek : k = k' := by omega
  subst ek
  rw [sIx_le h, sIx_le h'] at e
  have ey : y = y' := by
    rcases Nat.lt_trichotomy y y' with q | q | q
    · have := tri_mono q; omega
    · exact q
    · have := tri_mono q; omega
  subst ey
  exact ⟨rfl, by omega, rfl⟩
theorem dSf_at (sl : Nat → Int32) (lo : Nat) : ∀ n s, dSf sl lo n s = if lo ≤ s ∧ s < lo + n then 0 else sl s
  | 0, s => by rw [if_neg (by omega)]; rfl
  | n + 1, s => by
    unfold dSf
    by_cases e : s = lo + n
    · subst e; rw [pk_us, if_pos (by omega)]
    · rw [pk_un e, dSf_at sl lo n s]
      by_cases h : lo ≤ s ∧ s < lo + n
      · rw [if_pos h, if_pos (by omega)]
      · rw [if_neg h, if_neg (by omega)]
theorem dOf_no {sl : Nat → Int32} {k t s : Nat} : ∀ n, (∀ o, o < n → s ≠ sIx k t o) → dOf sl k t n s = sl s
  | 0, _ => rfl
  | n + 1, h => by
    unfold dOf
    rw [pk_un (h n (by omega))]
    exact dOf_no n (fun o ho => h o (by omega))
theorem dOf_0 {sl : Nat → Int32} {k t s : Nat} : ∀ n, ((∃ o, o < n ∧ s = sIx k t o) ∨ sl s = 0) → dOf sl k t n s = 0
  | 0, h => by
    rcases h with ⟨o, ho, -⟩ | h
    · omega
    · exact h
  | n + 1, h => by
    unfold dOf
    by_cases e : s = sIx k t n
    · subst e; rw [pk_us]
    · rw [pk_un e]
      refine dOf_0 n ?_
      rcases h with ⟨o, ho, hs⟩ | h
      · refine Or.inl ⟨o, ?_, hs⟩
        rcases Nat.lt_or_ge o n with q | q
        · exact q
        · exact absurd (by rw [hs, show o = n by omega]) e
      · exact Or.inr h
theorem dKf_no {sl : Nat → Int32} {t s : Nat} : ∀ n, (∀ k o, k < n → o < 40 → s ≠ sIx k t o) → dKf sl t n s = sl s
  | 0, _ => rfl
  | n + 1, h => by
    unfold dKf
    rw [dOf_no 40 (fun o ho => h n o (by omega) ho)]
    exact dKf_no n (fun k o hk ho => h k o (by omega) ho)
theorem dKf_0 {sl : Nat → Int32} {t s : Nat} : ∀ n, ((∃ k o, k < n ∧ o < 40 ∧ s = sIx k t o) ∨ sl s = 0) → dKf sl t n s = 0
  | 0, h => by
    rcases h with ⟨k, o, hk, -⟩ | h
    · omega
    · exact h
  | n + 1, h => by
    unfold dKf
    refine dOf_0 40 ?_
    rcases h with ⟨k, o, hk, ho, hs⟩ | h
    · by_cases e : k = n
      · subst e; exact Or.inl ⟨o, ho, hs⟩
      · exact Or.inr (dKf_0 n (Or.inl ⟨k, o, by omega, ho, hs⟩))
    · exact Or.inr (dKf_0 n (Or.inr h))
end
section
/-! what is kept stays the winner -/
def kpK (kp : KT) (kk : Nat) : KT := fun k x y => kp k x y && !decide (k = kk)
def kpD (kp : KT) (t : Nat) : KT := fun k x y => kp k x y && !(decide (x = t) || decide (y = t))
def kpS (kp : KT) (kk a c : Nat) : KT := fun k x y => kp k x y || (decide (k = kk) && (decide (x = a) && decide (y = c)))
theorem KP_dropK {u u' : XS} {kp : KT} {sl : Nat → Int32} {kk : Nat} (h : KP u kp sl) (hnt : u'.1.2.2.2.1 = u.1.2.2.2.1) (hb : ∀ k x y, k < 6 → k ≠ kk → x ≤ y → y < 40 → besU u' k x y = besU u k x y) : KP u' (kpK kp kk) (dSf sl (kk * 820) 820) := by
  intro k x y hk hxy hy
  obtain ⟨h1, h2⟩ := h k x y hk hxy hy
  have bd := sIx_bd (k := k) hxy hy
  rw [dSf_at]
  by_cases e : k = kk
  · subst e
    rw [if_pos bd]
    have : kpK kp k k x y = false := by simp [kpK]
    rw [this]
    exact ⟨by rw [if_neg (by decide)], fun q => by cases q⟩
  · rw [if_neg (by omega), h1]
    have e2 : kpK kp kk k x y = kp k x y := by simp [kpK, e]
    rw [e2, hb k x y hk e hxy hy, hnt]
    exact ⟨rfl, h2⟩
theorem sIx_has {k x y t o : Nat} (h : x ≤ y) (hy : y < 40) (ht : t < 40) (ho : o < 40) {k' : Nat} (e : sIx k x y = sIx k' t o) : x = t ∨ y = t := by
  rcases Nat.le_total t o with q | q
  · exact Or.inl (sIx_inj h hy q ho e).2.1
  · rw [sIx_comm k' t o] at e
    exact Or.inr (sIx_inj h hy q ht e).2.2
theorem KP_dropT {u u' : XS} {kp : KT} {sl : Nat → Int32} {t : Nat} (ht : t < 40) (h : KP u kp sl) (hnt : u'.1.2.2.2.1 = u.1.2.2.2.1) (hb : ∀ k x y, k < 6 → x ≠ t → y ≠ t → x ≤ y → y < 40 → besU u' k x y = besU u k x y) : KP u' (kpD kp t) (dKf sl t 6) := by
  intro k x y hk hxy hy
  obtain ⟨h1, h2⟩ := h k x y hk hxy hy
  by_cases e : x = t ∨ y = t
  · have e1 : kpD kp t k x y = false := by
      unfold kpD
      rcases e with e | e <;> simp [e]
    rw [e1]
    refine ⟨?_, fun q => by cases q⟩
    rw [if_neg (by decide)]
    refine dKf_0 6 (Or.inl ?_)
    rcases e with e | e
    · exact ⟨k, y, hk, hy, by rw [e]⟩
    · exact ⟨k, x, hk, by omega, by rw [e]; exact sIx_comm k x t⟩
  · have ex : x ≠ t := fun q => e (Or.inl q)
    have ey : y ≠ t := fun q => e (Or.inr q)
    have e1 : kpD kp t k x y = kp k x y := by simp [kpD, ex, ey]
    rw [e1, dKf_no 6 (fun k' o _ ho q => e (sIx_has hxy hy ht ho q)), h1, hb k x y hk ex ey hxy hy, hnt]
    exact ⟨rfl, h2⟩
theorem KP_same {u u' : XS} {kp : KT} {sl : Nat → Int32} (h : KP u kp sl) (hnt : u.1.2.2.2.1 ≤ u'.1.2.2.2.1) (hb : ∀ k x y, k < 6 → x ≤ y → y < u.1.2.2.2.1 → besU u' k x y = besU u k x y) : KP u' kp sl := by
  intro k x y hk hxy hy
  obtain ⟨h1, h2⟩ := h k x y hk hxy hy
  rw [h1]
  cases hkp : kp k x y with
  | false => exact ⟨by rw [if_neg (by decide), if_neg (by decide)], fun q => by cases q⟩
  | true =>
    have := h2 hkp
    rw [hb k x y hk hxy this]
    exact ⟨rfl, fun _ => Nat.lt_of_lt_of_le this hnt⟩
theorem KP_keep {u : XS} {kp : KT} {sl : Nat → Int32} {kk a c : Nat} (h : KP u kp sl) (hac : a ≤ c) (hc : c < 40) (hc2 : c < u.1.2.2.2.1) : KP u (kpS kp kk a c) (upd sl (sIx kk a c) (oI (besU u kk a c) + 2)) := by
  intro k x y hk hxy hy
  obtain ⟨h1, h2⟩ := h k x y hk hxy hy
  by_cases e : k = kk ∧ x = a ∧ y = c
  · obtain ⟨rfl, rfl, rfl⟩ := e
    rw [pk_us]
    have : kpS kp k x y k x y = true := by simp [kpS]
    rw [this]
    exact ⟨rfl, fun _ => hc2⟩
  · have e1 : kpS kp kk a c k x y = kp k x y := by
      unfold kpS
      by_cases e1 : k = kk
      · by_cases e2 : x = a
        · have e3 : ¬ y = c := fun q => e ⟨e1, e2, q⟩
          simp [e3]
        · simp [e2]
      · simp [e1]
    rw [e1, pk_un (fun q => e (sIx_inj hxy hy hac hc q)), h1]
    exact ⟨rfl, h2⟩
theorem kpS_id {kp : KT} {kk a c : Nat} (h : kp kk a c = true) : kpS kp kk a c = kp := by
  funext k x y
  unfold kpS
  by_cases e : k = kk ∧ x = a ∧ y = c
  · obtain ⟨rfl, rfl, rfl⟩ := e
    rw [h]; rfl
  · by_cases e1 : k = kk
    · by_cases e2 : x = a
      · have e3 : ¬ y = c := fun q => e ⟨e1, e2, q⟩
        simp [e3]
      · simp [e2]
    · simp [e1]
theorem mat_comm (ar : Nat → Aa) (r : Ru) (kind : Int32) (s t : Tt) : matB ar r kind s t = matB ar r kind t s := by
  unfold matB
  congr 1
  congr 1
  · unfold btwB
    rw [Bool.or_comm]
  · congr 1
    · rw [Bool.and_comm]
    · cases r.2.2.2.2.2.2 with
      | none => rfl
      | some a => exact Bool.and_comm _ _
theorem bes_comm (u : XS) (k x y : Nat) : besU u k x y = besU u k y x := besF_same _ (fun _ _ => Or.inl rfl) (fun _ _ => mat_comm _ _ _ _ _)
theorem bes_mm (u : XS) (k x y : Nat) : besU u k (min x y) (max x y) = besU u k x y := by
  rcases Nat.le_total x y with h | h
  · rw [Nat.min_eq_left h, Nat.max_eq_right h]
  · rw [Nat.min_eq_right h, Nat.max_eq_left h, bes_comm]
theorem sIx_mm (k x y : Nat) : sIx k x y = sIx k (min x y) (max x y) := by
  rcases Nat.le_total x y with h | h
  · rw [Nat.min_eq_left h, Nat.max_eq_right h]
  · rw [Nat.min_eq_right h, Nat.max_eq_left h, sIx_comm]
/-! parts of the world that change -/
theorem XW_o {ev : EV} {b : Nat} {u : XS} {q' : Int32 × Nat × Nat × Nat × Int64} {H H1 : Heap} (h : XW ev b u H) (hat : xO ev b q' H1) (o : ∀ q : Nat, q ≠ b → H1[q]? = H[q]?) (hb : xB (q', u.2)) : XW ev b (q', u.2) H1 :=
  ⟨hat, xR_k h.2.1 (fun q _ _ => o q (by omega)), xA_k h.2.2.1 (fun q _ _ => o q (by omega)), xT_k h.2.2.2.1 (fun q _ _ => o q (by omega)), hb⟩
theorem xR_u {ev : EV} {b i : Nat} {ru : Nat → Ru} {r : Ru} {H H1 : Heap} (h : xR ev b ru H) (hat : pt ev H1 (b + 2 + i) (oC 4 (ruV r))) (o : Blk (b + 2 + i) (b + 2 + i + 1) H H1) : xR ev b (va_up ru i r) H1 := by
  refine ⟨pt_k h.1 (o.2 _ (by omega)), fun j hj => ?_⟩
  by_cases e : j = i
  · subst e; rw [va_up_self]; exact hat
  · rw [va_up_ne _ _ e]; exact pt_k (h.2 j hj) (o.2 _ (by omega))
theorem xA_u {ev : EV} {b i : Nat} {ru : Nat → Aa} {r : Aa} {H H1 : Heap} (h : xA ev b ru H) (hat : pt ev H1 (b + 43 + i) (oC 2 (aaV r))) (o : Blk (b + 43 + i) (b + 43 + i + 1) H H1) : xA ev b (va_up ru i r) H1 := by
  refine ⟨pt_k h.1 (o.2 _ (by omega)), fun j hj => ?_⟩
  by_cases e : j = i
  · subst e; rw [va_up_self]; exact hat
  · rw [va_up_ne _ _ e]; exact pt_k (h.2 j hj) (o.2 _ (by omega))
theorem xT_u {ev : EV} {b i : Nat} {ru : Nat → Tt} {r : Tt} {H H1 : Heap} (h : xT ev b ru H) (hat : pt ev H1 (b + 56 + i) (oC 5 (ttV r))) (o : Blk (b + 56 + i) (b + 56 + i + 1) H H1) : xT ev b (va_up ru i r) H1 := by
  refine ⟨pt_k h.1 (o.2 _ (by omega)), fun j hj => ?_⟩
  by_cases e : j = i
  · subst e; rw [va_up_self]; exact hat
  · rw [va_up_ne _ _ e]; exact pt_k (h.2 j hj) (o.2 _ (by omega))
theorem XW_r {ev : EV} {b i : Nat} {u : XS} {r : Ru} {H H1 : Heap} (h : XW ev b u H) (hi : i < 40) (hat : pt ev H1 (b + 2 + i) (oC 4 (ruV r))) (o : Blk (b + 2 + i) (b + 2 + i + 1) H H1) (hb : xB (u.1, va_up u.2.1 i r, u.2.2)) : XW ev b (u.1, va_up u.2.1 i r, u.2.2) H1 :=
  ⟨xO_k h.1 (o.2 _ (by omega)), xR_u h.2.1 hat o, xA_k h.2.2.1 (fun q _ _ => o.2 q (by omega)), xT_k h.2.2.2.1 (fun q _ _ => o.2 q (by omega)), hb⟩
theorem XW_a {ev : EV} {b i : Nat} {u : XS} {r : Aa} {H H1 : Heap} (h : XW ev b u H) (hi : i < 12) (hat : pt ev H1 (b + 43 + i) (oC 2 (aaV r))) (o : Blk (b + 43 + i) (b + 43 + i + 1) H H1) : XW ev b (u.1, u.2.1, va_up u.2.2.1 i r, u.2.2.2) H1 :=
  ⟨xO_k h.1 (o.2 _ (by omega)), xR_k h.2.1 (fun q _ _ => o.2 q (by omega)), xA_u h.2.2.1 hat o, xT_k h.2.2.2.1 (fun q _ _ => o.2 q (by omega)), h.2.2.2.2⟩
theorem XW_t {ev : EV} {b i : Nat} {u : XS} {r : Tt} {H H1 : Heap} (h : XW ev b u H) (hi : i < 40) (hat : pt ev H1 (b + 56 + i) (oC 5 (ttV r))) (o : Blk (b + 56 + i) (b + 56 + i + 1) H H1) : XW ev b (u.1, u.2.1, u.2.2.1, va_up u.2.2.2 i r) H1 :=
  ⟨xO_k h.1 (o.2 _ (by omega)), xR_k h.2.1 (fun q _ _ => o.2 q (by omega)), xA_k h.2.2.1 (fun q _ _ => o.2 q (by omega)), xT_u h.2.2.2.1 hat o, h.2.2.2.2⟩
theorem okIdx {n : Nat} {x : Int32} (hn : n ≤ 40) (h : okI n x) : ∃ i, i < n ∧ i < 40 ∧ x = nI i := by
  obtain ⟨i, h1, h2⟩ := okI_ix (Nat.lt_of_le_of_lt hn (by decide)) h
  exact ⟨i, h1, Nat.lt_of_lt_of_le h1 hn, h2⟩
end
section
def winU (u : XS) (kp : KT) (kk j k : Nat) : XS := ((u.1.1, u.1.2.1, u.1.2.2.1, u.1.2.2.2.1, if kp kk (min j k) (max j k) = true then u.1.2.2.2.2 + 1 else u.1.2.2.2.2), u.2)
def winK (kp : KT) (kk j k : Nat) : KT := kpS kp kk (min j k) (max j k)
theorem KP_mm {u : XS} {kp : KT} {sl : Nat → Int32} (h : KP u kp sl) {kk j k : Nat} (hkk : kk < 6) (hj : j < 40) (hk : k < 40) : sl (sIx kk j k) = (if kp kk (min j k) (max j k) = true then oI (besU u kk j k) + 2 else 0) := by
  rw [sIx_mm, (h kk (min j k) (max j k) hkk (by omega) (by omega)).1, bes_mm]
theorem KP_has {u : XS} {kp : KT} {sl : Nat → Int32} (h : KP u kp sl) (hnr : u.1.2.1 ≤ 40) {kk j k : Nat} (hkk : kk < 6) (hj : j < 40) (hk : k < 40) : (sl (sIx kk j k) = 0 → kp kk (min j k) (max j k) = false) ∧ (¬ sl (sIx kk j k) = 0 → kp kk (min j k) (max j k) = true) := by
  have e := KP_mm h hkk hj hk
  cases hc : kp kk (min j k) (max j k) with
  | false =>
    rw [hc, if_neg (by decide)] at e
    exact ⟨fun _ => rfl, fun q => absurd e q⟩
  | true =>
    rw [hc, if_pos rfl] at e
    exact ⟨fun q => absurd (e.symm.trans q) (oI_2 (besF_40 hnr)), fun _ => rfl⟩
def rm_X_keptWinner : Room := { frames := 4, cells := 0, slots := 0, locals := 94 }
set_option maxRecDepth 100000 in
set_option maxHeartbeats 4000000 in
theorem c_X_keptWinner {l : Launch} {ev : EV} {H0 : Heap} {b : Nat} {u : XS} {kp : KT} {v : PT} (hf : XF ev b u kp v H0) {kk j k : Nat} {p0 p1 p2 : Int32} (e0 : p0 = nI kk) (e1 : p1 = nI j) (e2 : p2 = nI k) (hkk : kk < 6) (hj : j < u.1.2.2.2.1) (hk : k < u.1.2.2.2.1) : Met l my_X_keptWinner mw_X_keptWinner rm_X_keptWinner (cP [.ref b, .int p0, .int p1, .int p2] (KG ev) H0) (cQd (some (.int (oI (besU u kk j k)))) (fun H1 => XF ev b (winU u kp kk j k) (winK kp kk j k) v H1 ∧ Blk b (b + 101) H0 H1)) 0 0 (inBk b (b + 101)) := by
  refine cHead [.ref b, .int p0, .int p1, .int p2] (by decide) rfl (Nat.le_of_ble_eq_true rfl) ?_
  intro p e s m below meth c ls args QQ hQ S hr hlk hnm hs hK hl
  have S : CallFix p m c mb_X_keptWinner 5 s args TB "RuleChoice" := S
  obtain ⟨hx, hb, hml, hown, hts⟩ := id S
  subst e0; subst e1; subst e2
  obtain ⟨hw, ⟨sl, hkp, hn⟩, hp, hO, hz⟩ := id hf
  have hj40 : j < 40 := Nat.lt_of_lt_of_le hj hw.2.2.2.2.2.2.1
  have hk40 : k < 40 := Nat.lt_of_lt_of_le hk hw.2.2.2.2.2.2.1
  have hl : lv_has ls 5 [(0, .ref b), (1, .int (nI kk)), (2, .int (nI j)), (3, .int (nI k))] := hl
  refine lv_aload_n hx hb d_X_keptWinner_0 rfl (lv_at hl 0 rfl) ?_
  refine rw_get hx hb hts in_X hown hK.1 hw.1 rfl 4 (by decide) (hts _ fl_X_46) rfl d_X_keptWinner_1 ?_
  refine lv_iload_n hx hb d_X_keptWinner_4 rfl (lv_at hl 1 rfl) ?_
  refine lv_iload_n hx hb d_X_keptWinner_5 rfl (lv_at hl 2 rfl) ?_
  refine lv_iload_n hx hb d_X_keptWinner_6 rfl (lv_at hl 3 rfl) ?_
  refine cl_i (W.runV (As := [.int (nI kk), .int (nI j), .int (nI k)]) (rest := []) S (c_N_has hn (rfl) (rfl) (rfl) (hkk) (hj40) (hk40)) (cwV 3 hts gv_X_211 rfl rfl rfl (by decide +kernel) ⟨Nat.le_of_ble_eq_true rfl, Nat.le_of_ble_eq_true rfl⟩) (cP_V (KG_ok _) hK hK.1 hn.1 rfl) rfl rfl hl.1 rfl (lv_room (Nat.le_of_ble_eq_true rfl)) d_X_keptWinner_7 ⟨Nat.le_of_ble_eq_true rfl, Nat.le_of_ble_eq_true rfl⟩) ?_
  refine lv_if_eq (tgt := 34) hx hb d_X_keptWinner_10 (by decide) (fun c10 => ?_) (fun c10 => ?_)
  · have hz0 : sl (sIx kk j k) = 0 := by simpa [bI] using c10
    have gk := (KP_has hkp hw.2.2.2.2.1 hkk hj40 hk40).1 hz0
    refine lv_aload_n hx hb d_X_keptWinner_34 rfl (lv_at hl 0 rfl) ?_
    refine lv_iconst (v := (-1)) hx hb d_X_keptWinner_35 (by decide) ?_
    refine lv_iload_n hx hb d_X_keptWinner_36 rfl (lv_at hl 1 rfl) ?_
    refine lv_aload_n hx hb d_X_keptWinner_37 rfl (lv_at hl 0 rfl) ?_
    refine rw_get hx hb hts in_X hown hK.1 hw.1 rfl 3 (by decide) (hts _ fl_X_38) rfl d_X_keptWinner_38 ?_
    refine lv_iload_n hx hb d_X_keptWinner_41 rfl (lv_at hl 2 rfl) ?_
    refine rw_aald hx hb hK.1 5 hw.2.2.2.1.1 rfl j (rfl) (hj40) (by decide) rfl d_X_keptWinner_42 ?_
    refine lv_aload_n hx hb d_X_keptWinner_43 rfl (lv_at hl 0 rfl) ?_
    refine rw_get hx hb hts in_X hown hK.1 hw.1 rfl 3 (by decide) (hts _ fl_X_38) rfl d_X_keptWinner_44 ?_
    refine lv_iload_n hx hb d_X_keptWinner_47 rfl (lv_at hl 3 rfl) ?_
    refine rw_aald hx hb hK.1 5 hw.2.2.2.1.1 rfl k (rfl) (hk40) (by decide) rfl d_X_keptWinner_48 ?_
    refine cl_i (W.runV (As := [.int (-1), .int (nI kk), .ref (b + 56 + j), .ref (b + 56 + k)]) (rest := []) S (c_X_bestBelow hw (up := none) (j := j) (k := k) (fun _ h => by cases h) (hj40) (hk40) (nI kk)) (cwV 4 hts gv_X_164 rfl rfl rfl (by decide +kernel) ⟨Nat.le_of_ble_eq_true rfl, Nat.le_of_ble_eq_true rfl⟩) (cP_V (KG_ok _) hK hK.1 hw.1 rfl) rfl rfl hl.1 rfl (lv_room (Nat.le_of_ble_eq_true rfl)) d_X_keptWinner_49 ⟨Nat.le_of_ble_eq_true rfl, Nat.le_of_ble_eq_true rfl⟩) ?_
    refine lv_istore (lv' := [(4, .int (oI (besF u.2.1 u.2.2.1 none (nI kk) (u.2.2.2 j) (u.2.2.2 k) u.1.2.1))), (0, .ref b), (1, .int (nI kk)), (2, .int (nI j)), (3, .int (nI k))]) hx hb d_X_keptWinner_52 hl (by decide) rfl (fun ls hl => ?_)
    refine lv_aload_n hx hb d_X_keptWinner_54 rfl (lv_at hl 1 rfl) ?_
    refine rw_get hx hb hts in_X hown hK.1 hw.1 rfl 4 (by decide) (hts _ fl_X_46) rfl d_X_keptWinner_55 ?_
    refine lv_iload_n hx hb d_X_keptWinner_58 rfl (lv_at hl 2 rfl) ?_
    refine lv_iload_n hx hb d_X_keptWinner_59 rfl (lv_at hl 3 rfl) ?_
    refine lv_iload_n hx hb d_X_keptWinner_60 rfl (lv_at hl 4 rfl) ?_
    refine lv_iload hx hb d_X_keptWinner_61 (lv_at hl 0 rfl) ?_
    refine cl_d (W.runV (As := [.int (nI kk), .int (nI j), .int (nI k), .int (oI (besF u.2.1 u.2.2.1 none (nI kk) (u.2.2.2 j) (u.2.2.2 k) u.1.2.1))]) (rest := []) S (c_N_keep hn (rfl) (rfl) (rfl) (hkk) (hj40) (hk40) (v := (oI (besF u.2.1 u.2.2.1 none (nI kk) (u.2.2.2 j) (u.2.2.2 k) u.1.2.1))) hz0 (oI_2 (besF_40 hw.2.2.2.2.1))) (cwV 4 hts gv_X_218 rfl rfl rfl (by decide +kernel) ⟨Nat.le_of_ble_eq_true rfl, Nat.le_of_ble_eq_true rfl⟩) (cP_V (KG_ok _) hK hK.1 hn.1 rfl) rfl rfl hl.1 rfl (lv_room (Nat.le_of_ble_eq_true rfl)) d_X_keptWinner_63 ⟨Nat.le_of_ble_eq_true rfl, Nat.le_of_ble_eq_true rfl⟩) (A := inBk b (b + 101)) cNil (fun z h => ⟨by omega, by omega⟩) (fun H1 L2 hp3 hL4 => ?_)
    have hn5 := hp3.1
    have hBk := hp3.2
    have hw6 := XW_k hw (fun q _ _ => hBk.2 q (by omega))
    have hp7 := xP_k hp (fun q _ _ => hBk.2 q (by omega))
    have hO8 := Old.blk hO hBk (by omega)
    have hB9 := Blk.trans (Blk.rf (lo := b) (hi := b + 101) (H := H0)) (hBk.wide (by omega) (by omega))
    refine lv_iload hx hb d_X_keptWinner_66 (lv_at hl 0 rfl) ?_
    have hk9 := KP_keep (kk := kk) hkp (a := min j k) (c := max j k) (by omega) (by omega) (by omega)
    rw [bes_mm, ← sIx_mm] at hk9
    exact rt_di hQ hx hb hr hlk rfl rfl ⟨⟨by unfold winU; rw [if_neg (by rw [gk]; decide)]; exact hw6, ⟨_, hk9, hn5⟩, hp7, hO8, hz⟩, hB9⟩ hL4 (Nat.le_of_ble_eq_true rfl) (Nat.le_of_ble_eq_true rfl) d_X_keptWinner_68
  · have g10 : ¬ sl (sIx kk j k) = 0 := by simpa [bI] using c10
    have gk := (KP_has hkp hw.2.2.2.2.1 hkk hj40 hk40).2 g10
    refine lv_aload_n hx hb d_X_keptWinner_13 rfl (lv_at hl 0 rfl) ?_
    refine lv_dup hx hb d_X_keptWinner_14 rfl ?_
    refine rw_get hx hb hts in_X hown hK.1 hw.1 rfl 9 (by decide) (hts _ fl_X_208) rfl d_X_keptWinner_15 ?_
    refine lv_lconst (v := 1) hx hb d_X_keptWinner_18 (by decide) ?_
    refine lv_ladd hx hb d_X_keptWinner_19 ?_
    refine rw_put hx hb hts in_X ck_X ok_X nm_X hown hK.1 hw.1 rfl 9 (by decide) (hts _ fl_X_208) rfl (ok_X 9 (by decide)) rfl rfl (Nat.le_of_ble_eq_true rfl) (⟨Nat.le_refl _, by omega⟩) (A := inBk b (b + 101)) cNil d_X_keptWinner_20 (fun H10 L11 z12 o13 hat14 hL15 => ?_)
    have hBo := Blk.one z12 o13
    have hw9 : XW ev b (winU u kp kk j k) H10 := XW_o hw (by rw [if_pos gk]; exact hat14) o13 hw.2.2.2.2
    have hn16 := xN_k hn (fun q _ _ => hBo.2 q (by omega))
    have hp17 := xP_k hp (fun q _ _ => hBo.2 q (by omega))
    have hO18 := Old.blk hO hBo (by omega)
    have hB19 := Blk.trans (Blk.rf (lo := b) (hi := b + 101) (H := H0)) (hBo.wide (by omega) (by omega))
    refine lv_aload_n hx hb d_X_keptWinner_23 rfl (lv_at hl 0 rfl) ?_
    refine rw_get hx hb hts in_X hown hK.1 hat14 rfl 4 (by decide) (hts _ fl_X_46) rfl d_X_keptWinner_24 ?_
    refine lv_iload_n hx hb d_X_keptWinner_27 rfl (lv_at hl 1 rfl) ?_
    refine lv_iload_n hx hb d_X_keptWinner_28 rfl (lv_at hl 2 rfl) ?_
    refine lv_iload_n hx hb d_X_keptWinner_29 rfl (lv_at hl 3 rfl) ?_
    refine cl_i (W.runV (As := [.int (nI kk), .int (nI j), .int (nI k)]) (rest := []) S (c_N_read hn16 (rfl) (rfl) (rfl) (hkk) (hj40) (hk40)) (cwV 3 hts gv_X_215 rfl rfl rfl (by decide +kernel) ⟨Nat.le_of_ble_eq_true rfl, Nat.le_of_ble_eq_true rfl⟩) (cP_V (KG_ok _) hK hK.1 hn16.1 rfl) rfl rfl hl.1 rfl (lv_room (Nat.le_of_ble_eq_true rfl)) d_X_keptWinner_30 ⟨Nat.le_of_ble_eq_true rfl, Nat.le_of_ble_eq_true rfl⟩) ?_
    exact rt_di hQ hx hb hr hlk rfl (by rw [KP_mm hkp hkk hj40 hk40, if_pos gk]; exact i_as _) ⟨⟨hw9, ⟨sl, by show KP u (kpS kp kk _ _) sl; rw [kpS_id gk]; exact hkp, hn16⟩, hp17, hO18, hz⟩, hB19⟩ hL15 (Nat.le_of_ble_eq_true rfl) (Nat.le_of_ble_eq_true rfl) d_X_keptWinner_33
end
section
abbrev nn (x : Int32) : Nat := x.toNatClampNeg
theorem nn_nI {i : Nat} (h : i < 2 ^ 31) : (nI i).toNatClampNeg = i := nI_clamp h
def rm_X_winner : Room := { frames := 8, cells := 3, slots := 18, locals := 127 }
set_option maxRecDepth 100000 in
set_option maxHeartbeats 4000000 in
theorem c_X_winner {l : Launch} {ev : EV} {H0 : Heap} {b : Nat} {u : XS} {kp : KT} {v : PT} (hT : l.stackTraces = false) (hf : XF ev b u kp v H0) (k x y : Int32) : vx_Met l my_X_winner mw_X_winner rm_X_winner (cP [.ref b, .int k, .int x, .int y] (KG ev) H0) (cQod (okK k ∧ okI u.1.2.2.2.1 x ∧ okI u.1.2.2.2.1 y) (some (.int (oI (besU u (nn k) (nn x) (nn y))))) (fun H1 => XF ev b (winU u kp (nn k) (nn x) (nn y)) (winK kp (nn k) (nn x) (nn y)) v H1 ∧ Frm b 101 H0 H1)) (cX (fun E H1 => (¬ (okK k ∧ okI u.1.2.2.2.1 x ∧ okI u.1.2.2.2.1 y)) ∧ E = cIX ∧ XF ev b u kp v H1 ∧ Frm b 101 H0 H1)) 3 18 (inBk b (b + 101)) := by
  refine cHeadX [.ref b, .int k, .int x, .int y] (by decide) rfl (Nat.le_of_ble_eq_true rfl) ?_
  intro p e s m below meth c ls args QQ hQ htab S hr hlk hnm hs hK hl
  have S : CallFix p m c mb_X_winner 4 s args TB "RuleChoice" := S
  obtain ⟨hx, hb, hml, hown, hts⟩ := id S
  obtain ⟨hw, ⟨sl, hkp, hn⟩, hp, hO, hz⟩ := id hf
  have hold := hO
  have ht40 : u.1.2.2.2.1 ≤ 40 := hw.2.2.2.2.2.2.1
  have hr40 : u.1.2.1 ≤ 40 := hw.2.2.2.2.1
  have hl : lv_has ls 4 [(0, .ref b), (1, .int k), (2, .int x), (3, .int y)] := hl
  refine lv_aload_n hx hb d_X_winner_0 rfl (lv_at hl 0 rfl) ?_
  refine lv_iload_n hx hb d_X_winner_1 rfl (lv_at hl 1 rfl) ?_
  refine lv_iload_n hx hb d_X_winner_2 rfl (lv_at hl 2 rfl) ?_
  refine lv_iload_n hx hb d_X_winner_3 rfl (lv_at hl 3 rfl) ?_
  refine cx_v (vx_runV (As := [.int k, .int x, .int y]) (rest := []) S (c_X_needKindAndThings hT hold hw k x y) (cwV 3 hts gv_X_152 rfl rfl rfl (by decide +kernel) ⟨Nat.le_of_ble_eq_true rfl, Nat.le_of_ble_eq_true rfl⟩) (cP_V (KG_ok _) hK hK.1 hw.1 rfl) rfl rfl hl.1 rfl (lv_room (Nat.le_of_ble_eq_true rfl)) d_X_winner_4 ⟨Nat.le_of_ble_eq_true rfl, Nat.le_of_ble_eq_true rfl⟩) (A := inBk b (b + 101)) cNil (fun E1 H2 ce3 q4 L5 hp6 hL7 h8 h9 h10 => ?_) (fun k11 => ?_)
  · exact cx_out hQ htab hlk h8 h9 h10 (⟨hp6.1, hp6.2.1, XF_ext hf hp6.2.2, Frm.ext hp6.2.2⟩) hL7 (Nat.le_of_ble_eq_true rfl) (Nat.le_of_ble_eq_true rfl)
  · obtain ⟨kk, hkk, rfl⟩ := okK_ix k11.1
    obtain ⟨j, hnj, hj, rfl⟩ := okIdx hw.2.2.2.2.2.2.1 k11.2.1
    obtain ⟨j2, hnj2, hj2, rfl⟩ := okIdx hw.2.2.2.2.2.2.1 k11.2.2
    simp only [nn_nI (i := kk) (by omega), nn_nI (i := j) (by omega), nn_nI (i := j2) (by omega)] at hQ
    refine lv_aload_n hx hb d_X_winner_7 rfl (lv_at hl 0 rfl) ?_
    refine lv_iload_n hx hb d_X_winner_8 rfl (lv_at hl 1 rfl) ?_
    refine lv_iload_n hx hb d_X_winner_9 rfl (lv_at hl 2 rfl) ?_
    refine lv_iload_n hx hb d_X_winner_10 rfl (lv_at hl 3 rfl) ?_
    refine cl_d (W.runV (As := [.int (nI kk), .int (nI j), .int (nI j2)]) (rest := []) S (c_X_keptWinner hf (kk := kk) (j := j) (k := j2) rfl rfl rfl (hkk) hnj hnj2) (cwV 3 hts gv_X_156 rfl rfl rfl (by decide +kernel) ⟨Nat.le_of_ble_eq_true rfl, Nat.le_of_ble_eq_true rfl⟩) (cP_V (KG_ok _) hK hK.1 hw.1 rfl) rfl rfl hl.1 rfl (lv_room (Nat.le_of_ble_eq_true rfl)) d_X_winner_11 ⟨Nat.le_of_ble_eq_true rfl, Nat.le_of_ble_eq_true rfl⟩) (A := inBk b (b + 101)) cNil (fun z h => h) (fun H12 L13 hp14 hL15 => ?_)
    exact ry_i hQ (⟨okI_of (n := 6) (by decide) hkk, okI_of (by omega) hnj, okI_of (by omega) hnj2⟩) hx hb hr hlk (rfl) (rfl) (⟨hp14.1, Frm.blk hp14.2 (Nat.le_refl _) (Nat.le_refl _)⟩) hL15 (Nat.le_of_ble_eq_true rfl) (Nat.le_of_ble_eq_true rfl) d_X_winner_14
def rm_X_value : Room := { frames := 8, cells := 3, slots := 18, locals := 127 }
set_option maxRecDepth 100000 in
set_option maxHeartbeats 4000000 in
theorem c_X_value {l : Launch} {ev : EV} {H0 : Heap} {b : Nat} {u : XS} {kp : KT} {v : PT} (hT : l.stackTraces = false) (hf : XF ev b u kp v H0) (k x y : Int32) : vx_Met l my_X_value mw_X_value rm_X_value (cP [.ref b, .int k, .int x, .int y] (KG ev) H0) (cQod (okK k ∧ okI u.1.2.2.2.1 x ∧ okI u.1.2.2.2.1 y) (some (.long (valF u.2.1 (besU u (nn k) (nn x) (nn y))))) (fun H1 => XF ev b (winU u kp (nn k) (nn x) (nn y)) (winK kp (nn k) (nn x) (nn y)) v H1 ∧ Frm b 101 H0 H1)) (cX (fun E H1 => (¬ (okK k ∧ okI u.1.2.2.2.1 x ∧ okI u.1.2.2.2.1 y)) ∧ E = cIX ∧ XF ev b u kp v H1 ∧ Frm b 101 H0 H1)) 3 18 (inBk b (b + 101)) := by
  refine cHeadX [.ref b, .int k, .int x, .int y] (by decide) rfl (Nat.le_of_ble_eq_true rfl) ?_
  intro p e s m below meth c ls args QQ hQ htab S hr hlk hnm hs hK hl
  have S : CallFix p m c mb_X_value 4 s args TB "RuleChoice" := S
  obtain ⟨hx, hb, hml, hown, hts⟩ := id S
  obtain ⟨hw, ⟨sl, hkp, hn⟩, hp, hO, hz⟩ := id hf
  have hold := hO
  have ht40 : u.1.2.2.2.1 ≤ 40 := hw.2.2.2.2.2.2.1
  have hr40 : u.1.2.1 ≤ 40 := hw.2.2.2.2.1
  have hl : lv_has ls 4 [(0, .ref b), (1, .int k), (2, .int x), (3, .int y)] := hl
  refine lv_aload_n hx hb d_X_value_0 rfl (lv_at hl 0 rfl) ?_
  refine lv_iload_n hx hb d_X_value_1 rfl (lv_at hl 1 rfl) ?_
  refine lv_iload_n hx hb d_X_value_2 rfl (lv_at hl 2 rfl) ?_
  refine lv_iload_n hx hb d_X_value_3 rfl (lv_at hl 3 rfl) ?_
  refine cx_v (vx_runV (As := [.int k, .int x, .int y]) (rest := []) S (c_X_needKindAndThings hT hold hw k x y) (cwV 3 hts gv_X_152 rfl rfl rfl (by decide +kernel) ⟨Nat.le_of_ble_eq_true rfl, Nat.le_of_ble_eq_true rfl⟩) (cP_V (KG_ok _) hK hK.1 hw.1 rfl) rfl rfl hl.1 rfl (lv_room (Nat.le_of_ble_eq_true rfl)) d_X_value_4 ⟨Nat.le_of_ble_eq_true rfl, Nat.le_of_ble_eq_true rfl⟩) (A := inBk b (b + 101)) cNil (fun E1 H2 ce3 q4 L5 hp6 hL7 h8 h9 h10 => ?_) (fun k11 => ?_)
  · exact cx_out hQ htab hlk h8 h9 h10 (⟨hp6.1, hp6.2.1, XF_ext hf hp6.2.2, Frm.ext hp6.2.2⟩) hL7 (Nat.le_of_ble_eq_true rfl) (Nat.le_of_ble_eq_true rfl)
  · obtain ⟨kk, hkk, rfl⟩ := okK_ix k11.1
    obtain ⟨j, hnj, hj, rfl⟩ := okIdx hw.2.2.2.2.2.2.1 k11.2.1
    obtain ⟨j2, hnj2, hj2, rfl⟩ := okIdx hw.2.2.2.2.2.2.1 k11.2.2
    simp only [nn_nI (i := kk) (by omega), nn_nI (i := j) (by omega), nn_nI (i := j2) (by omega)] at hQ
    refine lv_aload_n hx hb d_X_value_7 rfl (lv_at hl 0 rfl) ?_
    refine lv_aload_n hx hb d_X_value_8 rfl (lv_at hl 0 rfl) ?_
    refine lv_iload_n hx hb d_X_value_9 rfl (lv_at hl 1 rfl) ?_
    refine lv_iload_n hx hb d_X_value_10 rfl (lv_at hl 2 rfl) ?_
    refine lv_iload_n hx hb d_X_value_11 rfl (lv_at hl 3 rfl) ?_
    refine cl_d (W.runV (As := [.int (nI kk), .int (nI j), .int (nI j2)]) (rest := [.ref b]) S (c_X_keptWinner hf (kk := kk) (j := j) (k := j2) rfl rfl rfl (hkk) hnj hnj2) (cwV 3 hts gv_X_156 rfl rfl rfl (by decide +kernel) ⟨Nat.le_of_ble_eq_true rfl, Nat.le_of_ble_eq_true rfl⟩) (cP_V (KG_ok _) hK hK.1 hw.1 rfl) rfl rfl hl.1 rfl (lv_room (Nat.le_of_ble_eq_true rfl)) d_X_value_12 ⟨Nat.le_of_ble_eq_true rfl, Nat.le_of_ble_eq_true rfl⟩) (A := inBk b (b + 101)) cNil (fun z h => h) (fun H12 L13 hp14 hL15 => ?_)
    refine cl_l (W.runV (As := [.int (oI (besU u kk j j2))]) (rest := []) S (c_X_valueOf hp14.1.1 (o := besU u kk j j2) (besF_40 hr40)) (cwV 1 hts gv_X_160 rfl rfl rfl (by decide +kernel) ⟨Nat.le_of_ble_eq_true rfl, Nat.le_of_ble_eq_true rfl⟩) (cP_V (KG_ok _) hK hK.1 hp14.1.1.1 rfl) rfl rfl hl.1 rfl (lv_room (Nat.le_of_ble_eq_true rfl)) d_X_value_15 ⟨Nat.le_of_ble_eq_true rfl, Nat.le_of_ble_eq_true rfl⟩) ?_
    exact ry_l hQ (⟨okI_of (n := 6) (by decide) hkk, okI_of (by omega) hnj, okI_of (by omega) hnj2⟩) hx hb hr hlk (rfl) (⟨hp14.1, Frm.blk hp14.2 (Nat.le_refl _) (Nat.le_refl _)⟩) hL15 (Nat.le_of_ble_eq_true rfl) (Nat.le_of_ble_eq_true rfl) d_X_value_18
end
section
/-! what a change of the tables does to winners -/
theorem nI_nk {k kk : Nat} (hk : k < 6) (hkk : kk < 6) (ne : k ≠ kk) : ¬ nI kk = nI k := fun e => ne ((nI_eq (by omega) (by omega)).mp e).symm
theorem bes_rul {u : XS} {kk : Nat} {r : Ru} (hr : r.1 = nI kk) (hkk : kk < 6) {k : Nat} (hk : k < 6) (ne : k ≠ kk) (x y : Nat) : besU ((u.1.1, u.1.2.1 + 1, u.1.2.2), va_up u.2.1 u.1.2.1 r, u.2.2) k x y = besU u k x y := by
  show besF (va_up u.2.1 u.1.2.1 r) u.2.2.1 none (nI k) (u.2.2.2 x) (u.2.2.2 y) (u.1.2.1 + 1) = _
  rw [besF_m]
  · exact besF_same _ (fun i hi => Or.inl (va_up_ne _ _ (by omega))) (fun _ _ => rfl)
  · rw [va_up_self]
    cases hm : matB u.2.2.1 r (nI k) (u.2.2.2 x) (u.2.2.2 y) with
    | false => rfl
    | true => exact absurd (hr.symm.trans (mat_k hm)) (nI_nk hk hkk ne)
theorem bes_row {u : XS} {i kk : Nat} {r : Ru} (h1 : (u.2.1 i).1 = nI kk) (h2 : r.1 = nI kk) (hkk : kk < 6) {k : Nat} (hk : k < 6) (ne : k ≠ kk) (x y : Nat) : besU (u.1, va_up u.2.1 i r, u.2.2) k x y = besU u k x y := by
  refine besF_same _ (fun j _ => ?_) (fun _ _ => rfl)
  by_cases e : j = i
  · subst e
    refine Or.inr ⟨by rw [h1]; exact nI_nk hk hkk ne, ?_⟩
    show (va_up u.2.1 j r j).1 ≠ nI k
    rw [va_up_self, h2]
    exact nI_nk hk hkk ne
  · exact Or.inl (va_up_ne _ _ e)
theorem mat_ar {ar ar' : Nat → Aa} {r : Ru} {kind : Int32} {s t s' t' : Tt} (h1 : s'.1 = s.1) (h2 : s'.2.1 = s.2.1) (h3 : t'.1 = t.1) (h4 : t'.2.1 = t.2.1) (ha : arB ar' r.2.2.2.2.2.2 s' t' = arB ar r.2.2.2.2.2.2 s t) : matB ar' r kind s' t' = matB ar r kind s t := by
  unfold matB
  rw [h1, h2, h3, h4, ha]
theorem bes_area {u : XS} {r : Aa} (hb : xB u) (k x y : Nat) : besU ((u.1.1, u.1.2.1, u.1.2.2.1 + 1, u.1.2.2.2), u.2.1, va_up u.2.2.1 u.1.2.2.1 r, u.2.2.2) k x y = besU u k x y := by
  refine besF_same _ (fun _ _ => Or.inl rfl) (fun i hi => ?_)
  refine mat_ar rfl rfl rfl rfl ?_
  have hi40 : i < 40 := Nat.lt_of_lt_of_le hi hb.1
  cases ho : (u.2.1 i).2.2.2.2.2.2 with
  | none => rfl
  | some a =>
    have ha := hb.2.2.2.1 i a hi40 ho
    show (inB (va_up u.2.2.1 u.1.2.2.1 r a) _ _ && inB (va_up u.2.2.1 u.1.2.2.1 r a) _ _) = _
    rw [va_up_ne _ _ (by omega)]
    rfl
theorem bes_thing {u : XS} {q : Int32 × Nat × Nat × Nat × Int64} {t : Nat} {r : Tt} (hq : q.2.1 = u.1.2.1) {x y : Nat} (hx : x ≠ t) (hy : y ≠ t) (k : Nat) : besU (q, u.2.1, u.2.2.1, va_up u.2.2.2 t r) k x y = besU u k x y := by
  show besF u.2.1 u.2.2.1 none (nI k) (va_up u.2.2.2 t r x) (va_up u.2.2.2 t r y) q.2.1 = _
  rw [va_up_ne _ _ hx, va_up_ne _ _ hy, hq]
  rfl
theorem bes_move {u : XS} {t : Nat} {x0 y0 : Int64} (hb : xB u) (hin : ∀ a, a < u.1.2.2.1 → inB (u.2.2.1 a) x0 y0 = inB (u.2.2.1 a) (u.2.2.2 t).2.2.1 (u.2.2.2 t).2.2.2) (k x y : Nat) : besU (u.1, u.2.1, u.2.2.1, va_up u.2.2.2 t ((u.2.2.2 t).1, (u.2.2.2 t).2.1, x0, y0)) k x y = besU u k x y := by
  have look : ∀ z, (va_up u.2.2.2 t ((u.2.2.2 t).1, (u.2.2.2 t).2.1, x0, y0) z).1 = (u.2.2.2 z).1 ∧ (va_up u.2.2.2 t ((u.2.2.2 t).1, (u.2.2.2 t).2.1, x0, y0) z).2.1 = (u.2.2.2 z).2.1 ∧ ∀ a, a < u.1.2.2.1 → inB (u.2.2.1 a) (va_up u.2.2.2 t ((u.2.2.2 t).1, (u.2.2.2 t).2.1, x0, y0) z).2.2.1 (va_up u.2.2.2 t ((u.2.2.2 t).1, (u.2.2.2 t).2.1, x0, y0) z).2.2.2 = inB (u.2.2.1 a) (u.2.2.2 z).2.2.1 (u.2.2.2 z).2.2.2 := by
    intro z
    by_cases e : z = t
    · subst e
      rw [va_up_self]
      exact ⟨rfl, rfl, hin⟩
    · rw [va_up_ne _ _ e]
      exact ⟨rfl, rfl, fun _ _ => rfl⟩
  refine besF_same _ (fun _ _ => Or.inl rfl) (fun i hi => ?_)
  refine mat_ar (look x).1 (look x).2.1 (look y).1 (look y).2.1 ?_
  have hi40 : i < 40 := Nat.lt_of_lt_of_le hi hb.1
  cases ho : (u.2.1 i).2.2.2.2.2.2 with
  | none => rfl
  | some a =>
    have ha := hb.2.2.2.1 i a hi40 ho
    show (inB (u.2.2.1 a) _ _ && inB (u.2.2.1 a) _ _) = _
    rw [(look x).2.2 a ha, (look y).2.2 a ha]
    rfl
theorem one_sh : ∀ l, l < 32 → ((1 : Int32) <<< (nI l &&& 31)).toBitVec = BitVec.twoPow 32 l := by decide +kernel
theorem arn_bit {ar : Nat → Aa} {x y : Int64} : ∀ n a, n ≤ 12 → a < 12 → (arnF ar x y n).toBitVec.getLsbD a = (decide (a < n) && inB (ar a) x y)
  | 0, a, _, _ => by
    show (0 : Int32).toBitVec.getLsbD a = _
    rw [decide_eq_false (by omega)]
    simp
  | n + 1, a, hn, ha => by
    have ih := arn_bit (ar := ar) (x := x) (y := y) n a (by omega) ha
    cases hi : inB (ar n) x y with
    | false =>
      rw [arnF_n hi, ih]
      by_cases e : a = n
      · subst e; rw [hi]; simp
      · rw [show decide (a < n + 1) = decide (a < n) from decide_eq_decide.mpr (by omega)]
    | true =>
      rw [arnF_y hi, Int32.toBitVec_or, BitVec.getLsbD_or, ih, one_sh n (by omega), BitVec.getLsbD_twoPow]
      by_cases e : a = n
      · subst e; rw [hi]; simp; omega
      · rw [show decide (a < n + 1) = decide (a < n) from decide_eq_decide.mpr (by omega)]
        have : ¬ n = a := fun q => e q.symm
        simp [this]
theorem arn_eq {ar : Nat → Aa} {x y x' y' : Int64} {n : Nat} (hn : n ≤ 12) (h : arnF ar x y n = arnF ar x' y' n) : ∀ a, a < n → inB (ar a) x' y' = inB (ar a) x y := by
  intro a ha
  have h1 := arn_bit (ar := ar) (x := x) (y := y) n a hn (by omega)
  have h2 := arn_bit (ar := ar) (x := x') (y := y') n a hn (by omega)
  rw [h, h2, decide_eq_true ha] at h1
  simpa using h1
theorem xB_r {u : XS} {i : Nat} {r : Ru} (h : xB u) (ha : ∀ a, r.2.2.2.2.2.2 = some a → a < u.1.2.2.1) (hk : okK r.1) : xB (u.1, va_up u.2.1 i r, u.2.2) := by
  refine ⟨h.1, h.2.1, h.2.2.1, fun j a hj e => ?_, fun j hj => ?_⟩
  · have e : (va_up u.2.1 i r j).2.2.2.2.2.2 = some a := e
    by_cases q : j = i
    · subst q; rw [va_up_self] at e; exact ha a e
    · rw [va_up_ne _ _ q] at e; exact h.2.2.2.1 j a hj e
  · show okK (va_up u.2.1 i r j).1
    by_cases q : j = i
    · subst q; rw [va_up_self]; exact hk
    · rw [va_up_ne _ _ q]; exact h.2.2.2.2 j hj
/-- an area's number, or NONE -/
def aO (x : Int32) : Option Nat := if x = -1 then none else some (nn x)
theorem aO_I {n : Nat} {x : Int32} (hn : n ≤ 12) (h : okIN n x) : oI (aO x) = x ∧ ∀ a, aO x = some a → a < n := by
  by_cases e : x = -1
  · subst e
    exact ⟨rfl, fun a q => by cases q⟩
  · have h2 : okI n x := h.resolve_left e
    obtain ⟨i, hi, rfl⟩ := okI_ix (Nat.lt_of_le_of_lt hn (by decide)) h2
    unfold aO
    have e9 : nn (nI i) = i := nn_nI (by omega)
    rw [if_neg e, e9]
    exact ⟨rfl, fun a q => by cases q; exact hi⟩
theorem oI_inj {o o' : Option Nat} (h : ∀ a, o = some a → a < 2 ^ 31) (h' : ∀ a, o' = some a → a < 2 ^ 31) (e : oI o = oI o') : o = o' := by
  cases o with
  | none =>
    cases o' with
    | none => rfl
    | some b => exact absurd e.symm (nI_ne (h' b rfl))
  | some a =>
    cases o' with
    | none => exact absurd e (nI_ne (h a rfl))
    | some b => rw [(nI_eq (h a rfl) (h' b rfl)).mp e]
theorem xO_r {ev : EV} {b n : Nat} {q : Int32 × Nat × Nat × Nat × Int64} {H : Heap} (h : pt ev H b (oC 0 [.int q.1, .ref (b + 1), .ref (b + 42), .ref (b + 55), .ref (b + 96), .ref (b + 98), .int (nI n + 1), .int (nI q.2.2.1), .int (nI q.2.2.2.1), .long q.2.2.2.2])) : xO ev b (q.1, n + 1, q.2.2) H := by
  rw [nI_1 n] at h
  exact h
theorem xO_a {ev : EV} {b n : Nat} {q : Int32 × Nat × Nat × Nat × Int64} {H : Heap} (h : pt ev H b (oC 0 [.int q.1, .ref (b + 1), .ref (b + 42), .ref (b + 55), .ref (b + 96), .ref (b + 98), .int (nI q.2.1), .int (nI n + 1), .int (nI q.2.2.2.1), .long q.2.2.2.2])) : xO ev b (q.1, q.2.1, n + 1, q.2.2.2) H := by
  rw [nI_1 n] at h
  exact h
theorem xO_t {ev : EV} {b n : Nat} {q : Int32 × Nat × Nat × Nat × Int64} {H : Heap} (h : pt ev H b (oC 0 [.int q.1, .ref (b + 1), .ref (b + 42), .ref (b + 55), .ref (b + 96), .ref (b + 98), .int (nI q.2.1), .int (nI q.2.2.1), .int (nI n + 1), .long q.2.2.2.2])) : xO ev b (q.1, q.2.1, q.2.2.1, n + 1, q.2.2.2.2) H := by
  rw [nI_1 n] at h
  exact h
end
section
def rulU (u : XS) (k ca cb la : Int32) (w : Int64) : XS := if u.1.2.1 < 40 then ((u.1.1, u.1.2.1 + 1, u.1.2.2), va_up u.2.1 u.1.2.1 (k, ca, cb, la, w, (u.2.1 u.1.2.1).2.2.2.2.2), u.2.2) else u
def rulK (u : XS) (kp : KT) (k : Int32) : KT := if u.1.2.1 < 40 then kpK kp (nn k) else kp
def setR (r : Ru) (x : Int32) : Ru := (r.1, r.2.1, r.2.2.1, r.2.2.2.1, r.2.2.2.2.1, x, r.2.2.2.2.2.2)
def setO (r : Ru) (o : Option Nat) : Ru := (r.1, r.2.1, r.2.2.1, r.2.2.2.1, r.2.2.2.2.1, r.2.2.2.2.2.1, o)
def rowU (u : XS) (i : Nat) (r : Ru) : XS := (u.1, va_up u.2.1 i r, u.2.2)
def areU (u : XS) (r : Aa) : XS := if u.1.2.2.1 < 12 then ((u.1.1, u.1.2.1, u.1.2.2.1 + 1, u.1.2.2.2), u.2.1, va_up u.2.2.1 u.1.2.2.1 r, u.2.2.2) else u
def thiU (u : XS) (r : Tt) : XS := if u.1.2.2.2.1 < 40 then ((u.1.1, u.1.2.1, u.1.2.2.1, u.1.2.2.2.1 + 1, u.1.2.2.2.2), u.2.1, u.2.2.1, va_up u.2.2.2 u.1.2.2.2.1 r) else u
def thgU (u : XS) (t : Nat) (r : Tt) : XS := (u.1, u.2.1, u.2.2.1, va_up u.2.2.2 t r)
def rm_X_rule : Room := { frames := 8, cells := 5, slots := 30, locals := 125 }
set_option maxRecDepth 100000 in
set_option maxHeartbeats 4000000 in
theorem c_X_rule {l : Launch} {ev : EV} {H0 : Heap} {b : Nat} {u : XS} {kp : KT} {v : PT} (hT : l.stackTraces = false) (hf : XF ev b u kp v H0) (k ca cb la : Int32) (vv : Int64) : vx_Met l my_X_rule mw_X_rule rm_X_rule (cP [.ref b, .int k, .int ca, .int cb, .int la, .long vv] (KG ev) H0) (cQod ((okK k ∧ okCN u.1.1 ca ∧ okCN u.1.1 cb ∧ okLN la) ∧ okV vv) (some (.int (if u.1.2.1 < 40 then nI u.1.2.1 else -1))) (fun H1 => XF ev b (rulU u k ca cb la vv) (rulK u kp k) v H1 ∧ Frm b 101 H0 H1)) (cX (fun E H1 => (¬ (okK k ∧ okCN u.1.1 ca ∧ okCN u.1.1 cb ∧ okLN la) ∧ E = cIX ∨ (okK k ∧ okCN u.1.1 ca ∧ okCN u.1.1 cb ∧ okLN la) ∧ ¬ okV vv ∧ E = cIA) ∧ XF ev b u kp v H1 ∧ Frm b 101 H0 H1)) 5 30 (inBk b (b + 101)) := by
  refine cHeadX [.ref b, .int k, .int ca, .int cb, .int la, .long vv] (by decide) rfl (Nat.le_of_ble_eq_true rfl) ?_
  intro p e s m below meth c ls args QQ hQ htab S hr hlk hnm hs hK hl
  have S : CallFix p m c mb_X_rule 7 s args TB "RuleChoice" := S
  obtain ⟨hx, hb, hml, hown, hts⟩ := id S
  obtain ⟨hw, ⟨sl, hkp, hn⟩, hp, hO, hz⟩ := id hf
  have hold := hO
  have ht40 : u.1.2.2.2.1 ≤ 40 := hw.2.2.2.2.2.2.1
  have hr40 : u.1.2.1 ≤ 40 := hw.2.2.2.2.1
  have ha12 : u.1.2.2.1 ≤ 12 := hw.2.2.2.2.2.1
  have hl : lv_has ls 7 [(0, .ref b), (1, .int k), (2, .int ca), (3, .int cb), (4, .int la), (5, .long vv)] := hl
  refine lv_aload_n hx hb d_X_rule_0 rfl (lv_at hl 0 rfl) ?_
  refine lv_iload_n hx hb d_X_rule_1 rfl (lv_at hl 1 rfl) ?_
  refine cx_v (vx_runV (As := [.int k]) (rest := []) S (c_X_needKind hT hold k) (cwV 1 hts gv_X_57 rfl rfl rfl (by decide +kernel) ⟨Nat.le_of_ble_eq_true rfl, Nat.le_of_ble_eq_true rfl⟩) (cP_V (KG_ok _) hK hK.1 hw.1 rfl) rfl rfl hl.1 rfl (lv_room (Nat.le_of_ble_eq_true rfl)) d_X_rule_2 ⟨Nat.le_of_ble_eq_true rfl, Nat.le_of_ble_eq_true rfl⟩) (A := inBk b (b + 101)) cNil (fun E1 H2 ce3 q4 L5 hp6 hL7 h8 h9 h10 => ?_) (fun k11 => ?_)
  · exact cx_out hQ htab hlk h8 h9 h10 (⟨Or.inl ⟨fun h => hp6.1 h.1, hp6.2.1⟩, XF_ext hf hp6.2.2, Frm.ext hp6.2.2⟩) hL7 (Nat.le_of_ble_eq_true rfl) (Nat.le_of_ble_eq_true rfl)
  · refine lv_aload_n hx hb d_X_rule_5 rfl (lv_at hl 0 rfl) ?_
    refine lv_iload_n hx hb d_X_rule_6 rfl (lv_at hl 2 rfl) ?_
    refine cx_v (vx_runV (As := [.int ca]) (rest := []) S (c_X_needClassOrNone hT hold hw ca) (cwV 1 hts gv_X_61 rfl rfl rfl (by decide +kernel) ⟨Nat.le_of_ble_eq_true rfl, Nat.le_of_ble_eq_true rfl⟩) (cP_V (KG_ok _) hK hK.1 hw.1 rfl) rfl rfl hl.1 rfl (lv_room (Nat.le_of_ble_eq_true rfl)) d_X_rule_7 ⟨Nat.le_of_ble_eq_true rfl, Nat.le_of_ble_eq_true rfl⟩) (A := inBk b (b + 101)) cNil (fun E12 H13 ce14 q15 L16 hp17 hL18 h19 h20 h21 => ?_) (fun k22 => ?_)
    · exact cx_out hQ htab hlk h19 h20 h21 (⟨Or.inl ⟨fun h => hp17.1 h.2.1, hp17.2.1⟩, XF_ext hf hp17.2.2, Frm.ext hp17.2.2⟩) hL18 (Nat.le_of_ble_eq_true rfl) (Nat.le_of_ble_eq_true rfl)
    · refine lv_aload_n hx hb d_X_rule_10 rfl (lv_at hl 0 rfl) ?_
      refine lv_iload_n hx hb d_X_rule_11 rfl (lv_at hl 3 rfl) ?_
      refine cx_v (vx_runV (As := [.int cb]) (rest := []) S (c_X_needClassOrNone hT hold hw cb) (cwV 1 hts gv_X_61 rfl rfl rfl (by decide +kernel) ⟨Nat.le_of_ble_eq_true rfl, Nat.le_of_ble_eq_true rfl⟩) (cP_V (KG_ok _) hK hK.1 hw.1 rfl) rfl rfl hl.1 rfl (lv_room (Nat.le_of_ble_eq_true rfl)) d_X_rule_12 ⟨Nat.le_of_ble_eq_true rfl, Nat.le_of_ble_eq_true rfl⟩) (A := inBk b (b + 101)) cNil (fun E23 H24 ce25 q26 L27 hp28 hL29 h30 h31 h32 => ?_) (fun k33 => ?_)
      · exact cx_out hQ htab hlk h30 h31 h32 (⟨Or.inl ⟨fun h => hp28.1 h.2.2.1, hp28.2.1⟩, XF_ext hf hp28.2.2, Frm.ext hp28.2.2⟩) hL29 (Nat.le_of_ble_eq_true rfl) (Nat.le_of_ble_eq_true rfl)
      · refine lv_aload_n hx hb d_X_rule_15 rfl (lv_at hl 0 rfl) ?_
        refine lv_iload hx hb d_X_rule_16 (lv_at hl 4 rfl) ?_
        refine cx_v (vx_runV (As := [.int la]) (rest := []) S (c_X_needLayerOrNone hT hold hw.1 la) (cwV 1 hts gv_X_64 rfl rfl rfl (by decide +kernel) ⟨Nat.le_of_ble_eq_true rfl, Nat.le_of_ble_eq_true rfl⟩) (cP_V (KG_ok _) hK hK.1 hw.1 rfl) rfl rfl hl.1 rfl (lv_room (Nat.le_of_ble_eq_true rfl)) d_X_rule_18 ⟨Nat.le_of_ble_eq_true rfl, Nat.le_of_ble_eq_true rfl⟩) (A := inBk b (b + 101)) cNil (fun E34 H35 ce36 q37 L38 hp39 hL40 h41 h42 h43 => ?_) (fun k44 => ?_)
        · exact cx_out hQ htab hlk h41 h42 h43 (⟨Or.inl ⟨fun h => hp39.1 h.2.2.2, hp39.2.1⟩, XF_ext hf hp39.2.2, Frm.ext hp39.2.2⟩) hL40 (Nat.le_of_ble_eq_true rfl) (Nat.le_of_ble_eq_true rfl)
        · refine lv_aload_n hx hb d_X_rule_21 rfl (lv_at hl 0 rfl) ?_
          refine lv_lload hx hb d_X_rule_22 (lv_at hl 5 rfl) ?_
          refine cx_v (vx_runV (As := [.long vv]) (rest := []) S (c_X_needValue hT hold vv) (cwV 1 hts gv_X_67 rfl rfl rfl (by decide +kernel) ⟨Nat.le_of_ble_eq_true rfl, Nat.le_of_ble_eq_true rfl⟩) (cP_V (KG_ok _) hK hK.1 hw.1 rfl) rfl rfl hl.1 rfl (lv_room (Nat.le_of_ble_eq_true rfl)) d_X_rule_24 ⟨Nat.le_of_ble_eq_true rfl, Nat.le_of_ble_eq_true rfl⟩) (A := inBk b (b + 101)) cNil (fun E45 H46 ce47 q48 L49 hp50 hL51 h52 h53 h54 => ?_) (fun k55 => ?_)
          · exact cx_out hQ htab hlk h52 h53 h54 (⟨Or.inr ⟨⟨k11, k22, k33, k44⟩, hp50.1, hp50.2.1⟩, XF_ext hf hp50.2.2, Frm.ext hp50.2.2⟩) hL51 (Nat.le_of_ble_eq_true rfl) (Nat.le_of_ble_eq_true rfl)
          · refine lv_aload_n hx hb d_X_rule_27 rfl (lv_at hl 0 rfl) ?_
            refine rw_get hx hb hts in_X hown hK.1 hw.1 rfl 6 (by decide) (hts _ fl_X_71) rfl d_X_rule_28 ?_
            refine lv_bipush (v := 40) hx hb d_X_rule_31 (by decide) ?_
            refine lv_icmp_lt (tgt := 38) hx hb d_X_rule_33 (by decide) (fun c33 => ?_) (fun c33 => ?_)
            · have hlt : u.1.2.1 < 40 := (nI_ltI (b := 40) (by omega) (by decide)).mp c33
              obtain ⟨kk, hkk, rfl⟩ := okK_ix k11
              have enn : nn (nI kk) = kk := nn_nI (by omega)
              refine lv_aload_n hx hb d_X_rule_38 rfl (lv_at hl 0 rfl) ?_
              refine rw_get hx hb hts in_X hown hK.1 hw.1 rfl 1 (by decide) (hts _ fl_X_24) rfl d_X_rule_39 ?_
              refine lv_aload_n hx hb d_X_rule_42 rfl (lv_at hl 0 rfl) ?_
              refine rw_get hx hb hts in_X hown hK.1 hw.1 rfl 6 (by decide) (hts _ fl_X_71) rfl d_X_rule_43 ?_
              refine rw_aald hx hb hK.1 3 hw.2.1.1 rfl u.1.2.1 (rfl) (hlt) (by decide) rfl d_X_rule_46 ?_
              refine lv_iload_n hx hb d_X_rule_47 rfl (lv_at hl 1 rfl) ?_
              refine lv_iload_n hx hb d_X_rule_48 rfl (lv_at hl 2 rfl) ?_
              refine lv_iload_n hx hb d_X_rule_49 rfl (lv_at hl 3 rfl) ?_
              refine lv_iload hx hb d_X_rule_50 (lv_at hl 4 rfl) ?_
              refine lv_lload hx hb d_X_rule_52 (lv_at hl 5 rfl) ?_
              refine cl_d (W.runV (As := [.int (nI kk), .int ca, .int cb, .int la, .long vv]) (rest := []) S (c_R_tell (hw.2.1.2 u.1.2.1 (hlt)) (nI kk) ca cb la vv) (cwV 5 hts gv_X_74 rfl rfl rfl (by decide +kernel) ⟨Nat.le_of_ble_eq_true rfl, Nat.le_of_ble_eq_true rfl⟩) (cP_V (KG_ok _) hK hK.1 (hw.2.1.2 u.1.2.1 (hlt)) rfl) rfl rfl hl.1 rfl (lv_room (Nat.le_of_ble_eq_true rfl)) d_X_rule_54 ⟨Nat.le_of_ble_eq_true rfl, Nat.le_of_ble_eq_true rfl⟩) (A := inBk b (b + 101)) cNil (fun z h => ⟨by omega, by omega⟩) (fun H56 L57 hp58 hL59 => ?_)
              have hw1 := XW_r hw hlt hp58.1 hp58.2 (xB_r hw.2.2.2.2 (fun a e => hw.2.2.2.2.2.2.2.1 _ a hlt e) k11)
              have hBt := hp58.2
              have hn60 := xN_k hn (fun q _ _ => hBt.2 q (by omega))
              have hp61 := xP_k hp (fun q _ _ => hBt.2 q (by omega))
              have hO62 := Old.blk hO hBt (by omega)
              have hB63 := Blk.trans (Blk.rf (lo := b) (hi := b + 101) (H := H0)) (hBt.wide (by omega) (by omega))
              refine lv_aload_n hx hb d_X_rule_57 rfl (lv_at hl 0 rfl) ?_
              refine rw_get hx hb hts in_X hown hK.1 hw1.1 rfl 4 (by decide) (hts _ fl_X_46) rfl d_X_rule_58 ?_
              refine lv_iload_n hx hb d_X_rule_61 rfl (lv_at hl 1 rfl) ?_
              refine cl_d (W.runV (As := [.int (nI kk)]) (rest := []) S (c_N_dropKind hn60 (k := kk) (rfl) (hkk)) (cwV 1 hts gv_X_78 rfl rfl rfl (by decide +kernel) ⟨Nat.le_of_ble_eq_true rfl, Nat.le_of_ble_eq_true rfl⟩) (cP_V (KG_ok _) hK hK.1 hn60.1 rfl) rfl rfl hl.1 rfl (lv_room (Nat.le_of_ble_eq_true rfl)) d_X_rule_62 ⟨Nat.le_of_ble_eq_true rfl, Nat.le_of_ble_eq_true rfl⟩) hL59 (fun z h => ⟨by omega, by omega⟩) (fun H64 L65 hp66 hL67 => ?_)
              have hn68 := hp66.1
              have hBd69 := hp66.2
              have hw70 := XW_k hw1 (fun q _ _ => hBd69.2 q (by omega))
              have hp71 := xP_k hp61 (fun q _ _ => hBd69.2 q (by omega))
              have hO72 := Old.blk hO62 hBd69 (by omega)
              have hB73 := Blk.trans hB63 (hBd69.wide (by omega) (by omega))
              refine lv_aload_n hx hb d_X_rule_65 rfl (lv_at hl 0 rfl) ?_
              refine lv_dup hx hb d_X_rule_66 rfl ?_
              refine rw_get hx hb hts in_X hown hK.1 hw70.1 rfl 6 (by decide) (hts _ fl_X_71) rfl d_X_rule_67 ?_
              refine lv_dup_x1 hx hb d_X_rule_70 rfl rfl ?_
              refine lv_iconst (v := 1) hx hb d_X_rule_71 (by decide) ?_
              refine lv_iadd hx hb d_X_rule_72 ?_
              refine rw_put hx hb hts in_X ck_X ok_X nm_X hown hK.1 hw70.1 rfl 6 (by decide) (hts _ fl_X_71) rfl (ok_X 6 (by decide)) rfl rfl (Nat.le_of_ble_eq_true rfl) (⟨Nat.le_refl _, by omega⟩) hL67 d_X_rule_73 (fun H74 L75 z76 o77 hat78 hL79 => ?_)
              have hBo := Blk.one z76 o77
              have hwF : XW ev b ((u.1.1, u.1.2.1 + 1, u.1.2.2), va_up u.2.1 u.1.2.1 (nI kk, ca, cb, la, vv, (u.2.1 u.1.2.1).2.2.2.2.2), u.2.2) H74 := XW_o hw70 (xO_r (q := u.1) (n := u.1.2.1) hat78) o77 ⟨hlt, hw70.2.2.2.2.2⟩
              have hn80 := xN_k hn68 (fun q _ _ => hBo.2 q (by omega))
              have hp81 := xP_k hp71 (fun q _ _ => hBo.2 q (by omega))
              have hO82 := Old.blk hO72 hBo (by omega)
              have hB83 := Blk.trans hB73 (hBo.wide (by omega) (by omega))
              exact ry_i hQ (⟨⟨k11, k22, k33, k44⟩, k55⟩) hx hb hr hlk (rfl) (by rw [if_pos hlt]) (by unfold rulU rulK; rw [if_pos hlt, if_pos hlt, enn]; exact ⟨⟨hwF, ⟨_, KP_dropK hkp rfl (fun k x y h1 h2 _ _ => bes_rul rfl hkk h1 h2 x y), hn80⟩, hp81, hO82, hz⟩, Frm.blk hB83 (Nat.le_refl _) (Nat.le_refl _)⟩) hL79 (Nat.le_of_ble_eq_true rfl) (Nat.le_of_ble_eq_true rfl) d_X_rule_76
            · refine lv_iconst (v := (-1)) hx hb d_X_rule_36 (by decide) ?_
              have hge : ¬ u.1.2.1 < 40 := fun h => c33 ((nI_ltI (b := 40) (by omega) (by decide)).mpr h)
              exact ry_i hQ (⟨⟨k11, k22, k33, k44⟩, k55⟩) hx hb hr hlk (rfl) (by rw [if_neg hge]) (by unfold rulU rulK; rw [if_neg hge, if_neg hge]; exact ⟨hf, Frm.ext Ext.rf⟩) cNil (Nat.le_of_ble_eq_true rfl) (Nat.le_of_ble_eq_true rfl) d_X_rule_37
def rm_X_rank : Room := { frames := 7, cells := 2, slots := 12, locals := 104 }
set_option maxRecDepth 100000 in
set_option maxHeartbeats 4000000 in
theorem c_X_rank {l : Launch} {ev : EV} {H0 : Heap} {b : Nat} {u : XS} {kp : KT} {v : PT} (hT : l.stackTraces = false) (hf : XF ev b u kp v H0) (x r : Int32) : vx_Met l my_X_rank mw_X_rank rm_X_rank (cP [.ref b, .int x, .int r] (KG ev) H0) (cQod (okI u.1.2.1 x ∧ okR r) (some (.int (bI (!decide ((u.2.1 (nn x)).2.2.2.2.2.1 = r))))) (fun H1 => XF ev b (if (u.2.1 (nn x)).2.2.2.2.2.1 = r then u else rowU u (nn x) (setR (u.2.1 (nn x)) r)) (if (u.2.1 (nn x)).2.2.2.2.2.1 = r then kp else kpK kp (nn (u.2.1 (nn x)).1)) v H1 ∧ Frm b 101 H0 H1)) (cX (fun E H1 => (¬ okI u.1.2.1 x ∧ E = cIX ∨ okI u.1.2.1 x ∧ ¬ okR r ∧ E = cIA) ∧ XF ev b u kp v H1 ∧ Frm b 101 H0 H1)) 2 12 (inBk b (b + 101)) := by
  refine cHeadX [.ref b, .int x, .int r] (by decide) rfl (Nat.le_of_ble_eq_true rfl) ?_
  intro p e s m below meth c ls args QQ hQ htab S hr hlk hnm hs hK hl
  have S : CallFix p m c mb_X_rank 4 s args TB "RuleChoice" := S
  obtain ⟨hx, hb, hml, hown, hts⟩ := id S
  obtain ⟨hw, ⟨sl, hkp, hn⟩, hp, hO, hz⟩ := id hf
  have hold := hO
  have ht40 : u.1.2.2.2.1 ≤ 40 := hw.2.2.2.2.2.2.1
  have hr40 : u.1.2.1 ≤ 40 := hw.2.2.2.2.1
  have ha12 : u.1.2.2.1 ≤ 12 := hw.2.2.2.2.2.1
  have hl : lv_has ls 4 [(0, .ref b), (1, .int x), (2, .int r)] := hl
  refine lv_aload_n hx hb d_X_rank_0 rfl (lv_at hl 0 rfl) ?_
  refine lv_iload_n hx hb d_X_rank_1 rfl (lv_at hl 1 rfl) ?_
  refine cx_v (vx_runV (As := [.int x]) (rest := []) S (c_X_needRule hT hold hw x) (cwV 1 hts gv_X_81 rfl rfl rfl (by decide +kernel) ⟨Nat.le_of_ble_eq_true rfl, Nat.le_of_ble_eq_true rfl⟩) (cP_V (KG_ok _) hK hK.1 hw.1 rfl) rfl rfl hl.1 rfl (lv_room (Nat.le_of_ble_eq_true rfl)) d_X_rank_2 ⟨Nat.le_of_ble_eq_true rfl, Nat.le_of_ble_eq_true rfl⟩) (A := inBk b (b + 101)) cNil (fun E1 H2 ce3 q4 L5 hp6 hL7 h8 h9 h10 => ?_) (fun k11 => ?_)
  · exact cx_out hQ htab hlk h8 h9 h10 (⟨Or.inl ⟨hp6.1, hp6.2.1⟩, XF_ext hf hp6.2.2, Frm.ext hp6.2.2⟩) hL7 (Nat.le_of_ble_eq_true rfl) (Nat.le_of_ble_eq_true rfl)
  · refine lv_aload_n hx hb d_X_rank_5 rfl (lv_at hl 0 rfl) ?_
    refine lv_iload_n hx hb d_X_rank_6 rfl (lv_at hl 2 rfl) ?_
    refine cx_v (vx_runV (As := [.int r]) (rest := []) S (c_X_needRank hT hold r) (cwV 1 hts gv_X_84 rfl rfl rfl (by decide +kernel) ⟨Nat.le_of_ble_eq_true rfl, Nat.le_of_ble_eq_true rfl⟩) (cP_V (KG_ok _) hK hK.1 hw.1 rfl) rfl rfl hl.1 rfl (lv_room (Nat.le_of_ble_eq_true rfl)) d_X_rank_7 ⟨Nat.le_of_ble_eq_true rfl, Nat.le_of_ble_eq_true rfl⟩) (A := inBk b (b + 101)) cNil (fun E12 H13 ce14 q15 L16 hp17 hL18 h19 h20 h21 => ?_) (fun k22 => ?_)
    · exact cx_out hQ htab hlk h19 h20 h21 (⟨Or.inr ⟨k11, hp17.1, hp17.2.1⟩, XF_ext hf hp17.2.2, Frm.ext hp17.2.2⟩) hL18 (Nat.le_of_ble_eq_true rfl) (Nat.le_of_ble_eq_true rfl)
    · obtain ⟨i, hni, hi, rfl⟩ := okIdx hw.2.2.2.2.1 k11
      simp only [nn_nI (i := i) (by omega)] at hQ
      obtain ⟨kk, hkk, ek⟩ := okK_ix (hw.2.2.2.2.2.2.2.2 i hi)
      refine lv_aload_n hx hb d_X_rank_10 rfl (lv_at hl 0 rfl) ?_
      refine rw_get hx hb hts in_X hown hK.1 hw.1 rfl 1 (by decide) (hts _ fl_X_24) rfl d_X_rank_11 ?_
      refine lv_iload_n hx hb d_X_rank_14 rfl (lv_at hl 1 rfl) ?_
      refine rw_aald hx hb hK.1 3 hw.2.1.1 rfl i (rfl) (hi) (by decide) rfl d_X_rank_15 ?_
      refine lv_astore_n (lv' := [(3, .ref (b + 2 + i)), (0, .ref b), (1, .int (nI i)), (2, .int r)]) hx hb d_X_rank_16 rfl hl (by decide) rfl (fun ls hl => ?_)
      refine lv_aload_n hx hb d_X_rank_17 rfl (lv_at hl 0 rfl) ?_
      refine rw_get hx hb hts in_R hown hK.1 (hw.2.1.2 i (hi)) rfl 5 (by decide) (hts _ fl_X_87) rfl d_X_rank_18 ?_
      refine lv_iload_n hx hb d_X_rank_21 rfl (lv_at hl 3 rfl) ?_
      refine lv_icmp_ne (tgt := 27) hx hb d_X_rank_22 (by decide) (fun c22 => ?_) (fun c22 => ?_)
      · refine lv_aload_n hx hb d_X_rank_27 rfl (lv_at hl 0 rfl) ?_
        refine lv_iload_n hx hb d_X_rank_28 rfl (lv_at hl 3 rfl) ?_
        refine rw_put hx hb hts in_R ck_R ok_R nm_R hown hK.1 (hw.2.1.2 i (hi)) rfl 5 (by decide) (hts _ fl_X_87) rfl (ok_R 5 (by decide)) rfl rfl (Nat.le_of_ble_eq_true rfl) (⟨by omega, by omega⟩) (A := inBk b (b + 101)) cNil d_X_rank_29 (fun H23 L24 z25 o26 hat27 hL28 => ?_)
        have hBr := Blk.one z25 o26
        have hw1 : XW ev b (rowU u i (setR (u.2.1 i) r)) H23 := XW_r hw hi (hat27) hBr (xB_r hw.2.2.2.2 (fun a e => hw.2.2.2.2.2.2.2.1 i a hi e) (hw.2.2.2.2.2.2.2.2 i hi))
        have hn29 := xN_k hn (fun q _ _ => hBr.2 q (by omega))
        have hp30 := xP_k hp (fun q _ _ => hBr.2 q (by omega))
        have hO31 := Old.blk hO hBr (by omega)
        have hB32 := Blk.trans (Blk.rf (lo := b) (hi := b + 101) (H := H0)) (hBr.wide (by omega) (by omega))
        refine lv_aload_n hx hb d_X_rank_32 rfl (lv_at hl 1 rfl) ?_
        refine rw_get hx hb hts in_X hown hK.1 hw1.1 rfl 4 (by decide) (hts _ fl_X_46) rfl d_X_rank_33 ?_
        refine lv_aload_n hx hb d_X_rank_36 rfl (lv_at hl 0 rfl) ?_
        refine rw_get hx hb hts in_R hown hK.1 hat27 rfl 0 (by decide) (hts _ fl_X_90) rfl d_X_rank_37 ?_
        refine cl_d (W.runV (As := [.int ((u.2.1 i).1)]) (rest := []) S (c_N_dropKind hn29 (k := kk) (ek) (hkk)) (cwV 1 hts gv_X_78 rfl rfl rfl (by decide +kernel) ⟨Nat.le_of_ble_eq_true rfl, Nat.le_of_ble_eq_true rfl⟩) (cP_V (KG_ok _) hK hK.1 hn29.1 rfl) rfl rfl hl.1 rfl (lv_room (Nat.le_of_ble_eq_true rfl)) d_X_rank_40 ⟨Nat.le_of_ble_eq_true rfl, Nat.le_of_ble_eq_true rfl⟩) hL28 (fun z h => ⟨by omega, by omega⟩) (fun H33 L34 hp35 hL36 => ?_)
        have hn37 := hp35.1
        have hBd38 := hp35.2
        have hw39 := XW_k hw1 (fun q _ _ => hBd38.2 q (by omega))
        have hp40 := xP_k hp30 (fun q _ _ => hBd38.2 q (by omega))
        have hO41 := Old.blk hO31 hBd38 (by omega)
        have hB42 := Blk.trans hB32 (hBd38.wide (by omega) (by omega))
        refine lv_iconst (v := 1) hx hb d_X_rank_43 (by decide) ?_
        exact ry_i hQ (⟨okI_of (by omega) hni, k22⟩) hx hb hr hlk (rfl) (by simp [bI, c22]) (by rw [if_neg c22, if_neg c22, show nn (u.2.1 i).1 = kk by rw [ek]; exact nn_nI (by omega)]; exact ⟨⟨hw39, ⟨_, KP_dropK hkp rfl (fun k x y h1 h2 _ _ => bes_row ek (by exact ek) hkk h1 h2 x y), hn37⟩, hp40, hO41, hz⟩, Frm.blk hB42 (Nat.le_refl _) (Nat.le_refl _)⟩) hL36 (Nat.le_of_ble_eq_true rfl) (Nat.le_of_ble_eq_true rfl) d_X_rank_44
      · refine lv_iconst (v := 0) hx hb d_X_rank_25 (by decide) ?_
        exact ry_i hQ (⟨okI_of (by omega) hni, k22⟩) hx hb hr hlk (rfl) (by simp [bI, c22]) (by rw [if_pos c22, if_pos c22]; exact ⟨hf, Frm.ext Ext.rf⟩) cNil (Nat.le_of_ble_eq_true rfl) (Nat.le_of_ble_eq_true rfl) d_X_rank_26
def rm_X_inArea : Room := { frames := 7, cells := 2, slots := 12, locals := 104 }
set_option maxRecDepth 100000 in
set_option maxHeartbeats 4000000 in
theorem c_X_inArea {l : Launch} {ev : EV} {H0 : Heap} {b : Nat} {u : XS} {kp : KT} {v : PT} (hT : l.stackTraces = false) (hf : XF ev b u kp v H0) (x a : Int32) : vx_Met l my_X_inArea mw_X_inArea rm_X_inArea (cP [.ref b, .int x, .int a] (KG ev) H0) (cQod (okI u.1.2.1 x ∧ okIN u.1.2.2.1 a) (some (.int (bI (!decide ((u.2.1 (nn x)).2.2.2.2.2.2 = aO a))))) (fun H1 => XF ev b (if (u.2.1 (nn x)).2.2.2.2.2.2 = aO a then u else rowU u (nn x) (setO (u.2.1 (nn x)) (aO a))) (if (u.2.1 (nn x)).2.2.2.2.2.2 = aO a then kp else kpK kp (nn (u.2.1 (nn x)).1)) v H1 ∧ Frm b 101 H0 H1)) (cX (fun E H1 => (¬ (okI u.1.2.1 x ∧ okIN u.1.2.2.1 a)) ∧ E = cIX ∧ XF ev b u kp v H1 ∧ Frm b 101 H0 H1)) 2 12 (inBk b (b + 101)) := by
  refine cHeadX [.ref b, .int x, .int a] (by decide) rfl (Nat.le_of_ble_eq_true rfl) ?_
  intro p e s m below meth c ls args QQ hQ htab S hr hlk hnm hs hK hl
  have S : CallFix p m c mb_X_inArea 4 s args TB "RuleChoice" := S
  obtain ⟨hx, hb, hml, hown, hts⟩ := id S
  obtain ⟨hw, ⟨sl, hkp, hn⟩, hp, hO, hz⟩ := id hf
  have hold := hO
  have ht40 : u.1.2.2.2.1 ≤ 40 := hw.2.2.2.2.2.2.1
  have hr40 : u.1.2.1 ≤ 40 := hw.2.2.2.2.1
  have ha12 : u.1.2.2.1 ≤ 12 := hw.2.2.2.2.2.1
  have hl : lv_has ls 4 [(0, .ref b), (1, .int x), (2, .int a)] := hl
  refine lv_aload_n hx hb d_X_inArea_0 rfl (lv_at hl 0 rfl) ?_
  refine lv_iload_n hx hb d_X_inArea_1 rfl (lv_at hl 1 rfl) ?_
  refine cx_v (vx_runV (As := [.int x]) (rest := []) S (c_X_needRule hT hold hw x) (cwV 1 hts gv_X_81 rfl rfl rfl (by decide +kernel) ⟨Nat.le_of_ble_eq_true rfl, Nat.le_of_ble_eq_true rfl⟩) (cP_V (KG_ok _) hK hK.1 hw.1 rfl) rfl rfl hl.1 rfl (lv_room (Nat.le_of_ble_eq_true rfl)) d_X_inArea_2 ⟨Nat.le_of_ble_eq_true rfl, Nat.le_of_ble_eq_true rfl⟩) (A := inBk b (b + 101)) cNil (fun E1 H2 ce3 q4 L5 hp6 hL7 h8 h9 h10 => ?_) (fun k11 => ?_)
  · exact cx_out hQ htab hlk h8 h9 h10 (⟨fun h => hp6.1 h.1, hp6.2.1, XF_ext hf hp6.2.2, Frm.ext hp6.2.2⟩) hL7 (Nat.le_of_ble_eq_true rfl) (Nat.le_of_ble_eq_true rfl)
  · refine lv_aload_n hx hb d_X_inArea_5 rfl (lv_at hl 0 rfl) ?_
    refine lv_iload_n hx hb d_X_inArea_6 rfl (lv_at hl 2 rfl) ?_
    refine cx_v (vx_runV (As := [.int a]) (rest := []) S (c_X_needAreaOrNone hT hold hw a) (cwV 1 hts gv_X_107 rfl rfl rfl (by decide +kernel) ⟨Nat.le_of_ble_eq_true rfl, Nat.le_of_ble_eq_true rfl⟩) (cP_V (KG_ok _) hK hK.1 hw.1 rfl) rfl rfl hl.1 rfl (lv_room (Nat.le_of_ble_eq_true rfl)) d_X_inArea_7 ⟨Nat.le_of_ble_eq_true rfl, Nat.le_of_ble_eq_true rfl⟩) (A := inBk b (b + 101)) cNil (fun E12 H13 ce14 q15 L16 hp17 hL18 h19 h20 h21 => ?_) (fun k22 => ?_)
    · exact cx_out hQ htab hlk h19 h20 h21 (⟨fun h => hp17.1 h.2, hp17.2.1, XF_ext hf hp17.2.2, Frm.ext hp17.2.2⟩) hL18 (Nat.le_of_ble_eq_true rfl) (Nat.le_of_ble_eq_true rfl)
    · obtain ⟨i, hni, hi, rfl⟩ := okIdx hw.2.2.2.2.1 k11
      simp only [nn_nI (i := i) (by omega)] at hQ
      obtain ⟨kk, hkk, ek⟩ := okK_ix (hw.2.2.2.2.2.2.2.2 i hi)
      obtain ⟨eA, lA⟩ := aO_I ha12 k22
      refine lv_aload_n hx hb d_X_inArea_10 rfl (lv_at hl 0 rfl) ?_
      refine rw_get hx hb hts in_X hown hK.1 hw.1 rfl 1 (by decide) (hts _ fl_X_24) rfl d_X_inArea_11 ?_
      refine lv_iload_n hx hb d_X_inArea_14 rfl (lv_at hl 1 rfl) ?_
      refine rw_aald hx hb hK.1 3 hw.2.1.1 rfl i (rfl) (hi) (by decide) rfl d_X_inArea_15 ?_
      refine lv_astore_n (lv' := [(3, .ref (b + 2 + i)), (0, .ref b), (1, .int (nI i)), (2, .int a)]) hx hb d_X_inArea_16 rfl hl (by decide) rfl (fun ls hl => ?_)
      refine lv_aload_n hx hb d_X_inArea_17 rfl (lv_at hl 0 rfl) ?_
      refine rw_get hx hb hts in_R hown hK.1 (hw.2.1.2 i (hi)) rfl 6 (by decide) (hts _ fl_X_110) rfl d_X_inArea_18 ?_
      refine lv_iload_n hx hb d_X_inArea_21 rfl (lv_at hl 3 rfl) ?_
      refine lv_icmp_ne (tgt := 27) hx hb d_X_inArea_22 (by decide) (fun c22 => ?_) (fun c22 => ?_)
      · refine lv_aload_n hx hb d_X_inArea_27 rfl (lv_at hl 0 rfl) ?_
        refine lv_iload_n hx hb d_X_inArea_28 rfl (lv_at hl 3 rfl) ?_
        refine rw_put hx hb hts in_R ck_R ok_R nm_R hown hK.1 (hw.2.1.2 i (hi)) rfl 6 (by decide) (hts _ fl_X_110) rfl (ok_R 6 (by decide)) rfl rfl (Nat.le_of_ble_eq_true rfl) (⟨by omega, by omega⟩) (A := inBk b (b + 101)) cNil d_X_inArea_29 (fun H23 L24 z25 o26 hat27 hL28 => ?_)
        have hBr := Blk.one z25 o26
        have hw1 : XW ev b (rowU u i (setO (u.2.1 i) (aO a))) H23 := XW_r hw hi (by show pt ev H23 (b + 2 + i) (oC 4 (ruV (setO (u.2.1 i) (aO a)))); unfold setO; rw [ruV, eA]; exact hat27) hBr (xB_r hw.2.2.2.2 (lA) (hw.2.2.2.2.2.2.2.2 i hi))
        have hn29 := xN_k hn (fun q _ _ => hBr.2 q (by omega))
        have hp30 := xP_k hp (fun q _ _ => hBr.2 q (by omega))
        have hO31 := Old.blk hO hBr (by omega)
        have hB32 := Blk.trans (Blk.rf (lo := b) (hi := b + 101) (H := H0)) (hBr.wide (by omega) (by omega))
        refine lv_aload_n hx hb d_X_inArea_32 rfl (lv_at hl 1 rfl) ?_
        refine rw_get hx hb hts in_X hown hK.1 hw1.1 rfl 4 (by decide) (hts _ fl_X_46) rfl d_X_inArea_33 ?_
        refine lv_aload_n hx hb d_X_inArea_36 rfl (lv_at hl 0 rfl) ?_
        refine rw_get hx hb hts in_R hown hK.1 hat27 rfl 0 (by decide) (hts _ fl_X_90) rfl d_X_inArea_37 ?_
        refine cl_d (W.runV (As := [.int ((u.2.1 i).1)]) (rest := []) S (c_N_dropKind hn29 (k := kk) (ek) (hkk)) (cwV 1 hts gv_X_78 rfl rfl rfl (by decide +kernel) ⟨Nat.le_of_ble_eq_true rfl, Nat.le_of_ble_eq_true rfl⟩) (cP_V (KG_ok _) hK hK.1 hn29.1 rfl) rfl rfl hl.1 rfl (lv_room (Nat.le_of_ble_eq_true rfl)) d_X_inArea_40 ⟨Nat.le_of_ble_eq_true rfl, Nat.le_of_ble_eq_true rfl⟩) hL28 (fun z h => ⟨by omega, by omega⟩) (fun H33 L34 hp35 hL36 => ?_)
        have hn37 := hp35.1
        have hBd38 := hp35.2
        have hw39 := XW_k hw1 (fun q _ _ => hBd38.2 q (by omega))
        have hp40 := xP_k hp30 (fun q _ _ => hBd38.2 q (by omega))
        have hO41 := Old.blk hO31 hBd38 (by omega)
        have hB42 := Blk.trans hB32 (hBd38.wide (by omega) (by omega))
        refine lv_iconst (v := 1) hx hb d_X_inArea_43 (by decide) ?_
        have g22 : ¬ (u.2.1 i).2.2.2.2.2.2 = aO a := fun e => c22 (by rw [e]; exact eA)
        exact ry_i hQ (⟨okI_of (by omega) hni, k22⟩) hx hb hr hlk (rfl) (by simp [bI, g22]) (by rw [if_neg g22, if_neg g22, show nn (u.2.1 i).1 = kk by rw [ek]; exact nn_nI (by omega)]; exact ⟨⟨hw39, ⟨_, KP_dropK hkp rfl (fun k x y h1 h2 _ _ => bes_row ek (by exact ek) hkk h1 h2 x y), hn37⟩, hp40, hO41, hz⟩, Frm.blk hB42 (Nat.le_refl _) (Nat.le_refl _)⟩) hL36 (Nat.le_of_ble_eq_true rfl) (Nat.le_of_ble_eq_true rfl) d_X_inArea_44
      · refine lv_iconst (v := 0) hx hb d_X_inArea_25 (by decide) ?_
        have g22 : (u.2.1 i).2.2.2.2.2.2 = aO a := oI_inj (fun z e => Nat.lt_trans (xB_12 hw.2.2.2.2 hi e) (by decide)) (fun z e => Nat.lt_of_lt_of_le (lA z e) (by omega)) (c22.trans eA.symm)
        exact ry_i hQ (⟨okI_of (by omega) hni, k22⟩) hx hb hr hlk (rfl) (by simp [bI, g22]) (by rw [if_pos g22, if_pos g22]; exact ⟨hf, Frm.ext Ext.rf⟩) cNil (Nat.le_of_ble_eq_true rfl) (Nat.le_of_ble_eq_true rfl) d_X_inArea_26
end
section
def rm_X_area : Room := { frames := 7, cells := 3, slots := 18, locals := 111 }
set_option maxRecDepth 100000 in
set_option maxHeartbeats 4000000 in
theorem c_X_area {l : Launch} {ev : EV} {H0 : Heap} {b : Nat} {u : XS} {kp : KT} {v : PT} (hT : l.stackTraces = false) (hf : XF ev b u kp v H0) (x0 y0 x1 y1 : Int64) : vx_Met l my_X_area mw_X_area rm_X_area (cP [.ref b, .long x0, .long y0, .long x1, .long y1] (KG ev) H0) (cQod (okP x0 y0 ∧ okP x1 y1 ∧ okT x0 y0 x1 y1) (some (.int (if u.1.2.2.1 < 12 then nI u.1.2.2.1 else -1))) (fun H1 => XF ev b (areU u (x0, y0, x1, y1)) kp v H1 ∧ Frm b 101 H0 H1)) (cX (fun E H1 => (¬ (okP x0 y0 ∧ okP x1 y1 ∧ okT x0 y0 x1 y1)) ∧ E = cIA ∧ XF ev b u kp v H1 ∧ Frm b 101 H0 H1)) 3 18 (inBk b (b + 101)) := by
  refine cHeadX [.ref b, .long x0, .long y0, .long x1, .long y1] (by decide) rfl (Nat.le_of_ble_eq_true rfl) ?_
  intro p e s m below meth c ls args QQ hQ htab S hr hlk hnm hs hK hl
  have S : CallFix p m c mb_X_area 9 s args TB "RuleChoice" := S
  obtain ⟨hx, hb, hml, hown, hts⟩ := id S
  obtain ⟨hw, ⟨sl, hkp, hn⟩, hp, hO, hz⟩ := id hf
  have hold := hO
  have ht40 : u.1.2.2.2.1 ≤ 40 := hw.2.2.2.2.2.2.1
  have hr40 : u.1.2.1 ≤ 40 := hw.2.2.2.2.1
  have ha12 : u.1.2.2.1 ≤ 12 := hw.2.2.2.2.2.1
  have hl : lv_has ls 9 [(0, .ref b), (1, .long x0), (3, .long y0), (5, .long x1), (7, .long y1)] := hl
  refine lv_aload_n hx hb d_X_area_0 rfl (lv_at hl 0 rfl) ?_
  refine lv_lload_n hx hb d_X_area_1 rfl (lv_at hl 1 rfl) ?_
  refine lv_lload_n hx hb d_X_area_2 rfl (lv_at hl 2 rfl) ?_
  refine cx_v (vx_runV (As := [.long x0, .long y0]) (rest := []) S (c_X_needPlace hT hold x0 y0) (cwV 2 hts gv_X_93 rfl rfl rfl (by decide +kernel) ⟨Nat.le_of_ble_eq_true rfl, Nat.le_of_ble_eq_true rfl⟩) (cP_V (KG_ok _) hK hK.1 hw.1 rfl) rfl rfl hl.1 rfl (lv_room (Nat.le_of_ble_eq_true rfl)) d_X_area_3 ⟨Nat.le_of_ble_eq_true rfl, Nat.le_of_ble_eq_true rfl⟩) (A := inBk b (b + 101)) cNil (fun E1 H2 ce3 q4 L5 hp6 hL7 h8 h9 h10 => ?_) (fun k11 => ?_)
  · exact cx_out hQ htab hlk h8 h9 h10 (⟨fun h => hp6.1 h.1, hp6.2.1, XF_ext hf hp6.2.2, Frm.ext hp6.2.2⟩) hL7 (Nat.le_of_ble_eq_true rfl) (Nat.le_of_ble_eq_true rfl)
  · refine lv_aload_n hx hb d_X_area_6 rfl (lv_at hl 0 rfl) ?_
    refine lv_lload hx hb d_X_area_7 (lv_at hl 3 rfl) ?_
    refine lv_lload hx hb d_X_area_9 (lv_at hl 4 rfl) ?_
    refine cx_v (vx_runV (As := [.long x1, .long y1]) (rest := []) S (c_X_needPlace hT hold x1 y1) (cwV 2 hts gv_X_93 rfl rfl rfl (by decide +kernel) ⟨Nat.le_of_ble_eq_true rfl, Nat.le_of_ble_eq_true rfl⟩) (cP_V (KG_ok _) hK hK.1 hw.1 rfl) rfl rfl hl.1 rfl (lv_room (Nat.le_of_ble_eq_true rfl)) d_X_area_11 ⟨Nat.le_of_ble_eq_true rfl, Nat.le_of_ble_eq_true rfl⟩) (A := inBk b (b + 101)) cNil (fun E12 H13 ce14 q15 L16 hp17 hL18 h19 h20 h21 => ?_) (fun k22 => ?_)
    · exact cx_out hQ htab hlk h19 h20 h21 (⟨fun h => hp17.1 h.2.1, hp17.2.1, XF_ext hf hp17.2.2, Frm.ext hp17.2.2⟩) hL18 (Nat.le_of_ble_eq_true rfl) (Nat.le_of_ble_eq_true rfl)
    · refine lv_aload_n hx hb d_X_area_14 rfl (lv_at hl 0 rfl) ?_
      refine lv_lload_n hx hb d_X_area_15 rfl (lv_at hl 1 rfl) ?_
      refine lv_lload_n hx hb d_X_area_16 rfl (lv_at hl 2 rfl) ?_
      refine lv_lload hx hb d_X_area_17 (lv_at hl 3 rfl) ?_
      refine lv_lload hx hb d_X_area_19 (lv_at hl 4 rfl) ?_
      refine cx_v (vx_runV (As := [.long x0, .long y0, .long x1, .long y1]) (rest := []) S (c_X_needUnturned hT hold x0 y0 x1 y1) (cwV 4 hts gv_X_97 rfl rfl rfl (by decide +kernel) ⟨Nat.le_of_ble_eq_true rfl, Nat.le_of_ble_eq_true rfl⟩) (cP_V (KG_ok _) hK hK.1 hw.1 rfl) rfl rfl hl.1 rfl (lv_room (Nat.le_of_ble_eq_true rfl)) d_X_area_21 ⟨Nat.le_of_ble_eq_true rfl, Nat.le_of_ble_eq_true rfl⟩) (A := inBk b (b + 101)) cNil (fun E23 H24 ce25 q26 L27 hp28 hL29 h30 h31 h32 => ?_) (fun k33 => ?_)
      · exact cx_out hQ htab hlk h30 h31 h32 (⟨fun h => hp28.1 h.2.2, hp28.2.1, XF_ext hf hp28.2.2, Frm.ext hp28.2.2⟩) hL29 (Nat.le_of_ble_eq_true rfl) (Nat.le_of_ble_eq_true rfl)
      · refine lv_aload_n hx hb d_X_area_24 rfl (lv_at hl 0 rfl) ?_
        refine rw_get hx hb hts in_X hown hK.1 hw.1 rfl 7 (by decide) (hts _ fl_X_101) rfl d_X_area_25 ?_
        refine lv_bipush (v := 12) hx hb d_X_area_28 (by decide) ?_
        refine lv_icmp_lt (tgt := 35) hx hb d_X_area_30 (by decide) (fun c30 => ?_) (fun c30 => ?_)
        · have hlt : u.1.2.2.1 < 12 := (nI_ltI (b := 12) (by omega) (by decide)).mp c30
          refine lv_aload_n hx hb d_X_area_35 rfl (lv_at hl 0 rfl) ?_
          refine rw_get hx hb hts in_X hown hK.1 hw.1 rfl 2 (by decide) (hts _ fl_X_31) rfl d_X_area_36 ?_
          refine lv_aload_n hx hb d_X_area_39 rfl (lv_at hl 0 rfl) ?_
          refine rw_get hx hb hts in_X hown hK.1 hw.1 rfl 7 (by decide) (hts _ fl_X_101) rfl d_X_area_40 ?_
          refine rw_aald hx hb hK.1 4 hw.2.2.1.1 rfl u.1.2.2.1 (rfl) (hlt) (by decide) rfl d_X_area_43 ?_
          refine lv_lload_n hx hb d_X_area_44 rfl (lv_at hl 1 rfl) ?_
          refine lv_lload_n hx hb d_X_area_45 rfl (lv_at hl 2 rfl) ?_
          refine lv_lload hx hb d_X_area_46 (lv_at hl 3 rfl) ?_
          refine lv_lload hx hb d_X_area_48 (lv_at hl 4 rfl) ?_
          refine cl_d (W.runV (As := [.long x0, .long y0, .long x1, .long y1]) (rest := []) S (c_A_span (hw.2.2.1.2 u.1.2.2.1 (hlt)) x0 y0 x1 y1) (cwV 4 hts gv_X_104 rfl rfl rfl (by decide +kernel) ⟨Nat.le_of_ble_eq_true rfl, Nat.le_of_ble_eq_true rfl⟩) (cP_V (KG_ok _) hK hK.1 (hw.2.2.1.2 u.1.2.2.1 (hlt)) rfl) rfl rfl hl.1 rfl (lv_room (Nat.le_of_ble_eq_true rfl)) d_X_area_50 ⟨Nat.le_of_ble_eq_true rfl, Nat.le_of_ble_eq_true rfl⟩) (A := inBk b (b + 101)) cNil (fun z h => ⟨by omega, by omega⟩) (fun H34 L35 hp36 hL37 => ?_)
          have hw38 := XW_a hw (hlt) hp36.1 hp36.2
          have hBt39 := hp36.2
          have hn40 := xN_k hn (fun q _ _ => hBt39.2 q (by omega))
          have hp41 := xP_k hp (fun q _ _ => hBt39.2 q (by omega))
          have hO42 := Old.blk hO hBt39 (by omega)
          have hB43 := Blk.trans (Blk.rf (lo := b) (hi := b + 101) (H := H0)) (hBt39.wide (by omega) (by omega))
          refine lv_aload_n hx hb d_X_area_53 rfl (lv_at hl 0 rfl) ?_
          refine lv_dup hx hb d_X_area_54 rfl ?_
          refine rw_get hx hb hts in_X hown hK.1 hw38.1 rfl 7 (by decide) (hts _ fl_X_101) rfl d_X_area_55 ?_
          refine lv_dup_x1 hx hb d_X_area_58 rfl rfl ?_
          refine lv_iconst (v := 1) hx hb d_X_area_59 (by decide) ?_
          refine lv_iadd hx hb d_X_area_60 ?_
          refine rw_put hx hb hts in_X ck_X ok_X nm_X hown hK.1 hw38.1 rfl 7 (by decide) (hts _ fl_X_101) rfl (ok_X 7 (by decide)) rfl rfl (Nat.le_of_ble_eq_true rfl) (⟨Nat.le_refl _, by omega⟩) hL37 d_X_area_61 (fun H44 L45 z46 o47 hat48 hL49 => ?_)
          have hBo := Blk.one z46 o47
          have hwF : XW ev b ((u.1.1, u.1.2.1, u.1.2.2.1 + 1, u.1.2.2.2), u.2.1, va_up u.2.2.1 u.1.2.2.1 (x0, y0, x1, y1), u.2.2.2) H44 := XW_o hw38 (xO_a (q := u.1) (n := u.1.2.2.1) hat48) o47 ⟨hr40, hlt, ht40, fun i a h1 h2 => Nat.lt_succ_of_lt (hw.2.2.2.2.2.2.2.1 i a h1 h2), hw.2.2.2.2.2.2.2.2⟩
          have hn50 := xN_k hn40 (fun q _ _ => hBo.2 q (by omega))
          have hp51 := xP_k hp41 (fun q _ _ => hBo.2 q (by omega))
          have hO52 := Old.blk hO42 hBo (by omega)
          have hB53 := Blk.trans hB43 (hBo.wide (by omega) (by omega))
          exact ry_i hQ (⟨k11, k22, k33⟩) hx hb hr hlk (rfl) (by rw [if_pos hlt]) (by unfold areU; rw [if_pos hlt]; exact ⟨⟨hwF, ⟨_, KP_same hkp (Nat.le_refl _) (fun k x y _ _ _ => bes_area hw.2.2.2.2 k x y), hn50⟩, hp51, hO52, hz⟩, Frm.blk hB53 (Nat.le_refl _) (Nat.le_refl _)⟩) hL49 (Nat.le_of_ble_eq_true rfl) (Nat.le_of_ble_eq_true rfl) d_X_area_64
        · refine lv_iconst (v := (-1)) hx hb d_X_area_33 (by decide) ?_
          have hge : ¬ u.1.2.2.1 < 12 := fun h => c30 ((nI_ltI (b := 12) (by omega) (by decide)).mpr h)
          exact ry_i hQ (⟨k11, k22, k33⟩) hx hb hr hlk (rfl) (by rw [if_neg hge]) (by unfold areU; rw [if_neg hge]; exact ⟨hf, Frm.ext Ext.rf⟩) cNil (Nat.le_of_ble_eq_true rfl) (Nat.le_of_ble_eq_true rfl) d_X_area_34
def rm_X_thing : Room := { frames := 7, cells := 3, slots := 18, locals := 107 }
set_option maxRecDepth 100000 in
set_option maxHeartbeats 4000000 in
theorem c_X_thing {l : Launch} {ev : EV} {H0 : Heap} {b : Nat} {u : XS} {kp : KT} {v : PT} (hT : l.stackTraces = false) (hf : XF ev b u kp v H0) (ca la : Int32) (x y : Int64) : vx_Met l my_X_thing mw_X_thing rm_X_thing (cP [.ref b, .int ca, .int la, .long x, .long y] (KG ev) H0) (cQod ((okC u.1.1 ca ∧ okL la) ∧ okP x y) (some (.int (if u.1.2.2.2.1 < 40 then nI u.1.2.2.2.1 else -1))) (fun H1 => XF ev b (thiU u (ca, la, x, y)) kp v H1 ∧ Frm b 101 H0 H1)) (cX (fun E H1 => (¬ (okC u.1.1 ca ∧ okL la) ∧ E = cIX ∨ (okC u.1.1 ca ∧ okL la) ∧ ¬ okP x y ∧ E = cIA) ∧ XF ev b u kp v H1 ∧ Frm b 101 H0 H1)) 3 18 (inBk b (b + 101)) := by
  refine cHeadX [.ref b, .int ca, .int la, .long x, .long y] (by decide) rfl (Nat.le_of_ble_eq_true rfl) ?_
  intro p e s m below meth c ls args QQ hQ htab S hr hlk hnm hs hK hl
  have S : CallFix p m c mb_X_thing 8 s args TB "RuleChoice" := S
  obtain ⟨hx, hb, hml, hown, hts⟩ := id S
  obtain ⟨hw, ⟨sl, hkp, hn⟩, hp, hO, hz⟩ := id hf
  have hold := hO
  have ht40 : u.1.2.2.2.1 ≤ 40 := hw.2.2.2.2.2.2.1
  have hr40 : u.1.2.1 ≤ 40 := hw.2.2.2.2.1
  have ha12 : u.1.2.2.1 ≤ 12 := hw.2.2.2.2.2.1
  have hl : lv_has ls 8 [(0, .ref b), (1, .int ca), (2, .int la), (3, .long x), (5, .long y)] := hl
  refine lv_aload_n hx hb d_X_thing_0 rfl (lv_at hl 0 rfl) ?_
  refine lv_iload_n hx hb d_X_thing_1 rfl (lv_at hl 1 rfl) ?_
  refine cx_v (vx_runV (As := [.int ca]) (rest := []) S (c_X_needClass hT hold hw ca) (cwV 1 hts gv_X_113 rfl rfl rfl (by decide +kernel) ⟨Nat.le_of_ble_eq_true rfl, Nat.le_of_ble_eq_true rfl⟩) (cP_V (KG_ok _) hK hK.1 hw.1 rfl) rfl rfl hl.1 rfl (lv_room (Nat.le_of_ble_eq_true rfl)) d_X_thing_2 ⟨Nat.le_of_ble_eq_true rfl, Nat.le_of_ble_eq_true rfl⟩) (A := inBk b (b + 101)) cNil (fun E1 H2 ce3 q4 L5 hp6 hL7 h8 h9 h10 => ?_) (fun k11 => ?_)
  · exact cx_out hQ htab hlk h8 h9 h10 (⟨Or.inl ⟨fun h => hp6.1 h.1, hp6.2.1⟩, XF_ext hf hp6.2.2, Frm.ext hp6.2.2⟩) hL7 (Nat.le_of_ble_eq_true rfl) (Nat.le_of_ble_eq_true rfl)
  · refine lv_aload_n hx hb d_X_thing_5 rfl (lv_at hl 0 rfl) ?_
    refine lv_iload_n hx hb d_X_thing_6 rfl (lv_at hl 2 rfl) ?_
    refine cx_v (vx_runV (As := [.int la]) (rest := []) S (c_X_needLayer hT hold la) (cwV 1 hts gv_X_116 rfl rfl rfl (by decide +kernel) ⟨Nat.le_of_ble_eq_true rfl, Nat.le_of_ble_eq_true rfl⟩) (cP_V (KG_ok _) hK hK.1 hw.1 rfl) rfl rfl hl.1 rfl (lv_room (Nat.le_of_ble_eq_true rfl)) d_X_thing_7 ⟨Nat.le_of_ble_eq_true rfl, Nat.le_of_ble_eq_true rfl⟩) (A := inBk b (b + 101)) cNil (fun E12 H13 ce14 q15 L16 hp17 hL18 h19 h20 h21 => ?_) (fun k22 => ?_)
    · exact cx_out hQ htab hlk h19 h20 h21 (⟨Or.inl ⟨fun h => hp17.1 h.2, hp17.2.1⟩, XF_ext hf hp17.2.2, Frm.ext hp17.2.2⟩) hL18 (Nat.le_of_ble_eq_true rfl) (Nat.le_of_ble_eq_true rfl)
    · refine lv_aload_n hx hb d_X_thing_10 rfl (lv_at hl 0 rfl) ?_
      refine lv_lload_n hx hb d_X_thing_11 rfl (lv_at hl 3 rfl) ?_
      refine lv_lload hx hb d_X_thing_12 (lv_at hl 4 rfl) ?_
      refine cx_v (vx_runV (As := [.long x, .long y]) (rest := []) S (c_X_needPlace hT hold x y) (cwV 2 hts gv_X_93 rfl rfl rfl (by decide +kernel) ⟨Nat.le_of_ble_eq_true rfl, Nat.le_of_ble_eq_true rfl⟩) (cP_V (KG_ok _) hK hK.1 hw.1 rfl) rfl rfl hl.1 rfl (lv_room (Nat.le_of_ble_eq_true rfl)) d_X_thing_14 ⟨Nat.le_of_ble_eq_true rfl, Nat.le_of_ble_eq_true rfl⟩) (A := inBk b (b + 101)) cNil (fun E23 H24 ce25 q26 L27 hp28 hL29 h30 h31 h32 => ?_) (fun k33 => ?_)
      · exact cx_out hQ htab hlk h30 h31 h32 (⟨Or.inr ⟨⟨k11, k22⟩, hp28.1, hp28.2.1⟩, XF_ext hf hp28.2.2, Frm.ext hp28.2.2⟩) hL29 (Nat.le_of_ble_eq_true rfl) (Nat.le_of_ble_eq_true rfl)
      · refine lv_aload_n hx hb d_X_thing_17 rfl (lv_at hl 0 rfl) ?_
        refine rw_get hx hb hts in_X hown hK.1 hw.1 rfl 8 (by decide) (hts _ fl_X_119) rfl d_X_thing_18 ?_
        refine lv_bipush (v := 40) hx hb d_X_thing_21 (by decide) ?_
        refine lv_icmp_lt (tgt := 28) hx hb d_X_thing_23 (by decide) (fun c23 => ?_) (fun c23 => ?_)
        · have hlt : u.1.2.2.2.1 < 40 := (nI_ltI (b := 40) (by omega) (by decide)).mp c23
          refine lv_aload_n hx hb d_X_thing_28 rfl (lv_at hl 0 rfl) ?_
          refine rw_get hx hb hts in_X hown hK.1 hw.1 rfl 3 (by decide) (hts _ fl_X_38) rfl d_X_thing_29 ?_
          refine lv_aload_n hx hb d_X_thing_32 rfl (lv_at hl 0 rfl) ?_
          refine rw_get hx hb hts in_X hown hK.1 hw.1 rfl 8 (by decide) (hts _ fl_X_119) rfl d_X_thing_33 ?_
          refine rw_aald hx hb hK.1 5 hw.2.2.2.1.1 rfl u.1.2.2.2.1 (rfl) (hlt) (by decide) rfl d_X_thing_36 ?_
          refine lv_astore (lv' := [(7, .ref (b + 56 + u.1.2.2.2.1)), (0, .ref b), (1, .int ca), (2, .int la), (3, .long x), (5, .long y)]) hx hb d_X_thing_37 hl (by decide) rfl (fun ls hl => ?_)
          refine lv_aload hx hb d_X_thing_39 (lv_at hl 0 rfl) ?_
          refine lv_iload_n hx hb d_X_thing_41 rfl (lv_at hl 2 rfl) ?_
          refine lv_iload_n hx hb d_X_thing_42 rfl (lv_at hl 3 rfl) ?_
          refine cl_d (W.runV (As := [.int ca, .int la]) (rest := []) S (c_T_become (hw.2.2.2.1.2 u.1.2.2.2.1 (hlt)) ca la) (cwV 2 hts gv_X_122 rfl rfl rfl (by decide +kernel) ⟨Nat.le_of_ble_eq_true rfl, Nat.le_of_ble_eq_true rfl⟩) (cP_V (KG_ok _) hK hK.1 (hw.2.2.2.1.2 u.1.2.2.2.1 (hlt)) rfl) rfl rfl hl.1 rfl (lv_room (Nat.le_of_ble_eq_true rfl)) d_X_thing_43 ⟨Nat.le_of_ble_eq_true rfl, Nat.le_of_ble_eq_true rfl⟩) (A := inBk b (b + 101)) cNil (fun z h => ⟨by omega, by omega⟩) (fun H34 L35 hp36 hL37 => ?_)
          have hw38 := XW_t hw (hlt) hp36.1 hp36.2
          have hBt39 := hp36.2
          have hn40 := xN_k hn (fun q _ _ => hBt39.2 q (by omega))
          have hp41 := xP_k hp (fun q _ _ => hBt39.2 q (by omega))
          have hO42 := Old.blk hO hBt39 (by omega)
          have hB43 := Blk.trans (Blk.rf (lo := b) (hi := b + 101) (H := H0)) (hBt39.wide (by omega) (by omega))
          refine lv_aload hx hb d_X_thing_46 (lv_at hl 0 rfl) ?_
          refine lv_lload_n hx hb d_X_thing_48 rfl (lv_at hl 4 rfl) ?_
          refine lv_lload hx hb d_X_thing_49 (lv_at hl 5 rfl) ?_
          refine cl_d (W.runV (As := [.long x, .long y]) (rest := []) S (c_T_put (hw38.2.2.2.1.2 u.1.2.2.2.1 (hlt)) x y) (cwV 2 hts gv_X_126 rfl rfl rfl (by decide +kernel) ⟨Nat.le_of_ble_eq_true rfl, Nat.le_of_ble_eq_true rfl⟩) (cP_V (KG_ok _) hK hK.1 (hw38.2.2.2.1.2 u.1.2.2.2.1 (hlt)) rfl) rfl rfl hl.1 rfl (lv_room (Nat.le_of_ble_eq_true rfl)) d_X_thing_51 ⟨Nat.le_of_ble_eq_true rfl, Nat.le_of_ble_eq_true rfl⟩) hL37 (fun z h => ⟨by omega, by omega⟩) (fun H44 L45 hp46 hL47 => ?_)
          have hw48 := XW_t hw38 (hlt) hp46.1 hp46.2
          have hBt49 := hp46.2
          have hn50 := xN_k hn40 (fun q _ _ => hBt49.2 q (by omega))
          have hp51 := xP_k hp41 (fun q _ _ => hBt49.2 q (by omega))
          have hO52 := Old.blk hO42 hBt49 (by omega)
          have hB53 := Blk.trans hB43 (hBt49.wide (by omega) (by omega))
          refine lv_aload_n hx hb d_X_thing_54 rfl (lv_at hl 1 rfl) ?_
          refine lv_dup hx hb d_X_thing_55 rfl ?_
          refine rw_get hx hb hts in_X hown hK.1 hw48.1 rfl 8 (by decide) (hts _ fl_X_119) rfl d_X_thing_56 ?_
          refine lv_dup_x1 hx hb d_X_thing_59 rfl rfl ?_
          refine lv_iconst (v := 1) hx hb d_X_thing_60 (by decide) ?_
          refine lv_iadd hx hb d_X_thing_61 ?_
          refine rw_put hx hb hts in_X ck_X ok_X nm_X hown hK.1 hw48.1 rfl 8 (by decide) (hts _ fl_X_119) rfl (ok_X 8 (by decide)) rfl rfl (Nat.le_of_ble_eq_true rfl) (⟨Nat.le_refl _, by omega⟩) hL47 d_X_thing_62 (fun H54 L55 z56 o57 hat58 hL59 => ?_)
          have hBo := Blk.one z56 o57
          have hwF : XW ev b ((u.1.1, u.1.2.1, u.1.2.2.1, u.1.2.2.2.1 + 1, u.1.2.2.2.2), u.2.1, u.2.2.1, va_up u.2.2.2 u.1.2.2.2.1 (ca, la, x, y)) H54 := by
            have h9 := XW_o hw48 (xO_t (q := u.1) (n := u.1.2.2.2.1) hat58) o57 ⟨hr40, ha12, hlt, hw.2.2.2.2.2.2.2⟩
            have e9 : va_up (va_up u.2.2.2 u.1.2.2.2.1 (ca, la, (u.2.2.2 u.1.2.2.2.1).2.2)) u.1.2.2.2.1 ((va_up u.2.2.2 u.1.2.2.2.1 (ca, la, (u.2.2.2 u.1.2.2.2.1).2.2) u.1.2.2.2.1).1, (va_up u.2.2.2 u.1.2.2.2.1 (ca, la, (u.2.2.2 u.1.2.2.2.1).2.2) u.1.2.2.2.1).2.1, x, y) = va_up u.2.2.2 u.1.2.2.2.1 (ca, la, x, y) := by rw [bx_uu, va_up_self]
            rw [← e9]; exact h9
          have hn60 := xN_k hn50 (fun q _ _ => hBo.2 q (by omega))
          have hp61 := xP_k hp51 (fun q _ _ => hBo.2 q (by omega))
          have hO62 := Old.blk hO52 hBo (by omega)
          have hB63 := Blk.trans hB53 (hBo.wide (by omega) (by omega))
          exact ry_i hQ (⟨⟨k11, k22⟩, k33⟩) hx hb hr hlk (rfl) (by rw [if_pos hlt]) (by unfold thiU; rw [if_pos hlt]; exact ⟨⟨hwF, ⟨_, KP_same hkp (Nat.le_succ _) (fun k x y _ h1 h2 => bes_thing rfl (by omega) (by omega) k), hn60⟩, hp61, hO62, hz⟩, Frm.blk hB63 (Nat.le_refl _) (Nat.le_refl _)⟩) hL59 (Nat.le_of_ble_eq_true rfl) (Nat.le_of_ble_eq_true rfl) d_X_thing_65
        · refine lv_iconst (v := (-1)) hx hb d_X_thing_26 (by decide) ?_
          have hge : ¬ u.1.2.2.2.1 < 40 := fun h => c23 ((nI_ltI (b := 40) (by omega) (by decide)).mpr h)
          exact ry_i hQ (⟨⟨k11, k22⟩, k33⟩) hx hb hr hlk (rfl) (by rw [if_neg hge]) (by unfold thiU; rw [if_neg hge]; exact ⟨hf, Frm.ext Ext.rf⟩) cNil (Nat.le_of_ble_eq_true rfl) (Nat.le_of_ble_eq_true rfl) d_X_thing_27
def rm_X_make : Room := { frames := 7, cells := 3, slots := 18, locals := 104 }
set_option maxRecDepth 100000 in
set_option maxHeartbeats 4000000 in
theorem c_X_make {l : Launch} {ev : EV} {H0 : Heap} {b : Nat} {u : XS} {kp : KT} {v : PT} (hT : l.stackTraces = false) (hf : XF ev b u kp v H0) (t ca la : Int32) : vx_Met l my_X_make mw_X_make rm_X_make (cP [.ref b, .int t, .int ca, .int la] (KG ev) H0) (cQod (okI u.1.2.2.2.1 t ∧ okC u.1.1 ca ∧ okL la) (some (.int (bI (!decide ((u.2.2.2 (nn t)).1 = ca ∧ (u.2.2.2 (nn t)).2.1 = la))))) (fun H1 => XF ev b (if (u.2.2.2 (nn t)).1 = ca ∧ (u.2.2.2 (nn t)).2.1 = la then u else thgU u (nn t) (ca, la, (u.2.2.2 (nn t)).2.2)) (if (u.2.2.2 (nn t)).1 = ca ∧ (u.2.2.2 (nn t)).2.1 = la then kp else kpD kp (nn t)) v H1 ∧ Frm b 101 H0 H1)) (cX (fun E H1 => (¬ (okI u.1.2.2.2.1 t ∧ okC u.1.1 ca ∧ okL la)) ∧ E = cIX ∧ XF ev b u kp v H1 ∧ Frm b 101 H0 H1)) 3 18 (inBk b (b + 101)) := by
  refine cHeadX [.ref b, .int t, .int ca, .int la] (by decide) rfl (Nat.le_of_ble_eq_true rfl) ?_
  intro p e s m below meth c ls args QQ hQ htab S hr hlk hnm hs hK hl
  have S : CallFix p m c mb_X_make 5 s args TB "RuleChoice" := S
  obtain ⟨hx, hb, hml, hown, hts⟩ := id S
  obtain ⟨hw, ⟨sl, hkp, hn⟩, hp, hO, hz⟩ := id hf
  have hold := hO
  have ht40 : u.1.2.2.2.1 ≤ 40 := hw.2.2.2.2.2.2.1
  have hr40 : u.1.2.1 ≤ 40 := hw.2.2.2.2.1
  have ha12 : u.1.2.2.1 ≤ 12 := hw.2.2.2.2.2.1
  have hl : lv_has ls 5 [(0, .ref b), (1, .int t), (2, .int ca), (3, .int la)] := hl
  refine lv_aload_n hx hb d_X_make_0 rfl (lv_at hl 0 rfl) ?_
  refine lv_iload_n hx hb d_X_make_1 rfl (lv_at hl 1 rfl) ?_
  refine cx_v (vx_runV (As := [.int t]) (rest := []) S (c_X_needThing hT hold hw t) (cwV 1 hts gv_X_129 rfl rfl rfl (by decide +kernel) ⟨Nat.le_of_ble_eq_true rfl, Nat.le_of_ble_eq_true rfl⟩) (cP_V (KG_ok _) hK hK.1 hw.1 rfl) rfl rfl hl.1 rfl (lv_room (Nat.le_of_ble_eq_true rfl)) d_X_make_2 ⟨Nat.le_of_ble_eq_true rfl, Nat.le_of_ble_eq_true rfl⟩) (A := inBk b (b + 101)) cNil (fun E1 H2 ce3 q4 L5 hp6 hL7 h8 h9 h10 => ?_) (fun k11 => ?_)
  · exact cx_out hQ htab hlk h8 h9 h10 (⟨fun h => hp6.1 h.1, hp6.2.1, XF_ext hf hp6.2.2, Frm.ext hp6.2.2⟩) hL7 (Nat.le_of_ble_eq_true rfl) (Nat.le_of_ble_eq_true rfl)
  · refine lv_aload_n hx hb d_X_make_5 rfl (lv_at hl 0 rfl) ?_
    refine lv_iload_n hx hb d_X_make_6 rfl (lv_at hl 2 rfl) ?_
    refine cx_v (vx_runV (As := [.int ca]) (rest := []) S (c_X_needClass hT hold hw ca) (cwV 1 hts gv_X_113 rfl rfl rfl (by decide +kernel) ⟨Nat.le_of_ble_eq_true rfl, Nat.le_of_ble_eq_true rfl⟩) (cP_V (KG_ok _) hK hK.1 hw.1 rfl) rfl rfl hl.1 rfl (lv_room (Nat.le_of_ble_eq_true rfl)) d_X_make_7 ⟨Nat.le_of_ble_eq_true rfl, Nat.le_of_ble_eq_true rfl⟩) (A := inBk b (b + 101)) cNil (fun E12 H13 ce14 q15 L16 hp17 hL18 h19 h20 h21 => ?_) (fun k22 => ?_)
    · exact cx_out hQ htab hlk h19 h20 h21 (⟨fun h => hp17.1 h.2.1, hp17.2.1, XF_ext hf hp17.2.2, Frm.ext hp17.2.2⟩) hL18 (Nat.le_of_ble_eq_true rfl) (Nat.le_of_ble_eq_true rfl)
    · refine lv_aload_n hx hb d_X_make_10 rfl (lv_at hl 0 rfl) ?_
      refine lv_iload_n hx hb d_X_make_11 rfl (lv_at hl 3 rfl) ?_
      refine cx_v (vx_runV (As := [.int la]) (rest := []) S (c_X_needLayer hT hold la) (cwV 1 hts gv_X_116 rfl rfl rfl (by decide +kernel) ⟨Nat.le_of_ble_eq_true rfl, Nat.le_of_ble_eq_true rfl⟩) (cP_V (KG_ok _) hK hK.1 hw.1 rfl) rfl rfl hl.1 rfl (lv_room (Nat.le_of_ble_eq_true rfl)) d_X_make_12 ⟨Nat.le_of_ble_eq_true rfl, Nat.le_of_ble_eq_true rfl⟩) (A := inBk b (b + 101)) cNil (fun E23 H24 ce25 q26 L27 hp28 hL29 h30 h31 h32 => ?_) (fun k33 => ?_)
      · exact cx_out hQ htab hlk h30 h31 h32 (⟨fun h => hp28.1 h.2.2, hp28.2.1, XF_ext hf hp28.2.2, Frm.ext hp28.2.2⟩) hL29 (Nat.le_of_ble_eq_true rfl) (Nat.le_of_ble_eq_true rfl)
      · obtain ⟨i, hni, hi, rfl⟩ := okIdx hw.2.2.2.2.2.2.1 k11
        simp only [nn_nI (i := i) (by omega)] at hQ
        refine lv_aload_n hx hb d_X_make_15 rfl (lv_at hl 0 rfl) ?_
        refine rw_get hx hb hts in_X hown hK.1 hw.1 rfl 3 (by decide) (hts _ fl_X_38) rfl d_X_make_16 ?_
        refine lv_iload_n hx hb d_X_make_19 rfl (lv_at hl 1 rfl) ?_
        refine rw_aald hx hb hK.1 5 hw.2.2.2.1.1 rfl i (rfl) (hi) (by decide) rfl d_X_make_20 ?_
        refine lv_astore (lv' := [(4, .ref (b + 56 + i)), (0, .ref b), (1, .int (nI i)), (2, .int ca), (3, .int la)]) hx hb d_X_make_21 hl (by decide) rfl (fun ls hl => ?_)
        refine lv_aload hx hb d_X_make_23 (lv_at hl 0 rfl) ?_
        refine rw_get hx hb hts in_T hown hK.1 (hw.2.2.2.1.2 i (hi)) rfl 0 (by decide) (hts _ fl_X_132) rfl d_X_make_25 ?_
        refine lv_iload_n hx hb d_X_make_28 rfl (lv_at hl 3 rfl) ?_
        refine lv_icmp_ne (tgt := 43) hx hb d_X_make_29 (by decide) (fun c29 => ?_) (fun c29 => ?_)
        · refine lv_aload hx hb d_X_make_43 (lv_at hl 0 rfl) ?_
          refine lv_iload_n hx hb d_X_make_45 rfl (lv_at hl 3 rfl) ?_
          refine lv_iload_n hx hb d_X_make_46 rfl (lv_at hl 4 rfl) ?_
          refine cl_d (W.runV (As := [.int ca, .int la]) (rest := []) S (c_T_become (hw.2.2.2.1.2 i (hi)) ca la) (cwV 2 hts gv_X_122 rfl rfl rfl (by decide +kernel) ⟨Nat.le_of_ble_eq_true rfl, Nat.le_of_ble_eq_true rfl⟩) (cP_V (KG_ok _) hK hK.1 (hw.2.2.2.1.2 i (hi)) rfl) rfl rfl hl.1 rfl (lv_room (Nat.le_of_ble_eq_true rfl)) d_X_make_47 ⟨Nat.le_of_ble_eq_true rfl, Nat.le_of_ble_eq_true rfl⟩) (A := inBk b (b + 101)) cNil (fun z h => ⟨by omega, by omega⟩) (fun H34 L35 hp36 hL37 => ?_)
          have hw38 := XW_t hw (hi) hp36.1 hp36.2
          have hBt39 := hp36.2
          have hn40 := xN_k hn (fun q _ _ => hBt39.2 q (by omega))
          have hp41 := xP_k hp (fun q _ _ => hBt39.2 q (by omega))
          have hO42 := Old.blk hO hBt39 (by omega)
          have hB43 := Blk.trans (Blk.rf (lo := b) (hi := b + 101) (H := H0)) (hBt39.wide (by omega) (by omega))
          refine lv_aload_n hx hb d_X_make_50 rfl (lv_at hl 1 rfl) ?_
          refine rw_get hx hb hts in_X hown hK.1 hw38.1 rfl 4 (by decide) (hts _ fl_X_46) rfl d_X_make_51 ?_
          refine lv_iload_n hx hb d_X_make_54 rfl (lv_at hl 2 rfl) ?_
          refine cl_d (W.runV (As := [.int (nI i)]) (rest := []) S (c_N_dropThing hn40 (t := i) (rfl) (hi)) (cwV 1 hts gv_X_138 rfl rfl rfl (by decide +kernel) ⟨Nat.le_of_ble_eq_true rfl, Nat.le_of_ble_eq_true rfl⟩) (cP_V (KG_ok _) hK hK.1 hn40.1 rfl) rfl rfl hl.1 rfl (lv_room (Nat.le_of_ble_eq_true rfl)) d_X_make_55 ⟨Nat.le_of_ble_eq_true rfl, Nat.le_of_ble_eq_true rfl⟩) hL37 (fun z h => ⟨by omega, by omega⟩) (fun H44 L45 hp46 hL47 => ?_)
          have hn48 := hp46.1
          have hBd49 := hp46.2
          have hw50 := XW_k hw38 (fun q _ _ => hBd49.2 q (by omega))
          have hp51 := xP_k hp41 (fun q _ _ => hBd49.2 q (by omega))
          have hO52 := Old.blk hO42 hBd49 (by omega)
          have hB53 := Blk.trans hB43 (hBd49.wide (by omega) (by omega))
          refine lv_iconst (v := 1) hx hb d_X_make_58 (by decide) ?_
          have g29 : ¬ ((u.2.2.2 i).1 = ca ∧ (u.2.2.2 i).2.1 = la) := fun h => c29 h.1
          exact ry_i hQ (⟨okI_of (by omega) hni, k22, k33⟩) hx hb hr hlk (rfl) (by rw [decide_eq_false g29]; rfl) (by rw [if_neg g29, if_neg g29]; exact ⟨⟨hw50, ⟨_, KP_dropT hi hkp rfl (fun k x y _ h1 h2 _ _ => bes_thing rfl h1 h2 k), hn48⟩, hp51, hO52, hz⟩, Frm.blk hB53 (Nat.le_refl _) (Nat.le_refl _)⟩) hL47 (Nat.le_of_ble_eq_true rfl) (Nat.le_of_ble_eq_true rfl) d_X_make_59
        · refine lv_aload hx hb d_X_make_32 (lv_at hl 0 rfl) ?_
          refine rw_get hx hb hts in_T hown hK.1 (hw.2.2.2.1.2 i (hi)) rfl 1 (by decide) (hts _ fl_X_135) rfl d_X_make_34 ?_
          refine lv_iload_n hx hb d_X_make_37 rfl (lv_at hl 4 rfl) ?_
          refine lv_icmp_ne (tgt := 43) hx hb d_X_make_38 (by decide) (fun c38 => ?_) (fun c38 => ?_)
          · refine lv_aload hx hb d_X_make_43 (lv_at hl 0 rfl) ?_
            refine lv_iload_n hx hb d_X_make_45 rfl (lv_at hl 3 rfl) ?_
            refine lv_iload_n hx hb d_X_make_46 rfl (lv_at hl 4 rfl) ?_
            refine cl_d (W.runV (As := [.int ca, .int la]) (rest := []) S (c_T_become (hw.2.2.2.1.2 i (hi)) ca la) (cwV 2 hts gv_X_122 rfl rfl rfl (by decide +kernel) ⟨Nat.le_of_ble_eq_true rfl, Nat.le_of_ble_eq_true rfl⟩) (cP_V (KG_ok _) hK hK.1 (hw.2.2.2.1.2 i (hi)) rfl) rfl rfl hl.1 rfl (lv_room (Nat.le_of_ble_eq_true rfl)) d_X_make_47 ⟨Nat.le_of_ble_eq_true rfl, Nat.le_of_ble_eq_true rfl⟩) (A := inBk b (b + 101)) cNil (fun z h => ⟨by omega, by omega⟩) (fun H54 L55 hp56 hL57 => ?_)
            have hw58 := XW_t hw (hi) hp56.1 hp56.2
            have hBt59 := hp56.2
            have hn60 := xN_k hn (fun q _ _ => hBt59.2 q (by omega))
            have hp61 := xP_k hp (fun q _ _ => hBt59.2 q (by omega))
            have hO62 := Old.blk hO hBt59 (by omega)
            have hB63 := Blk.trans (Blk.rf (lo := b) (hi := b + 101) (H := H0)) (hBt59.wide (by omega) (by omega))
            refine lv_aload_n hx hb d_X_make_50 rfl (lv_at hl 1 rfl) ?_
            refine rw_get hx hb hts in_X hown hK.1 hw58.1 rfl 4 (by decide) (hts _ fl_X_46) rfl d_X_make_51 ?_
            refine lv_iload_n hx hb d_X_make_54 rfl (lv_at hl 2 rfl) ?_
            refine cl_d (W.runV (As := [.int (nI i)]) (rest := []) S (c_N_dropThing hn60 (t := i) (rfl) (hi)) (cwV 1 hts gv_X_138 rfl rfl rfl (by decide +kernel) ⟨Nat.le_of_ble_eq_true rfl, Nat.le_of_ble_eq_true rfl⟩) (cP_V (KG_ok _) hK hK.1 hn60.1 rfl) rfl rfl hl.1 rfl (lv_room (Nat.le_of_ble_eq_true rfl)) d_X_make_55 ⟨Nat.le_of_ble_eq_true rfl, Nat.le_of_ble_eq_true rfl⟩) hL57 (fun z h => ⟨by omega, by omega⟩) (fun H64 L65 hp66 hL67 => ?_)
            have hn68 := hp66.1
            have hBd69 := hp66.2
            have hw70 := XW_k hw58 (fun q _ _ => hBd69.2 q (by omega))
            have hp71 := xP_k hp61 (fun q _ _ => hBd69.2 q (by omega))
            have hO72 := Old.blk hO62 hBd69 (by omega)
            have hB73 := Blk.trans hB63 (hBd69.wide (by omega) (by omega))
            refine lv_iconst (v := 1) hx hb d_X_make_58 (by decide) ?_
            have g29 : ¬ ((u.2.2.2 i).1 = ca ∧ (u.2.2.2 i).2.1 = la) := fun h => c38 h.2
            exact ry_i hQ (⟨okI_of (by omega) hni, k22, k33⟩) hx hb hr hlk (rfl) (by rw [decide_eq_false g29]; rfl) (by rw [if_neg g29, if_neg g29]; exact ⟨⟨hw70, ⟨_, KP_dropT hi hkp rfl (fun k x y _ h1 h2 _ _ => bes_thing rfl h1 h2 k), hn68⟩, hp71, hO72, hz⟩, Frm.blk hB73 (Nat.le_refl _) (Nat.le_refl _)⟩) hL67 (Nat.le_of_ble_eq_true rfl) (Nat.le_of_ble_eq_true rfl) d_X_make_59
          · refine lv_iconst (v := 0) hx hb d_X_make_41 (by decide) ?_
            exact ry_i hQ (⟨okI_of (by omega) hni, k22, k33⟩) hx hb hr hlk (rfl) (by simp [bI, c29, c38]) (by rw [if_pos ⟨c29, c38⟩, if_pos ⟨c29, c38⟩]; exact ⟨hf, Frm.ext Ext.rf⟩) cNil (Nat.le_of_ble_eq_true rfl) (Nat.le_of_ble_eq_true rfl) d_X_make_42
def rm_X_move : Room := { frames := 7, cells := 2, slots := 12, locals := 107 }
set_option maxRecDepth 100000 in
set_option maxHeartbeats 4000000 in
theorem c_X_move {l : Launch} {ev : EV} {H0 : Heap} {b : Nat} {u : XS} {kp : KT} {v : PT} (hT : l.stackTraces = false) (hf : XF ev b u kp v H0) (t : Int32) (x y : Int64) : vx_Met l my_X_move mw_X_move rm_X_move (cP [.ref b, .int t, .long x, .long y] (KG ev) H0) (cQod (okI u.1.2.2.2.1 t ∧ okP x y) (some (.int (bI (!decide ((u.2.2.2 (nn t)).2.2.1 = x ∧ (u.2.2.2 (nn t)).2.2.2 = y))))) (fun H1 => XF ev b (if (u.2.2.2 (nn t)).2.2.1 = x ∧ (u.2.2.2 (nn t)).2.2.2 = y then u else thgU u (nn t) ((u.2.2.2 (nn t)).1, (u.2.2.2 (nn t)).2.1, x, y)) (if (u.2.2.2 (nn t)).2.2.1 = x ∧ (u.2.2.2 (nn t)).2.2.2 = y then kp else if arnF u.2.2.1 (u.2.2.2 (nn t)).2.2.1 (u.2.2.2 (nn t)).2.2.2 u.1.2.2.1 = arnF u.2.2.1 x y u.1.2.2.1 then kp else kpD kp (nn t)) v H1 ∧ Frm b 101 H0 H1)) (cX (fun E H1 => (¬ okI u.1.2.2.2.1 t ∧ E = cIX ∨ okI u.1.2.2.2.1 t ∧ ¬ okP x y ∧ E = cIA) ∧ XF ev b u kp v H1 ∧ Frm b 101 H0 H1)) 2 12 (inBk b (b + 101)) := by
  refine cHeadX [.ref b, .int t, .long x, .long y] (by decide) rfl (Nat.le_of_ble_eq_true rfl) ?_
  intro p e s m below meth c ls args QQ hQ htab S hr hlk hnm hs hK hl
  have S : CallFix p m c mb_X_move 7 s args TB "RuleChoice" := S
  obtain ⟨hx, hb, hml, hown, hts⟩ := id S
  obtain ⟨hw, ⟨sl, hkp, hn⟩, hp, hO, hz⟩ := id hf
  have hold := hO
  have ht40 : u.1.2.2.2.1 ≤ 40 := hw.2.2.2.2.2.2.1
  have hr40 : u.1.2.1 ≤ 40 := hw.2.2.2.2.1
  have ha12 : u.1.2.2.1 ≤ 12 := hw.2.2.2.2.2.1
  have hl : lv_has ls 7 [(0, .ref b), (1, .int t), (2, .long x), (4, .long y)] := hl
  refine lv_aload_n hx hb d_X_move_0 rfl (lv_at hl 0 rfl) ?_
  refine lv_iload_n hx hb d_X_move_1 rfl (lv_at hl 1 rfl) ?_
  refine cx_v (vx_runV (As := [.int t]) (rest := []) S (c_X_needThing hT hold hw t) (cwV 1 hts gv_X_129 rfl rfl rfl (by decide +kernel) ⟨Nat.le_of_ble_eq_true rfl, Nat.le_of_ble_eq_true rfl⟩) (cP_V (KG_ok _) hK hK.1 hw.1 rfl) rfl rfl hl.1 rfl (lv_room (Nat.le_of_ble_eq_true rfl)) d_X_move_2 ⟨Nat.le_of_ble_eq_true rfl, Nat.le_of_ble_eq_true rfl⟩) (A := inBk b (b + 101)) cNil (fun E1 H2 ce3 q4 L5 hp6 hL7 h8 h9 h10 => ?_) (fun k11 => ?_)
  · exact cx_out hQ htab hlk h8 h9 h10 (⟨Or.inl ⟨hp6.1, hp6.2.1⟩, XF_ext hf hp6.2.2, Frm.ext hp6.2.2⟩) hL7 (Nat.le_of_ble_eq_true rfl) (Nat.le_of_ble_eq_true rfl)
  · refine lv_aload_n hx hb d_X_move_5 rfl (lv_at hl 0 rfl) ?_
    refine lv_lload_n hx hb d_X_move_6 rfl (lv_at hl 2 rfl) ?_
    refine lv_lload hx hb d_X_move_7 (lv_at hl 3 rfl) ?_
    refine cx_v (vx_runV (As := [.long x, .long y]) (rest := []) S (c_X_needPlace hT hold x y) (cwV 2 hts gv_X_93 rfl rfl rfl (by decide +kernel) ⟨Nat.le_of_ble_eq_true rfl, Nat.le_of_ble_eq_true rfl⟩) (cP_V (KG_ok _) hK hK.1 hw.1 rfl) rfl rfl hl.1 rfl (lv_room (Nat.le_of_ble_eq_true rfl)) d_X_move_9 ⟨Nat.le_of_ble_eq_true rfl, Nat.le_of_ble_eq_true rfl⟩) (A := inBk b (b + 101)) cNil (fun E12 H13 ce14 q15 L16 hp17 hL18 h19 h20 h21 => ?_) (fun k22 => ?_)
    · exact cx_out hQ htab hlk h19 h20 h21 (⟨Or.inr ⟨k11, hp17.1, hp17.2.1⟩, XF_ext hf hp17.2.2, Frm.ext hp17.2.2⟩) hL18 (Nat.le_of_ble_eq_true rfl) (Nat.le_of_ble_eq_true rfl)
    · obtain ⟨i, hni, hi, rfl⟩ := okIdx hw.2.2.2.2.2.2.1 k11
      simp only [nn_nI (i := i) (by omega)] at hQ
      refine lv_aload_n hx hb d_X_move_12 rfl (lv_at hl 0 rfl) ?_
      refine rw_get hx hb hts in_X hown hK.1 hw.1 rfl 3 (by decide) (hts _ fl_X_38) rfl d_X_move_13 ?_
      refine lv_iload_n hx hb d_X_move_16 rfl (lv_at hl 1 rfl) ?_
      refine rw_aald hx hb hK.1 5 hw.2.2.2.1.1 rfl i (rfl) (hi) (by decide) rfl d_X_move_17 ?_
      refine lv_astore (lv' := [(6, .ref (b + 56 + i)), (0, .ref b), (1, .int (nI i)), (2, .long x), (4, .long y)]) hx hb d_X_move_18 hl (by decide) rfl (fun ls hl => ?_)
      refine lv_aload hx hb d_X_move_20 (lv_at hl 0 rfl) ?_
      refine rw_get hx hb hts in_T hown hK.1 (hw.2.2.2.1.2 i (hi)) rfl 2 (by decide) (hts _ fl_X_141) rfl d_X_move_22 ?_
      refine lv_lload_n hx hb d_X_move_25 rfl (lv_at hl 3 rfl) ?_
      refine ll_ne (tgt := 43) hx hb d_X_move_26 d_X_move_27 (by decide) (fun c27 => ?_) (fun c27 => ?_)
      · refine lv_aload_n hx hb d_X_move_43 rfl (lv_at hl 1 rfl) ?_
        refine lv_aload hx hb d_X_move_44 (lv_at hl 0 rfl) ?_
        refine rw_get hx hb hts in_T hown hK.1 (hw.2.2.2.1.2 i (hi)) rfl 2 (by decide) (hts _ fl_X_141) rfl d_X_move_46 ?_
        refine lv_aload hx hb d_X_move_49 (lv_at hl 0 rfl) ?_
        refine rw_get hx hb hts in_T hown hK.1 (hw.2.2.2.1.2 i (hi)) rfl 3 (by decide) (hts _ fl_X_145) rfl d_X_move_51 ?_
        refine cl_i (W.runV (As := [.long ((u.2.2.2 i).2.2.1), .long ((u.2.2.2 i).2.2.2)]) (rest := []) S (c_X_areasAround hw ((u.2.2.2 i).2.2.1) ((u.2.2.2 i).2.2.2)) (cwV 2 hts gv_X_148 rfl rfl rfl (by decide +kernel) ⟨Nat.le_of_ble_eq_true rfl, Nat.le_of_ble_eq_true rfl⟩) (cP_V (KG_ok _) hK hK.1 hw.1 rfl) rfl rfl hl.1 rfl (lv_room (Nat.le_of_ble_eq_true rfl)) d_X_move_54 ⟨Nat.le_of_ble_eq_true rfl, Nat.le_of_ble_eq_true rfl⟩) ?_
        refine lv_aload_n hx hb d_X_move_57 rfl (lv_at hl 1 rfl) ?_
        refine lv_lload_n hx hb d_X_move_58 rfl (lv_at hl 3 rfl) ?_
        refine lv_lload hx hb d_X_move_59 (lv_at hl 4 rfl) ?_
        refine cl_i (W.runV (As := [.long x, .long y]) (rest := [.int (arnF u.2.2.1 ((u.2.2.2 i).2.2.1) ((u.2.2.2 i).2.2.2) u.1.2.2.1)]) S (c_X_areasAround hw x y) (cwV 2 hts gv_X_148 rfl rfl rfl (by decide +kernel) ⟨Nat.le_of_ble_eq_true rfl, Nat.le_of_ble_eq_true rfl⟩) (cP_V (KG_ok _) hK hK.1 hw.1 rfl) rfl rfl hl.1 rfl (lv_room (Nat.le_of_ble_eq_true rfl)) d_X_move_61 ⟨Nat.le_of_ble_eq_true rfl, Nat.le_of_ble_eq_true rfl⟩) ?_
        refine lv_icmp_eq (tgt := 75) hx hb d_X_move_64 (by decide) (fun c64 => ?_) (fun c64 => ?_)
        · refine lv_aload hx hb d_X_move_75 (lv_at hl 0 rfl) ?_
          refine lv_lload_n hx hb d_X_move_77 rfl (lv_at hl 3 rfl) ?_
          refine lv_lload hx hb d_X_move_78 (lv_at hl 4 rfl) ?_
          refine cl_d (W.runV (As := [.long x, .long y]) (rest := []) S (c_T_put (hw.2.2.2.1.2 i (hi)) x y) (cwV 2 hts gv_X_126 rfl rfl rfl (by decide +kernel) ⟨Nat.le_of_ble_eq_true rfl, Nat.le_of_ble_eq_true rfl⟩) (cP_V (KG_ok _) hK hK.1 (hw.2.2.2.1.2 i (hi)) rfl) rfl rfl hl.1 rfl (lv_room (Nat.le_of_ble_eq_true rfl)) d_X_move_80 ⟨Nat.le_of_ble_eq_true rfl, Nat.le_of_ble_eq_true rfl⟩) (A := inBk b (b + 101)) cNil (fun z h => ⟨by omega, by omega⟩) (fun H23 L24 hp25 hL26 => ?_)
          have hw27 := XW_t hw (hi) hp25.1 hp25.2
          have hBt28 := hp25.2
          have hn29 := xN_k hn (fun q _ _ => hBt28.2 q (by omega))
          have hp30 := xP_k hp (fun q _ _ => hBt28.2 q (by omega))
          have hO31 := Old.blk hO hBt28 (by omega)
          have hB32 := Blk.trans (Blk.rf (lo := b) (hi := b + 101) (H := H0)) (hBt28.wide (by omega) (by omega))
          refine lv_iconst (v := 1) hx hb d_X_move_83 (by decide) ?_
          have g29 : ¬ ((u.2.2.2 i).2.2.1 = x ∧ (u.2.2.2 i).2.2.2 = y) := fun h => c27 h.1
          exact ry_i hQ (⟨okI_of (by omega) hni, k22⟩) hx hb hr hlk (rfl) (by rw [decide_eq_false g29]; rfl) (by rw [if_neg g29, if_neg g29, if_pos c64]; exact ⟨⟨hw27, ⟨_, KP_same hkp (Nat.le_refl _) (fun k x y _ _ _ => bes_move hw.2.2.2.2 (arn_eq ha12 c64) k x y), hn29⟩, hp30, hO31, hz⟩, Frm.blk hB32 (Nat.le_refl _) (Nat.le_refl _)⟩) hL26 (Nat.le_of_ble_eq_true rfl) (Nat.le_of_ble_eq_true rfl) d_X_move_84
        · refine lv_aload_n hx hb d_X_move_67 rfl (lv_at hl 1 rfl) ?_
          refine rw_get hx hb hts in_X hown hK.1 hw.1 rfl 4 (by decide) (hts _ fl_X_46) rfl d_X_move_68 ?_
          refine lv_iload_n hx hb d_X_move_71 rfl (lv_at hl 2 rfl) ?_
          refine cl_d (W.runV (As := [.int (nI i)]) (rest := []) S (c_N_dropThing hn (t := i) (rfl) (hi)) (cwV 1 hts gv_X_138 rfl rfl rfl (by decide +kernel) ⟨Nat.le_of_ble_eq_true rfl, Nat.le_of_ble_eq_true rfl⟩) (cP_V (KG_ok _) hK hK.1 hn.1 rfl) rfl rfl hl.1 rfl (lv_room (Nat.le_of_ble_eq_true rfl)) d_X_move_72 ⟨Nat.le_of_ble_eq_true rfl, Nat.le_of_ble_eq_true rfl⟩) (A := inBk b (b + 101)) cNil (fun z h => ⟨by omega, by omega⟩) (fun H33 L34 hp35 hL36 => ?_)
          have hn37 := hp35.1
          have hBd38 := hp35.2
          have hw39 := XW_k hw (fun q _ _ => hBd38.2 q (by omega))
          have hp40 := xP_k hp (fun q _ _ => hBd38.2 q (by omega))
          have hO41 := Old.blk hO hBd38 (by omega)
          have hB42 := Blk.trans (Blk.rf (lo := b) (hi := b + 101) (H := H0)) (hBd38.wide (by omega) (by omega))
          refine lv_aload hx hb d_X_move_75 (lv_at hl 0 rfl) ?_
          refine lv_lload_n hx hb d_X_move_77 rfl (lv_at hl 3 rfl) ?_
          refine lv_lload hx hb d_X_move_78 (lv_at hl 4 rfl) ?_
          refine cl_d (W.runV (As := [.long x, .long y]) (rest := []) S (c_T_put (hw39.2.2.2.1.2 i (hi)) x y) (cwV 2 hts gv_X_126 rfl rfl rfl (by decide +kernel) ⟨Nat.le_of_ble_eq_true rfl, Nat.le_of_ble_eq_true rfl⟩) (cP_V (KG_ok _) hK hK.1 (hw39.2.2.2.1.2 i (hi)) rfl) rfl rfl hl.1 rfl (lv_room (Nat.le_of_ble_eq_true rfl)) d_X_move_80 ⟨Nat.le_of_ble_eq_true rfl, Nat.le_of_ble_eq_true rfl⟩) hL36 (fun z h => ⟨by omega, by omega⟩) (fun H43 L44 hp45 hL46 => ?_)
          have hw47 := XW_t hw39 (hi) hp45.1 hp45.2
          have hBt48 := hp45.2
          have hn49 := xN_k hn37 (fun q _ _ => hBt48.2 q (by omega))
          have hp50 := xP_k hp40 (fun q _ _ => hBt48.2 q (by omega))
          have hO51 := Old.blk hO41 hBt48 (by omega)
          have hB52 := Blk.trans hB42 (hBt48.wide (by omega) (by omega))
          refine lv_iconst (v := 1) hx hb d_X_move_83 (by decide) ?_
          have g29 : ¬ ((u.2.2.2 i).2.2.1 = x ∧ (u.2.2.2 i).2.2.2 = y) := fun h => c27 h.1
          exact ry_i hQ (⟨okI_of (by omega) hni, k22⟩) hx hb hr hlk (rfl) (by rw [decide_eq_false g29]; rfl) (by rw [if_neg g29, if_neg g29, if_neg c64]; exact ⟨⟨hw47, ⟨_, KP_dropT hi hkp rfl (fun k x y _ h1 h2 _ _ => bes_thing rfl h1 h2 k), hn49⟩, hp50, hO51, hz⟩, Frm.blk hB52 (Nat.le_refl _) (Nat.le_refl _)⟩) hL46 (Nat.le_of_ble_eq_true rfl) (Nat.le_of_ble_eq_true rfl) d_X_move_84
      · refine lv_aload hx hb d_X_move_30 (lv_at hl 0 rfl) ?_
        refine rw_get hx hb hts in_T hown hK.1 (hw.2.2.2.1.2 i (hi)) rfl 3 (by decide) (hts _ fl_X_145) rfl d_X_move_32 ?_
        refine lv_lload hx hb d_X_move_35 (lv_at hl 4 rfl) ?_
        refine ll_ne (tgt := 43) hx hb d_X_move_37 d_X_move_38 (by decide) (fun c38 => ?_) (fun c38 => ?_)
        · refine lv_aload_n hx hb d_X_move_43 rfl (lv_at hl 1 rfl) ?_
          refine lv_aload hx hb d_X_move_44 (lv_at hl 0 rfl) ?_
          refine rw_get hx hb hts in_T hown hK.1 (hw.2.2.2.1.2 i (hi)) rfl 2 (by decide) (hts _ fl_X_141) rfl d_X_move_46 ?_
          refine lv_aload hx hb d_X_move_49 (lv_at hl 0 rfl) ?_
          refine rw_get hx hb hts in_T hown hK.1 (hw.2.2.2.1.2 i (hi)) rfl 3 (by decide) (hts _ fl_X_145) rfl d_X_move_51 ?_
          refine cl_i (W.runV (As := [.long ((u.2.2.2 i).2.2.1), .long ((u.2.2.2 i).2.2.2)]) (rest := []) S (c_X_areasAround hw ((u.2.2.2 i).2.2.1) ((u.2.2.2 i).2.2.2)) (cwV 2 hts gv_X_148 rfl rfl rfl (by decide +kernel) ⟨Nat.le_of_ble_eq_true rfl, Nat.le_of_ble_eq_true rfl⟩) (cP_V (KG_ok _) hK hK.1 hw.1 rfl) rfl rfl hl.1 rfl (lv_room (Nat.le_of_ble_eq_true rfl)) d_X_move_54 ⟨Nat.le_of_ble_eq_true rfl, Nat.le_of_ble_eq_true rfl⟩) ?_
          refine lv_aload_n hx hb d_X_move_57 rfl (lv_at hl 1 rfl) ?_
          refine lv_lload_n hx hb d_X_move_58 rfl (lv_at hl 3 rfl) ?_
          refine lv_lload hx hb d_X_move_59 (lv_at hl 4 rfl) ?_
          refine cl_i (W.runV (As := [.long x, .long y]) (rest := [.int (arnF u.2.2.1 ((u.2.2.2 i).2.2.1) ((u.2.2.2 i).2.2.2) u.1.2.2.1)]) S (c_X_areasAround hw x y) (cwV 2 hts gv_X_148 rfl rfl rfl (by decide +kernel) ⟨Nat.le_of_ble_eq_true rfl, Nat.le_of_ble_eq_true rfl⟩) (cP_V (KG_ok _) hK hK.1 hw.1 rfl) rfl rfl hl.1 rfl (lv_room (Nat.le_of_ble_eq_true rfl)) d_X_move_61 ⟨Nat.le_of_ble_eq_true rfl, Nat.le_of_ble_eq_true rfl⟩) ?_
          refine lv_icmp_eq (tgt := 75) hx hb d_X_move_64 (by decide) (fun c64 => ?_) (fun c64 => ?_)
          · refine lv_aload hx hb d_X_move_75 (lv_at hl 0 rfl) ?_
            refine lv_lload_n hx hb d_X_move_77 rfl (lv_at hl 3 rfl) ?_
            refine lv_lload hx hb d_X_move_78 (lv_at hl 4 rfl) ?_
            refine cl_d (W.runV (As := [.long x, .long y]) (rest := []) S (c_T_put (hw.2.2.2.1.2 i (hi)) x y) (cwV 2 hts gv_X_126 rfl rfl rfl (by decide +kernel) ⟨Nat.le_of_ble_eq_true rfl, Nat.le_of_ble_eq_true rfl⟩) (cP_V (KG_ok _) hK hK.1 (hw.2.2.2.1.2 i (hi)) rfl) rfl rfl hl.1 rfl (lv_room (Nat.le_of_ble_eq_true rfl)) d_X_move_80 ⟨Nat.le_of_ble_eq_true rfl, Nat.le_of_ble_eq_true rfl⟩) (A := inBk b (b + 101)) cNil (fun z h => ⟨by omega, by omega⟩) (fun H53 L54 hp55 hL56 => ?_)
            have hw57 := XW_t hw (hi) hp55.1 hp55.2
            have hBt58 := hp55.2
            have hn59 := xN_k hn (fun q _ _ => hBt58.2 q (by omega))
            have hp60 := xP_k hp (fun q _ _ => hBt58.2 q (by omega))
            have hO61 := Old.blk hO hBt58 (by omega)
            have hB62 := Blk.trans (Blk.rf (lo := b) (hi := b + 101) (H := H0)) (hBt58.wide (by omega) (by omega))
            refine lv_iconst (v := 1) hx hb d_X_move_83 (by decide) ?_
            have g29 : ¬ ((u.2.2.2 i).2.2.1 = x ∧ (u.2.2.2 i).2.2.2 = y) := fun h => c38 h.2
            exact ry_i hQ (⟨okI_of (by omega) hni, k22⟩) hx hb hr hlk (rfl) (by rw [decide_eq_false g29]; rfl) (by rw [if_neg g29, if_neg g29, if_pos c64]; exact ⟨⟨hw57, ⟨_, KP_same hkp (Nat.le_refl _) (fun k x y _ _ _ => bes_move hw.2.2.2.2 (arn_eq ha12 c64) k x y), hn59⟩, hp60, hO61, hz⟩, Frm.blk hB62 (Nat.le_refl _) (Nat.le_refl _)⟩) hL56 (Nat.le_of_ble_eq_true rfl) (Nat.le_of_ble_eq_true rfl) d_X_move_84
          · refine lv_aload_n hx hb d_X_move_67 rfl (lv_at hl 1 rfl) ?_
            refine rw_get hx hb hts in_X hown hK.1 hw.1 rfl 4 (by decide) (hts _ fl_X_46) rfl d_X_move_68 ?_
            refine lv_iload_n hx hb d_X_move_71 rfl (lv_at hl 2 rfl) ?_
            refine cl_d (W.runV (As := [.int (nI i)]) (rest := []) S (c_N_dropThing hn (t := i) (rfl) (hi)) (cwV 1 hts gv_X_138 rfl rfl rfl (by decide +kernel) ⟨Nat.le_of_ble_eq_true rfl, Nat.le_of_ble_eq_true rfl⟩) (cP_V (KG_ok _) hK hK.1 hn.1 rfl) rfl rfl hl.1 rfl (lv_room (Nat.le_of_ble_eq_true rfl)) d_X_move_72 ⟨Nat.le_of_ble_eq_true rfl, Nat.le_of_ble_eq_true rfl⟩) (A := inBk b (b + 101)) cNil (fun z h => ⟨by omega, by omega⟩) (fun H63 L64 hp65 hL66 => ?_)
            have hn67 := hp65.1
            have hBd68 := hp65.2
            have hw69 := XW_k hw (fun q _ _ => hBd68.2 q (by omega))
            have hp70 := xP_k hp (fun q _ _ => hBd68.2 q (by omega))
            have hO71 := Old.blk hO hBd68 (by omega)
            have hB72 := Blk.trans (Blk.rf (lo := b) (hi := b + 101) (H := H0)) (hBd68.wide (by omega) (by omega))
            refine lv_aload hx hb d_X_move_75 (lv_at hl 0 rfl) ?_
            refine lv_lload_n hx hb d_X_move_77 rfl (lv_at hl 3 rfl) ?_
            refine lv_lload hx hb d_X_move_78 (lv_at hl 4 rfl) ?_
            refine cl_d (W.runV (As := [.long x, .long y]) (rest := []) S (c_T_put (hw69.2.2.2.1.2 i (hi)) x y) (cwV 2 hts gv_X_126 rfl rfl rfl (by decide +kernel) ⟨Nat.le_of_ble_eq_true rfl, Nat.le_of_ble_eq_true rfl⟩) (cP_V (KG_ok _) hK hK.1 (hw69.2.2.2.1.2 i (hi)) rfl) rfl rfl hl.1 rfl (lv_room (Nat.le_of_ble_eq_true rfl)) d_X_move_80 ⟨Nat.le_of_ble_eq_true rfl, Nat.le_of_ble_eq_true rfl⟩) hL66 (fun z h => ⟨by omega, by omega⟩) (fun H73 L74 hp75 hL76 => ?_)
            have hw77 := XW_t hw69 (hi) hp75.1 hp75.2
            have hBt78 := hp75.2
            have hn79 := xN_k hn67 (fun q _ _ => hBt78.2 q (by omega))
            have hp80 := xP_k hp70 (fun q _ _ => hBt78.2 q (by omega))
            have hO81 := Old.blk hO71 hBt78 (by omega)
            have hB82 := Blk.trans hB72 (hBt78.wide (by omega) (by omega))
            refine lv_iconst (v := 1) hx hb d_X_move_83 (by decide) ?_
            have g29 : ¬ ((u.2.2.2 i).2.2.1 = x ∧ (u.2.2.2 i).2.2.2 = y) := fun h => c38 h.2
            exact ry_i hQ (⟨okI_of (by omega) hni, k22⟩) hx hb hr hlk (rfl) (by rw [decide_eq_false g29]; rfl) (by rw [if_neg g29, if_neg g29, if_neg c64]; exact ⟨⟨hw77, ⟨_, KP_dropT hi hkp rfl (fun k x y _ h1 h2 _ _ => bes_thing rfl h1 h2 k), hn79⟩, hp80, hO81, hz⟩, Frm.blk hB82 (Nat.le_refl _) (Nat.le_refl _)⟩) hL76 (Nat.le_of_ble_eq_true rfl) (Nat.le_of_ble_eq_true rfl) d_X_move_84
        · refine lv_iconst (v := 0) hx hb d_X_move_41 (by decide) ?_
          exact ry_i hQ (⟨okI_of (by omega) hni, k22⟩) hx hb hr hlk (rfl) (by simp [bI, c27, c38]) (by rw [if_pos ⟨c27, c38⟩, if_pos ⟨c27, c38⟩]; exact ⟨hf, Frm.ext Ext.rf⟩) cNil (Nat.le_of_ble_eq_true rfl) (Nat.le_of_ble_eq_true rfl) d_X_move_42
end
section
/-! how many are kept: the class's slots and the model's marks -/
theorem cnt_add (f : Nat → Int32) (a : Nat) : ∀ b, cntF f (a + b) = cntF f a + cntF (fun i => f (a + i)) b
  | 0 => rfl
  | b + 1 => by
    show cntF f (a + b) + _ = cntF f a + (cntF (fun i => f (a + i)) b + _)
    rw [cnt_add f a b, Nat.add_assoc]
    rfl
theorem cnt_congr {f g : Nat → Int32} : ∀ n, (∀ i, i < n → (f i = 0 ↔ g i = 0)) → cntF f n = cntF g n
  | 0, _ => rfl
  | n + 1, h => by
    have ih := cnt_congr n (fun i hi => h i (by omega))
    have hn := h n (by omega)
    unfold cntF
    rw [ih]
    by_cases e : f n = 0
    · rw [if_pos e, if_pos (hn.mp e)]
    · rw [if_neg e, if_neg (fun q => e (hn.mpr q))]
theorem cnt_zero {f : Nat → Int32} {n : Nat} : ∀ m, (∀ i, n ≤ i → f i = 0) → cntF f (n + m) = cntF f n
  | 0, _ => rfl
  | m + 1, h => by
    show cntF f (n + m) + (if f (n + m) = 0 then 0 else 1) = _
    rw [cnt_zero m h, if_pos (h _ (by omega))]
    rfl
def sumF (g : Nat → Nat) : Nat → Nat
  | 0 => 0
  | n + 1 => sumF g n + g n
theorem sum_congr {f g : Nat → Nat} : ∀ n, (∀ i, i < n → f i = g i) → sumF f n = sumF g n
  | 0, _ => rfl
  | n + 1, h => by
    unfold sumF
    rw [sum_congr n (fun i hi => h i (by omega)), h n (by omega)]
theorem sum_add (f g : Nat → Nat) : ∀ n, sumF (fun i => f i + g i) n = sumF f n + sumF g n
  | 0 => rfl
  | n + 1 => by
    unfold sumF
    rw [sum_add f g n]
    omega
theorem sum_0 : ∀ n, sumF (fun _ => 0) n = 0
  | 0 => rfl
  | n + 1 => by unfold sumF; rw [sum_0 n]
theorem cnt_sum (f : Nat → Int32) : ∀ n, cntF f n = sumF (fun i => if f i = 0 then 0 else 1) n
  | 0 => rfl
  | n + 1 => by unfold cntF sumF; rw [cnt_sum f n]
theorem cnt_mul (f : Nat → Int32) (m : Nat) : ∀ k, cntF f (k * m) = sumF (fun i => cntF (fun j => f (i * m + j)) m) k
  | 0 => by rw [Nat.zero_mul]; rfl
  | k + 1 => by
    rw [Nat.succ_mul, cnt_add, cnt_mul f m k]
    rfl
theorem cnt_tri (f : Nat → Int32) : ∀ h, cntF f (h * (h + 1) / 2) = sumF (fun y => cntF (fun x => f (y * (y + 1) / 2 + x)) (y + 1)) h
  | 0 => rfl
  | h + 1 => by
    rw [tri_step, cnt_add, cnt_tri f h]
    rfl
theorem sum_swap (F : Nat → Nat → Int32) (m : Nat) : ∀ n, sumF (fun y => cntF (fun x => F x y) m) n = sumF (fun x => cntF (fun y => F x y) n) m
  | 0 => by
    show 0 = sumF (fun _ => 0) m
    rw [sum_0]
  | n + 1 => by
    show sumF (fun y => cntF (fun x => F x y) m) n + cntF (fun x => F x n) m = sumF (fun x => cntF (fun y => F x y) n + (if F x n = 0 then 0 else 1)) m
    rw [sum_add, sum_swap F m n, cnt_sum (fun x => F x n) m]
/-- the model's mark of a key -/
def kbF (kp : KT) : Nat → Int32 := fun s => bI (kp (s / 1600) (s % 1600 / 40) (s % 40) && decide (s % 1600 / 40 ≤ s % 40))
def kcF (kp : KT) : Nat := cntF (kbF kp) 9600
theorem kb_at (kp : KT) {k x y : Nat} (hx : x < 40) (hy : y < 40) : kbF kp (k * 1600 + (x * 40 + y)) = bI (kp k x y && decide (x ≤ y)) := by
  have e1 : (k * 1600 + (x * 40 + y)) / 1600 = k := by omega
  have e2 : (k * 1600 + (x * 40 + y)) % 1600 / 40 = x := by omega
  have e3 : (k * 1600 + (x * 40 + y)) % 40 = y := by omega
  unfold kbF
  rw [e1, e2, e3]
theorem kc_eq {u : XS} {kp : KT} {sl : Nat → Int32} (hnr : u.1.2.1 ≤ 40) (h : KP u kp sl) : cntF sl 4920 = kcF kp := by
  have a1 : cntF sl (6 * 820) = sumF (fun i => cntF (fun j => sl (i * 820 + j)) 820) 6 := cnt_mul sl 820 6
  have a2 : cntF (kbF kp) (6 * 1600) = sumF (fun i => cntF (fun j => kbF kp (i * 1600 + j)) 1600) 6 := cnt_mul _ 1600 6
  show cntF sl (6 * 820) = cntF (kbF kp) (6 * 1600)
  rw [a1, a2]
  refine sum_congr 6 (fun k hk => ?_)
  have b1 : cntF (fun j => sl (k * 820 + j)) (40 * (40 + 1) / 2) = _ := cnt_tri _ 40
  have b2 : cntF (fun j => kbF kp (k * 1600 + j)) (40 * 40) = _ := cnt_mul _ 40 40
  refine b1.trans (Eq.trans ?_ b2.symm)
  refine Eq.trans ?_ ((sum_swap (fun x y => bI (kp k x y && decide (x ≤ y))) 40 40).trans (sum_congr 40 (fun x hx => cnt_congr 40 (fun y hy => by rw [kb_at kp hx hy]))))
  refine sum_congr 40 (fun y hy => ?_)
  have c1 : cntF (fun x => bI (kp k x y && decide (x ≤ y))) (y + 1 + (39 - y)) = cntF (fun x => bI (kp k x y && decide (x ≤ y))) (y + 1) := cnt_zero _ (fun i hi => by
    show bI (kp k i y && decide (i ≤ y)) = 0
    rw [decide_eq_false (by omega)]
    simp [bI])
  rw [show y + 1 + (39 - y) = 40 by omega] at c1
  rw [c1]
  refine cnt_congr (y + 1) (fun x hx => ?_)
  have e := (h k x y hk (by omega) hy).1
  rw [sIx_le (by omega)] at e
  rw [e, decide_eq_true (show x ≤ y by omega)]
  cases kp k x y with
  | false => simp [bI]
  | true =>
    rw [if_pos rfl]
    exact ⟨fun q => absurd q (oI_2 (besF_40 hnr)), fun q => by simp [bI] at q⟩
end
section
/-! listed, why, greatest, close: what they answer -/
def lisU (u : XS) (k x y : Nat) : Nat → Option Nat
  | 0 => besU u k x y
  | n + 1 => match lisU u k x y n with
    | none => none
    | some j => besF u.2.1 u.2.2.1 (some j) (nI k) (u.2.2.2 x) (u.2.2.2 y) u.1.2.1
theorem lis_40 {u : XS} (h : u.1.2.1 ≤ 40) {k x y : Nat} : ∀ n a, lisU u k x y n = some a → a < 40
  | 0, a, e => besF_40 h a e
  | n + 1, a, e => by
    unfold lisU at e
    cases hl : lisU u k x y n with
    | none => rw [hl] at e; cases e
    | some j => rw [hl] at e; exact besF_40 h a e
theorem lis_s {u : XS} {k x y n j : Nat} (h : lisU u k x y n = some j) : lisU u k x y (n + 1) = besF u.2.1 u.2.2.1 (some j) (nI k) (u.2.2.2 x) (u.2.2.2 y) u.1.2.1 := by
  rw [lisU, h]
theorem lis_n {u : XS} {k x y n : Nat} (h : lisU u k x y n = none) : ∀ m, lisU u k x y (n + m) = none
  | 0 => h
  | m + 1 => by
    show lisU u k x y (n + m + 1) = none
    rw [lisU, lis_n h m]
def whyF (u : XS) (k x y r : Nat) : Int32 := if hindF u.2.2.1 (u.2.1 r) (nI k) (u.2.2.2 x) (u.2.2.2 y) = 0 then (match besU u k x y with
  | none => 0
  | some b => if b = r then 0 else if (u.2.1 r).2.2.2.2.2.1 < (u.2.1 b).2.2.2.2.2.1 then 5 else 6) else hindF u.2.2.1 (u.2.1 r) (nI k) (u.2.2.2 x) (u.2.2.2 y)
def grtF (u : XS) (k la : Int32) : Nat → Int64
  | 0 => -1
  | n + 1 => if (u.2.1 n).1 = k ∧ layB (u.2.1 n) la = true then (if (u.2.1 n).2.2.2.2.1 < grtF u k la n then grtF u k la n else (u.2.1 n).2.2.2.2.1) else grtF u k la n
/-- pairs of thing a and those behind it, m of them -/
def ciF (u : XS) (k : Int32) (w : PT) (a : Nat) : Nat → PT
  | 0 => w
  | m + 1 => if nerB u.2.1 u.2.2.1 u.1.2.1 k (u.2.2.2 a) (u.2.2.2 (a + 1 + m)) = true then ((ciF u k w a m).1 + 1, upd (ciF u k w a m).2.1 (ciF u k w a m).1 (nI a), upd (ciF u k w a m).2.2 (ciF u k w a m).1 (nI (a + 1 + m))) else ciF u k w a m
def coF (u : XS) (k : Int32) (w : PT) : Nat → PT
  | 0 => (0, w.2)
  | a + 1 => ciF u k (coF u k w a) a (u.1.2.2.2.1 - (a + 1))
theorem ci_le (u : XS) (k : Int32) (w : PT) (a : Nat) : ∀ m, (ciF u k w a m).1 ≤ w.1 + m
  | 0 => Nat.le_refl _
  | m + 1 => by
    have := ci_le u k w a m
    unfold ciF
    split
    · show (ciF u k w a m).1 + 1 ≤ _; omega
    · omega
def prS (n : Nat) : Nat → Nat
  | 0 => 0
  | a + 1 => prS n a + (n - (a + 1))
theorem pr_780 : ∀ n, n < 41 → ∀ a, a < 41 → prS n a ≤ 780 := by decide +kernel
theorem co_le (u : XS) (k : Int32) (w : PT) : ∀ a, (coF u k w a).1 ≤ prS u.1.2.2.2.1 a
  | 0 => Nat.le_refl 0
  | a + 1 => by
    have h1 := co_le u k w a
    have h2 := ci_le u k (coF u k w a) a (u.1.2.2.2.1 - (a + 1))
    show (ciF u k (coF u k w a) a (u.1.2.2.2.1 - (a + 1))).1 ≤ prS u.1.2.2.2.1 a + (u.1.2.2.2.1 - (a + 1))
    omega
theorem ci_780 {u : XS} {k : Int32} {w : PT} {a m : Nat} (hn : u.1.2.2.2.1 ≤ 40) (ha : a < u.1.2.2.2.1) (hm : m < u.1.2.2.2.1 - (a + 1)) : (ciF u k (coF u k w a) a m).1 < 780 := by
  have h1 := co_le u k w a
  have h2 := ci_le u k (coF u k w a) a m
  have h3 := pr_780 u.1.2.2.2.1 (by omega) (a + 1) (by omega)
  have h4 : prS u.1.2.2.2.1 (a + 1) = prS u.1.2.2.2.1 a + (u.1.2.2.2.1 - (a + 1)) := rfl
  omega
theorem ci_y {u : XS} {k : Int32} {w : PT} {a m : Nat} (h : nerB u.2.1 u.2.2.1 u.1.2.1 k (u.2.2.2 a) (u.2.2.2 (a + 1 + m)) = true) : ciF u k w a (m + 1) = ((ciF u k w a m).1 + 1, upd (ciF u k w a m).2.1 (ciF u k w a m).1 (nI a), upd (ciF u k w a m).2.2 (ciF u k w a m).1 (nI (a + 1 + m))) := by rw [ciF, if_pos h]
theorem ci_n {u : XS} {k : Int32} {w : PT} {a m : Nat} (h : nerB u.2.1 u.2.2.1 u.1.2.1 k (u.2.2.2 a) (u.2.2.2 (a + 1 + m)) = false) : ciF u k w a (m + 1) = ciF u k w a m := by rw [ciF, if_neg (by rw [h]; decide)]
theorem grt_y {u : XS} {k la : Int32} {n : Nat} (h1 : (u.2.1 n).1 = k) (h2 : layB (u.2.1 n) la = true) : grtF u k la (n + 1) = (if (u.2.1 n).2.2.2.2.1 < grtF u k la n then grtF u k la n else (u.2.1 n).2.2.2.2.1) := by rw [grtF, if_pos ⟨h1, h2⟩]
end
section
def rm_X_listed : Room := { frames := 8, cells := 3, slots := 18, locals := 127 }
set_option maxRecDepth 100000 in
set_option maxHeartbeats 4000000 in
theorem c_X_listed {l : Launch} {ev : EV} {H0 : Heap} {b : Nat} {u : XS} {kp : KT} {v : PT} (hT : l.stackTraces = false) (hf : XF ev b u kp v H0) (k x y z : Int32) : vx_Met l my_X_listed mw_X_listed rm_X_listed (cP [.ref b, .int k, .int x, .int y, .int z] (KG ev) H0) (cQod (okK k ∧ okI u.1.2.2.2.1 x ∧ okI u.1.2.2.2.1 y) (some (.int (if z < 0 then -1 else if z < nI u.1.2.1 then oI (lisU u (nn k) (nn x) (nn y) (nn z)) else -1))) (fun H1 => XF ev b u kp v H1 ∧ Frm b 101 H0 H1)) (cX (fun E H1 => (¬ (okK k ∧ okI u.1.2.2.2.1 x ∧ okI u.1.2.2.2.1 y)) ∧ E = cIX ∧ XF ev b u kp v H1 ∧ Frm b 101 H0 H1)) 3 18 (inBk b (b + 101)) := by
  refine cHeadX [.ref b, .int k, .int x, .int y, .int z] (by decide) rfl (Nat.le_of_ble_eq_true rfl) ?_
  intro p e s m below meth c ls args QQ hQ htab S hr hlk hnm hs hK hl
  have S : CallFix p m c mb_X_listed 7 s args TB "RuleChoice" := S
  obtain ⟨hx, hb, hml, hown, hts⟩ := id S
  obtain ⟨hw, ⟨sl, hkp, hn⟩, hp, hO, hz⟩ := id hf
  have hold := hO
  have ht40 : u.1.2.2.2.1 ≤ 40 := hw.2.2.2.2.2.2.1
  have hr40 : u.1.2.1 ≤ 40 := hw.2.2.2.2.1
  have ha12 : u.1.2.2.1 ≤ 12 := hw.2.2.2.2.2.1
  have hl : lv_has ls 7 [(0, .ref b), (1, .int k), (2, .int x), (3, .int y), (4, .int z)] := hl
  refine lv_aload_n hx hb d_X_listed_0 rfl (lv_at hl 0 rfl) ?_
  refine lv_iload_n hx hb d_X_listed_1 rfl (lv_at hl 1 rfl) ?_
  refine lv_iload_n hx hb d_X_listed_2 rfl (lv_at hl 2 rfl) ?_
  refine lv_iload_n hx hb d_X_listed_3 rfl (lv_at hl 3 rfl) ?_
  refine cx_v (vx_runV (As := [.int k, .int x, .int y]) (rest := []) S (c_X_needKindAndThings hT hold hw k x y) (cwV 3 hts gv_X_152 rfl rfl rfl (by decide +kernel) ⟨Nat.le_of_ble_eq_true rfl, Nat.le_of_ble_eq_true rfl⟩) (cP_V (KG_ok _) hK hK.1 hw.1 rfl) rfl rfl hl.1 rfl (lv_room (Nat.le_of_ble_eq_true rfl)) d_X_listed_4 ⟨Nat.le_of_ble_eq_true rfl, Nat.le_of_ble_eq_true rfl⟩) (A := inBk b (b + 101)) cNil (fun E1 H2 ce3 q4 L5 hp6 hL7 h8 h9 h10 => ?_) (fun k11 => ?_)
  · exact cx_out hQ htab hlk h8 h9 h10 (⟨hp6.1, hp6.2.1, XF_ext hf hp6.2.2, Frm.ext hp6.2.2⟩) hL7 (Nat.le_of_ble_eq_true rfl) (Nat.le_of_ble_eq_true rfl)
  · obtain ⟨kk, hkk, rfl⟩ := okK_ix k11.1
    obtain ⟨j, hnj, hj, rfl⟩ := okIdx hw.2.2.2.2.2.2.1 k11.2.1
    obtain ⟨j2, hnj2, hj2, rfl⟩ := okIdx hw.2.2.2.2.2.2.1 k11.2.2
    simp only [nn_nI (i := kk) (by omega), nn_nI (i := j) (by omega), nn_nI (i := j2) (by omega)] at hQ
    refine lv_iload hx hb d_X_listed_7 (lv_at hl 4 rfl) ?_
    refine lv_if_lt (tgt := 21) hx hb d_X_listed_9 (by decide) (fun c9 => ?_) (fun c9 => ?_)
    · refine lv_iconst (v := (-1)) hx hb d_X_listed_21 (by decide) ?_
      exact ry_i hQ (⟨okI_of (n := 6) (by decide) hkk, okI_of (by omega) hnj, okI_of (by omega) hnj2⟩) hx hb hr hlk (rfl) (by simp [c9]) (⟨hf, Frm.ext Ext.rf⟩) cNil (Nat.le_of_ble_eq_true rfl) (Nat.le_of_ble_eq_true rfl) d_X_listed_22
    · refine lv_iload hx hb d_X_listed_12 (lv_at hl 4 rfl) ?_
      refine lv_aload_n hx hb d_X_listed_14 rfl (lv_at hl 0 rfl) ?_
      refine rw_get hx hb hts in_X hown hK.1 hw.1 rfl 6 (by decide) (hts _ fl_X_71) rfl d_X_listed_15 ?_
      refine lv_icmp_lt (tgt := 23) hx hb d_X_listed_18 (by decide) (fun c18 => ?_) (fun c18 => ?_)
      · obtain ⟨n9, hn9, hm9, rfl⟩ := okIdx hr40 ⟨c9, c18⟩
        simp only [nn_nI (i := n9) (by omega), if_neg c9, if_pos c18] at hQ
        refine lv_aload_n hx hb d_X_listed_23 rfl (lv_at hl 0 rfl) ?_
        refine lv_iconst (v := (-1)) hx hb d_X_listed_24 (by decide) ?_
        refine lv_iload_n hx hb d_X_listed_25 rfl (lv_at hl 1 rfl) ?_
        refine lv_aload_n hx hb d_X_listed_26 rfl (lv_at hl 0 rfl) ?_
        refine rw_get hx hb hts in_X hown hK.1 hw.1 rfl 3 (by decide) (hts _ fl_X_38) rfl d_X_listed_27 ?_
        refine lv_iload_n hx hb d_X_listed_30 rfl (lv_at hl 2 rfl) ?_
        refine rw_aald hx hb hK.1 5 hw.2.2.2.1.1 rfl j (rfl) (hj) (by decide) rfl d_X_listed_31 ?_
        refine lv_aload_n hx hb d_X_listed_32 rfl (lv_at hl 0 rfl) ?_
        refine rw_get hx hb hts in_X hown hK.1 hw.1 rfl 3 (by decide) (hts _ fl_X_38) rfl d_X_listed_33 ?_
        refine lv_iload_n hx hb d_X_listed_36 rfl (lv_at hl 3 rfl) ?_
        refine rw_aald hx hb hK.1 5 hw.2.2.2.1.1 rfl j2 (rfl) (hj2) (by decide) rfl d_X_listed_37 ?_
        refine cl_i (W.runV (As := [.int (-1), .int (nI kk), .ref (b + 56 + j), .ref (b + 56 + j2)]) (rest := []) S (c_X_bestBelow hw (up := none) (j := j) (k := j2) (fun _ h => by cases h) (hj) (hj2) (nI kk)) (cwV 4 hts gv_X_164 rfl rfl rfl (by decide +kernel) ⟨Nat.le_of_ble_eq_true rfl, Nat.le_of_ble_eq_true rfl⟩) (cP_V (KG_ok _) hK hK.1 hw.1 rfl) rfl rfl hl.1 rfl (lv_room (Nat.le_of_ble_eq_true rfl)) d_X_listed_38 ⟨Nat.le_of_ble_eq_true rfl, Nat.le_of_ble_eq_true rfl⟩) ?_
        refine lv_istore (lv' := [(5, .int (oI (besF u.2.1 u.2.2.1 none (nI kk) (u.2.2.2 j) (u.2.2.2 j2) u.1.2.1))), (0, .ref b), (1, .int (nI kk)), (2, .int (nI j)), (3, .int (nI j2)), (4, .int (nI n9))]) hx hb d_X_listed_41 hl (by decide) rfl (fun ls hl => ?_)
        refine lv_iconst (v := 0) hx hb d_X_listed_43 (by decide) ?_
        refine lv_istore (lv' := [(6, .int 0), (5, .int (oI (besF u.2.1 u.2.2.1 none (nI kk) (u.2.2.2 j) (u.2.2.2 j2) u.1.2.1))), (0, .ref b), (1, .int (nI kk)), (2, .int (nI j)), (3, .int (nI j2)), (4, .int (nI n9))]) hx hb d_X_listed_44 hl (by decide) rfl (fun ls hl => ?_)
        have LP : ∀ (n i : Nat) (bs : Int32) (ls : Array Slot), bs = oI (lisU u kk j j2 i) → i ≤ n9 → n9 - i < n → lv_has ls 7 [(0, .ref b), (1, .int (nI kk)), (2, .int (nI j)), (3, .int (nI j2)), (4, .int (nI n9)), (5, .int bs), (6, .int (nI i))] → W p l e rm_X_listed s m args below meth c H0 [] (0 + 3) (0 + 18) QQ (F0 m 46 ls []) := by
          intro n
          induction n with
          | zero => intro i bs ls h1 h2 h3; exact absurd h3 (by omega)
          | succ n ih =>
            intro i bs ls ebs hle hlt9 hl
            refine lv_iload hx hb d_X_listed_46 (lv_at hl 6 rfl) ?_
            refine lv_iload hx hb d_X_listed_48 (lv_at hl 4 rfl) ?_
            refine lv_icmp_ge (tgt := 86) hx hb d_X_listed_50 (by decide) (fun c50 => ?_) (fun c50 => ?_)
            · refine lv_iload hx hb d_X_listed_86 (lv_at hl 5 rfl) ?_
              exact ry_i hQ (⟨okI_of (n := 6) (by decide) hkk, okI_of (by omega) hnj, okI_of (by omega) hnj2⟩) hx hb hr hlk (rfl) (by rw [ebs]; congr 2; exact Nat.le_antisymm hle (Nat.not_lt.mp (fun h => absurd c50 (nI_ge h (by omega))))) (⟨hf, Frm.ext Ext.rf⟩) cNil (Nat.le_of_ble_eq_true rfl) (Nat.le_of_ble_eq_true rfl) d_X_listed_88
            · have hin : i < n9 := Nat.not_le.mp (fun h => c50 (nI_le h (by omega)))
              refine lv_iload hx hb d_X_listed_53 (lv_at hl 5 rfl) ?_
              refine lv_iconst (v := (-1)) hx hb d_X_listed_55 (by decide) ?_
              refine lv_icmp_eq (tgt := 86) hx hb d_X_listed_56 (by decide) (fun c56 => ?_) (fun c56 => ?_)
              · refine lv_iload hx hb d_X_listed_86 (lv_at hl 5 rfl) ?_
                have g56 : lisU u kk j j2 i = none := oI_m1 (fun a h => Nat.lt_trans (lis_40 hr40 i a h) (by decide)) (by rw [← ebs]; exact c56)
                exact ry_i hQ (⟨okI_of (n := 6) (by decide) hkk, okI_of (by omega) hnj, okI_of (by omega) hnj2⟩) hx hb hr hlk (rfl) (by rw [ebs, g56, show n9 = i + (n9 - i) by omega, lis_n g56]) (⟨hf, Frm.ext Ext.rf⟩) cNil (Nat.le_of_ble_eq_true rfl) (Nat.le_of_ble_eq_true rfl) d_X_listed_88
              · obtain ⟨j9, gj⟩ : ∃ a, lisU u kk j j2 i = some a := oI_no (by rw [← ebs]; exact c56)
                have hj9 : j9 < 40 := lis_40 hr40 i j9 gj
                have ej9 : bs = oI (some j9) := by rw [ebs, gj]
                subst ej9
                refine lv_aload_n hx hb d_X_listed_59 rfl (lv_at hl 0 rfl) ?_
                refine lv_iload hx hb d_X_listed_60 (lv_at hl 5 rfl) ?_
                refine lv_iload_n hx hb d_X_listed_62 rfl (lv_at hl 1 rfl) ?_
                refine lv_aload_n hx hb d_X_listed_63 rfl (lv_at hl 0 rfl) ?_
                refine rw_get hx hb hts in_X hown hK.1 hw.1 rfl 3 (by decide) (hts _ fl_X_38) rfl d_X_listed_64 ?_
                refine lv_iload_n hx hb d_X_listed_67 rfl (lv_at hl 2 rfl) ?_
                refine rw_aald hx hb hK.1 5 hw.2.2.2.1.1 rfl j (rfl) (hj) (by decide) rfl d_X_listed_68 ?_
                refine lv_aload_n hx hb d_X_listed_69 rfl (lv_at hl 0 rfl) ?_
                refine rw_get hx hb hts in_X hown hK.1 hw.1 rfl 3 (by decide) (hts _ fl_X_38) rfl d_X_listed_70 ?_
                refine lv_iload_n hx hb d_X_listed_73 rfl (lv_at hl 3 rfl) ?_
                refine rw_aald hx hb hK.1 5 hw.2.2.2.1.1 rfl j2 (rfl) (hj2) (by decide) rfl d_X_listed_74 ?_
                refine cl_i (W.runV (As := [.int (oI (some j9)), .int (nI kk), .ref (b + 56 + j), .ref (b + 56 + j2)]) (rest := []) S (c_X_bestBelow hw (up := (some j9)) (j := j) (k := j2) (fun a h => by cases h; exact hj9) (hj) (hj2) (nI kk)) (cwV 4 hts gv_X_164 rfl rfl rfl (by decide +kernel) ⟨Nat.le_of_ble_eq_true rfl, Nat.le_of_ble_eq_true rfl⟩) (cP_V (KG_ok _) hK hK.1 hw.1 rfl) rfl rfl hl.1 rfl (lv_room (Nat.le_of_ble_eq_true rfl)) d_X_listed_75 ⟨Nat.le_of_ble_eq_true rfl, Nat.le_of_ble_eq_true rfl⟩) ?_
                refine lv_istore (lv' := [(5, .int (oI (besF u.2.1 u.2.2.1 (some j9) (nI kk) (u.2.2.2 j) (u.2.2.2 j2) u.1.2.1))), (0, .ref b), (1, .int (nI kk)), (2, .int (nI j)), (3, .int (nI j2)), (4, .int (nI n9)), (6, .int (nI i))]) hx hb d_X_listed_78 hl (by decide) rfl (fun ls hl => ?_)
                refine lv_iinc (v := (nI (i + 1))) (lv' := [(6, .int (nI (i + 1))), (5, .int (oI (besF u.2.1 u.2.2.1 (some j9) (nI kk) (u.2.2.2 j) (u.2.2.2 j2) u.1.2.1))), (0, .ref b), (1, .int (nI kk)), (2, .int (nI j)), (3, .int (nI j2)), (4, .int (nI n9))]) hx hb d_X_listed_80 hl (k := 6) rfl ((nI_1 i)) (by decide) rfl (fun ls hl => ?_)
                refine lv_goto (tgt := 46) hx hb d_X_listed_83 (by decide) ?_
                exact ih (i + 1) _ ls (by rw [lis_s gj]) (by omega) (by omega) (lv_sub hl [2, 3, 4, 5, 6, 1, 0] rfl)
        exact LP _ 0 _ ls rfl (Nat.zero_le _) (Nat.lt_succ_self _) (lv_sub hl [2, 3, 4, 5, 6, 1, 0] rfl)
      · refine lv_iconst (v := (-1)) hx hb d_X_listed_21 (by decide) ?_
        exact ry_i hQ (⟨okI_of (n := 6) (by decide) hkk, okI_of (by omega) hnj, okI_of (by omega) hnj2⟩) hx hb hr hlk (rfl) (by simp [c9, c18]) (⟨hf, Frm.ext Ext.rf⟩) cNil (Nat.le_of_ble_eq_true rfl) (Nat.le_of_ble_eq_true rfl) d_X_listed_22
def rm_X_why : Room := { frames := 8, cells := 4, slots := 24, locals := 127 }
set_option maxRecDepth 100000 in
set_option maxHeartbeats 4000000 in
theorem c_X_why {l : Launch} {ev : EV} {H0 : Heap} {b : Nat} {u : XS} {kp : KT} {v : PT} (hT : l.stackTraces = false) (hf : XF ev b u kp v H0) (k x y z : Int32) : vx_Met l my_X_why mw_X_why rm_X_why (cP [.ref b, .int k, .int x, .int y, .int z] (KG ev) H0) (cQod ((okK k ∧ okI u.1.2.2.2.1 x ∧ okI u.1.2.2.2.1 y) ∧ okI u.1.2.1 z) (some (.int (whyF u (nn k) (nn x) (nn y) (nn z)))) (fun H1 => XF ev b u kp v H1 ∧ Frm b 101 H0 H1)) (cX (fun E H1 => (¬ ((okK k ∧ okI u.1.2.2.2.1 x ∧ okI u.1.2.2.2.1 y) ∧ okI u.1.2.1 z)) ∧ E = cIX ∧ XF ev b u kp v H1 ∧ Frm b 101 H0 H1)) 4 24 (inBk b (b + 101)) := by
  refine cHeadX [.ref b, .int k, .int x, .int y, .int z] (by decide) rfl (Nat.le_of_ble_eq_true rfl) ?_
  intro p e s m below meth c ls args QQ hQ htab S hr hlk hnm hs hK hl
  have S : CallFix p m c mb_X_why 7 s args TB "RuleChoice" := S
  obtain ⟨hx, hb, hml, hown, hts⟩ := id S
  obtain ⟨hw, ⟨sl, hkp, hn⟩, hp, hO, hz⟩ := id hf
  have hold := hO
  have ht40 : u.1.2.2.2.1 ≤ 40 := hw.2.2.2.2.2.2.1
  have hr40 : u.1.2.1 ≤ 40 := hw.2.2.2.2.1
  have ha12 : u.1.2.2.1 ≤ 12 := hw.2.2.2.2.2.1
  have hl : lv_has ls 7 [(0, .ref b), (1, .int k), (2, .int x), (3, .int y), (4, .int z)] := hl
  refine lv_aload_n hx hb d_X_why_0 rfl (lv_at hl 0 rfl) ?_
  refine lv_iload_n hx hb d_X_why_1 rfl (lv_at hl 1 rfl) ?_
  refine lv_iload_n hx hb d_X_why_2 rfl (lv_at hl 2 rfl) ?_
  refine lv_iload_n hx hb d_X_why_3 rfl (lv_at hl 3 rfl) ?_
  refine cx_v (vx_runV (As := [.int k, .int x, .int y]) (rest := []) S (c_X_needKindAndThings hT hold hw k x y) (cwV 3 hts gv_X_152 rfl rfl rfl (by decide +kernel) ⟨Nat.le_of_ble_eq_true rfl, Nat.le_of_ble_eq_true rfl⟩) (cP_V (KG_ok _) hK hK.1 hw.1 rfl) rfl rfl hl.1 rfl (lv_room (Nat.le_of_ble_eq_true rfl)) d_X_why_4 ⟨Nat.le_of_ble_eq_true rfl, Nat.le_of_ble_eq_true rfl⟩) (A := inBk b (b + 101)) cNil (fun E1 H2 ce3 q4 L5 hp6 hL7 h8 h9 h10 => ?_) (fun k11 => ?_)
  · exact cx_out hQ htab hlk h8 h9 h10 (⟨fun h => hp6.1 h.1, hp6.2.1, XF_ext hf hp6.2.2, Frm.ext hp6.2.2⟩) hL7 (Nat.le_of_ble_eq_true rfl) (Nat.le_of_ble_eq_true rfl)
  · refine lv_aload_n hx hb d_X_why_7 rfl (lv_at hl 0 rfl) ?_
    refine lv_iload hx hb d_X_why_8 (lv_at hl 4 rfl) ?_
    refine cx_v (vx_runV (As := [.int z]) (rest := []) S (c_X_needRule hT hold hw z) (cwV 1 hts gv_X_81 rfl rfl rfl (by decide +kernel) ⟨Nat.le_of_ble_eq_true rfl, Nat.le_of_ble_eq_true rfl⟩) (cP_V (KG_ok _) hK hK.1 hw.1 rfl) rfl rfl hl.1 rfl (lv_room (Nat.le_of_ble_eq_true rfl)) d_X_why_10 ⟨Nat.le_of_ble_eq_true rfl, Nat.le_of_ble_eq_true rfl⟩) (A := inBk b (b + 101)) cNil (fun E12 H13 ce14 q15 L16 hp17 hL18 h19 h20 h21 => ?_) (fun k22 => ?_)
    · exact cx_out hQ htab hlk h19 h20 h21 (⟨fun h => hp17.1 h.2, hp17.2.1, XF_ext hf hp17.2.2, Frm.ext hp17.2.2⟩) hL18 (Nat.le_of_ble_eq_true rfl) (Nat.le_of_ble_eq_true rfl)
    · obtain ⟨kk, hkk, rfl⟩ := okK_ix k11.1
      obtain ⟨j, hnj, hj, rfl⟩ := okIdx hw.2.2.2.2.2.2.1 k11.2.1
      obtain ⟨j2, hnj2, hj2, rfl⟩ := okIdx hw.2.2.2.2.2.2.1 k11.2.2
      obtain ⟨i, hni, hi, rfl⟩ := okIdx hw.2.2.2.2.1 k22
      simp only [nn_nI (i := kk) (by omega), nn_nI (i := j) (by omega), nn_nI (i := j2) (by omega), nn_nI (i := i) (by omega)] at hQ
      refine lv_aload_n hx hb d_X_why_13 rfl (lv_at hl 0 rfl) ?_
      refine lv_aload_n hx hb d_X_why_14 rfl (lv_at hl 0 rfl) ?_
      refine rw_get hx hb hts in_X hown hK.1 hw.1 rfl 1 (by decide) (hts _ fl_X_24) rfl d_X_why_15 ?_
      refine lv_iload hx hb d_X_why_18 (lv_at hl 4 rfl) ?_
      refine rw_aald hx hb hK.1 3 hw.2.1.1 rfl i (rfl) (hi) (by decide) rfl d_X_why_20 ?_
      refine lv_iload_n hx hb d_X_why_21 rfl (lv_at hl 1 rfl) ?_
      refine lv_aload_n hx hb d_X_why_22 rfl (lv_at hl 0 rfl) ?_
      refine rw_get hx hb hts in_X hown hK.1 hw.1 rfl 3 (by decide) (hts _ fl_X_38) rfl d_X_why_23 ?_
      refine lv_iload_n hx hb d_X_why_26 rfl (lv_at hl 2 rfl) ?_
      refine rw_aald hx hb hK.1 5 hw.2.2.2.1.1 rfl j (rfl) (hj) (by decide) rfl d_X_why_27 ?_
      refine lv_aload_n hx hb d_X_why_28 rfl (lv_at hl 0 rfl) ?_
      refine rw_get hx hb hts in_X hown hK.1 hw.1 rfl 3 (by decide) (hts _ fl_X_38) rfl d_X_why_29 ?_
      refine lv_iload_n hx hb d_X_why_32 rfl (lv_at hl 3 rfl) ?_
      refine rw_aald hx hb hK.1 5 hw.2.2.2.1.1 rfl j2 (rfl) (hj2) (by decide) rfl d_X_why_33 ?_
      refine cl_i (W.runV (As := [.ref (b + 2 + i), .int (nI kk), .ref (b + 56 + j), .ref (b + 56 + j2)]) (rest := []) S (c_X_hindrance hw (i := i) (j := j) (k := j2) (hi) (hj) (hj2) (nI kk)) (cwV 4 hts gv_X_168 rfl rfl rfl (by decide +kernel) ⟨Nat.le_of_ble_eq_true rfl, Nat.le_of_ble_eq_true rfl⟩) (cP_V (KG_ok _) hK hK.1 hw.1 rfl) rfl rfl hl.1 rfl (lv_room (Nat.le_of_ble_eq_true rfl)) d_X_why_34 ⟨Nat.le_of_ble_eq_true rfl, Nat.le_of_ble_eq_true rfl⟩) ?_
      refine lv_istore (lv' := [(5, .int (hindF u.2.2.1 (u.2.1 i) (nI kk) (u.2.2.2 j) (u.2.2.2 j2))), (0, .ref b), (1, .int (nI kk)), (2, .int (nI j)), (3, .int (nI j2)), (4, .int (nI i))]) hx hb d_X_why_37 hl (by decide) rfl (fun ls hl => ?_)
      refine lv_iload hx hb d_X_why_39 (lv_at hl 0 rfl) ?_
      refine lv_if_eq (tgt := 47) hx hb d_X_why_41 (by decide) (fun c41 => ?_) (fun c41 => ?_)
      · refine lv_aload_n hx hb d_X_why_47 rfl (lv_at hl 1 rfl) ?_
        refine lv_iconst (v := (-1)) hx hb d_X_why_48 (by decide) ?_
        refine lv_iload_n hx hb d_X_why_49 rfl (lv_at hl 2 rfl) ?_
        refine lv_aload_n hx hb d_X_why_50 rfl (lv_at hl 1 rfl) ?_
        refine rw_get hx hb hts in_X hown hK.1 hw.1 rfl 3 (by decide) (hts _ fl_X_38) rfl d_X_why_51 ?_
        refine lv_iload_n hx hb d_X_why_54 rfl (lv_at hl 3 rfl) ?_
        refine rw_aald hx hb hK.1 5 hw.2.2.2.1.1 rfl j (rfl) (hj) (by decide) rfl d_X_why_55 ?_
        refine lv_aload_n hx hb d_X_why_56 rfl (lv_at hl 1 rfl) ?_
        refine rw_get hx hb hts in_X hown hK.1 hw.1 rfl 3 (by decide) (hts _ fl_X_38) rfl d_X_why_57 ?_
        refine lv_iload_n hx hb d_X_why_60 rfl (lv_at hl 4 rfl) ?_
        refine rw_aald hx hb hK.1 5 hw.2.2.2.1.1 rfl j2 (rfl) (hj2) (by decide) rfl d_X_why_61 ?_
        refine cl_i (W.runV (As := [.int (-1), .int (nI kk), .ref (b + 56 + j), .ref (b + 56 + j2)]) (rest := []) S (c_X_bestBelow hw (up := none) (j := j) (k := j2) (fun _ h => by cases h) (hj) (hj2) (nI kk)) (cwV 4 hts gv_X_164 rfl rfl rfl (by decide +kernel) ⟨Nat.le_of_ble_eq_true rfl, Nat.le_of_ble_eq_true rfl⟩) (cP_V (KG_ok _) hK hK.1 hw.1 rfl) rfl rfl hl.1 rfl (lv_room (Nat.le_of_ble_eq_true rfl)) d_X_why_62 ⟨Nat.le_of_ble_eq_true rfl, Nat.le_of_ble_eq_true rfl⟩) ?_
        refine lv_istore (lv' := [(6, .int (oI (besF u.2.1 u.2.2.1 none (nI kk) (u.2.2.2 j) (u.2.2.2 j2) u.1.2.1))), (5, .int (hindF u.2.2.1 (u.2.1 i) (nI kk) (u.2.2.2 j) (u.2.2.2 j2))), (0, .ref b), (1, .int (nI kk)), (2, .int (nI j)), (3, .int (nI j2)), (4, .int (nI i))]) hx hb d_X_why_65 hl (by decide) rfl (fun ls hl => ?_)
        refine lv_iload hx hb d_X_why_67 (lv_at hl 0 rfl) ?_
        refine lv_iconst (v := (-1)) hx hb d_X_why_69 (by decide) ?_
        refine lv_icmp_eq (tgt := 80) hx hb d_X_why_70 (by decide) (fun c70 => ?_) (fun c70 => ?_)
        · refine lv_iconst (v := 0) hx hb d_X_why_80 (by decide) ?_
          have gb : besU u kk j j2 = none := oI_m1 (fun a h => Nat.lt_trans (besF_40 hr40 a h) (by decide)) c70
          exact ry_i hQ (⟨⟨okI_of (n := 6) (by decide) hkk, okI_of (by omega) hnj, okI_of (by omega) hnj2⟩, okI_of (by omega) hni⟩) hx hb hr hlk (rfl) (by unfold whyF; rw [if_pos c41, gb]) (⟨hf, Frm.ext Ext.rf⟩) cNil (Nat.le_of_ble_eq_true rfl) (Nat.le_of_ble_eq_true rfl) d_X_why_81
        · obtain ⟨b9, gb⟩ : ∃ a, besU u kk j j2 = some a := oI_no c70
          have hb9 : b9 < 40 := besF_40 hr40 b9 gb
          refine lv_iload hx hb d_X_why_73 (lv_at hl 0 rfl) ?_
          refine lv_iload hx hb d_X_why_75 (lv_at hl 6 rfl) ?_
          refine lv_icmp_ne (tgt := 82) hx hb d_X_why_77 (by decide) (fun c77 => ?_) (fun c77 => ?_)
          · refine lv_aload_n hx hb d_X_why_82 rfl (lv_at hl 2 rfl) ?_
            refine rw_get hx hb hts in_X hown hK.1 hw.1 rfl 1 (by decide) (hts _ fl_X_24) rfl d_X_why_83 ?_
            refine lv_iload hx hb d_X_why_86 (lv_at hl 6 rfl) ?_
            refine rw_aald hx hb hK.1 3 hw.2.1.1 rfl i (rfl) (hi) (by decide) rfl d_X_why_88 ?_
            refine rw_get hx hb hts in_R hown hK.1 (hw.2.1.2 i (hi)) rfl 5 (by decide) (hts _ fl_X_87) rfl d_X_why_89 ?_
            refine lv_aload_n hx hb d_X_why_92 rfl (lv_at hl 2 rfl) ?_
            refine rw_get hx hb hts in_X hown hK.1 hw.1 rfl 1 (by decide) (hts _ fl_X_24) rfl d_X_why_93 ?_
            refine lv_iload hx hb d_X_why_96 (lv_at hl 0 rfl) ?_
            refine rw_aald hx hb hK.1 3 hw.2.1.1 rfl b9 (by show oI (besU u kk j j2) = _; rw [gb]; rfl) (hb9) (by decide) rfl d_X_why_98 ?_
            refine rw_get hx hb hts in_R hown hK.1 (hw.2.1.2 b9 (hb9)) rfl 5 (by decide) (hts _ fl_X_87) rfl d_X_why_99 ?_
            refine lv_icmp_ge (tgt := 109) hx hb d_X_why_102 (by decide) (fun c102 => ?_) (fun c102 => ?_)
            · refine lv_bipush (v := 6) hx hb d_X_why_109 (by decide) ?_
              have e77 : ¬ b9 = i := fun q => c77 ((show oI (besU u kk j j2) = nI b9 by rw [gb]; rfl).trans (by rw [q]))
              exact ry_i hQ (⟨⟨okI_of (n := 6) (by decide) hkk, okI_of (by omega) hnj, okI_of (by omega) hnj2⟩, okI_of (by omega) hni⟩) hx hb hr hlk (rfl) (by unfold whyF; rw [if_pos c41, gb]; simp [e77, c102, Int32.not_lt.mpr c102]) (⟨hf, Frm.ext Ext.rf⟩) cNil (Nat.le_of_ble_eq_true rfl) (Nat.le_of_ble_eq_true rfl) d_X_why_111
            · refine lv_iconst (v := 5) hx hb d_X_why_105 (by decide) ?_
              refine lv_goto (tgt := 111) hx hb d_X_why_106 (by decide) ?_
              have e77 : ¬ b9 = i := fun q => c77 ((show oI (besU u kk j j2) = nI b9 by rw [gb]; rfl).trans (by rw [q]))
              exact ry_i hQ (⟨⟨okI_of (n := 6) (by decide) hkk, okI_of (by omega) hnj, okI_of (by omega) hnj2⟩, okI_of (by omega) hni⟩) hx hb hr hlk (rfl) (by unfold whyF; rw [if_pos c41, gb]; simp [e77, c102, Int32.not_le.mp c102]) (⟨hf, Frm.ext Ext.rf⟩) cNil (Nat.le_of_ble_eq_true rfl) (Nat.le_of_ble_eq_true rfl) d_X_why_111
          · refine lv_iconst (v := 0) hx hb d_X_why_80 (by decide) ?_
            have e77 : b9 = i := (nI_eq (by omega) (by omega)).mp ((show oI (besU u kk j j2) = nI b9 by rw [gb]; rfl).symm.trans c77)
            exact ry_i hQ (⟨⟨okI_of (n := 6) (by decide) hkk, okI_of (by omega) hnj, okI_of (by omega) hnj2⟩, okI_of (by omega) hni⟩) hx hb hr hlk (rfl) (by unfold whyF; rw [if_pos c41, gb]; simp [e77]) (⟨hf, Frm.ext Ext.rf⟩) cNil (Nat.le_of_ble_eq_true rfl) (Nat.le_of_ble_eq_true rfl) d_X_why_81
      · refine lv_iload hx hb d_X_why_44 (lv_at hl 0 rfl) ?_
        exact ry_i hQ (⟨⟨okI_of (n := 6) (by decide) hkk, okI_of (by omega) hnj, okI_of (by omega) hnj2⟩, okI_of (by omega) hni⟩) hx hb hr hlk (rfl) (by unfold whyF; rw [if_neg c41]) (⟨hf, Frm.ext Ext.rf⟩) cNil (Nat.le_of_ble_eq_true rfl) (Nat.le_of_ble_eq_true rfl) d_X_why_46
def rm_X_greatest : Room := { frames := 7, cells := 2, slots := 12, locals := 104 }
set_option maxRecDepth 100000 in
set_option maxHeartbeats 4000000 in
theorem c_X_greatest {l : Launch} {ev : EV} {H0 : Heap} {b : Nat} {u : XS} {kp : KT} {v : PT} (hT : l.stackTraces = false) (hf : XF ev b u kp v H0) (k la : Int32) : vx_Met l my_X_greatest mw_X_greatest rm_X_greatest (cP [.ref b, .int k, .int la] (KG ev) H0) (cQod (okK k ∧ okL la) (some (.long (grtF u k la u.1.2.1))) (fun H1 => XF ev b u kp v H1 ∧ Frm b 101 H0 H1)) (cX (fun E H1 => (¬ (okK k ∧ okL la)) ∧ E = cIX ∧ XF ev b u kp v H1 ∧ Frm b 101 H0 H1)) 2 12 (inBk b (b + 101)) := by
  refine cHeadX [.ref b, .int k, .int la] (by decide) rfl (Nat.le_of_ble_eq_true rfl) ?_
  intro p e s m below meth c ls args QQ hQ htab S hr hlk hnm hs hK hl
  have S : CallFix p m c mb_X_greatest 6 s args TB "RuleChoice" := S
  obtain ⟨hx, hb, hml, hown, hts⟩ := id S
  obtain ⟨hw, ⟨sl, hkp, hn⟩, hp, hO, hz⟩ := id hf
  have hold := hO
  have ht40 : u.1.2.2.2.1 ≤ 40 := hw.2.2.2.2.2.2.1
  have hr40 : u.1.2.1 ≤ 40 := hw.2.2.2.2.1
  have ha12 : u.1.2.2.1 ≤ 12 := hw.2.2.2.2.2.1
  have hl : lv_has ls 6 [(0, .ref b), (1, .int k), (2, .int la)] := hl
  refine lv_aload_n hx hb d_X_greatest_0 rfl (lv_at hl 0 rfl) ?_
  refine lv_iload_n hx hb d_X_greatest_1 rfl (lv_at hl 1 rfl) ?_
  refine cx_v (vx_runV (As := [.int k]) (rest := []) S (c_X_needKind hT hold k) (cwV 1 hts gv_X_57 rfl rfl rfl (by decide +kernel) ⟨Nat.le_of_ble_eq_true rfl, Nat.le_of_ble_eq_true rfl⟩) (cP_V (KG_ok _) hK hK.1 hw.1 rfl) rfl rfl hl.1 rfl (lv_room (Nat.le_of_ble_eq_true rfl)) d_X_greatest_2 ⟨Nat.le_of_ble_eq_true rfl, Nat.le_of_ble_eq_true rfl⟩) (A := inBk b (b + 101)) cNil (fun E1 H2 ce3 q4 L5 hp6 hL7 h8 h9 h10 => ?_) (fun k11 => ?_)
  · exact cx_out hQ htab hlk h8 h9 h10 (⟨fun h => hp6.1 h.1, hp6.2.1, XF_ext hf hp6.2.2, Frm.ext hp6.2.2⟩) hL7 (Nat.le_of_ble_eq_true rfl) (Nat.le_of_ble_eq_true rfl)
  · refine lv_aload_n hx hb d_X_greatest_5 rfl (lv_at hl 0 rfl) ?_
    refine lv_iload_n hx hb d_X_greatest_6 rfl (lv_at hl 2 rfl) ?_
    refine cx_v (vx_runV (As := [.int la]) (rest := []) S (c_X_needLayer hT hold la) (cwV 1 hts gv_X_116 rfl rfl rfl (by decide +kernel) ⟨Nat.le_of_ble_eq_true rfl, Nat.le_of_ble_eq_true rfl⟩) (cP_V (KG_ok _) hK hK.1 hw.1 rfl) rfl rfl hl.1 rfl (lv_room (Nat.le_of_ble_eq_true rfl)) d_X_greatest_7 ⟨Nat.le_of_ble_eq_true rfl, Nat.le_of_ble_eq_true rfl⟩) (A := inBk b (b + 101)) cNil (fun E12 H13 ce14 q15 L16 hp17 hL18 h19 h20 h21 => ?_) (fun k22 => ?_)
    · exact cx_out hQ htab hlk h19 h20 h21 (⟨fun h => hp17.1 h.2, hp17.2.1, XF_ext hf hp17.2.2, Frm.ext hp17.2.2⟩) hL18 (Nat.le_of_ble_eq_true rfl) (Nat.le_of_ble_eq_true rfl)
    · refine lv_ldc2 (v := (-1)) hx hb hown (hts _ kl_X_172) d_X_greatest_10 ?_
      refine lv_lstore_n (lv' := [(3, .long (-1)), (0, .ref b), (1, .int k), (2, .int la)]) hx hb d_X_greatest_13 rfl hl (by decide) rfl (fun ls hl => ?_)
      refine lv_iconst (v := 0) hx hb d_X_greatest_14 (by decide) ?_
      refine lv_istore (lv' := [(5, .int 0), (3, .long (-1)), (0, .ref b), (1, .int k), (2, .int la)]) hx hb d_X_greatest_15 hl (by decide) rfl (fun ls hl => ?_)
      have LP : ∀ (n i : Nat) (bs : Int64) (ls : Array Slot), bs = grtF u k la i → i ≤ u.1.2.1 → u.1.2.1 - i < n → lv_has ls 6 [(0, .ref b), (1, .int k), (2, .int la), (3, .long bs), (5, .int (nI i))] → W p l e rm_X_greatest s m args below meth c H0 [] (0 + 1 + 1) (0 + 6 + 6) QQ (F0 m 17 ls []) := by
        intro n
        induction n with
        | zero => intro i bs ls h1 h2 h3; exact absurd h3 (by omega)
        | succ n ih =>
          intro i bs ls ebs hle hlt9 hl
          refine lv_iload hx hb d_X_greatest_17 (lv_at hl 4 rfl) ?_
          refine lv_aload_n hx hb d_X_greatest_19 rfl (lv_at hl 0 rfl) ?_
          refine rw_get hx hb hts in_X hown hK.1 hw.1 rfl 6 (by decide) (hts _ fl_X_71) rfl d_X_greatest_20 ?_
          refine lv_icmp_ge (tgt := 75) hx hb d_X_greatest_23 (by decide) (fun c23 => ?_) (fun c23 => ?_)
          · refine lv_lload_n hx hb d_X_greatest_75 rfl (lv_at hl 3 rfl) ?_
            exact ry_l hQ (⟨k11, k22⟩) hx hb hr hlk (by rw [ebs]; congr 1; exact Nat.le_antisymm hle (Nat.not_lt.mp (fun h => absurd c23 (nI_ge h (by omega))))) (⟨hf, Frm.ext Ext.rf⟩) cNil (Nat.le_of_ble_eq_true rfl) (Nat.le_of_ble_eq_true rfl) d_X_greatest_76
          · have hlt : i < u.1.2.1 := Nat.not_le.mp (fun h => c23 (nI_le h (by omega)))
            have h40 : i < 40 := by omega
            refine lv_aload_n hx hb d_X_greatest_26 rfl (lv_at hl 0 rfl) ?_
            refine rw_get hx hb hts in_X hown hK.1 hw.1 rfl 1 (by decide) (hts _ fl_X_24) rfl d_X_greatest_27 ?_
            refine lv_iload hx hb d_X_greatest_30 (lv_at hl 4 rfl) ?_
            refine rw_aald hx hb hK.1 3 hw.2.1.1 rfl i (rfl) (h40) (by decide) rfl d_X_greatest_32 ?_
            refine rw_get hx hb hts in_R hown hK.1 (hw.2.1.2 i (h40)) rfl 0 (by decide) (hts _ fl_X_90) rfl d_X_greatest_33 ?_
            refine lv_iload_n hx hb d_X_greatest_36 rfl (lv_at hl 1 rfl) ?_
            refine lv_icmp_ne (tgt := 69) hx hb d_X_greatest_37 (by decide) (fun c37 => ?_) (fun c37 => ?_)
            · refine lv_iinc (v := (nI (i + 1))) (lv' := [(5, .int (nI (i + 1))), (0, .ref b), (1, .int k), (2, .int la), (3, .long bs)]) hx hb d_X_greatest_69 hl (k := 4) rfl ((nI_1 i)) (by decide) rfl (fun ls hl => ?_)
              refine lv_goto (tgt := 17) hx hb d_X_greatest_72 (by decide) ?_
              exact ih (i + 1) _ ls (by rw [grtF, if_neg (fun h => c37 h.1)]; exact ebs) (by omega) (by omega) (lv_sub hl [1, 2, 3, 4, 0] rfl)
            · refine lv_aload_n hx hb d_X_greatest_40 rfl (lv_at hl 0 rfl) ?_
              refine rw_get hx hb hts in_X hown hK.1 hw.1 rfl 1 (by decide) (hts _ fl_X_24) rfl d_X_greatest_41 ?_
              refine lv_iload hx hb d_X_greatest_44 (lv_at hl 4 rfl) ?_
              refine rw_aald hx hb hK.1 3 hw.2.1.1 rfl i (rfl) (h40) (by decide) rfl d_X_greatest_46 ?_
              refine lv_iload_n hx hb d_X_greatest_47 rfl (lv_at hl 2 rfl) ?_
              refine cl_i (W.runV (As := [.int la]) (rest := []) S (c_R_isForLayer (hw.2.1.2 i (h40)) la) (cwV 1 hts gv_X_174 rfl rfl rfl (by decide +kernel) ⟨Nat.le_of_ble_eq_true rfl, Nat.le_of_ble_eq_true rfl⟩) (cP_V (KG_ok _) hK hK.1 (hw.2.1.2 i (h40)) rfl) rfl rfl hl.1 rfl (lv_room (Nat.le_of_ble_eq_true rfl)) d_X_greatest_48 ⟨Nat.le_of_ble_eq_true rfl, Nat.le_of_ble_eq_true rfl⟩) ?_
              refine lv_if_eq (tgt := 69) hx hb d_X_greatest_51 (by decide) (fun c51 => ?_) (fun c51 => ?_)
              · refine lv_iinc (v := (nI (i + 1))) (lv' := [(5, .int (nI (i + 1))), (0, .ref b), (1, .int k), (2, .int la), (3, .long bs)]) hx hb d_X_greatest_69 hl (k := 4) rfl ((nI_1 i)) (by decide) rfl (fun ls hl => ?_)
                refine lv_goto (tgt := 17) hx hb d_X_greatest_72 (by decide) ?_
                exact ih (i + 1) _ ls (by rw [grtF, if_neg (fun h => by rw [(bI_eq _).mp c51] at h; exact absurd h.2 (by decide))]; exact ebs) (by omega) (by omega) (lv_sub hl [1, 2, 3, 4, 0] rfl)
              · refine lv_lload_n hx hb d_X_greatest_54 rfl (lv_at hl 3 rfl) ?_
                refine lv_aload_n hx hb d_X_greatest_55 rfl (lv_at hl 0 rfl) ?_
                refine rw_get hx hb hts in_X hown hK.1 hw.1 rfl 1 (by decide) (hts _ fl_X_24) rfl d_X_greatest_56 ?_
                refine lv_iload hx hb d_X_greatest_59 (lv_at hl 4 rfl) ?_
                refine rw_aald hx hb hK.1 3 hw.2.1.1 rfl i (rfl) (h40) (by decide) rfl d_X_greatest_61 ?_
                refine rw_get hx hb hts in_R hown hK.1 (hw.2.1.2 i (h40)) rfl 4 (by decide) (hts _ fl_X_178) rfl d_X_greatest_62 ?_
                refine va_mmax_long hx hb (hml.trans hl.1.symm) hown (hts _ ml_X_181) (hts _ st_maxl) (hts _ iz_Math) (hts _ in_maxl) (Nat.le_of_ble_eq_true rfl) (Nat.le_of_ble_eq_true rfl) (Nat.le_of_ble_eq_true rfl) (Nat.le_of_ble_eq_true rfl) d_X_greatest_65 ?_
                refine lv_lstore_n (lv' := [(3, .long (if (u.2.1 i).2.2.2.2.1 < bs then bs else (u.2.1 i).2.2.2.2.1)), (0, .ref b), (1, .int k), (2, .int la), (5, .int (nI i))]) hx hb d_X_greatest_68 rfl hl (by decide) rfl (fun ls hl => ?_)
                refine lv_iinc (v := (nI (i + 1))) (lv' := [(5, .int (nI (i + 1))), (3, .long (if (u.2.1 i).2.2.2.2.1 < bs then bs else (u.2.1 i).2.2.2.2.1)), (0, .ref b), (1, .int k), (2, .int la)]) hx hb d_X_greatest_69 hl (k := 4) rfl ((nI_1 i)) (by decide) rfl (fun ls hl => ?_)
                refine lv_goto (tgt := 17) hx hb d_X_greatest_72 (by decide) ?_
                exact ih (i + 1) _ ls (by rw [grt_y c37 ((bI_ne _).mp c51), ebs]) (by omega) (by omega) (lv_sub hl [2, 3, 4, 1, 0] rfl)
      exact LP _ 0 _ ls rfl (Nat.zero_le _) (Nat.lt_succ_self _) (lv_sub hl [2, 3, 4, 1, 0] rfl)
def rm_X_pair : Room := { frames := 7, cells := 1, slots := 6, locals := 104 }
set_option maxRecDepth 100000 in
set_option maxHeartbeats 4000000 in
theorem c_X_pair {l : Launch} {ev : EV} {H0 : Heap} {b : Nat} {u : XS} {kp : KT} {v : PT} (hT : l.stackTraces = false) (hf : XF ev b u kp v H0) (k z : Int32) : vx_Met l my_X_pair mw_X_pair rm_X_pair (cP [.ref b, .int k, .int z] (KG ev) H0) (cQod (okS z) (some (.int (if k < 0 then -1 else if k < nI v.1 then (if z = 0 then v.2.1 (nn k) else v.2.2 (nn k)) else -1))) (fun H1 => XF ev b u kp v H1 ∧ Frm b 101 H0 H1)) (cX (fun E H1 => (¬ okS z) ∧ E = cIX ∧ XF ev b u kp v H1 ∧ Frm b 101 H0 H1)) 1 6 (inBk b (b + 101)) := by
  refine cHeadX [.ref b, .int k, .int z] (by decide) rfl (Nat.le_of_ble_eq_true rfl) ?_
  intro p e s m below meth c ls args QQ hQ htab S hr hlk hnm hs hK hl
  have S : CallFix p m c mb_X_pair 3 s args TB "RuleChoice" := S
  obtain ⟨hx, hb, hml, hown, hts⟩ := id S
  obtain ⟨hw, ⟨sl, hkp, hn⟩, hp, hO, hz⟩ := id hf
  have hold := hO
  have ht40 : u.1.2.2.2.1 ≤ 40 := hw.2.2.2.2.2.2.1
  have hr40 : u.1.2.1 ≤ 40 := hw.2.2.2.2.1
  have ha12 : u.1.2.2.1 ≤ 12 := hw.2.2.2.2.2.1
  have hl : lv_has ls 3 [(0, .ref b), (1, .int k), (2, .int z)] := hl
  refine lv_aload_n hx hb d_X_pair_0 rfl (lv_at hl 0 rfl) ?_
  refine lv_iload_n hx hb d_X_pair_1 rfl (lv_at hl 2 rfl) ?_
  refine cx_v (vx_runV (As := [.int z]) (rest := []) S (c_X_needSide hT hold z) (cwV 1 hts gv_X_197 rfl rfl rfl (by decide +kernel) ⟨Nat.le_of_ble_eq_true rfl, Nat.le_of_ble_eq_true rfl⟩) (cP_V (KG_ok _) hK hK.1 hw.1 rfl) rfl rfl hl.1 rfl (lv_room (Nat.le_of_ble_eq_true rfl)) d_X_pair_2 ⟨Nat.le_of_ble_eq_true rfl, Nat.le_of_ble_eq_true rfl⟩) (A := inBk b (b + 101)) cNil (fun E1 H2 ce3 q4 L5 hp6 hL7 h8 h9 h10 => ?_) (fun k11 => ?_)
  · exact cx_out hQ htab hlk h8 h9 h10 (⟨hp6.1, hp6.2.1, XF_ext hf hp6.2.2, Frm.ext hp6.2.2⟩) hL7 (Nat.le_of_ble_eq_true rfl) (Nat.le_of_ble_eq_true rfl)
  · refine lv_iload_n hx hb d_X_pair_5 rfl (lv_at hl 1 rfl) ?_
    refine lv_if_lt (tgt := 20) hx hb d_X_pair_6 (by decide) (fun c6 => ?_) (fun c6 => ?_)
    · refine lv_iconst (v := (-1)) hx hb d_X_pair_20 (by decide) ?_
      exact ry_i hQ (k11) hx hb hr hlk (rfl) (by simp [c6]) (⟨hf, Frm.ext Ext.rf⟩) cNil (Nat.le_of_ble_eq_true rfl) (Nat.le_of_ble_eq_true rfl) d_X_pair_21
    · refine lv_iload_n hx hb d_X_pair_9 rfl (lv_at hl 1 rfl) ?_
      refine lv_aload_n hx hb d_X_pair_10 rfl (lv_at hl 0 rfl) ?_
      refine rw_get hx hb hts in_X hown hK.1 hw.1 rfl 5 (by decide) (hts _ fl_X_53) rfl d_X_pair_11 ?_
      refine rw_get hx hb hts in_P hown hK.1 hp.1 rfl 2 (by decide) (hts _ fl_X_194) rfl d_X_pair_14 ?_
      refine lv_icmp_lt (tgt := 22) hx hb d_X_pair_17 (by decide) (fun c17 => ?_) (fun c17 => ?_)
      · obtain ⟨i, hi, rfl⟩ := okI_ix (Nat.lt_of_le_of_lt hp.2.2.2 (by decide)) ⟨c6, c17⟩
        have hi780 : i < 780 := Nat.lt_of_lt_of_le hi hp.2.2.2
        simp only [nn_nI (i := i) (by omega), if_neg c6, if_pos c17] at hQ
        refine lv_iload_n hx hb d_X_pair_22 rfl (lv_at hl 2 rfl) ?_
        refine lv_if_ne (tgt := 38) hx hb d_X_pair_23 (by decide) (fun c23 => ?_) (fun c23 => ?_)
        · refine lv_aload_n hx hb d_X_pair_38 rfl (lv_at hl 0 rfl) ?_
          refine rw_get hx hb hts in_X hown hK.1 hw.1 rfl 5 (by decide) (hts _ fl_X_53) rfl d_X_pair_39 ?_
          refine rw_get hx hb hts in_P hown hK.1 hp.1 rfl 1 (by decide) (hts _ fl_X_204) rfl d_X_pair_42 ?_
          refine lv_iload_n hx hb d_X_pair_45 rfl (lv_at hl 1 rfl) ?_
          refine rw_iald hx hb hK.1 0 hp.2.2.1 rfl i (rfl) (hi780) (by decide) d_X_pair_46 ?_
          exact ry_i hQ (k11) hx hb hr hlk (rfl) (by rw [if_neg c23]) (⟨hf, Frm.ext Ext.rf⟩) cNil (Nat.le_of_ble_eq_true rfl) (Nat.le_of_ble_eq_true rfl) d_X_pair_47
        · refine lv_aload_n hx hb d_X_pair_26 rfl (lv_at hl 0 rfl) ?_
          refine rw_get hx hb hts in_X hown hK.1 hw.1 rfl 5 (by decide) (hts _ fl_X_53) rfl d_X_pair_27 ?_
          refine rw_get hx hb hts in_P hown hK.1 hp.1 rfl 0 (by decide) (hts _ fl_X_200) rfl d_X_pair_30 ?_
          refine lv_iload_n hx hb d_X_pair_33 rfl (lv_at hl 1 rfl) ?_
          refine rw_iald hx hb hK.1 0 hp.2.1 rfl i (rfl) (hi780) (by decide) d_X_pair_34 ?_
          refine lv_goto (tgt := 47) hx hb d_X_pair_35 (by decide) ?_
          exact ry_i hQ (k11) hx hb hr hlk (rfl) (by rw [if_pos c23]) (⟨hf, Frm.ext Ext.rf⟩) cNil (Nat.le_of_ble_eq_true rfl) (Nat.le_of_ble_eq_true rfl) d_X_pair_47
      · refine lv_iconst (v := (-1)) hx hb d_X_pair_20 (by decide) ?_
        exact ry_i hQ (k11) hx hb hr hlk (rfl) (by simp [c6, c17]) (⟨hf, Frm.ext Ext.rf⟩) cNil (Nat.le_of_ble_eq_true rfl) (Nat.le_of_ble_eq_true rfl) d_X_pair_21
def rm_X_kept : Room := { frames := 0, cells := 0, slots := 0, locals := 0 }
set_option maxRecDepth 100000 in
set_option maxHeartbeats 4000000 in
theorem c_X_kept {l : Launch} {ev : EV} {H0 : Heap} {b : Nat} {u : XS} {kp : KT} {v : PT} (hf : XF ev b u kp v H0) : Met l my_X_kept mw_X_kept rm_X_kept (cP [.ref b] (KG ev) H0) (cQp (some (.int (nI (kcF kp))))) 0 0 cNo := by
  refine cHead [.ref b] (by decide) rfl (Nat.le_of_ble_eq_true rfl) ?_
  intro p e s m below meth c ls args QQ hQ S hr hlk hnm hs hK hl
  have S : CallFix p m c mb_X_kept 1 s args TB "RuleChoice" := S
  obtain ⟨hx, hb, hml, hown, hts⟩ := id S
  obtain ⟨hw, ⟨sl, hkp, hn⟩, hp, hO, hz⟩ := id hf
  have hl : lv_has ls 1 [(0, .ref b)] := hl
  refine lv_aload_n hx hb d_X_kept_0 rfl (lv_at hl 0 rfl) ?_
  refine rw_get hx hb hts in_X hown hK.1 hw.1 rfl 4 (by decide) (hts _ fl_X_46) rfl d_X_kept_1 ?_
  refine rw_get hx hb hts in_N hown hK.1 hn.1 rfl 1 (by decide) (hts _ fl_X_207) rfl d_X_kept_4 ?_
  exact rt_i hQ hx hb hr hlk hs (rfl) (by rw [kc_eq hw.2.2.2.2.1 hkp]) d_X_kept_7
def rm_X_spared : Room := { frames := 0, cells := 0, slots := 0, locals := 0 }
set_option maxRecDepth 100000 in
set_option maxHeartbeats 4000000 in
theorem c_X_spared {l : Launch} {ev : EV} {H0 : Heap} {b : Nat} {u : XS} {kp : KT} {v : PT} (hf : XF ev b u kp v H0) : Met l my_X_spared mw_X_spared rm_X_spared (cP [.ref b] (KG ev) H0) (cQp (some (.long u.1.2.2.2.2))) 0 0 cNo := by
  refine cHead [.ref b] (by decide) rfl (Nat.le_of_ble_eq_true rfl) ?_
  intro p e s m below meth c ls args QQ hQ S hr hlk hnm hs hK hl
  have S : CallFix p m c mb_X_spared 1 s args TB "RuleChoice" := S
  obtain ⟨hx, hb, hml, hown, hts⟩ := id S
  obtain ⟨hw, ⟨sl, hkp, hn⟩, hp, hO, hz⟩ := id hf
  have hl : lv_has ls 1 [(0, .ref b)] := hl
  refine lv_aload_n hx hb d_X_spared_0 rfl (lv_at hl 0 rfl) ?_
  refine rw_get hx hb hts in_X hown hK.1 hw.1 rfl 9 (by decide) (hts _ fl_X_208) rfl d_X_spared_1 ?_
  exact rt_l hQ hx hb hr hlk hs (rfl) d_X_spared_4
end
section
def rm_X_close : Room := { frames := 7, cells := 1, slots := 6, locals := 124 }
set_option maxRecDepth 100000 in
set_option maxHeartbeats 4000000 in
theorem c_X_close {l : Launch} {ev : EV} {H0 : Heap} {b : Nat} {u : XS} {kp : KT} {v : PT} (hT : l.stackTraces = false) (hf : XF ev b u kp v H0) (k : Int32) : vx_Met l my_X_close mw_X_close rm_X_close (cP [.ref b, .int k] (KG ev) H0) (cQod (okK k) (some (.int (nI (coF u k v u.1.2.2.2.1).1))) (fun H1 => XF ev b u kp (coF u k v u.1.2.2.2.1) H1 ∧ Frm b 101 H0 H1)) (cX (fun E H1 => (¬ okK k) ∧ E = cIX ∧ XF ev b u kp v H1 ∧ Frm b 101 H0 H1)) 1 6 (inBk b (b + 101)) := by
  refine cHeadX [.ref b, .int k] (by decide) rfl (Nat.le_of_ble_eq_true rfl) ?_
  intro p e s m below meth c ls args QQ hQ htab S hr hlk hnm hs hK hl
  have S : CallFix p m c mb_X_close 4 s args TB "RuleChoice" := S
  obtain ⟨hx, hb, hml, hown, hts⟩ := id S
  obtain ⟨hw, ⟨sl, hkp, hn⟩, hp, hO, hz⟩ := id hf
  have hold := hO
  have ht40 : u.1.2.2.2.1 ≤ 40 := hw.2.2.2.2.2.2.1
  have hr40 : u.1.2.1 ≤ 40 := hw.2.2.2.2.1
  have ha12 : u.1.2.2.1 ≤ 12 := hw.2.2.2.2.2.1
  have hl : lv_has ls 4 [(0, .ref b), (1, .int k)] := hl
  refine lv_aload_n hx hb d_X_close_0 rfl (lv_at hl 0 rfl) ?_
  refine lv_iload_n hx hb d_X_close_1 rfl (lv_at hl 1 rfl) ?_
  refine cx_v (vx_runV (As := [.int k]) (rest := []) S (c_X_needKind hT hold k) (cwV 1 hts gv_X_57 rfl rfl rfl (by decide +kernel) ⟨Nat.le_of_ble_eq_true rfl, Nat.le_of_ble_eq_true rfl⟩) (cP_V (KG_ok _) hK hK.1 hw.1 rfl) rfl rfl hl.1 rfl (lv_room (Nat.le_of_ble_eq_true rfl)) d_X_close_2 ⟨Nat.le_of_ble_eq_true rfl, Nat.le_of_ble_eq_true rfl⟩) (A := inBk b (b + 101)) cNil (fun E1 H2 ce3 q4 L5 hp6 hL7 h8 h9 h10 => ?_) (fun k11 => ?_)
  · exact cx_out hQ htab hlk h8 h9 h10 (⟨hp6.1, hp6.2.1, XF_ext hf hp6.2.2, Frm.ext hp6.2.2⟩) hL7 (Nat.le_of_ble_eq_true rfl) (Nat.le_of_ble_eq_true rfl)
  · refine lv_aload_n hx hb d_X_close_5 rfl (lv_at hl 0 rfl) ?_
    refine rw_get hx hb hts in_X hown hK.1 hw.1 rfl 5 (by decide) (hts _ fl_X_53) rfl d_X_close_6 ?_
    refine cl_d (W.runV (As := []) (rest := []) S (c_P_clear hp) (cwV 0 hts gv_X_184 rfl rfl rfl (by decide +kernel) ⟨Nat.le_of_ble_eq_true rfl, Nat.le_of_ble_eq_true rfl⟩) (cP_V (KG_ok _) hK hK.1 hp.1 rfl) rfl rfl hl.1 rfl (lv_room (Nat.le_of_ble_eq_true rfl)) d_X_close_9 ⟨Nat.le_of_ble_eq_true rfl, Nat.le_of_ble_eq_true rfl⟩) (A := inBk b (b + 101)) cNil (fun z h => ⟨by omega, by omega⟩) (fun H12 L13 hp14 hL15 => ?_)
    have hp16 := hp14.1
    have hBc := hp14.2
    have hw17 := XW_k hw (fun q _ _ => hBc.2 q (by omega))
    have hn18 := xN_k hn (fun q _ _ => hBc.2 q (by omega))
    have hO19 := Old.blk hO hBc (by omega)
    have hB20 := Blk.trans (Blk.rf (lo := b) (hi := b + 101) (H := H0)) (hBc.wide (by omega) (by omega))
    refine lv_iconst (v := 0) hx hb d_X_close_12 (by decide) ?_
    refine lv_istore_n (lv' := [(2, .int 0), (0, .ref b), (1, .int k)]) hx hb d_X_close_13 rfl hl (by decide) rfl (fun ls hl => ?_)
    have LP : ∀ (n a : Nat) (ls : Array Slot) (H : Heap) (locs : List Loc), XW ev b u H → xN ev (b + 96) sl H → xP ev (b + 98) (coF u k v a) H → Old ev H → Blk b (b + 101) H0 H → (∀ q ∈ locs, inBk b (b + 101) q.base) → a ≤ u.1.2.2.2.1 → u.1.2.2.2.1 - a < n → lv_has ls 4 [(0, .ref b), (1, .int k), (2, .int (nI a))] → W p l e rm_X_close s m args below meth c H locs (0 + 1) (0 + 6) QQ (F0 m 14 ls []) := by
      intro n
      induction n with
      | zero => intro a ls H locs _ _ _ _ _ _ h2 h3; exact absurd h3 (by omega)
      | succ n ih =>
        intro a ls H locs hw2 hn2 hp2 hO2 hB2 hL2 hle hlt9 hl
        refine lv_iload_n hx hb d_X_close_14 rfl (lv_at hl 2 rfl) ?_
        refine lv_aload_n hx hb d_X_close_15 rfl (lv_at hl 0 rfl) ?_
        refine rw_get hx hb hts in_X hown hK.1 hw2.1 rfl 8 (by decide) (hts _ fl_X_119) rfl d_X_close_16 ?_
        refine lv_icmp_ge (tgt := 75) hx hb d_X_close_19 (by decide) (fun c19 => ?_) (fun c19 => ?_)
        · refine lv_aload_n hx hb d_X_close_75 rfl (lv_at hl 0 rfl) ?_
          refine rw_get hx hb hts in_X hown hK.1 hw2.1 rfl 5 (by decide) (hts _ fl_X_53) rfl d_X_close_76 ?_
          refine rw_get hx hb hts in_P hown hK.1 hp2.1 rfl 2 (by decide) (hts _ fl_X_194) rfl d_X_close_79 ?_
          have e9 : a = u.1.2.2.2.1 := Nat.le_antisymm hle (Nat.not_lt.mp (fun h => absurd c19 (nI_ge h (by omega))))
          exact ry_i hQ (k11) hx hb hr hlk (rfl) (by rw [← e9]) (by rw [← e9]; exact ⟨⟨hw2, ⟨sl, hkp, hn2⟩, hp2, hO2, hz⟩, Frm.blk hB2 (Nat.le_refl _) (Nat.le_refl _)⟩) hL2 (Nat.le_of_ble_eq_true rfl) (Nat.le_of_ble_eq_true rfl) d_X_close_82
        · have hlt : a < u.1.2.2.2.1 := Nat.not_le.mp (fun h => c19 (nI_le h (by omega)))
          have ha40 : a < 40 := by omega
          refine lv_iload_n hx hb d_X_close_22 rfl (lv_at hl 2 rfl) ?_
          refine lv_iconst (v := 1) hx hb d_X_close_23 (by decide) ?_
          refine lv_iadd hx hb d_X_close_24 ?_
          refine tp_i (y := (nI (a + 1 + 0))) (nI_1 a) ?_
          refine lv_istore_n (lv' := [(3, .int (nI (a + 1 + 0))), (0, .ref b), (1, .int k), (2, .int (nI a))]) hx hb d_X_close_25 rfl hl (by decide) rfl (fun ls hl => ?_)
          have LQ : ∀ (n2 i : Nat) (ls : Array Slot) (H : Heap) (locs : List Loc), XW ev b u H → xN ev (b + 96) sl H → xP ev (b + 98) (ciF u k (coF u k v a) a i) H → Old ev H → Blk b (b + 101) H0 H → (∀ q ∈ locs, inBk b (b + 101) q.base) → i ≤ u.1.2.2.2.1 - (a + 1) → u.1.2.2.2.1 - (a + 1) - i < n2 → lv_has ls 4 [(0, .ref b), (1, .int k), (2, .int (nI a)), (3, .int (nI (a + 1 + i)))] → W p l e rm_X_close s m args below meth c H locs (0 + 1) (0 + 6) QQ (F0 m 26 ls []) := by
            intro n2
            induction n2 with
            | zero => intro i ls H locs _ _ _ _ _ _ h2 h3; exact absurd h3 (by omega)
            | succ n2 ih2 =>
              intro i ls H locs hw2 hn2 hp2 hO2 hB2 hL2 hle2 hlt8 hl
              refine lv_iload_n hx hb d_X_close_26 rfl (lv_at hl 3 rfl) ?_
              refine lv_aload_n hx hb d_X_close_27 rfl (lv_at hl 0 rfl) ?_
              refine rw_get hx hb hts in_X hown hK.1 hw2.1 rfl 8 (by decide) (hts _ fl_X_119) rfl d_X_close_28 ?_
              refine lv_icmp_ge (tgt := 69) hx hb d_X_close_31 (by decide) (fun c31 => ?_) (fun c31 => ?_)
              · have e8 : i = u.1.2.2.2.1 - (a + 1) := Nat.le_antisymm hle2 (Nat.not_lt.mp (fun h => absurd c31 (nI_ge (by omega) (by omega))))
                have hp7 : xP ev (b + 98) (coF u k v (a + 1)) H := by subst e8; exact hp2
                refine lv_iinc (v := (nI (a + 1))) (lv' := [(2, .int (nI (a + 1))), (0, .ref b), (1, .int k), (3, .int (nI (a + 1 + i)))]) hx hb d_X_close_69 hl (k := 2) rfl ((nI_1 a)) (by decide) rfl (fun ls hl => ?_)
                refine lv_goto (tgt := 14) hx hb d_X_close_72 (by decide) ?_
                exact ih (a + 1) ls _ _ hw2 hn2 hp7 hO2 hB2 hL2 (by omega) (by omega) (lv_sub hl [1, 2, 0] rfl)
              · have a1 : i < u.1.2.2.2.1 - (a + 1) := by have h9 : ¬ u.1.2.2.2.1 ≤ a + 1 + i := fun h => c31 (nI_le h (by omega)); omega
                have hb40 : a + 1 + i < 40 := by omega
                refine lv_aload_n hx hb d_X_close_34 rfl (lv_at hl 0 rfl) ?_
                refine lv_iload_n hx hb d_X_close_35 rfl (lv_at hl 1 rfl) ?_
                refine lv_aload_n hx hb d_X_close_36 rfl (lv_at hl 0 rfl) ?_
                refine rw_get hx hb hts in_X hown hK.1 hw2.1 rfl 3 (by decide) (hts _ fl_X_38) rfl d_X_close_37 ?_
                refine lv_iload_n hx hb d_X_close_40 rfl (lv_at hl 2 rfl) ?_
                refine rw_aald hx hb hK.1 5 hw2.2.2.2.1.1 rfl a (rfl) (ha40) (by decide) rfl d_X_close_41 ?_
                refine lv_aload_n hx hb d_X_close_42 rfl (lv_at hl 0 rfl) ?_
                refine rw_get hx hb hts in_X hown hK.1 hw2.1 rfl 3 (by decide) (hts _ fl_X_38) rfl d_X_close_43 ?_
                refine lv_iload_n hx hb d_X_close_46 rfl (lv_at hl 3 rfl) ?_
                refine rw_aald hx hb hK.1 5 hw2.2.2.2.1.1 rfl (a + 1 + i) (rfl) (hb40) (by decide) rfl d_X_close_47 ?_
                refine cl_i (W.runV (As := [.int k, .ref (b + 56 + a), .ref (b + 56 + (a + 1 + i))]) (rest := []) S (c_X_areTooNear hw2 (j := a) (k := (a + 1 + i)) (ha40) (hb40) k) (cwV 3 hts gv_X_187 rfl rfl rfl (by decide +kernel) ⟨Nat.le_of_ble_eq_true rfl, Nat.le_of_ble_eq_true rfl⟩) (cP_V (KG_ok _) hK hK.1 hw2.1 rfl) rfl rfl hl.1 rfl (lv_room (Nat.le_of_ble_eq_true rfl)) d_X_close_48 ⟨Nat.le_of_ble_eq_true rfl, Nat.le_of_ble_eq_true rfl⟩) ?_
                refine lv_if_eq (tgt := 63) hx hb d_X_close_51 (by decide) (fun c51 => ?_) (fun c51 => ?_)
                · refine lv_iinc (v := (nI (a + 1 + (i + 1)))) (lv' := [(3, .int (nI (a + 1 + (i + 1)))), (0, .ref b), (1, .int k), (2, .int (nI a))]) hx hb d_X_close_63 hl (k := 3) rfl ((nI_1 (a + 1 + i))) (by decide) rfl (fun ls hl => ?_)
                  refine lv_goto (tgt := 26) hx hb d_X_close_66 (by decide) ?_
                  exact ih2 (i + 1) ls _ _ hw2 hn2 (by rw [ci_n ((bI_eq _).mp c51)]; exact hp2) hO2 hB2 hL2 (by omega) (by omega) (lv_sub hl [1, 2, 3, 0] rfl)
                · refine lv_aload_n hx hb d_X_close_54 rfl (lv_at hl 0 rfl) ?_
                  refine rw_get hx hb hts in_X hown hK.1 hw2.1 rfl 5 (by decide) (hts _ fl_X_53) rfl d_X_close_55 ?_
                  refine lv_iload_n hx hb d_X_close_58 rfl (lv_at hl 2 rfl) ?_
                  refine lv_iload_n hx hb d_X_close_59 rfl (lv_at hl 3 rfl) ?_
                  refine cl_d (W.runV (As := [.int (nI a), .int (nI (a + 1 + i))]) (rest := []) S (c_P_add hp2 (ci_780 ht40 hlt a1) (nI a) (nI (a + 1 + i))) (cwV 2 hts gv_X_191 rfl rfl rfl (by decide +kernel) ⟨Nat.le_of_ble_eq_true rfl, Nat.le_of_ble_eq_true rfl⟩) (cP_V (KG_ok _) hK hK.1 hp2.1 rfl) rfl rfl hl.1 rfl (lv_room (Nat.le_of_ble_eq_true rfl)) d_X_close_60 ⟨Nat.le_of_ble_eq_true rfl, Nat.le_of_ble_eq_true rfl⟩) hL2 (fun z h => ⟨by omega, by omega⟩) (fun H21 L22 hp23 hL24 => ?_)
                  have hp25 := hp23.1
                  have hBa26 := hp23.2
                  have hw27 := XW_k hw2 (fun q _ _ => hBa26.2 q (by omega))
                  have hn28 := xN_k hn2 (fun q _ _ => hBa26.2 q (by omega))
                  have hO29 := Old.blk hO2 hBa26 (by omega)
                  have hB30 := Blk.trans hB2 (hBa26.wide (by omega) (by omega))
                  refine lv_iinc (v := (nI (a + 1 + (i + 1)))) (lv' := [(3, .int (nI (a + 1 + (i + 1)))), (0, .ref b), (1, .int k), (2, .int (nI a))]) hx hb d_X_close_63 hl (k := 3) rfl ((nI_1 (a + 1 + i))) (by decide) rfl (fun ls hl => ?_)
                  refine lv_goto (tgt := 26) hx hb d_X_close_66 (by decide) ?_
                  exact ih2 (i + 1) ls _ _ hw27 hn28 (by rw [ci_y ((bI_ne _).mp c51)]; exact hp25) hO29 hB30 hL24 (by omega) (by omega) (lv_sub hl [1, 2, 3, 0] rfl)
          exact LQ _ 0 ls _ _ hw2 hn2 hp2 hO2 hB2 hL2 (Nat.zero_le _) (Nat.lt_succ_self _) (lv_sub hl [1, 2, 3, 0] rfl)
    exact LP _ 0 ls _ _ hw17 hn18 hp16 hO19 hB20 hL15 (Nat.zero_le _) (Nat.lt_succ_self _) (lv_sub hl [1, 2, 0] rfl)
end
section
/-! new cells at a known place -/
section MyNew
variable {p : Program} {l : Launch} {e : Env} {R : Room} {s : State} {m : MethodId} {args : Array Value} {below : List Frame} {meth : Method} {c : Code} {H : Heap} {locs : List Loc} {cells slots : Nat} {Q : State → Prop}
variable {cc : ByteArray} {pc : Nat} {ls : Array Slot} {rest : List Value} {D : va_G} {cl : List vw_C} {tys : List (ClassId × FieldType)}
theorem rz_new {z : Nat} (hz : H.size = z) (hexec : p.tables.exec = Jvm.exec) (hb : c.code = cc) {own C : String} {T : u_T} {N ci index : Nat} {Ts : List Cond} (hts : ∀ w ∈ Ts, w.before args s = true) (hin : ∀ w ∈ u_ws C T N, w ∈ Ts) (ty : Nat → FieldType) (hty : ∀ k, k < N → parseFieldDescriptor (T k).2.2.1 = some (ty k)) (hown : s.vm.findClass own = some m.cls) (hcl : (Cond.classLink own index C).before args s = true) (hinst : (Cond.instantiable C N).before args s = true) (hini : (Cond.initialized C).before args s = true)
    (hK : va_K D cl tys s) (hc : cl[ci]? = some (C, T, N)) {fs : List Value} (hfs : ∀ j, j < N → defaultValue (ty j) = vp_V fs j) (hcells : cells + 1 ≤ R.cells) (hslots : slots + N ≤ R.slots) (hdg : decode cc pc = .ok (.new index, 3))
    (kk : ∀ H1 : Heap, H1.size = z + 1 → (∀ q : Nat, q < z → H1[q]? = H[q]?) → va_at D cl (z, .inr (ci, fs)) H1 → W p l e R s m args below meth c H1 locs (cells + 1) (slots + N) Q (F0 m (pc + 3) ls (.ref z :: rest))) : W p l e R s m args below meth c H locs cells slots Q (F0 m pc ls rest) := by
  subst hz
  exact rw_new hexec hb hts hin ty hty hown hcl hinst hini hK hc hfs hcells hslots hdg kk
theorem rz_newa {z : Nat} (hz : H.size = z) (hexec : p.tables.exec = Jvm.exec) (hb : c.code = cc) {atype : ArrayType} (harr : (Cond.arrayClass (newarray.typeOf atype)).before args s = true) (hK : va_K D cl tys s) (t0 : Nat) {cA : ClassId} (ht : tys[t0]? = some (cA, newarray.typeOf atype))
    {n : Int32} {N' : Nat} {a0 : vp_A} (ha : ∀ cA : ClassId, vp_cell cA a0 = arrV cA N' (fun _ => defaultValue (newarray.typeOf atype))) (hn : ¬ n < 0) (hN : n.toNatClampNeg = N') (hbytes : N' * componentBytes (newarray.typeOf atype) ≤ 536870912) (hcells : cells + 1 ≤ R.cells) (hslots : slots + N' ≤ R.slots) (hdg : decode cc pc = .ok (.newarray atype, 2))
    (kk : ∀ H1 : Heap, H1.size = z + 1 → (∀ q : Nat, q < z → H1[q]? = H[q]?) → va_at D cl (z, .inl (cA, a0)) H1 → W p l e R s m args below meth c H1 locs (cells + 1) (slots + N') Q (F0 m (pc + 2) ls (.ref z :: rest))) : W p l e R s m args below meth c H locs cells slots Q (F0 m pc ls (.int n :: rest)) := by
  subst hz
  exact rw_newa hexec hb harr hK t0 ht ha hn hN hbytes hcells hslots hdg kk
theorem rz_newq {z : Nat} (hz : H.size = z) (hexec : p.tables.exec = Jvm.exec) (hb : c.code = cc) {own C : String} {index : Nat} (hown : s.vm.findClass own = some m.cls) (hclink : (Cond.classLink own index C).before args s = true) (hover : (Cond.arrayOver (.object C)).before args s = true) (hK : va_K D cl tys s) (t0 : Nat) {cA : ClassId} (ht : tys[t0]? = some (cA, .object C))
    {n : Int32} {N' : Nat} (hn : ¬ n < 0) (hN : n.toNatClampNeg = N') (hbytes : N' * 4 ≤ 536870912) (hcells : cells + 1 ≤ R.cells) (hslots : slots + N' ≤ R.slots) (hdg : decode cc pc = .ok (.anewarray index, 3))
    (kk : ∀ H1 : Heap, H1.size = z + 1 → (∀ q : Nat, q < z → H1[q]? = H[q]?) → va_at D cl (z, .inl (cA, N', .inr (.inr (.inr (.inr (fun _ => none)))))) H1 → W p l e R s m args below meth c H1 locs (cells + 1) (slots + N') Q (F0 m (pc + 3) ls (.ref z :: rest))) : W p l e R s m args below meth c H locs cells slots Q (F0 m pc ls (.int n :: rest)) := by
  subst hz
  exact rw_newq hexec hb hown hclink hover hK t0 ht hn hN hbytes hcells hslots hdg kk
end MyNew
theorem KG_nq {ev : EV} {U : State} (h : KG ev U) {q : Nat × MethodName} (hq : q ∈ NQ) : va_Nw (.methodLinkNest "RuleChoice" q.1 q.2 "RuleChoice") U := h.2.2.2.2.2.1 q hq
def r0 : Ru := (0, 0, 0, 0, 0, 0, none)
def a0 : Aa := (0, 0, 0, 0)
def t0 : Tt := (0, 0, 0, 0)
theorem cnt_0 : ∀ n, cntF (fun _ => 0) n = 0
  | 0 => rfl
  | n + 1 => by unfold cntF; rw [cnt_0 n, if_pos rfl]
theorem nI_c0 : (0 : Int32) = nI (cntF (fun _ => 0) 4920) := by rw [cnt_0]; rfl
/-- filled up to i -/
def fil (base i : Nat) : Nat → Option Nat := fun j => if j < i then some (base + j) else none
theorem fil_s (base i : Nat) : va_up (fil base i) i (some (base + i)) = fil base (i + 1) := by
  funext j
  unfold va_up fil
  by_cases h : j = i
  · subst h; rw [if_pos rfl, if_pos (by omega)]
  · rw [if_neg h]
    by_cases h2 : j < i
    · rw [if_pos h2, if_pos (by omega)]
    · rw [if_neg h2, if_neg (by omega)]
theorem fil_0 (base : Nat) : fil base 0 = fun _ => none := rfl
theorem fil_all {ev : EV} {H : Heap} {a k N base : Nat} (h : pt ev H a (aQ ev k N (fil base N))) : pt ev H a (aQ ev k N (fun j => some (base + j))) := by
  have h : H[a]? = some (vp_cell (ev.2.1 k) (N, .inr (.inr (.inr (.inr (fil base N)))))) := h
  show H[a]? = some (vp_cell (ev.2.1 k) (N, .inr (.inr (.inr (.inr (fun j => some (base + j)))))))
  rw [h]
  congr 1
  rw [vp_cell_q, vp_cell_q]
  unfold arrV
  congr 1
  congr 1
  funext j
  show va_rf (if j.val < N then some (base + j.val) else none) = va_rf (some (base + j.val))
  rw [if_pos j.isLt]
/-- the class's own cell while it is made -/
def iO (ev : EV) (b n : Nat) (F : List Value) (H0 H : Heap) : Prop := pt ev H b (oC 0 F) ∧ H.size = b + n ∧ ∀ q : Nat, q < b → H[q]? = H0[q]?
def iT (ev : EV) (k N ci base i : Nat) (row : List Value) (H : Heap) : Prop := pt ev H (base - 1) (aQ ev k N (fil base i)) ∧ ∀ j, j < i → pt ev H (base + j) (oC ci row)
theorem iT_k {ev : EV} {k N ci base i : Nat} {row : List Value} {H H1 : Heap} (h : iT ev k N ci base i row H) (hq : ∀ q : Nat, base - 1 ≤ q → q < base + i → H1[q]? = H[q]?) (hb : 0 < base) : iT ev k N ci base i row H1 := ⟨pt_k h.1 (hq _ (by omega) (by omega)), fun j hj => pt_k (h.2 j hj) (hq _ (by omega) (by omega))⟩
end
section
def rm_R_init : Room := { frames := 1, cells := 0, slots := 0, locals := 20 }
set_option maxRecDepth 100000 in
set_option maxHeartbeats 4000000 in
theorem c_R_init {l : Launch} {ev : EV} {H0 : Heap} {a : Nat} (h0 : pt ev H0 a (oC 4 [.int 0, .int 0, .int 0, .int 0, .long 0, .int 0, .int 0])) : Met l my_R_init mw_R_init rm_R_init (cP [.ref a] (KG ev) H0) (cQd none (fun H1 => pt ev H1 a (oC 4 (ruV r0)) ∧ Blk a (a + 1) H0 H1)) 0 0 (fun z => a ≤ z) := by
  refine cHead [.ref a] (by decide) rfl (Nat.le_of_ble_eq_true rfl) ?_
  intro p e s m below meth c ls args QQ hQ S hr hlk hnm hs hK hl
  have S : CallFix p m c mb_R_init 1 s args TB "RuleChoice$Rule" := S
  obtain ⟨hx, hb, hml, hown, hts⟩ := id S
  have hl : lv_has ls 1 [(0, .ref a)] := hl
  refine lv_aload_n hx hb d_R_init_0 rfl (lv_at hl 0 rfl) ?_
  refine W.objInit hx hb hown (hts _ ml_R_3) (hts _ im_objinit) (hts _ in_objinit) rfl (hl.1.trans hml.symm) rfl d_R_init_1 (Nat.le_of_ble_eq_true rfl) (Nat.le_of_ble_eq_true rfl) ?_
  refine W.eq (g2 := F0 m 4 ls []) rfl ?_
  refine lv_aload_n hx hb d_R_init_4 rfl (lv_at hl 0 rfl) ?_
  refine lv_iconst (v := (-1)) hx hb d_R_init_5 (by decide) ?_
  refine rw_put hx hb hts in_R ck_R ok_R nm_R hown hK.1 h0 rfl 6 (by decide) (hts _ fl_R_9) rfl (ok_R 6 (by decide)) rfl rfl (Nat.le_of_ble_eq_true rfl) (Nat.le_refl _) (A := (fun z => a ≤ z)) cNil d_R_init_6 (fun H1 L2 z3 o4 hat5 hL6 => ?_)
  exact rt_dv hQ hx hb hr hlk ⟨hat5, Blk.one z3 o4⟩ hL6 (Nat.le_of_ble_eq_true rfl) (Nat.le_of_ble_eq_true rfl) d_R_init_9
def rm_A_init : Room := { frames := 1, cells := 0, slots := 0, locals := 20 }
set_option maxRecDepth 100000 in
set_option maxHeartbeats 4000000 in
theorem c_A_init {l : Launch} {ev : EV} {H0 : Heap} {a : Nat}  : Met l my_A_init mw_A_init rm_A_init (cP [.ref a] (KG ev) H0) (cQp none) 0 0 cNo := by
  refine cHead [.ref a] (by decide) rfl (Nat.le_of_ble_eq_true rfl) ?_
  intro p e s m below meth c ls args QQ hQ S hr hlk hnm hs hK hl
  have S : CallFix p m c mb_A_init 1 s args TB "RuleChoice$Area" := S
  obtain ⟨hx, hb, hml, hown, hts⟩ := id S
  have hl : lv_has ls 1 [(0, .ref a)] := hl
  refine lv_aload_n hx hb d_A_init_0 rfl (lv_at hl 0 rfl) ?_
  refine W.objInit hx hb hown (hts _ ml_A_1) (hts _ im_objinit) (hts _ in_objinit) rfl (hl.1.trans hml.symm) rfl d_A_init_1 (Nat.le_of_ble_eq_true rfl) (Nat.le_of_ble_eq_true rfl) ?_
  refine W.eq (g2 := F0 m 4 ls []) rfl ?_
  exact rt_v hQ hx hb hr hlk hs d_A_init_4
def rm_T_init : Room := { frames := 1, cells := 0, slots := 0, locals := 20 }
set_option maxRecDepth 100000 in
set_option maxHeartbeats 4000000 in
theorem c_T_init {l : Launch} {ev : EV} {H0 : Heap} {a : Nat}  : Met l my_T_init mw_T_init rm_T_init (cP [.ref a] (KG ev) H0) (cQp none) 0 0 cNo := by
  refine cHead [.ref a] (by decide) rfl (Nat.le_of_ble_eq_true rfl) ?_
  intro p e s m below meth c ls args QQ hQ S hr hlk hnm hs hK hl
  have S : CallFix p m c mb_T_init 1 s args TB "RuleChoice$Thing" := S
  obtain ⟨hx, hb, hml, hown, hts⟩ := id S
  have hl : lv_has ls 1 [(0, .ref a)] := hl
  refine lv_aload_n hx hb d_T_init_0 rfl (lv_at hl 0 rfl) ?_
  refine W.objInit hx hb hown (hts _ ml_T_1) (hts _ im_objinit) (hts _ in_objinit) rfl (hl.1.trans hml.symm) rfl d_T_init_1 (Nat.le_of_ble_eq_true rfl) (Nat.le_of_ble_eq_true rfl) ?_
  refine W.eq (g2 := F0 m 4 ls []) rfl ?_
  exact rt_v hQ hx hb hr hlk hs d_T_init_4
def rm_N_init : Room := { frames := 1, cells := 1, slots := 4920, locals := 20 }
set_option maxRecDepth 100000 in
set_option maxHeartbeats 4000000 in
theorem c_N_init {l : Launch} {ev : EV} {H0 : Heap} {q : Nat} (h0 : pt ev H0 q (oC 1 [.null, .int 0])) (hsz : H0.size = q + 1) : Met l my_N_init mw_N_init rm_N_init (cP [.ref q] (KG ev) H0) (cQd none (fun H1 => xN ev q (fun _ => 0) H1 ∧ H1.size = q + 2 ∧ ∀ z : Nat, z < q → H1[z]? = H0[z]?)) 1 4920 (fun z => q ≤ z) := by
  refine cHead [.ref q] (by decide) rfl (Nat.le_of_ble_eq_true rfl) ?_
  intro p e s m below meth c ls args QQ hQ S hr hlk hnm hs hK hl
  have S : CallFix p m c mb_N_init 1 s args TB "RuleChoice$Answers" := S
  obtain ⟨hx, hb, hml, hown, hts⟩ := id S
  have hl : lv_has ls 1 [(0, .ref q)] := hl
  refine lv_aload_n hx hb d_N_init_0 rfl (lv_at hl 0 rfl) ?_
  refine W.objInit hx hb hown (hts _ ml_N_3) (hts _ im_objinit) (hts _ in_objinit) rfl (hl.1.trans hml.symm) rfl d_N_init_1 (Nat.le_of_ble_eq_true rfl) (Nat.le_of_ble_eq_true rfl) ?_
  refine W.eq (g2 := F0 m 4 ls []) rfl ?_
  refine lv_aload_n hx hb d_N_init_4 rfl (lv_at hl 0 rfl) ?_
  refine lv_sipush (v := 4920) hx hb d_N_init_5 (by decide) ?_
  refine rz_newa (atype := .int) (z := q + 1) (hsz) hx hb (hts _ ac_int) hK.1 0 rfl (a0 := (4920, .inl (fun _ => 0))) (fun _ => rfl) (by decide) rfl (by decide) (Nat.le_of_ble_eq_true rfl) (Nat.le_of_ble_eq_true rfl) d_N_init_8 (fun H1 z2 o3 hat4 => ?_)
  have h1 := pt_k h0 (o3 q (by omega))
  refine rw_putF hx hb hts in_N ck_N ok_N nm_N hown hK.1 h1 rfl 0 (by decide) (hts _ fl_N_11) rfl hnm rfl (ok_N 0 (by decide)) rfl rfl (Nat.le_of_ble_eq_true rfl) (Nat.le_refl _) (A := (fun z => q ≤ z)) cNil d_N_init_10 (fun H5 L6 z7 o8 hat9 hL10 => ?_)
  exact rt_dv hQ hx hb hr hlk ⟨⟨by rw [← nI_c0]; exact hat9, pt_k hat4 (o8 _ (by omega))⟩, z7.trans z2, fun z hz9 => (o8 z (by omega)).trans (o3 z (by omega))⟩ hL10 (Nat.le_of_ble_eq_true rfl) (Nat.le_of_ble_eq_true rfl) d_N_init_13
def rm_P_init : Room := { frames := 1, cells := 2, slots := 1560, locals := 20 }
set_option maxRecDepth 100000 in
set_option maxHeartbeats 4000000 in
theorem c_P_init {l : Launch} {ev : EV} {H0 : Heap} {q : Nat} (h0 : pt ev H0 q (oC 3 [.null, .null, .int 0])) (hsz : H0.size = q + 1) : Met l my_P_init mw_P_init rm_P_init (cP [.ref q] (KG ev) H0) (cQd none (fun H1 => xP ev q (0, (fun _ => 0), (fun _ => 0)) H1 ∧ H1.size = q + 3 ∧ ∀ z : Nat, z < q → H1[z]? = H0[z]?)) 2 1560 (fun z => q ≤ z) := by
  refine cHead [.ref q] (by decide) rfl (Nat.le_of_ble_eq_true rfl) ?_
  intro p e s m below meth c ls args QQ hQ S hr hlk hnm hs hK hl
  have S : CallFix p m c mb_P_init 1 s args TB "RuleChoice$Pairs" := S
  obtain ⟨hx, hb, hml, hown, hts⟩ := id S
  have hl : lv_has ls 1 [(0, .ref q)] := hl
  refine lv_aload_n hx hb d_P_init_0 rfl (lv_at hl 0 rfl) ?_
  refine W.objInit hx hb hown (hts _ ml_P_3) (hts _ im_objinit) (hts _ in_objinit) rfl (hl.1.trans hml.symm) rfl d_P_init_1 (Nat.le_of_ble_eq_true rfl) (Nat.le_of_ble_eq_true rfl) ?_
  refine W.eq (g2 := F0 m 4 ls []) rfl ?_
  refine lv_aload_n hx hb d_P_init_4 rfl (lv_at hl 0 rfl) ?_
  refine lv_sipush (v := 780) hx hb d_P_init_5 (by decide) ?_
  refine rz_newa (atype := .int) (z := q + 1) (hsz) hx hb (hts _ ac_int) hK.1 0 rfl (a0 := (780, .inl (fun _ => 0))) (fun _ => rfl) (by decide) rfl (by decide) (Nat.le_of_ble_eq_true rfl) (Nat.le_of_ble_eq_true rfl) d_P_init_8 (fun H1 z2 o3 hat4 => ?_)
  have g1 := pt_k h0 (o3 q (by omega))
  refine rw_putF hx hb hts in_P ck_P ok_P nm_P hown hK.1 g1 rfl 0 (by decide) (hts _ fl_P_11) rfl hnm rfl (ok_P 0 (by decide)) rfl rfl (Nat.le_of_ble_eq_true rfl) (Nat.le_refl _) (A := (fun z => q ≤ z)) cNil d_P_init_10 (fun H5 L6 z7 o8 hat9 hL10 => ?_)
  have s1 := z7.trans z2
  have g2 := pt_k hat4 (o8 (q + 1) (by omega))
  refine lv_aload_n hx hb d_P_init_13 rfl (lv_at hl 0 rfl) ?_
  refine lv_sipush (v := 780) hx hb d_P_init_14 (by decide) ?_
  refine rz_newa (atype := .int) (z := q + 2) (s1) hx hb (hts _ ac_int) hK.1 0 rfl (a0 := (780, .inl (fun _ => 0))) (fun _ => rfl) (by decide) rfl (by decide) (Nat.le_of_ble_eq_true rfl) (Nat.le_of_ble_eq_true rfl) d_P_init_17 (fun H11 z12 o13 hat14 => ?_)
  have g3 := pt_k hat9 (o13 q (by omega))
  have g4 := pt_k g2 (o13 (q + 1) (by omega))
  refine rw_putF hx hb hts in_P ck_P ok_P nm_P hown hK.1 g3 rfl 1 (by decide) (hts _ fl_P_15) rfl hnm rfl (ok_P 1 (by decide)) rfl rfl (Nat.le_of_ble_eq_true rfl) (Nat.le_refl _) hL10 d_P_init_19 (fun H15 L16 z17 o18 hat19 hL20 => ?_)
  have s2 := z17.trans z12
  exact rt_dv hQ hx hb hr hlk ⟨⟨hat19, pt_k g4 (o18 _ (by omega)), pt_k hat14 (o18 _ (by omega)), Nat.zero_le _⟩, s2, fun z hz9 => ((((o18 z (by omega)).trans (o13 z (by omega))).trans (o8 z (by omega))).trans (o3 z (by omega)))⟩ hL20 (Nat.le_of_ble_eq_true rfl) (Nat.le_of_ble_eq_true rfl) d_P_init_22
end
section
def rm_X_init : Room := { frames := 2, cells := 100, slots := 7065, locals := 40 }
def cls0 (n : Int32) : Int32 := if (1 : Int32) < (if n < 16 then n else 16) then (if n < 16 then n else 16) else 1
def u0 (n : Int32) : XS := ((cls0 n, 0, 0, 0, 0), (fun _ => r0), (fun _ => a0), (fun _ => t0))
theorem KP_0 (n : Int32) : KP (u0 n) (fun _ _ _ => false) (fun _ => 0) := fun k x y _ _ _ => ⟨by show (0 : Int32) = if false = true then _ else 0; rw [if_neg (by decide)], fun h => by cases h⟩
theorem xB_0 (n : Int32) : xB (u0 n) := ⟨Nat.zero_le _, Nat.zero_le _, Nat.zero_le _, (fun i a _ h => by cases h), fun i _ => (⟨by decide, by decide⟩ : okK 0)⟩
set_option maxRecDepth 100000 in
set_option maxHeartbeats 4000000 in
theorem c_X_init {l : Launch} {ev : EV} {H0 : Heap} {b : Nat} (cn : Int32) (h0 : pt ev H0 b (oC 0 [.int 0, .null, .null, .null, .null, .null, .int 0, .int 0, .int 0, .long 0])) (hsz : H0.size = b + 1) (hO : Old ev H0) (hz0 : (evH ev).size ≤ b) : Met l my_X_init mw_X_init rm_X_init (cP [.ref b, .int cn] (KG ev) H0) (cQd none (fun H1 => XF ev b (u0 cn) (fun _ _ _ => false) (0, (fun _ => 0), (fun _ => 0)) H1 ∧ H1.size = b + 101 ∧ ∀ q : Nat, q < b → H1[q]? = H0[q]?)) 100 7065 (fun z => b ≤ z) := by
  refine cHead [.ref b, .int cn] (by decide) rfl (Nat.le_of_ble_eq_true rfl) ?_
  intro p e s m below meth c ls args QQ hQ S hr hlk hnm hs hK hl
  have S : CallFix p m c mb_X_init 3 s args TB "RuleChoice" := S
  obtain ⟨hx, hb, hml, hown, hts⟩ := id S
  have hl : lv_has ls 3 [(0, .ref b), (1, .int cn)] := hl
  refine lv_aload_n hx hb d_X_init_0 rfl (lv_at hl 0 rfl) ?_
  refine W.objInit hx hb hown (hts _ ml_X_1) (hts _ im_objinit) (hts _ in_objinit) rfl (hl.1.trans hml.symm) rfl d_X_init_1 (Nat.le_of_ble_eq_true rfl) (Nat.le_of_ble_eq_true rfl) ?_
  refine W.eq (g2 := F0 m 4 ls []) rfl ?_
  refine lv_aload_n hx hb d_X_init_4 rfl (lv_at hl 0 rfl) ?_
  refine lv_iconst (v := 1) hx hb d_X_init_5 (by decide) ?_
  refine lv_bipush (v := 16) hx hb d_X_init_6 (by decide) ?_
  refine lv_iload_n hx hb d_X_init_8 rfl (lv_at hl 1 rfl) ?_
  refine va_mmin hx hb (hml.trans hl.1.symm) hown (hts _ ml_X_9) (hts _ st_min) (hts _ iz_Math) (hts _ in_min) (Nat.le_of_ble_eq_true rfl) (Nat.le_of_ble_eq_true rfl) (Nat.le_of_ble_eq_true rfl) (Nat.le_of_ble_eq_true rfl) d_X_init_9 ?_
  refine va_mmax hx hb (hml.trans hl.1.symm) hown (hts _ ml_X_15) (hts _ st_max) (hts _ iz_Math) (hts _ in_max) (Nat.le_of_ble_eq_true rfl) (Nat.le_of_ble_eq_true rfl) (Nat.le_of_ble_eq_true rfl) (Nat.le_of_ble_eq_true rfl) d_X_init_12 ?_
  refine tp_i (y := (cls0 cn)) (rfl) ?_
  refine rw_putF hx hb hts in_X ck_X ok_X nm_X hown hK.1 h0 rfl 0 (by decide) (hts _ fl_X_18) rfl hnm rfl (ok_X 0 (by decide)) rfl rfl (Nat.le_of_ble_eq_true rfl) (Nat.le_refl _) (A := (fun z => b ≤ z)) cNil d_X_init_15 (fun H1 L2 z3 o4 hat5 hL6 => ?_)
  have s7 := z3.trans hsz
  have f8 : ∀ q : Nat, q < b → H1[q]? = H0[q]? := fun q hq => (o4 q (by omega)).trans ((fun _ _ => rfl) q hq)
  refine lv_aload_n hx hb d_X_init_18 rfl (lv_at hl 0 rfl) ?_
  refine lv_bipush (v := 40) hx hb d_X_init_19 (by decide) ?_
  refine rz_newq (z := b + 1) (s7) hx hb hown (hts _ cl_X_22) (va_AO.use hK.2.2.2.2.2.2.1) hK.1 3 rfl (N' := 40) (by decide) rfl (by decide) (by show 0 + 1 ≤ 100; omega) (by show 0 + 40 ≤ 7065; omega) d_X_init_21 (fun H9 z10 o11 hat12 => ?_)
  have ho13 := pt_k hat5 (o11 b (by omega))
  have f14 : ∀ q : Nat, q < b → H9[q]? = H0[q]? := fun q hq => (o11 q (by omega)).trans (f8 q hq)
  refine rw_putF hx hb hts in_X ck_X ok_X nm_X hown hK.1 ho13 rfl 1 (by decide) (hts _ fl_X_24) rfl hnm rfl (ok_X 1 (by decide)) rfl rfl (Nat.le_of_ble_eq_true rfl) (Nat.le_refl _) hL6 d_X_init_24 (fun H15 L16 z17 o18 hat19 hL20 => ?_)
  have s21 := z17.trans z10
  have f22 : ∀ q : Nat, q < b → H15[q]? = H0[q]? := fun q hq => (o18 q (by omega)).trans (f14 q hq)
  have ht23 := pt_k hat12 (o18 _ (by omega))
  refine lv_iconst (v := 0) hx hb d_X_init_27 (by decide) ?_
  refine lv_istore_n (lv' := [(2, .int 0), (0, .ref b), (1, .int cn)]) hx hb d_X_init_28 rfl hl (by decide) rfl (fun ls hl => ?_)
  have LPR : ∀ (n i : Nat) (ls : Array Slot) (H : Heap) (locs : List Loc), pt ev H b (oC 0 [.int (cls0 cn), .ref (b + 1), .null, .null, .null, .null, .int 0, .int 0, .int 0, .long 0]) → H.size = b + 2 + i → (∀ q : Nat, q < b → H[q]? = H0[q]?) → iT ev 3 40 4 (b + 2) i (ruV r0) H → (∀ q ∈ locs, b ≤ q.base) → i ≤ 40 → 40 - i < n → lv_has ls 3 [(0, .ref b), (2, .int (nI i))] → W p l e rm_X_init s m args below meth c H locs (1 + i) (40 + i * 7) QQ (F0 m 29 ls []) := by
    intro n
    induction n with
    | zero => intro i ls H locs _ _ _ _ _ h2 h3; exact absurd h3 (by omega)
    | succ n ih =>
      intro i ls H locs ho hz fo  hiT hL hle hlt9 hl
      refine lv_iload_n hx hb d_X_init_29 rfl (lv_at hl 1 rfl) ?_
      refine lv_bipush (v := 40) hx hb d_X_init_30 (by decide) ?_
      refine lv_icmp_ge (tgt := 54) hx hb d_X_init_32 (by decide) (fun c32 => ?_) (fun c32 => ?_)
      · have eR : i = 40 := Nat.le_antisymm hle (Nat.not_lt.mp (fun h => absurd c32 (nI_ge (b := 40) h (by decide))))
        subst eR
        have hx24 : xR ev b (fun _ => r0) H := ⟨fil_all hiT.1, fun j hj => hiT.2 j hj⟩
        refine lv_aload_n hx hb d_X_init_54 rfl (lv_at hl 0 rfl) ?_
        refine lv_bipush (v := 12) hx hb d_X_init_55 (by decide) ?_
        refine rz_newq (z := b + 42) (hz) hx hb hown (hts _ cl_X_29) (va_AO.use hK.2.2.2.2.2.2.2.1) hK.1 4 rfl (N' := 12) (by decide) rfl (by decide) (by show 1 + 40 + 1 ≤ 100; omega) (by show 40 + 40 * 7 + 12 ≤ 7065; omega) d_X_init_57 (fun H25 z26 o27 hat28 => ?_)
        have ho29 := pt_k ho (o27 b (by omega))
        have f30 : ∀ q : Nat, q < b → H25[q]? = H0[q]? := fun q hq => (o27 q (by omega)).trans (fo q hq)
        have ht31 := xR_k hx24 (fun q _ _ => o27 q (by omega))
        refine rw_putF hx hb hts in_X ck_X ok_X nm_X hown hK.1 ho29 rfl 2 (by decide) (hts _ fl_X_31) rfl hnm rfl (ok_X 2 (by decide)) rfl rfl (Nat.le_of_ble_eq_true rfl) (Nat.le_refl _) hL d_X_init_60 (fun H32 L33 z34 o35 hat36 hL37 => ?_)
        have s38 := z34.trans z26
        have f39 : ∀ q : Nat, q < b → H32[q]? = H0[q]? := fun q hq => (o35 q (by omega)).trans (f30 q hq)
        have ht40 := xR_k ht31 (fun q _ _ => o35 q (by omega))
        have ht41 := pt_k hat28 (o35 _ (by omega))
        refine lv_iconst (v := 0) hx hb d_X_init_63 (by decide) ?_
        refine lv_istore_n (lv' := [(2, .int 0), (0, .ref b)]) hx hb d_X_init_64 rfl hl (by decide) rfl (fun ls hl => ?_)
        have LPA : ∀ (n i : Nat) (ls : Array Slot) (H : Heap) (locs : List Loc), pt ev H b (oC 0 [.int (cls0 cn), .ref (b + 1), .ref (b + 42), .null, .null, .null, .int 0, .int 0, .int 0, .long 0]) → H.size = b + 43 + i → (∀ q : Nat, q < b → H[q]? = H0[q]?) → xR ev b (fun _ => r0) H → iT ev 4 12 2 (b + 43) i (aaV a0) H → (∀ q ∈ locs, b ≤ q.base) → i ≤ 12 → 12 - i < n → lv_has ls 3 [(0, .ref b), (2, .int (nI i))] → W p l e rm_X_init s m args below meth c H locs (42 + i) (332 + i * 4) QQ (F0 m 65 ls []) := by
          intro n
          induction n with
          | zero => intro i ls H locs _ _ _ _ _ _ h2 h3; exact absurd h3 (by omega)
          | succ n ih =>
            intro i ls H locs ho hz fo hR hiT hL hle hlt9 hl
            refine lv_iload_n hx hb d_X_init_65 rfl (lv_at hl 1 rfl) ?_
            refine lv_bipush (v := 12) hx hb d_X_init_66 (by decide) ?_
            refine lv_icmp_ge (tgt := 90) hx hb d_X_init_68 (by decide) (fun c68 => ?_) (fun c68 => ?_)
            · have eA : i = 12 := Nat.le_antisymm hle (Nat.not_lt.mp (fun h => absurd c68 (nI_ge (b := 12) h (by decide))))
              subst eA
              have hx42 : xA ev b (fun _ => a0) H := ⟨fil_all hiT.1, fun j hj => hiT.2 j hj⟩
              refine lv_aload_n hx hb d_X_init_90 rfl (lv_at hl 0 rfl) ?_
              refine lv_bipush (v := 40) hx hb d_X_init_91 (by decide) ?_
              refine rz_newq (z := b + 55) (hz) hx hb hown (hts _ cl_X_36) (va_AO.use hK.2.2.2.2.2.2.2.2) hK.1 5 rfl (N' := 40) (by decide) rfl (by decide) (by show 42 + 12 + 1 ≤ 100; omega) (by show 332 + 12 * 4 + 40 ≤ 7065; omega) d_X_init_93 (fun H43 z44 o45 hat46 => ?_)
              have ho47 := pt_k ho (o45 b (by omega))
              have f48 : ∀ q : Nat, q < b → H43[q]? = H0[q]? := fun q hq => (o45 q (by omega)).trans (fo q hq)
              have ht49 := xR_k hR (fun q _ _ => o45 q (by omega))
              have ht50 := xA_k hx42 (fun q _ _ => o45 q (by omega))
              refine rw_putF hx hb hts in_X ck_X ok_X nm_X hown hK.1 ho47 rfl 3 (by decide) (hts _ fl_X_38) rfl hnm rfl (ok_X 3 (by decide)) rfl rfl (Nat.le_of_ble_eq_true rfl) (Nat.le_refl _) hL d_X_init_96 (fun H51 L52 z53 o54 hat55 hL56 => ?_)
              have s57 := z53.trans z44
              have f58 : ∀ q : Nat, q < b → H51[q]? = H0[q]? := fun q hq => (o54 q (by omega)).trans (f48 q hq)
              have ht59 := xR_k ht49 (fun q _ _ => o54 q (by omega))
              have ht60 := xA_k ht50 (fun q _ _ => o54 q (by omega))
              have ht61 := pt_k hat46 (o54 _ (by omega))
              refine lv_iconst (v := 0) hx hb d_X_init_99 (by decide) ?_
              refine lv_istore_n (lv' := [(2, .int 0), (0, .ref b)]) hx hb d_X_init_100 rfl hl (by decide) rfl (fun ls hl => ?_)
              have LPT : ∀ (n i : Nat) (ls : Array Slot) (H : Heap) (locs : List Loc), pt ev H b (oC 0 [.int (cls0 cn), .ref (b + 1), .ref (b + 42), .ref (b + 55), .null, .null, .int 0, .int 0, .int 0, .long 0]) → H.size = b + 56 + i → (∀ q : Nat, q < b → H[q]? = H0[q]?) → xR ev b (fun _ => r0) H → xA ev b (fun _ => a0) H → iT ev 5 40 5 (b + 56) i (ttV t0) H → (∀ q ∈ locs, b ≤ q.base) → i ≤ 40 → 40 - i < n → lv_has ls 3 [(0, .ref b), (2, .int (nI i))] → W p l e rm_X_init s m args below meth c H locs (55 + i) (420 + i * 4) QQ (F0 m 101 ls []) := by
                intro n
                induction n with
                | zero => intro i ls H locs _ _ _ _ _ _ _ h2 h3; exact absurd h3 (by omega)
                | succ n ih =>
                  intro i ls H locs ho hz fo hR hA hiT hL hle hlt9 hl
                  refine lv_iload_n hx hb d_X_init_101 rfl (lv_at hl 1 rfl) ?_
                  refine lv_bipush (v := 40) hx hb d_X_init_102 (by decide) ?_
                  refine lv_icmp_ge (tgt := 126) hx hb d_X_init_104 (by decide) (fun c104 => ?_) (fun c104 => ?_)
                  · have eT : i = 40 := Nat.le_antisymm hle (Nat.not_lt.mp (fun h => absurd c104 (nI_ge (b := 40) h (by decide))))
                    subst eT
                    have hx62 : xT ev b (fun _ => t0) H := ⟨fil_all hiT.1, fun j hj => hiT.2 j hj⟩
                    refine lv_aload_n hx hb d_X_init_126 rfl (lv_at hl 0 rfl) ?_
                    refine rz_new (z := b + 96) (hz) hx hb hts in_N ck_N ok_N hown (hts _ cl_X_43) (hts _ iv_N) (hts _ iz_N) hK.1 (ci := 1) rfl (fs := [.null, .int 0]) (by decide) (by show 55 + 40 + 1 ≤ 100; omega) (by show 420 + 40 * 4 + 2 ≤ 7065; omega) d_X_init_127 (fun H63 z64 o65 hat66 => ?_)
                    have ho67 := pt_k ho (o65 b (by omega))
                    have f68 : ∀ q : Nat, q < b → H63[q]? = H0[q]? := fun q hq => (o65 q (by omega)).trans (fo q hq)
                    have ht69 := xR_k hR (fun q _ _ => o65 q (by omega))
                    have ht70 := xA_k hA (fun q _ _ => o65 q (by omega))
                    have ht71 := xT_k hx62 (fun q _ _ => o65 q (by omega))
                    refine lv_dup hx hb d_X_init_130 rfl ?_
                    refine cl_d ((va_runIN (As := []) (rest := [.ref (b + 96), .ref b]) S (c_N_init hat66 z64) ⟨va_cnB 0 hts (tb_I in_N_init) rfl rfl rfl (KG_nq hK (q := (45, my_N_init)) (by simp [NQ])) (hts _ iz_N) (by decide +kernel) ⟨Nat.le_of_ble_eq_true rfl, Nat.le_of_ble_eq_true rfl⟩, rfl, hts _ im_N_init⟩ (cP_S (KG_ok _) hK) rfl rfl hl.1 rfl (lv_room (Nat.le_of_ble_eq_true rfl)) d_X_init_131 ⟨(by show 55 + 40 + 1 + 1 ≤ 100; omega), (by show 420 + 40 * 4 + 2 + 4920 ≤ 7065; omega)⟩).run) hL (fun z h => by have h : _ ≤ z := h; show b ≤ z; omega) (fun H72 L73 hp74 hL75 => ?_)
                    have o76 := hp74.2.2
                    have s77 := hp74.2.1
                    have ho78 := pt_k ho67 (o76 b (by omega))
                    have f79 : ∀ q : Nat, q < b → H72[q]? = H0[q]? := fun q hq => (o76 q (by omega)).trans (f68 q hq)
                    have ht80 := xR_k ht69 (fun q _ _ => o76 q (by omega))
                    have ht81 := xA_k ht70 (fun q _ _ => o76 q (by omega))
                    have ht82 := xT_k ht71 (fun q _ _ => o76 q (by omega))
                    refine rw_putF hx hb hts in_X ck_X ok_X nm_X hown hK.1 ho78 rfl 4 (by decide) (hts _ fl_X_46) rfl hnm rfl (ok_X 4 (by decide)) rfl rfl (Nat.le_of_ble_eq_true rfl) (Nat.le_refl _) hL75 d_X_init_134 (fun H83 L84 z85 o86 hat87 hL88 => ?_)
                    have s89 := z85.trans s77
                    have f90 : ∀ q : Nat, q < b → H83[q]? = H0[q]? := fun q hq => (o86 q (by omega)).trans (f79 q hq)
                    have ht91 := xR_k ht80 (fun q _ _ => o86 q (by omega))
                    have ht92 := xA_k ht81 (fun q _ _ => o86 q (by omega))
                    have ht93 := xT_k ht82 (fun q _ _ => o86 q (by omega))
                    have ht94 := xN_k hp74.1 (fun q _ _ => o86 q (by omega))
                    refine lv_aload_n hx hb d_X_init_137 rfl (lv_at hl 0 rfl) ?_
                    refine rz_new (z := b + 98) (s89) hx hb hts in_P ck_P ok_P hown (hts _ cl_X_50) (hts _ iv_P) (hts _ iz_P) hK.1 (ci := 3) rfl (fs := [.null, .null, .int 0]) (by decide) (by show 55 + 40 + 1 + 1 + 1 ≤ 100; omega) (by show 420 + 40 * 4 + 2 + 4920 + 3 ≤ 7065; omega) d_X_init_138 (fun H95 z96 o97 hat98 => ?_)
                    have ho99 := pt_k hat87 (o97 b (by omega))
                    have f100 : ∀ q : Nat, q < b → H95[q]? = H0[q]? := fun q hq => (o97 q (by omega)).trans (f90 q hq)
                    have ht101 := xR_k ht91 (fun q _ _ => o97 q (by omega))
                    have ht102 := xA_k ht92 (fun q _ _ => o97 q (by omega))
                    have ht103 := xT_k ht93 (fun q _ _ => o97 q (by omega))
                    have ht104 := xN_k ht94 (fun q _ _ => o97 q (by omega))
                    refine lv_dup hx hb d_X_init_141 rfl ?_
                    refine cl_d ((va_runIN (As := []) (rest := [.ref (b + 98), .ref b]) S (c_P_init hat98 z96) ⟨va_cnB 0 hts (tb_I in_P_init) rfl rfl rfl (KG_nq hK (q := (52, my_P_init)) (by simp [NQ])) (hts _ iz_P) (by decide +kernel) ⟨Nat.le_of_ble_eq_true rfl, Nat.le_of_ble_eq_true rfl⟩, rfl, hts _ im_P_init⟩ (cP_S (KG_ok _) hK) rfl rfl hl.1 rfl (lv_room (Nat.le_of_ble_eq_true rfl)) d_X_init_142 ⟨(by show 55 + 40 + 1 + 1 + 1 + 2 ≤ 100; omega), (by show 420 + 40 * 4 + 2 + 4920 + 3 + 1560 ≤ 7065; omega)⟩).run) hL88 (fun z h => by have h : _ ≤ z := h; show b ≤ z; omega) (fun H105 L106 hp107 hL108 => ?_)
                    have o109 := hp107.2.2
                    have s110 := hp107.2.1
                    have ho111 := pt_k ho99 (o109 b (by omega))
                    have f112 : ∀ q : Nat, q < b → H105[q]? = H0[q]? := fun q hq => (o109 q (by omega)).trans (f100 q hq)
                    have ht113 := xR_k ht101 (fun q _ _ => o109 q (by omega))
                    have ht114 := xA_k ht102 (fun q _ _ => o109 q (by omega))
                    have ht115 := xT_k ht103 (fun q _ _ => o109 q (by omega))
                    have ht116 := xN_k ht104 (fun q _ _ => o109 q (by omega))
                    refine rw_putF hx hb hts in_X ck_X ok_X nm_X hown hK.1 ho111 rfl 5 (by decide) (hts _ fl_X_53) rfl hnm rfl (ok_X 5 (by decide)) rfl rfl (Nat.le_of_ble_eq_true rfl) (Nat.le_refl _) hL108 d_X_init_145 (fun H117 L118 z119 o120 hat121 hL122 => ?_)
                    have s123 := z119.trans s110
                    have f124 : ∀ q : Nat, q < b → H117[q]? = H0[q]? := fun q hq => (o120 q (by omega)).trans (f112 q hq)
                    have ht125 := xR_k ht113 (fun q _ _ => o120 q (by omega))
                    have ht126 := xA_k ht114 (fun q _ _ => o120 q (by omega))
                    have ht127 := xT_k ht115 (fun q _ _ => o120 q (by omega))
                    have ht128 := xN_k ht116 (fun q _ _ => o120 q (by omega))
                    have ht129 := xP_k hp107.1 (fun q _ _ => o120 q (by omega))
                    exact rt_dv hQ hx hb hr hlk ⟨⟨⟨hat121, ht125, ht126, ht127, xB_0 cn⟩, ⟨_, KP_0 cn, ht128⟩, ht129, ⟨by omega, fun q hq => (f124 q (by omega)).trans (hO.2 q hq)⟩, hz0⟩, s123, f124⟩ hL122 (by omega) (by omega) d_X_init_148
                  · have hi : i < 40 := Nat.not_le.mp (fun h => c104 (nI_le (a := 40) h (by omega)))
                    refine lv_aload_n hx hb d_X_init_107 rfl (lv_at hl 0 rfl) ?_
                    refine rw_get hx hb hts in_X hown hK.1 ho rfl 3 (by decide) (hts _ fl_X_38) rfl d_X_init_108 ?_
                    refine lv_iload_n hx hb d_X_init_111 rfl (lv_at hl 1 rfl) ?_
                    refine rz_new (z := b + 56 + i) (hz) hx hb hts in_T ck_T ok_T hown (hts _ cl_X_36) (hts _ iv_T) (hts _ iz_T) hK.1 (ci := 5) rfl (fs := [.int 0, .int 0, .long 0, .long 0]) (by decide) (by show 55 + i + 1 ≤ 100; omega) (by show 420 + i * 4 + 4 ≤ 7065; omega) d_X_init_112 (fun H130 z131 o132 hat133 => ?_)
                    have ho134 := pt_k ho (o132 b (by omega))
                    have f135 : ∀ q : Nat, q < b → H130[q]? = H0[q]? := fun q hq => (o132 q (by omega)).trans (fo q hq)
                    have ht136 := xR_k hR (fun q _ _ => o132 q (by omega))
                    have ht137 := xA_k hA (fun q _ _ => o132 q (by omega))
                    have ht138 := iT_k hiT (fun q _ _ => o132 q (by omega)) (by omega)
                    refine lv_dup hx hb d_X_init_115 rfl ?_
                    refine cl_v ((va_runIN (As := []) (rest := [.ref (b + 56 + i), .int (nI i), .ref (b + 55)]) S (c_T_init (a := (b + 56 + i))) ⟨va_cnB 0 hts (tb_I in_T_init) rfl rfl rfl (KG_nq hK (q := (42, my_T_init)) (by simp [NQ])) (hts _ iz_T) (by decide +kernel) ⟨Nat.le_of_ble_eq_true rfl, Nat.le_of_ble_eq_true rfl⟩, rfl, hts _ im_T_init⟩ (cP_S (KG_ok _) hK) rfl rfl hl.1 rfl (lv_room (Nat.le_of_ble_eq_true rfl)) d_X_init_116 ⟨(by show 55 + i + 1 + 0 ≤ 100; omega), (by show 420 + i * 4 + 4 + 0 ≤ 7065; omega)⟩).run) ?_
                    refine rw_aast hx hb hK.1 5 5 ht138.1 rfl hat133 rfl i rfl hi (by decide) (by show b ≤ _; omega) hL d_X_init_119 (fun H139 L140 z141 o142 hat143 hL144 => ?_)
                    have s145 := z141.trans z131
                    have ht146 : iT ev 5 40 5 (b + 56) (i + 1) (ttV t0) H139 := ⟨by rw [← fil_s]; exact hat143, fun j hj => by
                        by_cases e9 : j = i
                        · subst e9; exact pt_k hat133 (o142 _ (by omega))
                        · exact pt_k (ht138.2 j (by omega)) (o142 _ (by omega))⟩
                    have ho147 := pt_k ho134 (o142 b (by omega))
                    have f148 : ∀ q : Nat, q < b → H139[q]? = H0[q]? := fun q hq => (o142 q (by omega)).trans (f135 q hq)
                    have ht149 := xR_k ht136 (fun q _ _ => o142 q (by omega))
                    have ht150 := xA_k ht137 (fun q _ _ => o142 q (by omega))
                    refine lv_iinc (v := (nI (i + 1))) (lv' := [(2, .int (nI (i + 1))), (0, .ref b)]) hx hb d_X_init_120 hl (k := 1) rfl ((nI_1 i)) (by decide) rfl (fun ls hl => ?_)
                    refine lv_goto (tgt := 101) hx hb d_X_init_123 (by decide) ?_
                    exact W.widen (k := 55 + (i + 1)) (n := 420 + (i + 1) * 4) (by omega) (by omega) (ih (i + 1) ls _ _ ho147 s145 f148 ht149 ht150 ht146 hL144 (by omega) (by omega) (lv_sub hl [1, 0] rfl))
              exact W.widen (k := 55 + 0) (n := 420 + 0 * 4) (by omega) (by omega) (LPT _ 0 ls _ _ hat55 s57 f58 ht59 ht60 ⟨ht61, fun j hj => absurd hj (by omega)⟩ hL56 (Nat.zero_le _) (Nat.lt_succ_self _) (lv_sub hl [1, 0] rfl))
            · have hi : i < 12 := Nat.not_le.mp (fun h => c68 (nI_le (a := 12) h (by omega)))
              refine lv_aload_n hx hb d_X_init_71 rfl (lv_at hl 0 rfl) ?_
              refine rw_get hx hb hts in_X hown hK.1 ho rfl 2 (by decide) (hts _ fl_X_31) rfl d_X_init_72 ?_
              refine lv_iload_n hx hb d_X_init_75 rfl (lv_at hl 1 rfl) ?_
              refine rz_new (z := b + 43 + i) (hz) hx hb hts in_A ck_A ok_A hown (hts _ cl_X_29) (hts _ iv_A) (hts _ iz_A) hK.1 (ci := 2) rfl (fs := [.long 0, .long 0, .long 0, .long 0]) (by decide) (by show 42 + i + 1 ≤ 100; omega) (by show 332 + i * 4 + 4 ≤ 7065; omega) d_X_init_76 (fun H151 z152 o153 hat154 => ?_)
              have ho155 := pt_k ho (o153 b (by omega))
              have f156 : ∀ q : Nat, q < b → H151[q]? = H0[q]? := fun q hq => (o153 q (by omega)).trans (fo q hq)
              have ht157 := xR_k hR (fun q _ _ => o153 q (by omega))
              have ht158 := iT_k hiT (fun q _ _ => o153 q (by omega)) (by omega)
              refine lv_dup hx hb d_X_init_79 rfl ?_
              refine cl_v ((va_runIN (As := []) (rest := [.ref (b + 43 + i), .int (nI i), .ref (b + 42)]) S (c_A_init (a := (b + 43 + i))) ⟨va_cnB 0 hts (tb_I in_A_init) rfl rfl rfl (KG_nq hK (q := (35, my_A_init)) (by simp [NQ])) (hts _ iz_A) (by decide +kernel) ⟨Nat.le_of_ble_eq_true rfl, Nat.le_of_ble_eq_true rfl⟩, rfl, hts _ im_A_init⟩ (cP_S (KG_ok _) hK) rfl rfl hl.1 rfl (lv_room (Nat.le_of_ble_eq_true rfl)) d_X_init_80 ⟨(by show 42 + i + 1 + 0 ≤ 100; omega), (by show 332 + i * 4 + 4 + 0 ≤ 7065; omega)⟩).run) ?_
              refine rw_aast hx hb hK.1 4 2 ht158.1 rfl hat154 rfl i rfl hi (by decide) (by show b ≤ _; omega) hL d_X_init_83 (fun H159 L160 z161 o162 hat163 hL164 => ?_)
              have s165 := z161.trans z152
              have ht166 : iT ev 4 12 2 (b + 43) (i + 1) (aaV a0) H159 := ⟨by rw [← fil_s]; exact hat163, fun j hj => by
                  by_cases e9 : j = i
                  · subst e9; exact pt_k hat154 (o162 _ (by omega))
                  · exact pt_k (ht158.2 j (by omega)) (o162 _ (by omega))⟩
              have ho167 := pt_k ho155 (o162 b (by omega))
              have f168 : ∀ q : Nat, q < b → H159[q]? = H0[q]? := fun q hq => (o162 q (by omega)).trans (f156 q hq)
              have ht169 := xR_k ht157 (fun q _ _ => o162 q (by omega))
              refine lv_iinc (v := (nI (i + 1))) (lv' := [(2, .int (nI (i + 1))), (0, .ref b)]) hx hb d_X_init_84 hl (k := 1) rfl ((nI_1 i)) (by decide) rfl (fun ls hl => ?_)
              refine lv_goto (tgt := 65) hx hb d_X_init_87 (by decide) ?_
              exact W.widen (k := 42 + (i + 1)) (n := 332 + (i + 1) * 4) (by omega) (by omega) (ih (i + 1) ls _ _ ho167 s165 f168 ht169 ht166 hL164 (by omega) (by omega) (lv_sub hl [1, 0] rfl))
        exact W.widen (k := 42 + 0) (n := 332 + 0 * 4) (by omega) (by omega) (LPA _ 0 ls _ _ hat36 s38 f39 ht40 ⟨ht41, fun j hj => absurd hj (by omega)⟩ hL37 (Nat.zero_le _) (Nat.lt_succ_self _) (lv_sub hl [1, 0] rfl))
      · have hi : i < 40 := Nat.not_le.mp (fun h => c32 (nI_le (a := 40) h (by omega)))
        refine lv_aload_n hx hb d_X_init_35 rfl (lv_at hl 0 rfl) ?_
        refine rw_get hx hb hts in_X hown hK.1 ho rfl 1 (by decide) (hts _ fl_X_24) rfl d_X_init_36 ?_
        refine lv_iload_n hx hb d_X_init_39 rfl (lv_at hl 1 rfl) ?_
        refine rz_new (z := b + 2 + i) (hz) hx hb hts in_R ck_R ok_R hown (hts _ cl_X_22) (hts _ iv_R) (hts _ iz_R) hK.1 (ci := 4) rfl (fs := [.int 0, .int 0, .int 0, .int 0, .long 0, .int 0, .int 0]) (by decide) (by show 1 + i + 1 ≤ 100; omega) (by show 40 + i * 7 + 7 ≤ 7065; omega) d_X_init_40 (fun H170 z171 o172 hat173 => ?_)
        have ho174 := pt_k ho (o172 b (by omega))
        have f175 : ∀ q : Nat, q < b → H170[q]? = H0[q]? := fun q hq => (o172 q (by omega)).trans (fo q hq)
        have ht176 := iT_k hiT (fun q _ _ => o172 q (by omega)) (by omega)
        refine lv_dup hx hb d_X_init_43 rfl ?_
        refine cl_d ((va_runIN (As := []) (rest := [.ref (b + 2 + i), .int (nI i), .ref (b + 1)]) S (c_R_init hat173) ⟨va_cnB 0 hts (tb_I in_R_init) rfl rfl rfl (KG_nq hK (q := (28, my_R_init)) (by simp [NQ])) (hts _ iz_R) (by decide +kernel) ⟨Nat.le_of_ble_eq_true rfl, Nat.le_of_ble_eq_true rfl⟩, rfl, hts _ im_R_init⟩ (cP_S (KG_ok _) hK) rfl rfl hl.1 rfl (lv_room (Nat.le_of_ble_eq_true rfl)) d_X_init_44 ⟨(by show 1 + i + 1 + 0 ≤ 100; omega), (by show 40 + i * 7 + 7 + 0 ≤ 7065; omega)⟩).run) hL (fun z h => by have h : _ ≤ z := h; show b ≤ z; omega) (fun H177 L178 hp179 hL180 => ?_)
        have s181 := hp179.2.1.trans z171
        have hBr := hp179.2
        have o182 : ∀ q : Nat, q < (b + 2 + i) → H177[q]? = _ := fun q hq => hBr.2 q (Or.inl hq)
        have ho183 := pt_k ho174 (o182 b (by omega))
        have f184 : ∀ q : Nat, q < b → H177[q]? = H0[q]? := fun q hq => (o182 q (by omega)).trans (f175 q hq)
        have ht185 := iT_k ht176 (fun q _ _ => o182 q (by omega)) (by omega)
        refine rw_aast hx hb hK.1 3 4 ht185.1 rfl hp179.1 rfl i rfl hi (by decide) (by show b ≤ _; omega) hL180 d_X_init_47 (fun H186 L187 z188 o189 hat190 hL191 => ?_)
        have s192 := z188.trans s181
        have ht193 : iT ev 3 40 4 (b + 2) (i + 1) (ruV r0) H186 := ⟨by rw [← fil_s]; exact hat190, fun j hj => by
            by_cases e9 : j = i
            · subst e9; exact pt_k hp179.1 (o189 _ (by omega))
            · exact pt_k (ht185.2 j (by omega)) (o189 _ (by omega))⟩
        have ho194 := pt_k ho183 (o189 b (by omega))
        have f195 : ∀ q : Nat, q < b → H186[q]? = H0[q]? := fun q hq => (o189 q (by omega)).trans (f184 q hq)
        refine lv_iinc (v := (nI (i + 1))) (lv' := [(2, .int (nI (i + 1))), (0, .ref b)]) hx hb d_X_init_48 hl (k := 1) rfl ((nI_1 i)) (by decide) rfl (fun ls hl => ?_)
        refine lv_goto (tgt := 29) hx hb d_X_init_51 (by decide) ?_
        exact W.widen (k := 1 + (i + 1)) (n := 40 + (i + 1) * 7) (by omega) (by omega) (ih (i + 1) ls _ _ ho194 s192 f195  ht193 hL191 (by omega) (by omega) (lv_sub hl [1, 0] rfl))
  exact W.widen (k := 1 + 0) (n := 40 + 0 * 7) (by omega) (by omega) (LPR _ 0 ls _ _ hat19 s21 f22  ⟨ht23, fun j hj => absurd hj (by omega)⟩ hL20 (Nat.zero_le _) (Nat.lt_succ_self _) (lv_sub hl [1, 0] rfl))
end
