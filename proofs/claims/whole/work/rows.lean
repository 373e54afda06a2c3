section
-- ===== PART A: goes FIRST, ahead of the names: the tables' words, and 'selects' of the private methods out of them =====
/-- a private method of a class that the tables say can be made, by its rows of tables_1 -/
def lw_okq (q : MethodName × Nat) : Prop := (q.1.cls ≠ "java/lang/invoke/MethodHandle" ∧ q.1.cls ≠ "java/lang/invoke/VarHandle") ∧ Cond.instantiable q.1.cls q.2 ∈ tables_1 ∧ Cond.privateMethod q.1 ∈ tables_1 ∧ Cond.instanceMethod q.1 ∈ tables_1
theorem lw_p0 : lw_okq (⟨"TagGuide$ModelReader", "takes", "(C)Z"⟩, 6) := ⟨⟨by decide +kernel, by decide +kernel⟩, List.mem_of_getElem? (i := 39) (by decide +kernel), List.mem_of_getElem? (i := 366) (by decide +kernel), List.mem_of_getElem? (i := 367) (by decide +kernel)⟩
theorem lw_p1 : lw_okq (⟨"TagGuide$ModelReader", "readsExpression", "(I)Z"⟩, 6) := ⟨⟨by decide +kernel, by decide +kernel⟩, List.mem_of_getElem? (i := 39) (by decide +kernel), List.mem_of_getElem? (i := 382) (by decide +kernel), List.mem_of_getElem? (i := 383) (by decide +kernel)⟩
theorem lw_p2 : lw_okq (⟨"TagGuide$ModelReader", "readsSequence", "(I)Z"⟩, 6) := ⟨⟨by decide +kernel, by decide +kernel⟩, List.mem_of_getElem? (i := 39) (by decide +kernel), List.mem_of_getElem? (i := 386) (by decide +kernel), List.mem_of_getElem? (i := 387) (by decide +kernel)⟩
theorem lw_p3 : lw_okq (⟨"TagGuide$ModelReader", "readsItem", "(I)Z"⟩, 6) := ⟨⟨by decide +kernel, by decide +kernel⟩, List.mem_of_getElem? (i := 39) (by decide +kernel), List.mem_of_getElem? (i := 390) (by decide +kernel), List.mem_of_getElem? (i := 391) (by decide +kernel)⟩
theorem lw_p4 : lw_okq (⟨"TagGuide$ModelReader", "readsName", "()Z"⟩, 6) := ⟨⟨by decide +kernel, by decide +kernel⟩, List.mem_of_getElem? (i := 39) (by decide +kernel), List.mem_of_getElem? (i := 394) (by decide +kernel), List.mem_of_getElem? (i := 395) (by decide +kernel)⟩
theorem lw_p5 : lw_okq (⟨"TagGuide$ModelReader", "readMark", "()V"⟩, 6) := ⟨⟨by decide +kernel, by decide +kernel⟩, List.mem_of_getElem? (i := 39) (by decide +kernel), List.mem_of_getElem? (i := 403) (by decide +kernel), List.mem_of_getElem? (i := 404) (by decide +kernel)⟩
theorem lw_p6 : lw_okq (⟨"TagGuide$Models", "findFertileNames", "()V"⟩, 3) := ⟨⟨by decide +kernel, by decide +kernel⟩, List.mem_of_getElem? (i := 92) (by decide +kernel), List.mem_of_getElem? (i := 418) (by decide +kernel), List.mem_of_getElem? (i := 419) (by decide +kernel)⟩
theorem lw_p7 : lw_okq (⟨"TagGuide$Model", "followersOf", "(I)I"⟩, 6) := ⟨⟨by decide +kernel, by decide +kernel⟩, List.mem_of_getElem? (i := 45) (by decide +kernel), List.mem_of_getElem? (i := 427) (by decide +kernel), List.mem_of_getElem? (i := 428) (by decide +kernel)⟩
theorem lw_p8 : lw_okq (⟨"TagGuide", "change", "(III)V"⟩, 10) := ⟨⟨by decide +kernel, by decide +kernel⟩, List.mem_of_getElem? (i := 16) (by decide +kernel), List.mem_of_getElem? (i := 481) (by decide +kernel), List.mem_of_getElem? (i := 482) (by decide +kernel)⟩
theorem lw_p9 : lw_okq (⟨"TagGuide", "refresh", "()V"⟩, 10) := ⟨⟨by decide +kernel, by decide +kernel⟩, List.mem_of_getElem? (i := 16) (by decide +kernel), List.mem_of_getElem? (i := 497) (by decide +kernel), List.mem_of_getElem? (i := 498) (by decide +kernel)⟩
theorem lw_p10 : lw_okq (⟨"TagGuide$Tree", "take", "(ILTagGuide$Faults;)I"⟩, 8) := ⟨⟨by decide +kernel, by decide +kernel⟩, List.mem_of_getElem? (i := 129) (by decide +kernel), List.mem_of_getElem? (i := 513) (by decide +kernel), List.mem_of_getElem? (i := 514) (by decide +kernel)⟩
theorem lw_p11 : lw_okq (⟨"TagGuide$Tree", "takeStartTag", "(IILTagGuide$Faults;)V"⟩, 8) := ⟨⟨by decide +kernel, by decide +kernel⟩, List.mem_of_getElem? (i := 129) (by decide +kernel), List.mem_of_getElem? (i := 526) (by decide +kernel), List.mem_of_getElem? (i := 527) (by decide +kernel)⟩
theorem lw_p12 : lw_okq (⟨"TagGuide$Tree", "begins", "(IILTagGuide$Faults;)Z"⟩, 8) := ⟨⟨by decide +kernel, by decide +kernel⟩, List.mem_of_getElem? (i := 129) (by decide +kernel), List.mem_of_getElem? (i := 530) (by decide +kernel), List.mem_of_getElem? (i := 531) (by decide +kernel)⟩
theorem lw_p13 : lw_okq (⟨"TagGuide$Tree", "addTag", "(III)V"⟩, 8) := ⟨⟨by decide +kernel, by decide +kernel⟩, List.mem_of_getElem? (i := 129) (by decide +kernel), List.mem_of_getElem? (i := 534) (by decide +kernel), List.mem_of_getElem? (i := 535) (by decide +kernel)⟩
theorem lw_p14 : lw_okq (⟨"TagGuide$Tree", "takeEmptyTag", "(IILTagGuide$Faults;)V"⟩, 8) := ⟨⟨by decide +kernel, by decide +kernel⟩, List.mem_of_getElem? (i := 129) (by decide +kernel), List.mem_of_getElem? (i := 543) (by decide +kernel), List.mem_of_getElem? (i := 544) (by decide +kernel)⟩
theorem lw_p15 : lw_okq (⟨"TagGuide$Tree", "takeEndTag", "(IILTagGuide$Faults;)V"⟩, 8) := ⟨⟨by decide +kernel, by decide +kernel⟩, List.mem_of_getElem? (i := 129) (by decide +kernel), List.mem_of_getElem? (i := 551) (by decide +kernel), List.mem_of_getElem? (i := 552) (by decide +kernel)⟩
def lw_privs_1 : List (MethodName × Nat) := [(⟨"TagGuide$ModelReader", "takes", "(C)Z"⟩, 6), (⟨"TagGuide$ModelReader", "readsExpression", "(I)Z"⟩, 6), (⟨"TagGuide$ModelReader", "readsSequence", "(I)Z"⟩, 6), (⟨"TagGuide$ModelReader", "readsItem", "(I)Z"⟩, 6), (⟨"TagGuide$ModelReader", "readsName", "()Z"⟩, 6), (⟨"TagGuide$ModelReader", "readMark", "()V"⟩, 6), (⟨"TagGuide$Models", "findFertileNames", "()V"⟩, 3), (⟨"TagGuide$Model", "followersOf", "(I)I"⟩, 6), (⟨"TagGuide", "change", "(III)V"⟩, 10), (⟨"TagGuide", "refresh", "()V"⟩, 10), (⟨"TagGuide$Tree", "take", "(ILTagGuide$Faults;)I"⟩, 8), (⟨"TagGuide$Tree", "takeStartTag", "(IILTagGuide$Faults;)V"⟩, 8), (⟨"TagGuide$Tree", "begins", "(IILTagGuide$Faults;)Z"⟩, 8), (⟨"TagGuide$Tree", "addTag", "(III)V"⟩, 8), (⟨"TagGuide$Tree", "takeEmptyTag", "(IILTagGuide$Faults;)V"⟩, 8), (⟨"TagGuide$Tree", "takeEndTag", "(IILTagGuide$Faults;)V"⟩, 8)]
theorem lw_r1 : ∀ q ∈ lw_privs_1, lw_okq q := List.forall_mem_cons.mpr ⟨lw_p0, List.forall_mem_cons.mpr ⟨lw_p1, List.forall_mem_cons.mpr ⟨lw_p2, List.forall_mem_cons.mpr ⟨lw_p3, List.forall_mem_cons.mpr ⟨lw_p4, List.forall_mem_cons.mpr ⟨lw_p5, List.forall_mem_cons.mpr ⟨lw_p6, List.forall_mem_cons.mpr ⟨lw_p7, List.forall_mem_cons.mpr ⟨lw_p8, List.forall_mem_cons.mpr ⟨lw_p9, List.forall_mem_cons.mpr ⟨lw_p10, List.forall_mem_cons.mpr ⟨lw_p11, List.forall_mem_cons.mpr ⟨lw_p12, List.forall_mem_cons.mpr ⟨lw_p13, List.forall_mem_cons.mpr ⟨lw_p14, List.forall_mem_cons.mpr ⟨lw_p15, fun _ h => absurd h List.not_mem_nil⟩⟩⟩⟩⟩⟩⟩⟩⟩⟩⟩⟩⟩⟩⟩⟩
theorem lw_p16 : lw_okq (⟨"TagGuide$Tree", "latestOpenWith", "(I)I"⟩, 8) := ⟨⟨by decide +kernel, by decide +kernel⟩, List.mem_of_getElem? (i := 129) (by decide +kernel), List.mem_of_getElem? (i := 555) (by decide +kernel), List.mem_of_getElem? (i := 556) (by decide +kernel)⟩
theorem lw_p17 : lw_okq (⟨"TagGuide$Tree", "closeUpTo", "(II)V"⟩, 8) := ⟨⟨by decide +kernel, by decide +kernel⟩, List.mem_of_getElem? (i := 129) (by decide +kernel), List.mem_of_getElem? (i := 559) (by decide +kernel), List.mem_of_getElem? (i := 560) (by decide +kernel)⟩
theorem lw_p18 : lw_okq (⟨"TagGuide$Tree", "takeCharacter", "(ILTagGuide$Faults;)V"⟩, 8) := ⟨⟨by decide +kernel, by decide +kernel⟩, List.mem_of_getElem? (i := 129) (by decide +kernel), List.mem_of_getElem? (i := 563) (by decide +kernel), List.mem_of_getElem? (i := 564) (by decide +kernel)⟩
theorem lw_p19 : lw_okq (⟨"TagGuide", "reply", "(III)I"⟩, 10) := ⟨⟨by decide +kernel, by decide +kernel⟩, List.mem_of_getElem? (i := 16) (by decide +kernel), List.mem_of_getElem? (i := 597) (by decide +kernel), List.mem_of_getElem? (i := 598) (by decide +kernel)⟩
theorem lw_p20 : lw_okq (⟨"TagGuide", "offerAt", "(I)I"⟩, 10) := ⟨⟨by decide +kernel, by decide +kernel⟩, List.mem_of_getElem? (i := 16) (by decide +kernel), List.mem_of_getElem? (i := 601) (by decide +kernel), List.mem_of_getElem? (i := 602) (by decide +kernel)⟩
theorem lw_p21 : lw_okq (⟨"TagGuide", "renameAt", "(II)I"⟩, 10) := ⟨⟨by decide +kernel, by decide +kernel⟩, List.mem_of_getElem? (i := 16) (by decide +kernel), List.mem_of_getElem? (i := 622) (by decide +kernel), List.mem_of_getElem? (i := 623) (by decide +kernel)⟩
theorem lw_p22 : lw_okq (⟨"TagGuide$Former", "copy", "(II)V"⟩, 5) := ⟨⟨by decide +kernel, by decide +kernel⟩, List.mem_of_getElem? (i := 236) (by decide +kernel), List.mem_of_getElem? (i := 651) (by decide +kernel), List.mem_of_getElem? (i := 652) (by decide +kernel)⟩
theorem lw_p23 : lw_okq (⟨"TagGuide$Former", "put", "(I)V"⟩, 5) := ⟨⟨by decide +kernel, by decide +kernel⟩, List.mem_of_getElem? (i := 236) (by decide +kernel), List.mem_of_getElem? (i := 656) (by decide +kernel), List.mem_of_getElem? (i := 657) (by decide +kernel)⟩
theorem lw_p24 : lw_okq (⟨"TagGuide$Former", "startLine", "(I)V"⟩, 5) := ⟨⟨by decide +kernel, by decide +kernel⟩, List.mem_of_getElem? (i := 236) (by decide +kernel), List.mem_of_getElem? (i := 660) (by decide +kernel), List.mem_of_getElem? (i := 661) (by decide +kernel)⟩
theorem lw_p25 : lw_okq (⟨"TagGuide$Former", "addForm", "(II)V"⟩, 5) := ⟨⟨by decide +kernel, by decide +kernel⟩, List.mem_of_getElem? (i := 236) (by decide +kernel), List.mem_of_getElem? (i := 664) (by decide +kernel), List.mem_of_getElem? (i := 665) (by decide +kernel)⟩
theorem lw_p26 : lw_okq (⟨"TagGuideModel", "takeDraft", "(C)I"⟩, 44) := ⟨⟨by decide +kernel, by decide +kernel⟩, List.mem_of_getElem? (i := 721) (by decide +kernel), List.mem_of_getElem? (i := 869) (by decide +kernel), List.mem_of_getElem? (i := 870) (by decide +kernel)⟩
theorem lw_p27 : lw_okq (⟨"TagGuideModel", "count", "(Z)I"⟩, 44) := ⟨⟨by decide +kernel, by decide +kernel⟩, List.mem_of_getElem? (i := 721) (by decide +kernel), List.mem_of_getElem? (i := 876) (by decide +kernel), List.mem_of_getElem? (i := 877) (by decide +kernel)⟩
theorem lw_p28 : lw_okq (⟨"TagGuideModel", "at", "(I)I"⟩, 44) := ⟨⟨by decide +kernel, by decide +kernel⟩, List.mem_of_getElem? (i := 721) (by decide +kernel), List.mem_of_getElem? (i := 880) (by decide +kernel), List.mem_of_getElem? (i := 881) (by decide +kernel)⟩
theorem lw_p29 : lw_okq (⟨"TagGuideModel", "readNothing", "()V"⟩, 44) := ⟨⟨by decide +kernel, by decide +kernel⟩, List.mem_of_getElem? (i := 721) (by decide +kernel), List.mem_of_getElem? (i := 884) (by decide +kernel), List.mem_of_getElem? (i := 885) (by decide +kernel)⟩
theorem lw_p30 : lw_okq (⟨"TagGuideModel", "isExpression", "(I)Z"⟩, 44) := ⟨⟨by decide +kernel, by decide +kernel⟩, List.mem_of_getElem? (i := 721) (by decide +kernel), List.mem_of_getElem? (i := 888) (by decide +kernel), List.mem_of_getElem? (i := 889) (by decide +kernel)⟩
theorem lw_p31 : lw_okq (⟨"TagGuideModel", "readExpression", "(I)V"⟩, 44) := ⟨⟨by decide +kernel, by decide +kernel⟩, List.mem_of_getElem? (i := 721) (by decide +kernel), List.mem_of_getElem? (i := 892) (by decide +kernel), List.mem_of_getElem? (i := 893) (by decide +kernel)⟩
def lw_privs_2 : List (MethodName × Nat) := [(⟨"TagGuide$Tree", "latestOpenWith", "(I)I"⟩, 8), (⟨"TagGuide$Tree", "closeUpTo", "(II)V"⟩, 8), (⟨"TagGuide$Tree", "takeCharacter", "(ILTagGuide$Faults;)V"⟩, 8), (⟨"TagGuide", "reply", "(III)I"⟩, 10), (⟨"TagGuide", "offerAt", "(I)I"⟩, 10), (⟨"TagGuide", "renameAt", "(II)I"⟩, 10), (⟨"TagGuide$Former", "copy", "(II)V"⟩, 5), (⟨"TagGuide$Former", "put", "(I)V"⟩, 5), (⟨"TagGuide$Former", "startLine", "(I)V"⟩, 5), (⟨"TagGuide$Former", "addForm", "(II)V"⟩, 5), (⟨"TagGuideModel", "takeDraft", "(C)I"⟩, 44), (⟨"TagGuideModel", "count", "(Z)I"⟩, 44), (⟨"TagGuideModel", "at", "(I)I"⟩, 44), (⟨"TagGuideModel", "readNothing", "()V"⟩, 44), (⟨"TagGuideModel", "isExpression", "(I)Z"⟩, 44), (⟨"TagGuideModel", "readExpression", "(I)V"⟩, 44)]
theorem lw_r2 : ∀ q ∈ lw_privs_2, lw_okq q := List.forall_mem_cons.mpr ⟨lw_p16, List.forall_mem_cons.mpr ⟨lw_p17, List.forall_mem_cons.mpr ⟨lw_p18, List.forall_mem_cons.mpr ⟨lw_p19, List.forall_mem_cons.mpr ⟨lw_p20, List.forall_mem_cons.mpr ⟨lw_p21, List.forall_mem_cons.mpr ⟨lw_p22, List.forall_mem_cons.mpr ⟨lw_p23, List.forall_mem_cons.mpr ⟨lw_p24, List.forall_mem_cons.mpr ⟨lw_p25, List.forall_mem_cons.mpr ⟨lw_p26, List.forall_mem_cons.mpr ⟨lw_p27, List.forall_mem_cons.mpr ⟨lw_p28, List.forall_mem_cons.mpr ⟨lw_p29, List.forall_mem_cons.mpr ⟨lw_p30, List.forall_mem_cons.mpr ⟨lw_p31, fun _ h => absurd h List.not_mem_nil⟩⟩⟩⟩⟩⟩⟩⟩⟩⟩⟩⟩⟩⟩⟩⟩
theorem lw_p32 : lw_okq (⟨"TagGuideModel", "setPart", "(IZIIZ)V"⟩, 44) := ⟨⟨by decide +kernel, by decide +kernel⟩, List.mem_of_getElem? (i := 721) (by decide +kernel), List.mem_of_getElem? (i := 896) (by decide +kernel), List.mem_of_getElem? (i := 897) (by decide +kernel)⟩
theorem lw_p33 : lw_okq (⟨"TagGuideModel", "choose", "(I)V"⟩, 44) := ⟨⟨by decide +kernel, by decide +kernel⟩, List.mem_of_getElem? (i := 721) (by decide +kernel), List.mem_of_getElem? (i := 900) (by decide +kernel), List.mem_of_getElem? (i := 901) (by decide +kernel)⟩
theorem lw_p34 : lw_okq (⟨"TagGuideModel", "link", "(II)V"⟩, 44) := ⟨⟨by decide +kernel, by decide +kernel⟩, List.mem_of_getElem? (i := 721) (by decide +kernel), List.mem_of_getElem? (i := 904) (by decide +kernel), List.mem_of_getElem? (i := 905) (by decide +kernel)⟩
theorem lw_p35 : lw_okq (⟨"TagGuideModel", "append", "(IIIZ)V"⟩, 44) := ⟨⟨by decide +kernel, by decide +kernel⟩, List.mem_of_getElem? (i := 721) (by decide +kernel), List.mem_of_getElem? (i := 908) (by decide +kernel), List.mem_of_getElem? (i := 909) (by decide +kernel)⟩
theorem lw_p36 : lw_okq (⟨"TagGuideModel", "steps", "(III)I"⟩, 44) := ⟨⟨by decide +kernel, by decide +kernel⟩, List.mem_of_getElem? (i := 721) (by decide +kernel), List.mem_of_getElem? (i := 916) (by decide +kernel), List.mem_of_getElem? (i := 917) (by decide +kernel)⟩
theorem lw_p37 : lw_okq (⟨"TagGuideModel", "step", "(III)I"⟩, 44) := ⟨⟨by decide +kernel, by decide +kernel⟩, List.mem_of_getElem? (i := 721) (by decide +kernel), List.mem_of_getElem? (i := 920) (by decide +kernel), List.mem_of_getElem? (i := 921) (by decide +kernel)⟩
theorem lw_p38 : lw_okq (⟨"TagGuideModel", "next", "(II)I"⟩, 44) := ⟨⟨by decide +kernel, by decide +kernel⟩, List.mem_of_getElem? (i := 721) (by decide +kernel), List.mem_of_getElem? (i := 924) (by decide +kernel), List.mem_of_getElem? (i := 925) (by decide +kernel)⟩
theorem lw_p39 : lw_okq (⟨"TagGuideModel", "accepts", "(II)Z"⟩, 44) := ⟨⟨by decide +kernel, by decide +kernel⟩, List.mem_of_getElem? (i := 721) (by decide +kernel), List.mem_of_getElem? (i := 928) (by decide +kernel), List.mem_of_getElem? (i := 929) (by decide +kernel)⟩
theorem lw_p40 : lw_okq (⟨"TagGuideModel", "post", "(IIIII)V"⟩, 44) := ⟨⟨by decide +kernel, by decide +kernel⟩, List.mem_of_getElem? (i := 721) (by decide +kernel), List.mem_of_getElem? (i := 936) (by decide +kernel), List.mem_of_getElem? (i := 937) (by decide +kernel)⟩
theorem lw_p41 : lw_okq (⟨"TagGuideModel", "waitsAt", "(I)I"⟩, 44) := ⟨⟨by decide +kernel, by decide +kernel⟩, List.mem_of_getElem? (i := 721) (by decide +kernel), List.mem_of_getElem? (i := 952) (by decide +kernel), List.mem_of_getElem? (i := 953) (by decide +kernel)⟩
theorem lw_p42 : lw_okq (⟨"TagGuideModel", "strike", "(I)V"⟩, 44) := ⟨⟨by decide +kernel, by decide +kernel⟩, List.mem_of_getElem? (i := 721) (by decide +kernel), List.mem_of_getElem? (i := 956) (by decide +kernel), List.mem_of_getElem? (i := 957) (by decide +kernel)⟩
theorem lw_p43 : lw_okq (⟨"TagGuideModel", "insertNow", "(II)V"⟩, 44) := ⟨⟨by decide +kernel, by decide +kernel⟩, List.mem_of_getElem? (i := 721) (by decide +kernel), List.mem_of_getElem? (i := 964) (by decide +kernel), List.mem_of_getElem? (i := 965) (by decide +kernel)⟩
theorem lw_p44 : lw_okq (⟨"TagGuideModel", "eraseNow", "(II)V"⟩, 44) := ⟨⟨by decide +kernel, by decide +kernel⟩, List.mem_of_getElem? (i := 721) (by decide +kernel), List.mem_of_getElem? (i := 968) (by decide +kernel), List.mem_of_getElem? (i := 969) (by decide +kernel)⟩
theorem lw_p45 : lw_okq (⟨"TagGuideModel", "respond", "(III)I"⟩, 44) := ⟨⟨by decide +kernel, by decide +kernel⟩, List.mem_of_getElem? (i := 721) (by decide +kernel), List.mem_of_getElem? (i := 972) (by decide +kernel), List.mem_of_getElem? (i := 973) (by decide +kernel)⟩
theorem lw_p46 : lw_okq (⟨"TagGuideModel", "analyse", "()V"⟩, 44) := ⟨⟨by decide +kernel, by decide +kernel⟩, List.mem_of_getElem? (i := 721) (by decide +kernel), List.mem_of_getElem? (i := 976) (by decide +kernel), List.mem_of_getElem? (i := 977) (by decide +kernel)⟩
theorem lw_p47 : lw_okq (⟨"TagGuideModel", "newElement", "(IIII)I"⟩, 44) := ⟨⟨by decide +kernel, by decide +kernel⟩, List.mem_of_getElem? (i := 721) (by decide +kernel), List.mem_of_getElem? (i := 980) (by decide +kernel), List.mem_of_getElem? (i := 981) (by decide +kernel)⟩
def lw_privs_3 : List (MethodName × Nat) := [(⟨"TagGuideModel", "setPart", "(IZIIZ)V"⟩, 44), (⟨"TagGuideModel", "choose", "(I)V"⟩, 44), (⟨"TagGuideModel", "link", "(II)V"⟩, 44), (⟨"TagGuideModel", "append", "(IIIZ)V"⟩, 44), (⟨"TagGuideModel", "steps", "(III)I"⟩, 44), (⟨"TagGuideModel", "step", "(III)I"⟩, 44), (⟨"TagGuideModel", "next", "(II)I"⟩, 44), (⟨"TagGuideModel", "accepts", "(II)Z"⟩, 44), (⟨"TagGuideModel", "post", "(IIIII)V"⟩, 44), (⟨"TagGuideModel", "waitsAt", "(I)I"⟩, 44), (⟨"TagGuideModel", "strike", "(I)V"⟩, 44), (⟨"TagGuideModel", "insertNow", "(II)V"⟩, 44), (⟨"TagGuideModel", "eraseNow", "(II)V"⟩, 44), (⟨"TagGuideModel", "respond", "(III)I"⟩, 44), (⟨"TagGuideModel", "analyse", "()V"⟩, 44), (⟨"TagGuideModel", "newElement", "(IIII)I"⟩, 44)]
theorem lw_r3 : ∀ q ∈ lw_privs_3, lw_okq q := List.forall_mem_cons.mpr ⟨lw_p32, List.forall_mem_cons.mpr ⟨lw_p33, List.forall_mem_cons.mpr ⟨lw_p34, List.forall_mem_cons.mpr ⟨lw_p35, List.forall_mem_cons.mpr ⟨lw_p36, List.forall_mem_cons.mpr ⟨lw_p37, List.forall_mem_cons.mpr ⟨lw_p38, List.forall_mem_cons.mpr ⟨lw_p39, List.forall_mem_cons.mpr ⟨lw_p40, List.forall_mem_cons.mpr ⟨lw_p41, List.forall_mem_cons.mpr ⟨lw_p42, List.forall_mem_cons.mpr ⟨lw_p43, List.forall_mem_cons.mpr ⟨lw_p44, List.forall_mem_cons.mpr ⟨lw_p45, List.forall_mem_cons.mpr ⟨lw_p46, List.forall_mem_cons.mpr ⟨lw_p47, fun _ h => absurd h List.not_mem_nil⟩⟩⟩⟩⟩⟩⟩⟩⟩⟩⟩⟩⟩⟩⟩⟩
theorem lw_p48 : lw_okq (⟨"TagGuideModel", "charAt", "(I)I"⟩, 44) := ⟨⟨by decide +kernel, by decide +kernel⟩, List.mem_of_getElem? (i := 721) (by decide +kernel), List.mem_of_getElem? (i := 984) (by decide +kernel), List.mem_of_getElem? (i := 985) (by decide +kernel)⟩
theorem lw_p49 : lw_okq (⟨"TagGuideModel", "mark", "(III)V"⟩, 44) := ⟨⟨by decide +kernel, by decide +kernel⟩, List.mem_of_getElem? (i := 721) (by decide +kernel), List.mem_of_getElem? (i := 988) (by decide +kernel), List.mem_of_getElem? (i := 989) (by decide +kernel)⟩
theorem lw_p50 : lw_okq (⟨"TagGuideModel", "takeStart", "(IZ)V"⟩, 44) := ⟨⟨by decide +kernel, by decide +kernel⟩, List.mem_of_getElem? (i := 721) (by decide +kernel), List.mem_of_getElem? (i := 992) (by decide +kernel), List.mem_of_getElem? (i := 993) (by decide +kernel)⟩
theorem lw_p51 : lw_okq (⟨"TagGuideModel", "openElements", "()I"⟩, 44) := ⟨⟨by decide +kernel, by decide +kernel⟩, List.mem_of_getElem? (i := 721) (by decide +kernel), List.mem_of_getElem? (i := 996) (by decide +kernel), List.mem_of_getElem? (i := 997) (by decide +kernel)⟩
theorem lw_p52 : lw_okq (⟨"TagGuideModel", "addFault", "(II)V"⟩, 44) := ⟨⟨by decide +kernel, by decide +kernel⟩, List.mem_of_getElem? (i := 721) (by decide +kernel), List.mem_of_getElem? (i := 1000) (by decide +kernel), List.mem_of_getElem? (i := 1001) (by decide +kernel)⟩
theorem lw_p53 : lw_okq (⟨"TagGuideModel", "current", "()I"⟩, 44) := ⟨⟨by decide +kernel, by decide +kernel⟩, List.mem_of_getElem? (i := 721) (by decide +kernel), List.mem_of_getElem? (i := 1004) (by decide +kernel), List.mem_of_getElem? (i := 1005) (by decide +kernel)⟩
theorem lw_p54 : lw_okq (⟨"TagGuideModel", "takeEnd", "(I)V"⟩, 44) := ⟨⟨by decide +kernel, by decide +kernel⟩, List.mem_of_getElem? (i := 721) (by decide +kernel), List.mem_of_getElem? (i := 1008) (by decide +kernel), List.mem_of_getElem? (i := 1009) (by decide +kernel)⟩
theorem lw_p55 : lw_okq (⟨"TagGuideModel", "closeBare", "(II)V"⟩, 44) := ⟨⟨by decide +kernel, by decide +kernel⟩, List.mem_of_getElem? (i := 721) (by decide +kernel), List.mem_of_getElem? (i := 1012) (by decide +kernel), List.mem_of_getElem? (i := 1013) (by decide +kernel)⟩
theorem lw_p56 : lw_okq (⟨"TagGuideModel", "takeCharacter", "(I)V"⟩, 44) := ⟨⟨by decide +kernel, by decide +kernel⟩, List.mem_of_getElem? (i := 721) (by decide +kernel), List.mem_of_getElem? (i := 1016) (by decide +kernel), List.mem_of_getElem? (i := 1017) (by decide +kernel)⟩
theorem lw_p57 : lw_okq (⟨"TagGuideModel", "judge", "(I)V"⟩, 44) := ⟨⟨by decide +kernel, by decide +kernel⟩, List.mem_of_getElem? (i := 721) (by decide +kernel), List.mem_of_getElem? (i := 1020) (by decide +kernel), List.mem_of_getElem? (i := 1021) (by decide +kernel)⟩
theorem lw_p58 : lw_okq (⟨"TagGuideModel", "modelOf", "(I)I"⟩, 44) := ⟨⟨by decide +kernel, by decide +kernel⟩, List.mem_of_getElem? (i := 721) (by decide +kernel), List.mem_of_getElem? (i := 1024) (by decide +kernel), List.mem_of_getElem? (i := 1025) (by decide +kernel)⟩
theorem lw_p59 : lw_okq (⟨"TagGuideModel", "offer", "(I)I"⟩, 44) := ⟨⟨by decide +kernel, by decide +kernel⟩, List.mem_of_getElem? (i := 721) (by decide +kernel), List.mem_of_getElem? (i := 1028) (by decide +kernel), List.mem_of_getElem? (i := 1029) (by decide +kernel)⟩
theorem lw_p60 : lw_okq (⟨"TagGuideModel", "isBit", "(II)Z"⟩, 44) := ⟨⟨by decide +kernel, by decide +kernel⟩, List.mem_of_getElem? (i := 721) (by decide +kernel), List.mem_of_getElem? (i := 1033) (by decide +kernel), List.mem_of_getElem? (i := 1034) (by decide +kernel)⟩
theorem lw_p61 : lw_okq (⟨"TagGuideModel", "rename", "(II)I"⟩, 44) := ⟨⟨by decide +kernel, by decide +kernel⟩, List.mem_of_getElem? (i := 721) (by decide +kernel), List.mem_of_getElem? (i := 1037) (by decide +kernel), List.mem_of_getElem? (i := 1038) (by decide +kernel)⟩
theorem lw_p62 : lw_okq (⟨"TagGuideModel", "makeForm", "()I"⟩, 44) := ⟨⟨by decide +kernel, by decide +kernel⟩, List.mem_of_getElem? (i := 721) (by decide +kernel), List.mem_of_getElem? (i := 1041) (by decide +kernel), List.mem_of_getElem? (i := 1042) (by decide +kernel)⟩
theorem lw_p63 : lw_okq (⟨"TagGuideModel", "loose", "(I)Z"⟩, 44) := ⟨⟨by decide +kernel, by decide +kernel⟩, List.mem_of_getElem? (i := 721) (by decide +kernel), List.mem_of_getElem? (i := 1045) (by decide +kernel), List.mem_of_getElem? (i := 1046) (by decide +kernel)⟩
def lw_privs_4 : List (MethodName × Nat) := [(⟨"TagGuideModel", "charAt", "(I)I"⟩, 44), (⟨"TagGuideModel", "mark", "(III)V"⟩, 44), (⟨"TagGuideModel", "takeStart", "(IZ)V"⟩, 44), (⟨"TagGuideModel", "openElements", "()I"⟩, 44), (⟨"TagGuideModel", "addFault", "(II)V"⟩, 44), (⟨"TagGuideModel", "current", "()I"⟩, 44), (⟨"TagGuideModel", "takeEnd", "(I)V"⟩, 44), (⟨"TagGuideModel", "closeBare", "(II)V"⟩, 44), (⟨"TagGuideModel", "takeCharacter", "(I)V"⟩, 44), (⟨"TagGuideModel", "judge", "(I)V"⟩, 44), (⟨"TagGuideModel", "modelOf", "(I)I"⟩, 44), (⟨"TagGuideModel", "offer", "(I)I"⟩, 44), (⟨"TagGuideModel", "isBit", "(II)Z"⟩, 44), (⟨"TagGuideModel", "rename", "(II)I"⟩, 44), (⟨"TagGuideModel", "makeForm", "()I"⟩, 44), (⟨"TagGuideModel", "loose", "(I)Z"⟩, 44)]
theorem lw_r4 : ∀ q ∈ lw_privs_4, lw_okq q := List.forall_mem_cons.mpr ⟨lw_p48, List.forall_mem_cons.mpr ⟨lw_p49, List.forall_mem_cons.mpr ⟨lw_p50, List.forall_mem_cons.mpr ⟨lw_p51, List.forall_mem_cons.mpr ⟨lw_p52, List.forall_mem_cons.mpr ⟨lw_p53, List.forall_mem_cons.mpr ⟨lw_p54, List.forall_mem_cons.mpr ⟨lw_p55, List.forall_mem_cons.mpr ⟨lw_p56, List.forall_mem_cons.mpr ⟨lw_p57, List.forall_mem_cons.mpr ⟨lw_p58, List.forall_mem_cons.mpr ⟨lw_p59, List.forall_mem_cons.mpr ⟨lw_p60, List.forall_mem_cons.mpr ⟨lw_p61, List.forall_mem_cons.mpr ⟨lw_p62, List.forall_mem_cons.mpr ⟨lw_p63, fun _ h => absurd h List.not_mem_nil⟩⟩⟩⟩⟩⟩⟩⟩⟩⟩⟩⟩⟩⟩⟩⟩
theorem lw_p64 : lw_okq (⟨"TagGuideModel", "putText", "(II)V"⟩, 44) := ⟨⟨by decide +kernel, by decide +kernel⟩, List.mem_of_getElem? (i := 721) (by decide +kernel), List.mem_of_getElem? (i := 1049) (by decide +kernel), List.mem_of_getElem? (i := 1050) (by decide +kernel)⟩
theorem lw_p65 : lw_okq (⟨"TagGuideModel", "put", "(I)V"⟩, 44) := ⟨⟨by decide +kernel, by decide +kernel⟩, List.mem_of_getElem? (i := 721) (by decide +kernel), List.mem_of_getElem? (i := 1053) (by decide +kernel), List.mem_of_getElem? (i := 1054) (by decide +kernel)⟩
theorem lw_p66 : lw_okq (⟨"TagGuideModel", "laid", "(I)Z"⟩, 44) := ⟨⟨by decide +kernel, by decide +kernel⟩, List.mem_of_getElem? (i := 721) (by decide +kernel), List.mem_of_getElem? (i := 1057) (by decide +kernel), List.mem_of_getElem? (i := 1058) (by decide +kernel)⟩
theorem lw_p67 : lw_okq (⟨"TagGuideModel", "endLines", "(II)V"⟩, 44) := ⟨⟨by decide +kernel, by decide +kernel⟩, List.mem_of_getElem? (i := 721) (by decide +kernel), List.mem_of_getElem? (i := 1061) (by decide +kernel), List.mem_of_getElem? (i := 1062) (by decide +kernel)⟩
theorem lw_p68 : lw_okq (⟨"TagGuideModel", "within", "(II)Z"⟩, 44) := ⟨⟨by decide +kernel, by decide +kernel⟩, List.mem_of_getElem? (i := 721) (by decide +kernel), List.mem_of_getElem? (i := 1065) (by decide +kernel), List.mem_of_getElem? (i := 1066) (by decide +kernel)⟩
theorem lw_p69 : lw_okq (⟨"TagGuideModel", "depthOf", "(I)I"⟩, 44) := ⟨⟨by decide +kernel, by decide +kernel⟩, List.mem_of_getElem? (i := 721) (by decide +kernel), List.mem_of_getElem? (i := 1069) (by decide +kernel), List.mem_of_getElem? (i := 1070) (by decide +kernel)⟩
theorem lw_p70 : lw_okq (⟨"TagGuideModel", "putLine", "(I)V"⟩, 44) := ⟨⟨by decide +kernel, by decide +kernel⟩, List.mem_of_getElem? (i := 721) (by decide +kernel), List.mem_of_getElem? (i := 1073) (by decide +kernel), List.mem_of_getElem? (i := 1074) (by decide +kernel)⟩
def lw_privs_5 : List (MethodName × Nat) := [(⟨"TagGuideModel", "putText", "(II)V"⟩, 44), (⟨"TagGuideModel", "put", "(I)V"⟩, 44), (⟨"TagGuideModel", "laid", "(I)Z"⟩, 44), (⟨"TagGuideModel", "endLines", "(II)V"⟩, 44), (⟨"TagGuideModel", "within", "(II)Z"⟩, 44), (⟨"TagGuideModel", "depthOf", "(I)I"⟩, 44), (⟨"TagGuideModel", "putLine", "(I)V"⟩, 44)]
theorem lw_r5 : ∀ q ∈ lw_privs_5, lw_okq q := List.forall_mem_cons.mpr ⟨lw_p64, List.forall_mem_cons.mpr ⟨lw_p65, List.forall_mem_cons.mpr ⟨lw_p66, List.forall_mem_cons.mpr ⟨lw_p67, List.forall_mem_cons.mpr ⟨lw_p68, List.forall_mem_cons.mpr ⟨lw_p69, List.forall_mem_cons.mpr ⟨lw_p70, fun _ h => absurd h List.not_mem_nil⟩⟩⟩⟩⟩⟩⟩
def lw_privs : List (MethodName × Nat) := lw_privs_1 ++ (lw_privs_2 ++ (lw_privs_3 ++ (lw_privs_4 ++ (lw_privs_5))))
def lw_tbl : List Cond := k2_sels lw_privs ++ tables_1
theorem lw_privs_ok : ∀ q ∈ lw_privs, lw_okq q := by
  show ∀ q ∈ lw_privs_1 ++ (lw_privs_2 ++ (lw_privs_3 ++ (lw_privs_4 ++ (lw_privs_5)))), lw_okq q
  exact List.forall_mem_append.mpr ⟨lw_r1, List.forall_mem_append.mpr ⟨lw_r2, List.forall_mem_append.mpr ⟨lw_r3, List.forall_mem_append.mpr ⟨lw_r4, lw_r5⟩⟩⟩⟩
end
section
/-! names of this class, of the reference and of the law, by program (wip/whole/names.py) -/
def R_TG : String := "TagGuide"
def T_TG : u_T := fun k => match k with
  | 0 => ("TagGuide", "draft", "LTagGuide$Draft;", true)
  | 1 => ("TagGuide", "reader", "LTagGuide$ModelReader;", true)
  | 2 => ("TagGuide", "models", "LTagGuide$Models;", true)
  | 3 => ("TagGuide", "text", "LTagGuide$Text;", true)
  | 4 => ("TagGuide", "tree", "LTagGuide$Tree;", true)
  | 5 => ("TagGuide", "faults", "LTagGuide$Faults;", true)
  | 6 => ("TagGuide", "former", "LTagGuide$Former;", true)
  | 7 => ("TagGuide", "messages", "LTagGuide$Inbox;", true)
  | 8 => ("TagGuide", "answers", "LTagGuide$Answers;", true)
  | _ => ("TagGuide", "stale", "Z", false)
def t_TG : Nat → FieldType := fun k => match k with
  | 0 => .object "TagGuide$Draft"
  | 1 => .object "TagGuide$ModelReader"
  | 2 => .object "TagGuide$Models"
  | 3 => .object "TagGuide$Text"
  | 4 => .object "TagGuide$Tree"
  | 5 => .object "TagGuide$Faults"
  | 6 => .object "TagGuide$Former"
  | 7 => .object "TagGuide$Inbox"
  | 8 => .object "TagGuide$Answers"
  | _ => .boolean
theorem n_TG : ∀ a, a < 10 → ∀ b, b < 10 → a ≠ b → (T_TG a).2.1 ≠ (T_TG b).2.1 := by decide +kernel
theorem t_TG_ok : ∀ k, k < 10 → parseFieldDescriptor (T_TG k).2.2.1 = some (t_TG k) := by decide +kernel
def R_An : String := "TagGuide$Answers"
def T_An : u_T := fun k => match k with
  | 0 => ("TagGuide$Answers", "requests", "[I", true)
  | 1 => ("TagGuide$Answers", "values", "[I", true)
  | _ => ("TagGuide$Answers", "next", "I", false)
def t_An : Nat → FieldType := fun k => match k with
  | 0 => .array .int
  | 1 => .array .int
  | _ => .int
theorem n_An : ∀ a, a < 3 → ∀ b, b < 3 → a ≠ b → (T_An a).2.1 ≠ (T_An b).2.1 := by decide +kernel
theorem t_An_ok : ∀ k, k < 3 → parseFieldDescriptor (T_An k).2.2.1 = some (t_An k) := by decide +kernel
def R_Dr : String := "TagGuide$Draft"
def T_Dr : u_T := fun k => match k with
  | 0 => ("TagGuide$Draft", "codes", "[C", true)
  | _ => ("TagGuide$Draft", "size", "I", false)
def t_Dr : Nat → FieldType := fun k => match k with
  | 0 => .array .char
  | _ => .int
theorem n_Dr : ∀ a, a < 2 → ∀ b, b < 2 → a ≠ b → (T_Dr a).2.1 ≠ (T_Dr b).2.1 := by decide +kernel
theorem t_Dr_ok : ∀ k, k < 2 → parseFieldDescriptor (T_Dr k).2.2.1 = some (t_Dr k) := by decide +kernel
def R_El : String := "TagGuide$Element"
def T_El : u_T := fun k => match k with
  | 0 => ("TagGuide$Element", "name", "I", false)
  | 1 => ("TagGuide$Element", "parent", "I", false)
  | 2 => ("TagGuide$Element", "depth", "I", false)
  | 3 => ("TagGuide$Element", "begin", "I", false)
  | 4 => ("TagGuide$Element", "insideFrom", "I", false)
  | 5 => ("TagGuide$Element", "insideTo", "I", false)
  | 6 => ("TagGuide$Element", "behind", "I", false)
  | 7 => ("TagGuide$Element", "children", "I", false)
  | 8 => ("TagGuide$Element", "closedBy", "I", false)
  | _ => ("TagGuide$Element", "firstInk", "I", false)
def t_El : Nat → FieldType := fun k => match k with
  | 0 => .int
  | 1 => .int
  | 2 => .int
  | 3 => .int
  | 4 => .int
  | 5 => .int
  | 6 => .int
  | 7 => .int
  | 8 => .int
  | _ => .int
theorem n_El : ∀ a, a < 10 → ∀ b, b < 10 → a ≠ b → (T_El a).2.1 ≠ (T_El b).2.1 := by decide +kernel
theorem t_El_ok : ∀ k, k < 10 → parseFieldDescriptor (T_El k).2.2.1 = some (t_El k) := by decide +kernel
def R_Fa : String := "TagGuide$Faults"
def T_Fa : u_T := fun k => match k with
  | 0 => ("TagGuide$Faults", "keys", "[I", true)
  | _ => ("TagGuide$Faults", "size", "I", false)
def t_Fa : Nat → FieldType := fun k => match k with
  | 0 => .array .int
  | _ => .int
theorem n_Fa : ∀ a, a < 2 → ∀ b, b < 2 → a ≠ b → (T_Fa a).2.1 ≠ (T_Fa b).2.1 := by decide +kernel
theorem t_Fa_ok : ∀ k, k < 2 → parseFieldDescriptor (T_Fa k).2.2.1 = some (t_Fa k) := by decide +kernel
def R_Fo : String := "TagGuide$Former"
def T_Fo : u_T := fun k => match k with
  | 0 => ("TagGuide$Former", "text", "LTagGuide$Text;", true)
  | 1 => ("TagGuide$Former", "tree", "LTagGuide$Tree;", true)
  | 2 => ("TagGuide$Former", "models", "LTagGuide$Models;", true)
  | 3 => ("TagGuide$Former", "codes", "[C", true)
  | _ => ("TagGuide$Former", "size", "I", false)
def t_Fo : Nat → FieldType := fun k => match k with
  | 0 => .object "TagGuide$Text"
  | 1 => .object "TagGuide$Tree"
  | 2 => .object "TagGuide$Models"
  | 3 => .array .char
  | _ => .int
theorem n_Fo : ∀ a, a < 5 → ∀ b, b < 5 → a ≠ b → (T_Fo a).2.1 ≠ (T_Fo b).2.1 := by decide +kernel
theorem t_Fo_ok : ∀ k, k < 5 → parseFieldDescriptor (T_Fo k).2.2.1 = some (t_Fo k) := by decide +kernel
def R_In : String := "TagGuide$Inbox"
def T_In : u_T := fun k => match k with
  | 0 => ("TagGuide$Inbox", "kinds", "[I", true)
  | 1 => ("TagGuide$Inbox", "numbers", "[I", true)
  | 2 => ("TagGuide$Inbox", "places", "[I", true)
  | 3 => ("TagGuide$Inbox", "extras", "[I", true)
  | 4 => ("TagGuide$Inbox", "size", "I", false)
  | _ => ("TagGuide$Inbox", "requests", "I", false)
def t_In : Nat → FieldType := fun k => match k with
  | 0 => .array .int
  | 1 => .array .int
  | 2 => .array .int
  | 3 => .array .int
  | 4 => .int
  | _ => .int
theorem n_In : ∀ a, a < 6 → ∀ b, b < 6 → a ≠ b → (T_In a).2.1 ≠ (T_In b).2.1 := by decide +kernel
theorem t_In_ok : ∀ k, k < 6 → parseFieldDescriptor (T_In k).2.2.1 = some (t_In k) := by decide +kernel
def R_Mo : String := "TagGuide$Model"
def T_Mo : u_T := fun k => match k with
  | 0 => ("TagGuide$Model", "present", "Z", false)
  | 1 => ("TagGuide$Model", "mixed", "Z", false)
  | 2 => ("TagGuide$Model", "states", "I", false)
  | 3 => ("TagGuide$Model", "followers", "[I", true)
  | 4 => ("TagGuide$Model", "statesOfName", "[I", true)
  | _ => ("TagGuide$Model", "accepting", "I", false)
def t_Mo : Nat → FieldType := fun k => match k with
  | 0 => .boolean
  | 1 => .boolean
  | 2 => .int
  | 3 => .array .int
  | 4 => .array .int
  | _ => .int
theorem n_Mo : ∀ a, a < 6 → ∀ b, b < 6 → a ≠ b → (T_Mo a).2.1 ≠ (T_Mo b).2.1 := by decide +kernel
theorem t_Mo_ok : ∀ k, k < 6 → parseFieldDescriptor (T_Mo k).2.2.1 = some (t_Mo k) := by decide +kernel
def R_Mr : String := "TagGuide$ModelReader"
def T_Mr : u_T := fun k => match k with
  | 0 => ("TagGuide$ModelReader", "draft", "LTagGuide$Draft;", true)
  | 1 => ("TagGuide$ModelReader", "model", "LTagGuide$Model;", false)
  | 2 => ("TagGuide$ModelReader", "place", "I", false)
  | 3 => ("TagGuide$ModelReader", "first", "I", false)
  | 4 => ("TagGuide$ModelReader", "last", "I", false)
  | _ => ("TagGuide$ModelReader", "skippable", "Z", false)
def t_Mr : Nat → FieldType := fun k => match k with
  | 0 => .object "TagGuide$Draft"
  | 1 => .object "TagGuide$Model"
  | 2 => .int
  | 3 => .int
  | 4 => .int
  | _ => .boolean
theorem n_Mr : ∀ a, a < 6 → ∀ b, b < 6 → a ≠ b → (T_Mr a).2.1 ≠ (T_Mr b).2.1 := by decide +kernel
theorem t_Mr_ok : ∀ k, k < 6 → parseFieldDescriptor (T_Mr k).2.2.1 = some (t_Mr k) := by decide +kernel
def R_Ms : String := "TagGuide$Models"
def T_Ms : u_T := fun k => match k with
  | 0 => ("TagGuide$Models", "inUse", "[LTagGuide$Model;", true)
  | 1 => ("TagGuide$Models", "spare", "LTagGuide$Model;", false)
  | _ => ("TagGuide$Models", "fertileNames", "I", false)
def t_Ms : Nat → FieldType := fun k => match k with
  | 0 => .array (.object "TagGuide$Model")
  | 1 => .object "TagGuide$Model"
  | _ => .int
theorem n_Ms : ∀ a, a < 3 → ∀ b, b < 3 → a ≠ b → (T_Ms a).2.1 ≠ (T_Ms b).2.1 := by decide +kernel
theorem t_Ms_ok : ∀ k, k < 3 → parseFieldDescriptor (T_Ms k).2.2.1 = some (t_Ms k) := by decide +kernel
def R_Tx : String := "TagGuide$Text"
def T_Tx : u_T := fun k => match k with
  | 0 => ("TagGuide$Text", "codes", "[C", true)
  | _ => ("TagGuide$Text", "size", "I", false)
def t_Tx : Nat → FieldType := fun k => match k with
  | 0 => .array .char
  | _ => .int
theorem n_Tx : ∀ a, a < 2 → ∀ b, b < 2 → a ≠ b → (T_Tx a).2.1 ≠ (T_Tx b).2.1 := by decide +kernel
theorem t_Tx_ok : ∀ k, k < 2 → parseFieldDescriptor (T_Tx k).2.2.1 = some (t_Tx k) := by decide +kernel
def R_Tr : String := "TagGuide$Tree"
def T_Tr : u_T := fun k => match k with
  | 0 => ("TagGuide$Tree", "text", "LTagGuide$Text;", true)
  | 1 => ("TagGuide$Tree", "elements", "[LTagGuide$Element;", true)
  | 2 => ("TagGuide$Tree", "count", "I", false)
  | 3 => ("TagGuide$Tree", "open", "I", false)
  | 4 => ("TagGuide$Tree", "tagFrom", "[I", true)
  | 5 => ("TagGuide$Tree", "tagTo", "[I", true)
  | 6 => ("TagGuide$Tree", "tagOwner", "[I", true)
  | _ => ("TagGuide$Tree", "tags", "I", false)
def t_Tr : Nat → FieldType := fun k => match k with
  | 0 => .object "TagGuide$Text"
  | 1 => .array (.object "TagGuide$Element")
  | 2 => .int
  | 3 => .int
  | 4 => .array .int
  | 5 => .array .int
  | 6 => .array .int
  | _ => .int
theorem n_Tr : ∀ a, a < 8 → ∀ b, b < 8 → a ≠ b → (T_Tr a).2.1 ≠ (T_Tr b).2.1 := by decide +kernel
theorem t_Tr_ok : ∀ k, k < 8 → parseFieldDescriptor (T_Tr k).2.2.1 = some (t_Tr k) := by decide +kernel
def R_RF : String := "TagGuideModel"
def T_RF : u_T := fun k => match k with
  | 0 => ("TagGuideModel", "draftSize", "I", false)
  | 1 => ("TagGuideModel", "draft", "[I", false)
  | 2 => ("TagGuideModel", "has", "[Z", false)
  | 3 => ("TagGuideModel", "mixed", "[Z", false)
  | 4 => ("TagGuideModel", "first", "[I", false)
  | 5 => ("TagGuideModel", "last", "[I", false)
  | 6 => ("TagGuideModel", "empty", "[Z", false)
  | 7 => ("TagGuideModel", "many", "[I", false)
  | 8 => ("TagGuideModel", "named", "[I", false)
  | 9 => ("TagGuideModel", "follow", "[I", false)
  | 10 => ("TagGuideModel", "some", "[Z", false)
  | 11 => ("TagGuideModel", "firsts", "[I", false)
  | 12 => ("TagGuideModel", "lasts", "[I", false)
  | 13 => ("TagGuideModel", "empties", "[Z", false)
  | 14 => ("TagGuideModel", "size", "I", false)
  | 15 => ("TagGuideModel", "text", "[I", false)
  | 16 => ("TagGuideModel", "elements", "I", false)
  | 17 => ("TagGuideModel", "name", "[I", false)
  | 18 => ("TagGuideModel", "parent", "[I", false)
  | 19 => ("TagGuideModel", "begin", "[I", false)
  | 20 => ("TagGuideModel", "behind", "[I", false)
  | 21 => ("TagGuideModel", "insideFrom", "[I", false)
  | 22 => ("TagGuideModel", "insideTo", "[I", false)
  | 23 => ("TagGuideModel", "endTag", "[I", false)
  | 24 => ("TagGuideModel", "firstCharacter", "[I", false)
  | 25 => ("TagGuideModel", "open", "[Z", false)
  | 26 => ("TagGuideModel", "tagFrom", "[I", false)
  | 27 => ("TagGuideModel", "tagTo", "[I", false)
  | 28 => ("TagGuideModel", "tagOf", "[I", false)
  | 29 => ("TagGuideModel", "faults", "I", false)
  | 30 => ("TagGuideModel", "faultKind", "[I", false)
  | 31 => ("TagGuideModel", "faultPlace", "[I", false)
  | 32 => ("TagGuideModel", "messages", "I", false)
  | 33 => ("TagGuideModel", "mKind", "[I", false)
  | 34 => ("TagGuideModel", "mPlace", "[I", false)
  | 35 => ("TagGuideModel", "mMore", "[I", false)
  | 36 => ("TagGuideModel", "mNumber", "[I", false)
  | 37 => ("TagGuideModel", "mWhat", "[I", false)
  | 38 => ("TagGuideModel", "requests", "I", false)
  | 39 => ("TagGuideModel", "answered", "I", false)
  | 40 => ("TagGuideModel", "answerOf", "[I", false)
  | 41 => ("TagGuideModel", "answers", "[I", false)
  | 42 => ("TagGuideModel", "formSize", "I", false)
  | _ => ("TagGuideModel", "form", "[I", false)
def t_RF : Nat → FieldType := fun k => match k with
  | 0 => .int
  | 1 => .array .int
  | 2 => .array .boolean
  | 3 => .array .boolean
  | 4 => .array .int
  | 5 => .array .int
  | 6 => .array .boolean
  | 7 => .array .int
  | 8 => .array .int
  | 9 => .array .int
  | 10 => .array .boolean
  | 11 => .array .int
  | 12 => .array .int
  | 13 => .array .boolean
  | 14 => .int
  | 15 => .array .int
  | 16 => .int
  | 17 => .array .int
  | 18 => .array .int
  | 19 => .array .int
  | 20 => .array .int
  | 21 => .array .int
  | 22 => .array .int
  | 23 => .array .int
  | 24 => .array .int
  | 25 => .array .boolean
  | 26 => .array .int
  | 27 => .array .int
  | 28 => .array .int
  | 29 => .int
  | 30 => .array .int
  | 31 => .array .int
  | 32 => .int
  | 33 => .array .int
  | 34 => .array .int
  | 35 => .array .int
  | 36 => .array .int
  | 37 => .array .int
  | 38 => .int
  | 39 => .int
  | 40 => .array .int
  | 41 => .array .int
  | 42 => .int
  | _ => .array .int
theorem n_RF : ∀ a, a < 44 → ∀ b, b < 44 → a ≠ b → (T_RF a).2.1 ≠ (T_RF b).2.1 := by decide +kernel
theorem t_RF_ok : ∀ k, k < 44 → parseFieldDescriptor (T_RF k).2.2.1 = some (t_RF k) := by decide +kernel
abbrev exCl : List vw_C := [(R_TG, T_TG, 10), (R_An, T_An, 3), (R_Dr, T_Dr, 2), (R_El, T_El, 10), (R_Fa, T_Fa, 2), (R_Fo, T_Fo, 5), (R_In, T_In, 6), (R_Mo, T_Mo, 6), (R_Mr, T_Mr, 6), (R_Ms, T_Ms, 3), (R_Tx, T_Tx, 2), (R_Tr, T_Tr, 8), (R_RF, T_RF, 44)]
def exTy : List FieldType := [.int, .char, .boolean, .object "TagGuide$Model", .object "TagGuide$Element"]
def exRk (t : Nat) : Bool := match t with
  | 3 => true
  | 4 => true
  | _ => false
def exFk (ci : Nat) : List Bool := match ci with
  | 0 => [true, true, true, true, true, true, true, true, true, false]
  | 1 => [true, true, false]
  | 2 => [true, false]
  | 3 => [false, false, false, false, false, false, false, false, false, false]
  | 4 => [true, false]
  | 5 => [true, true, true, true, false]
  | 6 => [true, true, true, true, false, false]
  | 7 => [false, false, false, true, true, false]
  | 8 => [true, true, false, false, false, false]
  | 9 => [true, true, false]
  | 10 => [true, false]
  | 11 => [true, true, false, false, true, true, true, false]
  | 12 => [false, true, true, true, true, true, true, true, true, true, true, true, true, true, false, true, false, true, true, true, true, true, true, true, true, true, true, true, true, false, true, true, false, true, true, true, true, true, false, false, true, true, false, true]
  | _ => []
def ex_nest : Cond → Bool
  | .fieldLinkNest .. => true
  | .methodLinkNest .. => true
  | _ => false
def exTW : List Cond := lw_tbl.filter goodWord
def exNW : List Cond := lw_tbl.filter ex_nest
def exAO : List String := ["TagGuide$Model", "TagGuide$Element"]
theorem exTW_good (w : Cond) (h : w ∈ exTW) : goodWord w = true := (List.mem_filter.mp h).2
theorem exNW_nest (w : Cond) (h : w ∈ exNW) : ex_nest w = true := (List.mem_filter.mp h).2
theorem ex_tw {w : Cond} (i : Nat) (h : tables_1[i]? = some w) (hg : goodWord w = true) : w ∈ exTW := List.mem_filter.mpr ⟨List.mem_append_right _ (List.mem_of_getElem? h), hg⟩
theorem ex_ts {w : Cond} (i : Nat) (h : (k2_sels lw_privs)[i]? = some w) (hg : goodWord w = true) : w ∈ exTW := List.mem_filter.mpr ⟨List.mem_append_left _ (List.mem_of_getElem? h), hg⟩
theorem ex_tn {w : Cond} (i : Nat) (h : tables_1[i]? = some w) (hg : ex_nest w = true) : w ∈ exNW := List.mem_filter.mpr ⟨List.mem_append_right _ (List.mem_of_getElem? h), hg⟩
theorem ex_uw {ws : List Cond} (ps : List Nat) (h : ws = ps.filterMap (fun i => tables_1[i]?)) (hg : ws.all goodWord = true) : ∀ w ∈ ws, w ∈ exTW := by
  intro w hw
  have h1 := List.all_eq_true.mp hg w hw
  rw [h] at hw
  obtain ⟨i, -, hi⟩ := List.mem_filterMap.mp hw
  exact ex_tw i hi h1
theorem u_TG : ∀ w ∈ u_ws R_TG T_TG 10, w ∈ exTW := ex_uw [313, 315, 317, 319, 321, 323, 325, 327, 329, 331] (by decide +kernel) (by decide +kernel)
theorem u_An : ∀ w ∈ u_ws R_An T_An 3, w ∈ exTW := ex_uw [296, 298, 300] (by decide +kernel) (by decide +kernel)
theorem u_Dr : ∀ w ∈ u_ws R_Dr T_Dr 2, w ∈ exTW := ex_uw [32, 34] (by decide +kernel) (by decide +kernel)
theorem u_El : ∀ w ∈ u_ws R_El T_El 10, w ∈ exTW := ex_uw [168, 170, 172, 174, 176, 178, 180, 182, 184, 186] (by decide +kernel) (by decide +kernel)
theorem u_Fa : ∀ w ∈ u_ws R_Fa T_Fa 2, w ∈ exTW := ex_uw [230, 232] (by decide +kernel) (by decide +kernel)
theorem u_Fo : ∀ w ∈ u_ws R_Fo T_Fo 5, w ∈ exTW := ex_uw [246, 248, 250, 252, 254] (by decide +kernel) (by decide +kernel)
theorem u_In : ∀ w ∈ u_ws R_In T_In 6, w ∈ exTW := ex_uw [274, 276, 278, 280, 282, 284] (by decide +kernel) (by decide +kernel)
theorem u_Mo : ∀ w ∈ u_ws R_Mo T_Mo 6, w ∈ exTW := ex_uw [58, 60, 62, 64, 66, 68] (by decide +kernel) (by decide +kernel)
theorem u_Mr : ∀ w ∈ u_ws R_Mr T_Mr 6, w ∈ exTW := ex_uw [78, 80, 82, 84, 86, 88] (by decide +kernel) (by decide +kernel)
theorem u_Ms : ∀ w ∈ u_ws R_Ms T_Ms 3, w ∈ exTW := ex_uw [105, 107, 109] (by decide +kernel) (by decide +kernel)
theorem u_Tx : ∀ w ∈ u_ws R_Tx T_Tx 2, w ∈ exTW := ex_uw [123, 125] (by decide +kernel) (by decide +kernel)
theorem u_Tr : ∀ w ∈ u_ws R_Tr T_Tr 8, w ∈ exTW := ex_uw [204, 206, 208, 210, 212, 214, 216, 218] (by decide +kernel) (by decide +kernel)
theorem u_RF : ∀ w ∈ u_ws R_RF T_RF 44, w ∈ exTW := ex_uw [770, 772, 774, 776, 778, 780, 782, 784, 786, 788, 790, 792, 794, 796, 798, 800, 802, 804, 806, 808, 810, 812, 814, 816, 818, 820, 822, 824, 826, 828, 830, 832, 834, 836, 838, 840, 842, 844, 846, 848, 850, 852, 854, 856] (by decide +kernel) (by decide +kernel)
abbrev M_TG_init : MethodName × ByteArray × Nat × Option FieldType := (⟨"TagGuide", "<init>", "()V"⟩, prog_1_method_1_code, 1, none)
abbrev M_Dr_init : MethodName × ByteArray × Nat × Option FieldType := (⟨"TagGuide$Draft", "<init>", "()V"⟩, prog_3_method_1_code, 1, none)
abbrev M_Mr_init : MethodName × ByteArray × Nat × Option FieldType := (⟨"TagGuide$ModelReader", "<init>", "(LTagGuide$Draft;)V"⟩, prog_9_method_1_code, 2, none)
abbrev M_Mo_init : MethodName × ByteArray × Nat × Option FieldType := (⟨"TagGuide$Model", "<init>", "()V"⟩, prog_8_method_1_code, 1, none)
abbrev M_Ms_init : MethodName × ByteArray × Nat × Option FieldType := (⟨"TagGuide$Models", "<init>", "()V"⟩, prog_10_method_1_code, 2, none)
abbrev M_Tx_init : MethodName × ByteArray × Nat × Option FieldType := (⟨"TagGuide$Text", "<init>", "()V"⟩, prog_11_method_1_code, 1, none)
abbrev M_Tr_init : MethodName × ByteArray × Nat × Option FieldType := (⟨"TagGuide$Tree", "<init>", "(LTagGuide$Text;)V"⟩, prog_12_method_1_code, 3, none)
abbrev M_El_init : MethodName × ByteArray × Nat × Option FieldType := (⟨"TagGuide$Element", "<init>", "()V"⟩, prog_4_method_1_code, 1, none)
abbrev M_Fa_init : MethodName × ByteArray × Nat × Option FieldType := (⟨"TagGuide$Faults", "<init>", "()V"⟩, prog_5_method_1_code, 1, none)
abbrev M_Fo_init : MethodName × ByteArray × Nat × Option FieldType := (⟨"TagGuide$Former", "<init>", "(LTagGuide$Text;LTagGuide$Tree;LTagGuide$Models;)V"⟩, prog_6_method_1_code, 4, none)
abbrev M_In_init : MethodName × ByteArray × Nat × Option FieldType := (⟨"TagGuide$Inbox", "<init>", "()V"⟩, prog_7_method_1_code, 1, none)
abbrev M_An_init : MethodName × ByteArray × Nat × Option FieldType := (⟨"TagGuide$Answers", "<init>", "()V"⟩, prog_2_method_1_code, 1, none)
abbrev M_TG_write : MethodName × ByteArray × Nat × Option FieldType := (⟨"TagGuide", "write", "(C)Z"⟩, prog_1_method_2_code, 2, some .boolean)
abbrev M_Dr_append : MethodName × ByteArray × Nat × Option FieldType := (⟨"TagGuide$Draft", "append", "(C)Z"⟩, prog_3_method_2_code, 2, some .boolean)
abbrev M_TG_isWritable : MethodName × ByteArray × Nat × Option FieldType := (⟨"TagGuide", "isWritable", "(I)Z"⟩, prog_1_method_23_code, 1, some .boolean)
abbrev M_TG_define : MethodName × ByteArray × Nat × Option FieldType := (⟨"TagGuide", "define", "(C)I"⟩, prog_1_method_3_code, 3, some .int)
abbrev M_TG_isName : MethodName × ByteArray × Nat × Option FieldType := (⟨"TagGuide", "isName", "(I)Z"⟩, prog_1_method_22_code, 1, some .boolean)
abbrev M_Dr_isTooLarge : MethodName × ByteArray × Nat × Option FieldType := (⟨"TagGuide$Draft", "isTooLarge", "()Z"⟩, prog_3_method_5_code, 4, some .boolean)
abbrev M_Mr_readInto : MethodName × ByteArray × Nat × Option FieldType := (⟨"TagGuide$ModelReader", "readInto", "(LTagGuide$Model;)I"⟩, prog_9_method_2_code, 2, some .int)
abbrev M_Mo_clear : MethodName × ByteArray × Nat × Option FieldType := (⟨"TagGuide$Model", "clear", "()V"⟩, prog_8_method_2_code, 2, none)
abbrev M_Mr_takes : MethodName × ByteArray × Nat × Option FieldType := (⟨"TagGuide$ModelReader", "takes", "(C)Z"⟩, prog_9_method_8_code, 2, some .boolean)
abbrev M_Dr_at : MethodName × ByteArray × Nat × Option FieldType := (⟨"TagGuide$Draft", "at", "(I)I"⟩, prog_3_method_4_code, 2, some .int)
abbrev M_Mo_complete : MethodName × ByteArray × Nat × Option FieldType := (⟨"TagGuide$Model", "complete", "(IIZ)V"⟩, prog_8_method_5_code, 4, none)
abbrev M_Mo_start : MethodName × ByteArray × Nat × Option FieldType := (⟨"TagGuide$Model", "start", "()I"⟩, prog_8_method_7_code, 1, some .int)
abbrev M_Mr_readsExpression : MethodName × ByteArray × Nat × Option FieldType := (⟨"TagGuide$ModelReader", "readsExpression", "(I)Z"⟩, prog_9_method_3_code, 6, some .boolean)
abbrev M_Mr_readsSequence : MethodName × ByteArray × Nat × Option FieldType := (⟨"TagGuide$ModelReader", "readsSequence", "(I)Z"⟩, prog_9_method_4_code, 6, some .boolean)
abbrev M_Mr_readsItem : MethodName × ByteArray × Nat × Option FieldType := (⟨"TagGuide$ModelReader", "readsItem", "(I)Z"⟩, prog_9_method_5_code, 2, some .boolean)
abbrev M_Mr_readsName : MethodName × ByteArray × Nat × Option FieldType := (⟨"TagGuide$ModelReader", "readsName", "()Z"⟩, prog_9_method_6_code, 2, some .boolean)
abbrev M_Mo_addState : MethodName × ByteArray × Nat × Option FieldType := (⟨"TagGuide$Model", "addState", "(I)I"⟩, prog_8_method_3_code, 3, some .int)
abbrev M_Mr_readMark : MethodName × ByteArray × Nat × Option FieldType := (⟨"TagGuide$ModelReader", "readMark", "()V"⟩, prog_9_method_7_code, 1, none)
abbrev M_Mo_join : MethodName × ByteArray × Nat × Option FieldType := (⟨"TagGuide$Model", "join", "(II)V"⟩, prog_8_method_4_code, 4, none)
abbrev M_Ms_useSpareFor : MethodName × ByteArray × Nat × Option FieldType := (⟨"TagGuide$Models", "useSpareFor", "(I)V"⟩, prog_10_method_3_code, 3, none)
abbrev M_Ms_rowOf : MethodName × ByteArray × Nat × Option FieldType := (⟨"TagGuide$Models", "rowOf", "(I)I"⟩, prog_10_method_7_code, 2, some .int)
abbrev M_Ms_findFertileNames : MethodName × ByteArray × Nat × Option FieldType := (⟨"TagGuide$Models", "findFertileNames", "()V"⟩, prog_10_method_8_code, 5, none)
abbrev M_Mo_spread : MethodName × ByteArray × Nat × Option FieldType := (⟨"TagGuide$Model", "spread", "(II)I"⟩, prog_8_method_10_code, 7, some .int)
abbrev M_Mo_followersOf : MethodName × ByteArray × Nat × Option FieldType := (⟨"TagGuide$Model", "followersOf", "(I)I"⟩, prog_8_method_11_code, 4, some .int)
abbrev M_Mo_accepts : MethodName × ByteArray × Nat × Option FieldType := (⟨"TagGuide$Model", "accepts", "(I)Z"⟩, prog_8_method_8_code, 2, some .boolean)
abbrev M_Dr_clear : MethodName × ByteArray × Nat × Option FieldType := (⟨"TagGuide$Draft", "clear", "()V"⟩, prog_3_method_3_code, 1, none)
abbrev M_TG_insert : MethodName × ByteArray × Nat × Option FieldType := (⟨"TagGuide", "insert", "(IC)Z"⟩, prog_1_method_4_code, 3, some .boolean)
abbrev M_In_put : MethodName × ByteArray × Nat × Option FieldType := (⟨"TagGuide$Inbox", "put", "(IIII)Z"⟩, prog_7_method_3_code, 5, some .boolean)
abbrev M_In_isFull : MethodName × ByteArray × Nat × Option FieldType := (⟨"TagGuide$Inbox", "isFull", "()Z"⟩, prog_7_method_2_code, 1, some .boolean)
abbrev M_TG_erase : MethodName × ByteArray × Nat × Option FieldType := (⟨"TagGuide", "erase", "(II)Z"⟩, prog_1_method_5_code, 3, some .boolean)
abbrev M_TG_ask : MethodName × ByteArray × Nat × Option FieldType := (⟨"TagGuide", "ask", "(IIC)I"⟩, prog_1_method_6_code, 4, some .int)
abbrev M_In_putRequest : MethodName × ByteArray × Nat × Option FieldType := (⟨"TagGuide$Inbox", "putRequest", "(III)I"⟩, prog_7_method_4_code, 4, some .int)
abbrev M_TG_cancel : MethodName × ByteArray × Nat × Option FieldType := (⟨"TagGuide", "cancel", "(I)Z"⟩, prog_1_method_7_code, 2, some .boolean)
abbrev M_In_find : MethodName × ByteArray × Nat × Option FieldType := (⟨"TagGuide$Inbox", "find", "(I)I"⟩, prog_7_method_5_code, 3, some .int)
abbrev M_In_takeOut : MethodName × ByteArray × Nat × Option FieldType := (⟨"TagGuide$Inbox", "takeOut", "(I)Z"⟩, prog_7_method_6_code, 3, some .boolean)
abbrev M_TG_work : MethodName × ByteArray × Nat × Option FieldType := (⟨"TagGuide", "work", "()I"⟩, prog_1_method_8_code, 5, some .int)
abbrev M_TG_change : MethodName × ByteArray × Nat × Option FieldType := (⟨"TagGuide", "change", "(III)V"⟩, prog_1_method_17_code, 4, none)
abbrev M_Tx_putIn : MethodName × ByteArray × Nat × Option FieldType := (⟨"TagGuide$Text", "putIn", "(II)V"⟩, prog_11_method_3_code, 3, none)
abbrev M_Tx_takeOut : MethodName × ByteArray × Nat × Option FieldType := (⟨"TagGuide$Text", "takeOut", "(II)V"⟩, prog_11_method_4_code, 3, none)
abbrev M_TG_refresh : MethodName × ByteArray × Nat × Option FieldType := (⟨"TagGuide", "refresh", "()V"⟩, prog_1_method_21_code, 1, none)
abbrev M_Fa_clear : MethodName × ByteArray × Nat × Option FieldType := (⟨"TagGuide$Faults", "clear", "()V"⟩, prog_5_method_2_code, 1, none)
abbrev M_Tr_read : MethodName × ByteArray × Nat × Option FieldType := (⟨"TagGuide$Tree", "read", "(LTagGuide$Faults;)V"⟩, prog_12_method_2_code, 4, none)
abbrev M_El_open : MethodName × ByteArray × Nat × Option FieldType := (⟨"TagGuide$Element", "open", "(IIIII)V"⟩, prog_4_method_2_code, 6, none)
abbrev M_Tr_take : MethodName × ByteArray × Nat × Option FieldType := (⟨"TagGuide$Tree", "take", "(ILTagGuide$Faults;)I"⟩, prog_12_method_3_code, 3, some .int)
abbrev M_Tx_tagKindAt : MethodName × ByteArray × Nat × Option FieldType := (⟨"TagGuide$Text", "tagKindAt", "(I)I"⟩, prog_11_method_6_code, 2, some .int)
abbrev M_Tx_at : MethodName × ByteArray × Nat × Option FieldType := (⟨"TagGuide$Text", "at", "(I)I"⟩, prog_11_method_2_code, 2, some .int)
abbrev M_Tr_takeStartTag : MethodName × ByteArray × Nat × Option FieldType := (⟨"TagGuide$Tree", "takeStartTag", "(IILTagGuide$Faults;)V"⟩, prog_12_method_5_code, 4, none)
abbrev M_Tr_begins : MethodName × ByteArray × Nat × Option FieldType := (⟨"TagGuide$Tree", "begins", "(IILTagGuide$Faults;)Z"⟩, prog_12_method_7_code, 5, some .boolean)
abbrev M_Tr_addTag : MethodName × ByteArray × Nat × Option FieldType := (⟨"TagGuide$Tree", "addTag", "(III)V"⟩, prog_12_method_11_code, 4, none)
abbrev M_Fa_add : MethodName × ByteArray × Nat × Option FieldType := (⟨"TagGuide$Faults", "add", "(II)V"⟩, prog_5_method_3_code, 5, none)
abbrev M_Tr_takeEmptyTag : MethodName × ByteArray × Nat × Option FieldType := (⟨"TagGuide$Tree", "takeEmptyTag", "(IILTagGuide$Faults;)V"⟩, prog_12_method_6_code, 4, none)
abbrev M_El_close : MethodName × ByteArray × Nat × Option FieldType := (⟨"TagGuide$Element", "close", "(III)V"⟩, prog_4_method_3_code, 4, none)
abbrev M_Tr_takeEndTag : MethodName × ByteArray × Nat × Option FieldType := (⟨"TagGuide$Tree", "takeEndTag", "(IILTagGuide$Faults;)V"⟩, prog_12_method_8_code, 5, none)
abbrev M_Tr_latestOpenWith : MethodName × ByteArray × Nat × Option FieldType := (⟨"TagGuide$Tree", "latestOpenWith", "(I)I"⟩, prog_12_method_9_code, 4, some .int)
abbrev M_Tr_closeUpTo : MethodName × ByteArray × Nat × Option FieldType := (⟨"TagGuide$Tree", "closeUpTo", "(II)V"⟩, prog_12_method_10_code, 4, none)
abbrev M_Tr_takeCharacter : MethodName × ByteArray × Nat × Option FieldType := (⟨"TagGuide$Tree", "takeCharacter", "(ILTagGuide$Faults;)V"⟩, prog_12_method_4_code, 4, none)
abbrev M_El_takeCharacter : MethodName × ByteArray × Nat × Option FieldType := (⟨"TagGuide$Element", "takeCharacter", "(II)V"⟩, prog_4_method_4_code, 3, none)
abbrev M_Fa_judge : MethodName × ByteArray × Nat × Option FieldType := (⟨"TagGuide$Faults", "judge", "(LTagGuide$Tree;LTagGuide$Models;)V"⟩, prog_5_method_4_code, 6, none)
abbrev M_Ms_of : MethodName × ByteArray × Nat × Option FieldType := (⟨"TagGuide$Models", "of", "(I)LTagGuide$Model;"⟩, prog_10_method_2_code, 2, some (.object "TagGuide$Model"))
abbrev M_Mo_forbidsCharacters : MethodName × ByteArray × Nat × Option FieldType := (⟨"TagGuide$Model", "forbidsCharacters", "()Z"⟩, prog_8_method_6_code, 1, some .boolean)
abbrev M_Ms_allowChildren : MethodName × ByteArray × Nat × Option FieldType := (⟨"TagGuide$Models", "allowChildren", "(LTagGuide$Tree;I)Z"⟩, prog_10_method_4_code, 4, some .boolean)
abbrev M_Tr_stepChildren : MethodName × ByteArray × Nat × Option FieldType := (⟨"TagGuide$Tree", "stepChildren", "(LTagGuide$Model;IIII)I"⟩, prog_12_method_16_code, 9, some .int)
abbrev M_Mo_step : MethodName × ByteArray × Nat × Option FieldType := (⟨"TagGuide$Model", "step", "(II)I"⟩, prog_8_method_9_code, 3, some .int)
abbrev M_TG_reply : MethodName × ByteArray × Nat × Option FieldType := (⟨"TagGuide", "reply", "(III)I"⟩, prog_1_method_18_code, 4, some .int)
abbrev M_TG_offerAt : MethodName × ByteArray × Nat × Option FieldType := (⟨"TagGuide", "offerAt", "(I)I"⟩, prog_1_method_19_code, 2, some .int)
abbrev M_Tr_isWithinTag : MethodName × ByteArray × Nat × Option FieldType := (⟨"TagGuide$Tree", "isWithinTag", "(I)Z"⟩, prog_12_method_12_code, 3, some .boolean)
abbrev M_Tr_insideOf : MethodName × ByteArray × Nat × Option FieldType := (⟨"TagGuide$Tree", "insideOf", "(I)I"⟩, prog_12_method_15_code, 3, some .int)
abbrev M_El_hasInside : MethodName × ByteArray × Nat × Option FieldType := (⟨"TagGuide$Element", "hasInside", "(I)Z"⟩, prog_4_method_5_code, 2, some .boolean)
abbrev M_Ms_offer : MethodName × ByteArray × Nat × Option FieldType := (⟨"TagGuide$Models", "offer", "(LTagGuide$Tree;II)I"⟩, prog_10_method_6_code, 9, some .int)
abbrev M_TG_renameAt : MethodName × ByteArray × Nat × Option FieldType := (⟨"TagGuide", "renameAt", "(II)I"⟩, prog_1_method_20_code, 4, some .int)
abbrev M_Tr_ownerOfTagAt : MethodName × ByteArray × Nat × Option FieldType := (⟨"TagGuide$Tree", "ownerOfTagAt", "(I)I"⟩, prog_12_method_13_code, 3, some .int)
abbrev M_Tr_renameTags : MethodName × ByteArray × Nat × Option FieldType := (⟨"TagGuide$Tree", "renameTags", "(II)I"⟩, prog_12_method_14_code, 6, some .int)
abbrev M_Tx_replace : MethodName × ByteArray × Nat × Option FieldType := (⟨"TagGuide$Text", "replace", "(II)V"⟩, prog_11_method_5_code, 3, none)
abbrev M_Fa_preventForm : MethodName × ByteArray × Nat × Option FieldType := (⟨"TagGuide$Faults", "preventForm", "()Z"⟩, prog_5_method_5_code, 2, some .boolean)
abbrev M_Fo_formAnew : MethodName × ByteArray × Nat × Option FieldType := (⟨"TagGuide$Former", "formAnew", "()I"⟩, prog_6_method_3_code, 2, some .int)
abbrev M_Ms_makeLoose : MethodName × ByteArray × Nat × Option FieldType := (⟨"TagGuide$Models", "makeLoose", "(LTagGuide$Element;)Z"⟩, prog_10_method_5_code, 2, some .boolean)
abbrev M_Fo_copy : MethodName × ByteArray × Nat × Option FieldType := (⟨"TagGuide$Former", "copy", "(II)V"⟩, prog_6_method_6_code, 4, none)
abbrev M_Fo_put : MethodName × ByteArray × Nat × Option FieldType := (⟨"TagGuide$Former", "put", "(I)V"⟩, prog_6_method_7_code, 2, none)
abbrev M_Fo_startLine : MethodName × ByteArray × Nat × Option FieldType := (⟨"TagGuide$Former", "startLine", "(I)V"⟩, prog_6_method_5_code, 3, none)
abbrev M_Fo_addForm : MethodName × ByteArray × Nat × Option FieldType := (⟨"TagGuide$Former", "addForm", "(II)V"⟩, prog_6_method_4_code, 5, none)
abbrev M_An_keep : MethodName × ByteArray × Nat × Option FieldType := (⟨"TagGuide$Answers", "keep", "(II)V"⟩, prog_2_method_2_code, 3, none)
abbrev M_TG_answer : MethodName × ByteArray × Nat × Option FieldType := (⟨"TagGuide", "answer", "(I)I"⟩, prog_1_method_9_code, 2, some .int)
abbrev M_An_of : MethodName × ByteArray × Nat × Option FieldType := (⟨"TagGuide$Answers", "of", "(I)I"⟩, prog_2_method_3_code, 3, some .int)
abbrev M_TG_inbox : MethodName × ByteArray × Nat × Option FieldType := (⟨"TagGuide", "inbox", "()I"⟩, prog_1_method_10_code, 1, some .int)
abbrev M_TG_length : MethodName × ByteArray × Nat × Option FieldType := (⟨"TagGuide", "length", "()I"⟩, prog_1_method_11_code, 1, some .int)
abbrev M_TG_character : MethodName × ByteArray × Nat × Option FieldType := (⟨"TagGuide", "character", "(I)I"⟩, prog_1_method_12_code, 2, some .int)
abbrev M_TG_element : MethodName × ByteArray × Nat × Option FieldType := (⟨"TagGuide", "element", "(II)I"⟩, prog_1_method_13_code, 3, some .int)
abbrev M_El_tell : MethodName × ByteArray × Nat × Option FieldType := (⟨"TagGuide$Element", "tell", "(I)I"⟩, prog_4_method_6_code, 2, some .int)
abbrev M_TG_fault : MethodName × ByteArray × Nat × Option FieldType := (⟨"TagGuide", "fault", "(II)I"⟩, prog_1_method_14_code, 3, some .int)
abbrev M_Fa_tell : MethodName × ByteArray × Nat × Option FieldType := (⟨"TagGuide$Faults", "tell", "(II)I"⟩, prog_5_method_6_code, 3, some .int)
abbrev M_TG_fertile : MethodName × ByteArray × Nat × Option FieldType := (⟨"TagGuide", "fertile", "()I"⟩, prog_1_method_15_code, 1, some .int)
abbrev M_TG_formed : MethodName × ByteArray × Nat × Option FieldType := (⟨"TagGuide", "formed", "(I)I"⟩, prog_1_method_16_code, 2, some .int)
abbrev M_Fo_at : MethodName × ByteArray × Nat × Option FieldType := (⟨"TagGuide$Former", "at", "(I)I"⟩, prog_6_method_2_code, 2, some .int)
abbrev M_RF_init : MethodName × ByteArray × Nat × Option FieldType := (⟨"TagGuideModel", "<init>", "()V"⟩, prog_14_method_1_code, 1, none)
abbrev M_RF_write : MethodName × ByteArray × Nat × Option FieldType := (⟨"TagGuideModel", "write", "(C)Z"⟩, prog_14_method_3_code, 2, some .boolean)
abbrev M_RF_define : MethodName × ByteArray × Nat × Option FieldType := (⟨"TagGuideModel", "define", "(C)I"⟩, prog_14_method_14_code, 3, some .int)
abbrev M_RF_takeDraft : MethodName × ByteArray × Nat × Option FieldType := (⟨"TagGuideModel", "takeDraft", "(C)I"⟩, prog_14_method_13_code, 6, some .int)
abbrev M_RF_isName : MethodName × ByteArray × Nat × Option FieldType := (⟨"TagGuideModel", "isName", "(I)Z"⟩, prog_14_method_2_code, 1, some .boolean)
abbrev M_RF_count : MethodName × ByteArray × Nat × Option FieldType := (⟨"TagGuideModel", "count", "(Z)I"⟩, prog_14_method_12_code, 4, some .int)
abbrev M_RF_at : MethodName × ByteArray × Nat × Option FieldType := (⟨"TagGuideModel", "at", "(I)I"⟩, prog_14_method_4_code, 2, some .int)
abbrev M_RF_readNothing : MethodName × ByteArray × Nat × Option FieldType := (⟨"TagGuideModel", "readNothing", "()V"⟩, prog_14_method_11_code, 1, none)
abbrev M_RF_isExpression : MethodName × ByteArray × Nat × Option FieldType := (⟨"TagGuideModel", "isExpression", "(I)Z"⟩, prog_14_method_5_code, 7, some .boolean)
abbrev M_RF_readExpression : MethodName × ByteArray × Nat × Option FieldType := (⟨"TagGuideModel", "readExpression", "(I)V"⟩, prog_14_method_10_code, 11, none)
abbrev M_RF_setPart : MethodName × ByteArray × Nat × Option FieldType := (⟨"TagGuideModel", "setPart", "(IZIIZ)V"⟩, prog_14_method_7_code, 6, none)
abbrev M_RF_choose : MethodName × ByteArray × Nat × Option FieldType := (⟨"TagGuideModel", "choose", "(I)V"⟩, prog_14_method_9_code, 8, none)
abbrev M_RF_link : MethodName × ByteArray × Nat × Option FieldType := (⟨"TagGuideModel", "link", "(II)V"⟩, prog_14_method_6_code, 4, none)
abbrev M_RF_append : MethodName × ByteArray × Nat × Option FieldType := (⟨"TagGuideModel", "append", "(IIIZ)V"⟩, prog_14_method_8_code, 7, none)
abbrev M_RF_fertile : MethodName × ByteArray × Nat × Option FieldType := (⟨"TagGuideModel", "fertile", "()I"⟩, prog_14_method_19_code, 4, some .int)
abbrev M_RF_steps : MethodName × ByteArray × Nat × Option FieldType := (⟨"TagGuideModel", "steps", "(III)I"⟩, prog_14_method_18_code, 6, some .int)
abbrev M_RF_step : MethodName × ByteArray × Nat × Option FieldType := (⟨"TagGuideModel", "step", "(III)I"⟩, prog_14_method_16_code, 6, some .int)
abbrev M_RF_next : MethodName × ByteArray × Nat × Option FieldType := (⟨"TagGuideModel", "next", "(II)I"⟩, prog_14_method_15_code, 5, some .int)
abbrev M_RF_accepts : MethodName × ByteArray × Nat × Option FieldType := (⟨"TagGuideModel", "accepts", "(II)Z"⟩, prog_14_method_17_code, 3, some .boolean)
abbrev M_RF_insert : MethodName × ByteArray × Nat × Option FieldType := (⟨"TagGuideModel", "insert", "(IC)Z"⟩, prog_14_method_46_code, 3, some .boolean)
abbrev M_RF_post : MethodName × ByteArray × Nat × Option FieldType := (⟨"TagGuideModel", "post", "(IIIII)V"⟩, prog_14_method_45_code, 6, none)
abbrev M_RF_erase : MethodName × ByteArray × Nat × Option FieldType := (⟨"TagGuideModel", "erase", "(II)Z"⟩, prog_14_method_47_code, 3, some .boolean)
abbrev M_RF_ask : MethodName × ByteArray × Nat × Option FieldType := (⟨"TagGuideModel", "ask", "(IIC)I"⟩, prog_14_method_48_code, 4, some .int)
abbrev M_RF_cancel : MethodName × ByteArray × Nat × Option FieldType := (⟨"TagGuideModel", "cancel", "(I)Z"⟩, prog_14_method_51_code, 3, some .boolean)
abbrev M_RF_waitsAt : MethodName × ByteArray × Nat × Option FieldType := (⟨"TagGuideModel", "waitsAt", "(I)I"⟩, prog_14_method_50_code, 3, some .int)
abbrev M_RF_strike : MethodName × ByteArray × Nat × Option FieldType := (⟨"TagGuideModel", "strike", "(I)V"⟩, prog_14_method_49_code, 3, none)
abbrev M_RF_work : MethodName × ByteArray × Nat × Option FieldType := (⟨"TagGuideModel", "work", "()I"⟩, prog_14_method_55_code, 6, some .int)
abbrev M_RF_insertNow : MethodName × ByteArray × Nat × Option FieldType := (⟨"TagGuideModel", "insertNow", "(II)V"⟩, prog_14_method_52_code, 4, none)
abbrev M_RF_eraseNow : MethodName × ByteArray × Nat × Option FieldType := (⟨"TagGuideModel", "eraseNow", "(II)V"⟩, prog_14_method_53_code, 4, none)
abbrev M_RF_respond : MethodName × ByteArray × Nat × Option FieldType := (⟨"TagGuideModel", "respond", "(III)I"⟩, prog_14_method_54_code, 4, some .int)
abbrev M_RF_analyse : MethodName × ByteArray × Nat × Option FieldType := (⟨"TagGuideModel", "analyse", "()V"⟩, prog_14_method_30_code, 8, none)
abbrev M_RF_newElement : MethodName × ByteArray × Nat × Option FieldType := (⟨"TagGuideModel", "newElement", "(IIII)I"⟩, prog_14_method_23_code, 5, some .int)
abbrev M_RF_charAt : MethodName × ByteArray × Nat × Option FieldType := (⟨"TagGuideModel", "charAt", "(I)I"⟩, prog_14_method_20_code, 2, some .int)
abbrev M_RF_mark : MethodName × ByteArray × Nat × Option FieldType := (⟨"TagGuideModel", "mark", "(III)V"⟩, prog_14_method_22_code, 5, none)
abbrev M_RF_takeStart : MethodName × ByteArray × Nat × Option FieldType := (⟨"TagGuideModel", "takeStart", "(IZ)V"⟩, prog_14_method_28_code, 5, none)
abbrev M_RF_openElements : MethodName × ByteArray × Nat × Option FieldType := (⟨"TagGuideModel", "openElements", "()I"⟩, prog_14_method_25_code, 3, some .int)
abbrev M_RF_addFault : MethodName × ByteArray × Nat × Option FieldType := (⟨"TagGuideModel", "addFault", "(II)V"⟩, prog_14_method_21_code, 4, none)
abbrev M_RF_current : MethodName × ByteArray × Nat × Option FieldType := (⟨"TagGuideModel", "current", "()I"⟩, prog_14_method_24_code, 2, some .int)
abbrev M_RF_takeEnd : MethodName × ByteArray × Nat × Option FieldType := (⟨"TagGuideModel", "takeEnd", "(I)V"⟩, prog_14_method_27_code, 4, none)
abbrev M_RF_closeBare : MethodName × ByteArray × Nat × Option FieldType := (⟨"TagGuideModel", "closeBare", "(II)V"⟩, prog_14_method_26_code, 3, none)
abbrev M_RF_takeCharacter : MethodName × ByteArray × Nat × Option FieldType := (⟨"TagGuideModel", "takeCharacter", "(I)V"⟩, prog_14_method_29_code, 4, none)
abbrev M_RF_judge : MethodName × ByteArray × Nat × Option FieldType := (⟨"TagGuideModel", "judge", "(I)V"⟩, prog_14_method_33_code, 5, none)
abbrev M_RF_modelOf : MethodName × ByteArray × Nat × Option FieldType := (⟨"TagGuideModel", "modelOf", "(I)I"⟩, prog_14_method_31_code, 2, some .int)
abbrev M_RF_offer : MethodName × ByteArray × Nat × Option FieldType := (⟨"TagGuideModel", "offer", "(I)I"⟩, prog_14_method_34_code, 10, some .int)
abbrev M_RF_isBit : MethodName × ByteArray × Nat × Option FieldType := (⟨"TagGuideModel", "isBit", "(II)Z"⟩, prog_14_method_32_code, 3, some .boolean)
abbrev M_RF_rename : MethodName × ByteArray × Nat × Option FieldType := (⟨"TagGuideModel", "rename", "(II)I"⟩, prog_14_method_35_code, 4, some .int)
abbrev M_RF_makeForm : MethodName × ByteArray × Nat × Option FieldType := (⟨"TagGuideModel", "makeForm", "()I"⟩, prog_14_method_44_code, 3, some .int)
abbrev M_RF_loose : MethodName × ByteArray × Nat × Option FieldType := (⟨"TagGuideModel", "loose", "(I)Z"⟩, prog_14_method_36_code, 5, some .boolean)
abbrev M_RF_putText : MethodName × ByteArray × Nat × Option FieldType := (⟨"TagGuideModel", "putText", "(II)V"⟩, prog_14_method_39_code, 4, none)
abbrev M_RF_put : MethodName × ByteArray × Nat × Option FieldType := (⟨"TagGuideModel", "put", "(I)V"⟩, prog_14_method_38_code, 2, none)
abbrev M_RF_laid : MethodName × ByteArray × Nat × Option FieldType := (⟨"TagGuideModel", "laid", "(I)Z"⟩, prog_14_method_41_code, 4, some .boolean)
abbrev M_RF_endLines : MethodName × ByteArray × Nat × Option FieldType := (⟨"TagGuideModel", "endLines", "(II)V"⟩, prog_14_method_43_code, 4, none)
abbrev M_RF_within : MethodName × ByteArray × Nat × Option FieldType := (⟨"TagGuideModel", "within", "(II)Z"⟩, prog_14_method_42_code, 4, some .boolean)
abbrev M_RF_depthOf : MethodName × ByteArray × Nat × Option FieldType := (⟨"TagGuideModel", "depthOf", "(I)I"⟩, prog_14_method_37_code, 4, some .int)
abbrev M_RF_putLine : MethodName × ByteArray × Nat × Option FieldType := (⟨"TagGuideModel", "putLine", "(I)V"⟩, prog_14_method_40_code, 3, none)
abbrev M_RF_answer : MethodName × ByteArray × Nat × Option FieldType := (⟨"TagGuideModel", "answer", "(I)I"⟩, prog_14_method_56_code, 3, some .int)
abbrev M_RF_inbox : MethodName × ByteArray × Nat × Option FieldType := (⟨"TagGuideModel", "inbox", "()I"⟩, prog_14_method_57_code, 1, some .int)
abbrev M_RF_length : MethodName × ByteArray × Nat × Option FieldType := (⟨"TagGuideModel", "length", "()I"⟩, prog_14_method_58_code, 1, some .int)
abbrev M_RF_character : MethodName × ByteArray × Nat × Option FieldType := (⟨"TagGuideModel", "character", "(I)I"⟩, prog_14_method_59_code, 2, some .int)
abbrev M_RF_element : MethodName × ByteArray × Nat × Option FieldType := (⟨"TagGuideModel", "element", "(II)I"⟩, prog_14_method_60_code, 5, some .int)
abbrev M_RF_fault : MethodName × ByteArray × Nat × Option FieldType := (⟨"TagGuideModel", "fault", "(II)I"⟩, prog_14_method_61_code, 3, some .int)
abbrev M_RF_formed : MethodName × ByteArray × Nat × Option FieldType := (⟨"TagGuideModel", "formed", "(I)I"⟩, prog_14_method_62_code, 2, some .int)
end
section
/-! One judgement for a frame: EX. A pure heap is (n, sh, ln, iv, rv): n cells, each an object of class number ci (.inl ci) or an array of kind t (.inr t) of length ln; its numbers iv, its references rv (by the cells' numbers). The cells lie at G.1, G.1 + 1, ..: nothing else is made. -/
abbrev ex_H : Type := Nat × (Nat → Nat ⊕ Nat) × (Nat → Nat) × (Nat → Nat → Int32) × (Nat → Nat → Option Nat)
abbrev ex_G : Type := Nat × va_G × (Nat → ClassId)
abbrev ex_M : Type := MethodName × ByteArray × Nat × Option FieldType
def ex_u2 {α : Type} (F : Nat → Nat → α) (a k : Nat) (v : α) : Nat → Nat → α := fun i j => if i = a ∧ j = k then v else F i j
theorem ex_u2_row {α : Type} (F : Nat → Nat → α) (a k : Nat) (v : α) : ex_u2 F a k v a = va_up (F a) k v := by
  funext j
  simp [ex_u2, va_up]
theorem ex_u2_ne {α : Type} (F : Nat → Nat → α) {a i : Nat} (k : Nat) (v : α) (h : i ≠ a) : ex_u2 F a k v i = F i := by
  funext j
  simp [ex_u2, h]
def ex_si (h : ex_H) (a k : Nat) (x : Int32) : ex_H := (h.1, h.2.1, h.2.2.1, ex_u2 h.2.2.2.1 a k x, h.2.2.2.2)
def ex_sr (h : ex_H) (a k : Nat) (x : Option Nat) : ex_H := (h.1, h.2.1, h.2.2.1, h.2.2.2.1, ex_u2 h.2.2.2.2 a k x)
def ex_sa (h : ex_H) (a : Nat) (f : Nat → Int32) : ex_H := (h.1, h.2.1, h.2.2.1, va_up h.2.2.2.1 a f, h.2.2.2.2)
def ex_no (h : ex_H) (ci : Nat) : ex_H := (h.1 + 1, va_up h.2.1 h.1 (.inl ci), h.2.2.1, va_up h.2.2.2.1 h.1 (fun _ => 0), va_up h.2.2.2.2 h.1 (fun _ => none))
def ex_na (h : ex_H) (t n : Nat) : ex_H := (h.1 + 1, va_up h.2.1 h.1 (.inr t), va_up h.2.2.1 h.1 n, va_up h.2.2.2.1 h.1 (fun _ => 0), va_up h.2.2.2.2 h.1 (fun _ => none))
/-- a value of the pure heap in the machine: a cell's number becomes its address; .retAddr stands for a reference to a cell outside (the law's script) -/
def ex_v (b : Nat) (v : Value) : Value := match v with
  | .ref i => .ref (b + i)
  | .retAddr q => .ref q
  | w => w
theorem ex_v_cat (b : Nat) (v : Value) : (ex_v b v).category = v.category := by cases v <;> rfl
def ex_fs (b : Nat) (ks : List Bool) (I : Nat → Int32) (R : Nat → Option Nat) : List Value := (List.range ks.length).map fun k => if ks.getD k false = true then va_rf ((R k).map (b + ·)) else .int (I k)
theorem ex_fs_at {b : Nat} {ks : List Bool} {I : Nat → Int32} {R : Nat → Option Nat} {k : Nat} (hk : k < ks.length) : (ex_fs b ks I R)[k]? = some (if ks.getD k false = true then va_rf ((R k).map (b + ·)) else .int (I k)) := by
  rw [ex_fs, List.getElem?_map, List.getElem?_range hk]
  rfl
theorem ex_fs_len {b : Nat} {ks : List Bool} {I : Nat → Int32} {R : Nat → Option Nat} : (ex_fs b ks I R).length = ks.length := by simp [ex_fs]
theorem ex_fs_set {b : Nat} {ks : List Bool} {I I' : Nat → Int32} {R R' : Nat → Option Nat} {k : Nat} {v : Value} (hk : k < ks.length) (hv : (if ks.getD k false = true then va_rf ((R' k).map (b + ·)) else .int (I' k)) = v) (ho : ∀ j, j ≠ k → I' j = I j ∧ R' j = R j) : (ex_fs b ks I R).set k v = ex_fs b ks I' R' := by
  apply List.ext_getElem?
  intro j
  rw [List.getElem?_set]
  by_cases hj : j < ks.length
  · rw [ex_fs_at (I := I') (R := R') hj]
    by_cases e : k = j
    · subst e
      rw [if_pos rfl, if_pos (by rw [ex_fs_len]; exact hk), hv]
    · rw [if_neg e, ex_fs_at hj, (ho j (Ne.symm e)).1, (ho j (Ne.symm e)).2]
  · have e : k ≠ j := by omega
    rw [if_neg e, List.getElem?_eq_none (by rw [ex_fs_len]; omega), List.getElem?_eq_none (by rw [ex_fs_len]; omega)]
def ex_cell (G : ex_G) (h : ex_H) (a : Nat) : va_E := match h.2.1 a with
  | .inl ci => .inr (ci, ex_fs G.1 (exFk ci) (h.2.2.2.1 a) (h.2.2.2.2 a))
  | .inr t => .inl (G.2.2 t, h.2.2.1 a, if exRk t = true then .inr (.inr (.inr (.inr (fun j => (h.2.2.2.2 a j).map (G.1 + ·))))) else .inl (h.2.2.2.1 a))
theorem ex_cell_o {G : ex_G} {h : ex_H} {a ci : Nat} (hs : h.2.1 a = .inl ci) : ex_cell G h a = .inr (ci, ex_fs G.1 (exFk ci) (h.2.2.2.1 a) (h.2.2.2.2 a)) := by
  unfold ex_cell
  rw [hs]
theorem ex_cell_i {G : ex_G} {h : ex_H} {a t : Nat} (hs : h.2.1 a = .inr t) (hr : exRk t = false) : ex_cell G h a = .inl (G.2.2 t, h.2.2.1 a, .inl (h.2.2.2.1 a)) := by
  unfold ex_cell
  rw [hs]
  simp [hr]
theorem ex_cell_q {G : ex_G} {h : ex_H} {a t : Nat} (hs : h.2.1 a = .inr t) (hr : exRk t = true) : ex_cell G h a = .inl (G.2.2 t, h.2.2.1 a, .inr (.inr (.inr (.inr (fun j => (h.2.2.2.2 a j).map (G.1 + ·)))))) := by
  unfold ex_cell
  rw [hs]
  simp [hr]
theorem ex_cell_c {G : ex_G} {h h' : ex_H} {j : Nat} (h1 : h'.2.1 j = h.2.1 j) (h2 : h'.2.2.1 j = h.2.2.1 j) (h3 : h'.2.2.2.1 j = h.2.2.2.1 j) (h4 : h'.2.2.2.2 j = h.2.2.2.2 j) : ex_cell G h' j = ex_cell G h j := by
  unfold ex_cell
  rw [h1, h2, h3, h4]
def ex_w (G : ex_G) (h : ex_H) : va_W := (List.range h.1).map fun a => (G.1 + a, ex_cell G h a)
theorem ex_w_at {G : ex_G} {h : ex_H} {a : Nat} (ha : a < h.1) : (ex_w G h)[a]? = some (G.1 + a, ex_cell G h a) := by
  rw [ex_w, List.getElem?_map, List.getElem?_range ha]
  rfl
theorem ex_w_len {G : ex_G} {h : ex_H} : (ex_w G h).length = h.1 := by simp [ex_w]
theorem ex_w_of {G : ex_G} {h : ex_H} {k : Nat} {q : Nat × va_E} (hq : (ex_w G h)[k]? = some q) : k < h.1 ∧ q = (G.1 + k, ex_cell G h k) := by
  have hk : k < h.1 := by
    have h1 := (List.getElem?_eq_some_iff.mp hq).1
    rw [ex_w_len] at h1
    exact h1
  rw [ex_w_at hk] at hq
  exact ⟨hk, (Option.some.inj hq).symm⟩
theorem ex_D (G : ex_G) (h : ex_H) : va_D (fun q => G.1 ≤ q) (ex_w G h) := by
  refine ⟨fun i j x y hp hq e => ?_, fun k q hq => ?_⟩
  · obtain ⟨-, rfl⟩ := ex_w_of hp
    obtain ⟨-, rfl⟩ := ex_w_of hq
    have e' : G.1 + i = G.1 + j := e
    omega
  · obtain ⟨-, rfl⟩ := ex_w_of hq
    exact Nat.le_add_right _ _
theorem ex_w_set {G : ex_G} {h h' : ex_H} {a : Nat} {E : va_E} (ha : a < h.1) (hn : h'.1 = h.1) (he : ex_cell G h' a = E) (ho : ∀ j, j ≠ a → ex_cell G h' j = ex_cell G h j) : (ex_w G h).set a (G.1 + a, E) = ex_w G h' := by
  apply List.ext_getElem?
  intro k
  rw [List.getElem?_set]
  by_cases hk : k < h.1
  · rw [ex_w_at (h := h') (by rw [hn]; exact hk)]
    by_cases e : a = k
    · subst e
      rw [if_pos rfl, if_pos (by rw [ex_w_len]; exact ha), he]
    · rw [if_neg e, ex_w_at hk, ho k (Ne.symm e)]
  · have e : a ≠ k := by omega
    rw [if_neg e, List.getElem?_eq_none (by rw [ex_w_len]; omega), List.getElem?_eq_none (by rw [ex_w_len, hn]; omega)]
theorem ex_w_push {G : ex_G} {h h' : ex_H} (hn : h'.1 = h.1 + 1) (ho : ∀ j, j < h.1 → ex_cell G h' j = ex_cell G h j) : ex_w G h ++ [(G.1 + h.1, ex_cell G h' h.1)] = ex_w G h' := by
  unfold ex_w
  rw [hn, List.range_succ, List.map_append]
  congr 1
  exact List.map_congr_left (fun j hj => by rw [ho j (List.mem_range.mp hj)])
def ex_ty (G : ex_G) : List (ClassId × FieldType) := (List.range exTy.length).map fun t => (G.2.2 t, exTy.getD t .int)
theorem ex_ty_at {G : ex_G} {t : Nat} {ty : FieldType} (ht : exTy[t]? = some ty) : (ex_ty G)[t]? = some (G.2.2 t, ty) := by
  rw [ex_ty, List.getElem?_map, List.getElem?_range (List.getElem?_eq_some_iff.mp ht).1, Option.map_some, List.getD_eq_getElem?_getD, ht]
  rfl
/-- what is known of the tables -/
def ex_K (G : ex_G) (U : State) : Prop := va_K G.2.1 exCl (ex_ty G) U ∧ (∀ w ∈ exNW, va_Nw w U) ∧ ∀ C ∈ exAO, va_AO C U
theorem ex_nest_warm {w : Cond} (hw : ex_nest w = true) {s U : State} (hW : s.WarmedH U.vm) (h : va_Nw w s) : va_Nw w U := by
  cases w <;> first | exact va_Nw.warmF hW h | exact va_Nw.warmM hW h | (simp [ex_nest] at hw; done)
theorem ex_nest_on {w : Cond} (hw : ex_nest w = true) : w.onTables = true := by
  cases w <;> first | rfl | (simp [ex_nest] at hw; done)
theorem ex_K.warm {G : ex_G} {s U : State} (hW : s.WarmedH U.vm) (h : ex_K G s) : ex_K G U :=
  ⟨va_K.moved hW.alike h.1, fun w hw => ex_nest_warm (exNW_nest w hw) hW (h.2.1 w hw), fun C hC => va_AO.moved hW.alike (h.2.2 C hC)⟩
theorem ex_K.same {G : ex_G} {s U : State} (hv : s.vm = U.vm) (h : ex_K G s) : ex_K G U :=
  ⟨va_K.moved (by rw [hv]; exact Vm.Alike.refl _) h.1, fun w hw => va_Nw.same (ex_nest_on (exNW_nest w hw)) hv (h.2.1 w hw), fun C hC => va_AO.moved (by rw [hv]; exact Vm.Alike.refl _) (h.2.2 C hC)⟩
def ex_P (G : ex_G) (h : ex_H) (U : State) : Prop := va_P G.2.1 exCl (ex_w G h) U.heap ∧ U.heap.size = G.1 + h.1 ∧ ex_K G U
def ex_Q (G : ex_G) (mc : Nat) (Post : Option Value → ex_H → Prop) : Array Value → State → Outcome → State → Prop := fun _ st oc t => (∃ (r : Option Value) (h' : ex_H), oc = .returned (r.map (ex_v G.1)) ∧ Post r h' ∧ ex_P G h' t ∧ st.heap.size + mc = G.1 + h'.1) ∧ va_F (fun q => G.1 ≤ q) st t
abbrev ex_rm (d mc ms : Nat) : Room := { frames := d, cells := mc, slots := ms, locals := 64 * d }
/-- method M at depth d, on these arguments and this heap, returns with Post of its answer and its heap; mc cells of at most ms slots are new -/
def CT (l : Launch) (G : ex_G) (d : Nat) (M : ex_M) (as : List Value) (h : ex_H) (mc ms : Nat) (Post : Option Value → ex_H → Prop) : Prop :=
  Met l M.1 (.code M.1 M.2.1 M.2.2.1 M.2.2.2 :: exTW) (ex_rm d mc ms) (va_Pc (as.map (ex_v G.1)) (ex_P G h)) (ex_Q G mc Post) mc ms (fun q => G.1 ≤ q)
/-- the room has place for a callee of depth d' -/
def ex_lt (R : Room) (d' : Nat) : Prop := d' + 1 ≤ R.frames ∧ 64 * d' + 64 ≤ R.locals
theorem ex_lt_rm {d d' mc ms : Nat} (h : d' < d) : ex_lt (ex_rm d mc ms) d' := ⟨h, by show 64 * d' + 64 ≤ 64 * d; omega⟩
def ex_has (b nL : Nat) (ls : Array Slot) (L : List (Option Value)) : Prop := ls.size = nL ∧ lv_wf ls ∧ ∀ (i : Nat) (v : Value), L[i]? = some (some v) → v.category = 1 ∧ ls[i]? = some (.val (ex_v b v))
def ex_lv (b : Nat) (L : List (Option Value)) : List (Nat × Value) := (List.range L.length).filterMap fun i => (L[i]?.getD none).map fun v => (i, ex_v b v)
theorem ex_lv_in {b i : Nat} {L : List (Option Value)} {v : Value} (h : L[i]? = some (some v)) : (i, ex_v b v) ∈ ex_lv b L := by
  refine List.mem_filterMap.mpr ⟨i, List.mem_range.mpr (List.getElem?_eq_some_iff.mp h).1, ?_⟩
  rw [h]
  rfl
theorem ex_lv_of {b : Nat} {L : List (Option Value)} {q : Nat × Value} (h : q ∈ ex_lv b L) : ∃ v, L[q.1]? = some (some v) ∧ q.2 = ex_v b v := by
  obtain ⟨i, hi, he⟩ := List.mem_filterMap.mp h
  cases hL : L[i]? with
  | none =>
    rw [hL] at he
    cases he
  | some o =>
    cases o with
    | none =>
      rw [hL] at he
      cases he
    | some v =>
      rw [hL] at he
      cases he
      exact ⟨v, hL, rfl⟩
theorem ex_has_lv {b nL : Nat} {ls : Array Slot} {L : List (Option Value)} (h : ex_has b nL ls L) : lv_has ls nL (ex_lv b L) := ⟨h.1, h.2.1, fun q hq => by
  obtain ⟨v, h1, h2⟩ := ex_lv_of hq
  rw [h2]
  exact (h.2.2 q.1 v h1).2⟩
theorem ex_has_set {b nL i : Nat} {ls ls' : Array Slot} {L : List (Option Value)} {v : Value} (h : ex_has b nL ls L) (hc : v.category = 1) (h' : lv_has ls' nL ((i, ex_v b v) :: (ex_lv b L).filter (fun q => !(q.1 == i) && !(q.1 + 1 == i && q.2.category == 2)))) : ex_has b nL ls' (L.set i (some v)) := by
  refine ⟨h'.1, h'.2.1, fun j w hj => ?_⟩
  rw [List.getElem?_set] at hj
  by_cases e : i = j
  · subst e
    rw [if_pos rfl] at hj
    split at hj
    · cases hj
      exact ⟨hc, h'.2.2 _ List.mem_cons_self⟩
    · cases hj
  · rw [if_neg e] at hj
    have h1 := (h.2.2 j w hj).1
    refine ⟨h1, h'.2.2 (j, ex_v b w) (List.mem_cons_of_mem _ (List.mem_filter.mpr ⟨ex_lv_in hj, ?_⟩))⟩
    simp [Ne.symm e, ex_v_cat, h1]
theorem ex_has_none {b nL i : Nat} {ls : Array Slot} {L : List (Option Value)} (h : ex_has b nL ls L) : ex_has b nL ls (L.set i none) := by
  refine ⟨h.1, h.2.1, fun j w hj => ?_⟩
  rw [List.getElem?_set] at hj
  by_cases e : i = j
  · subst e
    rw [if_pos rfl] at hj
    split at hj
    · cases hj
    · cases hj
  · rw [if_neg e] at hj
    exact h.2.2 j w hj
theorem ex_args_in (vs : List Value) : ∀ (j i : Nat) (v : Value), (∀ w ∈ vs, w.category = 1) → vs[i]? = some v → (j + i, v) ∈ lv_args j vs := by
  induction vs with
  | nil => intro j i v _ h; cases h
  | cons w ws ih =>
    intro j i v hc h
    have hw : w.category = 1 := hc w List.mem_cons_self
    cases i with
    | zero =>
      cases h
      exact List.mem_cons_self
    | succ i =>
      have h2 := ih (j + 1) i v (fun x hx => hc x (List.mem_cons_of_mem _ hx)) (by simpa using h)
      have e : j + (i + 1) = j + 1 + i := by omega
      rw [e]
      show (j + 1 + i, v) ∈ (j, w) :: lv_args (if w.category = 2 then j + 2 else j + 1) ws
      rw [hw]
      exact List.mem_cons_of_mem _ h2
theorem ex_sl (vs : List Value) (hc : ∀ w ∈ vs, w.category = 1) : (lg_sl vs).length = vs.length := by
  induction vs with
  | nil => rfl
  | cons w ws ih =>
    have hw : w.category = 1 := hc w List.mem_cons_self
    have h2 := ih (fun x hx => hc x (List.mem_cons_of_mem _ hx))
    show ((if w.category = 2 then [Slot.val w, .second] else [.val w]) ++ lg_sl ws).length = _
    rw [hw]
    simp [h2]
def ex_as (as : List Value) (n : Nat) : List (Option Value) := as.map some ++ List.replicate (n - as.length) none

section EXR
variable {p : Program} {l : Launch} {e : Env} {s : State} {m : MethodId} {args : Array Value} {below : List Frame} {meth : Method} {c : Code} {M : ex_M} {G : ex_G} {R : Room} {Q : State → Prop} {d mc ms cells slots pc : Nat} {Post : Option Value → ex_H → Prop} {L : List (Option Value)} {st : List Value} {h : ex_H}

def ex_ok (M : ex_M) (G : ex_G) (p : Program) (s : State) (m : MethodId) (args : Array Value) (meth : Method) (c : Code) : Prop :=
  p.tables.exec = Jvm.exec ∧ c.code = M.2.1 ∧ c.maxLocals = M.2.2.1 ∧ s.vm.findClass M.1.cls = some m.cls ∧ (∀ w ∈ exTW, w.before args s = true) ∧ meth.locks = false ∧ meth.name = M.1.name ∧ meth.sig.returnType = M.2.2.2 ∧ ex_K G s ∧ G.1 ≤ s.heap.size
def EX (M : ex_M) (l : Launch) (G : ex_G) (R : Room) (Q : State → Prop) (p : Program) (e : Env) (s : State) (m : MethodId) (args : Array Value) (below : List Frame) (meth : Method) (c : Code) (cells slots pc : Nat) (L : List (Option Value)) (st : List Value) (h : ex_H) : Prop :=
  ex_ok M G p s m args meth c → ∀ (H : Heap) (ls : Array Slot) (locs : List Loc), ex_has G.1 M.2.2.1 ls L → va_P G.2.1 exCl (ex_w G h) H → s.heap.size + cells = G.1 + h.1 → va_S (fun q => G.1 ≤ q) s.heap H locs →
    W p l e R s m args below meth c H locs cells slots Q (F0 m pc ls (st.map (ex_v G.1)))
theorem ex_size {H : Heap} {locs : List Loc} {g : JFrame} (k : H.size ≤ s.heap.size + cells → W p l e R s m args below meth c H locs cells slots Q g) : W p l e R s m args below meth c H locs cells slots Q g := by
  intro T hT X
  exact k (by rw [← hT]; exact X.same.2.2.1) T hT X
theorem ex_low {H : Heap} {locs : List Loc} (hP : va_P G.2.1 exCl (ex_w G h) H) (hS : va_S (fun q => G.1 ≤ q) s.heap H locs) (hb : G.1 ≤ s.heap.size) : G.1 + h.1 ≤ H.size := by
  cases hn : h.1 with
  | zero => exact Nat.le_trans hb hS.1
  | succ n =>
    have h1 := (hP n _ (ex_w_at (h := h) (by omega))).lt
    have h2 : G.1 + n < H.size := h1
    omega
theorem ex_enter {as : List Value} (hy : plainName M.1.cls = true) (hn : as.length ≤ M.2.2.1) (hc : ∀ v ∈ as, v.category = 1)
    (k : ∀ (p : Program) (e : Env) (s : State) (m : MethodId) (args : Array Value) (below : List Frame) (meth : Method) (c : Code), EX M l G (ex_rm d mc ms) (MQ below (ex_Q G mc Post) args s mc ms (fun q => G.1 ≤ q)) p e s m args below meth c 0 0 0 (ex_as as M.2.2.1) [] h) : CT l G d M as h mc ms Post := by
  refine Met.ofW (cc := M.2.1) (maxL := M.2.2.1) (ret := M.2.2.2) hy rfl ?_
  intro p e s m args below meth c s₁ B hml hv
  obtain ⟨rfl, hP, hz, hK⟩ := hv
  have hts := atoms_spec B.pre
  have hown : s.vm.findClass M.1.cls = some m.cls := findClass_of_methodNamed B.named
  have hin : meth.name = M.1.name := (name_of_methodNamed B.named B.method).1
  have hc' : ∀ w ∈ as.map (ex_v G.1), w.category = 1 := by
    intro w hw
    obtain ⟨v, hv, rfl⟩ := List.mem_map.mp hw
    rw [ex_v_cat]
    exact hc v hv
  rw [lg_entry_eq]
  have hl := lv_entry (as.map (ex_v G.1)) (n := M.2.2.1) (by rw [ex_sl _ hc', List.length_map]; exact hn)
  refine k p e s m _ below meth c ⟨B.exec, B.bytes, hml, hown, fun w hw => hts w (List.mem_cons_of_mem _ hw), B.notSynchronized, hin, B.returns, hK, by omega⟩ s.heap _ [] ⟨hl.1, hl.2.1, fun i v hi => ?_⟩ hP (by omega) va_S.rf
  by_cases hlt : i < (as.map (some : Value → Option Value)).length
  · rw [ex_as, List.getElem?_append_left hlt, List.getElem?_map] at hi
    cases ha : as[i]? with
    | none => rw [ha] at hi; cases hi
    | some w =>
      rw [ha] at hi
      cases hi
      refine ⟨hc _ (List.mem_of_getElem? ha), ?_⟩
      have h3 := hl.2.2 _ (ex_args_in (as.map (ex_v G.1)) 0 i (ex_v G.1 v) hc' (by rw [List.getElem?_map, ha]; rfl))
      rw [Nat.zero_add] at h3
      exact h3
  · rw [ex_as, List.getElem?_append_right (by omega), List.getElem?_replicate] at hi
    split at hi
    · cases hi
    · cases hi

theorem ex_iconst {n : Int} {v : Int32} (hd : decode M.2.1 pc = .ok (.iconst n, 1)) (hv : Int32.ofInt n = v) (k : EX M l G R Q p e s m args below meth c cells slots (pc + 1) L (.int v :: st) h) : EX M l G R Q p e s m args below meth c cells slots pc L st h :=
  fun hg H ls locs hl hP hn hS => lv_iconst hg.1 hg.2.1 hd hv (k hg H ls locs hl hP hn hS)
theorem ex_bipush {n : Int} {v : Int32} (hd : decode M.2.1 pc = .ok (.bipush n, 2)) (hv : (Int8.ofInt n).toInt32 = v) (k : EX M l G R Q p e s m args below meth c cells slots (pc + 2) L (.int v :: st) h) : EX M l G R Q p e s m args below meth c cells slots pc L st h :=
  fun hg H ls locs hl hP hn hS => lv_bipush hg.1 hg.2.1 hd hv (k hg H ls locs hl hP hn hS)
theorem ex_sipush {n : Int} {v : Int32} (hd : decode M.2.1 pc = .ok (.sipush n, 3)) (hv : (Int16.ofInt n).toInt32 = v) (k : EX M l G R Q p e s m args below meth c cells slots (pc + 3) L (.int v :: st) h) : EX M l G R Q p e s m args below meth c cells slots pc L st h :=
  fun hg H ls locs hl hP hn hS => lv_sipush hg.1 hg.2.1 hd hv (k hg H ls locs hl hP hn hS)
theorem ex_iadd {x y : Int32} (hd : decode M.2.1 pc = .ok (.iadd, 1)) (k : EX M l G R Q p e s m args below meth c cells slots (pc + 1) L (.int (x + y) :: st) h) : EX M l G R Q p e s m args below meth c cells slots pc L (.int y :: .int x :: st) h :=
  fun hg H ls locs hl hP hn hS => lv_iadd hg.1 hg.2.1 hd (k hg H ls locs hl hP hn hS)
theorem ex_isub {x y : Int32} (hd : decode M.2.1 pc = .ok (.isub, 1)) (k : EX M l G R Q p e s m args below meth c cells slots (pc + 1) L (.int (x - y) :: st) h) : EX M l G R Q p e s m args below meth c cells slots pc L (.int y :: .int x :: st) h :=
  fun hg H ls locs hl hP hn hS => lv_isub hg.1 hg.2.1 hd (k hg H ls locs hl hP hn hS)
theorem ex_imul {x y : Int32} (hd : decode M.2.1 pc = .ok (.imul, 1)) (k : EX M l G R Q p e s m args below meth c cells slots (pc + 1) L (.int (x * y) :: st) h) : EX M l G R Q p e s m args below meth c cells slots pc L (.int y :: .int x :: st) h :=
  fun hg H ls locs hl hP hn hS => lv_imul hg.1 hg.2.1 hd (k hg H ls locs hl hP hn hS)
theorem ex_iand {x y : Int32} (hd : decode M.2.1 pc = .ok (.iand, 1)) (k : EX M l G R Q p e s m args below meth c cells slots (pc + 1) L (.int (x &&& y) :: st) h) : EX M l G R Q p e s m args below meth c cells slots pc L (.int y :: .int x :: st) h :=
  fun hg H ls locs hl hP hn hS => lv_iand hg.1 hg.2.1 hd (k hg H ls locs hl hP hn hS)
theorem ex_ior {x y : Int32} (hd : decode M.2.1 pc = .ok (.ior, 1)) (k : EX M l G R Q p e s m args below meth c cells slots (pc + 1) L (.int (x ||| y) :: st) h) : EX M l G R Q p e s m args below meth c cells slots pc L (.int y :: .int x :: st) h :=
  fun hg H ls locs hl hP hn hS => lv_ior hg.1 hg.2.1 hd (k hg H ls locs hl hP hn hS)
theorem ex_ixor {x y : Int32} (hd : decode M.2.1 pc = .ok (.ixor, 1)) (k : EX M l G R Q p e s m args below meth c cells slots (pc + 1) L (.int (x ^^^ y) :: st) h) : EX M l G R Q p e s m args below meth c cells slots pc L (.int y :: .int x :: st) h :=
  fun hg H ls locs hl hP hn hS => lv_ixor hg.1 hg.2.1 hd (k hg H ls locs hl hP hn hS)
theorem ex_ishl {x y : Int32} (hd : decode M.2.1 pc = .ok (.ishl, 1)) (k : EX M l G R Q p e s m args below meth c cells slots (pc + 1) L (.int (x <<< (y &&& 31)) :: st) h) : EX M l G R Q p e s m args below meth c cells slots pc L (.int y :: .int x :: st) h :=
  fun hg H ls locs hl hP hn hS => lv_ishl hg.1 hg.2.1 hd (k hg H ls locs hl hP hn hS)
theorem ex_ishr {x y : Int32} (hd : decode M.2.1 pc = .ok (.ishr, 1)) (k : EX M l G R Q p e s m args below meth c cells slots (pc + 1) L (.int (x >>> (y &&& 31)) :: st) h) : EX M l G R Q p e s m args below meth c cells slots pc L (.int y :: .int x :: st) h :=
  fun hg H ls locs hl hP hn hS => lv_ishr hg.1 hg.2.1 hd (k hg H ls locs hl hP hn hS)
theorem ex_ineg {x : Int32} (hd : decode M.2.1 pc = .ok (.ineg, 1)) (k : EX M l G R Q p e s m args below meth c cells slots (pc + 1) L (.int (-x) :: st) h) : EX M l G R Q p e s m args below meth c cells slots pc L (.int x :: st) h :=
  fun hg H ls locs hl hP hn hS => lv_ineg hg.1 hg.2.1 hd (k hg H ls locs hl hP hn hS)
theorem ex_idiv {x y : Int32} (hd : decode M.2.1 pc = .ok (.idiv, 1)) (hne : ¬ y = 0) (k : EX M l G R Q p e s m args below meth c cells slots (pc + 1) L (.int (x / y) :: st) h) : EX M l G R Q p e s m args below meth c cells slots pc L (.int y :: .int x :: st) h :=
  fun hg H ls locs hl hP hn hS => lv_idiv hg.1 hg.2.1 hd hne (k hg H ls locs hl hP hn hS)
theorem ex_irem {x y : Int32} (hd : decode M.2.1 pc = .ok (.irem, 1)) (hne : ¬ y = 0) (k : EX M l G R Q p e s m args below meth c cells slots (pc + 1) L (.int (x - x / y * y) :: st) h) : EX M l G R Q p e s m args below meth c cells slots pc L (.int y :: .int x :: st) h :=
  fun hg H ls locs hl hP hn hS => lv_irem hg.1 hg.2.1 hd hne (k hg H ls locs hl hP hn hS)
theorem ex_i2c {x v : Int32} (hd : decode M.2.1 pc = .ok (.i2c, 1)) (hv : (x.toUInt32 % 65536).toInt32 = v) (k : EX M l G R Q p e s m args below meth c cells slots (pc + 1) L (.int v :: st) h) : EX M l G R Q p e s m args below meth c cells slots pc L (.int x :: st) h :=
  fun hg H ls locs hl hP hn hS => lv_i2c hg.1 hg.2.1 hd hv (k hg H ls locs hl hP hn hS)
theorem ex_iushr {x y v : Int32} (hd : decode M.2.1 pc = .ok (.iushr, 1)) (hv : (x.toUInt32 >>> (y.toUInt32 &&& Int32.toUInt32 31)).toInt32 = v) (k : EX M l G R Q p e s m args below meth c cells slots (pc + 1) L (.int v :: st) h) : EX M l G R Q p e s m args below meth c cells slots pc L (.int y :: .int x :: st) h :=
  fun hg H ls locs hl hP hn hS => lv_iushr hg.1 hg.2.1 hd hv (k hg H ls locs hl hP hn hS)
theorem ex_dup {va : Value} (hd : decode M.2.1 pc = .ok (.dup, 1)) (h1 : va.category = 1) (k : EX M l G R Q p e s m args below meth c cells slots (pc + 1) L (va :: va :: st) h) : EX M l G R Q p e s m args below meth c cells slots pc L (va :: st) h :=
  fun hg H ls locs hl hP hn hS => lv_dup hg.1 hg.2.1 hd (by rw [ex_v_cat]; exact h1) (k hg H ls locs hl hP hn hS)
theorem ex_pop {va : Value} (hd : decode M.2.1 pc = .ok (.pop, 1)) (h1 : va.category = 1) (k : EX M l G R Q p e s m args below meth c cells slots (pc + 1) L st h) : EX M l G R Q p e s m args below meth c cells slots pc L (va :: st) h :=
  fun hg H ls locs hl hP hn hS => lv_pop hg.1 hg.2.1 hd (by rw [ex_v_cat]; exact h1) (k hg H ls locs hl hP hn hS)
theorem ex_dup_x1 {va vb : Value} (hd : decode M.2.1 pc = .ok (.dup_x1, 1)) (h1 : va.category = 1) (h2 : vb.category = 1) (k : EX M l G R Q p e s m args below meth c cells slots (pc + 1) L (va :: vb :: va :: st) h) : EX M l G R Q p e s m args below meth c cells slots pc L (va :: vb :: st) h :=
  fun hg H ls locs hl hP hn hS => lv_dup_x1 hg.1 hg.2.1 hd (by rw [ex_v_cat]; exact h1) (by rw [ex_v_cat]; exact h2) (k hg H ls locs hl hP hn hS)
theorem ex_dup_x2 {va vb vd : Value} (hd : decode M.2.1 pc = .ok (.dup_x2, 1)) (h1 : va.category = 1) (h2 : vb.category = 1) (h3 : vd.category = 1) (k : EX M l G R Q p e s m args below meth c cells slots (pc + 1) L (va :: vb :: vd :: va :: st) h) : EX M l G R Q p e s m args below meth c cells slots pc L (va :: vb :: vd :: st) h :=
  fun hg H ls locs hl hP hn hS => lv_dup_x2 hg.1 hg.2.1 hd (by rw [ex_v_cat]; exact h1) (by rw [ex_v_cat]; exact h2) (by rw [ex_v_cat]; exact h3) (k hg H ls locs hl hP hn hS)
theorem ex_dup2 {va vb : Value} (hd : decode M.2.1 pc = .ok (.dup2, 1)) (h1 : va.category = 1) (h2 : vb.category = 1) (k : EX M l G R Q p e s m args below meth c cells slots (pc + 1) L (va :: vb :: va :: vb :: st) h) : EX M l G R Q p e s m args below meth c cells slots pc L (va :: vb :: st) h :=
  fun hg H ls locs hl hP hn hS => lv_dup2_11 hg.1 hg.2.1 hd (by rw [ex_v_cat]; exact h1) (by rw [ex_v_cat]; exact h2) (k hg H ls locs hl hP hn hS)
theorem ex_null (hd : decode M.2.1 pc = .ok (.aconst_null, 1)) (k : EX M l G R Q p e s m args below meth c cells slots (pc + 1) L (.null :: st) h) : EX M l G R Q p e s m args below meth c cells slots pc L st h :=
  fun hg H ls locs hl hP hn hS => lv_null hg.1 hg.2.1 hd (k hg H ls locs hl hP hn hS)
theorem ex_iload_n {k : Fin 4} {i : Nat} {x : Int32} (hd : decode M.2.1 pc = .ok (.iload_n k, 1)) (hi : (k : Nat) = i) (hL : L[i]? = some (some (.int x))) (kk : EX M l G R Q p e s m args below meth c cells slots (pc + 1) L (.int x :: st) h) : EX M l G R Q p e s m args below meth c cells slots pc L st h :=
  fun hg H ls locs hl hP hn hS => lv_iload_n hg.1 hg.2.1 hd hi (hl.2.2 i _ hL).2 (kk hg H ls locs hl hP hn hS)
theorem ex_iload {i : Nat} {x : Int32} (hd : decode M.2.1 pc = .ok (.iload i, 2)) (hL : L[i]? = some (some (.int x))) (kk : EX M l G R Q p e s m args below meth c cells slots (pc + 2) L (.int x :: st) h) : EX M l G R Q p e s m args below meth c cells slots pc L st h :=
  fun hg H ls locs hl hP hn hS => lv_iload hg.1 hg.2.1 hd (hl.2.2 i _ hL).2 (kk hg H ls locs hl hP hn hS)
theorem ex_istore_n {k : Fin 4} {i : Nat} {x : Int32} (hd : decode M.2.1 pc = .ok (.istore_n k, 1)) (hi : (k : Nat) = i) (hN : i < M.2.2.1) (kk : EX M l G R Q p e s m args below meth c cells slots (pc + 1) (L.set i (some (.int x))) st h) : EX M l G R Q p e s m args below meth c cells slots pc L (.int x :: st) h :=
  fun hg H ls locs hl hP hn hS => lv_istore_n hg.1 hg.2.1 hd hi (ex_has_lv hl) hN rfl (fun ls' h' => kk hg H ls' locs (ex_has_set (v := .int x) hl rfl h') hP hn hS)
theorem ex_istore {i : Nat} {x : Int32} (hd : decode M.2.1 pc = .ok (.istore i, 2)) (hN : i < M.2.2.1) (kk : EX M l G R Q p e s m args below meth c cells slots (pc + 2) (L.set i (some (.int x))) st h) : EX M l G R Q p e s m args below meth c cells slots pc L (.int x :: st) h :=
  fun hg H ls locs hl hP hn hS => lv_istore hg.1 hg.2.1 hd (ex_has_lv hl) hN rfl (fun ls' h' => kk hg H ls' locs (ex_has_set (v := .int x) hl rfl h') hP hn hS)
theorem ex_aload_n {k : Fin 4} {i : Nat} {x : Nat} (hd : decode M.2.1 pc = .ok (.aload_n k, 1)) (hi : (k : Nat) = i) (hL : L[i]? = some (some (.ref x))) (kk : EX M l G R Q p e s m args below meth c cells slots (pc + 1) L (.ref x :: st) h) : EX M l G R Q p e s m args below meth c cells slots pc L st h :=
  fun hg H ls locs hl hP hn hS => lv_aload_n hg.1 hg.2.1 hd hi (hl.2.2 i _ hL).2 (kk hg H ls locs hl hP hn hS)
theorem ex_aload {i : Nat} {x : Nat} (hd : decode M.2.1 pc = .ok (.aload i, 2)) (hL : L[i]? = some (some (.ref x))) (kk : EX M l G R Q p e s m args below meth c cells slots (pc + 2) L (.ref x :: st) h) : EX M l G R Q p e s m args below meth c cells slots pc L st h :=
  fun hg H ls locs hl hP hn hS => lv_aload hg.1 hg.2.1 hd (hl.2.2 i _ hL).2 (kk hg H ls locs hl hP hn hS)
theorem ex_astore_n {k : Fin 4} {i : Nat} {x : Nat} (hd : decode M.2.1 pc = .ok (.astore_n k, 1)) (hi : (k : Nat) = i) (hN : i < M.2.2.1) (kk : EX M l G R Q p e s m args below meth c cells slots (pc + 1) (L.set i (some (.ref x))) st h) : EX M l G R Q p e s m args below meth c cells slots pc L (.ref x :: st) h :=
  fun hg H ls locs hl hP hn hS => lv_astore_n hg.1 hg.2.1 hd hi (ex_has_lv hl) hN rfl (fun ls' h' => kk hg H ls' locs (ex_has_set (v := .ref x) hl rfl h') hP hn hS)
theorem ex_astore {i : Nat} {x : Nat} (hd : decode M.2.1 pc = .ok (.astore i, 2)) (hN : i < M.2.2.1) (kk : EX M l G R Q p e s m args below meth c cells slots (pc + 2) (L.set i (some (.ref x))) st h) : EX M l G R Q p e s m args below meth c cells slots pc L (.ref x :: st) h :=
  fun hg H ls locs hl hP hn hS => lv_astore hg.1 hg.2.1 hd (ex_has_lv hl) hN rfl (fun ls' h' => kk hg H ls' locs (ex_has_set (v := .ref x) hl rfl h') hP hn hS)
theorem ex_iinc {i : Nat} {n : Int} {x v : Int32} (hd : decode M.2.1 pc = .ok (.iinc i n, 3)) (hL : L[i]? = some (some (.int x))) (hv : x + Int32.ofInt n = v) (hN : i < M.2.2.1) (kk : EX M l G R Q p e s m args below meth c cells slots (pc + 3) (L.set i (some (.int v))) st h) : EX M l G R Q p e s m args below meth c cells slots pc L st h := by
  intro hg H ls locs hl hP hn hS
  obtain ⟨k, hk⟩ := List.getElem?_of_mem (ex_lv_in (b := G.1) hL)
  exact lv_iinc hg.1 hg.2.1 hd (ex_has_lv hl) hk hv hN rfl (fun ls' h' => kk hg H ls' locs (ex_has_set (v := .int v) hl rfl h') hP hn hS)
theorem ex_drop (i : Nat) (kk : EX M l G R Q p e s m args below meth c cells slots pc (L.set i none) st h) : EX M l G R Q p e s m args below meth c cells slots pc L st h :=
  fun hg H ls locs hl hP hn hS => kk hg H ls locs (ex_has_none hl) hP hn hS
theorem ex_if_eq {x : Int32} {off : Int} {tgt : Nat} (hd : decode M.2.1 pc = .ok (.ifCond .eq off, 3)) (ht : (pc : Int) + off = (tgt : Int)) (kt : x = 0 → EX M l G R Q p e s m args below meth c cells slots tgt L st h) (kf : ¬ x = 0 → EX M l G R Q p e s m args below meth c cells slots (pc + 3) L st h) : EX M l G R Q p e s m args below meth c cells slots pc L (.int x :: st) h :=
  fun hg H ls locs hl hP hn hS => lv_if_eq hg.1 hg.2.1 hd ht (fun q => kt q hg H ls locs hl hP hn hS) (fun q => kf q hg H ls locs hl hP hn hS)
theorem ex_icmp_eq {x y : Int32} {off : Int} {tgt : Nat} (hd : decode M.2.1 pc = .ok (.if_icmp .eq off, 3)) (ht : (pc : Int) + off = (tgt : Int)) (kt : x = y → EX M l G R Q p e s m args below meth c cells slots tgt L st h) (kf : ¬ x = y → EX M l G R Q p e s m args below meth c cells slots (pc + 3) L st h) : EX M l G R Q p e s m args below meth c cells slots pc L (.int y :: .int x :: st) h :=
  fun hg H ls locs hl hP hn hS => lv_icmp_eq hg.1 hg.2.1 hd ht (fun q => kt q hg H ls locs hl hP hn hS) (fun q => kf q hg H ls locs hl hP hn hS)
theorem ex_if_ne {x : Int32} {off : Int} {tgt : Nat} (hd : decode M.2.1 pc = .ok (.ifCond .ne off, 3)) (ht : (pc : Int) + off = (tgt : Int)) (kt : ¬ x = 0 → EX M l G R Q p e s m args below meth c cells slots tgt L st h) (kf : x = 0 → EX M l G R Q p e s m args below meth c cells slots (pc + 3) L st h) : EX M l G R Q p e s m args below meth c cells slots pc L (.int x :: st) h :=
  fun hg H ls locs hl hP hn hS => lv_if_ne hg.1 hg.2.1 hd ht (fun q => kt q hg H ls locs hl hP hn hS) (fun q => kf q hg H ls locs hl hP hn hS)
theorem ex_icmp_ne {x y : Int32} {off : Int} {tgt : Nat} (hd : decode M.2.1 pc = .ok (.if_icmp .ne off, 3)) (ht : (pc : Int) + off = (tgt : Int)) (kt : ¬ x = y → EX M l G R Q p e s m args below meth c cells slots tgt L st h) (kf : x = y → EX M l G R Q p e s m args below meth c cells slots (pc + 3) L st h) : EX M l G R Q p e s m args below meth c cells slots pc L (.int y :: .int x :: st) h :=
  fun hg H ls locs hl hP hn hS => lv_icmp_ne hg.1 hg.2.1 hd ht (fun q => kt q hg H ls locs hl hP hn hS) (fun q => kf q hg H ls locs hl hP hn hS)
theorem ex_if_lt {x : Int32} {off : Int} {tgt : Nat} (hd : decode M.2.1 pc = .ok (.ifCond .lt off, 3)) (ht : (pc : Int) + off = (tgt : Int)) (kt : x < 0 → EX M l G R Q p e s m args below meth c cells slots tgt L st h) (kf : ¬ x < 0 → EX M l G R Q p e s m args below meth c cells slots (pc + 3) L st h) : EX M l G R Q p e s m args below meth c cells slots pc L (.int x :: st) h :=
  fun hg H ls locs hl hP hn hS => lv_if_lt hg.1 hg.2.1 hd ht (fun q => kt q hg H ls locs hl hP hn hS) (fun q => kf q hg H ls locs hl hP hn hS)
theorem ex_icmp_lt {x y : Int32} {off : Int} {tgt : Nat} (hd : decode M.2.1 pc = .ok (.if_icmp .lt off, 3)) (ht : (pc : Int) + off = (tgt : Int)) (kt : x < y → EX M l G R Q p e s m args below meth c cells slots tgt L st h) (kf : ¬ x < y → EX M l G R Q p e s m args below meth c cells slots (pc + 3) L st h) : EX M l G R Q p e s m args below meth c cells slots pc L (.int y :: .int x :: st) h :=
  fun hg H ls locs hl hP hn hS => lv_icmp_lt hg.1 hg.2.1 hd ht (fun q => kt q hg H ls locs hl hP hn hS) (fun q => kf q hg H ls locs hl hP hn hS)
theorem ex_if_ge {x : Int32} {off : Int} {tgt : Nat} (hd : decode M.2.1 pc = .ok (.ifCond .ge off, 3)) (ht : (pc : Int) + off = (tgt : Int)) (kt : 0 ≤ x → EX M l G R Q p e s m args below meth c cells slots tgt L st h) (kf : ¬ 0 ≤ x → EX M l G R Q p e s m args below meth c cells slots (pc + 3) L st h) : EX M l G R Q p e s m args below meth c cells slots pc L (.int x :: st) h :=
  fun hg H ls locs hl hP hn hS => lv_if_ge hg.1 hg.2.1 hd ht (fun q => kt q hg H ls locs hl hP hn hS) (fun q => kf q hg H ls locs hl hP hn hS)
theorem ex_icmp_ge {x y : Int32} {off : Int} {tgt : Nat} (hd : decode M.2.1 pc = .ok (.if_icmp .ge off, 3)) (ht : (pc : Int) + off = (tgt : Int)) (kt : y ≤ x → EX M l G R Q p e s m args below meth c cells slots tgt L st h) (kf : ¬ y ≤ x → EX M l G R Q p e s m args below meth c cells slots (pc + 3) L st h) : EX M l G R Q p e s m args below meth c cells slots pc L (.int y :: .int x :: st) h :=
  fun hg H ls locs hl hP hn hS => lv_icmp_ge hg.1 hg.2.1 hd ht (fun q => kt q hg H ls locs hl hP hn hS) (fun q => kf q hg H ls locs hl hP hn hS)
theorem ex_if_gt {x : Int32} {off : Int} {tgt : Nat} (hd : decode M.2.1 pc = .ok (.ifCond .gt off, 3)) (ht : (pc : Int) + off = (tgt : Int)) (kt : 0 < x → EX M l G R Q p e s m args below meth c cells slots tgt L st h) (kf : ¬ 0 < x → EX M l G R Q p e s m args below meth c cells slots (pc + 3) L st h) : EX M l G R Q p e s m args below meth c cells slots pc L (.int x :: st) h :=
  fun hg H ls locs hl hP hn hS => lv_if_gt hg.1 hg.2.1 hd ht (fun q => kt q hg H ls locs hl hP hn hS) (fun q => kf q hg H ls locs hl hP hn hS)
theorem ex_icmp_gt {x y : Int32} {off : Int} {tgt : Nat} (hd : decode M.2.1 pc = .ok (.if_icmp .gt off, 3)) (ht : (pc : Int) + off = (tgt : Int)) (kt : y < x → EX M l G R Q p e s m args below meth c cells slots tgt L st h) (kf : ¬ y < x → EX M l G R Q p e s m args below meth c cells slots (pc + 3) L st h) : EX M l G R Q p e s m args below meth c cells slots pc L (.int y :: .int x :: st) h :=
  fun hg H ls locs hl hP hn hS => lv_icmp_gt hg.1 hg.2.1 hd ht (fun q => kt q hg H ls locs hl hP hn hS) (fun q => kf q hg H ls locs hl hP hn hS)
theorem ex_if_le {x : Int32} {off : Int} {tgt : Nat} (hd : decode M.2.1 pc = .ok (.ifCond .le off, 3)) (ht : (pc : Int) + off = (tgt : Int)) (kt : x ≤ 0 → EX M l G R Q p e s m args below meth c cells slots tgt L st h) (kf : ¬ x ≤ 0 → EX M l G R Q p e s m args below meth c cells slots (pc + 3) L st h) : EX M l G R Q p e s m args below meth c cells slots pc L (.int x :: st) h :=
  fun hg H ls locs hl hP hn hS => lv_if_le hg.1 hg.2.1 hd ht (fun q => kt q hg H ls locs hl hP hn hS) (fun q => kf q hg H ls locs hl hP hn hS)
theorem ex_icmp_le {x y : Int32} {off : Int} {tgt : Nat} (hd : decode M.2.1 pc = .ok (.if_icmp .le off, 3)) (ht : (pc : Int) + off = (tgt : Int)) (kt : x ≤ y → EX M l G R Q p e s m args below meth c cells slots tgt L st h) (kf : ¬ x ≤ y → EX M l G R Q p e s m args below meth c cells slots (pc + 3) L st h) : EX M l G R Q p e s m args below meth c cells slots pc L (.int y :: .int x :: st) h :=
  fun hg H ls locs hl hP hn hS => lv_icmp_le hg.1 hg.2.1 hd ht (fun q => kt q hg H ls locs hl hP hn hS) (fun q => kf q hg H ls locs hl hP hn hS)
theorem ex_goto {off : Int} {tgt : Nat} (hd : decode M.2.1 pc = .ok (.goto off, 3)) (ht : (pc : Int) + off = (tgt : Int)) (k : EX M l G R Q p e s m args below meth c cells slots tgt L st h) : EX M l G R Q p e s m args below meth c cells slots pc L st h :=
  fun hg H ls locs hl hP hn hS => lv_goto hg.1 hg.2.1 hd ht (k hg H ls locs hl hP hn hS)
theorem ex_lookup {dflt : Int} {ps : Array (Int × Int)} {len : Nat} {x : Int32} {off : Int} {tgt : Nat} (hd : decode M.2.1 pc = .ok (.lookupswitch dflt ps, len)) (hp : (ps.toList.zip (ps.toList.drop 1)).all (fun (a, next) => a.1 < next.1) = true) (ho : Op.lookupswitch.offset ps.toList dflt x.toInt = off) (ht : (pc : Int) + off = (tgt : Int)) (k : EX M l G R Q p e s m args below meth c cells slots tgt L st h) : EX M l G R Q p e s m args below meth c cells slots pc L (.int x :: st) h :=
  fun hg H ls locs hl hP hn hS => lv_lookup hg.1 hg.2.1 hd hp ho ht (k hg H ls locs hl hP hn hS)
theorem ex_tableOut {dflt lo hi : Int} {offs : Array Int} {len : Nat} {x : Int32} {tgt : Nat} (hd : decode M.2.1 pc = .ok (.tableswitch dflt lo hi offs, len)) (ho : x.toInt < lo ∨ hi < x.toInt) (ht : (pc : Int) + dflt = (tgt : Int)) (k : EX M l G R Q p e s m args below meth c cells slots tgt L st h) : EX M l G R Q p e s m args below meth c cells slots pc L (.int x :: st) h :=
  fun hg H ls locs hl hP hn hS => lv_tableOut hg.1 hg.2.1 hd ho ht (k hg H ls locs hl hP hn hS)
theorem ex_tableIn {dflt lo hi : Int} {offs : Array Int} {len : Nat} {x : Int32} {off : Int} {tgt : Nat} (hd : decode M.2.1 pc = .ok (.tableswitch dflt lo hi offs, len)) (h1 : ¬ x.toInt < lo) (h2 : ¬ hi < x.toInt) (ho : offs[(x.toInt - lo).toNat]? = some off) (ht : (pc : Int) + off = (tgt : Int)) (k : EX M l G R Q p e s m args below meth c cells slots tgt L st h) : EX M l G R Q p e s m args below meth c cells slots pc L (.int x :: st) h :=
  fun hg H ls locs hl hP hn hS => lv_tableIn hg.1 hg.2.1 hd h1 h2 ho ht (k hg H ls locs hl hP hn hS)
theorem ex_ldc {idx : Nat} {v : Int32} (hd : decode M.2.1 pc = .ok (.ldc idx, 2)) (hw : Jvm.Cond.constant M.1.cls idx v ∈ exTW) (k : EX M l G R Q p e s m args below meth c cells slots (pc + 2) L (.int v :: st) h) : EX M l G R Q p e s m args below meth c cells slots pc L st h :=
  fun hg H ls locs hl hP hn hS => lv_ldc hg.1 hg.2.1 hg.2.2.2.1 (hg.2.2.2.2.1 _ hw) hd (k hg H ls locs hl hP hn hS)
/-- the entry idx of own's pool is field k of class ci (q: a reference) -/
def ex_FL (own : String) (idx ci k : Nat) (q : Bool) : Prop := ∃ (C : String) (T : u_T) (N : Nat), exCl[ci]? = some (C, T, N) ∧ k < N ∧ (exFk ci).length = N ∧ (exFk ci).getD k false = q ∧ (∀ w ∈ u_ws C T N, w ∈ exTW) ∧ (Cond.fieldLink own idx (T k).1 (T k).2.1 (T k).2.2.1 ∈ exTW ∨ ∃ host, Cond.fieldLinkNest own idx (T k).1 (T k).2.1 (T k).2.2.1 host ∈ exNW)
theorem ex_getv {a idx ci k : Nat} {q : Bool} {v : Value} (hd : decode M.2.1 pc = .ok (.getfield idx, 3)) (hf : ex_FL M.1.cls idx ci k q) (ha : a < h.1) (hs : h.2.1 a = .inl ci) (hv : (if q = true then va_rf ((h.2.2.2.2 a k).map (G.1 + ·)) else .int (h.2.2.2.1 a k)) = ex_v G.1 v) (kk : EX M l G R Q p e s m args below meth c cells slots (pc + 3) L (v :: st) h) : EX M l G R Q p e s m args below meth c cells slots pc L (.ref a :: st) h := by
  intro hg H ls locs hl hP hn hS
  obtain ⟨C, T, N, hc, hk, hN, hq, hu, hlk⟩ := hf
  have he : (ex_w G h)[a]? = some (G.1 + a, .inr (ci, ex_fs G.1 (exFk ci) (h.2.2.2.1 a) (h.2.2.2.2 a))) := by rw [ex_w_at ha, ex_cell_o hs]
  have hw : (ex_fs G.1 (exFk ci) (h.2.2.2.1 a) (h.2.2.2.2 a))[k]? = some (ex_v G.1 v) := by rw [ex_fs_at (by rw [hN]; exact hk), hq, hv]
  have kk' := kk hg H ls locs hl hP hn hS
  rcases hlk with hlk | ⟨host, hlk⟩
  · exact va_get (ci := ci) hg.1 hg.2.1 hg.2.2.2.2.1 hu hg.2.2.2.1 hg.2.2.2.2.2.2.2.2.1.1 hP a he hc k hk (hg.2.2.2.2.1 _ hlk) (fun _ h9 => h9) hw hd kk'
  · exact va_getN (ci := ci) hg.1 hg.2.1 hg.2.2.2.2.1 hu hg.2.2.2.1 hg.2.2.2.2.2.2.2.2.1.1 hP a he hc k hk (va_Nw.use rfl (hg.2.2.2.2.2.2.2.2.1.2.1 _ hlk)) (fun _ h9 => h9) hw hd (kk')

theorem ex_geti {a idx : Nat} (ci k : Nat) (hd : decode M.2.1 pc = .ok (.getfield idx, 3)) (hf : ex_FL M.1.cls idx ci k false) (ha : a < h.1) (hs : h.2.1 a = .inl ci) (kk : EX M l G R Q p e s m args below meth c cells slots (pc + 3) L (.int (h.2.2.2.1 a k) :: st) h) : EX M l G R Q p e s m args below meth c cells slots pc L (.ref a :: st) h :=
  ex_getv hd hf ha hs rfl kk
theorem ex_getr {a idx b : Nat} (ci k : Nat) (hd : decode M.2.1 pc = .ok (.getfield idx, 3)) (hf : ex_FL M.1.cls idx ci k true) (ha : a < h.1) (hs : h.2.1 a = .inl ci) (hr : h.2.2.2.2 a k = some b) (kk : EX M l G R Q p e s m args below meth c cells slots (pc + 3) L (.ref b :: st) h) : EX M l G R Q p e s m args below meth c cells slots pc L (.ref a :: st) h :=
  ex_getv (v := .ref b) hd hf ha hs (by rw [hr]; rfl) kk
/-- .. and may be written: by a plain method, or, if it is final, by its own class's constructor; ty its type -/
def ex_PF (own : String) (idx ci k : Nat) (q : Bool) (ty : FieldType) (nm : String) : Prop := ∃ (C : String) (T : u_T) (N : Nat) (t0 : Nat → FieldType), exCl[ci]? = some (C, T, N) ∧ k < N ∧ (exFk ci).length = N ∧ (exFk ci).getD k false = q ∧ (∀ w ∈ u_ws C T N, w ∈ exTW) ∧ (∀ k, k < N → parseFieldDescriptor (T k).2.2.1 = some (t0 k)) ∧ (∀ a, a < N → ∀ b, b < N → a ≠ b → (T a).2.1 ≠ (T b).2.1) ∧ parseFieldDescriptor (T k).2.2.1 = some ty ∧
  (((T k).2.2.2 = false ∧ (Cond.fieldLink own idx (T k).1 (T k).2.1 (T k).2.2.1 ∈ exTW ∨ ∃ host, Cond.fieldLinkNest own idx (T k).1 (T k).2.1 (T k).2.2.1 host ∈ exNW)) ∨ ((T k).2.2.2 = true ∧ nm = "<init>" ∧ (T k).1 = own ∧ Cond.fieldLink own idx (T k).1 (T k).2.1 (T k).2.2.1 ∈ exTW))
theorem ex_putv {a idx ci k : Nat} {q : Bool} {ty : FieldType} {v : Value} {h' : ex_H} (hd : decode M.2.1 pc = .ok (.putfield idx, 3)) (hf : ex_PF M.1.cls idx ci k q ty M.1.name) (ha : a < h.1) (hs : h.2.1 a = .inl ci) (hn9 : narrow ty (ex_v G.1 v) = ex_v G.1 v) (hf9 : fits ty (ex_v G.1 v) = true) (e1 : h'.1 = h.1) (e2 : h'.2.1 = h.2.1) (e3 : h'.2.2.1 = h.2.2.1) (e4 : ∀ i, i ≠ a → h'.2.2.2.1 i = h.2.2.2.1 i ∧ h'.2.2.2.2 i = h.2.2.2.2 i) (e5 : ∀ j, j ≠ k → h'.2.2.2.1 a j = h.2.2.2.1 a j ∧ h'.2.2.2.2 a j = h.2.2.2.2 a j) (hv : (if q = true then va_rf ((h'.2.2.2.2 a k).map (G.1 + ·)) else .int (h'.2.2.2.1 a k)) = ex_v G.1 v) (kk : EX M l G R Q p e s m args below meth c cells slots (pc + 3) L st h') : EX M l G R Q p e s m args below meth c cells slots pc L (v :: .ref a :: st) h := by
  intro hg H ls locs hl hP hn hS
  obtain ⟨C, T, N, t0, hc, hk, hN, hq, hu, hty, hnm, hd0, hlk⟩ := hf
  have he : (ex_w G h)[a]? = some (G.1 + a, .inr (ci, ex_fs G.1 (exFk ci) (h.2.2.2.1 a) (h.2.2.2.2 a))) := by rw [ex_w_at ha, ex_cell_o hs]
  have hset : (ex_w G h).set a (G.1 + a, .inr (ci, (ex_fs G.1 (exFk ci) (h.2.2.2.1 a) (h.2.2.2.2 a)).set k (ex_v G.1 v))) = ex_w G h' := by
    refine ex_w_set ha e1 ?_ (fun j hj => ex_cell_c (by rw [e2]) (by rw [e3]) (e4 j hj).1 (e4 j hj).2)
    rw [ex_cell_o (h := h') (ci := ci) (by rw [e2]; exact hs), ex_fs_set (I' := h'.2.2.2.1 a) (R' := h'.2.2.2.2 a) (by rw [hN]; exact hk) (by rw [hq]; exact hv) e5]
  have kk' : ∀ (H1 : Heap) (locs1 : List Loc), va_P G.2.1 exCl ((ex_w G h).set a (G.1 + a, .inr (ci, (ex_fs G.1 (exFk ci) (h.2.2.2.1 a) (h.2.2.2.2 a)).set k (ex_v G.1 v)))) H1 → va_D (fun q => G.1 ≤ q) ((ex_w G h).set a (G.1 + a, .inr (ci, (ex_fs G.1 (exFk ci) (h.2.2.2.1 a) (h.2.2.2.2 a)).set k (ex_v G.1 v)))) → va_S (fun q => G.1 ≤ q) s.heap H1 locs1 → W p l e R s m args below meth c H1 locs1 cells slots Q (F0 m (pc + 3) ls (st.map (ex_v G.1))) := by
    intro H1 locs1 hP1 _ hS1
    rw [hset] at hP1
    exact kk hg H1 ls locs1 hl hP1 (by rw [e1]; exact hn) hS1
  have hlen : k < (ex_fs G.1 (exFk ci) (h.2.2.2.1 a) (h.2.2.2.2 a)).length := by rw [ex_fs_len, hN]; exact hk
  rcases hlk with ⟨hfin, hlk | ⟨host, hlk⟩⟩ | ⟨hfin, hini, hdc, hlk⟩
  · exact va_put (ci := ci) hg.1 hg.2.1 hg.2.2.2.2.1 hu t0 hty hnm hg.2.2.2.1 hg.2.2.2.2.2.2.2.2.1.1 hP (ex_D G h) hS a he hc k hk (hg.2.2.2.2.1 _ hlk) (fun _ h9 => h9) hfin hd0 hn9 hf9 hlen hd kk'
  · exact va_putN (ci := ci) hg.1 hg.2.1 hg.2.2.2.2.1 hu t0 hty hnm hg.2.2.2.1 hg.2.2.2.2.2.2.2.2.1.1 hP (ex_D G h) hS a he hc k hk (va_Nw.use rfl (hg.2.2.2.2.2.2.2.2.1.2.1 _ hlk)) (fun _ h9 => h9) hfin hd0 hn9 hf9 hlen hd kk'
  · exact va_putF (ci := ci) hg.1 hg.2.1 hg.2.2.2.2.1 hu t0 hty hnm hg.2.2.2.1 hg.2.2.2.2.2.2.2.2.1.1 hP (ex_D G h) hS a he hc k hk (hg.2.2.2.2.1 _ hlk) (fun _ h9 => h9) hfin (by rw [hg.2.2.2.2.2.2.1]; exact hini) hdc hd0 hn9 hf9 hlen hd (kk')

theorem ex_puti {a idx : Nat} {x : Int32} (ci k : Nat) (ty : FieldType) (hd : decode M.2.1 pc = .ok (.putfield idx, 3)) (hf : ex_PF M.1.cls idx ci k false ty M.1.name) (ha : a < h.1) (hs : h.2.1 a = .inl ci) (hn9 : narrow ty (.int x) = .int x) (hf9 : fits ty (.int x) = true) (kk : EX M l G R Q p e s m args below meth c cells slots (pc + 3) L st (ex_si h a k x)) : EX M l G R Q p e s m args below meth c cells slots pc L (.int x :: .ref a :: st) h :=
  ex_putv (v := .int x) (h' := ex_si h a k x) hd hf ha hs hn9 hf9 rfl rfl rfl (fun i hi => ⟨ex_u2_ne _ _ _ hi, rfl⟩) (fun j hj => ⟨by simp [ex_si, ex_u2, hj], rfl⟩) (by simp [ex_si, ex_u2, ex_v]) kk
theorem ex_putr {a idx b : Nat} (ci k : Nat) (ty : FieldType) (hd : decode M.2.1 pc = .ok (.putfield idx, 3)) (hf : ex_PF M.1.cls idx ci k true ty M.1.name) (ha : a < h.1) (hs : h.2.1 a = .inl ci) (hn9 : narrow ty (.ref (G.1 + b)) = .ref (G.1 + b)) (hf9 : fits ty (.ref (G.1 + b)) = true) (kk : EX M l G R Q p e s m args below meth c cells slots (pc + 3) L st (ex_sr h a k (some b))) : EX M l G R Q p e s m args below meth c cells slots pc L (.ref b :: .ref a :: st) h :=
  ex_putv (v := .ref b) (h' := ex_sr h a k (some b)) hd hf ha hs hn9 hf9 rfl rfl rfl (fun i hi => ⟨rfl, ex_u2_ne _ _ _ hi⟩) (fun j hj => ⟨rfl, by simp [ex_sr, ex_u2, hj]⟩) (by simp [ex_sr, ex_u2, ex_v, va_rf]) kk
theorem ex_in {i : Int32} {n N : Nat} (hi : i.toInt = (n : Int)) (hn : n < N) : vp_in i N ∧ i.toNatClampNeg = n := by
  refine ⟨vp_in_iff.mpr (by omega), ?_⟩
  show i.toInt.toNat = n
  omega
theorem ex_iald {a t : Nat} {i : Int32} (n : Nat) (hd : decode M.2.1 pc = .ok (.iaload, 1)) (ha : a < h.1) (hs : h.2.1 a = .inr t) (hr : exRk t = false) (ht : exTy[t]? = some .int) (hi : i.toInt = (n : Int)) (hN : n < h.2.2.1 a) (kk : EX M l G R Q p e s m args below meth c cells slots (pc + 1) L (.int (h.2.2.2.1 a n) :: st) h) : EX M l G R Q p e s m args below meth c cells slots pc L (.int i :: .ref a :: st) h := by
  intro hg H ls locs hl hP hn hS
  obtain ⟨h1, h2⟩ := ex_in hi hN
  refine va_iald hg.1 hg.2.1 hg.2.2.2.2.2.2.2.2.1.1 hP a t (by rw [ex_w_at ha, ex_cell_i hs hr]) (ex_ty_at ht) h1 hd ?_
  rw [h2]
  exact kk hg H ls locs hl hP hn hS
theorem ex_cald {a t : Nat} {i : Int32} (n : Nat) (hd : decode M.2.1 pc = .ok (.caload, 1)) (ha : a < h.1) (hs : h.2.1 a = .inr t) (hr : exRk t = false) (ht : exTy[t]? = some .char) (hi : i.toInt = (n : Int)) (hN : n < h.2.2.1 a) (kk : EX M l G R Q p e s m args below meth c cells slots (pc + 1) L (.int (h.2.2.2.1 a n) :: st) h) : EX M l G R Q p e s m args below meth c cells slots pc L (.int i :: .ref a :: st) h := by
  intro hg H ls locs hl hP hn hS
  obtain ⟨h1, h2⟩ := ex_in hi hN
  refine va_cald hg.1 hg.2.1 hg.2.2.2.2.2.2.2.2.1.1 hP a t (by rw [ex_w_at ha, ex_cell_i hs hr]) (ex_ty_at ht) h1 hd ?_
  rw [h2]
  exact kk hg H ls locs hl hP hn hS
theorem ex_zald {a t : Nat} {i : Int32} (n : Nat) (hd : decode M.2.1 pc = .ok (.baload, 1)) (ha : a < h.1) (hs : h.2.1 a = .inr t) (hr : exRk t = false) (ht : exTy[t]? = some .boolean) (hi : i.toInt = (n : Int)) (hN : n < h.2.2.1 a) (kk : EX M l G R Q p e s m args below meth c cells slots (pc + 1) L (.int (h.2.2.2.1 a n) :: st) h) : EX M l G R Q p e s m args below meth c cells slots pc L (.int i :: .ref a :: st) h := by
  intro hg H ls locs hl hP hn hS
  obtain ⟨h1, h2⟩ := ex_in hi hN
  refine va_zald hg.1 hg.2.1 hg.2.2.2.2.2.2.2.2.1.1 hP a t (by rw [ex_w_at ha, ex_cell_i hs hr]) (ex_ty_at ht) h1 hd ?_
  rw [h2]
  exact kk hg H ls locs hl hP hn hS
theorem ex_bald {a t : Nat} {i : Int32} (n : Nat) (hd : decode M.2.1 pc = .ok (.baload, 1)) (ha : a < h.1) (hs : h.2.1 a = .inr t) (hr : exRk t = false) (ht : exTy[t]? = some .byte) (hi : i.toInt = (n : Int)) (hN : n < h.2.2.1 a) (kk : EX M l G R Q p e s m args below meth c cells slots (pc + 1) L (.int (h.2.2.2.1 a n) :: st) h) : EX M l G R Q p e s m args below meth c cells slots pc L (.int i :: .ref a :: st) h := by
  intro hg H ls locs hl hP hn hS
  obtain ⟨h1, h2⟩ := ex_in hi hN
  refine va_bald hg.1 hg.2.1 hg.2.2.2.2.2.2.2.2.1.1 hP a t (by rw [ex_w_at ha, ex_cell_i hs hr]) (ex_ty_at ht) h1 hd ?_
  rw [h2]
  exact kk hg H ls locs hl hP hn hS
theorem ex_iast {a t : Nat} {i x : Int32} (n : Nat) (hd : decode M.2.1 pc = .ok (.iastore, 1)) (ha : a < h.1) (hs : h.2.1 a = .inr t) (hr : exRk t = false) (ht : exTy[t]? = some .int) (hi : i.toInt = (n : Int)) (hN : n < h.2.2.1 a) (kk : EX M l G R Q p e s m args below meth c cells slots (pc + 1) L st (ex_si h a n x)) : EX M l G R Q p e s m args below meth c cells slots pc L (.int x :: .int i :: .ref a :: st) h := by
  intro hg H ls locs hl hP hn hS
  obtain ⟨h1, h2⟩ := ex_in hi hN
  refine va_iast hg.1 hg.2.1 hg.2.2.2.2.2.2.2.2.1.1 hP (ex_D G h) hS a t (by rw [ex_w_at ha, ex_cell_i hs hr]) (ex_ty_at ht) h1 hd ?_
  rw [h2]
  intro H1 locs1 hP1 _ hS1
  have hset : (ex_w G h).set a (G.1 + a, .inl (G.2.2 t, h.2.2.1 a, .inl (upd (h.2.2.2.1 a) n x))) = ex_w G (ex_si h a n x) := by
    refine ex_w_set ha rfl ?_ (fun j hj => ex_cell_c rfl rfl (ex_u2_ne _ _ _ hj) rfl)
    rw [ex_cell_i (h := ex_si h a n x) (t := t) hs hr]
    show Sum.inl (G.2.2 t, h.2.2.1 a, Sum.inl (ex_u2 h.2.2.2.1 a n x a)) = _
    rw [ex_u2_row]
    rfl
  rw [hset] at hP1
  exact kk hg H1 ls locs1 hl hP1 hn hS1
theorem ex_cast {a t : Nat} {i x : Int32} (n : Nat) (hd : decode M.2.1 pc = .ok (.castore, 1)) (ha : a < h.1) (hs : h.2.1 a = .inr t) (hr : exRk t = false) (ht : exTy[t]? = some .char) (hi : i.toInt = (n : Int)) (hN : n < h.2.2.1 a) (kk : EX M l G R Q p e s m args below meth c cells slots (pc + 1) L st (ex_si h a n (vp_nar .char x))) : EX M l G R Q p e s m args below meth c cells slots pc L (.int x :: .int i :: .ref a :: st) h := by
  intro hg H ls locs hl hP hn hS
  obtain ⟨h1, h2⟩ := ex_in hi hN
  refine va_cast hg.1 hg.2.1 hg.2.2.2.2.2.2.2.2.1.1 hP (ex_D G h) hS a t (by rw [ex_w_at ha, ex_cell_i hs hr]) (ex_ty_at ht) h1 hd ?_
  rw [h2]
  intro H1 locs1 hP1 _ hS1
  have hset : (ex_w G h).set a (G.1 + a, .inl (G.2.2 t, h.2.2.1 a, .inl (upd (h.2.2.2.1 a) n (vp_nar .char x)))) = ex_w G (ex_si h a n (vp_nar .char x)) := by
    refine ex_w_set ha rfl ?_ (fun j hj => ex_cell_c rfl rfl (ex_u2_ne _ _ _ hj) rfl)
    rw [ex_cell_i (h := ex_si h a n (vp_nar .char x)) (t := t) hs hr]
    show Sum.inl (G.2.2 t, h.2.2.1 a, Sum.inl (ex_u2 h.2.2.2.1 a n (vp_nar .char x) a)) = _
    rw [ex_u2_row]
    rfl
  rw [hset] at hP1
  exact kk hg H1 ls locs1 hl hP1 hn hS1
theorem ex_zast {a t : Nat} {i x : Int32} (n : Nat) (hd : decode M.2.1 pc = .ok (.bastore, 1)) (ha : a < h.1) (hs : h.2.1 a = .inr t) (hr : exRk t = false) (ht : exTy[t]? = some .boolean) (hi : i.toInt = (n : Int)) (hN : n < h.2.2.1 a) (kk : EX M l G R Q p e s m args below meth c cells slots (pc + 1) L st (ex_si h a n (vp_nar .boolean x))) : EX M l G R Q p e s m args below meth c cells slots pc L (.int x :: .int i :: .ref a :: st) h := by
  intro hg H ls locs hl hP hn hS
  obtain ⟨h1, h2⟩ := ex_in hi hN
  refine va_zast hg.1 hg.2.1 hg.2.2.2.2.2.2.2.2.1.1 hP (ex_D G h) hS a t (by rw [ex_w_at ha, ex_cell_i hs hr]) (ex_ty_at ht) h1 hd ?_
  rw [h2]
  intro H1 locs1 hP1 _ hS1
  have hset : (ex_w G h).set a (G.1 + a, .inl (G.2.2 t, h.2.2.1 a, .inl (upd (h.2.2.2.1 a) n (vp_nar .boolean x)))) = ex_w G (ex_si h a n (vp_nar .boolean x)) := by
    refine ex_w_set ha rfl ?_ (fun j hj => ex_cell_c rfl rfl (ex_u2_ne _ _ _ hj) rfl)
    rw [ex_cell_i (h := ex_si h a n (vp_nar .boolean x)) (t := t) hs hr]
    show Sum.inl (G.2.2 t, h.2.2.1 a, Sum.inl (ex_u2 h.2.2.2.1 a n (vp_nar .boolean x) a)) = _
    rw [ex_u2_row]
    rfl
  rw [hset] at hP1
  exact kk hg H1 ls locs1 hl hP1 hn hS1
theorem ex_bast {a t : Nat} {i x : Int32} (n : Nat) (hd : decode M.2.1 pc = .ok (.bastore, 1)) (ha : a < h.1) (hs : h.2.1 a = .inr t) (hr : exRk t = false) (ht : exTy[t]? = some .byte) (hi : i.toInt = (n : Int)) (hN : n < h.2.2.1 a) (kk : EX M l G R Q p e s m args below meth c cells slots (pc + 1) L st (ex_si h a n (vp_nar .byte x))) : EX M l G R Q p e s m args below meth c cells slots pc L (.int x :: .int i :: .ref a :: st) h := by
  intro hg H ls locs hl hP hn hS
  obtain ⟨h1, h2⟩ := ex_in hi hN
  refine va_bast hg.1 hg.2.1 hg.2.2.2.2.2.2.2.2.1.1 hP (ex_D G h) hS a t (by rw [ex_w_at ha, ex_cell_i hs hr]) (ex_ty_at ht) h1 hd ?_
  rw [h2]
  intro H1 locs1 hP1 _ hS1
  have hset : (ex_w G h).set a (G.1 + a, .inl (G.2.2 t, h.2.2.1 a, .inl (upd (h.2.2.2.1 a) n (vp_nar .byte x)))) = ex_w G (ex_si h a n (vp_nar .byte x)) := by
    refine ex_w_set ha rfl ?_ (fun j hj => ex_cell_c rfl rfl (ex_u2_ne _ _ _ hj) rfl)
    rw [ex_cell_i (h := ex_si h a n (vp_nar .byte x)) (t := t) hs hr]
    show Sum.inl (G.2.2 t, h.2.2.1 a, Sum.inl (ex_u2 h.2.2.2.1 a n (vp_nar .byte x) a)) = _
    rw [ex_u2_row]
    rfl
  rw [hset] at hP1
  exact kk hg H1 ls locs1 hl hP1 hn hS1
theorem ex_aald {a t b : Nat} {i : Int32} {C : String} (n : Nat) (hd : decode M.2.1 pc = .ok (.aaload, 1)) (ha : a < h.1) (hs : h.2.1 a = .inr t) (hr : exRk t = true) (ht : exTy[t]? = some (.object C)) (hi : i.toInt = (n : Int)) (hN : n < h.2.2.1 a) (hb : h.2.2.2.2 a n = some b) (kk : EX M l G R Q p e s m args below meth c cells slots (pc + 1) L (.ref b :: st) h) : EX M l G R Q p e s m args below meth c cells slots pc L (.int i :: .ref a :: st) h := by
  intro hg H ls locs hl hP hn hS
  obtain ⟨h1, h2⟩ := ex_in hi hN
  refine va_aldq hg.1 hg.2.1 hg.2.2.2.2.2.2.2.2.1.1 hP a t (by rw [ex_w_at ha, ex_cell_q hs hr]) (ex_ty_at ht) h1 hd ?_
  rw [h2, hb]
  exact kk hg H ls locs hl hP hn hS
theorem ex_aast {a t b ci : Nat} {i : Int32} {r : vw_C} (n : Nat) (hd : decode M.2.1 pc = .ok (.aastore, 1)) (ha : a < h.1) (hs : h.2.1 a = .inr t) (hr : exRk t = true) (ht : exTy[t]? = some (.object r.1)) (hb : b < h.1) (hsb : h.2.1 b = .inl ci) (hc : exCl[ci]? = some r) (hi : i.toInt = (n : Int)) (hN : n < h.2.2.1 a) (kk : EX M l G R Q p e s m args below meth c cells slots (pc + 1) L st (ex_sr h a n (some b))) : EX M l G R Q p e s m args below meth c cells slots pc L (.ref b :: .int i :: .ref a :: st) h := by
  intro hg H ls locs hl hP hn hS
  obtain ⟨h1, h2⟩ := ex_in hi hN
  refine va_astq hg.1 hg.2.1 hg.2.2.2.2.2.2.2.2.1.1 hP (ex_D G h) hS a t b ci (by rw [ex_w_at ha, ex_cell_q hs hr]) (ex_ty_at ht) (by rw [ex_w_at hb, ex_cell_o hsb]) hc h1 hd ?_
  rw [h2]
  intro H1 locs1 hP1 _ hS1
  have hset : (ex_w G h).set a (G.1 + a, .inl (G.2.2 t, h.2.2.1 a, .inr (.inr (.inr (.inr (va_up (fun j => (h.2.2.2.2 a j).map (G.1 + ·)) n (some (G.1 + b)))))))) = ex_w G (ex_sr h a n (some b)) := by
    refine ex_w_set ha rfl ?_ (fun j hj => ex_cell_c rfl rfl rfl (ex_u2_ne _ _ _ hj))
    rw [ex_cell_q (h := ex_sr h a n (some b)) (t := t) hs hr]
    show Sum.inl (G.2.2 t, h.2.2.1 a, Sum.inr (Sum.inr (Sum.inr (Sum.inr (fun j => (ex_u2 h.2.2.2.2 a n (some b) a j).map (G.1 + ·)))))) = _
    congr 7
    funext j
    rw [ex_u2_row]
    by_cases hj : j = n
    · subst hj
      simp [va_up]
    · simp [va_up, hj]
  rw [hset] at hP1
  exact kk hg H1 ls locs1 hl hP1 hn hS1
theorem ex_alen {a t : Nat} {ty : FieldType} (hd : decode M.2.1 pc = .ok (.arraylength, 1)) (ha : a < h.1) (hs : h.2.1 a = .inr t) (ht : exTy[t]? = some ty) (kk : EX M l G R Q p e s m args below meth c cells slots (pc + 1) L (.int (Int32.ofNat (h.2.2.1 a)) :: st) h) : EX M l G R Q p e s m args below meth c cells slots pc L (.ref a :: st) h := by
  intro hg H ls locs hl hP hn hS
  cases hr : exRk t with
  | false => exact va_alen (x := (h.2.2.1 a, .inl (h.2.2.2.1 a))) hg.1 hg.2.1 hg.2.2.2.2.2.2.2.2.1.1 hP a t (by rw [ex_w_at ha, ex_cell_i hs hr]) (ex_ty_at ht) rfl hd (kk hg H ls locs hl hP hn hS)
  | true => exact va_alen (x := (h.2.2.1 a, .inr (.inr (.inr (.inr (fun j => (h.2.2.2.2 a j).map (G.1 + ·))))))) hg.1 hg.2.1 hg.2.2.2.2.2.2.2.2.1.1 hP a t (by rw [ex_w_at ha, ex_cell_q hs hr]) (ex_ty_at ht) rfl hd (kk hg H ls locs hl hP hn hS)
theorem ex_iret {x : Int32} {ty : FieldType} (hd : decode M.2.1 pc = .ok (.ireturn, 1)) (hr : M.2.2.2 = some ty) (hx : narrow ty (.int x) = .int x) (hc : cells = mc) (hs : slots ≤ ms) (hq : Post (some (.int x)) h) : EX M l G (ex_rm d mc ms) (MQ below (ex_Q G mc Post) args s mc ms (fun q => G.1 ≤ q)) p e s m args below meth c cells slots pc L [.int x] h := by
  intro hg H ls locs hl hP hn hS
  refine ex_size fun hz => ?_
  have hlo := ex_low hP hS hg.2.2.2.2.2.2.2.2.2
  subst hc
  refine W.widen (Nat.le_refl _) hs ?_
  exact W.zret hg.1 hg.2.1 (by rw [hg.2.2.2.2.2.2.2.1]; exact hr) hx (fun t ht hW => ⟨⟨some (.int x), h, rfl, hq, ⟨by rw [ht]; exact hP, by rw [ht]; omega, ex_K.warm hW hg.2.2.2.2.2.2.2.2.1⟩, hn⟩, hS.F ht⟩) hS.2.2 hd hg.2.2.2.2.2.1
theorem ex_vret (hd : decode M.2.1 pc = .ok (.return_, 1)) (hr : M.2.2.2 = none) (hc : cells = mc) (hs : slots ≤ ms) (hq : Post none h) : EX M l G (ex_rm d mc ms) (MQ below (ex_Q G mc Post) args s mc ms (fun q => G.1 ≤ q)) p e s m args below meth c cells slots pc L [] h := by
  intro hg H ls locs hl hP hn hS
  refine ex_size fun hz => ?_
  have hlo := ex_low hP hS hg.2.2.2.2.2.2.2.2.2
  subst hc
  refine W.widen (Nat.le_refl _) hs ?_
  exact W.vret hg.1 hg.2.1 (by rw [hg.2.2.2.2.2.2.2.1]; exact hr) (fun t ht hW => ⟨⟨none, h, rfl, hq, ⟨by rw [ht]; exact hP, by rw [ht]; omega, ex_K.warm hW hg.2.2.2.2.2.2.2.2.1⟩, hn⟩, hS.F ht⟩) hS.2.2 hd hg.2.2.2.2.2.1
theorem ex_aret {a : Nat} {C : String} (hd : decode M.2.1 pc = .ok (.areturn, 1)) (hr : M.2.2.2 = some (.object C)) (hc : cells = mc) (hs : slots ≤ ms) (hq : Post (some (.ref a)) h) : EX M l G (ex_rm d mc ms) (MQ below (ex_Q G mc Post) args s mc ms (fun q => G.1 ≤ q)) p e s m args below meth c cells slots pc L [.ref a] h := by
  intro hg H ls locs hl hP hn hS
  refine ex_size fun hz => ?_
  have hlo := ex_low hP hS hg.2.2.2.2.2.2.2.2.2
  subst hc
  refine W.widen (Nat.le_refl _) hs ?_
  exact W.aret hg.1 hg.2.1 (by rw [hg.2.2.2.2.2.2.2.1]; exact hr) (Or.inl ⟨_, rfl⟩) (Or.inr ⟨_, rfl⟩) (fun t ht hW => ⟨⟨some (.ref a), h, rfl, hq, ⟨by rw [ht]; exact hP, by rw [ht]; omega, ex_K.warm hW hg.2.2.2.2.2.2.2.2.1⟩, hn⟩, hS.F ht⟩) hS.2.2 hd hg.2.2.2.2.2.1
def ex_MW (M' : ex_M) (n : Nat) : Prop := Cond.code M'.1 M'.2.1 M'.2.2.1 M'.2.2.2 ∈ exTW ∧ Cond.initialized M'.1.cls ∈ exTW ∧ M'.1.cls ≠ "java/lang/invoke/MethodHandle" ∧ M'.1.cls ≠ "java/lang/invoke/VarHandle" ∧ (parseMethodDescriptor M'.1.desc).map (fun d => d.parameters.length) = some n ∧ M'.2.2.1 ≤ 45
def ex_MI (M' : ex_M) : Prop := Cond.instanceMethod M'.1 ∈ exTW ∧ Cond.selects M'.1.cls M'.1 M'.1 ∈ exTW
def ex_LK (own : String) (idx : Nat) (y : MethodName) : Prop := Cond.methodLink own idx y ∈ exTW ∨ ∃ host, Cond.methodLinkNest own idx y host ∈ exNW
theorem ex_good {M' : ex_M} (h : Cond.code M'.1 M'.2.1 M'.2.2.1 M'.2.2.2 ∈ exTW) : GoodIn exTW (.code M'.1 M'.2.1 M'.2.2.1 M'.2.2.2 :: exTW) := by
  intro w hw
  rcases List.mem_cons.mp hw with rfl | hw
  · exact ⟨h, Or.inl rfl⟩
  · exact ⟨hw, good_of_word (exTW_good w hw)⟩
theorem ex_blind {as : List Value} : FrameBlind (va_Pc (as.map (ex_v G.1)) (ex_P G h)) := by
  intro a U g mk q
  obtain ⟨q0, q1, q2, q3⟩ := q
  exact ⟨q0, q1, q2, ex_K.same (s := U) (U := U.calling g mk a) rfl q3⟩
theorem ex_pre {as : List Value} {H : Heap} (hP : va_P G.2.1 exCl (ex_w G h) H) (hz : H.size = G.1 + h.1) (hK : ex_K G s) : ∀ U : State, U.heap = H → s.WarmedH U.vm → va_Pc (as.map (ex_v G.1)) (ex_P G h) (as.map (ex_v G.1)).toArray U :=
  fun U hU hW => ⟨rfl, by rw [hU]; exact hP, by rw [hU]; exact hz, ex_K.warm hW hK⟩
theorem ex_after {P : Option Value → ex_H → Prop} {H : Heap} {ls : Array Slot} {locs : List Loc} {st0 : List Value} {a0 : Array Value} {mc' ms' : Nat} (hg : ex_ok M G p s m args meth c) (hl : ex_has G.1 M.2.2.1 ls L) (hn : s.heap.size + cells = G.1 + h.1) (hz : H.size = G.1 + h.1) (hS : va_S (fun q => G.1 ≤ q) s.heap H locs) (hr : va_Run p l e R s m args below meth c H locs cells slots mc' ms' (F0 m pc ls st0) (st.map (ex_v G.1)) (ex_Q G mc' P a0) (fun q => G.1 ≤ q))
    (kk : ∀ r h', P r h' → EX M l G R Q p e s m args below meth c (cells + mc') (slots + ms') (pc + 3) L (r.toList ++ st) h') : W p l e R s m args below meth c H locs cells slots Q (F0 m pc ls st0) := by
  intro T hT X
  obtain ⟨v, st₀, t, T', L', h0, X', hL, e1, e2, ⟨⟨r, h', hv, hp, ⟨hP1, hz1, hK1⟩, hsz⟩, hz2, hk⟩, st9⟩ := hr T hT X
  cases hv
  rw [h0] at hz2 hk hsz
  have hS1 : va_S (fun q => G.1 ≤ q) s.heap T'.heap (locs ++ L') := by
    refine ⟨Nat.le_trans hS.1 (by rw [e1]; exact hz2), fun q h1 h2 => ?_, fun q hq => ?_⟩
    · rw [e1, hk q (Nat.lt_of_lt_of_le h1 hS.1) h2]
      exact hS.2.1 q h1 h2
    · rcases List.mem_append.mp hq with h9 | h9
      · exact hS.2.2 q h9
      · exact hL q h9
  obtain ⟨t2, a1, b1⟩ := kk r h' hp hg T'.heap ls (locs ++ L') hl (by rw [e1]; exact hP1) (by omega) hS1 T' rfl X'
  refine ⟨t2, st9 t2 ?_, b1⟩
  have e9 : (r.toList ++ st).map (ex_v G.1) = (r.map (ex_v G.1)).toList ++ st.map (ex_v G.1) := by cases r <;> simp
  rw [e9] at a1
  exact a1
theorem ex_cat (st : List Value) (h8 : (st.map fun v => v.category).sum ≤ 8) : ((st.map (ex_v G.1)).map fun v => v.category).sum ≤ 8 := by
  have e : (st.map (ex_v G.1)).map (fun v => v.category) = st.map fun v => v.category := by
    rw [List.map_map]
    exact List.map_congr_left (fun v _ => ex_v_cat _ v)
  rw [e]
  exact h8
theorem ex_callV {a ci : Nat} {r0 : vw_C} {M' : ex_M} {P : Option Value → ex_H → Prop} {idx n d' mc' ms' : Nat} {as st stk : List Value} (hd : decode M.2.1 pc = .ok (.invokevirtual idx, 3)) (hw : ex_MW M' n) (hi : ex_MI M') (hlk : ex_LK M.1.cls idx M'.1) (ha : a < h.1) (hs : h.2.1 a = .inl ci) (hc : exCl[ci]? = some r0) (hcn : r0.1 = M'.1.cls) (hct : CT l G d' M' (.ref a :: as) h mc' ms' P) (hdd : ex_lt R d') (hroom : cells + mc' ≤ R.cells ∧ slots + ms' ≤ R.slots) (hlen : as.length = n) (hstk : stk = as.reverse ++ .ref a :: st) (h8 : (st.map fun v => v.category).sum ≤ 8) (kk : ∀ r h', P r h' → EX M l G R Q p e s m args below meth c (cells + mc') (slots + ms') (pc + 3) L (r.toList ++ st) h') : EX M l G R Q p e s m args below meth c cells slots pc L stk h := by
  subst hstk
  intro hg H ls locs hl hP hn hS
  refine ex_size fun hz => ?_
  have hlo := ex_low hP hS hg.2.2.2.2.2.2.2.2.2
  have hz1 : H.size = G.1 + h.1 := by omega
  obtain ⟨w1, w2, w3, w4, w5, w6⟩ := hw
  have hts := hg.2.2.2.2.1
  have hpv : PreV s H M'.1.cls (G.1 + a) (va_Pc ((Value.ref a :: as).map (ex_v G.1)) (ex_P G h)) (as.map (ex_v G.1)) := by
    refine ⟨ex_blind, ?_, ex_pre (as := .ref a :: as) hP hz1 hg.2.2.2.2.2.2.2.2.1⟩
    rw [← hcn]
    exact va_recv hg.2.2.2.2.2.2.2.2.1.1 hP hc (by rw [ex_w_at ha, ex_cell_o hs])
  have hstk2 : (F0 m pc ls ((as.reverse ++ .ref a :: st).map (ex_v G.1))).stack = (as.map (ex_v G.1)).reverse ++ .ref (G.1 + a) :: st.map (ex_v G.1) := by
    show (as.reverse ++ .ref a :: st).map (ex_v G.1) = _
    rw [List.map_append, List.map_reverse]
    rfl
  have hR : (ex_rm d' mc' ms').frames + 1 ≤ R.frames ∧ 8 + (M'.2.2.1 + 11) + (ex_rm d' mc' ms').locals ≤ R.locals := by
    refine ⟨hdd.1, ?_⟩
    have h9 := hdd.2
    show 8 + (M'.2.2.1 + 11) + 64 * d' ≤ R.locals
    omega
  rcases hlk with hlk | ⟨host, hlk⟩
  · exact ex_after hg hl hn hz1 hS (va_runV (nL := M.2.2.1) ⟨hg.1, hg.2.1, hg.2.2.1, hg.2.2.2.1, hts⟩ hct ⟨callB_of n hts (ex_good w1) rfl rfl rfl (hts _ w2) (hts _ hlk) ⟨w3, w4, w5⟩ hR, hts _ hi.1, hts _ hi.2⟩ hpv rfl (by rw [List.length_map]; exact hlen) hl.1 hstk2 (lv_room (ex_cat st h8)) hd hroom) kk
  · exact ex_after hg hl hn hz1 hS (va_runVN (nL := M.2.2.1) (C := M'.1.cls) ⟨hg.1, hg.2.1, hg.2.2.1, hg.2.2.2.1, hts⟩ hct ⟨va_cnB n hts (ex_good w1) rfl rfl rfl (hg.2.2.2.2.2.2.2.2.1.2.1 _ hlk) (hts _ w2) ⟨w3, w4, w5⟩ hR, hts _ hi.1, hts _ hi.2⟩ hpv rfl (by rw [List.length_map]; exact hlen) hl.1 hstk2 (lv_room (ex_cat st h8)) hd hroom) kk
theorem ex_callS {M' : ex_M} {P : Option Value → ex_H → Prop} {idx n d' mc' ms' : Nat} {as st stk : List Value} (hd : decode M.2.1 pc = .ok (.invokestatic idx, 3)) (hw : ex_MW M' n) (hi : Cond.static M'.1 ∈ exTW) (hlk : ex_LK M.1.cls idx M'.1) (hct : CT l G d' M' as h mc' ms' P) (hdd : ex_lt R d') (hroom : cells + mc' ≤ R.cells ∧ slots + ms' ≤ R.slots) (hlen : as.length = n) (hstk : stk = as.reverse ++ st) (h8 : (st.map fun v => v.category).sum ≤ 8) (kk : ∀ r h', P r h' → EX M l G R Q p e s m args below meth c (cells + mc') (slots + ms') (pc + 3) L (r.toList ++ st) h') : EX M l G R Q p e s m args below meth c cells slots pc L stk h := by
  subst hstk
  intro hg H ls locs hl hP hn hS
  refine ex_size fun hz => ?_
  have hlo := ex_low hP hS hg.2.2.2.2.2.2.2.2.2
  have hz1 : H.size = G.1 + h.1 := by omega
  obtain ⟨w1, w2, w3, w4, w5, w6⟩ := hw
  have hts := hg.2.2.2.2.1
  have hpv : PreS s H (va_Pc (as.map (ex_v G.1)) (ex_P G h)) (as.map (ex_v G.1)) := ⟨ex_blind, ex_pre hP hz1 hg.2.2.2.2.2.2.2.2.1⟩
  have hstk2 : (F0 m pc ls ((as.reverse ++ st).map (ex_v G.1))).stack = (as.map (ex_v G.1)).reverse ++ st.map (ex_v G.1) := by
    show (as.reverse ++ st).map (ex_v G.1) = _
    rw [List.map_append, List.map_reverse]
  have hR : (ex_rm d' mc' ms').frames + 1 ≤ R.frames ∧ 8 + (M'.2.2.1 + 11) + (ex_rm d' mc' ms').locals ≤ R.locals := by
    refine ⟨hdd.1, ?_⟩
    have h9 := hdd.2
    show 8 + (M'.2.2.1 + 11) + 64 * d' ≤ R.locals
    omega
  rcases hlk with hlk | ⟨host, hlk⟩
  · exact ex_after hg hl hn hz1 hS (va_runS (nL := M.2.2.1) ⟨hg.1, hg.2.1, hg.2.2.1, hg.2.2.2.1, hts⟩ hct ⟨callB_of n hts (ex_good w1) rfl rfl rfl (hts _ w2) (hts _ hlk) ⟨w3, w4, w5⟩ hR, hts _ hi⟩ hpv rfl (by rw [List.length_map]; exact hlen) hl.1 hstk2 (lv_room (ex_cat st h8)) hd hroom) kk
  · exact ex_after hg hl hn hz1 hS (va_runSN (nL := M.2.2.1) ⟨hg.1, hg.2.1, hg.2.2.1, hg.2.2.2.1, hts⟩ hct ⟨va_cnB n hts (ex_good w1) rfl rfl rfl (hg.2.2.2.2.2.2.2.2.1.2.1 _ hlk) (hts _ w2) ⟨w3, w4, w5⟩ hR, hts _ hi, trivial⟩ hpv rfl (by rw [List.length_map]; exact hlen) hl.1 hstk2 (lv_room (ex_cat st h8)) hd hroom) kk
theorem ex_callI {a : Nat} {M' : ex_M} {P : Option Value → ex_H → Prop} {idx n d' mc' ms' : Nat} {as st stk : List Value} (hd : decode M.2.1 pc = .ok (.invokespecial idx, 3)) (hw : ex_MW M' n) (hi : Cond.instanceMethod M'.1 ∈ exTW) (hnm : M'.1.name = "<init>") (hret : M'.2.2.2 = none) (hlk : ex_LK M.1.cls idx M'.1) (hct : CT l G d' M' (.ref a :: as) h mc' ms' P) (hdd : ex_lt R d') (hroom : cells + mc' ≤ R.cells ∧ slots + ms' ≤ R.slots) (hlen : as.length = n) (hstk : stk = as.reverse ++ .ref a :: st) (h8 : (st.map fun v => v.category).sum ≤ 8) (kk : ∀ r h', P r h' → EX M l G R Q p e s m args below meth c (cells + mc') (slots + ms') (pc + 3) L (r.toList ++ st) h') : EX M l G R Q p e s m args below meth c cells slots pc L stk h := by
  subst hstk
  intro hg H ls locs hl hP hn hS
  refine ex_size fun hz => ?_
  have hlo := ex_low hP hS hg.2.2.2.2.2.2.2.2.2
  have hz1 : H.size = G.1 + h.1 := by omega
  obtain ⟨w1, w2, w3, w4, w5, w6⟩ := hw
  have hts := hg.2.2.2.2.1
  have hpv : PreS s H (va_Pc ((Value.ref a :: as).map (ex_v G.1)) (ex_P G h)) (.ref (G.1 + a) :: as.map (ex_v G.1)) := ⟨ex_blind, ex_pre (as := .ref a :: as) hP hz1 hg.2.2.2.2.2.2.2.2.1⟩
  have hstk2 : (F0 m pc ls ((as.reverse ++ .ref a :: st).map (ex_v G.1))).stack = (as.map (ex_v G.1)).reverse ++ .ref (G.1 + a) :: st.map (ex_v G.1) := by
    show (as.reverse ++ .ref a :: st).map (ex_v G.1) = _
    rw [List.map_append, List.map_reverse]
    rfl
  have hR : (ex_rm d' mc' ms').frames + 1 ≤ R.frames ∧ 8 + (M'.2.2.1 + 11) + (ex_rm d' mc' ms').locals ≤ R.locals := by
    refine ⟨hdd.1, ?_⟩
    have h9 := hdd.2
    show 8 + (M'.2.2.1 + 11) + 64 * d' ≤ R.locals
    omega
  have hcode : Cond.code M'.1 M'.2.1 M'.2.2.1 M'.2.2.2 = Cond.code M'.1 M'.2.1 M'.2.2.1 none := by rw [hret]
  rcases hlk with hlk | ⟨host, hlk⟩
  · exact ex_after hg hl hn hz1 hS (va_runI (nL := M.2.2.1) (bytes := M'.2.1) (maxL := M'.2.2.1) ⟨hg.1, hg.2.1, hg.2.2.1, hg.2.2.2.1, hts⟩ hct ⟨callB_of n hts (ex_good w1) (by rw [hcode]) rfl rfl (hts _ w2) (hts _ hlk) ⟨w3, w4, w5⟩ hR, hnm, hts _ hi⟩ hpv rfl (by rw [List.length_map]; exact hlen) hl.1 hstk2 (lv_room (ex_cat st h8)) hd hroom) kk
  · exact ex_after hg hl hn hz1 hS (va_runIN (nL := M.2.2.1) (bytes := M'.2.1) (maxL := M'.2.2.1) ⟨hg.1, hg.2.1, hg.2.2.1, hg.2.2.2.1, hts⟩ hct ⟨va_cnB n hts (ex_good w1) (by rw [hcode]) rfl rfl (hg.2.2.2.2.2.2.2.2.1.2.1 _ hlk) (hts _ w2) ⟨w3, w4, w5⟩ hR, hnm, hts _ hi⟩ hpv rfl (by rw [List.length_map]; exact hlen) hl.1 hstk2 (lv_room (ex_cat st h8)) hd hroom) kk
theorem ex_objInit {idx a : Nat} (hd : decode M.2.1 pc = .ok (.invokespecial idx, 3)) (hw1 : Cond.methodLink M.1.cls idx Lib.objectInit ∈ exTW) (hw2 : Cond.instanceMethod Lib.objectInit ∈ exTW) (hw3 : Cond.code Lib.objectInit ⟨#[0xb1]⟩ 1 none ∈ exTW) (hdd : ex_lt R 0) (h8 : (st.map fun v => v.category).sum ≤ 8) (kk : EX M l G R Q p e s m args below meth c cells slots (pc + 3) L st h) : EX M l G R Q p e s m args below meth c cells slots pc L (.ref a :: st) h := by
  intro hg H ls locs hl hP hn hS
  have hts := hg.2.2.2.2.1
  refine W.objInit hg.1 hg.2.1 hg.2.2.2.1 (hts _ hw1) (hts _ hw2) (hts _ hw3) rfl (by rw [hg.2.2.1]; exact hl.1) rfl hd hdd.1 ?_ (kk hg H ls locs hl hP hn hS)
  have h9 := lv_room (m := m) (pc := pc) (ls := ls) (rest := (Value.ref a :: st).map (ex_v G.1)) (ex_cat (G := G) st h8)
  have h7 := hdd.2
  omega
theorem ex_RA {c1 c2 : ClassId} {ty : FieldType} (h1 : va_RA s c1 ty) (h2 : va_RA s c2 ty) : c1 = c2 := by
  cases ty with
  | object C =>
    obtain ⟨_, _, -, -, -, e1⟩ := h1
    obtain ⟨_, _, -, -, -, e2⟩ := h2
    exact Option.some.inj (e1.symm.trans e2)
  | _ => exact Option.some.inj (Eq.trans (Eq.symm h1) h2)
theorem ex_newat {H1 : Heap} {q : Nat} {E : va_E} (hP1 : va_P G.2.1 exCl (ex_w G h ++ [(q, E)]) H1) (hD1 : va_D (fun q => G.1 ≤ q) (ex_w G h ++ [(q, E)])) (hz : H1.size ≤ G.1 + h.1 + 1) : q = G.1 + h.1 := by
  have hat : (ex_w G h ++ [(q, E)])[h.1]? = some (q, E) := by
    rw [List.getElem?_append_right (by rw [ex_w_len]; exact Nat.le_refl _), ex_w_len, Nat.sub_self]
    rfl
  have h1 : q < H1.size := (hP1 h.1 _ hat).lt
  have h2 : G.1 ≤ q := hD1.2 h.1 _ hat
  have h3 : ¬ q < G.1 + h.1 := by
    intro hlt
    have hk : q - G.1 < h.1 := by omega
    have h4 : (ex_w G h ++ [(q, E)])[q - G.1]? = some (G.1 + (q - G.1), ex_cell G h (q - G.1)) := by
      rw [List.getElem?_append_left (by rw [ex_w_len]; exact hk), ex_w_at hk]
    have h5 := hD1.1 _ _ _ _ h4 hat (show G.1 + (q - G.1) = q by omega)
    omega
  omega
/-- a class of the tables: its name, its fields, what a new object holds -/
def ex_CL (ci : Nat) (C : String) (N : Nat) : Prop := ∃ (T : u_T) (ty : Nat → FieldType), exCl[ci]? = some (C, T, N) ∧ (exFk ci).length = N ∧ (∀ w ∈ u_ws C T N, w ∈ exTW) ∧ (∀ k, k < N → parseFieldDescriptor (T k).2.2.1 = some (ty k)) ∧ (∀ k, k < N → defaultValue (ty k) = if (exFk ci).getD k false = true then .null else .int 0) ∧ Cond.instantiable C N ∈ exTW ∧ Cond.initialized C ∈ exTW
theorem ex_new {idx N : Nat} {C : String} (ci : Nat) (hd : decode M.2.1 pc = .ok (.new idx, 3)) (hcl : ex_CL ci C N) (hlk : Cond.classLink M.1.cls idx C ∈ exTW) (hc1 : cells + 1 ≤ R.cells) (hs1 : slots + N ≤ R.slots) (kk : EX M l G R Q p e s m args below meth c (cells + 1) (slots + N) (pc + 3) L (.ref h.1 :: st) (ex_no h ci)) : EX M l G R Q p e s m args below meth c cells slots pc L st h := by
  intro hg H ls locs hl hP hn hS
  obtain ⟨T, ty, hc, hN, hu, hty, hdf, hw1, hw2⟩ := hcl
  have hts := hg.2.2.2.2.1
  have hfs : ∀ j, j < N → defaultValue (ty j) = vp_V (ex_fs G.1 (exFk ci) (fun _ => 0) (fun _ => none)) j := by
    intro j hj
    have e9 : (ex_fs G.1 (exFk ci) (fun _ => 0) (fun _ => none)).getD j .null = if (exFk ci).getD j false = true then .null else .int 0 := by
      rw [List.getD_eq_getElem?_getD, ex_fs_at (by rw [hN]; exact hj)]
      rfl
    rw [hdf j hj]
    exact e9.symm
  refine va_new (ci := ci) hg.1 hg.2.1 hts hu ty hty hg.2.2.2.1 (hts _ hlk) (hts _ hw1) (hts _ hw2) hg.2.2.2.2.2.2.2.2.1.1 hP (ex_D G h) hS (fun q hq => Nat.le_trans hg.2.2.2.2.2.2.2.2.2 hq) hc hfs hc1 hs1 hd (fun q H1 hP1 hD1 hS1 => ?_)
  refine ex_size fun hz => ?_
  have hq := ex_newat hP1 hD1 (by omega)
  subst hq
  have hw : ex_w G h ++ [(G.1 + h.1, .inr (ci, ex_fs G.1 (exFk ci) (fun _ => 0) (fun _ => none)))] = ex_w G (ex_no h ci) := by
    have e1 : ex_cell G (ex_no h ci) h.1 = .inr (ci, ex_fs G.1 (exFk ci) (fun _ => 0) (fun _ => none)) := by
      rw [ex_cell_o (h := ex_no h ci) (ci := ci) (va_up_self _ _ _)]
      show Sum.inr (ci, ex_fs G.1 (exFk ci) (va_up h.2.2.2.1 h.1 (fun _ => 0) h.1) (va_up h.2.2.2.2 h.1 (fun _ => none) h.1)) = _
      rw [va_up_self, va_up_self]
    rw [← e1]
    exact ex_w_push rfl (fun j hj => ex_cell_c (va_up_ne _ _ (Nat.ne_of_lt hj)) rfl (va_up_ne _ _ (Nat.ne_of_lt hj)) (va_up_ne _ _ (Nat.ne_of_lt hj)))
  rw [hw] at hP1
  refine kk hg H1 ls locs hl hP1 ?_ hS1
  show _ = G.1 + (h.1 + 1)
  omega
theorem ex_newarr {x : Int32} {atype : ArrayType} {ty : FieldType} (t n : Nat) (hd : decode M.2.1 pc = .ok (.newarray atype, 2)) (harr : Cond.arrayClass (newarray.typeOf atype) ∈ exTW) (hty : newarray.typeOf atype = ty) (ht : exTy[t]? = some ty) (hr : exRk t = false) (hdv : defaultValue ty = .int 0) (hx : x.toInt = (n : Int)) (hb : n * componentBytes ty ≤ 536870912) (hc1 : cells + 1 ≤ R.cells) (hs1 : slots + n ≤ R.slots) (kk : EX M l G R Q p e s m args below meth c (cells + 1) (slots + n) (pc + 2) L (.ref h.1 :: st) (ex_na h t n)) : EX M l G R Q p e s m args below meth c cells slots pc L (.int x :: st) h := by
  intro hg H ls locs hl hP hn hS
  have hts := hg.2.2.2.2.1
  have hx0 : ¬ x < 0 := fun q => by
    have h1 := Int32.lt_iff_toInt_lt.mp q
    have h2 : (0 : Int32).toInt = 0 := rfl
    omega
  refine va_newa (a0 := (n, .inl (fun _ => 0))) hg.1 hg.2.1 (hts _ harr) hty hg.2.2.2.2.2.2.2.2.1.1 hP (ex_D G h) hS (fun q hq => Nat.le_trans hg.2.2.2.2.2.2.2.2.2 hq) (fun cA => by rw [vp_cell_i, hdv]) hx0 (show x.toInt.toNat = n by omega) hb hc1 hs1 hd (fun q cA H1 hK1 hP1 hD1 hS1 => ?_)
  refine ex_size fun hz => ?_
  have hq := ex_newat hP1 hD1 (by omega)
  subst hq
  have hcA : cA = G.2.2 t := by
    have h1 := (hK1.2 (ex_ty G).length _ (by rw [List.getElem?_append_right (Nat.le_refl _), Nat.sub_self]; rfl)).2
    exact ex_RA h1 (hg.2.2.2.2.2.2.2.2.1.1.2 t _ (ex_ty_at ht)).2
  subst hcA
  have hw : ex_w G h ++ [(G.1 + h.1, .inl (G.2.2 t, n, .inl (fun _ => 0)))] = ex_w G (ex_na h t n) := by
    have e1 : ex_cell G (ex_na h t n) h.1 = .inl (G.2.2 t, n, .inl (fun _ => 0)) := by
      rw [ex_cell_i (h := ex_na h t n) (t := t) (va_up_self _ _ _) hr]
      show Sum.inl (G.2.2 t, va_up h.2.2.1 h.1 n h.1, Sum.inl (va_up h.2.2.2.1 h.1 (fun _ => 0) h.1)) = _
      rw [va_up_self, va_up_self]
    rw [← e1]
    exact ex_w_push rfl (fun j hj => ex_cell_c (va_up_ne _ _ (Nat.ne_of_lt hj)) (va_up_ne _ _ (Nat.ne_of_lt hj)) (va_up_ne _ _ (Nat.ne_of_lt hj)) (va_up_ne _ _ (Nat.ne_of_lt hj)))
  rw [hw] at hP1
  refine kk hg H1 ls locs hl hP1 ?_ hS1
  show _ = G.1 + (h.1 + 1)
  omega
theorem ex_newref {x : Int32} {idx : Nat} {C : String} (t n : Nat) (hd : decode M.2.1 pc = .ok (.anewarray idx, 3)) (hlk : Cond.classLink M.1.cls idx C ∈ exTW) (hao : C ∈ exAO) (ht : exTy[t]? = some (.object C)) (hr : exRk t = true) (hx : x.toInt = (n : Int)) (hb : n * 4 ≤ 536870912) (hc1 : cells + 1 ≤ R.cells) (hs1 : slots + n ≤ R.slots) (kk : EX M l G R Q p e s m args below meth c (cells + 1) (slots + n) (pc + 3) L (.ref h.1 :: st) (ex_na h t n)) : EX M l G R Q p e s m args below meth c cells slots pc L (.int x :: st) h := by
  intro hg H ls locs hl hP hn hS
  have hts := hg.2.2.2.2.1
  have hx0 : ¬ x < 0 := fun q => by
    have h1 := Int32.lt_iff_toInt_lt.mp q
    have h2 : (0 : Int32).toInt = 0 := rfl
    omega
  refine va_newq hg.1 hg.2.1 hg.2.2.2.1 (hts _ hlk) (hg.2.2.2.2.2.2.2.2.1.2.2 _ hao) hg.2.2.2.2.2.2.2.2.1.1 hP (ex_D G h) hS (fun q hq => Nat.le_trans hg.2.2.2.2.2.2.2.2.2 hq) hx0 (show x.toInt.toNat = n by omega) hb hc1 hs1 hd (fun q cA H1 hK1 hP1 hD1 hS1 => ?_)
  refine ex_size fun hz => ?_
  have hq := ex_newat hP1 hD1 (by omega)
  subst hq
  have hcA : cA = G.2.2 t := by
    have h1 := (hK1.2 (ex_ty G).length _ (by rw [List.getElem?_append_right (Nat.le_refl _), Nat.sub_self]; rfl)).2
    exact ex_RA h1 (hg.2.2.2.2.2.2.2.2.1.1.2 t _ (ex_ty_at ht)).2
  subst hcA
  have hw : ex_w G h ++ [(G.1 + h.1, .inl (G.2.2 t, n, .inr (.inr (.inr (.inr (fun _ => none))))))] = ex_w G (ex_na h t n) := by
    have e1 : ex_cell G (ex_na h t n) h.1 = .inl (G.2.2 t, n, .inr (.inr (.inr (.inr (fun _ => none))))) := by
      rw [ex_cell_q (h := ex_na h t n) (t := t) (va_up_self _ _ _) hr]
      show Sum.inl (G.2.2 t, va_up h.2.2.1 h.1 n h.1, Sum.inr (Sum.inr (Sum.inr (Sum.inr (fun j => (va_up h.2.2.2.2 h.1 (fun _ => none) h.1 j).map (G.1 + ·)))))) = _
      rw [va_up_self, va_up_self]
      rfl
    rw [← e1]
    exact ex_w_push rfl (fun j hj => ex_cell_c (va_up_ne _ _ (Nat.ne_of_lt hj)) (va_up_ne _ _ (Nat.ne_of_lt hj)) (va_up_ne _ _ (Nat.ne_of_lt hj)) (va_up_ne _ _ (Nat.ne_of_lt hj)))
  rw [hw] at hP1
  refine kk hg H1 ls locs hl hP1 ?_ hS1
  show _ = G.1 + (h.1 + 1)
  omega
theorem ex_copy {idx a b t : Nat} {sp dp nn : Int32} {ty : FieldType} (i j n : Nat) (hd : decode M.2.1 pc = .ok (.invokestatic idx, 3)) (hw1 : Cond.methodLink M.1.cls idx arraycopyName ∈ exTW) (hw2 : Cond.native arraycopyName ∈ exTW) (hw3 : Cond.static arraycopyName ∈ exTW) (hw4 : Cond.initialized "java/lang/System" ∈ exTW) (ha : a < h.1) (hs : h.2.1 a = .inr t) (hb : b < h.1) (hsb : h.2.1 b = .inr t) (hr : exRk t = false) (ht : exTy[t]? = some ty) (hprim : refKind ty = false) (h1 : sp.toInt = (i : Int)) (h2 : dp.toInt = (j : Int)) (h3 : nn.toInt = (n : Int)) (h4 : i + n ≤ h.2.2.1 a) (h5 : j + n ≤ h.2.2.1 b) (hfit : ∀ k, k < n → fits ty (.int (h.2.2.2.1 a (i + k))) = true) (hdd : ex_lt R 0) (h8 : (st.map fun v => v.category).sum ≤ 8) (kk : EX M l G R Q p e s m args below meth c cells slots (pc + 3) L st (ex_sa h b (va_cpy (h.2.2.2.1 a) (h.2.2.2.1 b) i j n))) : EX M l G R Q p e s m args below meth c cells slots pc L (.int nn :: .int dp :: .ref b :: .int sp :: .ref a :: st) h := by
  intro hg H ls locs hl hP hn hS
  have hts := hg.2.2.2.2.1
  have c1 : sp.toNatClampNeg = i := by show sp.toInt.toNat = i; omega
  have c2 : dp.toNatClampNeg = j := by show dp.toInt.toNat = j; omega
  have c3 : nn.toNatClampNeg = n := by show nn.toInt.toNat = n; omega
  have nz : ∀ (z : Int32) (k : Nat), z.toInt = (k : Int) → ¬ z < 0 := fun z k hz q => by
    have g1 := Int32.lt_iff_toInt_lt.mp q
    have g2 : (0 : Int32).toInt = 0 := rfl
    omega
  have h9 := ex_cat (G := G) st h8
  have h7 := hdd.2
  have h6 : nativeFrameWords "java/lang/System" "arraycopy" 5 = 7 := by decide +kernel
  refine va_copyi hg.1 hg.2.1 (by rw [hg.2.2.1]; exact hl.1.symm) hg.2.2.2.1 (hts _ hw1) (hts _ hw2) (hts _ hw3) (hts _ hw4) hg.2.2.2.2.2.2.2.2.1.1 hP (ex_D G h) hS a b t t (by rw [ex_w_at ha, ex_cell_i hs hr]) (by rw [ex_w_at hb, ex_cell_i hsb hr]) (ex_ty_at ht) (ex_ty_at ht) hprim (nz sp i h1) (nz dp j h2) (nz nn n h3) (by rw [c1, c3]; exact h4) (by rw [c2, c3]; exact h5) (by rw [c1, c3]; exact hfit) hdd.1 (by rw [h6]; omega) hd ?_
  rw [c1, c2, c3]
  intro H1 locs1 hP1 _ hS1
  have hset : (ex_w G h).set b (G.1 + b, .inl (G.2.2 t, h.2.2.1 b, .inl (va_cpy (h.2.2.2.1 a) (h.2.2.2.1 b) i j n))) = ex_w G (ex_sa h b (va_cpy (h.2.2.2.1 a) (h.2.2.2.1 b) i j n)) := by
    refine ex_w_set hb rfl ?_ (fun j hj => ex_cell_c rfl rfl (va_up_ne _ _ hj) rfl)
    rw [ex_cell_i (h := ex_sa h b _) (t := t) hsb hr]
    show Sum.inl (G.2.2 t, h.2.2.1 b, Sum.inl (va_up h.2.2.2.1 b _ b)) = _
    rw [va_up_self]
  rw [hset] at hP1
  exact kk hg H1 ls locs1 hl hP1 hn hS1
end EXR
end
