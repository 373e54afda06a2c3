section
-- ===== PART A: goes FIRST, ahead of the names: the tables' words, and 'selects' of the private methods out of them =====
/-- a private method of a class that the tables say can be made, by its rows of tables_1 -/
def lw_okq (q : MethodName × Nat) : Prop := (q.1.cls ≠ "java/lang/invoke/MethodHandle" ∧ q.1.cls ≠ "java/lang/invoke/VarHandle") ∧ Cond.instantiable q.1.cls q.2 ∈ tables_1 ∧ Cond.privateMethod q.1 ∈ tables_1 ∧ Cond.instanceMethod q.1 ∈ tables_1
theorem lw_p0 : lw_okq (⟨"TagGuide$ModelReader", "takes", "(C)Z"⟩, 6) := ⟨⟨by decide +kernel, by decide +kernel⟩, List.mem_of_getElem? (i := 39) (by decide +kernel), List.mem_of_getElem? (i := 366) (by decide +kernel), List.mem_of_getElem? (i := 367) (by decide +kernel)⟩
theorem lw_p1 : lw_okq (⟨"TagGuide$ModelReader", "readsExpression", "(I)Z"⟩, 6) := ⟨⟨by decide +kernel, by decide +kernel⟩, List.mem_of_getElem? (i := 39) (by decide +kernel), List.mem_of_getElem? (i := 382) (by decide +kernel), List.mem_of_getElem? (i := 383) (by decide +kernel)⟩
theorem lw_p2 : lw_okq (⟨"TagGuide$ModelReader", "readsSequence", "(I)Z"⟩, 6) := ⟨⟨by decide +kernel, by decide +kernel⟩, List.mem_of_getElem? (i := 39) (by decide +kernel), List.mem_of_getElem? (i := 386) (by decide +kernel), List.mem_of_getElem? (i := 387) (by decide +kernel)⟩
theorem lw_p3 : lw_okq (⟨"TagGuide$ModelReader", "readsItem", "(I)Z"⟩, 6) := ⟨⟨by decide +kernel, by decide +kernel⟩, List.mem_of_getElem? (i := 39) (by decide +kernel), List.mem_of_getElem? (i := 390) (by decide +kernel), List.mem_of_getElem? (i := 391) (by decide +kernel)⟩
theorem lw_p4 : lw_okq (⟨"TagGuide$ModelReader", "readsName", "()Z"⟩, 6) := ⟨⟨by decide +kernel, by decide +kernel⟩, List.mem_of_getElem? (i := 39) (by decide +kernel), List.mem_of_getElem? (i := 394) (by decide +kernel), List.mem_of_getElem? (i := 395) (by decide +kernel)⟩
theorem lw_p5 : lw_okq (⟨"TagGuide$ModelReader", "readMark", "()V"⟩, 6) := ⟨⟨by decide +kernel, by decide +kernel⟩, List.mem_of_getElem? (i := 39) (by decide +kernel), List.mem_of_getElem? (i := 403) (by decide +kernel), List.mem_of_getElem? (i := 404) (by decide +kernel)⟩
theorem lw_p6 : lw_okq (⟨"TagGuide$Models", "findFertileNames", "()V"⟩, 3) := ⟨⟨by decide +kernel, by decide +kernel⟩, List.mem_of_getElem? (i := 92) (by decide +kernel), List.mem_of_getElem? (i := 418) (by decide +kernel), List.mem_of_getElem? (i := 419) (by decide +kernel)⟩
theorem lw_p7 : lw_okq (⟨"TagGuide$Model", "followersOf", "(I)I"⟩, 6) := ⟨⟨by decide +kernel, by decide +kernel⟩, List.mem_of_getElem? (i := 45) (by decide +kernel), List.mem_of_getElem? (i := 427) (by decide +kernel), List.mem_of_getElem? (i := 428) (by decide +kernel)⟩
theorem lw_p8 : lw_okq (⟨"TagGuide", "change", "(III)V"⟩, 10) := ⟨⟨by decide +kernel, by decide +kernel⟩, List.mem_of_getElem? (i := 16) (by decide +kernel), List.mem_of_getElem? (i := 481) (by decide +kernel), List.mem_of_getElem? (i := 482) (by decide +kernel)⟩
theorem lw_p9 : lw_okq (⟨"TagGuide", "refresh", "()V"⟩, 10) := ⟨⟨by decide +kernel, by decide +kernel⟩, List.mem_of_getElem? (i := 16) (by decide +kernel), List.mem_of_getElem? (i := 497) (by decide +kernel), List.mem_of_getElem? (i := 498) (by decide +kernel)⟩
theorem lw_p10 : lw_okq (⟨"TagGuide$Tree", "take", "(ILTagGuide$Faults;)I"⟩, 8) := ⟨⟨by decide +kernel, by decide +kernel⟩, List.mem_of_getElem? (i := 129) (by decide +kernel), List.mem_of_getElem? (i := 513) (by decide +kernel), List.mem_of_getElem? (i := 514) (by decide +kernel)⟩
theorem lw_p11 : lw_okq (⟨"TagGuide$Tree", "takeStartTag", "(IILTagGuide$Faults;)V"⟩, 8) := ⟨⟨by decide +kernel, by decide +kernel⟩, List.mem_of_getElem? (i := 129) (by decide +kernel), List.mem_of_getElem? (i := 526) (by decide +kernel), List.mem_of_getElem? (i := 527) (by decide +kernel)⟩
theorem lw_p12 : lw_okq (⟨"TagGuide$Tree", "begins", "(IILTagGuide$Faults;)Z"⟩, 8) := ⟨⟨by decide +kernel, by decide +kernel⟩, List.mem_of_getElem? (i := 129) (by decide +kernel), List.mem_of_getElem? (i := 530) (by decide +kernel), List.mem_of_getElem? (i := 531) (by decide +kernel)⟩
theorem lw_p13 : lw_okq (⟨"TagGuide$Tree", "addTag", "(III)V"⟩, 8) := ⟨⟨by decide +kernel, by decide +kernel⟩, List.mem_of_getElem? (i := 129) (by decide +kernel), List.mem_of_getElem? (i := 534) (by decide +kernel), List.mem_of_getElem? (i := 535) (by decide +kernel)⟩
theorem lw_p14 : lw_okq (⟨"TagGuide$Tree", "takeEmptyTag", "(IILTagGuide$Faults;)V"⟩, 8) := ⟨⟨by decide +kernel, by decide +kernel⟩, List.mem_of_getElem? (i := 129) (by decide +kernel), List.mem_of_getElem? (i := 543) (by decide +kernel), List.mem_of_getElem? (i := 544) (by decide +kernel)⟩
theorem lw_p15 : lw_okq (⟨"TagGuide$Tree", "takeEndTag", "(IILTagGuide$Faults;)V"⟩, 8) := ⟨⟨by decide +kernel, by decide +kernel⟩, List.mem_of_getElem? (i := 129) (by decide +kernel), List.mem_of_getElem? (i := 551) (by decide +kernel), List.mem_of_getElem? (i := 552) (by decide +kernel)⟩
def lw_privs_1 : List (MethodName × Nat) := [(⟨"TagGuide$ModelReader", "takes", "(C)Z"⟩, 6), (⟨"TagGuide$ModelReader", "readsExpression", "(I)Z"⟩, 6), (⟨"TagGuide$ModelReader", "readsSequence", "(I)Z"⟩, 6), (⟨"TagGuide$ModelReader", "readsItem", "(I)Z"⟩, 6), (⟨"TagGuide$ModelReader", "readsName", "()Z"⟩, 6), (⟨"TagGuide$ModelReader", "readMark", "()V"⟩, 6), (⟨"TagGuide$Models", "findFertileNames", "()V"⟩, 3), (⟨"TagGuide$Model", "followersOf", "(I)I"⟩, 6), (⟨"TagGuide", "change", "(III)V"⟩, 10), (⟨"TagGuide", "refresh", "()V"⟩, 10), (⟨"TagGuide$Tree", "take", "(ILTagGuide$Faults;)I"⟩, 8), (⟨"TagGuide$Tree", "takeStartTag", "(IILTagGuide$Faults;)V"⟩, 8), (⟨"TagGuide$Tree", "begins", "(IILTagGuide$Faults;)Z"⟩, 8), (⟨"TagGuide$Tree", "addTag", "(III)V"⟩, 8), (⟨"TagGuide$Tree", "takeEmptyTag", "(IILTagGuide$Faults;)V"⟩, 8), (⟨"TagGuide$Tree", "takeEndTag", "(IILTagGuide$Faults;)V"⟩, 8)]
theorem lw_r1 : ∀ q ∈ lw_privs_1, lw_okq q := List.forall_mem_cons.mpr ⟨lw_p0, List.forall_mem_cons.mpr ⟨lw_p1, List.forall_mem_cons.mpr ⟨lw_p2, List.forall_mem_cons.mpr ⟨lw_p3, List.forall_mem_cons.mpr ⟨lw_p4, List.forall_mem_cons.mpr ⟨lw_p5, List.forall_mem_cons.mpr ⟨lw_p6, List.forall_mem_cons.mpr ⟨lw_p7, List.forall_mem_cons.mpr ⟨lw_p8, List.forall_mem_cons.mpr ⟨lw_p9, List.forall_mem_cons.mpr ⟨lw_p10, List.forall_mem_cons.mpr ⟨lw_p11, List.forall_mem_cons.mpr ⟨lw_p12, List.forall_mem_cons.mpr ⟨lw_p13, List.forall_mem_cons.mpr ⟨lw_p14, List.forall_mem_cons.mpr ⟨lw_p15, fun _ h => absurd h List.not_mem_nil⟩⟩⟩⟩⟩⟩⟩⟩⟩⟩⟩⟩⟩⟩⟩⟩
theorem lw_p16 : lw_okq (⟨"TagGuide$Tree", "latestOpenWith", "(I)I"⟩, 8) := ⟨⟨by decide +kernel, by decide +kernel⟩, List.mem_of_getElem? (i := 129) (by decide +kernel), List.mem_of_getElem? (i := 555) (by decide +kernel), List.mem_of_getElem? (i := 556) (by decide +kernel)⟩
theorem lw_p17 : lw_okq (⟨"TagGuide$Tree", "closeUpTo", "(II)V"⟩, 8) := ⟨⟨by decide +kernel, by decide +kernel⟩, List.mem_of_getElem? (i := 129) (by decide +kernel), List.mem_of_getElem? (i := 559) (by decide +kernel), List.mem_of_getElem? (i := 560) (by decide +kernel)⟩
theorem lw_p18 : lw_okq (⟨"TagGuide$Tree", "takeCharacter", "(ILTagGuide$Faults;)V"⟩, 8) := ⟨⟨by decide +kernel, by decide +kernel⟩, List.mem_of_getElem? (i := 129) (by decide +kernel), List.mem_of_getElem? (i := 563) (by decide +kernel), List.mem_of_getElem? (i := 564) (by decide +kernel)⟩
theorem lw_p19 : lw_okq (⟨"TagGuide", "reply", "(III)I"⟩, 10) := ⟨⟨by decide +kernel, by decide +kernel⟩, List.mem_of_getElem? (i := 16) (by decide +kernel), List.mem_of_getElem? (i := 597) (by decide +kernel), List.mem_of_getElem? (i := 598) (by decide +kernel)⟩
theorem lw_p20 : lw_okq (⟨"TagGuide", "offerAt", "(I)I"⟩, 10) := ⟨⟨by decide +kernel, by decide +kernel⟩, List.mem_of_getElem? (i := 16) (by decide +kernel), List.mem_of_getElem? (i := 601) (by decide +kernel), List.mem_of_getElem? (i := 602) (by decide +kernel)⟩
theorem lw_p21 : lw_okq (⟨"TagGuide", "renameAt", "(II)I"⟩, 10) := ⟨⟨by decide +kernel, by decide +kernel⟩, List.mem_of_getElem? (i := 16) (by decide +kernel), List.mem_of_getElem? (i := 622) (by decide +kernel), List.mem_of_getElem? (i := 623) (by decide +kernel)⟩
theorem lw_p22 : lw_okq (⟨"TagGuide$Former", "copy", "(II)V"⟩, 5) := ⟨⟨by decide +kernel, by decide +kernel⟩, List.mem_of_getElem? (i := 236) (by decide +kernel), List.mem_of_getElem? (i := 651) (by decide +kernel), List.mem_of_getElem? (i := 652) (by decide +kernel)⟩
theorem lw_p23 : lw_okq (⟨"TagGuide$Former", "put", "(I)V"⟩, 5) := ⟨⟨by decide +kernel, by decide +kernel⟩, List.mem_of_getElem? (i := 236) (by decide +kernel), List.mem_of_getElem? (i := 656) (by decide +kernel), List.mem_of_getElem? (i := 657) (by decide +kernel)⟩
theorem lw_p24 : lw_okq (⟨"TagGuide$Former", "startLine", "(I)V"⟩, 5) := ⟨⟨by decide +kernel, by decide +kernel⟩, List.mem_of_getElem? (i := 236) (by decide +kernel), List.mem_of_getElem? (i := 660) (by decide +kernel), List.mem_of_getElem? (i := 661) (by decide +kernel)⟩
theorem lw_p25 : lw_okq (⟨"TagGuide$Former", "addForm", "(II)V"⟩, 5) := ⟨⟨by decide +kernel, by decide +kernel⟩, List.mem_of_getElem? (i := 236) (by decide +kernel), List.mem_of_getElem? (i := 664) (by decide +kernel), List.mem_of_getElem? (i := 665) (by decide +kernel)⟩
theorem lw_p26 : lw_okq (⟨"TagGuideModel", "takeDraft", "(C)I"⟩, 44) := ⟨⟨by decide +kernel, by decide +kernel⟩, List.mem_of_getElem? (i := 721) (by decide +kernel), List.mem_of_getElem? (i := 869) (by decide +kernel), List.mem_of_getElem? (i := 870) (by decide +kernel)⟩
theorem lw_p27 : lw_okq (⟨"TagGuideModel", "count", "(Z)I"⟩, 44) := ⟨⟨by decide +kernel, by decide +kernel⟩, List.mem_of_getElem? (i := 721) (by decide +kernel), List.mem_of_getElem? (i := 876) (by decide +kernel), List.mem_of_getElem? (i := 877) (by decide +kernel)⟩
theorem lw_p28 : lw_okq (⟨"TagGuideModel", "at", "(I)I"⟩, 44) := ⟨⟨by decide +kernel, by decide +kernel⟩, List.mem_of_getElem? (i := 721) (by decide +kernel), List.mem_of_getElem? (i := 880) (by decide +kernel), List.mem_of_getElem? (i := 881) (by decide +kernel)⟩
theorem lw_p29 : lw_okq (⟨"TagGuideModel", "readNothing", "()V"⟩, 44) := ⟨⟨by decide +kernel, by decide +kernel⟩, List.mem_of_getElem? (i := 721) (by decide +kernel), List.mem_of_getElem? (i := 884) (by decide +kernel), List.mem_of_getElem? (i := 885) (by decide +kernel)⟩
theorem lw_p30 : lw_okq (⟨"TagGuideModel", "isExpression", "(I)Z"⟩, 44) := ⟨⟨by decide +kernel, by decide +kernel⟩, List.mem_of_getElem? (i := 721) (by decide +kernel), List.mem_of_getElem? (i := 888) (by decide +kernel), List.mem_of_getElem? (i := 889) (by decide +kernel)⟩
theorem lw_p31 : lw_okq (⟨"TagGuideModel", "readExpression", "(I)V"⟩, 44) := ⟨⟨by decide +kernel, by decide +kernel⟩, List.mem_of_getElem? (i := 721) (by decide +kernel), List.mem_of_getElem? (i := 892) (by decide +kernel), List.mem_of_getElem? (i := 893) (by decide +kernel)⟩
def lw_privs_2 : List (MethodName × Nat) := [(⟨"TagGuide$Tree", "latestOpenWith", "(I)I"⟩, 8), (⟨"TagGuide$Tree", "closeUpTo", "(II)V"⟩, 8), (⟨"TagGuide$Tree", "takeCharacter", "(ILTagGuide$Faults;)V"⟩, 8), (⟨"TagGuide", "reply", "(III)I"⟩, 10), (⟨"TagGuide", "offerAt", "(I)I"⟩, 10), (⟨"TagGuide", "renameAt", "(II)I"⟩, 10), (⟨"TagGuide$Former", "copy", "(II)V"⟩, 5), (⟨"TagGuide$Former", "put", "(I)V"⟩, 5), (⟨"TagGuide$Former", "startLine", "(I)V"⟩, 5), (⟨"TagGuide$Former", "addForm", "(II)V"⟩, 5), (⟨"TagGuideModel", "takeDraft", "(C)I"⟩, 44), (⟨"TagGuideModel", "count", "(Z)I"⟩, 44), (⟨"TagGuideModel", "at", "(I)I"⟩, 44), (⟨"TagGuideModel", "readNothing", "()V"⟩, 44), (⟨"TagGuideModel", "isExpression", "(I)Z"⟩, 44), (⟨"TagGuideModel", "readExpression", "(I)V"⟩, 44)]
theorem lw_r2 : ∀ q ∈ lw_privs_2, lw_okq q := List.forall_mem_cons.mpr ⟨lw_p16, List.forall_mem_cons.mpr ⟨lw_p17, List.forall_mem_cons.mpr ⟨lw_p18, List.forall_mem_cons.mpr ⟨lw_p19, List.forall_mem_cons.mpr ⟨lw_p20, List.forall_mem_cons.mpr ⟨lw_p21, List.forall_mem_cons.mpr ⟨lw_p22, List.forall_mem_cons.mpr ⟨lw_p23, List.forall_mem_cons.mpr ⟨lw_p24, List.forall_mem_cons.mpr ⟨lw_p25, List.forall_mem_cons.mpr ⟨lw_p26, List.forall_mem_cons.mpr ⟨lw_p27, List.forall_mem_cons.mpr ⟨lw_p28, List.forall_mem_cons.mpr ⟨lw_p29, List.forall_mem_cons.mpr ⟨lw_p30, List.forall_mem_cons.mpr ⟨lw_p31, fun _ h => absurd h List.not_mem_nil⟩⟩⟩⟩⟩⟩⟩⟩⟩⟩⟩⟩⟩⟩⟩⟩
theorem lw_p32 : lw_okq (⟨"TagGuideModel", "setPart", "(IZIIZ)V"⟩, 44) := ⟨⟨by decide +kernel, by decide +kernel⟩, List.mem_of_getElem? (i := 721) (by decide +kernel), List.mem_of_getElem? (i := 896) (by decide +kernel), List.mem_of_getElem? (i := 897) (by decide +kernel)⟩
theorem lw_p33 : lw_okq (⟨"TagGuideModel", "choose", "(I)V"⟩, 44) := ⟨⟨by decide +kernel, by decide +kernel⟩, List.mem_of_getElem? (i := 721) (by decide +kernel), List.mem_of_getElem? (i := 900) (by decide +kernel), List.mem_of_getElem? (i := 901) (by decide +kernel)⟩
theorem lw_p34 : lw_okq (⟨"TagGuideModel", "link", "(II)V"⟩, 44) := ⟨⟨by decide +kernel, by decide +kernel⟩, List.mem_of_getElem? (i := 721) (by decide +kernel), List.mem_of_getElem? (i := 904) (by decide +kernel), List.mem_of_getElem? (i := 905) (by decide +kernel)⟩
theorem lw_p35 : lw_okq (⟨"TagGuideModel", "append", "(IIIZ)V"⟩, 44) := ⟨⟨by decide +kernel, by decide +kernel⟩, List.mem_of_getElem? (i := 721) (by decide +kernel), List.mem_of_getElem? (i := 908) (by decide +kernel), List.mem_of_getElem? (i := 909) (by decide +kernel)⟩
theorem lw_p36 : lw_okq (⟨"TagGuideModel", "steps", "(III)I"⟩, 44) := ⟨⟨by decide +kernel, by decide +kernel⟩, List.mem_of_getElem? (i := 721) (by decide +kernel), List.mem_of_getElem? (i := 916) (by decide +kernel), List.mem_of_getElem? (i := 917) (by decide +kernel)⟩
theorem lw_p37 : lw_okq (⟨"TagGuideModel", "step", "(III)I"⟩, 44) := ⟨⟨by decide +kernel, by decide +kernel⟩, List.mem_of_getElem? (i := 721) (by decide +kernel), List.mem_of_getElem? (i := 920) (by decide +kernel), List.mem_of_getElem? (i := 921) (by decide +kernel)⟩
theorem lw_p38 : lw_okq (⟨"TagGuideModel", "next", "(II)I"⟩, 44) := ⟨⟨by decide +kernel, by decide +kernel⟩, List.mem_of_getElem? (i := 721) (by decide +kernel), List.mem_of_getElem? (i := 924) (by decide +kernel), List.mem_of_getElem? (i := 925) (by decide +kernel)⟩
theorem lw_p39 : lw_okq (⟨"TagGuideModel", "accepts", "(II)Z"⟩, 44) := ⟨⟨by decide +kernel, by decide +kernel⟩, List.mem_of_getElem? (i := 721) (by decide +kernel), List.mem_of_getElem? (i := 928) (by decide +kernel), List.mem_of_getElem? (i := 929) (by decide +kernel)⟩
theorem lw_p40 : lw_okq (⟨"TagGuideModel", "post", "(IIIII)V"⟩, 44) := ⟨⟨by decide +kernel, by decide +kernel⟩, List.mem_of_getElem? (i := 721) (by decide +kernel), List.mem_of_getElem? (i := 936) (by decide +kernel), List.mem_of_getElem? (i := 937) (by decide +kernel)⟩
theorem lw_p41 : lw_okq (⟨"TagGuideModel", "waitsAt", "(I)I"⟩, 44) := ⟨⟨by decide +kernel, by decide +kernel⟩, List.mem_of_getElem? (i := 721) (by decide +kernel), List.mem_of_getElem? (i := 952) (by decide +kernel), List.mem_of_getElem? (i := 953) (by decide +kernel)⟩
theorem lw_p42 : lw_okq (⟨"TagGuideModel", "strike", "(I)V"⟩, 44) := ⟨⟨by decide +kernel, by decide +kernel⟩, List.mem_of_getElem? (i := 721) (by decide +kernel), List.mem_of_getElem? (i := 956) (by decide +kernel), List.mem_of_getElem? (i := 957) (by decide +kernel)⟩
theorem lw_p43 : lw_okq (⟨"TagGuideModel", "insertNow", "(II)V"⟩, 44) := ⟨⟨by decide +kernel, by decide +kernel⟩, List.mem_of_getElem? (i := 721) (by decide +kernel), List.mem_of_getElem? (i := 964) (by decide +kernel), List.mem_of_getElem? (i := 965) (by decide +kernel)⟩
theorem lw_p44 : lw_okq (⟨"TagGuideModel", "eraseNow", "(II)V"⟩, 44) := ⟨⟨by decide +kernel, by decide +kernel⟩, List.mem_of_getElem? (i := 721) (by decide +kernel), List.mem_of_getElem? (i := 968) (by decide +kernel), List.mem_of_getElem? (i := 969) (by decide +kernel)⟩
theorem lw_p45 : lw_okq (⟨"TagGuideModel", "respond", "(III)I"⟩, 44) := ⟨⟨by decide +kernel, by decide +kernel⟩, List.mem_of_getElem? (i := 721) (by decide +kernel), List.mem_of_getElem? (i := 972) (by decide +kernel), List.mem_of_getElem? (i := 973) (by decide +kernel)⟩
theorem lw_p46 : lw_okq (⟨"TagGuideModel", "analyse", "()V"⟩, 44) := ⟨⟨by decide +kernel, by decide +kernel⟩, List.mem_of_getElem? (i := 721) (by decide +kernel), List.mem_of_getElem? (i := 976) (by decide +kernel), List.mem_of_getElem? (i := 977) (by decide +kernel)⟩
theorem lw_p47 : lw_okq (⟨"TagGuideModel", "newElement", "(IIII)I"⟩, 44) := ⟨⟨by decide +kernel, by decide +kernel⟩, List.mem_of_getElem? (i := 721) (by decide +kernel), List.mem_of_getElem? (i := 980) (by decide +kernel), List.mem_of_getElem? (i := 981) (by decide +kernel)⟩
def lw_privs_3 : List (MethodName × Nat) := [(⟨"TagGuideModel", "setPart", "(IZIIZ)V"⟩, 44), (⟨"TagGuideModel", "choose", "(I)V"⟩, 44), (⟨"TagGuideModel", "link", "(II)V"⟩, 44), (⟨"TagGuideModel", "append", "(IIIZ)V"⟩, 44), (⟨"TagGuideModel", "steps", "(III)I"⟩, 44), (⟨"TagGuideModel", "step", "(III)I"⟩, 44), (⟨"TagGuideModel", "next", "(II)I"⟩, 44), (⟨"TagGuideModel", "accepts", "(II)Z"⟩, 44), (⟨"TagGuideModel", "post", "(IIIII)V"⟩, 44), (⟨"TagGuideModel", "waitsAt", "(I)I"⟩, 44), (⟨"TagGuideModel", "strike", "(I)V"⟩, 44), (⟨"TagGuideModel", "insertNow", "(II)V"⟩, 44), (⟨"TagGuideModel", "eraseNow", "(II)V"⟩, 44), (⟨"TagGuideModel", "respond", "(III)I"⟩, 44), (⟨"TagGuideModel", "analyse", "()V"⟩, 44), (⟨"TagGuideModel", "newElement", "(IIII)I"⟩, 44)]
theorem lw_r3 : ∀ q ∈ lw_privs_3, lw_okq q := List.forall_mem_cons.mpr ⟨lw_p32, List.forall_mem_cons.mpr ⟨lw_p33, List.forall_mem_cons.mpr ⟨lw_p34, List.forall_mem_cons.mpr ⟨lw_p35, List.forall_mem_cons.mpr ⟨lw_p36, List.forall_mem_cons.mpr ⟨lw_p37, List.forall_mem_cons.mpr ⟨lw_p38, List.forall_mem_cons.mpr ⟨lw_p39, List.forall_mem_cons.mpr ⟨lw_p40, List.forall_mem_cons.mpr ⟨lw_p41, List.forall_mem_cons.mpr ⟨lw_p42, List.forall_mem_cons.mpr ⟨lw_p43, List.forall_mem_cons.mpr ⟨lw_p44, List.forall_mem_cons.mpr ⟨lw_p45, List.forall_mem_cons.mpr ⟨lw_p46, List.forall_mem_cons.mpr ⟨lw_p47, fun _ h => absurd h List.not_mem_nil⟩⟩⟩⟩⟩⟩⟩⟩⟩⟩⟩⟩⟩⟩⟩⟩
theorem lw_p48 : lw_okq (⟨"TagGuideModel", "charAt", "(I)I"⟩, 44) := ⟨⟨by decide +kernel, by decide +kernel⟩, List.mem_of_getElem? (i := 721) (by decide +kernel), List.mem_of_getElem? (i := 984) (by decide +kernel), List.mem_of_getElem? (i := 985) (by decide +kernel)⟩
theorem lw_p49 : lw_okq (⟨"TagGuideModel", "mark", "(III)V"⟩, 44) := ⟨⟨by decide +kernel, by decide +kernel⟩, List.mem_of_getElem? (i := 721) (by decide +kernel), List.mem_of_getElem? (i := 988) (by decide +kernel), List.mem_of_getElem? (i := 989) (by decide +kernel)⟩
theorem lw_p50 : lw_okq (⟨"TagGuideModel", "takeStart", "(IZ)V"⟩, 44) := ⟨⟨by decide +kernel, by decide +kernel⟩, List.mem_of_getElem? (i := 721) (by decide +kernel), List.mem_of_getElem? (i := 992) (by decide +kernel), List.mem_of_getElem? (i := 993) (by decide +kernel)⟩
theorem lw_p51 : lw_okq (⟨"TagGuideModel", "openElements", "()I"⟩, 44) := ⟨⟨by decide +kernel, by decide +kernel⟩, List.mem_of_getElem? (i := 721) (by decide +kernel), List.mem_of_getElem? (i := 996) (by decide +kernel), List.mem_of_getElem? (i := 997) (by decide +kernel)⟩
theorem lw_p52 : lw_okq (⟨"TagGuideModel", "addFault", "(II)V"⟩, 44) := ⟨⟨by decide +kernel, by decide +kernel⟩, List.mem_of_getElem? (i := 721) (by decide +kernel), List.mem_of_getElem? (i := 1000) (by decide +kernel), List.mem_of_getElem? (i := 1001) (by decide +kernel)⟩
theorem lw_p53 : lw_okq (⟨"TagGuideModel", "current", "()I"⟩, 44) := ⟨⟨by decide +kernel, by decide +kernel⟩, List.mem_of_getElem? (i := 721) (by decide +kernel), List.mem_of_getElem? (i := 1004) (by decide +kernel), List.mem_of_getElem? (i := 1005) (by decide +kernel)⟩
theorem lw_p54 : lw_okq (⟨"TagGuideModel", "takeEnd", "(I)V"⟩, 44) := ⟨⟨by decide +kernel, by decide +kernel⟩, List.mem_of_getElem? (i := 721) (by decide +kernel), List.mem_of_getElem? (i := 1008) (by decide +kernel), List.mem_of_getElem? (i := 1009) (by decide +kernel)⟩
theorem lw_p55 : lw_okq (⟨"TagGuideModel", "closeBare", "(II)V"⟩, 44) := ⟨⟨by decide +kernel, by decide +kernel⟩, List.mem_of_getElem? (i := 721) (by decide +kernel), List.mem_of_getElem? (i := 1012) (by decide +kernel), List.mem_of_getElem? (i := 1013) (by decide +kernel)⟩
theorem lw_p56 : lw_okq (⟨"TagGuideModel", "takeCharacter", "(I)V"⟩, 44) := ⟨⟨by decide +kernel, by decide +kernel⟩, List.mem_of_getElem? (i := 721) (by decide +kernel), List.mem_of_getElem? (i := 1016) (by decide +kernel), List.mem_of_getElem? (i := 1017) (by decide +kernel)⟩
theorem lw_p57 : lw_okq (⟨"TagGuideModel", "judge", "(I)V"⟩, 44) := ⟨⟨by decide +kernel, by decide +kernel⟩, List.mem_of_getElem? (i := 721) (by decide +kernel), List.mem_of_getElem? (i := 1020) (by decide +kernel), List.mem_of_getElem? (i := 1021) (by decide +kernel)⟩
theorem lw_p58 : lw_okq (⟨"TagGuideModel", "modelOf", "(I)I"⟩, 44) := ⟨⟨by decide +kernel, by decide +kernel⟩, List.mem_of_getElem? (i := 721) (by decide +kernel), List.mem_of_getElem? (i := 1024) (by decide +kernel), List.mem_of_getElem? (i := 1025) (by decide +kernel)⟩
theorem lw_p59 : lw_okq (⟨"TagGuideModel", "offer", "(I)I"⟩, 44) := ⟨⟨by decide +kernel, by decide +kernel⟩, List.mem_of_getElem? (i := 721) (by decide +kernel), List.mem_of_getElem? (i := 1028) (by decide +kernel), List.mem_of_getElem? (i := 1029) (by decide +kernel)⟩
theorem lw_p60 : lw_okq (⟨"TagGuideModel", "isBit", "(II)Z"⟩, 44) := ⟨⟨by decide +kernel, by decide +kernel⟩, List.mem_of_getElem? (i := 721) (by decide +kernel), List.mem_of_getElem? (i := 1033) (by decide +kernel), List.mem_of_getElem? (i := 1034) (by decide +kernel)⟩
theorem lw_p61 : lw_okq (⟨"TagGuideModel", "rename", "(II)I"⟩, 44) := ⟨⟨by decide +kernel, by decide +kernel⟩, List.mem_of_getElem? (i := 721) (by decide +kernel), List.mem_of_getElem? (i := 1037) (by decide +kernel), List.mem_of_getElem? (i := 1038) (by decide +kernel)⟩
theorem lw_p62 : lw_okq (⟨"TagGuideModel", "makeForm", "()I"⟩, 44) := ⟨⟨by decide +kernel, by decide +kernel⟩, List.mem_of_getElem? (i := 721) (by decide +kernel), List.mem_of_getElem? (i := 1041) (by decide +kernel), List.mem_of_getElem? (i := 1042) (by decide +kernel)⟩
theorem lw_p63 : lw_okq (⟨"TagGuideModel", "loose", "(I)Z"⟩, 44) := ⟨⟨by decide +kernel, by decide +kernel⟩, List.mem_of_getElem? (i := 721) (by decide +kernel), List.mem_of_getElem? (i := 1045) (by decide +kernel), List.mem_of_getElem? (i := 1046) (by decide +kernel)⟩
def lw_privs_4 : List (MethodName × Nat) := [(⟨"TagGuideModel", "charAt", "(I)I"⟩, 44), (⟨"TagGuideModel", "mark", "(III)V"⟩, 44), (⟨"TagGuideModel", "takeStart", "(IZ)V"⟩, 44), (⟨"TagGuideModel", "openElements", "()I"⟩, 44), (⟨"TagGuideModel", "addFault", "(II)V"⟩, 44), (⟨"TagGuideModel", "current", "()I"⟩, 44), (⟨"TagGuideModel", "takeEnd", "(I)V"⟩, 44), (⟨"TagGuideModel", "closeBare", "(II)V"⟩, 44), (⟨"TagGuideModel", "takeCharacter", "(I)V"⟩, 44), (⟨"TagGuideModel", "judge", "(I)V"⟩, 44), (⟨"TagGuideModel", "modelOf", "(I)I"⟩, 44), (⟨"TagGuideModel", "offer", "(I)I"⟩, 44), (⟨"TagGuideModel", "isBit", "(II)Z"⟩, 44), (⟨"TagGuideModel", "rename", "(II)I"⟩, 44), (⟨"TagGuideModel", "makeForm", "()I"⟩, 44), (⟨"TagGuideModel", "loose", "(I)Z"⟩, 44)]
theorem lw_r4 : ∀ q ∈ lw_privs_4, lw_okq q := List.forall_mem_cons.mpr ⟨lw_p48, List.forall_mem_cons.mpr ⟨lw_p49, List.forall_mem_cons.mpr ⟨lw_p50, List.forall_mem_cons.mpr ⟨lw_p51, List.forall_mem_cons.mpr ⟨lw_p52, List.forall_mem_cons.mpr ⟨lw_p53, List.forall_mem_cons.mpr ⟨lw_p54, List.forall_mem_cons.mpr ⟨lw_p55, List.forall_mem_cons.mpr ⟨lw_p56, List.forall_mem_cons.mpr ⟨lw_p57, List.forall_mem_cons.mpr ⟨lw_p58, List.forall_mem_cons.mpr ⟨lw_p59, List.forall_mem_cons.mpr ⟨lw_p60, List.forall_mem_cons.mpr ⟨lw_p61, List.forall_mem_cons.mpr ⟨lw_p62, List.forall_mem_cons.mpr ⟨lw_p63, fun _ h => absurd h List.not_mem_nil⟩⟩⟩⟩⟩⟩⟩⟩⟩⟩⟩⟩⟩⟩⟩⟩
theorem lw_p64 : lw_okq (⟨"TagGuideModel", "putText", "(II)V"⟩, 44) := ⟨⟨by decide +kernel, by decide +kernel⟩, List.mem_of_getElem? (i := 721) (by decide +kernel), List.mem_of_getElem? (i := 1049) (by decide +kernel), List.mem_of_getElem? (i := 1050) (by decide +kernel)⟩
theorem lw_p65 : lw_okq (⟨"TagGuideModel", "put", "(I)V"⟩, 44) := ⟨⟨by decide +kernel, by decide +kernel⟩, List.mem_of_getElem? (i := 721) (by decide +kernel), List.mem_of_getElem? (i := 1053) (by decide +kernel), List.mem_of_getElem? (i := 1054) (by decide +kernel)⟩
theorem lw_p66 : lw_okq (⟨"TagGuideModel", "laid", "(I)Z"⟩, 44) := ⟨⟨by decide +kernel, by decide +kernel⟩, List.mem_of_getElem? (i := 721) (by decide +kernel), List.mem_of_getElem? (i := 1057) (by decide +kernel), List.mem_of_getElem? (i := 1058) (by decide +kernel)⟩
theorem lw_p67 : lw_okq (⟨"TagGuideModel", "endLines", "(II)V"⟩, 44) := ⟨⟨by decide +kernel, by decide +kernel⟩, List.mem_of_getElem? (i := 721) (by decide +kernel), List.mem_of_getElem? (i := 1061) (by decide +kernel), List.mem_of_getElem? (i := 1062) (by decide +kernel)⟩
theorem lw_p68 : lw_okq (⟨"TagGuideModel", "within", "(II)Z"⟩, 44) := ⟨⟨by decide +kernel, by decide +kernel⟩, List.mem_of_getElem? (i := 721) (by decide +kernel), List.mem_of_getElem? (i := 1065) (by decide +kernel), List.mem_of_getElem? (i := 1066) (by decide +kernel)⟩
theorem lw_p69 : lw_okq (⟨"TagGuideModel", "depthOf", "(I)I"⟩, 44) := ⟨⟨by decide +kernel, by decide +kernel⟩, List.mem_of_getElem? (i := 721) (by decide +kernel), List.mem_of_getElem? (i := 1069) (by decide +kernel), List.mem_of_getElem? (i := 1070) (by decide +kernel)⟩
theorem lw_p70 : lw_okq (⟨"TagGuideModel", "putLine", "(I)V"⟩, 44) := ⟨⟨by decide +kernel, by decide +kernel⟩, List.mem_of_getElem? (i := 721) (by decide +kernel), List.mem_of_getElem? (i := 1073) (by decide +kernel), List.mem_of_getElem? (i := 1074) (by decide +kernel)⟩
def lw_privs_5 : List (MethodName × Nat) := [(⟨"TagGuideModel", "putText", "(II)V"⟩, 44), (⟨"TagGuideModel", "put", "(I)V"⟩, 44), (⟨"TagGuideModel", "laid", "(I)Z"⟩, 44), (⟨"TagGuideModel", "endLines", "(II)V"⟩, 44), (⟨"TagGuideModel", "within", "(II)Z"⟩, 44), (⟨"TagGuideModel", "depthOf", "(I)I"⟩, 44), (⟨"TagGuideModel", "putLine", "(I)V"⟩, 44)]
theorem lw_r5 : ∀ q ∈ lw_privs_5, lw_okq q := List.forall_mem_cons.mpr ⟨lw_p64, List.forall_mem_cons.mpr ⟨lw_p65, List.forall_mem_cons.mpr ⟨lw_p66, List.forall_mem_cons.mpr ⟨lw_p67, List.forall_mem_cons.mpr ⟨lw_p68, List.forall_mem_cons.mpr ⟨lw_p69, List.forall_mem_cons.mpr ⟨lw_p70, fun _ h => absurd h List.not_mem_nil⟩⟩⟩⟩⟩⟩⟩
def lw_privs : List (MethodName × Nat) := lw_privs_1 ++ (lw_privs_2 ++ (lw_privs_3 ++ (lw_privs_4 ++ (lw_privs_5))))
def lw_tbl : List Cond := k2_sels lw_privs ++ tables_1
theorem lw_privs_ok : ∀ q ∈ lw_privs, lw_okq q := by
  show ∀ q ∈ lw_privs_1 ++ (lw_privs_2 ++ (lw_privs_3 ++ (lw_privs_4 ++ (lw_privs_5)))), lw_okq q
  exact List.forall_mem_append.mpr ⟨lw_r1, List.forall_mem_append.mpr ⟨lw_r2, List.forall_mem_append.mpr ⟨lw_r3, List.forall_mem_append.mpr ⟨lw_r4, lw_r5⟩⟩⟩⟩
end
section
/-! names of this class, of the reference and of the law, by program (wip/whole/names.py) -/
def R_TG : String := "TagGuide"
def T_TG : u_T := fun k => match k with
  | 0 => ("TagGuide", "draft", "LTagGuide$Draft;", true)
  | 1 => ("TagGuide", "reader", "LTagGuide$ModelReader;", true)
  | 2 => ("TagGuide", "models", "LTagGuide$Models;", true)
  | 3 => ("TagGuide", "text", "LTagGuide$Text;", true)
  | 4 => ("TagGuide", "tree", "LTagGuide$Tree;", true)
  | 5 => ("TagGuide", "faults", "LTagGuide$Faults;", true)
  | 6 => ("TagGuide", "former", "LTagGuide$Former;", true)
  | 7 => ("TagGuide", "messages", "LTagGuide$Inbox;", true)
  | 8 => ("TagGuide", "answers", "LTagGuide$Answers;", true)
  | _ => ("TagGuide", "stale", "Z", false)
def t_TG : Nat → FieldType := fun k => match k with
  | 0 => .object "TagGuide$Draft"
  | 1 => .object "TagGuide$ModelReader"
  | 2 => .object "TagGuide$Models"
  | 3 => .object "TagGuide$Text"
  | 4 => .object "TagGuide$Tree"
  | 5 => .object "TagGuide$Faults"
  | 6 => .object "TagGuide$Former"
  | 7 => .object "TagGuide$Inbox"
  | 8 => .object "TagGuide$Answers"
  | _ => .boolean
theorem n_TG : ∀ a, a < 10 → ∀ b, b < 10 → a ≠ b → (T_TG a).2.1 ≠ (T_TG b).2.1 := by decide +kernel
theorem t_TG_ok : ∀ k, k < 10 → parseFieldDescriptor (T_TG k).2.2.1 = some (t_TG k) := by decide +kernel
def R_An : String := "TagGuide$Answers"
def T_An : u_T := fun k => match k with
  | 0 => ("TagGuide$Answers", "requests", "[I", true)
  | 1 => ("TagGuide$Answers", "values", "[I", true)
  | _ => ("TagGuide$Answers", "next", "I", false)
def t_An : Nat → FieldType := fun k => match k with
  | 0 => .array .int
  | 1 => .array .int
  | _ => .int
theorem n_An : ∀ a, a < 3 → ∀ b, b < 3 → a ≠ b → (T_An a).2.1 ≠ (T_An b).2.1 := by decide +kernel
theorem t_An_ok : ∀ k, k < 3 → parseFieldDescriptor (T_An k).2.2.1 = some (t_An k) := by decide +kernel
def R_Dr : String := "TagGuide$Draft"
def T_Dr : u_T := fun k => match k with
  | 0 => ("TagGuide$Draft", "codes", "[C", true)
  | _ => ("TagGuide$Draft", "size", "I", false)
def t_Dr : Nat → FieldType := fun k => match k with
  | 0 => .array .char
  | _ => .int
theorem n_Dr : ∀ a, a < 2 → ∀ b, b < 2 → a ≠ b → (T_Dr a).2.1 ≠ (T_Dr b).2.1 := by decide +kernel
theorem t_Dr_ok : ∀ k, k < 2 → parseFieldDescriptor (T_Dr k).2.2.1 = some (t_Dr k) := by decide +kernel
def R_El : String := "TagGuide$Element"
def T_El : u_T := fun k => match k with
  | 0 => ("TagGuide$Element", "name", "I", false)
  | 1 => ("TagGuide$Element", "parent", "I", false)
  | 2 => ("TagGuide$Element", "depth", "I", false)
  | 3 => ("TagGuide$Element", "begin", "I", false)
  | 4 => ("TagGuide$Element", "insideFrom", "I", false)
  | 5 => ("TagGuide$Element", "insideTo", "I", false)
  | 6 => ("TagGuide$Element", "behind", "I", false)
  | 7 => ("TagGuide$Element", "children", "I", false)
  | 8 => ("TagGuide$Element", "closedBy", "I", false)
  | _ => ("TagGuide$Element", "firstInk", "I", false)
def t_El : Nat → FieldType := fun k => match k with
  | 0 => .int
  | 1 => .int
  | 2 => .int
  | 3 => .int
  | 4 => .int
  | 5 => .int
  | 6 => .int
  | 7 => .int
  | 8 => .int
  | _ => .int
theorem n_El : ∀ a, a < 10 → ∀ b, b < 10 → a ≠ b → (T_El a).2.1 ≠ (T_El b).2.1 := by decide +kernel
theorem t_El_ok : ∀ k, k < 10 → parseFieldDescriptor (T_El k).2.2.1 = some (t_El k) := by decide +kernel
def R_Fa : String := "TagGuide$Faults"
def T_Fa : u_T := fun k => match k with
  | 0 => ("TagGuide$Faults", "keys", "[I", true)
  | _ => ("TagGuide$Faults", "size", "I", false)
def t_Fa : Nat → FieldType := fun k => match k with
  | 0 => .array .int
  | _ => .int
theorem n_Fa : ∀ a, a < 2 → ∀ b, b < 2 → a ≠ b → (T_Fa a).2.1 ≠ (T_Fa b).2.1 := by decide +kernel
theorem t_Fa_ok : ∀ k, k < 2 → parseFieldDescriptor (T_Fa k).2.2.1 = some (t_Fa k) := by decide +kernel
def R_Fo : String := "TagGuide$Former"
def T_Fo : u_T := fun k => match k with
  | 0 => ("TagGuide$Former", "text", "LTagGuide$Text;", true)
  | 1 => ("TagGuide$Former", "tree", "LTagGuide$Tree;", true)
  | 2 => ("TagGuide$Former", "models", "LTagGuide$Models;", true)
  | 3 => ("TagGuide$Former", "codes", "[C", true)
  | _ => ("TagGuide$Former", "size", "I", false)
def t_Fo : Nat → FieldType := fun k => match k with
  | 0 => .object "TagGuide$Text"
  | 1 => .object "TagGuide$Tree"
  | 2 => .object "TagGuide$Models"
  | 3 => .array .char
  | _ => .int
theorem n_Fo : ∀ a, a < 5 → ∀ b, b < 5 → a ≠ b → (T_Fo a).2.1 ≠ (T_Fo b).2.1 := by decide +kernel
theorem t_Fo_ok : ∀ k, k < 5 → parseFieldDescriptor (T_Fo k).2.2.1 = some (t_Fo k) := by decide +kernel
def R_In : String := "TagGuide$Inbox"
def T_In : u_T := fun k => match k with
  | 0 => ("TagGuide$Inbox", "kinds", "[I", true)
  | 1 => ("TagGuide$Inbox", "numbers", "[I", true)
  | 2 => ("TagGuide$Inbox", "places", "[I", true)
  | 3 => ("TagGuide$Inbox", "extras", "[I", true)
  | 4 => ("TagGuide$Inbox", "size", "I", false)
  | _ => ("TagGuide$Inbox", "requests", "I", false)
def t_In : Nat → FieldType := fun k => match k with
  | 0 => .array .int
  | 1 => .array .int
  | 2 => .array .int
  | 3 => .array .int
  | 4 => .int
  | _ => .int
theorem n_In : ∀ a, a < 6 → ∀ b, b < 6 → a ≠ b → (T_In a).2.1 ≠ (T_In b).2.1 := by decide +kernel
theorem t_In_ok : ∀ k, k < 6 → parseFieldDescriptor (T_In k).2.2.1 = some (t_In k) := by decide +kernel
def R_Mo : String := "TagGuide$Model"
def T_Mo : u_T := fun k => match k with
  | 0 => ("TagGuide$Model", "present", "Z", false)
  | 1 => ("TagGuide$Model", "mixed", "Z", false)
  | 2 => ("TagGuide$Model", "states", "I", false)
  | 3 => ("TagGuide$Model", "followers", "[I", true)
  | 4 => ("TagGuide$Model", "statesOfName", "[I", true)
  | _ => ("TagGuide$Model", "accepting", "I", false)
def t_Mo : Nat → FieldType := fun k => match k with
  | 0 => .boolean
  | 1 => .boolean
  | 2 => .int
  | 3 => .array .int
  | 4 => .array .int
  | _ => .int
theorem n_Mo : ∀ a, a < 6 → ∀ b, b < 6 → a ≠ b → (T_Mo a).2.1 ≠ (T_Mo b).2.1 := by decide +kernel
theorem t_Mo_ok : ∀ k, k < 6 → parseFieldDescriptor (T_Mo k).2.2.1 = some (t_Mo k) := by decide +kernel
def R_Mr : String := "TagGuide$ModelReader"
def T_Mr : u_T := fun k => match k with
  | 0 => ("TagGuide$ModelReader", "draft", "LTagGuide$Draft;", true)
  | 1 => ("TagGuide$ModelReader", "model", "LTagGuide$Model;", false)
  | 2 => ("TagGuide$ModelReader", "place", "I", false)
  | 3 => ("TagGuide$ModelReader", "first", "I", false)
  | 4 => ("TagGuide$ModelReader", "last", "I", false)
  | _ => ("TagGuide$ModelReader", "skippable", "Z", false)
def t_Mr : Nat → FieldType := fun k => match k with
  | 0 => .object "TagGuide$Draft"
  | 1 => .object "TagGuide$Model"
  | 2 => .int
  | 3 => .int
  | 4 => .int
  | _ => .boolean
theorem n_Mr : ∀ a, a < 6 → ∀ b, b < 6 → a ≠ b → (T_Mr a).2.1 ≠ (T_Mr b).2.1 := by decide +kernel
theorem t_Mr_ok : ∀ k, k < 6 → parseFieldDescriptor (T_Mr k).2.2.1 = some (t_Mr k) := by decide +kernel
def R_Ms : String := "TagGuide$Models"
def T_Ms : u_T := fun k => match k with
  | 0 => ("TagGuide$Models", "inUse", "[LTagGuide$Model;", true)
  | 1 => ("TagGuide$Models", "spare", "LTagGuide$Model;", false)
  | _ => ("TagGuide$Models", "fertileNames", "I", false)
def t_Ms : Nat → FieldType := fun k => match k with
  | 0 => .array (.object "TagGuide$Model")
  | 1 => .object "TagGuide$Model"
  | _ => .int
theorem n_Ms : ∀ a, a < 3 → ∀ b, b < 3 → a ≠ b → (T_Ms a).2.1 ≠ (T_Ms b).2.1 := by decide +kernel
theorem t_Ms_ok : ∀ k, k < 3 → parseFieldDescriptor (T_Ms k).2.2.1 = some (t_Ms k) := by decide +kernel
def R_Tx : String := "TagGuide$Text"
def T_Tx : u_T := fun k => match k with
  | 0 => ("TagGuide$Text", "codes", "[C", true)
  | _ => ("TagGuide$Text", "size", "I", false)
def t_Tx : Nat → FieldType := fun k => match k with
  | 0 => .array .char
  | _ => .int
theorem n_Tx : ∀ a, a < 2 → ∀ b, b < 2 → a ≠ b → (T_Tx a).2.1 ≠ (T_Tx b).2.1 := by decide +kernel
theorem t_Tx_ok : ∀ k, k < 2 → parseFieldDescriptor (T_Tx k).2.2.1 = some (t_Tx k) := by decide +kernel
def R_Tr : String := "TagGuide$Tree"
def T_Tr : u_T := fun k => match k with
  | 0 => ("TagGuide$Tree", "text", "LTagGuide$Text;", true)
  | 1 => ("TagGuide$Tree", "elements", "[LTagGuide$Element;", true)
  | 2 => ("TagGuide$Tree", "count", "I", false)
  | 3 => ("TagGuide$Tree", "open", "I", false)
  | 4 => ("TagGuide$Tree", "tagFrom", "[I", true)
  | 5 => ("TagGuide$Tree", "tagTo", "[I", true)
  | 6 => ("TagGuide$Tree", "tagOwner", "[I", true)
  | _ => ("TagGuide$Tree", "tags", "I", false)
def t_Tr : Nat → FieldType := fun k => match k with
  | 0 => .object "TagGuide$Text"
  | 1 => .array (.object "TagGuide$Element")
  | 2 => .int
  | 3 => .int
  | 4 => .array .int
  | 5 => .array .int
  | 6 => .array .int
  | _ => .int
theorem n_Tr : ∀ a, a < 8 → ∀ b, b < 8 → a ≠ b → (T_Tr a).2.1 ≠ (T_Tr b).2.1 := by decide +kernel
theorem t_Tr_ok : ∀ k, k < 8 → parseFieldDescriptor (T_Tr k).2.2.1 = some (t_Tr k) := by decide +kernel
def R_RF : String := "TagGuideModel"
def T_RF : u_T := fun k => match k with
  | 0 => ("TagGuideModel", "draftSize", "I", false)
  | 1 => ("TagGuideModel", "draft", "[I", false)
  | 2 => ("TagGuideModel", "has", "[Z", false)
  | 3 => ("TagGuideModel", "mixed", "[Z", false)
  | 4 => ("TagGuideModel", "first", "[I", false)
  | 5 => ("TagGuideModel", "last", "[I", false)
  | 6 => ("TagGuideModel", "empty", "[Z", false)
  | 7 => ("TagGuideModel", "many", "[I", false)
  | 8 => ("TagGuideModel", "named", "[I", false)
  | 9 => ("TagGuideModel", "follow", "[I", false)
  | 10 => ("TagGuideModel", "some", "[Z", false)
  | 11 => ("TagGuideModel", "firsts", "[I", false)
  | 12 => ("TagGuideModel", "lasts", "[I", false)
  | 13 => ("TagGuideModel", "empties", "[Z", false)
  | 14 => ("TagGuideModel", "size", "I", false)
  | 15 => ("TagGuideModel", "text", "[I", false)
  | 16 => ("TagGuideModel", "elements", "I", false)
  | 17 => ("TagGuideModel", "name", "[I", false)
  | 18 => ("TagGuideModel", "parent", "[I", false)
  | 19 => ("TagGuideModel", "begin", "[I", false)
  | 20 => ("TagGuideModel", "behind", "[I", false)
  | 21 => ("TagGuideModel", "insideFrom", "[I", false)
  | 22 => ("TagGuideModel", "insideTo", "[I", false)
  | 23 => ("TagGuideModel", "endTag", "[I", false)
  | 24 => ("TagGuideModel", "firstCharacter", "[I", false)
  | 25 => ("TagGuideModel", "open", "[Z", false)
  | 26 => ("TagGuideModel", "tagFrom", "[I", false)
  | 27 => ("TagGuideModel", "tagTo", "[I", false)
  | 28 => ("TagGuideModel", "tagOf", "[I", false)
  | 29 => ("TagGuideModel", "faults", "I", false)
  | 30 => ("TagGuideModel", "faultKind", "[I", false)
  | 31 => ("TagGuideModel", "faultPlace", "[I", false)
  | 32 => ("TagGuideModel", "messages", "I", false)
  | 33 => ("TagGuideModel", "mKind", "[I", false)
  | 34 => ("TagGuideModel", "mPlace", "[I", false)
  | 35 => ("TagGuideModel", "mMore", "[I", false)
  | 36 => ("TagGuideModel", "mNumber", "[I", false)
  | 37 => ("TagGuideModel", "mWhat", "[I", false)
  | 38 => ("TagGuideModel", "requests", "I", false)
  | 39 => ("TagGuideModel", "answered", "I", false)
  | 40 => ("TagGuideModel", "answerOf", "[I", false)
  | 41 => ("TagGuideModel", "answers", "[I", false)
  | 42 => ("TagGuideModel", "formSize", "I", false)
  | _ => ("TagGuideModel", "form", "[I", false)
def t_RF : Nat → FieldType := fun k => match k with
  | 0 => .int
  | 1 => .array .int
  | 2 => .array .boolean
  | 3 => .array .boolean
  | 4 => .array .int
  | 5 => .array .int
  | 6 => .array .boolean
  | 7 => .array .int
  | 8 => .array .int
  | 9 => .array .int
  | 10 => .array .boolean
  | 11 => .array .int
  | 12 => .array .int
  | 13 => .array .boolean
  | 14 => .int
  | 15 => .array .int
  | 16 => .int
  | 17 => .array .int
  | 18 => .array .int
  | 19 => .array .int
  | 20 => .array .int
  | 21 => .array .int
  | 22 => .array .int
  | 23 => .array .int
  | 24 => .array .int
  | 25 => .array .boolean
  | 26 => .array .int
  | 27 => .array .int
  | 28 => .array .int
  | 29 => .int
  | 30 => .array .int
  | 31 => .array .int
  | 32 => .int
  | 33 => .array .int
  | 34 => .array .int
  | 35 => .array .int
  | 36 => .array .int
  | 37 => .array .int
  | 38 => .int
  | 39 => .int
  | 40 => .array .int
  | 41 => .array .int
  | 42 => .int
  | _ => .array .int
theorem n_RF : ∀ a, a < 44 → ∀ b, b < 44 → a ≠ b → (T_RF a).2.1 ≠ (T_RF b).2.1 := by decide +kernel
theorem t_RF_ok : ∀ k, k < 44 → parseFieldDescriptor (T_RF k).2.2.1 = some (t_RF k) := by decide +kernel
abbrev exCl : List vw_C := [(R_TG, T_TG, 10), (R_An, T_An, 3), (R_Dr, T_Dr, 2), (R_El, T_El, 10), (R_Fa, T_Fa, 2), (R_Fo, T_Fo, 5), (R_In, T_In, 6), (R_Mo, T_Mo, 6), (R_Mr, T_Mr, 6), (R_Ms, T_Ms, 3), (R_Tx, T_Tx, 2), (R_Tr, T_Tr, 8), (R_RF, T_RF, 44)]
def exTy : List FieldType := [.int, .char, .boolean, .object "TagGuide$Model", .object "TagGuide$Element"]
def exRk (t : Nat) : Bool := match t with
  | 3 => true
  | 4 => true
  | _ => false
def exFk (ci : Nat) : List Bool := match ci with
  | 0 => [true, true, true, true, true, true, true, true, true, false]
  | 1 => [true, true, false]
  | 2 => [true, false]
  | 3 => [false, false, false, false, false, false, false, false, false, false]
  | 4 => [true, false]
  | 5 => [true, true, true, true, false]
  | 6 => [true, true, true, true, false, false]
  | 7 => [false, false, false, true, true, false]
  | 8 => [true, true, false, false, false, false]
  | 9 => [true, true, false]
  | 10 => [true, false]
  | 11 => [true, true, false, false, true, true, true, false]
  | 12 => [false, true, true, true, true, true, true, true, true, true, true, true, true, true, false, true, false, true, true, true, true, true, true, true, true, true, true, true, true, false, true, true, false, true, true, true, true, true, false, false, true, true, false, true]
  | _ => []
def ex_nest : Cond → Bool
  | .fieldLinkNest .. => true
  | .methodLinkNest .. => true
  | _ => false
def exTW : List Cond := lw_tbl.filter goodWord
def exNW : List Cond := lw_tbl.filter ex_nest
def exAO : List String := ["TagGuide$Model", "TagGuide$Element"]
theorem exTW_good (w : Cond) (h : w ∈ exTW) : goodWord w = true := (List.mem_filter.mp h).2
theorem exNW_nest (w : Cond) (h : w ∈ exNW) : ex_nest w = true := (List.mem_filter.mp h).2
theorem ex_tw {w : Cond} (i : Nat) (h : tables_1[i]? = some w) (hg : goodWord w = true) : w ∈ exTW := List.mem_filter.mpr ⟨List.mem_append_right _ (List.mem_of_getElem? h), hg⟩
theorem ex_ts {w : Cond} (i : Nat) (h : (k2_sels lw_privs)[i]? = some w) (hg : goodWord w = true) : w ∈ exTW := List.mem_filter.mpr ⟨List.mem_append_left _ (List.mem_of_getElem? h), hg⟩
theorem ex_tn {w : Cond} (i : Nat) (h : tables_1[i]? = some w) (hg : ex_nest w = true) : w ∈ exNW := List.mem_filter.mpr ⟨List.mem_append_right _ (List.mem_of_getElem? h), hg⟩
theorem ex_uw {ws : List Cond} (ps : List Nat) (h : ws = ps.filterMap (fun i => tables_1[i]?)) (hg : ws.all goodWord = true) : ∀ w ∈ ws, w ∈ exTW := by
  intro w hw
  have h1 := List.all_eq_true.mp hg w hw
  rw [h] at hw
  obtain ⟨i, -, hi⟩ := List.mem_filterMap.mp hw
  exact ex_tw i hi h1
theorem u_TG : ∀ w ∈ u_ws R_TG T_TG 10, w ∈ exTW := ex_uw [313, 315, 317, 319, 321, 323, 325, 327, 329, 331] (by decide +kernel) (by decide +kernel)
theorem u_An : ∀ w ∈ u_ws R_An T_An 3, w ∈ exTW := ex_uw [296, 298, 300] (by decide +kernel) (by decide +kernel)
theorem u_Dr : ∀ w ∈ u_ws R_Dr T_Dr 2, w ∈ exTW := ex_uw [32, 34] (by decide +kernel) (by decide +kernel)
theorem u_El : ∀ w ∈ u_ws R_El T_El 10, w ∈ exTW := ex_uw [168, 170, 172, 174, 176, 178, 180, 182, 184, 186] (by decide +kernel) (by decide +kernel)
theorem u_Fa : ∀ w ∈ u_ws R_Fa T_Fa 2, w ∈ exTW := ex_uw [230, 232] (by decide +kernel) (by decide +kernel)
theorem u_Fo : ∀ w ∈ u_ws R_Fo T_Fo 5, w ∈ exTW := ex_uw [246, 248, 250, 252, 254] (by decide +kernel) (by decide +kernel)
theorem u_In : ∀ w ∈ u_ws R_In T_In 6, w ∈ exTW := ex_uw [274, 276, 278, 280, 282, 284] (by decide +kernel) (by decide +kernel)
theorem u_Mo : ∀ w ∈ u_ws R_Mo T_Mo 6, w ∈ exTW := ex_uw [58, 60, 62, 64, 66, 68] (by decide +kernel) (by decide +kernel)
theorem u_Mr : ∀ w ∈ u_ws R_Mr T_Mr 6, w ∈ exTW := ex_uw [78, 80, 82, 84, 86, 88] (by decide +kernel) (by decide +kernel)
theorem u_Ms : ∀ w ∈ u_ws R_Ms T_Ms 3, w ∈ exTW := ex_uw [105, 107, 109] (by decide +kernel) (by decide +kernel)
theorem u_Tx : ∀ w ∈ u_ws R_Tx T_Tx 2, w ∈ exTW := ex_uw [123, 125] (by decide +kernel) (by decide +kernel)
theorem u_Tr : ∀ w ∈ u_ws R_Tr T_Tr 8, w ∈ exTW := ex_uw [204, 206, 208, 210, 212, 214, 216, 218] (by decide +kernel) (by decide +kernel)
theorem u_RF : ∀ w ∈ u_ws R_RF T_RF 44, w ∈ exTW := ex_uw [770, 772, 774, 776, 778, 780, 782, 784, 786, 788, 790, 792, 794, 796, 798, 800, 802, 804, 806, 808, 810, 812, 814, 816, 818, 820, 822, 824, 826, 828, 830, 832, 834, 836, 838, 840, 842, 844, 846, 848, 850, 852, 854, 856] (by decide +kernel) (by decide +kernel)
abbrev M_TG_init : MethodName × ByteArray × Nat × Option FieldType := (⟨"TagGuide", "<init>", "()V"⟩, prog_1_method_1_code, 1, none)
abbrev M_Dr_init : MethodName × ByteArray × Nat × Option FieldType := (⟨"TagGuide$Draft", "<init>", "()V"⟩, prog_3_method_1_code, 1, none)
abbrev M_Mr_init : MethodName × ByteArray × Nat × Option FieldType := (⟨"TagGuide$ModelReader", "<init>", "(LTagGuide$Draft;)V"⟩, prog_9_method_1_code, 2, none)
abbrev M_Mo_init : MethodName × ByteArray × Nat × Option FieldType := (⟨"TagGuide$Model", "<init>", "()V"⟩, prog_8_method_1_code, 1, none)
abbrev M_Ms_init : MethodName × ByteArray × Nat × Option FieldType := (⟨"TagGuide$Models", "<init>", "()V"⟩, prog_10_method_1_code, 2, none)
abbrev M_Tx_init : MethodName × ByteArray × Nat × Option FieldType := (⟨"TagGuide$Text", "<init>", "()V"⟩, prog_11_method_1_code, 1, none)
abbrev M_Tr_init : MethodName × ByteArray × Nat × Option FieldType := (⟨"TagGuide$Tree", "<init>", "(LTagGuide$Text;)V"⟩, prog_12_method_1_code, 3, none)
abbrev M_El_init : MethodName × ByteArray × Nat × Option FieldType := (⟨"TagGuide$Element", "<init>", "()V"⟩, prog_4_method_1_code, 1, none)
abbrev M_Fa_init : MethodName × ByteArray × Nat × Option FieldType := (⟨"TagGuide$Faults", "<init>", "()V"⟩, prog_5_method_1_code, 1, none)
abbrev M_Fo_init : MethodName × ByteArray × Nat × Option FieldType := (⟨"TagGuide$Former", "<init>", "(LTagGuide$Text;LTagGuide$Tree;LTagGuide$Models;)V"⟩, prog_6_method_1_code, 4, none)
abbrev M_In_init : MethodName × ByteArray × Nat × Option FieldType := (⟨"TagGuide$Inbox", "<init>", "()V"⟩, prog_7_method_1_code, 1, none)
abbrev M_An_init : MethodName × ByteArray × Nat × Option FieldType := (⟨"TagGuide$Answers", "<init>", "()V"⟩, prog_2_method_1_code, 1, none)
abbrev M_TG_write : MethodName × ByteArray × Nat × Option FieldType := (⟨"TagGuide", "write", "(C)Z"⟩, prog_1_method_2_code, 2, some .boolean)
abbrev M_Dr_append : MethodName × ByteArray × Nat × Option FieldType := (⟨"TagGuide$Draft", "append", "(C)Z"⟩, prog_3_method_2_code, 2, some .boolean)
abbrev M_TG_isWritable : MethodName × ByteArray × Nat × Option FieldType := (⟨"TagGuide", "isWritable", "(I)Z"⟩, prog_1_method_23_code, 1, some .boolean)
abbrev M_TG_define : MethodName × ByteArray × Nat × Option FieldType := (⟨"TagGuide", "define", "(C)I"⟩, prog_1_method_3_code, 3, some .int)
abbrev M_TG_isName : MethodName × ByteArray × Nat × Option FieldType := (⟨"TagGuide", "isName", "(I)Z"⟩, prog_1_method_22_code, 1, some .boolean)
abbrev M_Dr_isTooLarge : MethodName × ByteArray × Nat × Option FieldType := (⟨"TagGuide$Draft", "isTooLarge", "()Z"⟩, prog_3_method_5_code, 4, some .boolean)
abbrev M_Mr_readInto : MethodName × ByteArray × Nat × Option FieldType := (⟨"TagGuide$ModelReader", "readInto", "(LTagGuide$Model;)I"⟩, prog_9_method_2_code, 2, some .int)
abbrev M_Mo_clear : MethodName × ByteArray × Nat × Option FieldType := (⟨"TagGuide$Model", "clear", "()V"⟩, prog_8_method_2_code, 2, none)
abbrev M_Mr_takes : MethodName × ByteArray × Nat × Option FieldType := (⟨"TagGuide$ModelReader", "takes", "(C)Z"⟩, prog_9_method_8_code, 2, some .boolean)
abbrev M_Dr_at : MethodName × ByteArray × Nat × Option FieldType := (⟨"TagGuide$Draft", "at", "(I)I"⟩, prog_3_method_4_code, 2, some .int)
abbrev M_Mo_complete : MethodName × ByteArray × Nat × Option FieldType := (⟨"TagGuide$Model", "complete", "(IIZ)V"⟩, prog_8_method_5_code, 4, none)
abbrev M_Mo_start : MethodName × ByteArray × Nat × Option FieldType := (⟨"TagGuide$Model", "start", "()I"⟩, prog_8_method_7_code, 1, some .int)
abbrev M_Mr_readsExpression : MethodName × ByteArray × Nat × Option FieldType := (⟨"TagGuide$ModelReader", "readsExpression", "(I)Z"⟩, prog_9_method_3_code, 6, some .boolean)
abbrev M_Mr_readsSequence : MethodName × ByteArray × Nat × Option FieldType := (⟨"TagGuide$ModelReader", "readsSequence", "(I)Z"⟩, prog_9_method_4_code, 6, some .boolean)
abbrev M_Mr_readsItem : MethodName × ByteArray × Nat × Option FieldType := (⟨"TagGuide$ModelReader", "readsItem", "(I)Z"⟩, prog_9_method_5_code, 2, some .boolean)
abbrev M_Mr_readsName : MethodName × ByteArray × Nat × Option FieldType := (⟨"TagGuide$ModelReader", "readsName", "()Z"⟩, prog_9_method_6_code, 2, some .boolean)
abbrev M_Mo_addState : MethodName × ByteArray × Nat × Option FieldType := (⟨"TagGuide$Model", "addState", "(I)I"⟩, prog_8_method_3_code, 3, some .int)
abbrev M_Mr_readMark : MethodName × ByteArray × Nat × Option FieldType := (⟨"TagGuide$ModelReader", "readMark", "()V"⟩, prog_9_method_7_code, 1, none)
abbrev M_Mo_join : MethodName × ByteArray × Nat × Option FieldType := (⟨"TagGuide$Model", "join", "(II)V"⟩, prog_8_method_4_code, 4, none)
abbrev M_Ms_useSpareFor : MethodName × ByteArray × Nat × Option FieldType := (⟨"TagGuide$Models", "useSpareFor", "(I)V"⟩, prog_10_method_3_code, 3, none)
abbrev M_Ms_rowOf : MethodName × ByteArray × Nat × Option FieldType := (⟨"TagGuide$Models", "rowOf", "(I)I"⟩, prog_10_method_7_code, 2, some .int)
abbrev M_Ms_findFertileNames : MethodName × ByteArray × Nat × Option FieldType := (⟨"TagGuide$Models", "findFertileNames", "()V"⟩, prog_10_method_8_code, 5, none)
abbrev M_Mo_spread : MethodName × ByteArray × Nat × Option FieldType := (⟨"TagGuide$Model", "spread", "(II)I"⟩, prog_8_method_10_code, 7, some .int)
abbrev M_Mo_followersOf : MethodName × ByteArray × Nat × Option FieldType := (⟨"TagGuide$Model", "followersOf", "(I)I"⟩, prog_8_method_11_code, 4, some .int)
abbrev M_Mo_accepts : MethodName × ByteArray × Nat × Option FieldType := (⟨"TagGuide$Model", "accepts", "(I)Z"⟩, prog_8_method_8_code, 2, some .boolean)
abbrev M_Dr_clear : MethodName × ByteArray × Nat × Option FieldType := (⟨"TagGuide$Draft", "clear", "()V"⟩, prog_3_method_3_code, 1, none)
abbrev M_TG_insert : MethodName × ByteArray × Nat × Option FieldType := (⟨"TagGuide", "insert", "(IC)Z"⟩, prog_1_method_4_code, 3, some .boolean)
abbrev M_In_put : MethodName × ByteArray × Nat × Option FieldType := (⟨"TagGuide$Inbox", "put", "(IIII)Z"⟩, prog_7_method_3_code, 5, some .boolean)
abbrev M_In_isFull : MethodName × ByteArray × Nat × Option FieldType := (⟨"TagGuide$Inbox", "isFull", "()Z"⟩, prog_7_method_2_code, 1, some .boolean)
abbrev M_TG_erase : MethodName × ByteArray × Nat × Option FieldType := (⟨"TagGuide", "erase", "(II)Z"⟩, prog_1_method_5_code, 3, some .boolean)
abbrev M_TG_ask : MethodName × ByteArray × Nat × Option FieldType := (⟨"TagGuide", "ask", "(IIC)I"⟩, prog_1_method_6_code, 4, some .int)
abbrev M_In_putRequest : MethodName × ByteArray × Nat × Option FieldType := (⟨"TagGuide$Inbox", "putRequest", "(III)I"⟩, prog_7_method_4_code, 4, some .int)
abbrev M_TG_cancel : MethodName × ByteArray × Nat × Option FieldType := (⟨"TagGuide", "cancel", "(I)Z"⟩, prog_1_method_7_code, 2, some .boolean)
abbrev M_In_find : MethodName × ByteArray × Nat × Option FieldType := (⟨"TagGuide$Inbox", "find", "(I)I"⟩, prog_7_method_5_code, 3, some .int)
abbrev M_In_takeOut : MethodName × ByteArray × Nat × Option FieldType := (⟨"TagGuide$Inbox", "takeOut", "(I)Z"⟩, prog_7_method_6_code, 3, some .boolean)
abbrev M_TG_work : MethodName × ByteArray × Nat × Option FieldType := (⟨"TagGuide", "work", "()I"⟩, prog_1_method_8_code, 5, some .int)
abbrev M_TG_change : MethodName × ByteArray × Nat × Option FieldType := (⟨"TagGuide", "change", "(III)V"⟩, prog_1_method_17_code, 4, none)
abbrev M_Tx_putIn : MethodName × ByteArray × Nat × Option FieldType := (⟨"TagGuide$Text", "putIn", "(II)V"⟩, prog_11_method_3_code, 3, none)
abbrev M_Tx_takeOut : MethodName × ByteArray × Nat × Option FieldType := (⟨"TagGuide$Text", "takeOut", "(II)V"⟩, prog_11_method_4_code, 3, none)
abbrev M_TG_refresh : MethodName × ByteArray × Nat × Option FieldType := (⟨"TagGuide", "refresh", "()V"⟩, prog_1_method_21_code, 1, none)
abbrev M_Fa_clear : MethodName × ByteArray × Nat × Option FieldType := (⟨"TagGuide$Faults", "clear", "()V"⟩, prog_5_method_2_code, 1, none)
abbrev M_Tr_read : MethodName × ByteArray × Nat × Option FieldType := (⟨"TagGuide$Tree", "read", "(LTagGuide$Faults;)V"⟩, prog_12_method_2_code, 4, none)
abbrev M_El_open : MethodName × ByteArray × Nat × Option FieldType := (⟨"TagGuide$Element", "open", "(IIIII)V"⟩, prog_4_method_2_code, 6, none)
abbrev M_Tr_take : MethodName × ByteArray × Nat × Option FieldType := (⟨"TagGuide$Tree", "take", "(ILTagGuide$Faults;)I"⟩, prog_12_method_3_code, 3, some .int)
abbrev M_Tx_tagKindAt : MethodName × ByteArray × Nat × Option FieldType := (⟨"TagGuide$Text", "tagKindAt", "(I)I"⟩, prog_11_method_6_code, 2, some .int)
abbrev M_Tx_at : MethodName × ByteArray × Nat × Option FieldType := (⟨"TagGuide$Text", "at", "(I)I"⟩, prog_11_method_2_code, 2, some .int)
abbrev M_Tr_takeStartTag : MethodName × ByteArray × Nat × Option FieldType := (⟨"TagGuide$Tree", "takeStartTag", "(IILTagGuide$Faults;)V"⟩, prog_12_method_5_code, 4, none)
abbrev M_Tr_begins : MethodName × ByteArray × Nat × Option FieldType := (⟨"TagGuide$Tree", "begins", "(IILTagGuide$Faults;)Z"⟩, prog_12_method_7_code, 5, some .boolean)
abbrev M_Tr_addTag : MethodName × ByteArray × Nat × Option FieldType := (⟨"TagGuide$Tree", "addTag", "(III)V"⟩, prog_12_method_11_code, 4, none)
abbrev M_Fa_add : MethodName × ByteArray × Nat × Option FieldType := (⟨"TagGuide$Faults", "add", "(II)V"⟩, prog_5_method_3_code, 5, none)
abbrev M_Tr_takeEmptyTag : MethodName × ByteArray × Nat × Option FieldType := (⟨"TagGuide$Tree", "takeEmptyTag", "(IILTagGuide$Faults;)V"⟩, prog_12_method_6_code, 4, none)
abbrev M_El_close : MethodName × ByteArray × Nat × Option FieldType := (⟨"TagGuide$Element", "close", "(III)V"⟩, prog_4_method_3_code, 4, none)
abbrev M_Tr_takeEndTag : MethodName × ByteArray × Nat × Option FieldType := (⟨"TagGuide$Tree", "takeEndTag", "(IILTagGuide$Faults;)V"⟩, prog_12_method_8_code, 5, none)
abbrev M_Tr_latestOpenWith : MethodName × ByteArray × Nat × Option FieldType := (⟨"TagGuide$Tree", "latestOpenWith", "(I)I"⟩, prog_12_method_9_code, 4, some .int)
abbrev M_Tr_closeUpTo : MethodName × ByteArray × Nat × Option FieldType := (⟨"TagGuide$Tree", "closeUpTo", "(II)V"⟩, prog_12_method_10_code, 4, none)
abbrev M_Tr_takeCharacter : MethodName × ByteArray × Nat × Option FieldType := (⟨"TagGuide$Tree", "takeCharacter", "(ILTagGuide$Faults;)V"⟩, prog_12_method_4_code, 4, none)
abbrev M_El_takeCharacter : MethodName × ByteArray × Nat × Option FieldType := (⟨"TagGuide$Element", "takeCharacter", "(II)V"⟩, prog_4_method_4_code, 3, none)
abbrev M_Fa_judge : MethodName × ByteArray × Nat × Option FieldType := (⟨"TagGuide$Faults", "judge", "(LTagGuide$Tree;LTagGuide$Models;)V"⟩, prog_5_method_4_code, 6, none)
abbrev M_Ms_of : MethodName × ByteArray × Nat × Option FieldType := (⟨"TagGuide$Models", "of", "(I)LTagGuide$Model;"⟩, prog_10_method_2_code, 2, some (.object "TagGuide$Model"))
abbrev M_Mo_forbidsCharacters : MethodName × ByteArray × Nat × Option FieldType := (⟨"TagGuide$Model", "forbidsCharacters", "()Z"⟩, prog_8_method_6_code, 1, some .boolean)
abbrev M_Ms_allowChildren : MethodName × ByteArray × Nat × Option FieldType := (⟨"TagGuide$Models", "allowChildren", "(LTagGuide$Tree;I)Z"⟩, prog_10_method_4_code, 4, some .boolean)
abbrev M_Tr_stepChildren : MethodName × ByteArray × Nat × Option FieldType := (⟨"TagGuide$Tree", "stepChildren", "(LTagGuide$Model;IIII)I"⟩, prog_12_method_16_code, 9, some .int)
abbrev M_Mo_step : MethodName × ByteArray × Nat × Option FieldType := (⟨"TagGuide$Model", "step", "(II)I"⟩, prog_8_method_9_code, 3, some .int)
abbrev M_TG_reply : MethodName × ByteArray × Nat × Option FieldType := (⟨"TagGuide", "reply", "(III)I"⟩, prog_1_method_18_code, 4, some .int)
abbrev M_TG_offerAt : MethodName × ByteArray × Nat × Option FieldType := (⟨"TagGuide", "offerAt", "(I)I"⟩, prog_1_method_19_code, 2, some .int)
abbrev M_Tr_isWithinTag : MethodName × ByteArray × Nat × Option FieldType := (⟨"TagGuide$Tree", "isWithinTag", "(I)Z"⟩, prog_12_method_12_code, 3, some .boolean)
abbrev M_Tr_insideOf : MethodName × ByteArray × Nat × Option FieldType := (⟨"TagGuide$Tree", "insideOf", "(I)I"⟩, prog_12_method_15_code, 3, some .int)
abbrev M_El_hasInside : MethodName × ByteArray × Nat × Option FieldType := (⟨"TagGuide$Element", "hasInside", "(I)Z"⟩, prog_4_method_5_code, 2, some .boolean)
abbrev M_Ms_offer : MethodName × ByteArray × Nat × Option FieldType := (⟨"TagGuide$Models", "offer", "(LTagGuide$Tree;II)I"⟩, prog_10_method_6_code, 9, some .int)
abbrev M_TG_renameAt : MethodName × ByteArray × Nat × Option FieldType := (⟨"TagGuide", "renameAt", "(II)I"⟩, prog_1_method_20_code, 4, some .int)
abbrev M_Tr_ownerOfTagAt : MethodName × ByteArray × Nat × Option FieldType := (⟨"TagGuide$Tree", "ownerOfTagAt", "(I)I"⟩, prog_12_method_13_code, 3, some .int)
abbrev M_Tr_renameTags : MethodName × ByteArray × Nat × Option FieldType := (⟨"TagGuide$Tree", "renameTags", "(II)I"⟩, prog_12_method_14_code, 6, some .int)
abbrev M_Tx_replace : MethodName × ByteArray × Nat × Option FieldType := (⟨"TagGuide$Text", "replace", "(II)V"⟩, prog_11_method_5_code, 3, none)
abbrev M_Fa_preventForm : MethodName × ByteArray × Nat × Option FieldType := (⟨"TagGuide$Faults", "preventForm", "()Z"⟩, prog_5_method_5_code, 2, some .boolean)
abbrev M_Fo_formAnew : MethodName × ByteArray × Nat × Option FieldType := (⟨"TagGuide$Former", "formAnew", "()I"⟩, prog_6_method_3_code, 2, some .int)
abbrev M_Ms_makeLoose : MethodName × ByteArray × Nat × Option FieldType := (⟨"TagGuide$Models", "makeLoose", "(LTagGuide$Element;)Z"⟩, prog_10_method_5_code, 2, some .boolean)
abbrev M_Fo_copy : MethodName × ByteArray × Nat × Option FieldType := (⟨"TagGuide$Former", "copy", "(II)V"⟩, prog_6_method_6_code, 4, none)
abbrev M_Fo_put : MethodName × ByteArray × Nat × Option FieldType := (⟨"TagGuide$Former", "put", "(I)V"⟩, prog_6_method_7_code, 2, none)
abbrev M_Fo_startLine : MethodName × ByteArray × Nat × Option FieldType := (⟨"TagGuide$Former", "startLine", "(I)V"⟩, prog_6_method_5_code, 3, none)
abbrev M_Fo_addForm : MethodName × ByteArray × Nat × Option FieldType := (⟨"TagGuide$Former", "addForm", "(II)V"⟩, prog_6_method_4_code, 5, none)
abbrev M_An_keep : MethodName × ByteArray × Nat × Option FieldType := (⟨"TagGuide$Answers", "keep", "(II)V"⟩, prog_2_method_2_code, 3, none)
abbrev M_TG_answer : MethodName × ByteArray × Nat × Option FieldType := (⟨"TagGuide", "answer", "(I)I"⟩, prog_1_method_9_code, 2, some .int)
abbrev M_An_of : MethodName × ByteArray × Nat × Option FieldType := (⟨"TagGuide$Answers", "of", "(I)I"⟩, prog_2_method_3_code, 3, some .int)
abbrev M_TG_inbox : MethodName × ByteArray × Nat × Option FieldType := (⟨"TagGuide", "inbox", "()I"⟩, prog_1_method_10_code, 1, some .int)
abbrev M_TG_length : MethodName × ByteArray × Nat × Option FieldType := (⟨"TagGuide", "length", "()I"⟩, prog_1_method_11_code, 1, some .int)
abbrev M_TG_character : MethodName × ByteArray × Nat × Option FieldType := (⟨"TagGuide", "character", "(I)I"⟩, prog_1_method_12_code, 2, some .int)
abbrev M_TG_element : MethodName × ByteArray × Nat × Option FieldType := (⟨"TagGuide", "element", "(II)I"⟩, prog_1_method_13_code, 3, some .int)
abbrev M_El_tell : MethodName × ByteArray × Nat × Option FieldType := (⟨"TagGuide$Element", "tell", "(I)I"⟩, prog_4_method_6_code, 2, some .int)
abbrev M_TG_fault : MethodName × ByteArray × Nat × Option FieldType := (⟨"TagGuide", "fault", "(II)I"⟩, prog_1_method_14_code, 3, some .int)
abbrev M_Fa_tell : MethodName × ByteArray × Nat × Option FieldType := (⟨"TagGuide$Faults", "tell", "(II)I"⟩, prog_5_method_6_code, 3, some .int)
abbrev M_TG_fertile : MethodName × ByteArray × Nat × Option FieldType := (⟨"TagGuide", "fertile", "()I"⟩, prog_1_method_15_code, 1, some .int)
abbrev M_TG_formed : MethodName × ByteArray × Nat × Option FieldType := (⟨"TagGuide", "formed", "(I)I"⟩, prog_1_method_16_code, 2, some .int)
abbrev M_Fo_at : MethodName × ByteArray × Nat × Option FieldType := (⟨"TagGuide$Former", "at", "(I)I"⟩, prog_6_method_2_code, 2, some .int)
abbrev M_RF_init : MethodName × ByteArray × Nat × Option FieldType := (⟨"TagGuideModel", "<init>", "()V"⟩, prog_14_method_1_code, 1, none)
abbrev M_RF_write : MethodName × ByteArray × Nat × Option FieldType := (⟨"TagGuideModel", "write", "(C)Z"⟩, prog_14_method_3_code, 2, some .boolean)
abbrev M_RF_define : MethodName × ByteArray × Nat × Option FieldType := (⟨"TagGuideModel", "define", "(C)I"⟩, prog_14_method_14_code, 3, some .int)
abbrev M_RF_takeDraft : MethodName × ByteArray × Nat × Option FieldType := (⟨"TagGuideModel", "takeDraft", "(C)I"⟩, prog_14_method_13_code, 6, some .int)
abbrev M_RF_isName : MethodName × ByteArray × Nat × Option FieldType := (⟨"TagGuideModel", "isName", "(I)Z"⟩, prog_14_method_2_code, 1, some .boolean)
abbrev M_RF_count : MethodName × ByteArray × Nat × Option FieldType := (⟨"TagGuideModel", "count", "(Z)I"⟩, prog_14_method_12_code, 4, some .int)
abbrev M_RF_at : MethodName × ByteArray × Nat × Option FieldType := (⟨"TagGuideModel", "at", "(I)I"⟩, prog_14_method_4_code, 2, some .int)
abbrev M_RF_readNothing : MethodName × ByteArray × Nat × Option FieldType := (⟨"TagGuideModel", "readNothing", "()V"⟩, prog_14_method_11_code, 1, none)
abbrev M_RF_isExpression : MethodName × ByteArray × Nat × Option FieldType := (⟨"TagGuideModel", "isExpression", "(I)Z"⟩, prog_14_method_5_code, 7, some .boolean)
abbrev M_RF_readExpression : MethodName × ByteArray × Nat × Option FieldType := (⟨"TagGuideModel", "readExpression", "(I)V"⟩, prog_14_method_10_code, 11, none)
abbrev M_RF_setPart : MethodName × ByteArray × Nat × Option FieldType := (⟨"TagGuideModel", "setPart", "(IZIIZ)V"⟩, prog_14_method_7_code, 6, none)
abbrev M_RF_choose : MethodName × ByteArray × Nat × Option FieldType := (⟨"TagGuideModel", "choose", "(I)V"⟩, prog_14_method_9_code, 8, none)
abbrev M_RF_link : MethodName × ByteArray × Nat × Option FieldType := (⟨"TagGuideModel", "link", "(II)V"⟩, prog_14_method_6_code, 4, none)
abbrev M_RF_append : MethodName × ByteArray × Nat × Option FieldType := (⟨"TagGuideModel", "append", "(IIIZ)V"⟩, prog_14_method_8_code, 7, none)
abbrev M_RF_fertile : MethodName × ByteArray × Nat × Option FieldType := (⟨"TagGuideModel", "fertile", "()I"⟩, prog_14_method_19_code, 4, some .int)
abbrev M_RF_steps : MethodName × ByteArray × Nat × Option FieldType := (⟨"TagGuideModel", "steps", "(III)I"⟩, prog_14_method_18_code, 6, some .int)
abbrev M_RF_step : MethodName × ByteArray × Nat × Option FieldType := (⟨"TagGuideModel", "step", "(III)I"⟩, prog_14_method_16_code, 6, some .int)
abbrev M_RF_next : MethodName × ByteArray × Nat × Option FieldType := (⟨"TagGuideModel", "next", "(II)I"⟩, prog_14_method_15_code, 5, some .int)
abbrev M_RF_accepts : MethodName × ByteArray × Nat × Option FieldType := (⟨"TagGuideModel", "accepts", "(II)Z"⟩, prog_14_method_17_code, 3, some .boolean)
abbrev M_RF_insert : MethodName × ByteArray × Nat × Option FieldType := (⟨"TagGuideModel", "insert", "(IC)Z"⟩, prog_14_method_46_code, 3, some .boolean)
abbrev M_RF_post : MethodName × ByteArray × Nat × Option FieldType := (⟨"TagGuideModel", "post", "(IIIII)V"⟩, prog_14_method_45_code, 6, none)
abbrev M_RF_erase : MethodName × ByteArray × Nat × Option FieldType := (⟨"TagGuideModel", "erase", "(II)Z"⟩, prog_14_method_47_code, 3, some .boolean)
abbrev M_RF_ask : MethodName × ByteArray × Nat × Option FieldType := (⟨"TagGuideModel", "ask", "(IIC)I"⟩, prog_14_method_48_code, 4, some .int)
abbrev M_RF_cancel : MethodName × ByteArray × Nat × Option FieldType := (⟨"TagGuideModel", "cancel", "(I)Z"⟩, prog_14_method_51_code, 3, some .boolean)
abbrev M_RF_waitsAt : MethodName × ByteArray × Nat × Option FieldType := (⟨"TagGuideModel", "waitsAt", "(I)I"⟩, prog_14_method_50_code, 3, some .int)
abbrev M_RF_strike : MethodName × ByteArray × Nat × Option FieldType := (⟨"TagGuideModel", "strike", "(I)V"⟩, prog_14_method_49_code, 3, none)
abbrev M_RF_work : MethodName × ByteArray × Nat × Option FieldType := (⟨"TagGuideModel", "work", "()I"⟩, prog_14_method_55_code, 6, some .int)
abbrev M_RF_insertNow : MethodName × ByteArray × Nat × Option FieldType := (⟨"TagGuideModel", "insertNow", "(II)V"⟩, prog_14_method_52_code, 4, none)
abbrev M_RF_eraseNow : MethodName × ByteArray × Nat × Option FieldType := (⟨"TagGuideModel", "eraseNow", "(II)V"⟩, prog_14_method_53_code, 4, none)
abbrev M_RF_respond : MethodName × ByteArray × Nat × Option FieldType := (⟨"TagGuideModel", "respond", "(III)I"⟩, prog_14_method_54_code, 4, some .int)
abbrev M_RF_analyse : MethodName × ByteArray × Nat × Option FieldType := (⟨"TagGuideModel", "analyse", "()V"⟩, prog_14_method_30_code, 8, none)
abbrev M_RF_newElement : MethodName × ByteArray × Nat × Option FieldType := (⟨"TagGuideModel", "newElement", "(IIII)I"⟩, prog_14_method_23_code, 5, some .int)
abbrev M_RF_charAt : MethodName × ByteArray × Nat × Option FieldType := (⟨"TagGuideModel", "charAt", "(I)I"⟩, prog_14_method_20_code, 2, some .int)
abbrev M_RF_mark : MethodName × ByteArray × Nat × Option FieldType := (⟨"TagGuideModel", "mark", "(III)V"⟩, prog_14_method_22_code, 5, none)
abbrev M_RF_takeStart : MethodName × ByteArray × Nat × Option FieldType := (⟨"TagGuideModel", "takeStart", "(IZ)V"⟩, prog_14_method_28_code, 5, none)
abbrev M_RF_openElements : MethodName × ByteArray × Nat × Option FieldType := (⟨"TagGuideModel", "openElements", "()I"⟩, prog_14_method_25_code, 3, some .int)
abbrev M_RF_addFault : MethodName × ByteArray × Nat × Option FieldType := (⟨"TagGuideModel", "addFault", "(II)V"⟩, prog_14_method_21_code, 4, none)
abbrev M_RF_current : MethodName × ByteArray × Nat × Option FieldType := (⟨"TagGuideModel", "current", "()I"⟩, prog_14_method_24_code, 2, some .int)
abbrev M_RF_takeEnd : MethodName × ByteArray × Nat × Option FieldType := (⟨"TagGuideModel", "takeEnd", "(I)V"⟩, prog_14_method_27_code, 4, none)
abbrev M_RF_closeBare : MethodName × ByteArray × Nat × Option FieldType := (⟨"TagGuideModel", "closeBare", "(II)V"⟩, prog_14_method_26_code, 3, none)
abbrev M_RF_takeCharacter : MethodName × ByteArray × Nat × Option FieldType := (⟨"TagGuideModel", "takeCharacter", "(I)V"⟩, prog_14_method_29_code, 4, none)
abbrev M_RF_judge : MethodName × ByteArray × Nat × Option FieldType := (⟨"TagGuideModel", "judge", "(I)V"⟩, prog_14_method_33_code, 5, none)
abbrev M_RF_modelOf : MethodName × ByteArray × Nat × Option FieldType := (⟨"TagGuideModel", "modelOf", "(I)I"⟩, prog_14_method_31_code, 2, some .int)
abbrev M_RF_offer : MethodName × ByteArray × Nat × Option FieldType := (⟨"TagGuideModel", "offer", "(I)I"⟩, prog_14_method_34_code, 10, some .int)
abbrev M_RF_isBit : MethodName × ByteArray × Nat × Option FieldType := (⟨"TagGuideModel", "isBit", "(II)Z"⟩, prog_14_method_32_code, 3, some .boolean)
abbrev M_RF_rename : MethodName × ByteArray × Nat × Option FieldType := (⟨"TagGuideModel", "rename", "(II)I"⟩, prog_14_method_35_code, 4, some .int)
abbrev M_RF_makeForm : MethodName × ByteArray × Nat × Option FieldType := (⟨"TagGuideModel", "makeForm", "()I"⟩, prog_14_method_44_code, 3, some .int)
abbrev M_RF_loose : MethodName × ByteArray × Nat × Option FieldType := (⟨"TagGuideModel", "loose", "(I)Z"⟩, prog_14_method_36_code, 5, some .boolean)
abbrev M_RF_putText : MethodName × ByteArray × Nat × Option FieldType := (⟨"TagGuideModel", "putText", "(II)V"⟩, prog_14_method_39_code, 4, none)
abbrev M_RF_put : MethodName × ByteArray × Nat × Option FieldType := (⟨"TagGuideModel", "put", "(I)V"⟩, prog_14_method_38_code, 2, none)
abbrev M_RF_laid : MethodName × ByteArray × Nat × Option FieldType := (⟨"TagGuideModel", "laid", "(I)Z"⟩, prog_14_method_41_code, 4, some .boolean)
abbrev M_RF_endLines : MethodName × ByteArray × Nat × Option FieldType := (⟨"TagGuideModel", "endLines", "(II)V"⟩, prog_14_method_43_code, 4, none)
abbrev M_RF_within : MethodName × ByteArray × Nat × Option FieldType := (⟨"TagGuideModel", "within", "(II)Z"⟩, prog_14_method_42_code, 4, some .boolean)
abbrev M_RF_depthOf : MethodName × ByteArray × Nat × Option FieldType := (⟨"TagGuideModel", "depthOf", "(I)I"⟩, prog_14_method_37_code, 4, some .int)
abbrev M_RF_putLine : MethodName × ByteArray × Nat × Option FieldType := (⟨"TagGuideModel", "putLine", "(I)V"⟩, prog_14_method_40_code, 3, none)
abbrev M_RF_answer : MethodName × ByteArray × Nat × Option FieldType := (⟨"TagGuideModel", "answer", "(I)I"⟩, prog_14_method_56_code, 3, some .int)
abbrev M_RF_inbox : MethodName × ByteArray × Nat × Option FieldType := (⟨"TagGuideModel", "inbox", "()I"⟩, prog_14_method_57_code, 1, some .int)
abbrev M_RF_length : MethodName × ByteArray × Nat × Option FieldType := (⟨"TagGuideModel", "length", "()I"⟩, prog_14_method_58_code, 1, some .int)
abbrev M_RF_character : MethodName × ByteArray × Nat × Option FieldType := (⟨"TagGuideModel", "character", "(I)I"⟩, prog_14_method_59_code, 2, some .int)
abbrev M_RF_element : MethodName × ByteArray × Nat × Option FieldType := (⟨"TagGuideModel", "element", "(II)I"⟩, prog_14_method_60_code, 5, some .int)
abbrev M_RF_fault : MethodName × ByteArray × Nat × Option FieldType := (⟨"TagGuideModel", "fault", "(II)I"⟩, prog_14_method_61_code, 3, some .int)
abbrev M_RF_formed : MethodName × ByteArray × Nat × Option FieldType := (⟨"TagGuideModel", "formed", "(I)I"⟩, prog_14_method_62_code, 2, some .int)
end
section
/-! One judgement for a frame: EX. A pure heap is (n, sh, ln, iv, rv): n cells, each an object of class number ci (.inl ci) or an array of kind t (.inr t) of length ln; its numbers iv, its references rv (by the cells' numbers). The cells lie at G.1, G.1 + 1, ..: nothing else is made. -/
abbrev ex_H : Type := Nat × (Nat → Nat ⊕ Nat) × (Nat → Nat) × (Nat → Nat → Int32) × (Nat → Nat → Option Nat)
abbrev ex_G : Type := Nat × va_G × (Nat → ClassId)
abbrev ex_M : Type := MethodName × ByteArray × Nat × Option FieldType
def ex_u2 {α : Type} (F : Nat → Nat → α) (a k : Nat) (v : α) : Nat → Nat → α := fun i j => if i = a ∧ j = k then v else F i j
theorem ex_u2_row {α : Type} (F : Nat → Nat → α) (a k : Nat) (v : α) : ex_u2 F a k v a = va_up (F a) k v := by
  funext j
  simp [ex_u2, va_up]
theorem ex_u2_ne {α : Type} (F : Nat → Nat → α) {a i : Nat} (k : Nat) (v : α) (h : i ≠ a) : ex_u2 F a k v i = F i := by
  funext j
  simp [ex_u2, h]
def ex_si (h : ex_H) (a k : Nat) (x : Int32) : ex_H := (h.1, h.2.1, h.2.2.1, ex_u2 h.2.2.2.1 a k x, h.2.2.2.2)
def ex_sr (h : ex_H) (a k : Nat) (x : Option Nat) : ex_H := (h.1, h.2.1, h.2.2.1, h.2.2.2.1, ex_u2 h.2.2.2.2 a k x)
def ex_sa (h : ex_H) (a : Nat) (f : Nat → Int32) : ex_H := (h.1, h.2.1, h.2.2.1, va_up h.2.2.2.1 a f, h.2.2.2.2)
def ex_no (h : ex_H) (ci : Nat) : ex_H := (h.1 + 1, va_up h.2.1 h.1 (.inl ci), h.2.2.1, va_up h.2.2.2.1 h.1 (fun _ => 0), va_up h.2.2.2.2 h.1 (fun _ => none))
def ex_na (h : ex_H) (t n : Nat) : ex_H := (h.1 + 1, va_up h.2.1 h.1 (.inr t), va_up h.2.2.1 h.1 n, va_up h.2.2.2.1 h.1 (fun _ => 0), va_up h.2.2.2.2 h.1 (fun _ => none))
/-- a value of the pure heap in the machine: a cell's number becomes its address; .retAddr stands for a reference to a cell outside (the law's script) -/
def ex_v (b : Nat) (v : Value) : Value := match v with
  | .ref i => .ref (b + i)
  | .retAddr q => .ref q
  | w => w
theorem ex_v_cat (b : Nat) (v : Value) : (ex_v b v).category = v.category := by cases v <;> rfl
def ex_fs (b : Nat) (ks : List Bool) (I : Nat → Int32) (R : Nat → Option Nat) : List Value := (List.range ks.length).map fun k => if ks.getD k false = true then va_rf ((R k).map (b + ·)) else .int (I k)
theorem ex_fs_at {b : Nat} {ks : List Bool} {I : Nat → Int32} {R : Nat → Option Nat} {k : Nat} (hk : k < ks.length) : (ex_fs b ks I R)[k]? = some (if ks.getD k false = true then va_rf ((R k).map (b + ·)) else .int (I k)) := by
  rw [ex_fs, List.getElem?_map, List.getElem?_range hk]
  rfl
theorem ex_fs_len {b : Nat} {ks : List Bool} {I : Nat → Int32} {R : Nat → Option Nat} : (ex_fs b ks I R).length = ks.length := by simp [ex_fs]
theorem ex_fs_set {b : Nat} {ks : List Bool} {I I' : Nat → Int32} {R R' : Nat → Option Nat} {k : Nat} {v : Value} (hk : k < ks.length) (hv : (if ks.getD k false = true then va_rf ((R' k).map (b + ·)) else .int (I' k)) = v) (ho : ∀ j, j ≠ k → I' j = I j ∧ R' j = R j) : (ex_fs b ks I R).set k v = ex_fs b ks I' R' := by
  apply List.ext_getElem?
  intro j
  rw [List.getElem?_set]
  by_cases hj : j < ks.length
  · rw [ex_fs_at (I := I') (R := R') hj]
    by_cases e : k = j
    · subst e
      rw [if_pos rfl, if_pos (by rw [ex_fs_len]; exact hk), hv]
    · rw [if_neg e, ex_fs_at hj, (ho j (Ne.symm e)).1, (ho j (Ne.symm e)).2]
  · have e : k ≠ j := by omega
    rw [if_neg e, List.getElem?_eq_none (by rw [ex_fs_len]; omega), List.getElem?_eq_none (by rw [ex_fs_len]; omega)]
def ex_cell (G : ex_G) (h : ex_H) (a : Nat) : va_E := match h.2.1 a with
  | .inl ci => .inr (ci, ex_fs G.1 (exFk ci) (h.2.2.2.1 a) (h.2.2.2.2 a))
  | .inr t => .inl (G.2.2 t, h.2.2.1 a, if exRk t = true then .inr (.inr (.inr (.inr (fun j => (h.2.2.2.2 a j).map (G.1 + ·))))) else .inl (h.2.2.2.1 a))
theorem ex_cell_o {G : ex_G} {h : ex_H} {a ci : Nat} (hs : h.2.1 a = .inl ci) : ex_cell G h a = .inr (ci, ex_fs G.1 (exFk ci) (h.2.2.2.1 a) (h.2.2.2.2 a)) := by
  unfold ex_cell
  rw [hs]
theorem ex_cell_i {G : ex_G} {h : ex_H} {a t : Nat} (hs : h.2.1 a = .inr t) (hr : exRk t = false) : ex_cell G h a = .inl (G.2.2 t, h.2.2.1 a, .inl (h.2.2.2.1 a)) := by
  unfold ex_cell
  rw [hs]
  simp [hr]
theorem ex_cell_q {G : ex_G} {h : ex_H} {a t : Nat} (hs : h.2.1 a = .inr t) (hr : exRk t = true) : ex_cell G h a = .inl (G.2.2 t, h.2.2.1 a, .inr (.inr (.inr (.inr (fun j => (h.2.2.2.2 a j).map (G.1 + ·)))))) := by
  unfold ex_cell
  rw [hs]
  simp [hr]
theorem ex_cell_c {G : ex_G} {h h' : ex_H} {j : Nat} (h1 : h'.2.1 j = h.2.1 j) (h2 : h'.2.2.1 j = h.2.2.1 j) (h3 : h'.2.2.2.1 j = h.2.2.2.1 j) (h4 : h'.2.2.2.2 j = h.2.2.2.2 j) : ex_cell G h' j = ex_cell G h j := by
  unfold ex_cell
  rw [h1, h2, h3, h4]
def ex_w (G : ex_G) (h : ex_H) : va_W := (List.range h.1).map fun a => (G.1 + a, ex_cell G h a)
theorem ex_w_at {G : ex_G} {h : ex_H} {a : Nat} (ha : a < h.1) : (ex_w G h)[a]? = some (G.1 + a, ex_cell G h a) := by
  rw [ex_w, List.getElem?_map, List.getElem?_range ha]
  rfl
theorem ex_w_len {G : ex_G} {h : ex_H} : (ex_w G h).length = h.1 := by simp [ex_w]
theorem ex_w_of {G : ex_G} {h : ex_H} {k : Nat} {q : Nat × va_E} (hq : (ex_w G h)[k]? = some q) : k < h.1 ∧ q = (G.1 + k, ex_cell G h k) := by
  have hk : k < h.1 := by
    have h1 := (List.getElem?_eq_some_iff.mp hq).1
    rw [ex_w_len] at h1
    exact h1
  rw [ex_w_at hk] at hq
  exact ⟨hk, (Option.some.inj hq).symm⟩
theorem ex_D (G : ex_G) (h : ex_H) : va_D (fun q => G.1 ≤ q) (ex_w G h) := by
  refine ⟨fun i j x y hp hq e => ?_, fun k q hq => ?_⟩
  · obtain ⟨-, rfl⟩ := ex_w_of hp
    obtain ⟨-, rfl⟩ := ex_w_of hq
    have e' : G.1 + i = G.1 + j := e
    omega
  · obtain ⟨-, rfl⟩ := ex_w_of hq
    exact Nat.le_add_right _ _
theorem ex_w_set {G : ex_G} {h h' : ex_H} {a : Nat} {E : va_E} (ha : a < h.1) (hn : h'.1 = h.1) (he : ex_cell G h' a = E) (ho : ∀ j, j ≠ a → ex_cell G h' j = ex_cell G h j) : (ex_w G h).set a (G.1 + a, E) = ex_w G h' := by
  apply List.ext_getElem?
  intro k
  rw [List.getElem?_set]
  by_cases hk : k < h.1
  · rw [ex_w_at (h := h') (by rw [hn]; exact hk)]
    by_cases e : a = k
    · subst e
      rw [if_pos rfl, if_pos (by rw [ex_w_len]; exact ha), he]
    · rw [if_neg e, ex_w_at hk, ho k (Ne.symm e)]
  · have e : a ≠ k := by omega
    rw [if_neg e, List.getElem?_eq_none (by rw [ex_w_len]; omega), List.getElem?_eq_none (by rw [ex_w_len, hn]; omega)]
theorem ex_w_push {G : ex_G} {h h' : ex_H} (hn : h'.1 = h.1 + 1) (ho : ∀ j, j < h.1 → ex_cell G h' j = ex_cell G h j) : ex_w G h ++ [(G.1 + h.1, ex_cell G h' h.1)] = ex_w G h' := by
  unfold ex_w
  rw [hn, List.range_succ, List.map_append]
  congr 1
  exact List.map_congr_left (fun j hj => by rw [ho j (List.mem_range.mp hj)])
def ex_ty (G : ex_G) : List (ClassId × FieldType) := (List.range exTy.length).map fun t => (G.2.2 t, exTy.getD t .int)
theorem ex_ty_at {G : ex_G} {t : Nat} {ty : FieldType} (ht : exTy[t]? = some ty) : (ex_ty G)[t]? = some (G.2.2 t, ty) := by
  rw [ex_ty, List.getElem?_map, List.getElem?_range (List.getElem?_eq_some_iff.mp ht).1, Option.map_some, List.getD_eq_getElem?_getD, ht]
  rfl
/-- what is known of the tables -/
def ex_K (G : ex_G) (U : State) : Prop := va_K G.2.1 exCl (ex_ty G) U ∧ (∀ w ∈ exNW, va_Nw w U) ∧ ∀ C ∈ exAO, va_AO C U
theorem ex_nest_warm {w : Cond} (hw : ex_nest w = true) {s U : State} (hW : s.WarmedH U.vm) (h : va_Nw w s) : va_Nw w U := by
  cases w <;> first | exact va_Nw.warmF hW h | exact va_Nw.warmM hW h | (simp [ex_nest] at hw; done)
theorem ex_nest_on {w : Cond} (hw : ex_nest w = true) : w.onTables = true := by
  cases w <;> first | rfl | (simp [ex_nest] at hw; done)
theorem ex_K.warm {G : ex_G} {s U : State} (hW : s.WarmedH U.vm) (h : ex_K G s) : ex_K G U :=
  ⟨va_K.moved hW.alike h.1, fun w hw => ex_nest_warm (exNW_nest w hw) hW (h.2.1 w hw), fun C hC => va_AO.moved hW.alike (h.2.2 C hC)⟩
theorem ex_K.same {G : ex_G} {s U : State} (hv : s.vm = U.vm) (h : ex_K G s) : ex_K G U :=
  ⟨va_K.moved (by rw [hv]; exact Vm.Alike.refl _) h.1, fun w hw => va_Nw.same (ex_nest_on (exNW_nest w hw)) hv (h.2.1 w hw), fun C hC => va_AO.moved (by rw [hv]; exact Vm.Alike.refl _) (h.2.2 C hC)⟩
def ex_P (G : ex_G) (h : ex_H) (U : State) : Prop := va_P G.2.1 exCl (ex_w G h) U.heap ∧ U.heap.size = G.1 + h.1 ∧ ex_K G U
def ex_Q (G : ex_G) (mc : Nat) (Post : Option Value → ex_H → Prop) : Array Value → State → Outcome → State → Prop := fun _ st oc t => (∃ (r : Option Value) (h' : ex_H), oc = .returned (r.map (ex_v G.1)) ∧ Post r h' ∧ ex_P G h' t ∧ st.heap.size + mc = G.1 + h'.1) ∧ va_F (fun q => G.1 ≤ q) st t
abbrev ex_rm (d mc ms : Nat) : Room := { frames := d, cells := mc, slots := ms, locals := 64 * d }
/-- method M at depth d, on these arguments and this heap, returns with Post of its answer and its heap; mc cells of at most ms slots are new -/
def CT (l : Launch) (G : ex_G) (d : Nat) (M : ex_M) (as : List Value) (h : ex_H) (mc ms : Nat) (Post : Option Value → ex_H → Prop) : Prop :=
  Met l M.1 (.code M.1 M.2.1 M.2.2.1 M.2.2.2 :: exTW) (ex_rm d mc ms) (va_Pc (as.map (ex_v G.1)) (ex_P G h)) (ex_Q G mc Post) mc ms (fun q => G.1 ≤ q)
/-- the room has place for a callee of depth d' -/
def ex_lt (R : Room) (d' : Nat) : Prop := d' + 1 ≤ R.frames ∧ 64 * d' + 64 ≤ R.locals
theorem ex_lt_rm {d d' mc ms : Nat} (h : d' < d) : ex_lt (ex_rm d mc ms) d' := ⟨h, by show 64 * d' + 64 ≤ 64 * d; omega⟩
def ex_has (b nL : Nat) (ls : Array Slot) (L : List (Option Value)) : Prop := ls.size = nL ∧ lv_wf ls ∧ ∀ (i : Nat) (v : Value), L[i]? = some (some v) → v.category = 1 ∧ ls[i]? = some (.val (ex_v b v))
def ex_lv (b : Nat) (L : List (Option Value)) : List (Nat × Value) := (List.range L.length).filterMap fun i => (L[i]?.getD none).map fun v => (i, ex_v b v)
theorem ex_lv_in {b i : Nat} {L : List (Option Value)} {v : Value} (h : L[i]? = some (some v)) : (i, ex_v b v) ∈ ex_lv b L := by
  refine List.mem_filterMap.mpr ⟨i, List.mem_range.mpr (List.getElem?_eq_some_iff.mp h).1, ?_⟩
  rw [h]
  rfl
theorem ex_lv_of {b : Nat} {L : List (Option Value)} {q : Nat × Value} (h : q ∈ ex_lv b L) : ∃ v, L[q.1]? = some (some v) ∧ q.2 = ex_v b v := by
  obtain ⟨i, hi, he⟩ := List.mem_filterMap.mp h
  cases hL : L[i]? with
  | none =>
    rw [hL] at he
    cases he
  | some o =>
    cases o with
    | none =>
      rw [hL] at he
      cases he
    | some v =>
      rw [hL] at he
      cases he
      exact ⟨v, hL, rfl⟩
theorem ex_has_lv {b nL : Nat} {ls : Array Slot} {L : List (Option Value)} (h : ex_has b nL ls L) : lv_has ls nL (ex_lv b L) := ⟨h.1, h.2.1, fun q hq => by
  obtain ⟨v, h1, h2⟩ := ex_lv_of hq
  rw [h2]
  exact (h.2.2 q.1 v h1).2⟩
theorem ex_has_set {b nL i : Nat} {ls ls' : Array Slot} {L : List (Option Value)} {v : Value} (h : ex_has b nL ls L) (hc : v.category = 1) (h' : lv_has ls' nL ((i, ex_v b v) :: (ex_lv b L).filter (fun q => !(q.1 == i) && !(q.1 + 1 == i && q.2.category == 2)))) : ex_has b nL ls' (L.set i (some v)) := by
  refine ⟨h'.1, h'.2.1, fun j w hj => ?_⟩
  rw [List.getElem?_set] at hj
  by_cases e : i = j
  · subst e
    rw [if_pos rfl] at hj
    split at hj
    · cases hj
      exact ⟨hc, h'.2.2 _ List.mem_cons_self⟩
    · cases hj
  · rw [if_neg e] at hj
    have h1 := (h.2.2 j w hj).1
    refine ⟨h1, h'.2.2 (j, ex_v b w) (List.mem_cons_of_mem _ (List.mem_filter.mpr ⟨ex_lv_in hj, ?_⟩))⟩
    simp [Ne.symm e, ex_v_cat, h1]
theorem ex_has_none {b nL i : Nat} {ls : Array Slot} {L : List (Option Value)} (h : ex_has b nL ls L) : ex_has b nL ls (L.set i none) := by
  refine ⟨h.1, h.2.1, fun j w hj => ?_⟩
  rw [List.getElem?_set] at hj
  by_cases e : i = j
  · subst e
    rw [if_pos rfl] at hj
    split at hj
    · cases hj
    · cases hj
  · rw [if_neg e] at hj
    exact h.2.2 j w hj
theorem ex_args_in (vs : List Value) : ∀ (j i : Nat) (v : Value), (∀ w ∈ vs, w.category = 1) → vs[i]? = some v → (j + i, v) ∈ lv_args j vs := by
  induction vs with
  | nil => intro j i v _ h; cases h
  | cons w ws ih =>
    intro j i v hc h
    have hw : w.category = 1 := hc w List.mem_cons_self
    cases i with
    | zero =>
      cases h
      exact List.mem_cons_self
    | succ i =>
      have h2 := ih (j + 1) i v (fun x hx => hc x (List.mem_cons_of_mem _ hx)) (by simpa using h)
      have e : j + (i + 1) = j + 1 + i := by omega
      rw [e]
      show (j + 1 + i, v) ∈ (j, w) :: lv_args (if w.category = 2 then j + 2 else j + 1) ws
      rw [hw]
      exact List.mem_cons_of_mem _ h2
theorem ex_sl (vs : List Value) (hc : ∀ w ∈ vs, w.category = 1) : (lg_sl vs).length = vs.length := by
  induction vs with
  | nil => rfl
  | cons w ws ih =>
    have hw : w.category = 1 := hc w List.mem_cons_self
    have h2 := ih (fun x hx => hc x (List.mem_cons_of_mem _ hx))
    show ((if w.category = 2 then [Slot.val w, .second] else [.val w]) ++ lg_sl ws).length = _
    rw [hw]
    simp [h2]
def ex_as (as : List Value) (n : Nat) : List (Option Value) := as.map some ++ List.replicate (n - as.length) none

section EXR
variable {p : Program} {l : Launch} {e : Env} {s : State} {m : MethodId} {args : Array Value} {below : List Frame} {meth : Method} {c : Code} {M : ex_M} {G : ex_G} {R : Room} {Q : State → Prop} {d mc ms cells slots pc : Nat} {Post : Option Value → ex_H → Prop} {L : List (Option Value)} {st : List Value} {h : ex_H}

def ex_ok (M : ex_M) (G : ex_G) (p : Program) (s : State) (m : MethodId) (args : Array Value) (meth : Method) (c : Code) : Prop :=
  p.tables.exec = Jvm.exec ∧ c.code = M.2.1 ∧ c.maxLocals = M.2.2.1 ∧ s.vm.findClass M.1.cls = some m.cls ∧ (∀ w ∈ exTW, w.before args s = true) ∧ meth.locks = false ∧ meth.name = M.1.name ∧ meth.sig.returnType = M.2.2.2 ∧ ex_K G s ∧ G.1 ≤ s.heap.size
def EX (M : ex_M) (l : Launch) (G : ex_G) (R : Room) (Q : State → Prop) (p : Program) (e : Env) (s : State) (m : MethodId) (args : Array Value) (below : List Frame) (meth : Method) (c : Code) (cells slots pc : Nat) (L : List (Option Value)) (st : List Value) (h : ex_H) : Prop :=
  ex_ok M G p s m args meth c → ∀ (H : Heap) (ls : Array Slot) (locs : List Loc), ex_has G.1 M.2.2.1 ls L → va_P G.2.1 exCl (ex_w G h) H → s.heap.size + cells = G.1 + h.1 → va_S (fun q => G.1 ≤ q) s.heap H locs →
    W p l e R s m args below meth c H locs cells slots Q (F0 m pc ls (st.map (ex_v G.1)))
theorem ex_size {H : Heap} {locs : List Loc} {g : JFrame} (k : H.size ≤ s.heap.size + cells → W p l e R s m args below meth c H locs cells slots Q g) : W p l e R s m args below meth c H locs cells slots Q g := by
  intro T hT X
  exact k (by rw [← hT]; exact X.same.2.2.1) T hT X
theorem ex_low {H : Heap} {locs : List Loc} (hP : va_P G.2.1 exCl (ex_w G h) H) (hS : va_S (fun q => G.1 ≤ q) s.heap H locs) (hb : G.1 ≤ s.heap.size) : G.1 + h.1 ≤ H.size := by
  cases hn : h.1 with
  | zero => exact Nat.le_trans hb hS.1
  | succ n =>
    have h1 := (hP n _ (ex_w_at (h := h) (by omega))).lt
    have h2 : G.1 + n < H.size := h1
    omega
theorem ex_enter {as : List Value} (hy : plainName M.1.cls = true) (hn : as.length ≤ M.2.2.1) (hc : ∀ v ∈ as, v.category = 1)
    (k : ∀ (p : Program) (e : Env) (s : State) (m : MethodId) (args : Array Value) (below : List Frame) (meth : Method) (c : Code), EX M l G (ex_rm d mc ms) (MQ below (ex_Q G mc Post) args s mc ms (fun q => G.1 ≤ q)) p e s m args below meth c 0 0 0 (ex_as as M.2.2.1) [] h) : CT l G d M as h mc ms Post := by
  refine Met.ofW (cc := M.2.1) (maxL := M.2.2.1) (ret := M.2.2.2) hy rfl ?_
  intro p e s m args below meth c s₁ B hml hv
  obtain ⟨rfl, hP, hz, hK⟩ := hv
  have hts := atoms_spec B.pre
  have hown : s.vm.findClass M.1.cls = some m.cls := findClass_of_methodNamed B.named
  have hin : meth.name = M.1.name := (name_of_methodNamed B.named B.method).1
  have hc' : ∀ w ∈ as.map (ex_v G.1), w.category = 1 := by
    intro w hw
    obtain ⟨v, hv, rfl⟩ := List.mem_map.mp hw
    rw [ex_v_cat]
    exact hc v hv
  rw [lg_entry_eq]
  have hl := lv_entry (as.map (ex_v G.1)) (n := M.2.2.1) (by rw [ex_sl _ hc', List.length_map]; exact hn)
  refine k p e s m _ below meth c ⟨B.exec, B.bytes, hml, hown, fun w hw => hts w (List.mem_cons_of_mem _ hw), B.notSynchronized, hin, B.returns, hK, by omega⟩ s.heap _ [] ⟨hl.1, hl.2.1, fun i v hi => ?_⟩ hP (by omega) va_S.rf
  by_cases hlt : i < (as.map (some : Value → Option Value)).length
  · rw [ex_as, List.getElem?_append_left hlt, List.getElem?_map] at hi
    cases ha : as[i]? with
    | none => rw [ha] at hi; cases hi
    | some w =>
      rw [ha] at hi
      cases hi
      refine ⟨hc _ (List.mem_of_getElem? ha), ?_⟩
      have h3 := hl.2.2 _ (ex_args_in (as.map (ex_v G.1)) 0 i (ex_v G.1 v) hc' (by rw [List.getElem?_map, ha]; rfl))
      rw [Nat.zero_add] at h3
      exact h3
  · rw [ex_as, List.getElem?_append_right (by omega), List.getElem?_replicate] at hi
    split at hi
    · cases hi
    · cases hi

theorem ex_iconst {n : Int} {v : Int32} (hd : decode M.2.1 pc = .ok (.iconst n, 1)) (hv : Int32.ofInt n = v) (k : EX M l G R Q p e s m args below meth c cells slots (pc + 1) L (.int v :: st) h) : EX M l G R Q p e s m args below meth c cells slots pc L st h :=
  fun hg H ls locs hl hP hn hS => lv_iconst hg.1 hg.2.1 hd hv (k hg H ls locs hl hP hn hS)
theorem ex_bipush {n : Int} {v : Int32} (hd : decode M.2.1 pc = .ok (.bipush n, 2)) (hv : (Int8.ofInt n).toInt32 = v) (k : EX M l G R Q p e s m args below meth c cells slots (pc + 2) L (.int v :: st) h) : EX M l G R Q p e s m args below meth c cells slots pc L st h :=
  fun hg H ls locs hl hP hn hS => lv_bipush hg.1 hg.2.1 hd hv (k hg H ls locs hl hP hn hS)
theorem ex_sipush {n : Int} {v : Int32} (hd : decode M.2.1 pc = .ok (.sipush n, 3)) (hv : (Int16.ofInt n).toInt32 = v) (k : EX M l G R Q p e s m args below meth c cells slots (pc + 3) L (.int v :: st) h) : EX M l G R Q p e s m args below meth c cells slots pc L st h :=
  fun hg H ls locs hl hP hn hS => lv_sipush hg.1 hg.2.1 hd hv (k hg H ls locs hl hP hn hS)
theorem ex_iadd {x y : Int32} (hd : decode M.2.1 pc = .ok (.iadd, 1)) (k : EX M l G R Q p e s m args below meth c cells slots (pc + 1) L (.int (x + y) :: st) h) : EX M l G R Q p e s m args below meth c cells slots pc L (.int y :: .int x :: st) h :=
  fun hg H ls locs hl hP hn hS => lv_iadd hg.1 hg.2.1 hd (k hg H ls locs hl hP hn hS)
theorem ex_isub {x y : Int32} (hd : decode M.2.1 pc = .ok (.isub, 1)) (k : EX M l G R Q p e s m args below meth c cells slots (pc + 1) L (.int (x - y) :: st) h) : EX M l G R Q p e s m args below meth c cells slots pc L (.int y :: .int x :: st) h :=
  fun hg H ls locs hl hP hn hS => lv_isub hg.1 hg.2.1 hd (k hg H ls locs hl hP hn hS)
theorem ex_imul {x y : Int32} (hd : decode M.2.1 pc = .ok (.imul, 1)) (k : EX M l G R Q p e s m args below meth c cells slots (pc + 1) L (.int (x * y) :: st) h) : EX M l G R Q p e s m args below meth c cells slots pc L (.int y :: .int x :: st) h :=
  fun hg H ls locs hl hP hn hS => lv_imul hg.1 hg.2.1 hd (k hg H ls locs hl hP hn hS)
theorem ex_iand {x y : Int32} (hd : decode M.2.1 pc = .ok (.iand, 1)) (k : EX M l G R Q p e s m args below meth c cells slots (pc + 1) L (.int (x &&& y) :: st) h) : EX M l G R Q p e s m args below meth c cells slots pc L (.int y :: .int x :: st) h :=
  fun hg H ls locs hl hP hn hS => lv_iand hg.1 hg.2.1 hd (k hg H ls locs hl hP hn hS)
theorem ex_ior {x y : Int32} (hd : decode M.2.1 pc = .ok (.ior, 1)) (k : EX M l G R Q p e s m args below meth c cells slots (pc + 1) L (.int (x ||| y) :: st) h) : EX M l G R Q p e s m args below meth c cells slots pc L (.int y :: .int x :: st) h :=
  fun hg H ls locs hl hP hn hS => lv_ior hg.1 hg.2.1 hd (k hg H ls locs hl hP hn hS)
theorem ex_ixor {x y : Int32} (hd : decode M.2.1 pc = .ok (.ixor, 1)) (k : EX M l G R Q p e s m args below meth c cells slots (pc + 1) L (.int (x ^^^ y) :: st) h) : EX M l G R Q p e s m args below meth c cells slots pc L (.int y :: .int x :: st) h :=
  fun hg H ls locs hl hP hn hS => lv_ixor hg.1 hg.2.1 hd (k hg H ls locs hl hP hn hS)
theorem ex_ishl {x y : Int32} (hd : decode M.2.1 pc = .ok (.ishl, 1)) (k : EX M l G R Q p e s m args below meth c cells slots (pc + 1) L (.int (x <<< (y &&& 31)) :: st) h) : EX M l G R Q p e s m args below meth c cells slots pc L (.int y :: .int x :: st) h :=
  fun hg H ls locs hl hP hn hS => lv_ishl hg.1 hg.2.1 hd (k hg H ls locs hl hP hn hS)
theorem ex_ishr {x y : Int32} (hd : decode M.2.1 pc = .ok (.ishr, 1)) (k : EX M l G R Q p e s m args below meth c cells slots (pc + 1) L (.int (x >>> (y &&& 31)) :: st) h) : EX M l G R Q p e s m args below meth c cells slots pc L (.int y :: .int x :: st) h :=
  fun hg H ls locs hl hP hn hS => lv_ishr hg.1 hg.2.1 hd (k hg H ls locs hl hP hn hS)
theorem ex_ineg {x : Int32} (hd : decode M.2.1 pc = .ok (.ineg, 1)) (k : EX M l G R Q p e s m args below meth c cells slots (pc + 1) L (.int (-x) :: st) h) : EX M l G R Q p e s m args below meth c cells slots pc L (.int x :: st) h :=
  fun hg H ls locs hl hP hn hS => lv_ineg hg.1 hg.2.1 hd (k hg H ls locs hl hP hn hS)
theorem ex_idiv {x y : Int32} (hd : decode M.2.1 pc = .ok (.idiv, 1)) (hne : ¬ y = 0) (k : EX M l G R Q p e s m args below meth c cells slots (pc + 1) L (.int (x / y) :: st) h) : EX M l G R Q p e s m args below meth c cells slots pc L (.int y :: .int x :: st) h :=
  fun hg H ls locs hl hP hn hS => lv_idiv hg.1 hg.2.1 hd hne (k hg H ls locs hl hP hn hS)
theorem ex_irem {x y : Int32} (hd : decode M.2.1 pc = .ok (.irem, 1)) (hne : ¬ y = 0) (k : EX M l G R Q p e s m args below meth c cells slots (pc + 1) L (.int (x - x / y * y) :: st) h) : EX M l G R Q p e s m args below meth c cells slots pc L (.int y :: .int x :: st) h :=
  fun hg H ls locs hl hP hn hS => lv_irem hg.1 hg.2.1 hd hne (k hg H ls locs hl hP hn hS)
theorem ex_i2c {x v : Int32} (hd : decode M.2.1 pc = .ok (.i2c, 1)) (hv : (x.toUInt32 % 65536).toInt32 = v) (k : EX M l G R Q p e s m args below meth c cells slots (pc + 1) L (.int v :: st) h) : EX M l G R Q p e s m args below meth c cells slots pc L (.int x :: st) h :=
  fun hg H ls locs hl hP hn hS => lv_i2c hg.1 hg.2.1 hd hv (k hg H ls locs hl hP hn hS)
theorem ex_iushr {x y v : Int32} (hd : decode M.2.1 pc = .ok (.iushr, 1)) (hv : (x.toUInt32 >>> (y.toUInt32 &&& Int32.toUInt32 31)).toInt32 = v) (k : EX M l G R Q p e s m args below meth c cells slots (pc + 1) L (.int v :: st) h) : EX M l G R Q p e s m args below meth c cells slots pc L (.int y :: .int x :: st) h :=
  fun hg H ls locs hl hP hn hS => lv_iushr hg.1 hg.2.1 hd hv (k hg H ls locs hl hP hn hS)
theorem ex_dup {va : Value} (hd : decode M.2.1 pc = .ok (.dup, 1)) (h1 : va.category = 1) (k : EX M l G R Q p e s m args below meth c cells slots (pc + 1) L (va :: va :: st) h) : EX M l G R Q p e s m args below meth c cells slots pc L (va :: st) h :=
  fun hg H ls locs hl hP hn hS => lv_dup hg.1 hg.2.1 hd (by rw [ex_v_cat]; exact h1) (k hg H ls locs hl hP hn hS)
theorem ex_pop {va : Value} (hd : decode M.2.1 pc = .ok (.pop, 1)) (h1 : va.category = 1) (k : EX M l G R Q p e s m args below meth c cells slots (pc + 1) L st h) : EX M l G R Q p e s m args below meth c cells slots pc L (va :: st) h :=
  fun hg H ls locs hl hP hn hS => lv_pop hg.1 hg.2.1 hd (by rw [ex_v_cat]; exact h1) (k hg H ls locs hl hP hn hS)
theorem ex_dup_x1 {va vb : Value} (hd : decode M.2.1 pc = .ok (.dup_x1, 1)) (h1 : va.category = 1) (h2 : vb.category = 1) (k : EX M l G R Q p e s m args below meth c cells slots (pc + 1) L (va :: vb :: va :: st) h) : EX M l G R Q p e s m args below meth c cells slots pc L (va :: vb :: st) h :=
  fun hg H ls locs hl hP hn hS => lv_dup_x1 hg.1 hg.2.1 hd (by rw [ex_v_cat]; exact h1) (by rw [ex_v_cat]; exact h2) (k hg H ls locs hl hP hn hS)
theorem ex_dup_x2 {va vb vd : Value} (hd : decode M.2.1 pc = .ok (.dup_x2, 1)) (h1 : va.category = 1) (h2 : vb.category = 1) (h3 : vd.category = 1) (k : EX M l G R Q p e s m args below meth c cells slots (pc + 1) L (va :: vb :: vd :: va :: st) h) : EX M l G R Q p e s m args below meth c cells slots pc L (va :: vb :: vd :: st) h :=
  fun hg H ls locs hl hP hn hS => lv_dup_x2 hg.1 hg.2.1 hd (by rw [ex_v_cat]; exact h1) (by rw [ex_v_cat]; exact h2) (by rw [ex_v_cat]; exact h3) (k hg H ls locs hl hP hn hS)
theorem ex_dup2 {va vb : Value} (hd : decode M.2.1 pc = .ok (.dup2, 1)) (h1 : va.category = 1) (h2 : vb.category = 1) (k : EX M l G R Q p e s m args below meth c cells slots (pc + 1) L (va :: vb :: va :: vb :: st) h) : EX M l G R Q p e s m args below meth c cells slots pc L (va :: vb :: st) h :=
  fun hg H ls locs hl hP hn hS => lv_dup2_11 hg.1 hg.2.1 hd (by rw [ex_v_cat]; exact h1) (by rw [ex_v_cat]; exact h2) (k hg H ls locs hl hP hn hS)
theorem ex_null (hd : decode M.2.1 pc = .ok (.aconst_null, 1)) (k : EX M l G R Q p e s m args below meth c cells slots (pc + 1) L (.null :: st) h) : EX M l G R Q p e s m args below meth c cells slots pc L st h :=
  fun hg H ls locs hl hP hn hS => lv_null hg.1 hg.2.1 hd (k hg H ls locs hl hP hn hS)
theorem ex_iload_n {k : Fin 4} {i : Nat} {x : Int32} (hd : decode M.2.1 pc = .ok (.iload_n k, 1)) (hi : (k : Nat) = i) (hL : L[i]? = some (some (.int x))) (kk : EX M l G R Q p e s m args below meth c cells slots (pc + 1) L (.int x :: st) h) : EX M l G R Q p e s m args below meth c cells slots pc L st h :=
  fun hg H ls locs hl hP hn hS => lv_iload_n hg.1 hg.2.1 hd hi (hl.2.2 i _ hL).2 (kk hg H ls locs hl hP hn hS)
theorem ex_iload {i : Nat} {x : Int32} (hd : decode M.2.1 pc = .ok (.iload i, 2)) (hL : L[i]? = some (some (.int x))) (kk : EX M l G R Q p e s m args below meth c cells slots (pc + 2) L (.int x :: st) h) : EX M l G R Q p e s m args below meth c cells slots pc L st h :=
  fun hg H ls locs hl hP hn hS => lv_iload hg.1 hg.2.1 hd (hl.2.2 i _ hL).2 (kk hg H ls locs hl hP hn hS)
theorem ex_istore_n {k : Fin 4} {i : Nat} {x : Int32} (hd : decode M.2.1 pc = .ok (.istore_n k, 1)) (hi : (k : Nat) = i) (hN : i < M.2.2.1) (kk : EX M l G R Q p e s m args below meth c cells slots (pc + 1) (L.set i (some (.int x))) st h) : EX M l G R Q p e s m args below meth c cells slots pc L (.int x :: st) h :=
  fun hg H ls locs hl hP hn hS => lv_istore_n hg.1 hg.2.1 hd hi (ex_has_lv hl) hN rfl (fun ls' h' => kk hg H ls' locs (ex_has_set (v := .int x) hl rfl h') hP hn hS)
theorem ex_istore {i : Nat} {x : Int32} (hd : decode M.2.1 pc = .ok (.istore i, 2)) (hN : i < M.2.2.1) (kk : EX M l G R Q p e s m args below meth c cells slots (pc + 2) (L.set i (some (.int x))) st h) : EX M l G R Q p e s m args below meth c cells slots pc L (.int x :: st) h :=
  fun hg H ls locs hl hP hn hS => lv_istore hg.1 hg.2.1 hd (ex_has_lv hl) hN rfl (fun ls' h' => kk hg H ls' locs (ex_has_set (v := .int x) hl rfl h') hP hn hS)
theorem ex_aload_n {k : Fin 4} {i : Nat} {x : Nat} (hd : decode M.2.1 pc = .ok (.aload_n k, 1)) (hi : (k : Nat) = i) (hL : L[i]? = some (some (.ref x))) (kk : EX M l G R Q p e s m args below meth c cells slots (pc + 1) L (.ref x :: st) h) : EX M l G R Q p e s m args below meth c cells slots pc L st h :=
  fun hg H ls locs hl hP hn hS => lv_aload_n hg.1 hg.2.1 hd hi (hl.2.2 i _ hL).2 (kk hg H ls locs hl hP hn hS)
theorem ex_aload {i : Nat} {x : Nat} (hd : decode M.2.1 pc = .ok (.aload i, 2)) (hL : L[i]? = some (some (.ref x))) (kk : EX M l G R Q p e s m args below meth c cells slots (pc + 2) L (.ref x :: st) h) : EX M l G R Q p e s m args below meth c cells slots pc L st h :=
  fun hg H ls locs hl hP hn hS => lv_aload hg.1 hg.2.1 hd (hl.2.2 i _ hL).2 (kk hg H ls locs hl hP hn hS)
theorem ex_astore_n {k : Fin 4} {i : Nat} {x : Nat} (hd : decode M.2.1 pc = .ok (.astore_n k, 1)) (hi : (k : Nat) = i) (hN : i < M.2.2.1) (kk : EX M l G R Q p e s m args below meth c cells slots (pc + 1) (L.set i (some (.ref x))) st h) : EX M l G R Q p e s m args below meth c cells slots pc L (.ref x :: st) h :=
  fun hg H ls locs hl hP hn hS => lv_astore_n hg.1 hg.2.1 hd hi (ex_has_lv hl) hN rfl (fun ls' h' => kk hg H ls' locs (ex_has_set (v := .ref x) hl rfl h') hP hn hS)
theorem ex_astore {i : Nat} {x : Nat} (hd : decode M.2.1 pc = .ok (.astore i, 2)) (hN : i < M.2.2.1) (kk : EX M l G R Q p e s m args below meth c cells slots (pc + 2) (L.set i (some (.ref x))) st h) : EX M l G R Q p e s m args below meth c cells slots pc L (.ref x :: st) h :=
  fun hg H ls locs hl hP hn hS => lv_astore hg.1 hg.2.1 hd (ex_has_lv hl) hN rfl (fun ls' h' => kk hg H ls' locs (ex_has_set (v := .ref x) hl rfl h') hP hn hS)
theorem ex_iinc {i : Nat} {n : Int} {x v : Int32} (hd : decode M.2.1 pc = .ok (.iinc i n, 3)) (hL : L[i]? = some (some (.int x))) (hv : x + Int32.ofInt n = v) (hN : i < M.2.2.1) (kk : EX M l G R Q p e s m args below meth c cells slots (pc + 3) (L.set i (some (.int v))) st h) : EX M l G R Q p e s m args below meth c cells slots pc L st h := by
  intro hg H ls locs hl hP hn hS
  obtain ⟨k, hk⟩ := List.getElem?_of_mem (ex_lv_in (b := G.1) hL)
  exact lv_iinc hg.1 hg.2.1 hd (ex_has_lv hl) hk hv hN rfl (fun ls' h' => kk hg H ls' locs (ex_has_set (v := .int v) hl rfl h') hP hn hS)
theorem ex_drop (i : Nat) (kk : EX M l G R Q p e s m args below meth c cells slots pc (L.set i none) st h) : EX M l G R Q p e s m args below meth c cells slots pc L st h :=
  fun hg H ls locs hl hP hn hS => kk hg H ls locs (ex_has_none hl) hP hn hS
theorem ex_if_eq {x : Int32} {off : Int} {tgt : Nat} (hd : decode M.2.1 pc = .ok (.ifCond .eq off, 3)) (ht : (pc : Int) + off = (tgt : Int)) (kt : x = 0 → EX M l G R Q p e s m args below meth c cells slots tgt L st h) (kf : ¬ x = 0 → EX M l G R Q p e s m args below meth c cells slots (pc + 3) L st h) : EX M l G R Q p e s m args below meth c cells slots pc L (.int x :: st) h :=
  fun hg H ls locs hl hP hn hS => lv_if_eq hg.1 hg.2.1 hd ht (fun q => kt q hg H ls locs hl hP hn hS) (fun q => kf q hg H ls locs hl hP hn hS)
theorem ex_icmp_eq {x y : Int32} {off : Int} {tgt : Nat} (hd : decode M.2.1 pc = .ok (.if_icmp .eq off, 3)) (ht : (pc : Int) + off = (tgt : Int)) (kt : x = y → EX M l G R Q p e s m args below meth c cells slots tgt L st h) (kf : ¬ x = y → EX M l G R Q p e s m args below meth c cells slots (pc + 3) L st h) : EX M l G R Q p e s m args below meth c cells slots pc L (.int y :: .int x :: st) h :=
  fun hg H ls locs hl hP hn hS => lv_icmp_eq hg.1 hg.2.1 hd ht (fun q => kt q hg H ls locs hl hP hn hS) (fun q => kf q hg H ls locs hl hP hn hS)
theorem ex_if_ne {x : Int32} {off : Int} {tgt : Nat} (hd : decode M.2.1 pc = .ok (.ifCond .ne off, 3)) (ht : (pc : Int) + off = (tgt : Int)) (kt : ¬ x = 0 → EX M l G R Q p e s m args below meth c cells slots tgt L st h) (kf : x = 0 → EX M l G R Q p e s m args below meth c cells slots (pc + 3) L st h) : EX M l G R Q p e s m args below meth c cells slots pc L (.int x :: st) h :=
  fun hg H ls locs hl hP hn hS => lv_if_ne hg.1 hg.2.1 hd ht (fun q => kt q hg H ls locs hl hP hn hS) (fun q => kf q hg H ls locs hl hP hn hS)
theorem ex_icmp_ne {x y : Int32} {off : Int} {tgt : Nat} (hd : decode M.2.1 pc = .ok (.if_icmp .ne off, 3)) (ht : (pc : Int) + off = (tgt : Int)) (kt : ¬ x = y → EX M l G R Q p e s m args below meth c cells slots tgt L st h) (kf : x = y → EX M l G R Q p e s m args below meth c cells slots (pc + 3) L st h) : EX M l G R Q p e s m args below meth c cells slots pc L (.int y :: .int x :: st) h :=
  fun hg H ls locs hl hP hn hS => lv_icmp_ne hg.1 hg.2.1 hd ht (fun q => kt q hg H ls locs hl hP hn hS) (fun q => kf q hg H ls locs hl hP hn hS)
theorem ex_if_lt {x : Int32} {off : Int} {tgt : Nat} (hd : decode M.2.1 pc = .ok (.ifCond .lt off, 3)) (ht : (pc : Int) + off = (tgt : Int)) (kt : x < 0 → EX M l G R Q p e s m args below meth c cells slots tgt L st h) (kf : ¬ x < 0 → EX M l G R Q p e s m args below meth c cells slots (pc + 3) L st h) : EX M l G R Q p e s m args below meth c cells slots pc L (.int x :: st) h :=
  fun hg H ls locs hl hP hn hS => lv_if_lt hg.1 hg.2.1 hd ht (fun q => kt q hg H ls locs hl hP hn hS) (fun q => kf q hg H ls locs hl hP hn hS)
theorem ex_icmp_lt {x y : Int32} {off : Int} {tgt : Nat} (hd : decode M.2.1 pc = .ok (.if_icmp .lt off, 3)) (ht : (pc : Int) + off = (tgt : Int)) (kt : x < y → EX M l G R Q p e s m args below meth c cells slots tgt L st h) (kf : ¬ x < y → EX M l G R Q p e s m args below meth c cells slots (pc + 3) L st h) : EX M l G R Q p e s m args below meth c cells slots pc L (.int y :: .int x :: st) h :=
  fun hg H ls locs hl hP hn hS => lv_icmp_lt hg.1 hg.2.1 hd ht (fun q => kt q hg H ls locs hl hP hn hS) (fun q => kf q hg H ls locs hl hP hn hS)
theorem ex_if_ge {x : Int32} {off : Int} {tgt : Nat} (hd : decode M.2.1 pc = .ok (.ifCond .ge off, 3)) (ht : (pc : Int) + off = (tgt : Int)) (kt : 0 ≤ x → EX M l G R Q p e s m args below meth c cells slots tgt L st h) (kf : ¬ 0 ≤ x → EX M l G R Q p e s m args below meth c cells slots (pc + 3) L st h) : EX M l G R Q p e s m args below meth c cells slots pc L (.int x :: st) h :=
  fun hg H ls locs hl hP hn hS => lv_if_ge hg.1 hg.2.1 hd ht (fun q => kt q hg H ls locs hl hP hn hS) (fun q => kf q hg H ls locs hl hP hn hS)
theorem ex_icmp_ge {x y : Int32} {off : Int} {tgt : Nat} (hd : decode M.2.1 pc = .ok (.if_icmp .ge off, 3)) (ht : (pc : Int) + off = (tgt : Int)) (kt : y ≤ x → EX M l G R Q p e s m args below meth c cells slots tgt L st h) (kf : ¬ y ≤ x → EX M l G R Q p e s m args below meth c cells slots (pc + 3) L st h) : EX M l G R Q p e s m args below meth c cells slots pc L (.int y :: .int x :: st) h :=
  fun hg H ls locs hl hP hn hS => lv_icmp_ge hg.1 hg.2.1 hd ht (fun q => kt q hg H ls locs hl hP hn hS) (fun q => kf q hg H ls locs hl hP hn hS)
theorem ex_if_gt {x : Int32} {off : Int} {tgt : Nat} (hd : decode M.2.1 pc = .ok (.ifCond .gt off, 3)) (ht : (pc : Int) + off = (tgt : Int)) (kt : 0 < x → EX M l G R Q p e s m args below meth c cells slots tgt L st h) (kf : ¬ 0 < x → EX M l G R Q p e s m args below meth c cells slots (pc + 3) L st h) : EX M l G R Q p e s m args below meth c cells slots pc L (.int x :: st) h :=
  fun hg H ls locs hl hP hn hS => lv_if_gt hg.1 hg.2.1 hd ht (fun q => kt q hg H ls locs hl hP hn hS) (fun q => kf q hg H ls locs hl hP hn hS)
theorem ex_icmp_gt {x y : Int32} {off : Int} {tgt : Nat} (hd : decode M.2.1 pc = .ok (.if_icmp .gt off, 3)) (ht : (pc : Int) + off = (tgt : Int)) (kt : y < x → EX M l G R Q p e s m args below meth c cells slots tgt L st h) (kf : ¬ y < x → EX M l G R Q p e s m args below meth c cells slots (pc + 3) L st h) : EX M l G R Q p e s m args below meth c cells slots pc L (.int y :: .int x :: st) h :=
  fun hg H ls locs hl hP hn hS => lv_icmp_gt hg.1 hg.2.1 hd ht (fun q => kt q hg H ls locs hl hP hn hS) (fun q => kf q hg H ls locs hl hP hn hS)
theorem ex_if_le {x : Int32} {off : Int} {tgt : Nat} (hd : decode M.2.1 pc = .ok (.ifCond .le off, 3)) (ht : (pc : Int) + off = (tgt : Int)) (kt : x ≤ 0 → EX M l G R Q p e s m args below meth c cells slots tgt L st h) (kf : ¬ x ≤ 0 → EX M l G R Q p e s m args below meth c cells slots (pc + 3) L st h) : EX M l G R Q p e s m args below meth c cells slots pc L (.int x :: st) h :=
  fun hg H ls locs hl hP hn hS => lv_if_le hg.1 hg.2.1 hd ht (fun q => kt q hg H ls locs hl hP hn hS) (fun q => kf q hg H ls locs hl hP hn hS)
theorem ex_icmp_le {x y : Int32} {off : Int} {tgt : Nat} (hd : decode M.2.1 pc = .ok (.if_icmp .le off, 3)) (ht : (pc : Int) + off = (tgt : Int)) (kt : x ≤ y → EX M l G R Q p e s m args below meth c cells slots tgt L st h) (kf : ¬ x ≤ y → EX M l G R Q p e s m args below meth c cells slots (pc + 3) L st h) : EX M l G R Q p e s m args below meth c cells slots pc L (.int y :: .int x :: st) h :=
  fun hg H ls locs hl hP hn hS => lv_icmp_le hg.1 hg.2.1 hd ht (fun q => kt q hg H ls locs hl hP hn hS) (fun q => kf q hg H ls locs hl hP hn hS)
theorem ex_goto {off : Int} {tgt : Nat} (hd : decode M.2.1 pc = .ok (.goto off, 3)) (ht : (pc : Int) + off = (tgt : Int)) (k : EX M l G R Q p e s m args below meth c cells slots tgt L st h) : EX M l G R Q p e s m args below meth c cells slots pc L st h :=
  fun hg H ls locs hl hP hn hS => lv_goto hg.1 hg.2.1 hd ht (k hg H ls locs hl hP hn hS)
theorem ex_lookup {dflt : Int} {ps : Array (Int × Int)} {len : Nat} {x : Int32} {off : Int} {tgt : Nat} (hd : decode M.2.1 pc = .ok (.lookupswitch dflt ps, len)) (hp : (ps.toList.zip (ps.toList.drop 1)).all (fun (a, next) => a.1 < next.1) = true) (ho : Op.lookupswitch.offset ps.toList dflt x.toInt = off) (ht : (pc : Int) + off = (tgt : Int)) (k : EX M l G R Q p e s m args below meth c cells slots tgt L st h) : EX M l G R Q p e s m args below meth c cells slots pc L (.int x :: st) h :=
  fun hg H ls locs hl hP hn hS => lv_lookup hg.1 hg.2.1 hd hp ho ht (k hg H ls locs hl hP hn hS)
theorem ex_tableOut {dflt lo hi : Int} {offs : Array Int} {len : Nat} {x : Int32} {tgt : Nat} (hd : decode M.2.1 pc = .ok (.tableswitch dflt lo hi offs, len)) (ho : x.toInt < lo ∨ hi < x.toInt) (ht : (pc : Int) + dflt = (tgt : Int)) (k : EX M l G R Q p e s m args below meth c cells slots tgt L st h) : EX M l G R Q p e s m args below meth c cells slots pc L (.int x :: st) h :=
  fun hg H ls locs hl hP hn hS => lv_tableOut hg.1 hg.2.1 hd ho ht (k hg H ls locs hl hP hn hS)
theorem ex_tableIn {dflt lo hi : Int} {offs : Array Int} {len : Nat} {x : Int32} {off : Int} {tgt : Nat} (hd : decode M.2.1 pc = .ok (.tableswitch dflt lo hi offs, len)) (h1 : ¬ x.toInt < lo) (h2 : ¬ hi < x.toInt) (ho : offs[(x.toInt - lo).toNat]? = some off) (ht : (pc : Int) + off = (tgt : Int)) (k : EX M l G R Q p e s m args below meth c cells slots tgt L st h) : EX M l G R Q p e s m args below meth c cells slots pc L (.int x :: st) h :=
  fun hg H ls locs hl hP hn hS => lv_tableIn hg.1 hg.2.1 hd h1 h2 ho ht (k hg H ls locs hl hP hn hS)
theorem ex_ldc {idx : Nat} {v : Int32} (hd : decode M.2.1 pc = .ok (.ldc idx, 2)) (hw : Jvm.Cond.constant M.1.cls idx v ∈ exTW) (k : EX M l G R Q p e s m args below meth c cells slots (pc + 2) L (.int v :: st) h) : EX M l G R Q p e s m args below meth c cells slots pc L st h :=
  fun hg H ls locs hl hP hn hS => lv_ldc hg.1 hg.2.1 hg.2.2.2.1 (hg.2.2.2.2.1 _ hw) hd (k hg H ls locs hl hP hn hS)
/-- the entry idx of own's pool is field k of class ci (q: a reference) -/
def ex_FL (own : String) (idx ci k : Nat) (q : Bool) : Prop := ∃ (C : String) (T : u_T) (N : Nat), exCl[ci]? = some (C, T, N) ∧ k < N ∧ (exFk ci).length = N ∧ (exFk ci).getD k false = q ∧ (∀ w ∈ u_ws C T N, w ∈ exTW) ∧ (Cond.fieldLink own idx (T k).1 (T k).2.1 (T k).2.2.1 ∈ exTW ∨ ∃ host, Cond.fieldLinkNest own idx (T k).1 (T k).2.1 (T k).2.2.1 host ∈ exNW)
theorem ex_getv {a idx ci k : Nat} {q : Bool} {v : Value} (hd : decode M.2.1 pc = .ok (.getfield idx, 3)) (hf : ex_FL M.1.cls idx ci k q) (ha : a < h.1) (hs : h.2.1 a = .inl ci) (hv : (if q = true then va_rf ((h.2.2.2.2 a k).map (G.1 + ·)) else .int (h.2.2.2.1 a k)) = ex_v G.1 v) (kk : EX M l G R Q p e s m args below meth c cells slots (pc + 3) L (v :: st) h) : EX M l G R Q p e s m args below meth c cells slots pc L (.ref a :: st) h := by
  intro hg H ls locs hl hP hn hS
  obtain ⟨C, T, N, hc, hk, hN, hq, hu, hlk⟩ := hf
  have he : (ex_w G h)[a]? = some (G.1 + a, .inr (ci, ex_fs G.1 (exFk ci) (h.2.2.2.1 a) (h.2.2.2.2 a))) := by rw [ex_w_at ha, ex_cell_o hs]
  have hw : (ex_fs G.1 (exFk ci) (h.2.2.2.1 a) (h.2.2.2.2 a))[k]? = some (ex_v G.1 v) := by rw [ex_fs_at (by rw [hN]; exact hk), hq, hv]
  have kk' := kk hg H ls locs hl hP hn hS
  rcases hlk with hlk | ⟨host, hlk⟩
  · exact va_get (ci := ci) hg.1 hg.2.1 hg.2.2.2.2.1 hu hg.2.2.2.1 hg.2.2.2.2.2.2.2.2.1.1 hP a he hc k hk (hg.2.2.2.2.1 _ hlk) (fun _ h9 => h9) hw hd kk'
  · exact va_getN (ci := ci) hg.1 hg.2.1 hg.2.2.2.2.1 hu hg.2.2.2.1 hg.2.2.2.2.2.2.2.2.1.1 hP a he hc k hk (va_Nw.use rfl (hg.2.2.2.2.2.2.2.2.1.2.1 _ hlk)) (fun _ h9 => h9) hw hd (kk')

theorem ex_geti {a idx : Nat} (ci k : Nat) (hd : decode M.2.1 pc = .ok (.getfield idx, 3)) (hf : ex_FL M.1.cls idx ci k false) (ha : a < h.1) (hs : h.2.1 a = .inl ci) (kk : EX M l G R Q p e s m args below meth c cells slots (pc + 3) L (.int (h.2.2.2.1 a k) :: st) h) : EX M l G R Q p e s m args below meth c cells slots pc L (.ref a :: st) h :=
  ex_getv hd hf ha hs rfl kk
theorem ex_getr {a idx b : Nat} (ci k : Nat) (hd : decode M.2.1 pc = .ok (.getfield idx, 3)) (hf : ex_FL M.1.cls idx ci k true) (ha : a < h.1) (hs : h.2.1 a = .inl ci) (hr : h.2.2.2.2 a k = some b) (kk : EX M l G R Q p e s m args below meth c cells slots (pc + 3) L (.ref b :: st) h) : EX M l G R Q p e s m args below meth c cells slots pc L (.ref a :: st) h :=
  ex_getv (v := .ref b) hd hf ha hs (by rw [hr]; rfl) kk
/-- .. and may be written: by a plain method, or, if it is final, by its own class's constructor; ty its type -/
def ex_PF (own : String) (idx ci k : Nat) (q : Bool) (ty : FieldType) (nm : String) : Prop := ∃ (C : String) (T : u_T) (N : Nat) (t0 : Nat → FieldType), exCl[ci]? = some (C, T, N) ∧ k < N ∧ (exFk ci).length = N ∧ (exFk ci).getD k false = q ∧ (∀ w ∈ u_ws C T N, w ∈ exTW) ∧ (∀ k, k < N → parseFieldDescriptor (T k).2.2.1 = some (t0 k)) ∧ (∀ a, a < N → ∀ b, b < N → a ≠ b → (T a).2.1 ≠ (T b).2.1) ∧ parseFieldDescriptor (T k).2.2.1 = some ty ∧
  (((T k).2.2.2 = false ∧ (Cond.fieldLink own idx (T k).1 (T k).2.1 (T k).2.2.1 ∈ exTW ∨ ∃ host, Cond.fieldLinkNest own idx (T k).1 (T k).2.1 (T k).2.2.1 host ∈ exNW)) ∨ ((T k).2.2.2 = true ∧ nm = "<init>" ∧ (T k).1 = own ∧ Cond.fieldLink own idx (T k).1 (T k).2.1 (T k).2.2.1 ∈ exTW))
theorem ex_putv {a idx ci k : Nat} {q : Bool} {ty : FieldType} {v : Value} {h' : ex_H} (hd : decode M.2.1 pc = .ok (.putfield idx, 3)) (hf : ex_PF M.1.cls idx ci k q ty M.1.name) (ha : a < h.1) (hs : h.2.1 a = .inl ci) (hn9 : narrow ty (ex_v G.1 v) = ex_v G.1 v) (hf9 : fits ty (ex_v G.1 v) = true) (e1 : h'.1 = h.1) (e2 : h'.2.1 = h.2.1) (e3 : h'.2.2.1 = h.2.2.1) (e4 : ∀ i, i ≠ a → h'.2.2.2.1 i = h.2.2.2.1 i ∧ h'.2.2.2.2 i = h.2.2.2.2 i) (e5 : ∀ j, j ≠ k → h'.2.2.2.1 a j = h.2.2.2.1 a j ∧ h'.2.2.2.2 a j = h.2.2.2.2 a j) (hv : (if q = true then va_rf ((h'.2.2.2.2 a k).map (G.1 + ·)) else .int (h'.2.2.2.1 a k)) = ex_v G.1 v) (kk : EX M l G R Q p e s m args below meth c cells slots (pc + 3) L st h') : EX M l G R Q p e s m args below meth c cells slots pc L (v :: .ref a :: st) h := by
  intro hg H ls locs hl hP hn hS
  obtain ⟨C, T, N, t0, hc, hk, hN, hq, hu, hty, hnm, hd0, hlk⟩ := hf
  have he : (ex_w G h)[a]? = some (G.1 + a, .inr (ci, ex_fs G.1 (exFk ci) (h.2.2.2.1 a) (h.2.2.2.2 a))) := by rw [ex_w_at ha, ex_cell_o hs]
  have hset : (ex_w G h).set a (G.1 + a, .inr (ci, (ex_fs G.1 (exFk ci) (h.2.2.2.1 a) (h.2.2.2.2 a)).set k (ex_v G.1 v))) = ex_w G h' := by
    refine ex_w_set ha e1 ?_ (fun j hj => ex_cell_c (by rw [e2]) (by rw [e3]) (e4 j hj).1 (e4 j hj).2)
    rw [ex_cell_o (h := h') (ci := ci) (by rw [e2]; exact hs), ex_fs_set (I' := h'.2.2.2.1 a) (R' := h'.2.2.2.2 a) (by rw [hN]; exact hk) (by rw [hq]; exact hv) e5]
  have kk' : ∀ (H1 : Heap) (locs1 : List Loc), va_P G.2.1 exCl ((ex_w G h).set a (G.1 + a, .inr (ci, (ex_fs G.1 (exFk ci) (h.2.2.2.1 a) (h.2.2.2.2 a)).set k (ex_v G.1 v)))) H1 → va_D (fun q => G.1 ≤ q) ((ex_w G h).set a (G.1 + a, .inr (ci, (ex_fs G.1 (exFk ci) (h.2.2.2.1 a) (h.2.2.2.2 a)).set k (ex_v G.1 v)))) → va_S (fun q => G.1 ≤ q) s.heap H1 locs1 → W p l e R s m args below meth c H1 locs1 cells slots Q (F0 m (pc + 3) ls (st.map (ex_v G.1))) := by
    intro H1 locs1 hP1 _ hS1
    rw [hset] at hP1
    exact kk hg H1 ls locs1 hl hP1 (by rw [e1]; exact hn) hS1
  have hlen : k < (ex_fs G.1 (exFk ci) (h.2.2.2.1 a) (h.2.2.2.2 a)).length := by rw [ex_fs_len, hN]; exact hk
  rcases hlk with ⟨hfin, hlk | ⟨host, hlk⟩⟩ | ⟨hfin, hini, hdc, hlk⟩
  · exact va_put (ci := ci) hg.1 hg.2.1 hg.2.2.2.2.1 hu t0 hty hnm hg.2.2.2.1 hg.2.2.2.2.2.2.2.2.1.1 hP (ex_D G h) hS a he hc k hk (hg.2.2.2.2.1 _ hlk) (fun _ h9 => h9) hfin hd0 hn9 hf9 hlen hd kk'
  · exact va_putN (ci := ci) hg.1 hg.2.1 hg.2.2.2.2.1 hu t0 hty hnm hg.2.2.2.1 hg.2.2.2.2.2.2.2.2.1.1 hP (ex_D G h) hS a he hc k hk (va_Nw.use rfl (hg.2.2.2.2.2.2.2.2.1.2.1 _ hlk)) (fun _ h9 => h9) hfin hd0 hn9 hf9 hlen hd kk'
  · exact va_putF (ci := ci) hg.1 hg.2.1 hg.2.2.2.2.1 hu t0 hty hnm hg.2.2.2.1 hg.2.2.2.2.2.2.2.2.1.1 hP (ex_D G h) hS a he hc k hk (hg.2.2.2.2.1 _ hlk) (fun _ h9 => h9) hfin (by rw [hg.2.2.2.2.2.2.1]; exact hini) hdc hd0 hn9 hf9 hlen hd (kk')

theorem ex_puti {a idx : Nat} {x : Int32} (ci k : Nat) (ty : FieldType) (hd : decode M.2.1 pc = .ok (.putfield idx, 3)) (hf : ex_PF M.1.cls idx ci k false ty M.1.name) (ha : a < h.1) (hs : h.2.1 a = .inl ci) (hn9 : narrow ty (.int x) = .int x) (hf9 : fits ty (.int x) = true) (kk : EX M l G R Q p e s m args below meth c cells slots (pc + 3) L st (ex_si h a k x)) : EX M l G R Q p e s m args below meth c cells slots pc L (.int x :: .ref a :: st) h :=
  ex_putv (v := .int x) (h' := ex_si h a k x) hd hf ha hs hn9 hf9 rfl rfl rfl (fun i hi => ⟨ex_u2_ne _ _ _ hi, rfl⟩) (fun j hj => ⟨by simp [ex_si, ex_u2, hj], rfl⟩) (by simp [ex_si, ex_u2, ex_v]) kk
theorem ex_putr {a idx b : Nat} (ci k : Nat) (ty : FieldType) (hd : decode M.2.1 pc = .ok (.putfield idx, 3)) (hf : ex_PF M.1.cls idx ci k true ty M.1.name) (ha : a < h.1) (hs : h.2.1 a = .inl ci) (hn9 : narrow ty (.ref (G.1 + b)) = .ref (G.1 + b)) (hf9 : fits ty (.ref (G.1 + b)) = true) (kk : EX M l G R Q p e s m args below meth c cells slots (pc + 3) L st (ex_sr h a k (some b))) : EX M l G R Q p e s m args below meth c cells slots pc L (.ref b :: .ref a :: st) h :=
  ex_putv (v := .ref b) (h' := ex_sr h a k (some b)) hd hf ha hs hn9 hf9 rfl rfl rfl (fun i hi => ⟨rfl, ex_u2_ne _ _ _ hi⟩) (fun j hj => ⟨rfl, by simp [ex_sr, ex_u2, hj]⟩) (by simp [ex_sr, ex_u2, ex_v, va_rf]) kk
theorem ex_in {i : Int32} {n N : Nat} (hi : i.toInt = (n : Int)) (hn : n < N) : vp_in i N ∧ i.toNatClampNeg = n := by
  refine ⟨vp_in_iff.mpr (by omega), ?_⟩
  show i.toInt.toNat = n
  omega
theorem ex_iald {a t : Nat} {i : Int32} (n : Nat) (hd : decode M.2.1 pc = .ok (.iaload, 1)) (ha : a < h.1) (hs : h.2.1 a = .inr t) (hr : exRk t = false) (ht : exTy[t]? = some .int) (hi : i.toInt = (n : Int)) (hN : n < h.2.2.1 a) (kk : EX M l G R Q p e s m args below meth c cells slots (pc + 1) L (.int (h.2.2.2.1 a n) :: st) h) : EX M l G R Q p e s m args below meth c cells slots pc L (.int i :: .ref a :: st) h := by
  intro hg H ls locs hl hP hn hS
  obtain ⟨h1, h2⟩ := ex_in hi hN
  refine va_iald hg.1 hg.2.1 hg.2.2.2.2.2.2.2.2.1.1 hP a t (by rw [ex_w_at ha, ex_cell_i hs hr]) (ex_ty_at ht) h1 hd ?_
  rw [h2]
  exact kk hg H ls locs hl hP hn hS
theorem ex_cald {a t : Nat} {i : Int32} (n : Nat) (hd : decode M.2.1 pc = .ok (.caload, 1)) (ha : a < h.1) (hs : h.2.1 a = .inr t) (hr : exRk t = false) (ht : exTy[t]? = some .char) (hi : i.toInt = (n : Int)) (hN : n < h.2.2.1 a) (kk : EX M l G R Q p e s m args below meth c cells slots (pc + 1) L (.int (h.2.2.2.1 a n) :: st) h) : EX M l G R Q p e s m args below meth c cells slots pc L (.int i :: .ref a :: st) h := by
  intro hg H ls locs hl hP hn hS
  obtain ⟨h1, h2⟩ := ex_in hi hN
  refine va_cald hg.1 hg.2.1 hg.2.2.2.2.2.2.2.2.1.1 hP a t (by rw [ex_w_at ha, ex_cell_i hs hr]) (ex_ty_at ht) h1 hd ?_
  rw [h2]
  exact kk hg H ls locs hl hP hn hS
theorem ex_zald {a t : Nat} {i : Int32} (n : Nat) (hd : decode M.2.1 pc = .ok (.baload, 1)) (ha : a < h.1) (hs : h.2.1 a = .inr t) (hr : exRk t = false) (ht : exTy[t]? = some .boolean) (hi : i.toInt = (n : Int)) (hN : n < h.2.2.1 a) (kk : EX M l G R Q p e s m args below meth c cells slots (pc + 1) L (.int (h.2.2.2.1 a n) :: st) h) : EX M l G R Q p e s m args below meth c cells slots pc L (.int i :: .ref a :: st) h := by
  intro hg H ls locs hl hP hn hS
  obtain ⟨h1, h2⟩ := ex_in hi hN
  refine va_zald hg.1 hg.2.1 hg.2.2.2.2.2.2.2.2.1.1 hP a t (by rw [ex_w_at ha, ex_cell_i hs hr]) (ex_ty_at ht) h1 hd ?_
  rw [h2]
  exact kk hg H ls locs hl hP hn hS
theorem ex_bald {a t : Nat} {i : Int32} (n : Nat) (hd : decode M.2.1 pc = .ok (.baload, 1)) (ha : a < h.1) (hs : h.2.1 a = .inr t) (hr : exRk t = false) (ht : exTy[t]? = some .byte) (hi : i.toInt = (n : Int)) (hN : n < h.2.2.1 a) (kk : EX M l G R Q p e s m args below meth c cells slots (pc + 1) L (.int (h.2.2.2.1 a n) :: st) h) : EX M l G R Q p e s m args below meth c cells slots pc L (.int i :: .ref a :: st) h := by
  intro hg H ls locs hl hP hn hS
  obtain ⟨h1, h2⟩ := ex_in hi hN
  refine va_bald hg.1 hg.2.1 hg.2.2.2.2.2.2.2.2.1.1 hP a t (by rw [ex_w_at ha, ex_cell_i hs hr]) (ex_ty_at ht) h1 hd ?_
  rw [h2]
  exact kk hg H ls locs hl hP hn hS
theorem ex_iast {a t : Nat} {i x : Int32} (n : Nat) (hd : decode M.2.1 pc = .ok (.iastore, 1)) (ha : a < h.1) (hs : h.2.1 a = .inr t) (hr : exRk t = false) (ht : exTy[t]? = some .int) (hi : i.toInt = (n : Int)) (hN : n < h.2.2.1 a) (kk : EX M l G R Q p e s m args below meth c cells slots (pc + 1) L st (ex_si h a n x)) : EX M l G R Q p e s m args below meth c cells slots pc L (.int x :: .int i :: .ref a :: st) h := by
  intro hg H ls locs hl hP hn hS
  obtain ⟨h1, h2⟩ := ex_in hi hN
  refine va_iast hg.1 hg.2.1 hg.2.2.2.2.2.2.2.2.1.1 hP (ex_D G h) hS a t (by rw [ex_w_at ha, ex_cell_i hs hr]) (ex_ty_at ht) h1 hd ?_
  rw [h2]
  intro H1 locs1 hP1 _ hS1
  have hset : (ex_w G h).set a (G.1 + a, .inl (G.2.2 t, h.2.2.1 a, .inl (upd (h.2.2.2.1 a) n x))) = ex_w G (ex_si h a n x) := by
    refine ex_w_set ha rfl ?_ (fun j hj => ex_cell_c rfl rfl (ex_u2_ne _ _ _ hj) rfl)
    rw [ex_cell_i (h := ex_si h a n x) (t := t) hs hr]
    show Sum.inl (G.2.2 t, h.2.2.1 a, Sum.inl (ex_u2 h.2.2.2.1 a n x a)) = _
    rw [ex_u2_row]
    rfl
  rw [hset] at hP1
  exact kk hg H1 ls locs1 hl hP1 hn hS1
theorem ex_cast {a t : Nat} {i x : Int32} (n : Nat) (hd : decode M.2.1 pc = .ok (.castore, 1)) (ha : a < h.1) (hs : h.2.1 a = .inr t) (hr : exRk t = false) (ht : exTy[t]? = some .char) (hi : i.toInt = (n : Int)) (hN : n < h.2.2.1 a) (kk : EX M l G R Q p e s m args below meth c cells slots (pc + 1) L st (ex_si h a n (vp_nar .char x))) : EX M l G R Q p e s m args below meth c cells slots pc L (.int x :: .int i :: .ref a :: st) h := by
  intro hg H ls locs hl hP hn hS
  obtain ⟨h1, h2⟩ := ex_in hi hN
  refine va_cast hg.1 hg.2.1 hg.2.2.2.2.2.2.2.2.1.1 hP (ex_D G h) hS a t (by rw [ex_w_at ha, ex_cell_i hs hr]) (ex_ty_at ht) h1 hd ?_
  rw [h2]
  intro H1 locs1 hP1 _ hS1
  have hset : (ex_w G h).set a (G.1 + a, .inl (G.2.2 t, h.2.2.1 a, .inl (upd (h.2.2.2.1 a) n (vp_nar .char x)))) = ex_w G (ex_si h a n (vp_nar .char x)) := by
    refine ex_w_set ha rfl ?_ (fun j hj => ex_cell_c rfl rfl (ex_u2_ne _ _ _ hj) rfl)
    rw [ex_cell_i (h := ex_si h a n (vp_nar .char x)) (t := t) hs hr]
    show Sum.inl (G.2.2 t, h.2.2.1 a, Sum.inl (ex_u2 h.2.2.2.1 a n (vp_nar .char x) a)) = _
    rw [ex_u2_row]
    rfl
  rw [hset] at hP1
  exact kk hg H1 ls locs1 hl hP1 hn hS1
theorem ex_zast {a t : Nat} {i x : Int32} (n : Nat) (hd : decode M.2.1 pc = .ok (.bastore, 1)) (ha : a < h.1) (hs : h.2.1 a = .inr t) (hr : exRk t = false) (ht : exTy[t]? = some .boolean) (hi : i.toInt = (n : Int)) (hN : n < h.2.2.1 a) (kk : EX M l G R Q p e s m args below meth c cells slots (pc + 1) L st (ex_si h a n (vp_nar .boolean x))) : EX M l G R Q p e s m args below meth c cells slots pc L (.int x :: .int i :: .ref a :: st) h := by
  intro hg H ls locs hl hP hn hS
  obtain ⟨h1, h2⟩ := ex_in hi hN
  refine va_zast hg.1 hg.2.1 hg.2.2.2.2.2.2.2.2.1.1 hP (ex_D G h) hS a t (by rw [ex_w_at ha, ex_cell_i hs hr]) (ex_ty_at ht) h1 hd ?_
  rw [h2]
  intro H1 locs1 hP1 _ hS1
  have hset : (ex_w G h).set a (G.1 + a, .inl (G.2.2 t, h.2.2.1 a, .inl (upd (h.2.2.2.1 a) n (vp_nar .boolean x)))) = ex_w G (ex_si h a n (vp_nar .boolean x)) := by
    refine ex_w_set ha rfl ?_ (fun j hj => ex_cell_c rfl rfl (ex_u2_ne _ _ _ hj) rfl)
    rw [ex_cell_i (h := ex_si h a n (vp_nar .boolean x)) (t := t) hs hr]
    show Sum.inl (G.2.2 t, h.2.2.1 a, Sum.inl (ex_u2 h.2.2.2.1 a n (vp_nar .boolean x) a)) = _
    rw [ex_u2_row]
    rfl
  rw [hset] at hP1
  exact kk hg H1 ls locs1 hl hP1 hn hS1
theorem ex_bast {a t : Nat} {i x : Int32} (n : Nat) (hd : decode M.2.1 pc = .ok (.bastore, 1)) (ha : a < h.1) (hs : h.2.1 a = .inr t) (hr : exRk t = false) (ht : exTy[t]? = some .byte) (hi : i.toInt = (n : Int)) (hN : n < h.2.2.1 a) (kk : EX M l G R Q p e s m args below meth c cells slots (pc + 1) L st (ex_si h a n (vp_nar .byte x))) : EX M l G R Q p e s m args below meth c cells slots pc L (.int x :: .int i :: .ref a :: st) h := by
  intro hg H ls locs hl hP hn hS
  obtain ⟨h1, h2⟩ := ex_in hi hN
  refine va_bast hg.1 hg.2.1 hg.2.2.2.2.2.2.2.2.1.1 hP (ex_D G h) hS a t (by rw [ex_w_at ha, ex_cell_i hs hr]) (ex_ty_at ht) h1 hd ?_
  rw [h2]
  intro H1 locs1 hP1 _ hS1
  have hset : (ex_w G h).set a (G.1 + a, .inl (G.2.2 t, h.2.2.1 a, .inl (upd (h.2.2.2.1 a) n (vp_nar .byte x)))) = ex_w G (ex_si h a n (vp_nar .byte x)) := by
    refine ex_w_set ha rfl ?_ (fun j hj => ex_cell_c rfl rfl (ex_u2_ne _ _ _ hj) rfl)
    rw [ex_cell_i (h := ex_si h a n (vp_nar .byte x)) (t := t) hs hr]
    show Sum.inl (G.2.2 t, h.2.2.1 a, Sum.inl (ex_u2 h.2.2.2.1 a n (vp_nar .byte x) a)) = _
    rw [ex_u2_row]
    rfl
  rw [hset] at hP1
  exact kk hg H1 ls locs1 hl hP1 hn hS1
theorem ex_aald {a t b : Nat} {i : Int32} {C : String} (n : Nat) (hd : decode M.2.1 pc = .ok (.aaload, 1)) (ha : a < h.1) (hs : h.2.1 a = .inr t) (hr : exRk t = true) (ht : exTy[t]? = some (.object C)) (hi : i.toInt = (n : Int)) (hN : n < h.2.2.1 a) (hb : h.2.2.2.2 a n = some b) (kk : EX M l G R Q p e s m args below meth c cells slots (pc + 1) L (.ref b :: st) h) : EX M l G R Q p e s m args below meth c cells slots pc L (.int i :: .ref a :: st) h := by
  intro hg H ls locs hl hP hn hS
  obtain ⟨h1, h2⟩ := ex_in hi hN
  refine va_aldq hg.1 hg.2.1 hg.2.2.2.2.2.2.2.2.1.1 hP a t (by rw [ex_w_at ha, ex_cell_q hs hr]) (ex_ty_at ht) h1 hd ?_
  rw [h2, hb]
  exact kk hg H ls locs hl hP hn hS
theorem ex_aast {a t b ci : Nat} {i : Int32} {r : vw_C} (n : Nat) (hd : decode M.2.1 pc = .ok (.aastore, 1)) (ha : a < h.1) (hs : h.2.1 a = .inr t) (hr : exRk t = true) (ht : exTy[t]? = some (.object r.1)) (hb : b < h.1) (hsb : h.2.1 b = .inl ci) (hc : exCl[ci]? = some r) (hi : i.toInt = (n : Int)) (hN : n < h.2.2.1 a) (kk : EX M l G R Q p e s m args below meth c cells slots (pc + 1) L st (ex_sr h a n (some b))) : EX M l G R Q p e s m args below meth c cells slots pc L (.ref b :: .int i :: .ref a :: st) h := by
  intro hg H ls locs hl hP hn hS
  obtain ⟨h1, h2⟩ := ex_in hi hN
  refine va_astq hg.1 hg.2.1 hg.2.2.2.2.2.2.2.2.1.1 hP (ex_D G h) hS a t b ci (by rw [ex_w_at ha, ex_cell_q hs hr]) (ex_ty_at ht) (by rw [ex_w_at hb, ex_cell_o hsb]) hc h1 hd ?_
  rw [h2]
  intro H1 locs1 hP1 _ hS1
  have hset : (ex_w G h).set a (G.1 + a, .inl (G.2.2 t, h.2.2.1 a, .inr (.inr (.inr (.inr (va_up (fun j => (h.2.2.2.2 a j).map (G.1 + ·)) n (some (G.1 + b)))))))) = ex_w G (ex_sr h a n (some b)) := by
    refine ex_w_set ha rfl ?_ (fun j hj => ex_cell_c rfl rfl rfl (ex_u2_ne _ _ _ hj))
    rw [ex_cell_q (h := ex_sr h a n (some b)) (t := t) hs hr]
    show Sum.inl (G.2.2 t, h.2.2.1 a, Sum.inr (Sum.inr (Sum.inr (Sum.inr (fun j => (ex_u2 h.2.2.2.2 a n (some b) a j).map (G.1 + ·)))))) = _
    congr 7
    funext j
    rw [ex_u2_row]
    by_cases hj : j = n
    · subst hj
      simp [va_up]
    · simp [va_up, hj]
  rw [hset] at hP1
  exact kk hg H1 ls locs1 hl hP1 hn hS1
theorem ex_alen {a t : Nat} {ty : FieldType} (hd : decode M.2.1 pc = .ok (.arraylength, 1)) (ha : a < h.1) (hs : h.2.1 a = .inr t) (ht : exTy[t]? = some ty) (kk : EX M l G R Q p e s m args below meth c cells slots (pc + 1) L (.int (Int32.ofNat (h.2.2.1 a)) :: st) h) : EX M l G R Q p e s m args below meth c cells slots pc L (.ref a :: st) h := by
  intro hg H ls locs hl hP hn hS
  cases hr : exRk t with
  | false => exact va_alen (x := (h.2.2.1 a, .inl (h.2.2.2.1 a))) hg.1 hg.2.1 hg.2.2.2.2.2.2.2.2.1.1 hP a t (by rw [ex_w_at ha, ex_cell_i hs hr]) (ex_ty_at ht) rfl hd (kk hg H ls locs hl hP hn hS)
  | true => exact va_alen (x := (h.2.2.1 a, .inr (.inr (.inr (.inr (fun j => (h.2.2.2.2 a j).map (G.1 + ·))))))) hg.1 hg.2.1 hg.2.2.2.2.2.2.2.2.1.1 hP a t (by rw [ex_w_at ha, ex_cell_q hs hr]) (ex_ty_at ht) rfl hd (kk hg H ls locs hl hP hn hS)
theorem ex_iret {x : Int32} {ty : FieldType} (hd : decode M.2.1 pc = .ok (.ireturn, 1)) (hr : M.2.2.2 = some ty) (hx : narrow ty (.int x) = .int x) (hc : cells = mc) (hs : slots ≤ ms) (hq : Post (some (.int x)) h) : EX M l G (ex_rm d mc ms) (MQ below (ex_Q G mc Post) args s mc ms (fun q => G.1 ≤ q)) p e s m args below meth c cells slots pc L [.int x] h := by
  intro hg H ls locs hl hP hn hS
  refine ex_size fun hz => ?_
  have hlo := ex_low hP hS hg.2.2.2.2.2.2.2.2.2
  subst hc
  refine W.widen (Nat.le_refl _) hs ?_
  exact W.zret hg.1 hg.2.1 (by rw [hg.2.2.2.2.2.2.2.1]; exact hr) hx (fun t ht hW => ⟨⟨some (.int x), h, rfl, hq, ⟨by rw [ht]; exact hP, by rw [ht]; omega, ex_K.warm hW hg.2.2.2.2.2.2.2.2.1⟩, hn⟩, hS.F ht⟩) hS.2.2 hd hg.2.2.2.2.2.1
theorem ex_vret (hd : decode M.2.1 pc = .ok (.return_, 1)) (hr : M.2.2.2 = none) (hc : cells = mc) (hs : slots ≤ ms) (hq : Post none h) : EX M l G (ex_rm d mc ms) (MQ below (ex_Q G mc Post) args s mc ms (fun q => G.1 ≤ q)) p e s m args below meth c cells slots pc L [] h := by
  intro hg H ls locs hl hP hn hS
  refine ex_size fun hz => ?_
  have hlo := ex_low hP hS hg.2.2.2.2.2.2.2.2.2
  subst hc
  refine W.widen (Nat.le_refl _) hs ?_
  exact W.vret hg.1 hg.2.1 (by rw [hg.2.2.2.2.2.2.2.1]; exact hr) (fun t ht hW => ⟨⟨none, h, rfl, hq, ⟨by rw [ht]; exact hP, by rw [ht]; omega, ex_K.warm hW hg.2.2.2.2.2.2.2.2.1⟩, hn⟩, hS.F ht⟩) hS.2.2 hd hg.2.2.2.2.2.1
theorem ex_aret {a : Nat} {C : String} (hd : decode M.2.1 pc = .ok (.areturn, 1)) (hr : M.2.2.2 = some (.object C)) (hc : cells = mc) (hs : slots ≤ ms) (hq : Post (some (.ref a)) h) : EX M l G (ex_rm d mc ms) (MQ below (ex_Q G mc Post) args s mc ms (fun q => G.1 ≤ q)) p e s m args below meth c cells slots pc L [.ref a] h := by
  intro hg H ls locs hl hP hn hS
  refine ex_size fun hz => ?_
  have hlo := ex_low hP hS hg.2.2.2.2.2.2.2.2.2
  subst hc
  refine W.widen (Nat.le_refl _) hs ?_
  exact W.aret hg.1 hg.2.1 (by rw [hg.2.2.2.2.2.2.2.1]; exact hr) (Or.inl ⟨_, rfl⟩) (Or.inr ⟨_, rfl⟩) (fun t ht hW => ⟨⟨some (.ref a), h, rfl, hq, ⟨by rw [ht]; exact hP, by rw [ht]; omega, ex_K.warm hW hg.2.2.2.2.2.2.2.2.1⟩, hn⟩, hS.F ht⟩) hS.2.2 hd hg.2.2.2.2.2.1
def ex_MW (M' : ex_M) (n : Nat) : Prop := Cond.code M'.1 M'.2.1 M'.2.2.1 M'.2.2.2 ∈ exTW ∧ Cond.initialized M'.1.cls ∈ exTW ∧ M'.1.cls ≠ "java/lang/invoke/MethodHandle" ∧ M'.1.cls ≠ "java/lang/invoke/VarHandle" ∧ (parseMethodDescriptor M'.1.desc).map (fun d => d.parameters.length) = some n ∧ M'.2.2.1 ≤ 45
def ex_MI (M' : ex_M) : Prop := Cond.instanceMethod M'.1 ∈ exTW ∧ Cond.selects M'.1.cls M'.1 M'.1 ∈ exTW
def ex_LK (own : String) (idx : Nat) (y : MethodName) : Prop := Cond.methodLink own idx y ∈ exTW ∨ ∃ host, Cond.methodLinkNest own idx y host ∈ exNW
theorem ex_good {M' : ex_M} (h : Cond.code M'.1 M'.2.1 M'.2.2.1 M'.2.2.2 ∈ exTW) : GoodIn exTW (.code M'.1 M'.2.1 M'.2.2.1 M'.2.2.2 :: exTW) := by
  intro w hw
  rcases List.mem_cons.mp hw with rfl | hw
  · exact ⟨h, Or.inl rfl⟩
  · exact ⟨hw, good_of_word (exTW_good w hw)⟩
theorem ex_blind {as : List Value} : FrameBlind (va_Pc (as.map (ex_v G.1)) (ex_P G h)) := by
  intro a U g mk q
  obtain ⟨q0, q1, q2, q3⟩ := q
  exact ⟨q0, q1, q2, ex_K.same (s := U) (U := U.calling g mk a) rfl q3⟩
theorem ex_pre {as : List Value} {H : Heap} (hP : va_P G.2.1 exCl (ex_w G h) H) (hz : H.size = G.1 + h.1) (hK : ex_K G s) : ∀ U : State, U.heap = H → s.WarmedH U.vm → va_Pc (as.map (ex_v G.1)) (ex_P G h) (as.map (ex_v G.1)).toArray U :=
  fun U hU hW => ⟨rfl, by rw [hU]; exact hP, by rw [hU]; exact hz, ex_K.warm hW hK⟩
theorem ex_after {P : Option Value → ex_H → Prop} {H : Heap} {ls : Array Slot} {locs : List Loc} {st0 : List Value} {a0 : Array Value} {mc' ms' : Nat} (hg : ex_ok M G p s m args meth c) (hl : ex_has G.1 M.2.2.1 ls L) (hn : s.heap.size + cells = G.1 + h.1) (hz : H.size = G.1 + h.1) (hS : va_S (fun q => G.1 ≤ q) s.heap H locs) (hr : va_Run p l e R s m args below meth c H locs cells slots mc' ms' (F0 m pc ls st0) (st.map (ex_v G.1)) (ex_Q G mc' P a0) (fun q => G.1 ≤ q))
    (kk : ∀ r h', P r h' → EX M l G R Q p e s m args below meth c (cells + mc') (slots + ms') (pc + 3) L (r.toList ++ st) h') : W p l e R s m args below meth c H locs cells slots Q (F0 m pc ls st0) := by
  intro T hT X
  obtain ⟨v, st₀, t, T', L', h0, X', hL, e1, e2, ⟨⟨r, h', hv, hp, ⟨hP1, hz1, hK1⟩, hsz⟩, hz2, hk⟩, st9⟩ := hr T hT X
  cases hv
  rw [h0] at hz2 hk hsz
  have hS1 : va_S (fun q => G.1 ≤ q) s.heap T'.heap (locs ++ L') := by
    refine ⟨Nat.le_trans hS.1 (by rw [e1]; exact hz2), fun q h1 h2 => ?_, fun q hq => ?_⟩
    · rw [e1, hk q (Nat.lt_of_lt_of_le h1 hS.1) h2]
      exact hS.2.1 q h1 h2
    · rcases List.mem_append.mp hq with h9 | h9
      · exact hS.2.2 q h9
      · exact hL q h9
  obtain ⟨t2, a1, b1⟩ := kk r h' hp hg T'.heap ls (locs ++ L') hl (by rw [e1]; exact hP1) (by omega) hS1 T' rfl X'
  refine ⟨t2, st9 t2 ?_, b1⟩
  have e9 : (r.toList ++ st).map (ex_v G.1) = (r.map (ex_v G.1)).toList ++ st.map (ex_v G.1) := by cases r <;> simp
  rw [e9] at a1
  exact a1
theorem ex_cat (st : List Value) (h8 : (st.map fun v => v.category).sum ≤ 8) : ((st.map (ex_v G.1)).map fun v => v.category).sum ≤ 8 := by
  have e : (st.map (ex_v G.1)).map (fun v => v.category) = st.map fun v => v.category := by
    rw [List.map_map]
    exact List.map_congr_left (fun v _ => ex_v_cat _ v)
  rw [e]
  exact h8
theorem ex_callV {a ci : Nat} {r0 : vw_C} {M' : ex_M} {P : Option Value → ex_H → Prop} {idx n d' mc' ms' : Nat} {as st stk : List Value} (hd : decode M.2.1 pc = .ok (.invokevirtual idx, 3)) (hw : ex_MW M' n) (hi : ex_MI M') (hlk : ex_LK M.1.cls idx M'.1) (ha : a < h.1) (hs : h.2.1 a = .inl ci) (hc : exCl[ci]? = some r0) (hcn : r0.1 = M'.1.cls) (hct : CT l G d' M' (.ref a :: as) h mc' ms' P) (hdd : ex_lt R d') (hroom : cells + mc' ≤ R.cells ∧ slots + ms' ≤ R.slots) (hlen : as.length = n) (hstk : stk = as.reverse ++ .ref a :: st) (h8 : (st.map fun v => v.category).sum ≤ 8) (kk : ∀ r h', P r h' → EX M l G R Q p e s m args below meth c (cells + mc') (slots + ms') (pc + 3) L (r.toList ++ st) h') : EX M l G R Q p e s m args below meth c cells slots pc L stk h := by
  subst hstk
  intro hg H ls locs hl hP hn hS
  refine ex_size fun hz => ?_
  have hlo := ex_low hP hS hg.2.2.2.2.2.2.2.2.2
  have hz1 : H.size = G.1 + h.1 := by omega
  obtain ⟨w1, w2, w3, w4, w5, w6⟩ := hw
  have hts := hg.2.2.2.2.1
  have hpv : PreV s H M'.1.cls (G.1 + a) (va_Pc ((Value.ref a :: as).map (ex_v G.1)) (ex_P G h)) (as.map (ex_v G.1)) := by
    refine ⟨ex_blind, ?_, ex_pre (as := .ref a :: as) hP hz1 hg.2.2.2.2.2.2.2.2.1⟩
    rw [← hcn]
    exact va_recv hg.2.2.2.2.2.2.2.2.1.1 hP hc (by rw [ex_w_at ha, ex_cell_o hs])
  have hstk2 : (F0 m pc ls ((as.reverse ++ .ref a :: st).map (ex_v G.1))).stack = (as.map (ex_v G.1)).reverse ++ .ref (G.1 + a) :: st.map (ex_v G.1) := by
    show (as.reverse ++ .ref a :: st).map (ex_v G.1) = _
    rw [List.map_append, List.map_reverse]
    rfl
  have hR : (ex_rm d' mc' ms').frames + 1 ≤ R.frames ∧ 8 + (M'.2.2.1 + 11) + (ex_rm d' mc' ms').locals ≤ R.locals := by
    refine ⟨hdd.1, ?_⟩
    have h9 := hdd.2
    show 8 + (M'.2.2.1 + 11) + 64 * d' ≤ R.locals
    omega
  rcases hlk with hlk | ⟨host, hlk⟩
  · exact ex_after hg hl hn hz1 hS (va_runV (nL := M.2.2.1) ⟨hg.1, hg.2.1, hg.2.2.1, hg.2.2.2.1, hts⟩ hct ⟨callB_of n hts (ex_good w1) rfl rfl rfl (hts _ w2) (hts _ hlk) ⟨w3, w4, w5⟩ hR, hts _ hi.1, hts _ hi.2⟩ hpv rfl (by rw [List.length_map]; exact hlen) hl.1 hstk2 (lv_room (ex_cat st h8)) hd hroom) kk
  · exact ex_after hg hl hn hz1 hS (va_runVN (nL := M.2.2.1) (C := M'.1.cls) ⟨hg.1, hg.2.1, hg.2.2.1, hg.2.2.2.1, hts⟩ hct ⟨va_cnB n hts (ex_good w1) rfl rfl rfl (hg.2.2.2.2.2.2.2.2.1.2.1 _ hlk) (hts _ w2) ⟨w3, w4, w5⟩ hR, hts _ hi.1, hts _ hi.2⟩ hpv rfl (by rw [List.length_map]; exact hlen) hl.1 hstk2 (lv_room (ex_cat st h8)) hd hroom) kk
theorem ex_callS {M' : ex_M} {P : Option Value → ex_H → Prop} {idx n d' mc' ms' : Nat} {as st stk : List Value} (hd : decode M.2.1 pc = .ok (.invokestatic idx, 3)) (hw : ex_MW M' n) (hi : Cond.static M'.1 ∈ exTW) (hlk : ex_LK M.1.cls idx M'.1) (hct : CT l G d' M' as h mc' ms' P) (hdd : ex_lt R d') (hroom : cells + mc' ≤ R.cells ∧ slots + ms' ≤ R.slots) (hlen : as.length = n) (hstk : stk = as.reverse ++ st) (h8 : (st.map fun v => v.category).sum ≤ 8) (kk : ∀ r h', P r h' → EX M l G R Q p e s m args below meth c (cells + mc') (slots + ms') (pc + 3) L (r.toList ++ st) h') : EX M l G R Q p e s m args below meth c cells slots pc L stk h := by
  subst hstk
  intro hg H ls locs hl hP hn hS
  refine ex_size fun hz => ?_
  have hlo := ex_low hP hS hg.2.2.2.2.2.2.2.2.2
  have hz1 : H.size = G.1 + h.1 := by omega
  obtain ⟨w1, w2, w3, w4, w5, w6⟩ := hw
  have hts := hg.2.2.2.2.1
  have hpv : PreS s H (va_Pc (as.map (ex_v G.1)) (ex_P G h)) (as.map (ex_v G.1)) := ⟨ex_blind, ex_pre hP hz1 hg.2.2.2.2.2.2.2.2.1⟩
  have hstk2 : (F0 m pc ls ((as.reverse ++ st).map (ex_v G.1))).stack = (as.map (ex_v G.1)).reverse ++ st.map (ex_v G.1) := by
    show (as.reverse ++ st).map (ex_v G.1) = _
    rw [List.map_append, List.map_reverse]
  have hR : (ex_rm d' mc' ms').frames + 1 ≤ R.frames ∧ 8 + (M'.2.2.1 + 11) + (ex_rm d' mc' ms').locals ≤ R.locals := by
    refine ⟨hdd.1, ?_⟩
    have h9 := hdd.2
    show 8 + (M'.2.2.1 + 11) + 64 * d' ≤ R.locals
    omega
  rcases hlk with hlk | ⟨host, hlk⟩
  · exact ex_after hg hl hn hz1 hS (va_runS (nL := M.2.2.1) ⟨hg.1, hg.2.1, hg.2.2.1, hg.2.2.2.1, hts⟩ hct ⟨callB_of n hts (ex_good w1) rfl rfl rfl (hts _ w2) (hts _ hlk) ⟨w3, w4, w5⟩ hR, hts _ hi⟩ hpv rfl (by rw [List.length_map]; exact hlen) hl.1 hstk2 (lv_room (ex_cat st h8)) hd hroom) kk
  · exact ex_after hg hl hn hz1 hS (va_runSN (nL := M.2.2.1) ⟨hg.1, hg.2.1, hg.2.2.1, hg.2.2.2.1, hts⟩ hct ⟨va_cnB n hts (ex_good w1) rfl rfl rfl (hg.2.2.2.2.2.2.2.2.1.2.1 _ hlk) (hts _ w2) ⟨w3, w4, w5⟩ hR, hts _ hi, trivial⟩ hpv rfl (by rw [List.length_map]; exact hlen) hl.1 hstk2 (lv_room (ex_cat st h8)) hd hroom) kk
theorem ex_callI {a : Nat} {M' : ex_M} {P : Option Value → ex_H → Prop} {idx n d' mc' ms' : Nat} {as st stk : List Value} (hd : decode M.2.1 pc = .ok (.invokespecial idx, 3)) (hw : ex_MW M' n) (hi : Cond.instanceMethod M'.1 ∈ exTW) (hnm : M'.1.name = "<init>") (hret : M'.2.2.2 = none) (hlk : ex_LK M.1.cls idx M'.1) (hct : CT l G d' M' (.ref a :: as) h mc' ms' P) (hdd : ex_lt R d') (hroom : cells + mc' ≤ R.cells ∧ slots + ms' ≤ R.slots) (hlen : as.length = n) (hstk : stk = as.reverse ++ .ref a :: st) (h8 : (st.map fun v => v.category).sum ≤ 8) (kk : ∀ r h', P r h' → EX M l G R Q p e s m args below meth c (cells + mc') (slots + ms') (pc + 3) L (r.toList ++ st) h') : EX M l G R Q p e s m args below meth c cells slots pc L stk h := by
  subst hstk
  intro hg H ls locs hl hP hn hS
  refine ex_size fun hz => ?_
  have hlo := ex_low hP hS hg.2.2.2.2.2.2.2.2.2
  have hz1 : H.size = G.1 + h.1 := by omega
  obtain ⟨w1, w2, w3, w4, w5, w6⟩ := hw
  have hts := hg.2.2.2.2.1
  have hpv : PreS s H (va_Pc ((Value.ref a :: as).map (ex_v G.1)) (ex_P G h)) (.ref (G.1 + a) :: as.map (ex_v G.1)) := ⟨ex_blind, ex_pre (as := .ref a :: as) hP hz1 hg.2.2.2.2.2.2.2.2.1⟩
  have hstk2 : (F0 m pc ls ((as.reverse ++ .ref a :: st).map (ex_v G.1))).stack = (as.map (ex_v G.1)).reverse ++ .ref (G.1 + a) :: st.map (ex_v G.1) := by
    show (as.reverse ++ .ref a :: st).map (ex_v G.1) = _
    rw [List.map_append, List.map_reverse]
    rfl
  have hR : (ex_rm d' mc' ms').frames + 1 ≤ R.frames ∧ 8 + (M'.2.2.1 + 11) + (ex_rm d' mc' ms').locals ≤ R.locals := by
    refine ⟨hdd.1, ?_⟩
    have h9 := hdd.2
    show 8 + (M'.2.2.1 + 11) + 64 * d' ≤ R.locals
    omega
  have hcode : Cond.code M'.1 M'.2.1 M'.2.2.1 M'.2.2.2 = Cond.code M'.1 M'.2.1 M'.2.2.1 none := by rw [hret]
  rcases hlk with hlk | ⟨host, hlk⟩
  · exact ex_after hg hl hn hz1 hS (va_runI (nL := M.2.2.1) (bytes := M'.2.1) (maxL := M'.2.2.1) ⟨hg.1, hg.2.1, hg.2.2.1, hg.2.2.2.1, hts⟩ hct ⟨callB_of n hts (ex_good w1) (by rw [hcode]) rfl rfl (hts _ w2) (hts _ hlk) ⟨w3, w4, w5⟩ hR, hnm, hts _ hi⟩ hpv rfl (by rw [List.length_map]; exact hlen) hl.1 hstk2 (lv_room (ex_cat st h8)) hd hroom) kk
  · exact ex_after hg hl hn hz1 hS (va_runIN (nL := M.2.2.1) (bytes := M'.2.1) (maxL := M'.2.2.1) ⟨hg.1, hg.2.1, hg.2.2.1, hg.2.2.2.1, hts⟩ hct ⟨va_cnB n hts (ex_good w1) (by rw [hcode]) rfl rfl (hg.2.2.2.2.2.2.2.2.1.2.1 _ hlk) (hts _ w2) ⟨w3, w4, w5⟩ hR, hnm, hts _ hi⟩ hpv rfl (by rw [List.length_map]; exact hlen) hl.1 hstk2 (lv_room (ex_cat st h8)) hd hroom) kk
theorem ex_objInit {idx a : Nat} (hd : decode M.2.1 pc = .ok (.invokespecial idx, 3)) (hw1 : Cond.methodLink M.1.cls idx Lib.objectInit ∈ exTW) (hw2 : Cond.instanceMethod Lib.objectInit ∈ exTW) (hw3 : Cond.code Lib.objectInit ⟨#[0xb1]⟩ 1 none ∈ exTW) (hdd : ex_lt R 0) (h8 : (st.map fun v => v.category).sum ≤ 8) (kk : EX M l G R Q p e s m args below meth c cells slots (pc + 3) L st h) : EX M l G R Q p e s m args below meth c cells slots pc L (.ref a :: st) h := by
  intro hg H ls locs hl hP hn hS
  have hts := hg.2.2.2.2.1
  refine W.objInit hg.1 hg.2.1 hg.2.2.2.1 (hts _ hw1) (hts _ hw2) (hts _ hw3) rfl (by rw [hg.2.2.1]; exact hl.1) rfl hd hdd.1 ?_ (kk hg H ls locs hl hP hn hS)
  have h9 := lv_room (m := m) (pc := pc) (ls := ls) (rest := (Value.ref a :: st).map (ex_v G.1)) (ex_cat (G := G) st h8)
  have h7 := hdd.2
  omega
theorem ex_RA {c1 c2 : ClassId} {ty : FieldType} (h1 : va_RA s c1 ty) (h2 : va_RA s c2 ty) : c1 = c2 := by
  cases ty with
  | object C =>
    obtain ⟨_, _, -, -, -, e1⟩ := h1
    obtain ⟨_, _, -, -, -, e2⟩ := h2
    exact Option.some.inj (e1.symm.trans e2)
  | _ => exact Option.some.inj (Eq.trans (Eq.symm h1) h2)
theorem ex_newat {H1 : Heap} {q : Nat} {E : va_E} (hP1 : va_P G.2.1 exCl (ex_w G h ++ [(q, E)]) H1) (hD1 : va_D (fun q => G.1 ≤ q) (ex_w G h ++ [(q, E)])) (hz : H1.size ≤ G.1 + h.1 + 1) : q = G.1 + h.1 := by
  have hat : (ex_w G h ++ [(q, E)])[h.1]? = some (q, E) := by
    rw [List.getElem?_append_right (by rw [ex_w_len]; exact Nat.le_refl _), ex_w_len, Nat.sub_self]
    rfl
  have h1 : q < H1.size := (hP1 h.1 _ hat).lt
  have h2 : G.1 ≤ q := hD1.2 h.1 _ hat
  have h3 : ¬ q < G.1 + h.1 := by
    intro hlt
    have hk : q - G.1 < h.1 := by omega
    have h4 : (ex_w G h ++ [(q, E)])[q - G.1]? = some (G.1 + (q - G.1), ex_cell G h (q - G.1)) := by
      rw [List.getElem?_append_left (by rw [ex_w_len]; exact hk), ex_w_at hk]
    have h5 := hD1.1 _ _ _ _ h4 hat (show G.1 + (q - G.1) = q by omega)
    omega
  omega
/-- a class of the tables: its name, its fields, what a new object holds -/
def ex_CL (ci : Nat) (C : String) (N : Nat) : Prop := ∃ (T : u_T) (ty : Nat → FieldType), exCl[ci]? = some (C, T, N) ∧ (exFk ci).length = N ∧ (∀ w ∈ u_ws C T N, w ∈ exTW) ∧ (∀ k, k < N → parseFieldDescriptor (T k).2.2.1 = some (ty k)) ∧ (∀ k, k < N → defaultValue (ty k) = if (exFk ci).getD k false = true then .null else .int 0) ∧ Cond.instantiable C N ∈ exTW ∧ Cond.initialized C ∈ exTW
theorem ex_new {idx N : Nat} {C : String} (ci : Nat) (hd : decode M.2.1 pc = .ok (.new idx, 3)) (hcl : ex_CL ci C N) (hlk : Cond.classLink M.1.cls idx C ∈ exTW) (hc1 : cells + 1 ≤ R.cells) (hs1 : slots + N ≤ R.slots) (kk : EX M l G R Q p e s m args below meth c (cells + 1) (slots + N) (pc + 3) L (.ref h.1 :: st) (ex_no h ci)) : EX M l G R Q p e s m args below meth c cells slots pc L st h := by
  intro hg H ls locs hl hP hn hS
  obtain ⟨T, ty, hc, hN, hu, hty, hdf, hw1, hw2⟩ := hcl
  have hts := hg.2.2.2.2.1
  have hfs : ∀ j, j < N → defaultValue (ty j) = vp_V (ex_fs G.1 (exFk ci) (fun _ => 0) (fun _ => none)) j := by
    intro j hj
    have e9 : (ex_fs G.1 (exFk ci) (fun _ => 0) (fun _ => none)).getD j .null = if (exFk ci).getD j false = true then .null else .int 0 := by
      rw [List.getD_eq_getElem?_getD, ex_fs_at (by rw [hN]; exact hj)]
      rfl
    rw [hdf j hj]
    exact e9.symm
  refine va_new (ci := ci) hg.1 hg.2.1 hts hu ty hty hg.2.2.2.1 (hts _ hlk) (hts _ hw1) (hts _ hw2) hg.2.2.2.2.2.2.2.2.1.1 hP (ex_D G h) hS (fun q hq => Nat.le_trans hg.2.2.2.2.2.2.2.2.2 hq) hc hfs hc1 hs1 hd (fun q H1 hP1 hD1 hS1 => ?_)
  refine ex_size fun hz => ?_
  have hq := ex_newat hP1 hD1 (by omega)
  subst hq
  have hw : ex_w G h ++ [(G.1 + h.1, .inr (ci, ex_fs G.1 (exFk ci) (fun _ => 0) (fun _ => none)))] = ex_w G (ex_no h ci) := by
    have e1 : ex_cell G (ex_no h ci) h.1 = .inr (ci, ex_fs G.1 (exFk ci) (fun _ => 0) (fun _ => none)) := by
      rw [ex_cell_o (h := ex_no h ci) (ci := ci) (va_up_self _ _ _)]
      show Sum.inr (ci, ex_fs G.1 (exFk ci) (va_up h.2.2.2.1 h.1 (fun _ => 0) h.1) (va_up h.2.2.2.2 h.1 (fun _ => none) h.1)) = _
      rw [va_up_self, va_up_self]
    rw [← e1]
    exact ex_w_push rfl (fun j hj => ex_cell_c (va_up_ne _ _ (Nat.ne_of_lt hj)) rfl (va_up_ne _ _ (Nat.ne_of_lt hj)) (va_up_ne _ _ (Nat.ne_of_lt hj)))
  rw [hw] at hP1
  refine kk hg H1 ls locs hl hP1 ?_ hS1
  show _ = G.1 + (h.1 + 1)
  omega
theorem ex_newarr {x : Int32} {atype : ArrayType} {ty : FieldType} (t n : Nat) (hd : decode M.2.1 pc = .ok (.newarray atype, 2)) (harr : Cond.arrayClass (newarray.typeOf atype) ∈ exTW) (hty : newarray.typeOf atype = ty) (ht : exTy[t]? = some ty) (hr : exRk t = false) (hdv : defaultValue ty = .int 0) (hx : x.toInt = (n : Int)) (hb : n * componentBytes ty ≤ 536870912) (hc1 : cells + 1 ≤ R.cells) (hs1 : slots + n ≤ R.slots) (kk : EX M l G R Q p e s m args below meth c (cells + 1) (slots + n) (pc + 2) L (.ref h.1 :: st) (ex_na h t n)) : EX M l G R Q p e s m args below meth c cells slots pc L (.int x :: st) h := by
  intro hg H ls locs hl hP hn hS
  have hts := hg.2.2.2.2.1
  have hx0 : ¬ x < 0 := fun q => by
    have h1 := Int32.lt_iff_toInt_lt.mp q
    have h2 : (0 : Int32).toInt = 0 := rfl
    omega
  refine va_newa (a0 := (n, .inl (fun _ => 0))) hg.1 hg.2.1 (hts _ harr) hty hg.2.2.2.2.2.2.2.2.1.1 hP (ex_D G h) hS (fun q hq => Nat.le_trans hg.2.2.2.2.2.2.2.2.2 hq) (fun cA => by rw [vp_cell_i, hdv]) hx0 (show x.toInt.toNat = n by omega) hb hc1 hs1 hd (fun q cA H1 hK1 hP1 hD1 hS1 => ?_)
  refine ex_size fun hz => ?_
  have hq := ex_newat hP1 hD1 (by omega)
  subst hq
  have hcA : cA = G.2.2 t := by
    have h1 := (hK1.2 (ex_ty G).length _ (by rw [List.getElem?_append_right (Nat.le_refl _), Nat.sub_self]; rfl)).2
    exact ex_RA h1 (hg.2.2.2.2.2.2.2.2.1.1.2 t _ (ex_ty_at ht)).2
  subst hcA
  have hw : ex_w G h ++ [(G.1 + h.1, .inl (G.2.2 t, n, .inl (fun _ => 0)))] = ex_w G (ex_na h t n) := by
    have e1 : ex_cell G (ex_na h t n) h.1 = .inl (G.2.2 t, n, .inl (fun _ => 0)) := by
      rw [ex_cell_i (h := ex_na h t n) (t := t) (va_up_self _ _ _) hr]
      show Sum.inl (G.2.2 t, va_up h.2.2.1 h.1 n h.1, Sum.inl (va_up h.2.2.2.1 h.1 (fun _ => 0) h.1)) = _
      rw [va_up_self, va_up_self]
    rw [← e1]
    exact ex_w_push rfl (fun j hj => ex_cell_c (va_up_ne _ _ (Nat.ne_of_lt hj)) (va_up_ne _ _ (Nat.ne_of_lt hj)) (va_up_ne _ _ (Nat.ne_of_lt hj)) (va_up_ne _ _ (Nat.ne_of_lt hj)))
  rw [hw] at hP1
  refine kk hg H1 ls locs hl hP1 ?_ hS1
  show _ = G.1 + (h.1 + 1)
  omega
theorem ex_newref {x : Int32} {idx : Nat} {C : String} (t n : Nat) (hd : decode M.2.1 pc = .ok (.anewarray idx, 3)) (hlk : Cond.classLink M.1.cls idx C ∈ exTW) (hao : C ∈ exAO) (ht : exTy[t]? = some (.object C)) (hr : exRk t = true) (hx : x.toInt = (n : Int)) (hb : n * 4 ≤ 536870912) (hc1 : cells + 1 ≤ R.cells) (hs1 : slots + n ≤ R.slots) (kk : EX M l G R Q p e s m args below meth c (cells + 1) (slots + n) (pc + 3) L (.ref h.1 :: st) (ex_na h t n)) : EX M l G R Q p e s m args below meth c cells slots pc L (.int x :: st) h := by
  intro hg H ls locs hl hP hn hS
  have hts := hg.2.2.2.2.1
  have hx0 : ¬ x < 0 := fun q => by
    have h1 := Int32.lt_iff_toInt_lt.mp q
    have h2 : (0 : Int32).toInt = 0 := rfl
    omega
  refine va_newq hg.1 hg.2.1 hg.2.2.2.1 (hts _ hlk) (hg.2.2.2.2.2.2.2.2.1.2.2 _ hao) hg.2.2.2.2.2.2.2.2.1.1 hP (ex_D G h) hS (fun q hq => Nat.le_trans hg.2.2.2.2.2.2.2.2.2 hq) hx0 (show x.toInt.toNat = n by omega) hb hc1 hs1 hd (fun q cA H1 hK1 hP1 hD1 hS1 => ?_)
  refine ex_size fun hz => ?_
  have hq := ex_newat hP1 hD1 (by omega)
  subst hq
  have hcA : cA = G.2.2 t := by
    have h1 := (hK1.2 (ex_ty G).length _ (by rw [List.getElem?_append_right (Nat.le_refl _), Nat.sub_self]; rfl)).2
    exact ex_RA h1 (hg.2.2.2.2.2.2.2.2.1.1.2 t _ (ex_ty_at ht)).2
  subst hcA
  have hw : ex_w G h ++ [(G.1 + h.1, .inl (G.2.2 t, n, .inr (.inr (.inr (.inr (fun _ => none))))))] = ex_w G (ex_na h t n) := by
    have e1 : ex_cell G (ex_na h t n) h.1 = .inl (G.2.2 t, n, .inr (.inr (.inr (.inr (fun _ => none))))) := by
      rw [ex_cell_q (h := ex_na h t n) (t := t) (va_up_self _ _ _) hr]
      show Sum.inl (G.2.2 t, va_up h.2.2.1 h.1 n h.1, Sum.inr (Sum.inr (Sum.inr (Sum.inr (fun j => (va_up h.2.2.2.2 h.1 (fun _ => none) h.1 j).map (G.1 + ·)))))) = _
      rw [va_up_self, va_up_self]
      rfl
    rw [← e1]
    exact ex_w_push rfl (fun j hj => ex_cell_c (va_up_ne _ _ (Nat.ne_of_lt hj)) (va_up_ne _ _ (Nat.ne_of_lt hj)) (va_up_ne _ _ (Nat.ne_of_lt hj)) (va_up_ne _ _ (Nat.ne_of_lt hj)))
  rw [hw] at hP1
  refine kk hg H1 ls locs hl hP1 ?_ hS1
  show _ = G.1 + (h.1 + 1)
  omega
theorem ex_copy {idx a b t : Nat} {sp dp nn : Int32} {ty : FieldType} (i j n : Nat) (hd : decode M.2.1 pc = .ok (.invokestatic idx, 3)) (hw1 : Cond.methodLink M.1.cls idx arraycopyName ∈ exTW) (hw2 : Cond.native arraycopyName ∈ exTW) (hw3 : Cond.static arraycopyName ∈ exTW) (hw4 : Cond.initialized "java/lang/System" ∈ exTW) (ha : a < h.1) (hs : h.2.1 a = .inr t) (hb : b < h.1) (hsb : h.2.1 b = .inr t) (hr : exRk t = false) (ht : exTy[t]? = some ty) (hprim : refKind ty = false) (h1 : sp.toInt = (i : Int)) (h2 : dp.toInt = (j : Int)) (h3 : nn.toInt = (n : Int)) (h4 : i + n ≤ h.2.2.1 a) (h5 : j + n ≤ h.2.2.1 b) (hfit : ∀ k, k < n → fits ty (.int (h.2.2.2.1 a (i + k))) = true) (hdd : ex_lt R 0) (h8 : (st.map fun v => v.category).sum ≤ 8) (kk : EX M l G R Q p e s m args below meth c cells slots (pc + 3) L st (ex_sa h b (va_cpy (h.2.2.2.1 a) (h.2.2.2.1 b) i j n))) : EX M l G R Q p e s m args below meth c cells slots pc L (.int nn :: .int dp :: .ref b :: .int sp :: .ref a :: st) h := by
  intro hg H ls locs hl hP hn hS
  have hts := hg.2.2.2.2.1
  have c1 : sp.toNatClampNeg = i := by show sp.toInt.toNat = i; omega
  have c2 : dp.toNatClampNeg = j := by show dp.toInt.toNat = j; omega
  have c3 : nn.toNatClampNeg = n := by show nn.toInt.toNat = n; omega
  have nz : ∀ (z : Int32) (k : Nat), z.toInt = (k : Int) → ¬ z < 0 := fun z k hz q => by
    have g1 := Int32.lt_iff_toInt_lt.mp q
    have g2 : (0 : Int32).toInt = 0 := rfl
    omega
  have h9 := ex_cat (G := G) st h8
  have h7 := hdd.2
  have h6 : nativeFrameWords "java/lang/System" "arraycopy" 5 = 7 := by decide +kernel
  refine va_copyi hg.1 hg.2.1 (by rw [hg.2.2.1]; exact hl.1.symm) hg.2.2.2.1 (hts _ hw1) (hts _ hw2) (hts _ hw3) (hts _ hw4) hg.2.2.2.2.2.2.2.2.1.1 hP (ex_D G h) hS a b t t (by rw [ex_w_at ha, ex_cell_i hs hr]) (by rw [ex_w_at hb, ex_cell_i hsb hr]) (ex_ty_at ht) (ex_ty_at ht) hprim (nz sp i h1) (nz dp j h2) (nz nn n h3) (by rw [c1, c3]; exact h4) (by rw [c2, c3]; exact h5) (by rw [c1, c3]; exact hfit) hdd.1 (by rw [h6]; omega) hd ?_
  rw [c1, c2, c3]
  intro H1 locs1 hP1 _ hS1
  have hset : (ex_w G h).set b (G.1 + b, .inl (G.2.2 t, h.2.2.1 b, .inl (va_cpy (h.2.2.2.1 a) (h.2.2.2.1 b) i j n))) = ex_w G (ex_sa h b (va_cpy (h.2.2.2.1 a) (h.2.2.2.1 b) i j n)) := by
    refine ex_w_set hb rfl ?_ (fun j hj => ex_cell_c rfl rfl (va_up_ne _ _ hj) rfl)
    rw [ex_cell_i (h := ex_sa h b _) (t := t) hsb hr]
    show Sum.inl (G.2.2 t, h.2.2.1 b, Sum.inl (va_up h.2.2.2.1 b _ b)) = _
    rw [va_up_self]
  rw [hset] at hP1
  exact kk hg H1 ls locs1 hl hP1 hn hS1
end EXR
end
section
/-! what the tables say of pool entries, methods, classes: by program (wip/whole/names.py) -/
theorem CL_TG : ex_CL 0 R_TG 10 := ⟨T_TG, t_TG, rfl, rfl, u_TG, t_TG_ok, by decide +kernel, ex_tw 16 (by decide +kernel) rfl, ex_tw 1 (by decide +kernel) rfl⟩
theorem CL_An : ex_CL 1 R_An 3 := ⟨T_An, t_An, rfl, rfl, u_An, t_An_ok, by decide +kernel, ex_tw 288 (by decide +kernel) rfl, ex_tw 12 (by decide +kernel) rfl⟩
theorem CL_Dr : ex_CL 2 R_Dr 2 := ⟨T_Dr, t_Dr, rfl, rfl, u_Dr, t_Dr_ok, by decide +kernel, ex_tw 24 (by decide +kernel) rfl, ex_tw 2 (by decide +kernel) rfl⟩
theorem CL_El : ex_CL 3 R_El 10 := ⟨T_El, t_El, rfl, rfl, u_El, t_El_ok, by decide +kernel, ex_tw 136 (by decide +kernel) rfl, ex_tw 8 (by decide +kernel) rfl⟩
theorem CL_Fa : ex_CL 4 R_Fa 2 := ⟨T_Fa, t_Fa, rfl, rfl, u_Fa, t_Fa_ok, by decide +kernel, ex_tw 222 (by decide +kernel) rfl, ex_tw 9 (by decide +kernel) rfl⟩
theorem CL_Fo : ex_CL 5 R_Fo 5 := ⟨T_Fo, t_Fo, rfl, rfl, u_Fo, t_Fo_ok, by decide +kernel, ex_tw 236 (by decide +kernel) rfl, ex_tw 10 (by decide +kernel) rfl⟩
theorem CL_In : ex_CL 6 R_In 6 := ⟨T_In, t_In, rfl, rfl, u_In, t_In_ok, by decide +kernel, ex_tw 258 (by decide +kernel) rfl, ex_tw 11 (by decide +kernel) rfl⟩
theorem CL_Mo : ex_CL 7 R_Mo 6 := ⟨T_Mo, t_Mo, rfl, rfl, u_Mo, t_Mo_ok, by decide +kernel, ex_tw 45 (by decide +kernel) rfl, ex_tw 4 (by decide +kernel) rfl⟩
theorem CL_Mr : ex_CL 8 R_Mr 6 := ⟨T_Mr, t_Mr, rfl, rfl, u_Mr, t_Mr_ok, by decide +kernel, ex_tw 39 (by decide +kernel) rfl, ex_tw 3 (by decide +kernel) rfl⟩
theorem CL_Ms : ex_CL 9 R_Ms 3 := ⟨T_Ms, t_Ms, rfl, rfl, u_Ms, t_Ms_ok, by decide +kernel, ex_tw 92 (by decide +kernel) rfl, ex_tw 5 (by decide +kernel) rfl⟩
theorem CL_Tx : ex_CL 10 R_Tx 2 := ⟨T_Tx, t_Tx, rfl, rfl, u_Tx, t_Tx_ok, by decide +kernel, ex_tw 113 (by decide +kernel) rfl, ex_tw 6 (by decide +kernel) rfl⟩
theorem CL_Tr : ex_CL 11 R_Tr 8 := ⟨T_Tr, t_Tr, rfl, rfl, u_Tr, t_Tr_ok, by decide +kernel, ex_tw 129 (by decide +kernel) rfl, ex_tw 7 (by decide +kernel) rfl⟩
theorem CL_RF : ex_CL 12 R_RF 44 := ⟨T_RF, t_RF, rfl, rfl, u_RF, t_RF_ok, by decide +kernel, ex_tw 721 (by decide +kernel) rfl, ex_tw 13 (by decide +kernel) rfl⟩
theorem FL_TG_12 : ex_FL "TagGuide" 12 0 0 true := ⟨R_TG, T_TG, 10, rfl, by decide, rfl, rfl, u_TG, Or.inl (ex_tw 303 (by decide +kernel) rfl)⟩
theorem FL_TG_21 : ex_FL "TagGuide" 21 0 1 true := ⟨R_TG, T_TG, 10, rfl, by decide, rfl, rfl, u_TG, Or.inl (ex_tw 304 (by decide +kernel) rfl)⟩
theorem FL_TG_28 : ex_FL "TagGuide" 28 0 2 true := ⟨R_TG, T_TG, 10, rfl, by decide, rfl, rfl, u_TG, Or.inl (ex_tw 305 (by decide +kernel) rfl)⟩
theorem FL_TG_35 : ex_FL "TagGuide" 35 0 3 true := ⟨R_TG, T_TG, 10, rfl, by decide, rfl, rfl, u_TG, Or.inl (ex_tw 306 (by decide +kernel) rfl)⟩
theorem FL_TG_44 : ex_FL "TagGuide" 44 0 4 true := ⟨R_TG, T_TG, 10, rfl, by decide, rfl, rfl, u_TG, Or.inl (ex_tw 307 (by decide +kernel) rfl)⟩
theorem FL_TG_51 : ex_FL "TagGuide" 51 0 5 true := ⟨R_TG, T_TG, 10, rfl, by decide, rfl, rfl, u_TG, Or.inl (ex_tw 308 (by decide +kernel) rfl)⟩
theorem FL_TG_60 : ex_FL "TagGuide" 60 0 6 true := ⟨R_TG, T_TG, 10, rfl, by decide, rfl, rfl, u_TG, Or.inl (ex_tw 309 (by decide +kernel) rfl)⟩
theorem FL_TG_67 : ex_FL "TagGuide" 67 0 7 true := ⟨R_TG, T_TG, 10, rfl, by decide, rfl, rfl, u_TG, Or.inl (ex_tw 310 (by decide +kernel) rfl)⟩
theorem FL_TG_74 : ex_FL "TagGuide" 74 0 8 true := ⟨R_TG, T_TG, 10, rfl, by decide, rfl, rfl, u_TG, Or.inl (ex_tw 311 (by decide +kernel) rfl)⟩
theorem FL_TG_78 : ex_FL "TagGuide" 78 0 9 false := ⟨R_TG, T_TG, 10, rfl, by decide, rfl, rfl, u_TG, Or.inl (ex_tw 312 (by decide +kernel) rfl)⟩
theorem FL_TG_94 : ex_FL "TagGuide" 94 9 1 true := ⟨R_Ms, T_Ms, 3, rfl, by decide, rfl, rfl, u_Ms, Or.inr ⟨"TagGuide", ex_tn 102 (by decide +kernel) rfl⟩⟩
theorem FL_TG_127 : ex_FL "TagGuide" 127 6 4 false := ⟨R_In, T_In, 6, rfl, by decide, rfl, rfl, u_In, Or.inr ⟨"TagGuide", ex_tn 272 (by decide +kernel) rfl⟩⟩
theorem FL_TG_131 : ex_FL "TagGuide" 131 6 0 true := ⟨R_In, T_In, 6, rfl, by decide, rfl, rfl, u_In, Or.inr ⟨"TagGuide", ex_tn 264 (by decide +kernel) rfl⟩⟩
theorem FL_TG_135 : ex_FL "TagGuide" 135 6 1 true := ⟨R_In, T_In, 6, rfl, by decide, rfl, rfl, u_In, Or.inr ⟨"TagGuide", ex_tn 266 (by decide +kernel) rfl⟩⟩
theorem FL_TG_138 : ex_FL "TagGuide" 138 6 2 true := ⟨R_In, T_In, 6, rfl, by decide, rfl, rfl, u_In, Or.inr ⟨"TagGuide", ex_tn 268 (by decide +kernel) rfl⟩⟩
theorem FL_TG_141 : ex_FL "TagGuide" 141 6 3 true := ⟨R_In, T_In, 6, rfl, by decide, rfl, rfl, u_In, Or.inr ⟨"TagGuide", ex_tn 270 (by decide +kernel) rfl⟩⟩
theorem FL_TG_161 : ex_FL "TagGuide" 161 10 1 false := ⟨R_Tx, T_Tx, 2, rfl, by decide, rfl, rfl, u_Tx, Or.inr ⟨"TagGuide", ex_tn 122 (by decide +kernel) rfl⟩⟩
theorem FL_TG_165 : ex_FL "TagGuide" 165 11 2 false := ⟨R_Tr, T_Tr, 8, rfl, by decide, rfl, rfl, u_Tr, Or.inr ⟨"TagGuide", ex_tn 198 (by decide +kernel) rfl⟩⟩
theorem FL_TG_168 : ex_FL "TagGuide" 168 11 1 true := ⟨R_Tr, T_Tr, 8, rfl, by decide, rfl, rfl, u_Tr, Or.inr ⟨"TagGuide", ex_tn 194 (by decide +kernel) rfl⟩⟩
theorem FL_TG_180 : ex_FL "TagGuide" 180 9 2 false := ⟨R_Ms, T_Ms, 3, rfl, by decide, rfl, rfl, u_Ms, Or.inr ⟨"TagGuide", ex_tn 104 (by decide +kernel) rfl⟩⟩
theorem FL_TG_192 : ex_FL "TagGuide" 192 4 1 false := ⟨R_Fa, T_Fa, 2, rfl, by decide, rfl, rfl, u_Fa, Or.inr ⟨"TagGuide", ex_tn 229 (by decide +kernel) rfl⟩⟩
theorem LK_TG_3 : ex_LK "TagGuide" 3 ⟨"java/lang/Object", "<init>", "()V"⟩ := Or.inl (ex_tw 20 (by decide +kernel) rfl)
theorem LK_TG_11 : ex_LK "TagGuide" 11 ⟨"TagGuide$Draft", "<init>", "()V"⟩ := Or.inr ⟨"TagGuide", ex_tn 25 (by decide +kernel) rfl⟩
theorem LK_TG_18 : ex_LK "TagGuide" 18 ⟨"TagGuide$ModelReader", "<init>", "(LTagGuide$Draft;)V"⟩ := Or.inl (ex_tw 40 (by decide +kernel) rfl)
theorem LK_TG_27 : ex_LK "TagGuide" 27 ⟨"TagGuide$Models", "<init>", "()V"⟩ := Or.inl (ex_tw 93 (by decide +kernel) rfl)
theorem LK_TG_34 : ex_LK "TagGuide" 34 ⟨"TagGuide$Text", "<init>", "()V"⟩ := Or.inr ⟨"TagGuide", ex_tn 114 (by decide +kernel) rfl⟩
theorem LK_TG_41 : ex_LK "TagGuide" 41 ⟨"TagGuide$Tree", "<init>", "(LTagGuide$Text;)V"⟩ := Or.inl (ex_tw 130 (by decide +kernel) rfl)
theorem LK_TG_50 : ex_LK "TagGuide" 50 ⟨"TagGuide$Faults", "<init>", "()V"⟩ := Or.inr ⟨"TagGuide", ex_tn 223 (by decide +kernel) rfl⟩
theorem LK_TG_57 : ex_LK "TagGuide" 57 ⟨"TagGuide$Former", "<init>", "(LTagGuide$Text;LTagGuide$Tree;LTagGuide$Models;)V"⟩ := Or.inl (ex_tw 237 (by decide +kernel) rfl)
theorem LK_TG_66 : ex_LK "TagGuide" 66 ⟨"TagGuide$Inbox", "<init>", "()V"⟩ := Or.inr ⟨"TagGuide", ex_tn 259 (by decide +kernel) rfl⟩
theorem LK_TG_73 : ex_LK "TagGuide" 73 ⟨"TagGuide$Answers", "<init>", "()V"⟩ := Or.inr ⟨"TagGuide", ex_tn 289 (by decide +kernel) rfl⟩
theorem LK_TG_86 : ex_LK "TagGuide" 86 ⟨"TagGuide", "isName", "(I)Z"⟩ := Or.inl (ex_tw 349 (by decide +kernel) rfl)
theorem LK_TG_82 : ex_LK "TagGuide" 82 ⟨"TagGuide$Draft", "append", "(C)Z"⟩ := Or.inl (ex_tw 338 (by decide +kernel) rfl)
theorem LK_TG_90 : ex_LK "TagGuide" 90 ⟨"TagGuide$Draft", "isTooLarge", "()Z"⟩ := Or.inl (ex_tw 352 (by decide +kernel) rfl)
theorem LK_TG_98 : ex_LK "TagGuide" 98 ⟨"TagGuide$ModelReader", "readInto", "(LTagGuide$Model;)I"⟩ := Or.inl (ex_tw 357 (by decide +kernel) rfl)
theorem LK_TG_102 : ex_LK "TagGuide" 102 ⟨"TagGuide$Models", "useSpareFor", "(I)V"⟩ := Or.inl (ex_tw 410 (by decide +kernel) rfl)
theorem LK_TG_106 : ex_LK "TagGuide" 106 ⟨"TagGuide$Draft", "clear", "()V"⟩ := Or.inl (ex_tw 434 (by decide +kernel) rfl)
theorem LK_TG_109 : ex_LK "TagGuide" 109 ⟨"TagGuide$Inbox", "put", "(IIII)Z"⟩ := Or.inl (ex_tw 442 (by decide +kernel) rfl)
theorem LK_TG_113 : ex_LK "TagGuide" 113 ⟨"TagGuide$Inbox", "isFull", "()Z"⟩ := Or.inl (ex_tw 458 (by decide +kernel) rfl)
theorem LK_TG_116 : ex_LK "TagGuide" 116 ⟨"TagGuide$Inbox", "putRequest", "(III)I"⟩ := Or.inl (ex_tw 459 (by decide +kernel) rfl)
theorem LK_TG_120 : ex_LK "TagGuide" 120 ⟨"TagGuide$Inbox", "find", "(I)I"⟩ := Or.inl (ex_tw 468 (by decide +kernel) rfl)
theorem LK_TG_124 : ex_LK "TagGuide" 124 ⟨"TagGuide$Inbox", "takeOut", "(I)Z"⟩ := Or.inl (ex_tw 472 (by decide +kernel) rfl)
theorem LK_TG_144 : ex_LK "TagGuide" 144 ⟨"TagGuide", "change", "(III)V"⟩ := Or.inl (ex_tw 480 (by decide +kernel) rfl)
theorem LK_TG_148 : ex_LK "TagGuide" 148 ⟨"TagGuide", "refresh", "()V"⟩ := Or.inl (ex_tw 496 (by decide +kernel) rfl)
theorem LK_TG_151 : ex_LK "TagGuide" 151 ⟨"TagGuide", "reply", "(III)I"⟩ := Or.inl (ex_tw 596 (by decide +kernel) rfl)
theorem LK_TG_154 : ex_LK "TagGuide" 154 ⟨"TagGuide$Answers", "keep", "(II)V"⟩ := Or.inl (ex_tw 667 (by decide +kernel) rfl)
theorem LK_TG_158 : ex_LK "TagGuide" 158 ⟨"TagGuide$Answers", "of", "(I)I"⟩ := Or.inl (ex_tw 675 (by decide +kernel) rfl)
theorem LK_TG_162 : ex_LK "TagGuide" 162 ⟨"TagGuide$Text", "at", "(I)I"⟩ := Or.inl (ex_tw 691 (by decide +kernel) rfl)
theorem LK_TG_172 : ex_LK "TagGuide" 172 ⟨"TagGuide$Element", "tell", "(I)I"⟩ := Or.inl (ex_tw 696 (by decide +kernel) rfl)
theorem LK_TG_177 : ex_LK "TagGuide" 177 ⟨"TagGuide$Faults", "tell", "(II)I"⟩ := Or.inl (ex_tw 704 (by decide +kernel) rfl)
theorem LK_TG_183 : ex_LK "TagGuide" 183 ⟨"TagGuide$Former", "at", "(I)I"⟩ := Or.inl (ex_tw 716 (by decide +kernel) rfl)
theorem LK_TG_184 : ex_LK "TagGuide" 184 ⟨"TagGuide$Text", "putIn", "(II)V"⟩ := Or.inl (ex_tw 484 (by decide +kernel) rfl)
theorem LK_TG_187 : ex_LK "TagGuide" 187 ⟨"TagGuide$Text", "takeOut", "(II)V"⟩ := Or.inl (ex_tw 492 (by decide +kernel) rfl)
theorem LK_TG_189 : ex_LK "TagGuide" 189 ⟨"TagGuide", "offerAt", "(I)I"⟩ := Or.inl (ex_tw 600 (by decide +kernel) rfl)
theorem LK_TG_193 : ex_LK "TagGuide" 193 ⟨"TagGuide", "renameAt", "(II)I"⟩ := Or.inl (ex_tw 621 (by decide +kernel) rfl)
theorem LK_TG_196 : ex_LK "TagGuide" 196 ⟨"TagGuide$Faults", "preventForm", "()Z"⟩ := Or.inl (ex_tw 637 (by decide +kernel) rfl)
theorem LK_TG_199 : ex_LK "TagGuide" 199 ⟨"TagGuide$Former", "formAnew", "()I"⟩ := Or.inl (ex_tw 641 (by decide +kernel) rfl)
theorem LK_TG_203 : ex_LK "TagGuide" 203 ⟨"TagGuide$Tree", "isWithinTag", "(I)Z"⟩ := Or.inl (ex_tw 604 (by decide +kernel) rfl)
theorem LK_TG_206 : ex_LK "TagGuide" 206 ⟨"TagGuide$Tree", "insideOf", "(I)I"⟩ := Or.inl (ex_tw 608 (by decide +kernel) rfl)
theorem LK_TG_209 : ex_LK "TagGuide" 209 ⟨"TagGuide$Models", "offer", "(LTagGuide$Tree;II)I"⟩ := Or.inl (ex_tw 616 (by decide +kernel) rfl)
theorem LK_TG_213 : ex_LK "TagGuide" 213 ⟨"TagGuide$Tree", "ownerOfTagAt", "(I)I"⟩ := Or.inl (ex_tw 625 (by decide +kernel) rfl)
theorem LK_TG_216 : ex_LK "TagGuide" 216 ⟨"TagGuide$Tree", "renameTags", "(II)I"⟩ := Or.inl (ex_tw 629 (by decide +kernel) rfl)
theorem LK_TG_219 : ex_LK "TagGuide" 219 ⟨"TagGuide$Faults", "clear", "()V"⟩ := Or.inl (ex_tw 500 (by decide +kernel) rfl)
theorem LK_TG_220 : ex_LK "TagGuide" 220 ⟨"TagGuide$Tree", "read", "(LTagGuide$Faults;)V"⟩ := Or.inl (ex_tw 504 (by decide +kernel) rfl)
theorem LK_TG_224 : ex_LK "TagGuide" 224 ⟨"TagGuide$Faults", "judge", "(LTagGuide$Tree;LTagGuide$Models;)V"⟩ := Or.inl (ex_tw 570 (by decide +kernel) rfl)
theorem NL_TG_9 : Cond.classLink "TagGuide" 9 "TagGuide$Draft" ∈ exTW := ex_tw 23 (by decide +kernel) rfl
theorem NL_TG_16 : Cond.classLink "TagGuide" 16 "TagGuide$ModelReader" ∈ exTW := ex_tw 38 (by decide +kernel) rfl
theorem NL_TG_25 : Cond.classLink "TagGuide" 25 "TagGuide$Models" ∈ exTW := ex_tw 91 (by decide +kernel) rfl
theorem NL_TG_32 : Cond.classLink "TagGuide" 32 "TagGuide$Text" ∈ exTW := ex_tw 112 (by decide +kernel) rfl
theorem NL_TG_39 : Cond.classLink "TagGuide" 39 "TagGuide$Tree" ∈ exTW := ex_tw 128 (by decide +kernel) rfl
theorem NL_TG_48 : Cond.classLink "TagGuide" 48 "TagGuide$Faults" ∈ exTW := ex_tw 221 (by decide +kernel) rfl
theorem NL_TG_55 : Cond.classLink "TagGuide" 55 "TagGuide$Former" ∈ exTW := ex_tw 235 (by decide +kernel) rfl
theorem NL_TG_64 : Cond.classLink "TagGuide" 64 "TagGuide$Inbox" ∈ exTW := ex_tw 257 (by decide +kernel) rfl
theorem NL_TG_71 : Cond.classLink "TagGuide" 71 "TagGuide$Answers" ∈ exTW := ex_tw 287 (by decide +kernel) rfl
theorem PF_TG_12 : ex_PF "TagGuide" 12 0 0 true (.object "TagGuide$Draft") "<init>" := ⟨R_TG, T_TG, 10, t_TG, rfl, by decide, rfl, rfl, u_TG, t_TG_ok, n_TG, by decide +kernel, Or.inr ⟨rfl, rfl, rfl, ex_tw 303 (by decide +kernel) rfl⟩⟩
theorem PF_TG_21 : ex_PF "TagGuide" 21 0 1 true (.object "TagGuide$ModelReader") "<init>" := ⟨R_TG, T_TG, 10, t_TG, rfl, by decide, rfl, rfl, u_TG, t_TG_ok, n_TG, by decide +kernel, Or.inr ⟨rfl, rfl, rfl, ex_tw 304 (by decide +kernel) rfl⟩⟩
theorem PF_TG_28 : ex_PF "TagGuide" 28 0 2 true (.object "TagGuide$Models") "<init>" := ⟨R_TG, T_TG, 10, t_TG, rfl, by decide, rfl, rfl, u_TG, t_TG_ok, n_TG, by decide +kernel, Or.inr ⟨rfl, rfl, rfl, ex_tw 305 (by decide +kernel) rfl⟩⟩
theorem PF_TG_35 : ex_PF "TagGuide" 35 0 3 true (.object "TagGuide$Text") "<init>" := ⟨R_TG, T_TG, 10, t_TG, rfl, by decide, rfl, rfl, u_TG, t_TG_ok, n_TG, by decide +kernel, Or.inr ⟨rfl, rfl, rfl, ex_tw 306 (by decide +kernel) rfl⟩⟩
theorem PF_TG_44 : ex_PF "TagGuide" 44 0 4 true (.object "TagGuide$Tree") "<init>" := ⟨R_TG, T_TG, 10, t_TG, rfl, by decide, rfl, rfl, u_TG, t_TG_ok, n_TG, by decide +kernel, Or.inr ⟨rfl, rfl, rfl, ex_tw 307 (by decide +kernel) rfl⟩⟩
theorem PF_TG_51 : ex_PF "TagGuide" 51 0 5 true (.object "TagGuide$Faults") "<init>" := ⟨R_TG, T_TG, 10, t_TG, rfl, by decide, rfl, rfl, u_TG, t_TG_ok, n_TG, by decide +kernel, Or.inr ⟨rfl, rfl, rfl, ex_tw 308 (by decide +kernel) rfl⟩⟩
theorem PF_TG_60 : ex_PF "TagGuide" 60 0 6 true (.object "TagGuide$Former") "<init>" := ⟨R_TG, T_TG, 10, t_TG, rfl, by decide, rfl, rfl, u_TG, t_TG_ok, n_TG, by decide +kernel, Or.inr ⟨rfl, rfl, rfl, ex_tw 309 (by decide +kernel) rfl⟩⟩
theorem PF_TG_67 : ex_PF "TagGuide" 67 0 7 true (.object "TagGuide$Inbox") "<init>" := ⟨R_TG, T_TG, 10, t_TG, rfl, by decide, rfl, rfl, u_TG, t_TG_ok, n_TG, by decide +kernel, Or.inr ⟨rfl, rfl, rfl, ex_tw 310 (by decide +kernel) rfl⟩⟩
theorem PF_TG_74 : ex_PF "TagGuide" 74 0 8 true (.object "TagGuide$Answers") "<init>" := ⟨R_TG, T_TG, 10, t_TG, rfl, by decide, rfl, rfl, u_TG, t_TG_ok, n_TG, by decide +kernel, Or.inr ⟨rfl, rfl, rfl, ex_tw 311 (by decide +kernel) rfl⟩⟩
theorem PF_TG_78 (nm : String) : ex_PF "TagGuide" 78 0 9 false (.boolean) nm := ⟨R_TG, T_TG, 10, t_TG, rfl, by decide, rfl, rfl, u_TG, t_TG_ok, n_TG, by decide +kernel, Or.inl ⟨rfl, Or.inl (ex_tw 312 (by decide +kernel) rfl)⟩⟩
theorem FL_An_9 : ex_FL "TagGuide$Answers" 9 1 0 true := ⟨R_An, T_An, 3, rfl, by decide, rfl, rfl, u_An, Or.inl (ex_tw 293 (by decide +kernel) rfl)⟩
theorem FL_An_15 : ex_FL "TagGuide$Answers" 15 1 1 true := ⟨R_An, T_An, 3, rfl, by decide, rfl, rfl, u_An, Or.inl (ex_tw 294 (by decide +kernel) rfl)⟩
theorem FL_An_18 : ex_FL "TagGuide$Answers" 18 1 2 false := ⟨R_An, T_An, 3, rfl, by decide, rfl, rfl, u_An, Or.inl (ex_tw 295 (by decide +kernel) rfl)⟩
theorem LK_An_3 : ex_LK "TagGuide$Answers" 3 ⟨"java/lang/Object", "<init>", "()V"⟩ := Or.inl (ex_tw 292 (by decide +kernel) rfl)
theorem PF_An_9 : ex_PF "TagGuide$Answers" 9 1 0 true (.array .int) "<init>" := ⟨R_An, T_An, 3, t_An, rfl, by decide, rfl, rfl, u_An, t_An_ok, n_An, by decide +kernel, Or.inr ⟨rfl, rfl, rfl, ex_tw 293 (by decide +kernel) rfl⟩⟩
theorem PF_An_15 : ex_PF "TagGuide$Answers" 15 1 1 true (.array .int) "<init>" := ⟨R_An, T_An, 3, t_An, rfl, by decide, rfl, rfl, u_An, t_An_ok, n_An, by decide +kernel, Or.inr ⟨rfl, rfl, rfl, ex_tw 294 (by decide +kernel) rfl⟩⟩
theorem PF_An_18 (nm : String) : ex_PF "TagGuide$Answers" 18 1 2 false (.int) nm := ⟨R_An, T_An, 3, t_An, rfl, by decide, rfl, rfl, u_An, t_An_ok, n_An, by decide +kernel, Or.inl ⟨rfl, Or.inl (ex_tw 295 (by decide +kernel) rfl)⟩⟩
theorem FL_Dr_9 : ex_FL "TagGuide$Draft" 9 2 0 true := ⟨R_Dr, T_Dr, 2, rfl, by decide, rfl, rfl, u_Dr, Or.inl (ex_tw 29 (by decide +kernel) rfl)⟩
theorem FL_Dr_19 : ex_FL "TagGuide$Draft" 19 2 1 false := ⟨R_Dr, T_Dr, 2, rfl, by decide, rfl, rfl, u_Dr, Or.inl (ex_tw 30 (by decide +kernel) rfl)⟩
theorem LK_Dr_3 : ex_LK "TagGuide$Draft" 3 ⟨"java/lang/Object", "<init>", "()V"⟩ := Or.inl (ex_tw 28 (by decide +kernel) rfl)
theorem LK_Dr_15 : ex_LK "TagGuide$Draft" 15 ⟨"TagGuide", "isWritable", "(I)Z"⟩ := Or.inr ⟨"TagGuide", ex_tn 342 (by decide +kernel) rfl⟩
theorem LK_Dr_23 : ex_LK "TagGuide$Draft" 23 ⟨"TagGuide", "isName", "(I)Z"⟩ := Or.inr ⟨"TagGuide", ex_tn 356 (by decide +kernel) rfl⟩
theorem PF_Dr_9 : ex_PF "TagGuide$Draft" 9 2 0 true (.array .char) "<init>" := ⟨R_Dr, T_Dr, 2, t_Dr, rfl, by decide, rfl, rfl, u_Dr, t_Dr_ok, n_Dr, by decide +kernel, Or.inr ⟨rfl, rfl, rfl, ex_tw 29 (by decide +kernel) rfl⟩⟩
theorem PF_Dr_19 (nm : String) : ex_PF "TagGuide$Draft" 19 2 1 false (.int) nm := ⟨R_Dr, T_Dr, 2, t_Dr, rfl, by decide, rfl, rfl, u_Dr, t_Dr_ok, n_Dr, by decide +kernel, Or.inl ⟨rfl, Or.inl (ex_tw 30 (by decide +kernel) rfl)⟩⟩
theorem FL_El_9 : ex_FL "TagGuide$Element" 9 3 0 false := ⟨R_El, T_El, 10, rfl, by decide, rfl, rfl, u_El, Or.inl (ex_tw 141 (by decide +kernel) rfl)⟩
theorem FL_El_15 : ex_FL "TagGuide$Element" 15 3 1 false := ⟨R_El, T_El, 10, rfl, by decide, rfl, rfl, u_El, Or.inl (ex_tw 145 (by decide +kernel) rfl)⟩
theorem FL_El_21 : ex_FL "TagGuide$Element" 21 3 3 false := ⟨R_El, T_El, 10, rfl, by decide, rfl, rfl, u_El, Or.inl (ex_tw 150 (by decide +kernel) rfl)⟩
theorem FL_El_24 : ex_FL "TagGuide$Element" 24 3 4 false := ⟨R_El, T_El, 10, rfl, by decide, rfl, rfl, u_El, Or.inl (ex_tw 154 (by decide +kernel) rfl)⟩
theorem FL_El_27 : ex_FL "TagGuide$Element" 27 3 7 false := ⟨R_El, T_El, 10, rfl, by decide, rfl, rfl, u_El, Or.inl (ex_tw 160 (by decide +kernel) rfl)⟩
theorem FL_El_30 : ex_FL "TagGuide$Element" 30 3 9 false := ⟨R_El, T_El, 10, rfl, by decide, rfl, rfl, u_El, Or.inl (ex_tw 165 (by decide +kernel) rfl)⟩
theorem FL_El_33 : ex_FL "TagGuide$Element" 33 3 8 false := ⟨R_El, T_El, 10, rfl, by decide, rfl, rfl, u_El, Or.inl (ex_tw 163 (by decide +kernel) rfl)⟩
theorem FL_El_36 : ex_FL "TagGuide$Element" 36 3 5 false := ⟨R_El, T_El, 10, rfl, by decide, rfl, rfl, u_El, Or.inl (ex_tw 156 (by decide +kernel) rfl)⟩
theorem FL_El_39 : ex_FL "TagGuide$Element" 39 3 6 false := ⟨R_El, T_El, 10, rfl, by decide, rfl, rfl, u_El, Or.inl (ex_tw 158 (by decide +kernel) rfl)⟩
theorem LK_El_3 : ex_LK "TagGuide$Element" 3 ⟨"java/lang/Object", "<init>", "()V"⟩ := Or.inl (ex_tw 140 (by decide +kernel) rfl)
theorem PF_El_9 (nm : String) : ex_PF "TagGuide$Element" 9 3 0 false (.int) nm := ⟨R_El, T_El, 10, t_El, rfl, by decide, rfl, rfl, u_El, t_El_ok, n_El, by decide +kernel, Or.inl ⟨rfl, Or.inl (ex_tw 141 (by decide +kernel) rfl)⟩⟩
theorem PF_El_15 (nm : String) : ex_PF "TagGuide$Element" 15 3 1 false (.int) nm := ⟨R_El, T_El, 10, t_El, rfl, by decide, rfl, rfl, u_El, t_El_ok, n_El, by decide +kernel, Or.inl ⟨rfl, Or.inl (ex_tw 145 (by decide +kernel) rfl)⟩⟩
theorem PF_El_18 (nm : String) : ex_PF "TagGuide$Element" 18 3 2 false (.int) nm := ⟨R_El, T_El, 10, t_El, rfl, by decide, rfl, rfl, u_El, t_El_ok, n_El, by decide +kernel, Or.inl ⟨rfl, Or.inl (ex_tw 148 (by decide +kernel) rfl)⟩⟩
theorem PF_El_21 (nm : String) : ex_PF "TagGuide$Element" 21 3 3 false (.int) nm := ⟨R_El, T_El, 10, t_El, rfl, by decide, rfl, rfl, u_El, t_El_ok, n_El, by decide +kernel, Or.inl ⟨rfl, Or.inl (ex_tw 150 (by decide +kernel) rfl)⟩⟩
theorem PF_El_24 (nm : String) : ex_PF "TagGuide$Element" 24 3 4 false (.int) nm := ⟨R_El, T_El, 10, t_El, rfl, by decide, rfl, rfl, u_El, t_El_ok, n_El, by decide +kernel, Or.inl ⟨rfl, Or.inl (ex_tw 154 (by decide +kernel) rfl)⟩⟩
theorem PF_El_27 (nm : String) : ex_PF "TagGuide$Element" 27 3 7 false (.int) nm := ⟨R_El, T_El, 10, t_El, rfl, by decide, rfl, rfl, u_El, t_El_ok, n_El, by decide +kernel, Or.inl ⟨rfl, Or.inl (ex_tw 160 (by decide +kernel) rfl)⟩⟩
theorem PF_El_30 (nm : String) : ex_PF "TagGuide$Element" 30 3 9 false (.int) nm := ⟨R_El, T_El, 10, t_El, rfl, by decide, rfl, rfl, u_El, t_El_ok, n_El, by decide +kernel, Or.inl ⟨rfl, Or.inl (ex_tw 165 (by decide +kernel) rfl)⟩⟩
theorem PF_El_33 (nm : String) : ex_PF "TagGuide$Element" 33 3 8 false (.int) nm := ⟨R_El, T_El, 10, t_El, rfl, by decide, rfl, rfl, u_El, t_El_ok, n_El, by decide +kernel, Or.inl ⟨rfl, Or.inl (ex_tw 163 (by decide +kernel) rfl)⟩⟩
theorem PF_El_36 (nm : String) : ex_PF "TagGuide$Element" 36 3 5 false (.int) nm := ⟨R_El, T_El, 10, t_El, rfl, by decide, rfl, rfl, u_El, t_El_ok, n_El, by decide +kernel, Or.inl ⟨rfl, Or.inl (ex_tw 156 (by decide +kernel) rfl)⟩⟩
theorem PF_El_39 (nm : String) : ex_PF "TagGuide$Element" 39 3 6 false (.int) nm := ⟨R_El, T_El, 10, t_El, rfl, by decide, rfl, rfl, u_El, t_El_ok, n_El, by decide +kernel, Or.inl ⟨rfl, Or.inl (ex_tw 158 (by decide +kernel) rfl)⟩⟩
theorem FL_Fa_9 : ex_FL "TagGuide$Faults" 9 4 0 true := ⟨R_Fa, T_Fa, 2, rfl, by decide, rfl, rfl, u_Fa, Or.inl (ex_tw 227 (by decide +kernel) rfl)⟩
theorem FL_Fa_15 : ex_FL "TagGuide$Faults" 15 4 1 false := ⟨R_Fa, T_Fa, 2, rfl, by decide, rfl, rfl, u_Fa, Or.inl (ex_tw 228 (by decide +kernel) rfl)⟩
theorem FL_Fa_19 : ex_FL "TagGuide$Faults" 19 11 2 false := ⟨R_Tr, T_Tr, 8, rfl, by decide, rfl, rfl, u_Tr, Or.inr ⟨"TagGuide", ex_tn 197 (by decide +kernel) rfl⟩⟩
theorem FL_Fa_24 : ex_FL "TagGuide$Faults" 24 11 1 true := ⟨R_Tr, T_Tr, 8, rfl, by decide, rfl, rfl, u_Tr, Or.inr ⟨"TagGuide", ex_tn 193 (by decide +kernel) rfl⟩⟩
theorem FL_Fa_28 : ex_FL "TagGuide$Faults" 28 3 0 false := ⟨R_El, T_El, 10, rfl, by decide, rfl, rfl, u_El, Or.inr ⟨"TagGuide", ex_tn 143 (by decide +kernel) rfl⟩⟩
theorem FL_Fa_39 : ex_FL "TagGuide$Faults" 39 3 8 false := ⟨R_El, T_El, 10, rfl, by decide, rfl, rfl, u_El, Or.inr ⟨"TagGuide", ex_tn 164 (by decide +kernel) rfl⟩⟩
theorem FL_Fa_42 : ex_FL "TagGuide$Faults" 42 3 3 false := ⟨R_El, T_El, 10, rfl, by decide, rfl, rfl, u_El, Or.inr ⟨"TagGuide", ex_tn 152 (by decide +kernel) rfl⟩⟩
theorem FL_Fa_49 : ex_FL "TagGuide$Faults" 49 7 0 false := ⟨R_Mo, T_Mo, 6, rfl, by decide, rfl, rfl, u_Mo, Or.inr ⟨"TagGuide", ex_tn 51 (by decide +kernel) rfl⟩⟩
theorem FL_Fa_59 : ex_FL "TagGuide$Faults" 59 3 9 false := ⟨R_El, T_El, 10, rfl, by decide, rfl, rfl, u_El, Or.inr ⟨"TagGuide", ex_tn 166 (by decide +kernel) rfl⟩⟩
theorem LK_Fa_3 : ex_LK "TagGuide$Faults" 3 ⟨"java/lang/Object", "<init>", "()V"⟩ := Or.inl (ex_tw 226 (by decide +kernel) rfl)
theorem LK_Fa_33 : ex_LK "TagGuide$Faults" 33 ⟨"TagGuide$Models", "of", "(I)LTagGuide$Model;"⟩ := Or.inl (ex_tw 574 (by decide +kernel) rfl)
theorem LK_Fa_45 : ex_LK "TagGuide$Faults" 45 ⟨"TagGuide$Faults", "add", "(II)V"⟩ := Or.inl (ex_tw 578 (by decide +kernel) rfl)
theorem LK_Fa_55 : ex_LK "TagGuide$Faults" 55 ⟨"TagGuide$Model", "forbidsCharacters", "()Z"⟩ := Or.inl (ex_tw 579 (by decide +kernel) rfl)
theorem LK_Fa_62 : ex_LK "TagGuide$Faults" 62 ⟨"TagGuide$Models", "allowChildren", "(LTagGuide$Tree;I)Z"⟩ := Or.inl (ex_tw 583 (by decide +kernel) rfl)
theorem PF_Fa_9 : ex_PF "TagGuide$Faults" 9 4 0 true (.array .int) "<init>" := ⟨R_Fa, T_Fa, 2, t_Fa, rfl, by decide, rfl, rfl, u_Fa, t_Fa_ok, n_Fa, by decide +kernel, Or.inr ⟨rfl, rfl, rfl, ex_tw 227 (by decide +kernel) rfl⟩⟩
theorem PF_Fa_15 (nm : String) : ex_PF "TagGuide$Faults" 15 4 1 false (.int) nm := ⟨R_Fa, T_Fa, 2, t_Fa, rfl, by decide, rfl, rfl, u_Fa, t_Fa_ok, n_Fa, by decide +kernel, Or.inl ⟨rfl, Or.inl (ex_tw 228 (by decide +kernel) rfl)⟩⟩
theorem FL_Fo_9 : ex_FL "TagGuide$Former" 9 5 3 true := ⟨R_Fo, T_Fo, 5, rfl, by decide, rfl, rfl, u_Fo, Or.inl (ex_tw 244 (by decide +kernel) rfl)⟩
theorem FL_Fo_15 : ex_FL "TagGuide$Former" 15 5 0 true := ⟨R_Fo, T_Fo, 5, rfl, by decide, rfl, rfl, u_Fo, Or.inl (ex_tw 241 (by decide +kernel) rfl)⟩
theorem FL_Fo_19 : ex_FL "TagGuide$Former" 19 5 1 true := ⟨R_Fo, T_Fo, 5, rfl, by decide, rfl, rfl, u_Fo, Or.inl (ex_tw 242 (by decide +kernel) rfl)⟩
theorem FL_Fo_23 : ex_FL "TagGuide$Former" 23 5 2 true := ⟨R_Fo, T_Fo, 5, rfl, by decide, rfl, rfl, u_Fo, Or.inl (ex_tw 243 (by decide +kernel) rfl)⟩
theorem FL_Fo_27 : ex_FL "TagGuide$Former" 27 5 4 false := ⟨R_Fo, T_Fo, 5, rfl, by decide, rfl, rfl, u_Fo, Or.inl (ex_tw 245 (by decide +kernel) rfl)⟩
theorem FL_Fo_31 : ex_FL "TagGuide$Former" 31 11 1 true := ⟨R_Tr, T_Tr, 8, rfl, by decide, rfl, rfl, u_Tr, Or.inr ⟨"TagGuide", ex_tn 191 (by decide +kernel) rfl⟩⟩
theorem FL_Fo_43 : ex_FL "TagGuide$Former" 43 10 1 false := ⟨R_Tx, T_Tx, 2, rfl, by decide, rfl, rfl, u_Tx, Or.inr ⟨"TagGuide", ex_tn 121 (by decide +kernel) rfl⟩⟩
theorem FL_Fo_50 : ex_FL "TagGuide$Former" 50 11 2 false := ⟨R_Tr, T_Tr, 8, rfl, by decide, rfl, rfl, u_Tr, Or.inr ⟨"TagGuide", ex_tn 196 (by decide +kernel) rfl⟩⟩
theorem FL_Fo_53 : ex_FL "TagGuide$Former" 53 3 1 false := ⟨R_El, T_El, 10, rfl, by decide, rfl, rfl, u_El, Or.inr ⟨"TagGuide", ex_tn 146 (by decide +kernel) rfl⟩⟩
theorem FL_Fo_65 : ex_FL "TagGuide$Former" 65 3 3 false := ⟨R_El, T_El, 10, rfl, by decide, rfl, rfl, u_El, Or.inr ⟨"TagGuide", ex_tn 151 (by decide +kernel) rfl⟩⟩
theorem FL_Fo_68 : ex_FL "TagGuide$Former" 68 3 6 false := ⟨R_El, T_El, 10, rfl, by decide, rfl, rfl, u_El, Or.inr ⟨"TagGuide", ex_tn 159 (by decide +kernel) rfl⟩⟩
theorem FL_Fo_71 : ex_FL "TagGuide$Former" 71 3 4 false := ⟨R_El, T_El, 10, rfl, by decide, rfl, rfl, u_El, Or.inr ⟨"TagGuide", ex_tn 155 (by decide +kernel) rfl⟩⟩
theorem FL_Fo_74 : ex_FL "TagGuide$Former" 74 3 5 false := ⟨R_El, T_El, 10, rfl, by decide, rfl, rfl, u_El, Or.inr ⟨"TagGuide", ex_tn 157 (by decide +kernel) rfl⟩⟩
theorem LK_Fo_3 : ex_LK "TagGuide$Former" 3 ⟨"java/lang/Object", "<init>", "()V"⟩ := Or.inl (ex_tw 240 (by decide +kernel) rfl)
theorem LK_Fo_37 : ex_LK "TagGuide$Former" 37 ⟨"TagGuide$Models", "makeLoose", "(LTagGuide$Element;)Z"⟩ := Or.inl (ex_tw 645 (by decide +kernel) rfl)
theorem LK_Fo_46 : ex_LK "TagGuide$Former" 46 ⟨"TagGuide$Former", "copy", "(II)V"⟩ := Or.inl (ex_tw 650 (by decide +kernel) rfl)
theorem LK_Fo_58 : ex_LK "TagGuide$Former" 58 ⟨"TagGuide$Former", "startLine", "(I)V"⟩ := Or.inl (ex_tw 659 (by decide +kernel) rfl)
theorem LK_Fo_62 : ex_LK "TagGuide$Former" 62 ⟨"TagGuide$Former", "addForm", "(II)V"⟩ := Or.inl (ex_tw 663 (by decide +kernel) rfl)
theorem LK_Fo_77 : ex_LK "TagGuide$Former" 77 ⟨"TagGuide$Former", "put", "(I)V"⟩ := Or.inl (ex_tw 655 (by decide +kernel) rfl)
theorem LK_Fo_80 : ex_LK "TagGuide$Former" 80 ⟨"TagGuide$Text", "at", "(I)I"⟩ := Or.inl (ex_tw 654 (by decide +kernel) rfl)
theorem PF_Fo_9 : ex_PF "TagGuide$Former" 9 5 3 true (.array .char) "<init>" := ⟨R_Fo, T_Fo, 5, t_Fo, rfl, by decide, rfl, rfl, u_Fo, t_Fo_ok, n_Fo, by decide +kernel, Or.inr ⟨rfl, rfl, rfl, ex_tw 244 (by decide +kernel) rfl⟩⟩
theorem PF_Fo_15 : ex_PF "TagGuide$Former" 15 5 0 true (.object "TagGuide$Text") "<init>" := ⟨R_Fo, T_Fo, 5, t_Fo, rfl, by decide, rfl, rfl, u_Fo, t_Fo_ok, n_Fo, by decide +kernel, Or.inr ⟨rfl, rfl, rfl, ex_tw 241 (by decide +kernel) rfl⟩⟩
theorem PF_Fo_19 : ex_PF "TagGuide$Former" 19 5 1 true (.object "TagGuide$Tree") "<init>" := ⟨R_Fo, T_Fo, 5, t_Fo, rfl, by decide, rfl, rfl, u_Fo, t_Fo_ok, n_Fo, by decide +kernel, Or.inr ⟨rfl, rfl, rfl, ex_tw 242 (by decide +kernel) rfl⟩⟩
theorem PF_Fo_23 : ex_PF "TagGuide$Former" 23 5 2 true (.object "TagGuide$Models") "<init>" := ⟨R_Fo, T_Fo, 5, t_Fo, rfl, by decide, rfl, rfl, u_Fo, t_Fo_ok, n_Fo, by decide +kernel, Or.inr ⟨rfl, rfl, rfl, ex_tw 243 (by decide +kernel) rfl⟩⟩
theorem PF_Fo_27 (nm : String) : ex_PF "TagGuide$Former" 27 5 4 false (.int) nm := ⟨R_Fo, T_Fo, 5, t_Fo, rfl, by decide, rfl, rfl, u_Fo, t_Fo_ok, n_Fo, by decide +kernel, Or.inl ⟨rfl, Or.inl (ex_tw 245 (by decide +kernel) rfl)⟩⟩
theorem FL_In_9 : ex_FL "TagGuide$Inbox" 9 6 0 true := ⟨R_In, T_In, 6, rfl, by decide, rfl, rfl, u_In, Or.inl (ex_tw 263 (by decide +kernel) rfl)⟩
theorem FL_In_15 : ex_FL "TagGuide$Inbox" 15 6 1 true := ⟨R_In, T_In, 6, rfl, by decide, rfl, rfl, u_In, Or.inl (ex_tw 265 (by decide +kernel) rfl)⟩
theorem FL_In_18 : ex_FL "TagGuide$Inbox" 18 6 2 true := ⟨R_In, T_In, 6, rfl, by decide, rfl, rfl, u_In, Or.inl (ex_tw 267 (by decide +kernel) rfl)⟩
theorem FL_In_21 : ex_FL "TagGuide$Inbox" 21 6 3 true := ⟨R_In, T_In, 6, rfl, by decide, rfl, rfl, u_In, Or.inl (ex_tw 269 (by decide +kernel) rfl)⟩
theorem FL_In_24 : ex_FL "TagGuide$Inbox" 24 6 4 false := ⟨R_In, T_In, 6, rfl, by decide, rfl, rfl, u_In, Or.inl (ex_tw 271 (by decide +kernel) rfl)⟩
theorem FL_In_32 : ex_FL "TagGuide$Inbox" 32 6 5 false := ⟨R_In, T_In, 6, rfl, by decide, rfl, rfl, u_In, Or.inl (ex_tw 273 (by decide +kernel) rfl)⟩
theorem LK_In_3 : ex_LK "TagGuide$Inbox" 3 ⟨"java/lang/Object", "<init>", "()V"⟩ := Or.inl (ex_tw 262 (by decide +kernel) rfl)
theorem LK_In_28 : ex_LK "TagGuide$Inbox" 28 ⟨"TagGuide$Inbox", "isFull", "()Z"⟩ := Or.inl (ex_tw 446 (by decide +kernel) rfl)
theorem LK_In_35 : ex_LK "TagGuide$Inbox" 35 ⟨"TagGuide$Inbox", "put", "(IIII)Z"⟩ := Or.inl (ex_tw 463 (by decide +kernel) rfl)
theorem PF_In_9 : ex_PF "TagGuide$Inbox" 9 6 0 true (.array .int) "<init>" := ⟨R_In, T_In, 6, t_In, rfl, by decide, rfl, rfl, u_In, t_In_ok, n_In, by decide +kernel, Or.inr ⟨rfl, rfl, rfl, ex_tw 263 (by decide +kernel) rfl⟩⟩
theorem PF_In_15 : ex_PF "TagGuide$Inbox" 15 6 1 true (.array .int) "<init>" := ⟨R_In, T_In, 6, t_In, rfl, by decide, rfl, rfl, u_In, t_In_ok, n_In, by decide +kernel, Or.inr ⟨rfl, rfl, rfl, ex_tw 265 (by decide +kernel) rfl⟩⟩
theorem PF_In_18 : ex_PF "TagGuide$Inbox" 18 6 2 true (.array .int) "<init>" := ⟨R_In, T_In, 6, t_In, rfl, by decide, rfl, rfl, u_In, t_In_ok, n_In, by decide +kernel, Or.inr ⟨rfl, rfl, rfl, ex_tw 267 (by decide +kernel) rfl⟩⟩
theorem PF_In_21 : ex_PF "TagGuide$Inbox" 21 6 3 true (.array .int) "<init>" := ⟨R_In, T_In, 6, t_In, rfl, by decide, rfl, rfl, u_In, t_In_ok, n_In, by decide +kernel, Or.inr ⟨rfl, rfl, rfl, ex_tw 269 (by decide +kernel) rfl⟩⟩
theorem PF_In_24 (nm : String) : ex_PF "TagGuide$Inbox" 24 6 4 false (.int) nm := ⟨R_In, T_In, 6, t_In, rfl, by decide, rfl, rfl, u_In, t_In_ok, n_In, by decide +kernel, Or.inl ⟨rfl, Or.inl (ex_tw 271 (by decide +kernel) rfl)⟩⟩
theorem PF_In_32 (nm : String) : ex_PF "TagGuide$Inbox" 32 6 5 false (.int) nm := ⟨R_In, T_In, 6, t_In, rfl, by decide, rfl, rfl, u_In, t_In_ok, n_In, by decide +kernel, Or.inl ⟨rfl, Or.inl (ex_tw 273 (by decide +kernel) rfl)⟩⟩
theorem FL_Mo_9 : ex_FL "TagGuide$Model" 9 7 3 true := ⟨R_Mo, T_Mo, 6, rfl, by decide, rfl, rfl, u_Mo, Or.inl (ex_tw 55 (by decide +kernel) rfl)⟩
theorem FL_Mo_15 : ex_FL "TagGuide$Model" 15 7 4 true := ⟨R_Mo, T_Mo, 6, rfl, by decide, rfl, rfl, u_Mo, Or.inl (ex_tw 56 (by decide +kernel) rfl)⟩
theorem FL_Mo_18 : ex_FL "TagGuide$Model" 18 7 0 false := ⟨R_Mo, T_Mo, 6, rfl, by decide, rfl, rfl, u_Mo, Or.inl (ex_tw 50 (by decide +kernel) rfl)⟩
theorem FL_Mo_22 : ex_FL "TagGuide$Model" 22 7 1 false := ⟨R_Mo, T_Mo, 6, rfl, by decide, rfl, rfl, u_Mo, Or.inl (ex_tw 52 (by decide +kernel) rfl)⟩
theorem FL_Mo_25 : ex_FL "TagGuide$Model" 25 7 2 false := ⟨R_Mo, T_Mo, 6, rfl, by decide, rfl, rfl, u_Mo, Or.inl (ex_tw 54 (by decide +kernel) rfl)⟩
theorem FL_Mo_29 : ex_FL "TagGuide$Model" 29 7 5 false := ⟨R_Mo, T_Mo, 6, rfl, by decide, rfl, rfl, u_Mo, Or.inl (ex_tw 57 (by decide +kernel) rfl)⟩
theorem LK_Mo_3 : ex_LK "TagGuide$Model" 3 ⟨"java/lang/Object", "<init>", "()V"⟩ := Or.inl (ex_tw 49 (by decide +kernel) rfl)
theorem LK_Mo_32 : ex_LK "TagGuide$Model" 32 ⟨"TagGuide", "isName", "(I)Z"⟩ := Or.inr ⟨"TagGuide", ex_tn 401 (by decide +kernel) rfl⟩
theorem LK_Mo_36 : ex_LK "TagGuide$Model" 36 ⟨"TagGuide$Model", "start", "()I"⟩ := Or.inl (ex_tw 377 (by decide +kernel) rfl)
theorem LK_Mo_40 : ex_LK "TagGuide$Model" 40 ⟨"TagGuide$Model", "followersOf", "(I)I"⟩ := Or.inl (ex_tw 426 (by decide +kernel) rfl)
theorem PF_Mo_9 : ex_PF "TagGuide$Model" 9 7 3 true (.array .int) "<init>" := ⟨R_Mo, T_Mo, 6, t_Mo, rfl, by decide, rfl, rfl, u_Mo, t_Mo_ok, n_Mo, by decide +kernel, Or.inr ⟨rfl, rfl, rfl, ex_tw 55 (by decide +kernel) rfl⟩⟩
theorem PF_Mo_15 : ex_PF "TagGuide$Model" 15 7 4 true (.array .int) "<init>" := ⟨R_Mo, T_Mo, 6, t_Mo, rfl, by decide, rfl, rfl, u_Mo, t_Mo_ok, n_Mo, by decide +kernel, Or.inr ⟨rfl, rfl, rfl, ex_tw 56 (by decide +kernel) rfl⟩⟩
theorem PF_Mo_18 (nm : String) : ex_PF "TagGuide$Model" 18 7 0 false (.boolean) nm := ⟨R_Mo, T_Mo, 6, t_Mo, rfl, by decide, rfl, rfl, u_Mo, t_Mo_ok, n_Mo, by decide +kernel, Or.inl ⟨rfl, Or.inl (ex_tw 50 (by decide +kernel) rfl)⟩⟩
theorem PF_Mo_22 (nm : String) : ex_PF "TagGuide$Model" 22 7 1 false (.boolean) nm := ⟨R_Mo, T_Mo, 6, t_Mo, rfl, by decide, rfl, rfl, u_Mo, t_Mo_ok, n_Mo, by decide +kernel, Or.inl ⟨rfl, Or.inl (ex_tw 52 (by decide +kernel) rfl)⟩⟩
theorem PF_Mo_25 (nm : String) : ex_PF "TagGuide$Model" 25 7 2 false (.int) nm := ⟨R_Mo, T_Mo, 6, t_Mo, rfl, by decide, rfl, rfl, u_Mo, t_Mo_ok, n_Mo, by decide +kernel, Or.inl ⟨rfl, Or.inl (ex_tw 54 (by decide +kernel) rfl)⟩⟩
theorem PF_Mo_29 (nm : String) : ex_PF "TagGuide$Model" 29 7 5 false (.int) nm := ⟨R_Mo, T_Mo, 6, t_Mo, rfl, by decide, rfl, rfl, u_Mo, t_Mo_ok, n_Mo, by decide +kernel, Or.inl ⟨rfl, Or.inl (ex_tw 57 (by decide +kernel) rfl)⟩⟩
theorem FL_Mr_12 : ex_FL "TagGuide$ModelReader" 12 8 1 true := ⟨R_Mr, T_Mr, 6, rfl, by decide, rfl, rfl, u_Mr, Or.inl (ex_tw 73 (by decide +kernel) rfl)⟩
theorem FL_Mr_18 : ex_FL "TagGuide$ModelReader" 18 8 0 true := ⟨R_Mr, T_Mr, 6, rfl, by decide, rfl, rfl, u_Mr, Or.inl (ex_tw 72 (by decide +kernel) rfl)⟩
theorem FL_Mr_25 : ex_FL "TagGuide$ModelReader" 25 8 2 false := ⟨R_Mr, T_Mr, 6, rfl, by decide, rfl, rfl, u_Mr, Or.inl (ex_tw 74 (by decide +kernel) rfl)⟩
theorem FL_Mr_37 : ex_FL "TagGuide$ModelReader" 37 2 1 false := ⟨R_Dr, T_Dr, 2, rfl, by decide, rfl, rfl, u_Dr, Or.inr ⟨"TagGuide", ex_tn 31 (by decide +kernel) rfl⟩⟩
theorem FL_Mr_50 : ex_FL "TagGuide$ModelReader" 50 8 3 false := ⟨R_Mr, T_Mr, 6, rfl, by decide, rfl, rfl, u_Mr, Or.inl (ex_tw 75 (by decide +kernel) rfl)⟩
theorem FL_Mr_53 : ex_FL "TagGuide$ModelReader" 53 8 4 false := ⟨R_Mr, T_Mr, 6, rfl, by decide, rfl, rfl, u_Mr, Or.inl (ex_tw 76 (by decide +kernel) rfl)⟩
theorem FL_Mr_56 : ex_FL "TagGuide$ModelReader" 56 8 5 false := ⟨R_Mr, T_Mr, 6, rfl, by decide, rfl, rfl, u_Mr, Or.inl (ex_tw 77 (by decide +kernel) rfl)⟩
theorem LK_Mr_3 : ex_LK "TagGuide$ModelReader" 3 ⟨"java/lang/Object", "<init>", "()V"⟩ := Or.inl (ex_tw 43 (by decide +kernel) rfl)
theorem LK_Mr_11 : ex_LK "TagGuide$ModelReader" 11 ⟨"TagGuide$Model", "<init>", "()V"⟩ := Or.inr ⟨"TagGuide", ex_tn 46 (by decide +kernel) rfl⟩
theorem LK_Mr_22 : ex_LK "TagGuide$ModelReader" 22 ⟨"TagGuide$Model", "clear", "()V"⟩ := Or.inl (ex_tw 361 (by decide +kernel) rfl)
theorem LK_Mr_29 : ex_LK "TagGuide$ModelReader" 29 ⟨"TagGuide$ModelReader", "takes", "(C)Z"⟩ := Or.inl (ex_tw 365 (by decide +kernel) rfl)
theorem LK_Mr_42 : ex_LK "TagGuide$ModelReader" 42 ⟨"TagGuide$Model", "complete", "(IIZ)V"⟩ := Or.inl (ex_tw 373 (by decide +kernel) rfl)
theorem LK_Mr_46 : ex_LK "TagGuide$ModelReader" 46 ⟨"TagGuide$ModelReader", "readsExpression", "(I)Z"⟩ := Or.inl (ex_tw 381 (by decide +kernel) rfl)
theorem LK_Mr_59 : ex_LK "TagGuide$ModelReader" 59 ⟨"TagGuide$ModelReader", "readsSequence", "(I)Z"⟩ := Or.inl (ex_tw 385 (by decide +kernel) rfl)
theorem LK_Mr_62 : ex_LK "TagGuide$ModelReader" 62 ⟨"TagGuide$ModelReader", "readsItem", "(I)Z"⟩ := Or.inl (ex_tw 389 (by decide +kernel) rfl)
theorem LK_Mr_65 : ex_LK "TagGuide$ModelReader" 65 ⟨"TagGuide$Model", "join", "(II)V"⟩ := Or.inl (ex_tw 406 (by decide +kernel) rfl)
theorem LK_Mr_69 : ex_LK "TagGuide$ModelReader" 69 ⟨"TagGuide$ModelReader", "readsName", "()Z"⟩ := Or.inl (ex_tw 393 (by decide +kernel) rfl)
theorem LK_Mr_73 : ex_LK "TagGuide$ModelReader" 73 ⟨"TagGuide$ModelReader", "readMark", "()V"⟩ := Or.inl (ex_tw 402 (by decide +kernel) rfl)
theorem LK_Mr_76 : ex_LK "TagGuide$ModelReader" 76 ⟨"TagGuide$Draft", "at", "(I)I"⟩ := Or.inl (ex_tw 369 (by decide +kernel) rfl)
theorem LK_Mr_80 : ex_LK "TagGuide$ModelReader" 80 ⟨"TagGuide$Model", "addState", "(I)I"⟩ := Or.inl (ex_tw 397 (by decide +kernel) rfl)
theorem NL_Mr_9 : Cond.classLink "TagGuide$ModelReader" 9 "TagGuide$Model" ∈ exTW := ex_tw 44 (by decide +kernel) rfl
theorem PF_Mr_12 (nm : String) : ex_PF "TagGuide$ModelReader" 12 8 1 true (.object "TagGuide$Model") nm := ⟨R_Mr, T_Mr, 6, t_Mr, rfl, by decide, rfl, rfl, u_Mr, t_Mr_ok, n_Mr, by decide +kernel, Or.inl ⟨rfl, Or.inl (ex_tw 73 (by decide +kernel) rfl)⟩⟩
theorem PF_Mr_18 : ex_PF "TagGuide$ModelReader" 18 8 0 true (.object "TagGuide$Draft") "<init>" := ⟨R_Mr, T_Mr, 6, t_Mr, rfl, by decide, rfl, rfl, u_Mr, t_Mr_ok, n_Mr, by decide +kernel, Or.inr ⟨rfl, rfl, rfl, ex_tw 72 (by decide +kernel) rfl⟩⟩
theorem PF_Mr_25 (nm : String) : ex_PF "TagGuide$ModelReader" 25 8 2 false (.int) nm := ⟨R_Mr, T_Mr, 6, t_Mr, rfl, by decide, rfl, rfl, u_Mr, t_Mr_ok, n_Mr, by decide +kernel, Or.inl ⟨rfl, Or.inl (ex_tw 74 (by decide +kernel) rfl)⟩⟩
theorem PF_Mr_33 (nm : String) : ex_PF "TagGuide$ModelReader" 33 7 1 false (.boolean) nm := ⟨R_Mo, T_Mo, 6, t_Mo, rfl, by decide, rfl, rfl, u_Mo, t_Mo_ok, n_Mo, by decide +kernel, Or.inl ⟨rfl, Or.inr ⟨"TagGuide", ex_tn 53 (by decide +kernel) rfl⟩⟩⟩
theorem PF_Mr_50 (nm : String) : ex_PF "TagGuide$ModelReader" 50 8 3 false (.int) nm := ⟨R_Mr, T_Mr, 6, t_Mr, rfl, by decide, rfl, rfl, u_Mr, t_Mr_ok, n_Mr, by decide +kernel, Or.inl ⟨rfl, Or.inl (ex_tw 75 (by decide +kernel) rfl)⟩⟩
theorem PF_Mr_53 (nm : String) : ex_PF "TagGuide$ModelReader" 53 8 4 false (.int) nm := ⟨R_Mr, T_Mr, 6, t_Mr, rfl, by decide, rfl, rfl, u_Mr, t_Mr_ok, n_Mr, by decide +kernel, Or.inl ⟨rfl, Or.inl (ex_tw 76 (by decide +kernel) rfl)⟩⟩
theorem PF_Mr_56 (nm : String) : ex_PF "TagGuide$ModelReader" 56 8 5 false (.boolean) nm := ⟨R_Mr, T_Mr, 6, t_Mr, rfl, by decide, rfl, rfl, u_Mr, t_Mr_ok, n_Mr, by decide +kernel, Or.inl ⟨rfl, Or.inl (ex_tw 77 (by decide +kernel) rfl)⟩⟩
theorem NL_Ms_9 : Cond.classLink "TagGuide$Models" 9 "TagGuide$Model" ∈ exTW := ex_tw 97 (by decide +kernel) rfl
theorem FL_Ms_11 : ex_FL "TagGuide$Models" 11 9 0 true := ⟨R_Ms, T_Ms, 3, rfl, by decide, rfl, rfl, u_Ms, Or.inl (ex_tw 100 (by decide +kernel) rfl)⟩
theorem FL_Ms_18 : ex_FL "TagGuide$Models" 18 9 1 true := ⟨R_Ms, T_Ms, 3, rfl, by decide, rfl, rfl, u_Ms, Or.inl (ex_tw 101 (by decide +kernel) rfl)⟩
theorem FL_Ms_29 : ex_FL "TagGuide$Models" 29 11 1 true := ⟨R_Tr, T_Tr, 8, rfl, by decide, rfl, rfl, u_Tr, Or.inr ⟨"TagGuide", ex_tn 192 (by decide +kernel) rfl⟩⟩
theorem FL_Ms_35 : ex_FL "TagGuide$Models" 35 3 0 false := ⟨R_El, T_El, 10, rfl, by decide, rfl, rfl, u_El, Or.inr ⟨"TagGuide", ex_tn 142 (by decide +kernel) rfl⟩⟩
theorem FL_Ms_61 : ex_FL "TagGuide$Models" 61 3 7 false := ⟨R_El, T_El, 10, rfl, by decide, rfl, rfl, u_El, Or.inr ⟨"TagGuide", ex_tn 161 (by decide +kernel) rfl⟩⟩
theorem FL_Ms_64 : ex_FL "TagGuide$Models" 64 3 9 false := ⟨R_El, T_El, 10, rfl, by decide, rfl, rfl, u_El, Or.inr ⟨"TagGuide", ex_tn 167 (by decide +kernel) rfl⟩⟩
theorem FL_Ms_67 : ex_FL "TagGuide$Models" 67 9 2 false := ⟨R_Ms, T_Ms, 3, rfl, by decide, rfl, rfl, u_Ms, Or.inl (ex_tw 103 (by decide +kernel) rfl)⟩
theorem LK_Ms_3 : ex_LK "TagGuide$Models" 3 ⟨"java/lang/Object", "<init>", "()V"⟩ := Or.inl (ex_tw 96 (by decide +kernel) rfl)
theorem LK_Ms_17 : ex_LK "TagGuide$Models" 17 ⟨"TagGuide$Model", "<init>", "()V"⟩ := Or.inr ⟨"TagGuide", ex_tn 99 (by decide +kernel) rfl⟩
theorem LK_Ms_22 : ex_LK "TagGuide$Models" 22 ⟨"TagGuide$Models", "rowOf", "(I)I"⟩ := Or.inl (ex_tw 414 (by decide +kernel) rfl)
theorem LK_Ms_26 : ex_LK "TagGuide$Models" 26 ⟨"TagGuide$Models", "findFertileNames", "()V"⟩ := Or.inl (ex_tw 417 (by decide +kernel) rfl)
theorem LK_Ms_41 : ex_LK "TagGuide$Models" 41 ⟨"TagGuide$Models", "of", "(I)LTagGuide$Model;"⟩ := Or.inl (ex_tw 587 (by decide +kernel) rfl)
theorem LK_Ms_45 : ex_LK "TagGuide$Models" 45 ⟨"TagGuide$Model", "start", "()I"⟩ := Or.inl (ex_tw 421 (by decide +kernel) rfl)
theorem LK_Ms_49 : ex_LK "TagGuide$Models" 49 ⟨"TagGuide$Tree", "stepChildren", "(LTagGuide$Model;IIII)I"⟩ := Or.inl (ex_tw 588 (by decide +kernel) rfl)
theorem LK_Ms_53 : ex_LK "TagGuide$Models" 53 ⟨"TagGuide$Model", "accepts", "(I)Z"⟩ := Or.inl (ex_tw 430 (by decide +kernel) rfl)
theorem LK_Ms_57 : ex_LK "TagGuide$Models" 57 ⟨"TagGuide$Model", "forbidsCharacters", "()Z"⟩ := Or.inl (ex_tw 649 (by decide +kernel) rfl)
theorem LK_Ms_70 : ex_LK "TagGuide$Models" 70 ⟨"TagGuide$Model", "step", "(II)I"⟩ := Or.inl (ex_tw 620 (by decide +kernel) rfl)
theorem LK_Ms_74 : ex_LK "TagGuide$Models" 74 ⟨"TagGuide$Model", "spread", "(II)I"⟩ := Or.inl (ex_tw 422 (by decide +kernel) rfl)
theorem PF_Ms_11 : ex_PF "TagGuide$Models" 11 9 0 true (.array (.object "TagGuide$Model")) "<init>" := ⟨R_Ms, T_Ms, 3, t_Ms, rfl, by decide, rfl, rfl, u_Ms, t_Ms_ok, n_Ms, by decide +kernel, Or.inr ⟨rfl, rfl, rfl, ex_tw 100 (by decide +kernel) rfl⟩⟩
theorem PF_Ms_18 (nm : String) : ex_PF "TagGuide$Models" 18 9 1 true (.object "TagGuide$Model") nm := ⟨R_Ms, T_Ms, 3, t_Ms, rfl, by decide, rfl, rfl, u_Ms, t_Ms_ok, n_Ms, by decide +kernel, Or.inl ⟨rfl, Or.inl (ex_tw 101 (by decide +kernel) rfl)⟩⟩
theorem PF_Ms_67 (nm : String) : ex_PF "TagGuide$Models" 67 9 2 false (.int) nm := ⟨R_Ms, T_Ms, 3, t_Ms, rfl, by decide, rfl, rfl, u_Ms, t_Ms_ok, n_Ms, by decide +kernel, Or.inl ⟨rfl, Or.inl (ex_tw 103 (by decide +kernel) rfl)⟩⟩
theorem FL_Tx_9 : ex_FL "TagGuide$Text" 9 10 0 true := ⟨R_Tx, T_Tx, 2, rfl, by decide, rfl, rfl, u_Tx, Or.inl (ex_tw 118 (by decide +kernel) rfl)⟩
theorem FL_Tx_15 : ex_FL "TagGuide$Text" 15 10 1 false := ⟨R_Tx, T_Tx, 2, rfl, by decide, rfl, rfl, u_Tx, Or.inl (ex_tw 119 (by decide +kernel) rfl)⟩
theorem LK_Tx_3 : ex_LK "TagGuide$Text" 3 ⟨"java/lang/Object", "<init>", "()V"⟩ := Or.inl (ex_tw 117 (by decide +kernel) rfl)
theorem LK_Tx_19 : ex_LK "TagGuide$Text" 19 ⟨"TagGuide", "isWritable", "(I)Z"⟩ := Or.inr ⟨"TagGuide", ex_tn 488 (by decide +kernel) rfl⟩
theorem LK_Tx_23 : ex_LK "TagGuide$Text" 23 ⟨"java/lang/System", "arraycopy", "(Ljava/lang/Object;ILjava/lang/Object;II)V"⟩ := Or.inl (ex_tw 489 (by decide +kernel) rfl)
theorem LK_Tx_33 : ex_LK "TagGuide$Text" 33 ⟨"TagGuide", "isName", "(I)Z"⟩ := Or.inr ⟨"TagGuide", ex_tn 524 (by decide +kernel) rfl⟩
theorem LK_Tx_29 : ex_LK "TagGuide$Text" 29 ⟨"TagGuide$Text", "at", "(I)I"⟩ := Or.inl (ex_tw 520 (by decide +kernel) rfl)
theorem PF_Tx_9 : ex_PF "TagGuide$Text" 9 10 0 true (.array .char) "<init>" := ⟨R_Tx, T_Tx, 2, t_Tx, rfl, by decide, rfl, rfl, u_Tx, t_Tx_ok, n_Tx, by decide +kernel, Or.inr ⟨rfl, rfl, rfl, ex_tw 118 (by decide +kernel) rfl⟩⟩
theorem PF_Tx_15 (nm : String) : ex_PF "TagGuide$Text" 15 10 1 false (.int) nm := ⟨R_Tx, T_Tx, 2, t_Tx, rfl, by decide, rfl, rfl, u_Tx, t_Tx_ok, n_Tx, by decide +kernel, Or.inl ⟨rfl, Or.inl (ex_tw 119 (by decide +kernel) rfl)⟩⟩
theorem NL_Tr_9 : Cond.classLink "TagGuide$Tree" 9 "TagGuide$Element" ∈ exTW := ex_tw 134 (by decide +kernel) rfl
theorem FL_Tr_11 : ex_FL "TagGuide$Tree" 11 11 1 true := ⟨R_Tr, T_Tr, 8, rfl, by decide, rfl, rfl, u_Tr, Or.inl (ex_tw 190 (by decide +kernel) rfl)⟩
theorem FL_Tr_17 : ex_FL "TagGuide$Tree" 17 11 4 true := ⟨R_Tr, T_Tr, 8, rfl, by decide, rfl, rfl, u_Tr, Or.inl (ex_tw 200 (by decide +kernel) rfl)⟩
theorem FL_Tr_21 : ex_FL "TagGuide$Tree" 21 11 5 true := ⟨R_Tr, T_Tr, 8, rfl, by decide, rfl, rfl, u_Tr, Or.inl (ex_tw 201 (by decide +kernel) rfl)⟩
theorem FL_Tr_24 : ex_FL "TagGuide$Tree" 24 11 6 true := ⟨R_Tr, T_Tr, 8, rfl, by decide, rfl, rfl, u_Tr, Or.inl (ex_tw 202 (by decide +kernel) rfl)⟩
theorem FL_Tr_27 : ex_FL "TagGuide$Tree" 27 11 0 true := ⟨R_Tr, T_Tr, 8, rfl, by decide, rfl, rfl, u_Tr, Or.inl (ex_tw 189 (by decide +kernel) rfl)⟩
theorem FL_Tr_32 : ex_FL "TagGuide$Tree" 32 11 2 false := ⟨R_Tr, T_Tr, 8, rfl, by decide, rfl, rfl, u_Tr, Or.inl (ex_tw 195 (by decide +kernel) rfl)⟩
theorem FL_Tr_36 : ex_FL "TagGuide$Tree" 36 11 7 false := ⟨R_Tr, T_Tr, 8, rfl, by decide, rfl, rfl, u_Tr, Or.inl (ex_tw 203 (by decide +kernel) rfl)⟩
theorem FL_Tr_39 : ex_FL "TagGuide$Tree" 39 11 3 false := ⟨R_Tr, T_Tr, 8, rfl, by decide, rfl, rfl, u_Tr, Or.inl (ex_tw 199 (by decide +kernel) rfl)⟩
theorem FL_Tr_45 : ex_FL "TagGuide$Tree" 45 10 1 false := ⟨R_Tx, T_Tx, 2, rfl, by decide, rfl, rfl, u_Tx, Or.inr ⟨"TagGuide", ex_tn 120 (by decide +kernel) rfl⟩⟩
theorem FL_Tr_94 : ex_FL "TagGuide$Tree" 94 3 2 false := ⟨R_El, T_El, 10, rfl, by decide, rfl, rfl, u_El, Or.inr ⟨"TagGuide", ex_tn 149 (by decide +kernel) rfl⟩⟩
theorem FL_Tr_100 : ex_FL "TagGuide$Tree" 100 3 7 false := ⟨R_El, T_El, 10, rfl, by decide, rfl, rfl, u_El, Or.inr ⟨"TagGuide", ex_tn 162 (by decide +kernel) rfl⟩⟩
theorem FL_Tr_106 : ex_FL "TagGuide$Tree" 106 3 1 false := ⟨R_El, T_El, 10, rfl, by decide, rfl, rfl, u_El, Or.inr ⟨"TagGuide", ex_tn 147 (by decide +kernel) rfl⟩⟩
theorem FL_Tr_109 : ex_FL "TagGuide$Tree" 109 3 0 false := ⟨R_El, T_El, 10, rfl, by decide, rfl, rfl, u_El, Or.inr ⟨"TagGuide", ex_tn 144 (by decide +kernel) rfl⟩⟩
theorem FL_Tr_119 : ex_FL "TagGuide$Tree" 119 3 3 false := ⟨R_El, T_El, 10, rfl, by decide, rfl, rfl, u_El, Or.inr ⟨"TagGuide", ex_tn 153 (by decide +kernel) rfl⟩⟩
theorem LK_Tr_3 : ex_LK "TagGuide$Tree" 3 ⟨"java/lang/Object", "<init>", "()V"⟩ := Or.inl (ex_tw 133 (by decide +kernel) rfl)
theorem LK_Tr_31 : ex_LK "TagGuide$Tree" 31 ⟨"TagGuide$Element", "<init>", "()V"⟩ := Or.inr ⟨"TagGuide", ex_tn 137 (by decide +kernel) rfl⟩
theorem LK_Tr_42 : ex_LK "TagGuide$Tree" 42 ⟨"TagGuide$Element", "open", "(IIIII)V"⟩ := Or.inl (ex_tw 508 (by decide +kernel) rfl)
theorem LK_Tr_50 : ex_LK "TagGuide$Tree" 50 ⟨"TagGuide$Tree", "take", "(ILTagGuide$Faults;)I"⟩ := Or.inl (ex_tw 512 (by decide +kernel) rfl)
theorem LK_Tr_54 : ex_LK "TagGuide$Tree" 54 ⟨"TagGuide$Tree", "closeUpTo", "(II)V"⟩ := Or.inl (ex_tw 558 (by decide +kernel) rfl)
theorem LK_Tr_58 : ex_LK "TagGuide$Tree" 58 ⟨"TagGuide$Element", "close", "(III)V"⟩ := Or.inl (ex_tw 546 (by decide +kernel) rfl)
theorem LK_Tr_62 : ex_LK "TagGuide$Tree" 62 ⟨"TagGuide$Text", "tagKindAt", "(I)I"⟩ := Or.inl (ex_tw 516 (by decide +kernel) rfl)
theorem LK_Tr_66 : ex_LK "TagGuide$Tree" 66 ⟨"TagGuide$Tree", "takeStartTag", "(IILTagGuide$Faults;)V"⟩ := Or.inl (ex_tw 525 (by decide +kernel) rfl)
theorem LK_Tr_70 : ex_LK "TagGuide$Tree" 70 ⟨"TagGuide$Tree", "takeEmptyTag", "(IILTagGuide$Faults;)V"⟩ := Or.inl (ex_tw 542 (by decide +kernel) rfl)
theorem LK_Tr_73 : ex_LK "TagGuide$Tree" 73 ⟨"TagGuide$Tree", "takeEndTag", "(IILTagGuide$Faults;)V"⟩ := Or.inl (ex_tw 550 (by decide +kernel) rfl)
theorem LK_Tr_76 : ex_LK "TagGuide$Tree" 76 ⟨"TagGuide$Tree", "takeCharacter", "(ILTagGuide$Faults;)V"⟩ := Or.inl (ex_tw 562 (by decide +kernel) rfl)
theorem LK_Tr_80 : ex_LK "TagGuide$Tree" 80 ⟨"TagGuide$Text", "at", "(I)I"⟩ := Or.inl (ex_tw 541 (by decide +kernel) rfl)
theorem LK_Tr_83 : ex_LK "TagGuide$Tree" 83 ⟨"TagGuide$Element", "takeCharacter", "(II)V"⟩ := Or.inl (ex_tw 566 (by decide +kernel) rfl)
theorem LK_Tr_85 : ex_LK "TagGuide$Tree" 85 ⟨"TagGuide$Faults", "add", "(II)V"⟩ := Or.inl (ex_tw 537 (by decide +kernel) rfl)
theorem LK_Tr_90 : ex_LK "TagGuide$Tree" 90 ⟨"TagGuide$Tree", "begins", "(IILTagGuide$Faults;)Z"⟩ := Or.inl (ex_tw 529 (by decide +kernel) rfl)
theorem LK_Tr_97 : ex_LK "TagGuide$Tree" 97 ⟨"TagGuide$Tree", "addTag", "(III)V"⟩ := Or.inl (ex_tw 533 (by decide +kernel) rfl)
theorem LK_Tr_103 : ex_LK "TagGuide$Tree" 103 ⟨"TagGuide$Tree", "latestOpenWith", "(I)I"⟩ := Or.inl (ex_tw 554 (by decide +kernel) rfl)
theorem LK_Tr_112 : ex_LK "TagGuide$Tree" 112 ⟨"TagGuide$Text", "replace", "(II)V"⟩ := Or.inl (ex_tw 633 (by decide +kernel) rfl)
theorem LK_Tr_115 : ex_LK "TagGuide$Tree" 115 ⟨"TagGuide$Element", "hasInside", "(I)Z"⟩ := Or.inl (ex_tw 612 (by decide +kernel) rfl)
theorem LK_Tr_122 : ex_LK "TagGuide$Tree" 122 ⟨"TagGuide$Model", "step", "(II)I"⟩ := Or.inl (ex_tw 592 (by decide +kernel) rfl)
theorem PF_Tr_11 : ex_PF "TagGuide$Tree" 11 11 1 true (.array (.object "TagGuide$Element")) "<init>" := ⟨R_Tr, T_Tr, 8, t_Tr, rfl, by decide, rfl, rfl, u_Tr, t_Tr_ok, n_Tr, by decide +kernel, Or.inr ⟨rfl, rfl, rfl, ex_tw 190 (by decide +kernel) rfl⟩⟩
theorem PF_Tr_17 : ex_PF "TagGuide$Tree" 17 11 4 true (.array .int) "<init>" := ⟨R_Tr, T_Tr, 8, t_Tr, rfl, by decide, rfl, rfl, u_Tr, t_Tr_ok, n_Tr, by decide +kernel, Or.inr ⟨rfl, rfl, rfl, ex_tw 200 (by decide +kernel) rfl⟩⟩
theorem PF_Tr_21 : ex_PF "TagGuide$Tree" 21 11 5 true (.array .int) "<init>" := ⟨R_Tr, T_Tr, 8, t_Tr, rfl, by decide, rfl, rfl, u_Tr, t_Tr_ok, n_Tr, by decide +kernel, Or.inr ⟨rfl, rfl, rfl, ex_tw 201 (by decide +kernel) rfl⟩⟩
theorem PF_Tr_24 : ex_PF "TagGuide$Tree" 24 11 6 true (.array .int) "<init>" := ⟨R_Tr, T_Tr, 8, t_Tr, rfl, by decide, rfl, rfl, u_Tr, t_Tr_ok, n_Tr, by decide +kernel, Or.inr ⟨rfl, rfl, rfl, ex_tw 202 (by decide +kernel) rfl⟩⟩
theorem PF_Tr_27 : ex_PF "TagGuide$Tree" 27 11 0 true (.object "TagGuide$Text") "<init>" := ⟨R_Tr, T_Tr, 8, t_Tr, rfl, by decide, rfl, rfl, u_Tr, t_Tr_ok, n_Tr, by decide +kernel, Or.inr ⟨rfl, rfl, rfl, ex_tw 189 (by decide +kernel) rfl⟩⟩
theorem PF_Tr_32 (nm : String) : ex_PF "TagGuide$Tree" 32 11 2 false (.int) nm := ⟨R_Tr, T_Tr, 8, t_Tr, rfl, by decide, rfl, rfl, u_Tr, t_Tr_ok, n_Tr, by decide +kernel, Or.inl ⟨rfl, Or.inl (ex_tw 195 (by decide +kernel) rfl)⟩⟩
theorem PF_Tr_36 (nm : String) : ex_PF "TagGuide$Tree" 36 11 7 false (.int) nm := ⟨R_Tr, T_Tr, 8, t_Tr, rfl, by decide, rfl, rfl, u_Tr, t_Tr_ok, n_Tr, by decide +kernel, Or.inl ⟨rfl, Or.inl (ex_tw 203 (by decide +kernel) rfl)⟩⟩
theorem PF_Tr_39 (nm : String) : ex_PF "TagGuide$Tree" 39 11 3 false (.int) nm := ⟨R_Tr, T_Tr, 8, t_Tr, rfl, by decide, rfl, rfl, u_Tr, t_Tr_ok, n_Tr, by decide +kernel, Or.inl ⟨rfl, Or.inl (ex_tw 199 (by decide +kernel) rfl)⟩⟩
theorem PF_Tr_100 (nm : String) : ex_PF "TagGuide$Tree" 100 3 7 false (.int) nm := ⟨R_El, T_El, 10, t_El, rfl, by decide, rfl, rfl, u_El, t_El_ok, n_El, by decide +kernel, Or.inl ⟨rfl, Or.inr ⟨"TagGuide", ex_tn 162 (by decide +kernel) rfl⟩⟩⟩
theorem FL_RF_7 : ex_FL "TagGuideModel" 7 12 1 true := ⟨R_RF, T_RF, 44, rfl, by decide, rfl, rfl, u_RF, Or.inl (ex_tw 727 (by decide +kernel) rfl)⟩
theorem FL_RF_13 : ex_FL "TagGuideModel" 13 12 2 true := ⟨R_RF, T_RF, 44, rfl, by decide, rfl, rfl, u_RF, Or.inl (ex_tw 728 (by decide +kernel) rfl)⟩
theorem FL_RF_17 : ex_FL "TagGuideModel" 17 12 3 true := ⟨R_RF, T_RF, 44, rfl, by decide, rfl, rfl, u_RF, Or.inl (ex_tw 729 (by decide +kernel) rfl)⟩
theorem FL_RF_20 : ex_FL "TagGuideModel" 20 12 4 true := ⟨R_RF, T_RF, 44, rfl, by decide, rfl, rfl, u_RF, Or.inl (ex_tw 730 (by decide +kernel) rfl)⟩
theorem FL_RF_23 : ex_FL "TagGuideModel" 23 12 5 true := ⟨R_RF, T_RF, 44, rfl, by decide, rfl, rfl, u_RF, Or.inl (ex_tw 731 (by decide +kernel) rfl)⟩
theorem FL_RF_26 : ex_FL "TagGuideModel" 26 12 6 true := ⟨R_RF, T_RF, 44, rfl, by decide, rfl, rfl, u_RF, Or.inl (ex_tw 732 (by decide +kernel) rfl)⟩
theorem FL_RF_29 : ex_FL "TagGuideModel" 29 12 7 true := ⟨R_RF, T_RF, 44, rfl, by decide, rfl, rfl, u_RF, Or.inl (ex_tw 733 (by decide +kernel) rfl)⟩
theorem FL_RF_32 : ex_FL "TagGuideModel" 32 12 8 true := ⟨R_RF, T_RF, 44, rfl, by decide, rfl, rfl, u_RF, Or.inl (ex_tw 734 (by decide +kernel) rfl)⟩
theorem FL_RF_35 : ex_FL "TagGuideModel" 35 12 9 true := ⟨R_RF, T_RF, 44, rfl, by decide, rfl, rfl, u_RF, Or.inl (ex_tw 735 (by decide +kernel) rfl)⟩
theorem FL_RF_38 : ex_FL "TagGuideModel" 38 12 10 true := ⟨R_RF, T_RF, 44, rfl, by decide, rfl, rfl, u_RF, Or.inl (ex_tw 736 (by decide +kernel) rfl)⟩
theorem FL_RF_41 : ex_FL "TagGuideModel" 41 12 11 true := ⟨R_RF, T_RF, 44, rfl, by decide, rfl, rfl, u_RF, Or.inl (ex_tw 737 (by decide +kernel) rfl)⟩
theorem FL_RF_44 : ex_FL "TagGuideModel" 44 12 12 true := ⟨R_RF, T_RF, 44, rfl, by decide, rfl, rfl, u_RF, Or.inl (ex_tw 738 (by decide +kernel) rfl)⟩
theorem FL_RF_47 : ex_FL "TagGuideModel" 47 12 13 true := ⟨R_RF, T_RF, 44, rfl, by decide, rfl, rfl, u_RF, Or.inl (ex_tw 739 (by decide +kernel) rfl)⟩
theorem FL_RF_50 : ex_FL "TagGuideModel" 50 12 15 true := ⟨R_RF, T_RF, 44, rfl, by decide, rfl, rfl, u_RF, Or.inl (ex_tw 741 (by decide +kernel) rfl)⟩
theorem FL_RF_53 : ex_FL "TagGuideModel" 53 12 17 true := ⟨R_RF, T_RF, 44, rfl, by decide, rfl, rfl, u_RF, Or.inl (ex_tw 743 (by decide +kernel) rfl)⟩
theorem FL_RF_56 : ex_FL "TagGuideModel" 56 12 18 true := ⟨R_RF, T_RF, 44, rfl, by decide, rfl, rfl, u_RF, Or.inl (ex_tw 744 (by decide +kernel) rfl)⟩
theorem FL_RF_59 : ex_FL "TagGuideModel" 59 12 19 true := ⟨R_RF, T_RF, 44, rfl, by decide, rfl, rfl, u_RF, Or.inl (ex_tw 745 (by decide +kernel) rfl)⟩
theorem FL_RF_62 : ex_FL "TagGuideModel" 62 12 20 true := ⟨R_RF, T_RF, 44, rfl, by decide, rfl, rfl, u_RF, Or.inl (ex_tw 746 (by decide +kernel) rfl)⟩
theorem FL_RF_65 : ex_FL "TagGuideModel" 65 12 21 true := ⟨R_RF, T_RF, 44, rfl, by decide, rfl, rfl, u_RF, Or.inl (ex_tw 747 (by decide +kernel) rfl)⟩
theorem FL_RF_68 : ex_FL "TagGuideModel" 68 12 22 true := ⟨R_RF, T_RF, 44, rfl, by decide, rfl, rfl, u_RF, Or.inl (ex_tw 748 (by decide +kernel) rfl)⟩
theorem FL_RF_71 : ex_FL "TagGuideModel" 71 12 23 true := ⟨R_RF, T_RF, 44, rfl, by decide, rfl, rfl, u_RF, Or.inl (ex_tw 749 (by decide +kernel) rfl)⟩
theorem FL_RF_74 : ex_FL "TagGuideModel" 74 12 24 true := ⟨R_RF, T_RF, 44, rfl, by decide, rfl, rfl, u_RF, Or.inl (ex_tw 750 (by decide +kernel) rfl)⟩
theorem FL_RF_77 : ex_FL "TagGuideModel" 77 12 25 true := ⟨R_RF, T_RF, 44, rfl, by decide, rfl, rfl, u_RF, Or.inl (ex_tw 751 (by decide +kernel) rfl)⟩
theorem FL_RF_80 : ex_FL "TagGuideModel" 80 12 26 true := ⟨R_RF, T_RF, 44, rfl, by decide, rfl, rfl, u_RF, Or.inl (ex_tw 752 (by decide +kernel) rfl)⟩
theorem FL_RF_83 : ex_FL "TagGuideModel" 83 12 27 true := ⟨R_RF, T_RF, 44, rfl, by decide, rfl, rfl, u_RF, Or.inl (ex_tw 753 (by decide +kernel) rfl)⟩
theorem FL_RF_86 : ex_FL "TagGuideModel" 86 12 28 true := ⟨R_RF, T_RF, 44, rfl, by decide, rfl, rfl, u_RF, Or.inl (ex_tw 754 (by decide +kernel) rfl)⟩
theorem FL_RF_89 : ex_FL "TagGuideModel" 89 12 30 true := ⟨R_RF, T_RF, 44, rfl, by decide, rfl, rfl, u_RF, Or.inl (ex_tw 756 (by decide +kernel) rfl)⟩
theorem FL_RF_92 : ex_FL "TagGuideModel" 92 12 31 true := ⟨R_RF, T_RF, 44, rfl, by decide, rfl, rfl, u_RF, Or.inl (ex_tw 757 (by decide +kernel) rfl)⟩
theorem FL_RF_95 : ex_FL "TagGuideModel" 95 12 33 true := ⟨R_RF, T_RF, 44, rfl, by decide, rfl, rfl, u_RF, Or.inl (ex_tw 759 (by decide +kernel) rfl)⟩
theorem FL_RF_98 : ex_FL "TagGuideModel" 98 12 34 true := ⟨R_RF, T_RF, 44, rfl, by decide, rfl, rfl, u_RF, Or.inl (ex_tw 760 (by decide +kernel) rfl)⟩
theorem FL_RF_101 : ex_FL "TagGuideModel" 101 12 35 true := ⟨R_RF, T_RF, 44, rfl, by decide, rfl, rfl, u_RF, Or.inl (ex_tw 761 (by decide +kernel) rfl)⟩
theorem FL_RF_104 : ex_FL "TagGuideModel" 104 12 36 true := ⟨R_RF, T_RF, 44, rfl, by decide, rfl, rfl, u_RF, Or.inl (ex_tw 762 (by decide +kernel) rfl)⟩
theorem FL_RF_107 : ex_FL "TagGuideModel" 107 12 37 true := ⟨R_RF, T_RF, 44, rfl, by decide, rfl, rfl, u_RF, Or.inl (ex_tw 763 (by decide +kernel) rfl)⟩
theorem FL_RF_110 : ex_FL "TagGuideModel" 110 12 40 true := ⟨R_RF, T_RF, 44, rfl, by decide, rfl, rfl, u_RF, Or.inl (ex_tw 766 (by decide +kernel) rfl)⟩
theorem FL_RF_113 : ex_FL "TagGuideModel" 113 12 41 true := ⟨R_RF, T_RF, 44, rfl, by decide, rfl, rfl, u_RF, Or.inl (ex_tw 767 (by decide +kernel) rfl)⟩
theorem FL_RF_116 : ex_FL "TagGuideModel" 116 12 43 true := ⟨R_RF, T_RF, 44, rfl, by decide, rfl, rfl, u_RF, Or.inl (ex_tw 769 (by decide +kernel) rfl)⟩
theorem FL_RF_119 : ex_FL "TagGuideModel" 119 12 0 false := ⟨R_RF, T_RF, 44, rfl, by decide, rfl, rfl, u_RF, Or.inl (ex_tw 726 (by decide +kernel) rfl)⟩
theorem FL_RF_179 : ex_FL "TagGuideModel" 179 12 14 false := ⟨R_RF, T_RF, 44, rfl, by decide, rfl, rfl, u_RF, Or.inl (ex_tw 740 (by decide +kernel) rfl)⟩
theorem FL_RF_182 : ex_FL "TagGuideModel" 182 12 29 false := ⟨R_RF, T_RF, 44, rfl, by decide, rfl, rfl, u_RF, Or.inl (ex_tw 755 (by decide +kernel) rfl)⟩
theorem FL_RF_185 : ex_FL "TagGuideModel" 185 12 16 false := ⟨R_RF, T_RF, 44, rfl, by decide, rfl, rfl, u_RF, Or.inl (ex_tw 742 (by decide +kernel) rfl)⟩
theorem FL_RF_234 : ex_FL "TagGuideModel" 234 12 42 false := ⟨R_RF, T_RF, 44, rfl, by decide, rfl, rfl, u_RF, Or.inl (ex_tw 768 (by decide +kernel) rfl)⟩
theorem FL_RF_261 : ex_FL "TagGuideModel" 261 12 32 false := ⟨R_RF, T_RF, 44, rfl, by decide, rfl, rfl, u_RF, Or.inl (ex_tw 758 (by decide +kernel) rfl)⟩
theorem FL_RF_268 : ex_FL "TagGuideModel" 268 12 38 false := ⟨R_RF, T_RF, 44, rfl, by decide, rfl, rfl, u_RF, Or.inl (ex_tw 764 (by decide +kernel) rfl)⟩
theorem FL_RF_295 : ex_FL "TagGuideModel" 295 12 39 false := ⟨R_RF, T_RF, 44, rfl, by decide, rfl, rfl, u_RF, Or.inl (ex_tw 765 (by decide +kernel) rfl)⟩
theorem LK_RF_1 : ex_LK "TagGuideModel" 1 ⟨"java/lang/Object", "<init>", "()V"⟩ := Or.inl (ex_tw 725 (by decide +kernel) rfl)
theorem LK_RF_127 : ex_LK "TagGuideModel" 127 ⟨"TagGuideModel", "isName", "(I)Z"⟩ := Or.inl (ex_tw 872 (by decide +kernel) rfl)
theorem LK_RF_123 : ex_LK "TagGuideModel" 123 ⟨"TagGuideModel", "at", "(I)I"⟩ := Or.inl (ex_tw 879 (by decide +kernel) rfl)
theorem LK_RF_131 : ex_LK "TagGuideModel" 131 ⟨"TagGuideModel", "setPart", "(IZIIZ)V"⟩ := Or.inl (ex_tw 895 (by decide +kernel) rfl)
theorem LK_RF_135 : ex_LK "TagGuideModel" 135 ⟨"TagGuideModel", "link", "(II)V"⟩ := Or.inl (ex_tw 903 (by decide +kernel) rfl)
theorem LK_RF_139 : ex_LK "TagGuideModel" 139 ⟨"TagGuideModel", "choose", "(I)V"⟩ := Or.inl (ex_tw 899 (by decide +kernel) rfl)
theorem LK_RF_143 : ex_LK "TagGuideModel" 143 ⟨"TagGuideModel", "append", "(IIIZ)V"⟩ := Or.inl (ex_tw 907 (by decide +kernel) rfl)
theorem LK_RF_147 : ex_LK "TagGuideModel" 147 ⟨"TagGuideModel", "count", "(Z)I"⟩ := Or.inl (ex_tw 875 (by decide +kernel) rfl)
theorem LK_RF_151 : ex_LK "TagGuideModel" 151 ⟨"TagGuideModel", "readNothing", "()V"⟩ := Or.inl (ex_tw 883 (by decide +kernel) rfl)
theorem LK_RF_154 : ex_LK "TagGuideModel" 154 ⟨"TagGuideModel", "isExpression", "(I)Z"⟩ := Or.inl (ex_tw 887 (by decide +kernel) rfl)
theorem LK_RF_157 : ex_LK "TagGuideModel" 157 ⟨"TagGuideModel", "readExpression", "(I)V"⟩ := Or.inl (ex_tw 891 (by decide +kernel) rfl)
theorem LK_RF_160 : ex_LK "TagGuideModel" 160 ⟨"TagGuideModel", "takeDraft", "(C)I"⟩ := Or.inl (ex_tw 868 (by decide +kernel) rfl)
theorem LK_RF_164 : ex_LK "TagGuideModel" 164 ⟨"TagGuideModel", "next", "(II)I"⟩ := Or.inl (ex_tw 923 (by decide +kernel) rfl)
theorem LK_RF_168 : ex_LK "TagGuideModel" 168 ⟨"TagGuideModel", "step", "(III)I"⟩ := Or.inl (ex_tw 919 (by decide +kernel) rfl)
theorem LK_RF_172 : ex_LK "TagGuideModel" 172 ⟨"TagGuideModel", "steps", "(III)I"⟩ := Or.inl (ex_tw 915 (by decide +kernel) rfl)
theorem LK_RF_175 : ex_LK "TagGuideModel" 175 ⟨"TagGuideModel", "accepts", "(II)Z"⟩ := Or.inl (ex_tw 927 (by decide +kernel) rfl)
theorem LK_RF_188 : ex_LK "TagGuideModel" 188 ⟨"TagGuideModel", "addFault", "(II)V"⟩ := Or.inl (ex_tw 999 (by decide +kernel) rfl)
theorem LK_RF_191 : ex_LK "TagGuideModel" 191 ⟨"TagGuideModel", "charAt", "(I)I"⟩ := Or.inl (ex_tw 983 (by decide +kernel) rfl)
theorem LK_RF_194 : ex_LK "TagGuideModel" 194 ⟨"TagGuideModel", "closeBare", "(II)V"⟩ := Or.inl (ex_tw 1011 (by decide +kernel) rfl)
theorem LK_RF_197 : ex_LK "TagGuideModel" 197 ⟨"TagGuideModel", "mark", "(III)V"⟩ := Or.inl (ex_tw 987 (by decide +kernel) rfl)
theorem LK_RF_201 : ex_LK "TagGuideModel" 201 ⟨"TagGuideModel", "openElements", "()I"⟩ := Or.inl (ex_tw 995 (by decide +kernel) rfl)
theorem LK_RF_205 : ex_LK "TagGuideModel" 205 ⟨"TagGuideModel", "current", "()I"⟩ := Or.inl (ex_tw 1003 (by decide +kernel) rfl)
theorem LK_RF_208 : ex_LK "TagGuideModel" 208 ⟨"TagGuideModel", "newElement", "(IIII)I"⟩ := Or.inl (ex_tw 979 (by decide +kernel) rfl)
theorem LK_RF_212 : ex_LK "TagGuideModel" 212 ⟨"TagGuideModel", "takeStart", "(IZ)V"⟩ := Or.inl (ex_tw 991 (by decide +kernel) rfl)
theorem LK_RF_216 : ex_LK "TagGuideModel" 216 ⟨"TagGuideModel", "takeEnd", "(I)V"⟩ := Or.inl (ex_tw 1007 (by decide +kernel) rfl)
theorem LK_RF_219 : ex_LK "TagGuideModel" 219 ⟨"TagGuideModel", "takeCharacter", "(I)V"⟩ := Or.inl (ex_tw 1015 (by decide +kernel) rfl)
theorem LK_RF_222 : ex_LK "TagGuideModel" 222 ⟨"TagGuideModel", "judge", "(I)V"⟩ := Or.inl (ex_tw 1019 (by decide +kernel) rfl)
theorem LK_RF_225 : ex_LK "TagGuideModel" 225 ⟨"TagGuideModel", "modelOf", "(I)I"⟩ := Or.inl (ex_tw 1023 (by decide +kernel) rfl)
theorem LK_RF_228 : ex_LK "TagGuideModel" 228 ⟨"TagGuideModel", "fertile", "()I"⟩ := Or.inl (ex_tw 1031 (by decide +kernel) rfl)
theorem LK_RF_231 : ex_LK "TagGuideModel" 231 ⟨"TagGuideModel", "isBit", "(II)Z"⟩ := Or.inl (ex_tw 1032 (by decide +kernel) rfl)
theorem LK_RF_237 : ex_LK "TagGuideModel" 237 ⟨"TagGuideModel", "put", "(I)V"⟩ := Or.inl (ex_tw 1052 (by decide +kernel) rfl)
theorem LK_RF_240 : ex_LK "TagGuideModel" 240 ⟨"TagGuideModel", "loose", "(I)Z"⟩ := Or.inl (ex_tw 1044 (by decide +kernel) rfl)
theorem LK_RF_243 : ex_LK "TagGuideModel" 243 ⟨"TagGuideModel", "within", "(II)Z"⟩ := Or.inl (ex_tw 1064 (by decide +kernel) rfl)
theorem LK_RF_246 : ex_LK "TagGuideModel" 246 ⟨"TagGuideModel", "depthOf", "(I)I"⟩ := Or.inl (ex_tw 1068 (by decide +kernel) rfl)
theorem LK_RF_249 : ex_LK "TagGuideModel" 249 ⟨"TagGuideModel", "putLine", "(I)V"⟩ := Or.inl (ex_tw 1072 (by decide +kernel) rfl)
theorem LK_RF_252 : ex_LK "TagGuideModel" 252 ⟨"TagGuideModel", "putText", "(II)V"⟩ := Or.inl (ex_tw 1048 (by decide +kernel) rfl)
theorem LK_RF_255 : ex_LK "TagGuideModel" 255 ⟨"TagGuideModel", "laid", "(I)Z"⟩ := Or.inl (ex_tw 1056 (by decide +kernel) rfl)
theorem LK_RF_258 : ex_LK "TagGuideModel" 258 ⟨"TagGuideModel", "endLines", "(II)V"⟩ := Or.inl (ex_tw 1060 (by decide +kernel) rfl)
theorem LK_RF_264 : ex_LK "TagGuideModel" 264 ⟨"TagGuideModel", "post", "(IIIII)V"⟩ := Or.inl (ex_tw 935 (by decide +kernel) rfl)
theorem LK_RF_271 : ex_LK "TagGuideModel" 271 ⟨"TagGuideModel", "waitsAt", "(I)I"⟩ := Or.inl (ex_tw 951 (by decide +kernel) rfl)
theorem LK_RF_274 : ex_LK "TagGuideModel" 274 ⟨"TagGuideModel", "strike", "(I)V"⟩ := Or.inl (ex_tw 955 (by decide +kernel) rfl)
theorem LK_RF_277 : ex_LK "TagGuideModel" 277 ⟨"TagGuideModel", "analyse", "()V"⟩ := Or.inl (ex_tw 975 (by decide +kernel) rfl)
theorem LK_RF_280 : ex_LK "TagGuideModel" 280 ⟨"TagGuideModel", "offer", "(I)I"⟩ := Or.inl (ex_tw 1027 (by decide +kernel) rfl)
theorem LK_RF_283 : ex_LK "TagGuideModel" 283 ⟨"TagGuideModel", "rename", "(II)I"⟩ := Or.inl (ex_tw 1036 (by decide +kernel) rfl)
theorem LK_RF_286 : ex_LK "TagGuideModel" 286 ⟨"TagGuideModel", "makeForm", "()I"⟩ := Or.inl (ex_tw 1040 (by decide +kernel) rfl)
theorem LK_RF_289 : ex_LK "TagGuideModel" 289 ⟨"TagGuideModel", "insertNow", "(II)V"⟩ := Or.inl (ex_tw 963 (by decide +kernel) rfl)
theorem LK_RF_292 : ex_LK "TagGuideModel" 292 ⟨"TagGuideModel", "eraseNow", "(II)V"⟩ := Or.inl (ex_tw 967 (by decide +kernel) rfl)
theorem LK_RF_298 : ex_LK "TagGuideModel" 298 ⟨"TagGuideModel", "respond", "(III)I"⟩ := Or.inl (ex_tw 971 (by decide +kernel) rfl)
theorem PF_RF_7 (nm : String) : ex_PF "TagGuideModel" 7 12 1 true (.array .int) nm := ⟨R_RF, T_RF, 44, t_RF, rfl, by decide, rfl, rfl, u_RF, t_RF_ok, n_RF, by decide +kernel, Or.inl ⟨rfl, Or.inl (ex_tw 727 (by decide +kernel) rfl)⟩⟩
theorem PF_RF_13 (nm : String) : ex_PF "TagGuideModel" 13 12 2 true (.array .boolean) nm := ⟨R_RF, T_RF, 44, t_RF, rfl, by decide, rfl, rfl, u_RF, t_RF_ok, n_RF, by decide +kernel, Or.inl ⟨rfl, Or.inl (ex_tw 728 (by decide +kernel) rfl)⟩⟩
theorem PF_RF_17 (nm : String) : ex_PF "TagGuideModel" 17 12 3 true (.array .boolean) nm := ⟨R_RF, T_RF, 44, t_RF, rfl, by decide, rfl, rfl, u_RF, t_RF_ok, n_RF, by decide +kernel, Or.inl ⟨rfl, Or.inl (ex_tw 729 (by decide +kernel) rfl)⟩⟩
theorem PF_RF_20 (nm : String) : ex_PF "TagGuideModel" 20 12 4 true (.array .int) nm := ⟨R_RF, T_RF, 44, t_RF, rfl, by decide, rfl, rfl, u_RF, t_RF_ok, n_RF, by decide +kernel, Or.inl ⟨rfl, Or.inl (ex_tw 730 (by decide +kernel) rfl)⟩⟩
theorem PF_RF_23 (nm : String) : ex_PF "TagGuideModel" 23 12 5 true (.array .int) nm := ⟨R_RF, T_RF, 44, t_RF, rfl, by decide, rfl, rfl, u_RF, t_RF_ok, n_RF, by decide +kernel, Or.inl ⟨rfl, Or.inl (ex_tw 731 (by decide +kernel) rfl)⟩⟩
theorem PF_RF_26 (nm : String) : ex_PF "TagGuideModel" 26 12 6 true (.array .boolean) nm := ⟨R_RF, T_RF, 44, t_RF, rfl, by decide, rfl, rfl, u_RF, t_RF_ok, n_RF, by decide +kernel, Or.inl ⟨rfl, Or.inl (ex_tw 732 (by decide +kernel) rfl)⟩⟩
theorem PF_RF_29 (nm : String) : ex_PF "TagGuideModel" 29 12 7 true (.array .int) nm := ⟨R_RF, T_RF, 44, t_RF, rfl, by decide, rfl, rfl, u_RF, t_RF_ok, n_RF, by decide +kernel, Or.inl ⟨rfl, Or.inl (ex_tw 733 (by decide +kernel) rfl)⟩⟩
theorem PF_RF_32 (nm : String) : ex_PF "TagGuideModel" 32 12 8 true (.array .int) nm := ⟨R_RF, T_RF, 44, t_RF, rfl, by decide, rfl, rfl, u_RF, t_RF_ok, n_RF, by decide +kernel, Or.inl ⟨rfl, Or.inl (ex_tw 734 (by decide +kernel) rfl)⟩⟩
theorem PF_RF_35 (nm : String) : ex_PF "TagGuideModel" 35 12 9 true (.array .int) nm := ⟨R_RF, T_RF, 44, t_RF, rfl, by decide, rfl, rfl, u_RF, t_RF_ok, n_RF, by decide +kernel, Or.inl ⟨rfl, Or.inl (ex_tw 735 (by decide +kernel) rfl)⟩⟩
theorem PF_RF_38 (nm : String) : ex_PF "TagGuideModel" 38 12 10 true (.array .boolean) nm := ⟨R_RF, T_RF, 44, t_RF, rfl, by decide, rfl, rfl, u_RF, t_RF_ok, n_RF, by decide +kernel, Or.inl ⟨rfl, Or.inl (ex_tw 736 (by decide +kernel) rfl)⟩⟩
theorem PF_RF_41 (nm : String) : ex_PF "TagGuideModel" 41 12 11 true (.array .int) nm := ⟨R_RF, T_RF, 44, t_RF, rfl, by decide, rfl, rfl, u_RF, t_RF_ok, n_RF, by decide +kernel, Or.inl ⟨rfl, Or.inl (ex_tw 737 (by decide +kernel) rfl)⟩⟩
theorem PF_RF_44 (nm : String) : ex_PF "TagGuideModel" 44 12 12 true (.array .int) nm := ⟨R_RF, T_RF, 44, t_RF, rfl, by decide, rfl, rfl, u_RF, t_RF_ok, n_RF, by decide +kernel, Or.inl ⟨rfl, Or.inl (ex_tw 738 (by decide +kernel) rfl)⟩⟩
theorem PF_RF_47 (nm : String) : ex_PF "TagGuideModel" 47 12 13 true (.array .boolean) nm := ⟨R_RF, T_RF, 44, t_RF, rfl, by decide, rfl, rfl, u_RF, t_RF_ok, n_RF, by decide +kernel, Or.inl ⟨rfl, Or.inl (ex_tw 739 (by decide +kernel) rfl)⟩⟩
theorem PF_RF_50 (nm : String) : ex_PF "TagGuideModel" 50 12 15 true (.array .int) nm := ⟨R_RF, T_RF, 44, t_RF, rfl, by decide, rfl, rfl, u_RF, t_RF_ok, n_RF, by decide +kernel, Or.inl ⟨rfl, Or.inl (ex_tw 741 (by decide +kernel) rfl)⟩⟩
theorem PF_RF_53 (nm : String) : ex_PF "TagGuideModel" 53 12 17 true (.array .int) nm := ⟨R_RF, T_RF, 44, t_RF, rfl, by decide, rfl, rfl, u_RF, t_RF_ok, n_RF, by decide +kernel, Or.inl ⟨rfl, Or.inl (ex_tw 743 (by decide +kernel) rfl)⟩⟩
theorem PF_RF_56 (nm : String) : ex_PF "TagGuideModel" 56 12 18 true (.array .int) nm := ⟨R_RF, T_RF, 44, t_RF, rfl, by decide, rfl, rfl, u_RF, t_RF_ok, n_RF, by decide +kernel, Or.inl ⟨rfl, Or.inl (ex_tw 744 (by decide +kernel) rfl)⟩⟩
theorem PF_RF_59 (nm : String) : ex_PF "TagGuideModel" 59 12 19 true (.array .int) nm := ⟨R_RF, T_RF, 44, t_RF, rfl, by decide, rfl, rfl, u_RF, t_RF_ok, n_RF, by decide +kernel, Or.inl ⟨rfl, Or.inl (ex_tw 745 (by decide +kernel) rfl)⟩⟩
theorem PF_RF_62 (nm : String) : ex_PF "TagGuideModel" 62 12 20 true (.array .int) nm := ⟨R_RF, T_RF, 44, t_RF, rfl, by decide, rfl, rfl, u_RF, t_RF_ok, n_RF, by decide +kernel, Or.inl ⟨rfl, Or.inl (ex_tw 746 (by decide +kernel) rfl)⟩⟩
theorem PF_RF_65 (nm : String) : ex_PF "TagGuideModel" 65 12 21 true (.array .int) nm := ⟨R_RF, T_RF, 44, t_RF, rfl, by decide, rfl, rfl, u_RF, t_RF_ok, n_RF, by decide +kernel, Or.inl ⟨rfl, Or.inl (ex_tw 747 (by decide +kernel) rfl)⟩⟩
theorem PF_RF_68 (nm : String) : ex_PF "TagGuideModel" 68 12 22 true (.array .int) nm := ⟨R_RF, T_RF, 44, t_RF, rfl, by decide, rfl, rfl, u_RF, t_RF_ok, n_RF, by decide +kernel, Or.inl ⟨rfl, Or.inl (ex_tw 748 (by decide +kernel) rfl)⟩⟩
theorem PF_RF_71 (nm : String) : ex_PF "TagGuideModel" 71 12 23 true (.array .int) nm := ⟨R_RF, T_RF, 44, t_RF, rfl, by decide, rfl, rfl, u_RF, t_RF_ok, n_RF, by decide +kernel, Or.inl ⟨rfl, Or.inl (ex_tw 749 (by decide +kernel) rfl)⟩⟩
theorem PF_RF_74 (nm : String) : ex_PF "TagGuideModel" 74 12 24 true (.array .int) nm := ⟨R_RF, T_RF, 44, t_RF, rfl, by decide, rfl, rfl, u_RF, t_RF_ok, n_RF, by decide +kernel, Or.inl ⟨rfl, Or.inl (ex_tw 750 (by decide +kernel) rfl)⟩⟩
theorem PF_RF_77 (nm : String) : ex_PF "TagGuideModel" 77 12 25 true (.array .boolean) nm := ⟨R_RF, T_RF, 44, t_RF, rfl, by decide, rfl, rfl, u_RF, t_RF_ok, n_RF, by decide +kernel, Or.inl ⟨rfl, Or.inl (ex_tw 751 (by decide +kernel) rfl)⟩⟩
theorem PF_RF_80 (nm : String) : ex_PF "TagGuideModel" 80 12 26 true (.array .int) nm := ⟨R_RF, T_RF, 44, t_RF, rfl, by decide, rfl, rfl, u_RF, t_RF_ok, n_RF, by decide +kernel, Or.inl ⟨rfl, Or.inl (ex_tw 752 (by decide +kernel) rfl)⟩⟩
theorem PF_RF_83 (nm : String) : ex_PF "TagGuideModel" 83 12 27 true (.array .int) nm := ⟨R_RF, T_RF, 44, t_RF, rfl, by decide, rfl, rfl, u_RF, t_RF_ok, n_RF, by decide +kernel, Or.inl ⟨rfl, Or.inl (ex_tw 753 (by decide +kernel) rfl)⟩⟩
theorem PF_RF_86 (nm : String) : ex_PF "TagGuideModel" 86 12 28 true (.array .int) nm := ⟨R_RF, T_RF, 44, t_RF, rfl, by decide, rfl, rfl, u_RF, t_RF_ok, n_RF, by decide +kernel, Or.inl ⟨rfl, Or.inl (ex_tw 754 (by decide +kernel) rfl)⟩⟩
theorem PF_RF_89 (nm : String) : ex_PF "TagGuideModel" 89 12 30 true (.array .int) nm := ⟨R_RF, T_RF, 44, t_RF, rfl, by decide, rfl, rfl, u_RF, t_RF_ok, n_RF, by decide +kernel, Or.inl ⟨rfl, Or.inl (ex_tw 756 (by decide +kernel) rfl)⟩⟩
theorem PF_RF_92 (nm : String) : ex_PF "TagGuideModel" 92 12 31 true (.array .int) nm := ⟨R_RF, T_RF, 44, t_RF, rfl, by decide, rfl, rfl, u_RF, t_RF_ok, n_RF, by decide +kernel, Or.inl ⟨rfl, Or.inl (ex_tw 757 (by decide +kernel) rfl)⟩⟩
theorem PF_RF_95 (nm : String) : ex_PF "TagGuideModel" 95 12 33 true (.array .int) nm := ⟨R_RF, T_RF, 44, t_RF, rfl, by decide, rfl, rfl, u_RF, t_RF_ok, n_RF, by decide +kernel, Or.inl ⟨rfl, Or.inl (ex_tw 759 (by decide +kernel) rfl)⟩⟩
theorem PF_RF_98 (nm : String) : ex_PF "TagGuideModel" 98 12 34 true (.array .int) nm := ⟨R_RF, T_RF, 44, t_RF, rfl, by decide, rfl, rfl, u_RF, t_RF_ok, n_RF, by decide +kernel, Or.inl ⟨rfl, Or.inl (ex_tw 760 (by decide +kernel) rfl)⟩⟩
theorem PF_RF_101 (nm : String) : ex_PF "TagGuideModel" 101 12 35 true (.array .int) nm := ⟨R_RF, T_RF, 44, t_RF, rfl, by decide, rfl, rfl, u_RF, t_RF_ok, n_RF, by decide +kernel, Or.inl ⟨rfl, Or.inl (ex_tw 761 (by decide +kernel) rfl)⟩⟩
theorem PF_RF_104 (nm : String) : ex_PF "TagGuideModel" 104 12 36 true (.array .int) nm := ⟨R_RF, T_RF, 44, t_RF, rfl, by decide, rfl, rfl, u_RF, t_RF_ok, n_RF, by decide +kernel, Or.inl ⟨rfl, Or.inl (ex_tw 762 (by decide +kernel) rfl)⟩⟩
theorem PF_RF_107 (nm : String) : ex_PF "TagGuideModel" 107 12 37 true (.array .int) nm := ⟨R_RF, T_RF, 44, t_RF, rfl, by decide, rfl, rfl, u_RF, t_RF_ok, n_RF, by decide +kernel, Or.inl ⟨rfl, Or.inl (ex_tw 763 (by decide +kernel) rfl)⟩⟩
theorem PF_RF_110 (nm : String) : ex_PF "TagGuideModel" 110 12 40 true (.array .int) nm := ⟨R_RF, T_RF, 44, t_RF, rfl, by decide, rfl, rfl, u_RF, t_RF_ok, n_RF, by decide +kernel, Or.inl ⟨rfl, Or.inl (ex_tw 766 (by decide +kernel) rfl)⟩⟩
theorem PF_RF_113 (nm : String) : ex_PF "TagGuideModel" 113 12 41 true (.array .int) nm := ⟨R_RF, T_RF, 44, t_RF, rfl, by decide, rfl, rfl, u_RF, t_RF_ok, n_RF, by decide +kernel, Or.inl ⟨rfl, Or.inl (ex_tw 767 (by decide +kernel) rfl)⟩⟩
theorem PF_RF_116 (nm : String) : ex_PF "TagGuideModel" 116 12 43 true (.array .int) nm := ⟨R_RF, T_RF, 44, t_RF, rfl, by decide, rfl, rfl, u_RF, t_RF_ok, n_RF, by decide +kernel, Or.inl ⟨rfl, Or.inl (ex_tw 769 (by decide +kernel) rfl)⟩⟩
theorem PF_RF_119 (nm : String) : ex_PF "TagGuideModel" 119 12 0 false (.int) nm := ⟨R_RF, T_RF, 44, t_RF, rfl, by decide, rfl, rfl, u_RF, t_RF_ok, n_RF, by decide +kernel, Or.inl ⟨rfl, Or.inl (ex_tw 726 (by decide +kernel) rfl)⟩⟩
theorem PF_RF_179 (nm : String) : ex_PF "TagGuideModel" 179 12 14 false (.int) nm := ⟨R_RF, T_RF, 44, t_RF, rfl, by decide, rfl, rfl, u_RF, t_RF_ok, n_RF, by decide +kernel, Or.inl ⟨rfl, Or.inl (ex_tw 740 (by decide +kernel) rfl)⟩⟩
theorem PF_RF_182 (nm : String) : ex_PF "TagGuideModel" 182 12 29 false (.int) nm := ⟨R_RF, T_RF, 44, t_RF, rfl, by decide, rfl, rfl, u_RF, t_RF_ok, n_RF, by decide +kernel, Or.inl ⟨rfl, Or.inl (ex_tw 755 (by decide +kernel) rfl)⟩⟩
theorem PF_RF_185 (nm : String) : ex_PF "TagGuideModel" 185 12 16 false (.int) nm := ⟨R_RF, T_RF, 44, t_RF, rfl, by decide, rfl, rfl, u_RF, t_RF_ok, n_RF, by decide +kernel, Or.inl ⟨rfl, Or.inl (ex_tw 742 (by decide +kernel) rfl)⟩⟩
theorem PF_RF_234 (nm : String) : ex_PF "TagGuideModel" 234 12 42 false (.int) nm := ⟨R_RF, T_RF, 44, t_RF, rfl, by decide, rfl, rfl, u_RF, t_RF_ok, n_RF, by decide +kernel, Or.inl ⟨rfl, Or.inl (ex_tw 768 (by decide +kernel) rfl)⟩⟩
theorem PF_RF_261 (nm : String) : ex_PF "TagGuideModel" 261 12 32 false (.int) nm := ⟨R_RF, T_RF, 44, t_RF, rfl, by decide, rfl, rfl, u_RF, t_RF_ok, n_RF, by decide +kernel, Or.inl ⟨rfl, Or.inl (ex_tw 758 (by decide +kernel) rfl)⟩⟩
theorem PF_RF_268 (nm : String) : ex_PF "TagGuideModel" 268 12 38 false (.int) nm := ⟨R_RF, T_RF, 44, t_RF, rfl, by decide, rfl, rfl, u_RF, t_RF_ok, n_RF, by decide +kernel, Or.inl ⟨rfl, Or.inl (ex_tw 764 (by decide +kernel) rfl)⟩⟩
theorem PF_RF_295 (nm : String) : ex_PF "TagGuideModel" 295 12 39 false (.int) nm := ⟨R_RF, T_RF, 44, t_RF, rfl, by decide, rfl, rfl, u_RF, t_RF_ok, n_RF, by decide +kernel, Or.inl ⟨rfl, Or.inl (ex_tw 765 (by decide +kernel) rfl)⟩⟩
theorem MW_TG_init : ex_MW M_TG_init 0 := ⟨ex_tw 19 (by decide +kernel) rfl, ex_tw 1 (by decide +kernel) rfl, by decide, by decide, by decide +kernel, by decide⟩
theorem IN_TG_init : Cond.instanceMethod M_TG_init.1 ∈ exTW := ex_tw 18 (by decide +kernel) rfl
theorem MW_Dr_init : ex_MW M_Dr_init 0 := ⟨ex_tw 27 (by decide +kernel) rfl, ex_tw 2 (by decide +kernel) rfl, by decide, by decide, by decide +kernel, by decide⟩
theorem IN_Dr_init : Cond.instanceMethod M_Dr_init.1 ∈ exTW := ex_tw 26 (by decide +kernel) rfl
theorem MW_Mr_init : ex_MW M_Mr_init 1 := ⟨ex_tw 42 (by decide +kernel) rfl, ex_tw 3 (by decide +kernel) rfl, by decide, by decide, by decide +kernel, by decide⟩
theorem IN_Mr_init : Cond.instanceMethod M_Mr_init.1 ∈ exTW := ex_tw 41 (by decide +kernel) rfl
theorem MW_Mo_init : ex_MW M_Mo_init 0 := ⟨ex_tw 48 (by decide +kernel) rfl, ex_tw 4 (by decide +kernel) rfl, by decide, by decide, by decide +kernel, by decide⟩
theorem IN_Mo_init : Cond.instanceMethod M_Mo_init.1 ∈ exTW := ex_tw 47 (by decide +kernel) rfl
theorem MW_Ms_init : ex_MW M_Ms_init 0 := ⟨ex_tw 95 (by decide +kernel) rfl, ex_tw 5 (by decide +kernel) rfl, by decide, by decide, by decide +kernel, by decide⟩
theorem IN_Ms_init : Cond.instanceMethod M_Ms_init.1 ∈ exTW := ex_tw 94 (by decide +kernel) rfl
theorem MW_Tx_init : ex_MW M_Tx_init 0 := ⟨ex_tw 116 (by decide +kernel) rfl, ex_tw 6 (by decide +kernel) rfl, by decide, by decide, by decide +kernel, by decide⟩
theorem IN_Tx_init : Cond.instanceMethod M_Tx_init.1 ∈ exTW := ex_tw 115 (by decide +kernel) rfl
theorem MW_Tr_init : ex_MW M_Tr_init 1 := ⟨ex_tw 132 (by decide +kernel) rfl, ex_tw 7 (by decide +kernel) rfl, by decide, by decide, by decide +kernel, by decide⟩
theorem IN_Tr_init : Cond.instanceMethod M_Tr_init.1 ∈ exTW := ex_tw 131 (by decide +kernel) rfl
theorem MW_El_init : ex_MW M_El_init 0 := ⟨ex_tw 139 (by decide +kernel) rfl, ex_tw 8 (by decide +kernel) rfl, by decide, by decide, by decide +kernel, by decide⟩
theorem IN_El_init : Cond.instanceMethod M_El_init.1 ∈ exTW := ex_tw 138 (by decide +kernel) rfl
theorem MW_Fa_init : ex_MW M_Fa_init 0 := ⟨ex_tw 225 (by decide +kernel) rfl, ex_tw 9 (by decide +kernel) rfl, by decide, by decide, by decide +kernel, by decide⟩
theorem IN_Fa_init : Cond.instanceMethod M_Fa_init.1 ∈ exTW := ex_tw 224 (by decide +kernel) rfl
theorem MW_Fo_init : ex_MW M_Fo_init 3 := ⟨ex_tw 239 (by decide +kernel) rfl, ex_tw 10 (by decide +kernel) rfl, by decide, by decide, by decide +kernel, by decide⟩
theorem IN_Fo_init : Cond.instanceMethod M_Fo_init.1 ∈ exTW := ex_tw 238 (by decide +kernel) rfl
theorem MW_In_init : ex_MW M_In_init 0 := ⟨ex_tw 261 (by decide +kernel) rfl, ex_tw 11 (by decide +kernel) rfl, by decide, by decide, by decide +kernel, by decide⟩
theorem IN_In_init : Cond.instanceMethod M_In_init.1 ∈ exTW := ex_tw 260 (by decide +kernel) rfl
theorem MW_An_init : ex_MW M_An_init 0 := ⟨ex_tw 291 (by decide +kernel) rfl, ex_tw 12 (by decide +kernel) rfl, by decide, by decide, by decide +kernel, by decide⟩
theorem IN_An_init : Cond.instanceMethod M_An_init.1 ∈ exTW := ex_tw 290 (by decide +kernel) rfl
theorem MW_TG_write : ex_MW M_TG_write 1 := ⟨ex_tw 337 (by decide +kernel) rfl, ex_tw 1 (by decide +kernel) rfl, by decide, by decide, by decide +kernel, by decide⟩
theorem MI_TG_write : ex_MI M_TG_write := ⟨ex_tw 335 (by decide +kernel) rfl, ex_tw 336 (by decide +kernel) rfl⟩
theorem MW_Dr_append : ex_MW M_Dr_append 1 := ⟨ex_tw 341 (by decide +kernel) rfl, ex_tw 2 (by decide +kernel) rfl, by decide, by decide, by decide +kernel, by decide⟩
theorem MI_Dr_append : ex_MI M_Dr_append := ⟨ex_tw 339 (by decide +kernel) rfl, ex_tw 340 (by decide +kernel) rfl⟩
theorem MW_TG_isWritable : ex_MW M_TG_isWritable 1 := ⟨ex_tw 344 (by decide +kernel) rfl, ex_tw 1 (by decide +kernel) rfl, by decide, by decide, by decide +kernel, by decide⟩
theorem ST_TG_isWritable : Cond.static M_TG_isWritable.1 ∈ exTW := ex_tw 343 (by decide +kernel) rfl
theorem MW_TG_define : ex_MW M_TG_define 1 := ⟨ex_tw 348 (by decide +kernel) rfl, ex_tw 1 (by decide +kernel) rfl, by decide, by decide, by decide +kernel, by decide⟩
theorem MI_TG_define : ex_MI M_TG_define := ⟨ex_tw 346 (by decide +kernel) rfl, ex_tw 347 (by decide +kernel) rfl⟩
theorem MW_TG_isName : ex_MW M_TG_isName 1 := ⟨ex_tw 351 (by decide +kernel) rfl, ex_tw 1 (by decide +kernel) rfl, by decide, by decide, by decide +kernel, by decide⟩
theorem ST_TG_isName : Cond.static M_TG_isName.1 ∈ exTW := ex_tw 350 (by decide +kernel) rfl
theorem MW_Dr_isTooLarge : ex_MW M_Dr_isTooLarge 0 := ⟨ex_tw 355 (by decide +kernel) rfl, ex_tw 2 (by decide +kernel) rfl, by decide, by decide, by decide +kernel, by decide⟩
theorem MI_Dr_isTooLarge : ex_MI M_Dr_isTooLarge := ⟨ex_tw 353 (by decide +kernel) rfl, ex_tw 354 (by decide +kernel) rfl⟩
theorem MW_Mr_readInto : ex_MW M_Mr_readInto 1 := ⟨ex_tw 360 (by decide +kernel) rfl, ex_tw 3 (by decide +kernel) rfl, by decide, by decide, by decide +kernel, by decide⟩
theorem MI_Mr_readInto : ex_MI M_Mr_readInto := ⟨ex_tw 358 (by decide +kernel) rfl, ex_tw 359 (by decide +kernel) rfl⟩
theorem MW_Mo_clear : ex_MW M_Mo_clear 0 := ⟨ex_tw 364 (by decide +kernel) rfl, ex_tw 4 (by decide +kernel) rfl, by decide, by decide, by decide +kernel, by decide⟩
theorem MI_Mo_clear : ex_MI M_Mo_clear := ⟨ex_tw 362 (by decide +kernel) rfl, ex_tw 363 (by decide +kernel) rfl⟩
theorem MW_Mr_takes : ex_MW M_Mr_takes 1 := ⟨ex_tw 368 (by decide +kernel) rfl, ex_tw 3 (by decide +kernel) rfl, by decide, by decide, by decide +kernel, by decide⟩
theorem MI_Mr_takes : ex_MI M_Mr_takes := ⟨ex_tw 367 (by decide +kernel) rfl, ex_ts 0 (by decide +kernel) rfl⟩
theorem MW_Dr_at : ex_MW M_Dr_at 1 := ⟨ex_tw 372 (by decide +kernel) rfl, ex_tw 2 (by decide +kernel) rfl, by decide, by decide, by decide +kernel, by decide⟩
theorem MI_Dr_at : ex_MI M_Dr_at := ⟨ex_tw 370 (by decide +kernel) rfl, ex_tw 371 (by decide +kernel) rfl⟩
theorem MW_Mo_complete : ex_MW M_Mo_complete 3 := ⟨ex_tw 376 (by decide +kernel) rfl, ex_tw 4 (by decide +kernel) rfl, by decide, by decide, by decide +kernel, by decide⟩
theorem MI_Mo_complete : ex_MI M_Mo_complete := ⟨ex_tw 374 (by decide +kernel) rfl, ex_tw 375 (by decide +kernel) rfl⟩
theorem MW_Mo_start : ex_MW M_Mo_start 0 := ⟨ex_tw 380 (by decide +kernel) rfl, ex_tw 4 (by decide +kernel) rfl, by decide, by decide, by decide +kernel, by decide⟩
theorem MI_Mo_start : ex_MI M_Mo_start := ⟨ex_tw 378 (by decide +kernel) rfl, ex_tw 379 (by decide +kernel) rfl⟩
theorem MW_Mr_readsExpression : ex_MW M_Mr_readsExpression 1 := ⟨ex_tw 384 (by decide +kernel) rfl, ex_tw 3 (by decide +kernel) rfl, by decide, by decide, by decide +kernel, by decide⟩
theorem MI_Mr_readsExpression : ex_MI M_Mr_readsExpression := ⟨ex_tw 383 (by decide +kernel) rfl, ex_ts 1 (by decide +kernel) rfl⟩
theorem MW_Mr_readsSequence : ex_MW M_Mr_readsSequence 1 := ⟨ex_tw 388 (by decide +kernel) rfl, ex_tw 3 (by decide +kernel) rfl, by decide, by decide, by decide +kernel, by decide⟩
theorem MI_Mr_readsSequence : ex_MI M_Mr_readsSequence := ⟨ex_tw 387 (by decide +kernel) rfl, ex_ts 2 (by decide +kernel) rfl⟩
theorem MW_Mr_readsItem : ex_MW M_Mr_readsItem 1 := ⟨ex_tw 392 (by decide +kernel) rfl, ex_tw 3 (by decide +kernel) rfl, by decide, by decide, by decide +kernel, by decide⟩
theorem MI_Mr_readsItem : ex_MI M_Mr_readsItem := ⟨ex_tw 391 (by decide +kernel) rfl, ex_ts 3 (by decide +kernel) rfl⟩
theorem MW_Mr_readsName : ex_MW M_Mr_readsName 0 := ⟨ex_tw 396 (by decide +kernel) rfl, ex_tw 3 (by decide +kernel) rfl, by decide, by decide, by decide +kernel, by decide⟩
theorem MI_Mr_readsName : ex_MI M_Mr_readsName := ⟨ex_tw 395 (by decide +kernel) rfl, ex_ts 4 (by decide +kernel) rfl⟩
theorem MW_Mo_addState : ex_MW M_Mo_addState 1 := ⟨ex_tw 400 (by decide +kernel) rfl, ex_tw 4 (by decide +kernel) rfl, by decide, by decide, by decide +kernel, by decide⟩
theorem MI_Mo_addState : ex_MI M_Mo_addState := ⟨ex_tw 398 (by decide +kernel) rfl, ex_tw 399 (by decide +kernel) rfl⟩
theorem MW_Mr_readMark : ex_MW M_Mr_readMark 0 := ⟨ex_tw 405 (by decide +kernel) rfl, ex_tw 3 (by decide +kernel) rfl, by decide, by decide, by decide +kernel, by decide⟩
theorem MI_Mr_readMark : ex_MI M_Mr_readMark := ⟨ex_tw 404 (by decide +kernel) rfl, ex_ts 5 (by decide +kernel) rfl⟩
theorem MW_Mo_join : ex_MW M_Mo_join 2 := ⟨ex_tw 409 (by decide +kernel) rfl, ex_tw 4 (by decide +kernel) rfl, by decide, by decide, by decide +kernel, by decide⟩
theorem MI_Mo_join : ex_MI M_Mo_join := ⟨ex_tw 407 (by decide +kernel) rfl, ex_tw 408 (by decide +kernel) rfl⟩
theorem MW_Ms_useSpareFor : ex_MW M_Ms_useSpareFor 1 := ⟨ex_tw 413 (by decide +kernel) rfl, ex_tw 5 (by decide +kernel) rfl, by decide, by decide, by decide +kernel, by decide⟩
theorem MI_Ms_useSpareFor : ex_MI M_Ms_useSpareFor := ⟨ex_tw 411 (by decide +kernel) rfl, ex_tw 412 (by decide +kernel) rfl⟩
theorem MW_Ms_rowOf : ex_MW M_Ms_rowOf 1 := ⟨ex_tw 416 (by decide +kernel) rfl, ex_tw 5 (by decide +kernel) rfl, by decide, by decide, by decide +kernel, by decide⟩
theorem ST_Ms_rowOf : Cond.static M_Ms_rowOf.1 ∈ exTW := ex_tw 415 (by decide +kernel) rfl
theorem MW_Ms_findFertileNames : ex_MW M_Ms_findFertileNames 0 := ⟨ex_tw 420 (by decide +kernel) rfl, ex_tw 5 (by decide +kernel) rfl, by decide, by decide, by decide +kernel, by decide⟩
theorem MI_Ms_findFertileNames : ex_MI M_Ms_findFertileNames := ⟨ex_tw 419 (by decide +kernel) rfl, ex_ts 6 (by decide +kernel) rfl⟩
theorem MW_Mo_spread : ex_MW M_Mo_spread 2 := ⟨ex_tw 425 (by decide +kernel) rfl, ex_tw 4 (by decide +kernel) rfl, by decide, by decide, by decide +kernel, by decide⟩
theorem MI_Mo_spread : ex_MI M_Mo_spread := ⟨ex_tw 423 (by decide +kernel) rfl, ex_tw 424 (by decide +kernel) rfl⟩
theorem MW_Mo_followersOf : ex_MW M_Mo_followersOf 1 := ⟨ex_tw 429 (by decide +kernel) rfl, ex_tw 4 (by decide +kernel) rfl, by decide, by decide, by decide +kernel, by decide⟩
theorem MI_Mo_followersOf : ex_MI M_Mo_followersOf := ⟨ex_tw 428 (by decide +kernel) rfl, ex_ts 7 (by decide +kernel) rfl⟩
theorem MW_Mo_accepts : ex_MW M_Mo_accepts 1 := ⟨ex_tw 433 (by decide +kernel) rfl, ex_tw 4 (by decide +kernel) rfl, by decide, by decide, by decide +kernel, by decide⟩
theorem MI_Mo_accepts : ex_MI M_Mo_accepts := ⟨ex_tw 431 (by decide +kernel) rfl, ex_tw 432 (by decide +kernel) rfl⟩
theorem MW_Dr_clear : ex_MW M_Dr_clear 0 := ⟨ex_tw 437 (by decide +kernel) rfl, ex_tw 2 (by decide +kernel) rfl, by decide, by decide, by decide +kernel, by decide⟩
theorem MI_Dr_clear : ex_MI M_Dr_clear := ⟨ex_tw 435 (by decide +kernel) rfl, ex_tw 436 (by decide +kernel) rfl⟩
theorem MW_TG_insert : ex_MW M_TG_insert 2 := ⟨ex_tw 441 (by decide +kernel) rfl, ex_tw 1 (by decide +kernel) rfl, by decide, by decide, by decide +kernel, by decide⟩
theorem MI_TG_insert : ex_MI M_TG_insert := ⟨ex_tw 439 (by decide +kernel) rfl, ex_tw 440 (by decide +kernel) rfl⟩
theorem MW_In_put : ex_MW M_In_put 4 := ⟨ex_tw 445 (by decide +kernel) rfl, ex_tw 11 (by decide +kernel) rfl, by decide, by decide, by decide +kernel, by decide⟩
theorem MI_In_put : ex_MI M_In_put := ⟨ex_tw 443 (by decide +kernel) rfl, ex_tw 444 (by decide +kernel) rfl⟩
theorem MW_In_isFull : ex_MW M_In_isFull 0 := ⟨ex_tw 449 (by decide +kernel) rfl, ex_tw 11 (by decide +kernel) rfl, by decide, by decide, by decide +kernel, by decide⟩
theorem MI_In_isFull : ex_MI M_In_isFull := ⟨ex_tw 447 (by decide +kernel) rfl, ex_tw 448 (by decide +kernel) rfl⟩
theorem MW_TG_erase : ex_MW M_TG_erase 2 := ⟨ex_tw 453 (by decide +kernel) rfl, ex_tw 1 (by decide +kernel) rfl, by decide, by decide, by decide +kernel, by decide⟩
theorem MI_TG_erase : ex_MI M_TG_erase := ⟨ex_tw 451 (by decide +kernel) rfl, ex_tw 452 (by decide +kernel) rfl⟩
theorem MW_TG_ask : ex_MW M_TG_ask 3 := ⟨ex_tw 457 (by decide +kernel) rfl, ex_tw 1 (by decide +kernel) rfl, by decide, by decide, by decide +kernel, by decide⟩
theorem MI_TG_ask : ex_MI M_TG_ask := ⟨ex_tw 455 (by decide +kernel) rfl, ex_tw 456 (by decide +kernel) rfl⟩
theorem MW_In_putRequest : ex_MW M_In_putRequest 3 := ⟨ex_tw 462 (by decide +kernel) rfl, ex_tw 11 (by decide +kernel) rfl, by decide, by decide, by decide +kernel, by decide⟩
theorem MI_In_putRequest : ex_MI M_In_putRequest := ⟨ex_tw 460 (by decide +kernel) rfl, ex_tw 461 (by decide +kernel) rfl⟩
theorem MW_TG_cancel : ex_MW M_TG_cancel 1 := ⟨ex_tw 467 (by decide +kernel) rfl, ex_tw 1 (by decide +kernel) rfl, by decide, by decide, by decide +kernel, by decide⟩
theorem MI_TG_cancel : ex_MI M_TG_cancel := ⟨ex_tw 465 (by decide +kernel) rfl, ex_tw 466 (by decide +kernel) rfl⟩
theorem MW_In_find : ex_MW M_In_find 1 := ⟨ex_tw 471 (by decide +kernel) rfl, ex_tw 11 (by decide +kernel) rfl, by decide, by decide, by decide +kernel, by decide⟩
theorem MI_In_find : ex_MI M_In_find := ⟨ex_tw 469 (by decide +kernel) rfl, ex_tw 470 (by decide +kernel) rfl⟩
theorem MW_In_takeOut : ex_MW M_In_takeOut 1 := ⟨ex_tw 475 (by decide +kernel) rfl, ex_tw 11 (by decide +kernel) rfl, by decide, by decide, by decide +kernel, by decide⟩
theorem MI_In_takeOut : ex_MI M_In_takeOut := ⟨ex_tw 473 (by decide +kernel) rfl, ex_tw 474 (by decide +kernel) rfl⟩
theorem MW_TG_work : ex_MW M_TG_work 0 := ⟨ex_tw 479 (by decide +kernel) rfl, ex_tw 1 (by decide +kernel) rfl, by decide, by decide, by decide +kernel, by decide⟩
theorem MI_TG_work : ex_MI M_TG_work := ⟨ex_tw 477 (by decide +kernel) rfl, ex_tw 478 (by decide +kernel) rfl⟩
theorem MW_TG_change : ex_MW M_TG_change 3 := ⟨ex_tw 483 (by decide +kernel) rfl, ex_tw 1 (by decide +kernel) rfl, by decide, by decide, by decide +kernel, by decide⟩
theorem MI_TG_change : ex_MI M_TG_change := ⟨ex_tw 482 (by decide +kernel) rfl, ex_ts 8 (by decide +kernel) rfl⟩
theorem MW_Tx_putIn : ex_MW M_Tx_putIn 2 := ⟨ex_tw 487 (by decide +kernel) rfl, ex_tw 6 (by decide +kernel) rfl, by decide, by decide, by decide +kernel, by decide⟩
theorem MI_Tx_putIn : ex_MI M_Tx_putIn := ⟨ex_tw 485 (by decide +kernel) rfl, ex_tw 486 (by decide +kernel) rfl⟩
theorem MW_Tx_takeOut : ex_MW M_Tx_takeOut 2 := ⟨ex_tw 495 (by decide +kernel) rfl, ex_tw 6 (by decide +kernel) rfl, by decide, by decide, by decide +kernel, by decide⟩
theorem MI_Tx_takeOut : ex_MI M_Tx_takeOut := ⟨ex_tw 493 (by decide +kernel) rfl, ex_tw 494 (by decide +kernel) rfl⟩
theorem MW_TG_refresh : ex_MW M_TG_refresh 0 := ⟨ex_tw 499 (by decide +kernel) rfl, ex_tw 1 (by decide +kernel) rfl, by decide, by decide, by decide +kernel, by decide⟩
theorem MI_TG_refresh : ex_MI M_TG_refresh := ⟨ex_tw 498 (by decide +kernel) rfl, ex_ts 9 (by decide +kernel) rfl⟩
theorem MW_Fa_clear : ex_MW M_Fa_clear 0 := ⟨ex_tw 503 (by decide +kernel) rfl, ex_tw 9 (by decide +kernel) rfl, by decide, by decide, by decide +kernel, by decide⟩
theorem MI_Fa_clear : ex_MI M_Fa_clear := ⟨ex_tw 501 (by decide +kernel) rfl, ex_tw 502 (by decide +kernel) rfl⟩
theorem MW_Tr_read : ex_MW M_Tr_read 1 := ⟨ex_tw 507 (by decide +kernel) rfl, ex_tw 7 (by decide +kernel) rfl, by decide, by decide, by decide +kernel, by decide⟩
theorem MI_Tr_read : ex_MI M_Tr_read := ⟨ex_tw 505 (by decide +kernel) rfl, ex_tw 506 (by decide +kernel) rfl⟩
theorem MW_El_open : ex_MW M_El_open 5 := ⟨ex_tw 511 (by decide +kernel) rfl, ex_tw 8 (by decide +kernel) rfl, by decide, by decide, by decide +kernel, by decide⟩
theorem MI_El_open : ex_MI M_El_open := ⟨ex_tw 509 (by decide +kernel) rfl, ex_tw 510 (by decide +kernel) rfl⟩
theorem MW_Tr_take : ex_MW M_Tr_take 2 := ⟨ex_tw 515 (by decide +kernel) rfl, ex_tw 7 (by decide +kernel) rfl, by decide, by decide, by decide +kernel, by decide⟩
theorem MI_Tr_take : ex_MI M_Tr_take := ⟨ex_tw 514 (by decide +kernel) rfl, ex_ts 10 (by decide +kernel) rfl⟩
theorem MW_Tx_tagKindAt : ex_MW M_Tx_tagKindAt 1 := ⟨ex_tw 519 (by decide +kernel) rfl, ex_tw 6 (by decide +kernel) rfl, by decide, by decide, by decide +kernel, by decide⟩
theorem MI_Tx_tagKindAt : ex_MI M_Tx_tagKindAt := ⟨ex_tw 517 (by decide +kernel) rfl, ex_tw 518 (by decide +kernel) rfl⟩
theorem MW_Tx_at : ex_MW M_Tx_at 1 := ⟨ex_tw 523 (by decide +kernel) rfl, ex_tw 6 (by decide +kernel) rfl, by decide, by decide, by decide +kernel, by decide⟩
theorem MI_Tx_at : ex_MI M_Tx_at := ⟨ex_tw 521 (by decide +kernel) rfl, ex_tw 522 (by decide +kernel) rfl⟩
theorem MW_Tr_takeStartTag : ex_MW M_Tr_takeStartTag 3 := ⟨ex_tw 528 (by decide +kernel) rfl, ex_tw 7 (by decide +kernel) rfl, by decide, by decide, by decide +kernel, by decide⟩
theorem MI_Tr_takeStartTag : ex_MI M_Tr_takeStartTag := ⟨ex_tw 527 (by decide +kernel) rfl, ex_ts 11 (by decide +kernel) rfl⟩
theorem MW_Tr_begins : ex_MW M_Tr_begins 3 := ⟨ex_tw 532 (by decide +kernel) rfl, ex_tw 7 (by decide +kernel) rfl, by decide, by decide, by decide +kernel, by decide⟩
theorem MI_Tr_begins : ex_MI M_Tr_begins := ⟨ex_tw 531 (by decide +kernel) rfl, ex_ts 12 (by decide +kernel) rfl⟩
theorem MW_Tr_addTag : ex_MW M_Tr_addTag 3 := ⟨ex_tw 536 (by decide +kernel) rfl, ex_tw 7 (by decide +kernel) rfl, by decide, by decide, by decide +kernel, by decide⟩
theorem MI_Tr_addTag : ex_MI M_Tr_addTag := ⟨ex_tw 535 (by decide +kernel) rfl, ex_ts 13 (by decide +kernel) rfl⟩
theorem MW_Fa_add : ex_MW M_Fa_add 2 := ⟨ex_tw 540 (by decide +kernel) rfl, ex_tw 9 (by decide +kernel) rfl, by decide, by decide, by decide +kernel, by decide⟩
theorem MI_Fa_add : ex_MI M_Fa_add := ⟨ex_tw 538 (by decide +kernel) rfl, ex_tw 539 (by decide +kernel) rfl⟩
theorem MW_Tr_takeEmptyTag : ex_MW M_Tr_takeEmptyTag 3 := ⟨ex_tw 545 (by decide +kernel) rfl, ex_tw 7 (by decide +kernel) rfl, by decide, by decide, by decide +kernel, by decide⟩
theorem MI_Tr_takeEmptyTag : ex_MI M_Tr_takeEmptyTag := ⟨ex_tw 544 (by decide +kernel) rfl, ex_ts 14 (by decide +kernel) rfl⟩
theorem MW_El_close : ex_MW M_El_close 3 := ⟨ex_tw 549 (by decide +kernel) rfl, ex_tw 8 (by decide +kernel) rfl, by decide, by decide, by decide +kernel, by decide⟩
theorem MI_El_close : ex_MI M_El_close := ⟨ex_tw 547 (by decide +kernel) rfl, ex_tw 548 (by decide +kernel) rfl⟩
theorem MW_Tr_takeEndTag : ex_MW M_Tr_takeEndTag 3 := ⟨ex_tw 553 (by decide +kernel) rfl, ex_tw 7 (by decide +kernel) rfl, by decide, by decide, by decide +kernel, by decide⟩
theorem MI_Tr_takeEndTag : ex_MI M_Tr_takeEndTag := ⟨ex_tw 552 (by decide +kernel) rfl, ex_ts 15 (by decide +kernel) rfl⟩
theorem MW_Tr_latestOpenWith : ex_MW M_Tr_latestOpenWith 1 := ⟨ex_tw 557 (by decide +kernel) rfl, ex_tw 7 (by decide +kernel) rfl, by decide, by decide, by decide +kernel, by decide⟩
theorem MI_Tr_latestOpenWith : ex_MI M_Tr_latestOpenWith := ⟨ex_tw 556 (by decide +kernel) rfl, ex_ts 16 (by decide +kernel) rfl⟩
theorem MW_Tr_closeUpTo : ex_MW M_Tr_closeUpTo 2 := ⟨ex_tw 561 (by decide +kernel) rfl, ex_tw 7 (by decide +kernel) rfl, by decide, by decide, by decide +kernel, by decide⟩
theorem MI_Tr_closeUpTo : ex_MI M_Tr_closeUpTo := ⟨ex_tw 560 (by decide +kernel) rfl, ex_ts 17 (by decide +kernel) rfl⟩
theorem MW_Tr_takeCharacter : ex_MW M_Tr_takeCharacter 2 := ⟨ex_tw 565 (by decide +kernel) rfl, ex_tw 7 (by decide +kernel) rfl, by decide, by decide, by decide +kernel, by decide⟩
theorem MI_Tr_takeCharacter : ex_MI M_Tr_takeCharacter := ⟨ex_tw 564 (by decide +kernel) rfl, ex_ts 18 (by decide +kernel) rfl⟩
theorem MW_El_takeCharacter : ex_MW M_El_takeCharacter 2 := ⟨ex_tw 569 (by decide +kernel) rfl, ex_tw 8 (by decide +kernel) rfl, by decide, by decide, by decide +kernel, by decide⟩
theorem MI_El_takeCharacter : ex_MI M_El_takeCharacter := ⟨ex_tw 567 (by decide +kernel) rfl, ex_tw 568 (by decide +kernel) rfl⟩
theorem MW_Fa_judge : ex_MW M_Fa_judge 2 := ⟨ex_tw 573 (by decide +kernel) rfl, ex_tw 9 (by decide +kernel) rfl, by decide, by decide, by decide +kernel, by decide⟩
theorem MI_Fa_judge : ex_MI M_Fa_judge := ⟨ex_tw 571 (by decide +kernel) rfl, ex_tw 572 (by decide +kernel) rfl⟩
theorem MW_Ms_of : ex_MW M_Ms_of 1 := ⟨ex_tw 577 (by decide +kernel) rfl, ex_tw 5 (by decide +kernel) rfl, by decide, by decide, by decide +kernel, by decide⟩
theorem MI_Ms_of : ex_MI M_Ms_of := ⟨ex_tw 575 (by decide +kernel) rfl, ex_tw 576 (by decide +kernel) rfl⟩
theorem MW_Mo_forbidsCharacters : ex_MW M_Mo_forbidsCharacters 0 := ⟨ex_tw 582 (by decide +kernel) rfl, ex_tw 4 (by decide +kernel) rfl, by decide, by decide, by decide +kernel, by decide⟩
theorem MI_Mo_forbidsCharacters : ex_MI M_Mo_forbidsCharacters := ⟨ex_tw 580 (by decide +kernel) rfl, ex_tw 581 (by decide +kernel) rfl⟩
theorem MW_Ms_allowChildren : ex_MW M_Ms_allowChildren 2 := ⟨ex_tw 586 (by decide +kernel) rfl, ex_tw 5 (by decide +kernel) rfl, by decide, by decide, by decide +kernel, by decide⟩
theorem MI_Ms_allowChildren : ex_MI M_Ms_allowChildren := ⟨ex_tw 584 (by decide +kernel) rfl, ex_tw 585 (by decide +kernel) rfl⟩
theorem MW_Tr_stepChildren : ex_MW M_Tr_stepChildren 5 := ⟨ex_tw 591 (by decide +kernel) rfl, ex_tw 7 (by decide +kernel) rfl, by decide, by decide, by decide +kernel, by decide⟩
theorem MI_Tr_stepChildren : ex_MI M_Tr_stepChildren := ⟨ex_tw 589 (by decide +kernel) rfl, ex_tw 590 (by decide +kernel) rfl⟩
theorem MW_Mo_step : ex_MW M_Mo_step 2 := ⟨ex_tw 595 (by decide +kernel) rfl, ex_tw 4 (by decide +kernel) rfl, by decide, by decide, by decide +kernel, by decide⟩
theorem MI_Mo_step : ex_MI M_Mo_step := ⟨ex_tw 593 (by decide +kernel) rfl, ex_tw 594 (by decide +kernel) rfl⟩
theorem MW_TG_reply : ex_MW M_TG_reply 3 := ⟨ex_tw 599 (by decide +kernel) rfl, ex_tw 1 (by decide +kernel) rfl, by decide, by decide, by decide +kernel, by decide⟩
theorem MI_TG_reply : ex_MI M_TG_reply := ⟨ex_tw 598 (by decide +kernel) rfl, ex_ts 19 (by decide +kernel) rfl⟩
theorem MW_TG_offerAt : ex_MW M_TG_offerAt 1 := ⟨ex_tw 603 (by decide +kernel) rfl, ex_tw 1 (by decide +kernel) rfl, by decide, by decide, by decide +kernel, by decide⟩
theorem MI_TG_offerAt : ex_MI M_TG_offerAt := ⟨ex_tw 602 (by decide +kernel) rfl, ex_ts 20 (by decide +kernel) rfl⟩
theorem MW_Tr_isWithinTag : ex_MW M_Tr_isWithinTag 1 := ⟨ex_tw 607 (by decide +kernel) rfl, ex_tw 7 (by decide +kernel) rfl, by decide, by decide, by decide +kernel, by decide⟩
theorem MI_Tr_isWithinTag : ex_MI M_Tr_isWithinTag := ⟨ex_tw 605 (by decide +kernel) rfl, ex_tw 606 (by decide +kernel) rfl⟩
theorem MW_Tr_insideOf : ex_MW M_Tr_insideOf 1 := ⟨ex_tw 611 (by decide +kernel) rfl, ex_tw 7 (by decide +kernel) rfl, by decide, by decide, by decide +kernel, by decide⟩
theorem MI_Tr_insideOf : ex_MI M_Tr_insideOf := ⟨ex_tw 609 (by decide +kernel) rfl, ex_tw 610 (by decide +kernel) rfl⟩
theorem MW_El_hasInside : ex_MW M_El_hasInside 1 := ⟨ex_tw 615 (by decide +kernel) rfl, ex_tw 8 (by decide +kernel) rfl, by decide, by decide, by decide +kernel, by decide⟩
theorem MI_El_hasInside : ex_MI M_El_hasInside := ⟨ex_tw 613 (by decide +kernel) rfl, ex_tw 614 (by decide +kernel) rfl⟩
theorem MW_Ms_offer : ex_MW M_Ms_offer 3 := ⟨ex_tw 619 (by decide +kernel) rfl, ex_tw 5 (by decide +kernel) rfl, by decide, by decide, by decide +kernel, by decide⟩
theorem MI_Ms_offer : ex_MI M_Ms_offer := ⟨ex_tw 617 (by decide +kernel) rfl, ex_tw 618 (by decide +kernel) rfl⟩
theorem MW_TG_renameAt : ex_MW M_TG_renameAt 2 := ⟨ex_tw 624 (by decide +kernel) rfl, ex_tw 1 (by decide +kernel) rfl, by decide, by decide, by decide +kernel, by decide⟩
theorem MI_TG_renameAt : ex_MI M_TG_renameAt := ⟨ex_tw 623 (by decide +kernel) rfl, ex_ts 21 (by decide +kernel) rfl⟩
theorem MW_Tr_ownerOfTagAt : ex_MW M_Tr_ownerOfTagAt 1 := ⟨ex_tw 628 (by decide +kernel) rfl, ex_tw 7 (by decide +kernel) rfl, by decide, by decide, by decide +kernel, by decide⟩
theorem MI_Tr_ownerOfTagAt : ex_MI M_Tr_ownerOfTagAt := ⟨ex_tw 626 (by decide +kernel) rfl, ex_tw 627 (by decide +kernel) rfl⟩
theorem MW_Tr_renameTags : ex_MW M_Tr_renameTags 2 := ⟨ex_tw 632 (by decide +kernel) rfl, ex_tw 7 (by decide +kernel) rfl, by decide, by decide, by decide +kernel, by decide⟩
theorem MI_Tr_renameTags : ex_MI M_Tr_renameTags := ⟨ex_tw 630 (by decide +kernel) rfl, ex_tw 631 (by decide +kernel) rfl⟩
theorem MW_Tx_replace : ex_MW M_Tx_replace 2 := ⟨ex_tw 636 (by decide +kernel) rfl, ex_tw 6 (by decide +kernel) rfl, by decide, by decide, by decide +kernel, by decide⟩
theorem MI_Tx_replace : ex_MI M_Tx_replace := ⟨ex_tw 634 (by decide +kernel) rfl, ex_tw 635 (by decide +kernel) rfl⟩
theorem MW_Fa_preventForm : ex_MW M_Fa_preventForm 0 := ⟨ex_tw 640 (by decide +kernel) rfl, ex_tw 9 (by decide +kernel) rfl, by decide, by decide, by decide +kernel, by decide⟩
theorem MI_Fa_preventForm : ex_MI M_Fa_preventForm := ⟨ex_tw 638 (by decide +kernel) rfl, ex_tw 639 (by decide +kernel) rfl⟩
theorem MW_Fo_formAnew : ex_MW M_Fo_formAnew 0 := ⟨ex_tw 644 (by decide +kernel) rfl, ex_tw 10 (by decide +kernel) rfl, by decide, by decide, by decide +kernel, by decide⟩
theorem MI_Fo_formAnew : ex_MI M_Fo_formAnew := ⟨ex_tw 642 (by decide +kernel) rfl, ex_tw 643 (by decide +kernel) rfl⟩
theorem MW_Ms_makeLoose : ex_MW M_Ms_makeLoose 1 := ⟨ex_tw 648 (by decide +kernel) rfl, ex_tw 5 (by decide +kernel) rfl, by decide, by decide, by decide +kernel, by decide⟩
theorem MI_Ms_makeLoose : ex_MI M_Ms_makeLoose := ⟨ex_tw 646 (by decide +kernel) rfl, ex_tw 647 (by decide +kernel) rfl⟩
theorem MW_Fo_copy : ex_MW M_Fo_copy 2 := ⟨ex_tw 653 (by decide +kernel) rfl, ex_tw 10 (by decide +kernel) rfl, by decide, by decide, by decide +kernel, by decide⟩
theorem MI_Fo_copy : ex_MI M_Fo_copy := ⟨ex_tw 652 (by decide +kernel) rfl, ex_ts 22 (by decide +kernel) rfl⟩
theorem MW_Fo_put : ex_MW M_Fo_put 1 := ⟨ex_tw 658 (by decide +kernel) rfl, ex_tw 10 (by decide +kernel) rfl, by decide, by decide, by decide +kernel, by decide⟩
theorem MI_Fo_put : ex_MI M_Fo_put := ⟨ex_tw 657 (by decide +kernel) rfl, ex_ts 23 (by decide +kernel) rfl⟩
theorem MW_Fo_startLine : ex_MW M_Fo_startLine 1 := ⟨ex_tw 662 (by decide +kernel) rfl, ex_tw 10 (by decide +kernel) rfl, by decide, by decide, by decide +kernel, by decide⟩
theorem MI_Fo_startLine : ex_MI M_Fo_startLine := ⟨ex_tw 661 (by decide +kernel) rfl, ex_ts 24 (by decide +kernel) rfl⟩
theorem MW_Fo_addForm : ex_MW M_Fo_addForm 2 := ⟨ex_tw 666 (by decide +kernel) rfl, ex_tw 10 (by decide +kernel) rfl, by decide, by decide, by decide +kernel, by decide⟩
theorem MI_Fo_addForm : ex_MI M_Fo_addForm := ⟨ex_tw 665 (by decide +kernel) rfl, ex_ts 25 (by decide +kernel) rfl⟩
theorem MW_An_keep : ex_MW M_An_keep 2 := ⟨ex_tw 670 (by decide +kernel) rfl, ex_tw 12 (by decide +kernel) rfl, by decide, by decide, by decide +kernel, by decide⟩
theorem MI_An_keep : ex_MI M_An_keep := ⟨ex_tw 668 (by decide +kernel) rfl, ex_tw 669 (by decide +kernel) rfl⟩
theorem MW_TG_answer : ex_MW M_TG_answer 1 := ⟨ex_tw 674 (by decide +kernel) rfl, ex_tw 1 (by decide +kernel) rfl, by decide, by decide, by decide +kernel, by decide⟩
theorem MI_TG_answer : ex_MI M_TG_answer := ⟨ex_tw 672 (by decide +kernel) rfl, ex_tw 673 (by decide +kernel) rfl⟩
theorem MW_An_of : ex_MW M_An_of 1 := ⟨ex_tw 678 (by decide +kernel) rfl, ex_tw 12 (by decide +kernel) rfl, by decide, by decide, by decide +kernel, by decide⟩
theorem MI_An_of : ex_MI M_An_of := ⟨ex_tw 676 (by decide +kernel) rfl, ex_tw 677 (by decide +kernel) rfl⟩
theorem MW_TG_inbox : ex_MW M_TG_inbox 0 := ⟨ex_tw 682 (by decide +kernel) rfl, ex_tw 1 (by decide +kernel) rfl, by decide, by decide, by decide +kernel, by decide⟩
theorem MI_TG_inbox : ex_MI M_TG_inbox := ⟨ex_tw 680 (by decide +kernel) rfl, ex_tw 681 (by decide +kernel) rfl⟩
theorem MW_TG_length : ex_MW M_TG_length 0 := ⟨ex_tw 686 (by decide +kernel) rfl, ex_tw 1 (by decide +kernel) rfl, by decide, by decide, by decide +kernel, by decide⟩
theorem MI_TG_length : ex_MI M_TG_length := ⟨ex_tw 684 (by decide +kernel) rfl, ex_tw 685 (by decide +kernel) rfl⟩
theorem MW_TG_character : ex_MW M_TG_character 1 := ⟨ex_tw 690 (by decide +kernel) rfl, ex_tw 1 (by decide +kernel) rfl, by decide, by decide, by decide +kernel, by decide⟩
theorem MI_TG_character : ex_MI M_TG_character := ⟨ex_tw 688 (by decide +kernel) rfl, ex_tw 689 (by decide +kernel) rfl⟩
theorem MW_TG_element : ex_MW M_TG_element 2 := ⟨ex_tw 695 (by decide +kernel) rfl, ex_tw 1 (by decide +kernel) rfl, by decide, by decide, by decide +kernel, by decide⟩
theorem MI_TG_element : ex_MI M_TG_element := ⟨ex_tw 693 (by decide +kernel) rfl, ex_tw 694 (by decide +kernel) rfl⟩
theorem MW_El_tell : ex_MW M_El_tell 1 := ⟨ex_tw 699 (by decide +kernel) rfl, ex_tw 8 (by decide +kernel) rfl, by decide, by decide, by decide +kernel, by decide⟩
theorem MI_El_tell : ex_MI M_El_tell := ⟨ex_tw 697 (by decide +kernel) rfl, ex_tw 698 (by decide +kernel) rfl⟩
theorem MW_TG_fault : ex_MW M_TG_fault 2 := ⟨ex_tw 703 (by decide +kernel) rfl, ex_tw 1 (by decide +kernel) rfl, by decide, by decide, by decide +kernel, by decide⟩
theorem MI_TG_fault : ex_MI M_TG_fault := ⟨ex_tw 701 (by decide +kernel) rfl, ex_tw 702 (by decide +kernel) rfl⟩
theorem MW_Fa_tell : ex_MW M_Fa_tell 2 := ⟨ex_tw 707 (by decide +kernel) rfl, ex_tw 9 (by decide +kernel) rfl, by decide, by decide, by decide +kernel, by decide⟩
theorem MI_Fa_tell : ex_MI M_Fa_tell := ⟨ex_tw 705 (by decide +kernel) rfl, ex_tw 706 (by decide +kernel) rfl⟩
theorem MW_TG_fertile : ex_MW M_TG_fertile 0 := ⟨ex_tw 711 (by decide +kernel) rfl, ex_tw 1 (by decide +kernel) rfl, by decide, by decide, by decide +kernel, by decide⟩
theorem MI_TG_fertile : ex_MI M_TG_fertile := ⟨ex_tw 709 (by decide +kernel) rfl, ex_tw 710 (by decide +kernel) rfl⟩
theorem MW_TG_formed : ex_MW M_TG_formed 1 := ⟨ex_tw 715 (by decide +kernel) rfl, ex_tw 1 (by decide +kernel) rfl, by decide, by decide, by decide +kernel, by decide⟩
theorem MI_TG_formed : ex_MI M_TG_formed := ⟨ex_tw 713 (by decide +kernel) rfl, ex_tw 714 (by decide +kernel) rfl⟩
theorem MW_Fo_at : ex_MW M_Fo_at 1 := ⟨ex_tw 719 (by decide +kernel) rfl, ex_tw 10 (by decide +kernel) rfl, by decide, by decide, by decide +kernel, by decide⟩
theorem MI_Fo_at : ex_MI M_Fo_at := ⟨ex_tw 717 (by decide +kernel) rfl, ex_tw 718 (by decide +kernel) rfl⟩
theorem MW_RF_init : ex_MW M_RF_init 0 := ⟨ex_tw 724 (by decide +kernel) rfl, ex_tw 13 (by decide +kernel) rfl, by decide, by decide, by decide +kernel, by decide⟩
theorem IN_RF_init : Cond.instanceMethod M_RF_init.1 ∈ exTW := ex_tw 723 (by decide +kernel) rfl
theorem MW_RF_write : ex_MW M_RF_write 1 := ⟨ex_tw 863 (by decide +kernel) rfl, ex_tw 13 (by decide +kernel) rfl, by decide, by decide, by decide +kernel, by decide⟩
theorem MI_RF_write : ex_MI M_RF_write := ⟨ex_tw 861 (by decide +kernel) rfl, ex_tw 862 (by decide +kernel) rfl⟩
theorem MW_RF_define : ex_MW M_RF_define 1 := ⟨ex_tw 867 (by decide +kernel) rfl, ex_tw 13 (by decide +kernel) rfl, by decide, by decide, by decide +kernel, by decide⟩
theorem MI_RF_define : ex_MI M_RF_define := ⟨ex_tw 865 (by decide +kernel) rfl, ex_tw 866 (by decide +kernel) rfl⟩
theorem MW_RF_takeDraft : ex_MW M_RF_takeDraft 1 := ⟨ex_tw 871 (by decide +kernel) rfl, ex_tw 13 (by decide +kernel) rfl, by decide, by decide, by decide +kernel, by decide⟩
theorem MI_RF_takeDraft : ex_MI M_RF_takeDraft := ⟨ex_tw 870 (by decide +kernel) rfl, ex_ts 26 (by decide +kernel) rfl⟩
theorem MW_RF_isName : ex_MW M_RF_isName 1 := ⟨ex_tw 874 (by decide +kernel) rfl, ex_tw 13 (by decide +kernel) rfl, by decide, by decide, by decide +kernel, by decide⟩
theorem ST_RF_isName : Cond.static M_RF_isName.1 ∈ exTW := ex_tw 873 (by decide +kernel) rfl
theorem MW_RF_count : ex_MW M_RF_count 1 := ⟨ex_tw 878 (by decide +kernel) rfl, ex_tw 13 (by decide +kernel) rfl, by decide, by decide, by decide +kernel, by decide⟩
theorem MI_RF_count : ex_MI M_RF_count := ⟨ex_tw 877 (by decide +kernel) rfl, ex_ts 27 (by decide +kernel) rfl⟩
theorem MW_RF_at : ex_MW M_RF_at 1 := ⟨ex_tw 882 (by decide +kernel) rfl, ex_tw 13 (by decide +kernel) rfl, by decide, by decide, by decide +kernel, by decide⟩
theorem MI_RF_at : ex_MI M_RF_at := ⟨ex_tw 881 (by decide +kernel) rfl, ex_ts 28 (by decide +kernel) rfl⟩
theorem MW_RF_readNothing : ex_MW M_RF_readNothing 0 := ⟨ex_tw 886 (by decide +kernel) rfl, ex_tw 13 (by decide +kernel) rfl, by decide, by decide, by decide +kernel, by decide⟩
theorem MI_RF_readNothing : ex_MI M_RF_readNothing := ⟨ex_tw 885 (by decide +kernel) rfl, ex_ts 29 (by decide +kernel) rfl⟩
theorem MW_RF_isExpression : ex_MW M_RF_isExpression 1 := ⟨ex_tw 890 (by decide +kernel) rfl, ex_tw 13 (by decide +kernel) rfl, by decide, by decide, by decide +kernel, by decide⟩
theorem MI_RF_isExpression : ex_MI M_RF_isExpression := ⟨ex_tw 889 (by decide +kernel) rfl, ex_ts 30 (by decide +kernel) rfl⟩
theorem MW_RF_readExpression : ex_MW M_RF_readExpression 1 := ⟨ex_tw 894 (by decide +kernel) rfl, ex_tw 13 (by decide +kernel) rfl, by decide, by decide, by decide +kernel, by decide⟩
theorem MI_RF_readExpression : ex_MI M_RF_readExpression := ⟨ex_tw 893 (by decide +kernel) rfl, ex_ts 31 (by decide +kernel) rfl⟩
theorem MW_RF_setPart : ex_MW M_RF_setPart 5 := ⟨ex_tw 898 (by decide +kernel) rfl, ex_tw 13 (by decide +kernel) rfl, by decide, by decide, by decide +kernel, by decide⟩
theorem MI_RF_setPart : ex_MI M_RF_setPart := ⟨ex_tw 897 (by decide +kernel) rfl, ex_ts 32 (by decide +kernel) rfl⟩
theorem MW_RF_choose : ex_MW M_RF_choose 1 := ⟨ex_tw 902 (by decide +kernel) rfl, ex_tw 13 (by decide +kernel) rfl, by decide, by decide, by decide +kernel, by decide⟩
theorem MI_RF_choose : ex_MI M_RF_choose := ⟨ex_tw 901 (by decide +kernel) rfl, ex_ts 33 (by decide +kernel) rfl⟩
theorem MW_RF_link : ex_MW M_RF_link 2 := ⟨ex_tw 906 (by decide +kernel) rfl, ex_tw 13 (by decide +kernel) rfl, by decide, by decide, by decide +kernel, by decide⟩
theorem MI_RF_link : ex_MI M_RF_link := ⟨ex_tw 905 (by decide +kernel) rfl, ex_ts 34 (by decide +kernel) rfl⟩
theorem MW_RF_append : ex_MW M_RF_append 4 := ⟨ex_tw 910 (by decide +kernel) rfl, ex_tw 13 (by decide +kernel) rfl, by decide, by decide, by decide +kernel, by decide⟩
theorem MI_RF_append : ex_MI M_RF_append := ⟨ex_tw 909 (by decide +kernel) rfl, ex_ts 35 (by decide +kernel) rfl⟩
theorem MW_RF_fertile : ex_MW M_RF_fertile 0 := ⟨ex_tw 914 (by decide +kernel) rfl, ex_tw 13 (by decide +kernel) rfl, by decide, by decide, by decide +kernel, by decide⟩
theorem MI_RF_fertile : ex_MI M_RF_fertile := ⟨ex_tw 912 (by decide +kernel) rfl, ex_tw 913 (by decide +kernel) rfl⟩
theorem MW_RF_steps : ex_MW M_RF_steps 3 := ⟨ex_tw 918 (by decide +kernel) rfl, ex_tw 13 (by decide +kernel) rfl, by decide, by decide, by decide +kernel, by decide⟩
theorem MI_RF_steps : ex_MI M_RF_steps := ⟨ex_tw 917 (by decide +kernel) rfl, ex_ts 36 (by decide +kernel) rfl⟩
theorem MW_RF_step : ex_MW M_RF_step 3 := ⟨ex_tw 922 (by decide +kernel) rfl, ex_tw 13 (by decide +kernel) rfl, by decide, by decide, by decide +kernel, by decide⟩
theorem MI_RF_step : ex_MI M_RF_step := ⟨ex_tw 921 (by decide +kernel) rfl, ex_ts 37 (by decide +kernel) rfl⟩
theorem MW_RF_next : ex_MW M_RF_next 2 := ⟨ex_tw 926 (by decide +kernel) rfl, ex_tw 13 (by decide +kernel) rfl, by decide, by decide, by decide +kernel, by decide⟩
theorem MI_RF_next : ex_MI M_RF_next := ⟨ex_tw 925 (by decide +kernel) rfl, ex_ts 38 (by decide +kernel) rfl⟩
theorem MW_RF_accepts : ex_MW M_RF_accepts 2 := ⟨ex_tw 930 (by decide +kernel) rfl, ex_tw 13 (by decide +kernel) rfl, by decide, by decide, by decide +kernel, by decide⟩
theorem MI_RF_accepts : ex_MI M_RF_accepts := ⟨ex_tw 929 (by decide +kernel) rfl, ex_ts 39 (by decide +kernel) rfl⟩
theorem MW_RF_insert : ex_MW M_RF_insert 2 := ⟨ex_tw 934 (by decide +kernel) rfl, ex_tw 13 (by decide +kernel) rfl, by decide, by decide, by decide +kernel, by decide⟩
theorem MI_RF_insert : ex_MI M_RF_insert := ⟨ex_tw 932 (by decide +kernel) rfl, ex_tw 933 (by decide +kernel) rfl⟩
theorem MW_RF_post : ex_MW M_RF_post 5 := ⟨ex_tw 938 (by decide +kernel) rfl, ex_tw 13 (by decide +kernel) rfl, by decide, by decide, by decide +kernel, by decide⟩
theorem MI_RF_post : ex_MI M_RF_post := ⟨ex_tw 937 (by decide +kernel) rfl, ex_ts 40 (by decide +kernel) rfl⟩
theorem MW_RF_erase : ex_MW M_RF_erase 2 := ⟨ex_tw 942 (by decide +kernel) rfl, ex_tw 13 (by decide +kernel) rfl, by decide, by decide, by decide +kernel, by decide⟩
theorem MI_RF_erase : ex_MI M_RF_erase := ⟨ex_tw 940 (by decide +kernel) rfl, ex_tw 941 (by decide +kernel) rfl⟩
theorem MW_RF_ask : ex_MW M_RF_ask 3 := ⟨ex_tw 946 (by decide +kernel) rfl, ex_tw 13 (by decide +kernel) rfl, by decide, by decide, by decide +kernel, by decide⟩
theorem MI_RF_ask : ex_MI M_RF_ask := ⟨ex_tw 944 (by decide +kernel) rfl, ex_tw 945 (by decide +kernel) rfl⟩
theorem MW_RF_cancel : ex_MW M_RF_cancel 1 := ⟨ex_tw 950 (by decide +kernel) rfl, ex_tw 13 (by decide +kernel) rfl, by decide, by decide, by decide +kernel, by decide⟩
theorem MI_RF_cancel : ex_MI M_RF_cancel := ⟨ex_tw 948 (by decide +kernel) rfl, ex_tw 949 (by decide +kernel) rfl⟩
theorem MW_RF_waitsAt : ex_MW M_RF_waitsAt 1 := ⟨ex_tw 954 (by decide +kernel) rfl, ex_tw 13 (by decide +kernel) rfl, by decide, by decide, by decide +kernel, by decide⟩
theorem MI_RF_waitsAt : ex_MI M_RF_waitsAt := ⟨ex_tw 953 (by decide +kernel) rfl, ex_ts 41 (by decide +kernel) rfl⟩
theorem MW_RF_strike : ex_MW M_RF_strike 1 := ⟨ex_tw 958 (by decide +kernel) rfl, ex_tw 13 (by decide +kernel) rfl, by decide, by decide, by decide +kernel, by decide⟩
theorem MI_RF_strike : ex_MI M_RF_strike := ⟨ex_tw 957 (by decide +kernel) rfl, ex_ts 42 (by decide +kernel) rfl⟩
theorem MW_RF_work : ex_MW M_RF_work 0 := ⟨ex_tw 962 (by decide +kernel) rfl, ex_tw 13 (by decide +kernel) rfl, by decide, by decide, by decide +kernel, by decide⟩
theorem MI_RF_work : ex_MI M_RF_work := ⟨ex_tw 960 (by decide +kernel) rfl, ex_tw 961 (by decide +kernel) rfl⟩
theorem MW_RF_insertNow : ex_MW M_RF_insertNow 2 := ⟨ex_tw 966 (by decide +kernel) rfl, ex_tw 13 (by decide +kernel) rfl, by decide, by decide, by decide +kernel, by decide⟩
theorem MI_RF_insertNow : ex_MI M_RF_insertNow := ⟨ex_tw 965 (by decide +kernel) rfl, ex_ts 43 (by decide +kernel) rfl⟩
theorem MW_RF_eraseNow : ex_MW M_RF_eraseNow 2 := ⟨ex_tw 970 (by decide +kernel) rfl, ex_tw 13 (by decide +kernel) rfl, by decide, by decide, by decide +kernel, by decide⟩
theorem MI_RF_eraseNow : ex_MI M_RF_eraseNow := ⟨ex_tw 969 (by decide +kernel) rfl, ex_ts 44 (by decide +kernel) rfl⟩
theorem MW_RF_respond : ex_MW M_RF_respond 3 := ⟨ex_tw 974 (by decide +kernel) rfl, ex_tw 13 (by decide +kernel) rfl, by decide, by decide, by decide +kernel, by decide⟩
theorem MI_RF_respond : ex_MI M_RF_respond := ⟨ex_tw 973 (by decide +kernel) rfl, ex_ts 45 (by decide +kernel) rfl⟩
theorem MW_RF_analyse : ex_MW M_RF_analyse 0 := ⟨ex_tw 978 (by decide +kernel) rfl, ex_tw 13 (by decide +kernel) rfl, by decide, by decide, by decide +kernel, by decide⟩
theorem MI_RF_analyse : ex_MI M_RF_analyse := ⟨ex_tw 977 (by decide +kernel) rfl, ex_ts 46 (by decide +kernel) rfl⟩
theorem MW_RF_newElement : ex_MW M_RF_newElement 4 := ⟨ex_tw 982 (by decide +kernel) rfl, ex_tw 13 (by decide +kernel) rfl, by decide, by decide, by decide +kernel, by decide⟩
theorem MI_RF_newElement : ex_MI M_RF_newElement := ⟨ex_tw 981 (by decide +kernel) rfl, ex_ts 47 (by decide +kernel) rfl⟩
theorem MW_RF_charAt : ex_MW M_RF_charAt 1 := ⟨ex_tw 986 (by decide +kernel) rfl, ex_tw 13 (by decide +kernel) rfl, by decide, by decide, by decide +kernel, by decide⟩
theorem MI_RF_charAt : ex_MI M_RF_charAt := ⟨ex_tw 985 (by decide +kernel) rfl, ex_ts 48 (by decide +kernel) rfl⟩
theorem MW_RF_mark : ex_MW M_RF_mark 3 := ⟨ex_tw 990 (by decide +kernel) rfl, ex_tw 13 (by decide +kernel) rfl, by decide, by decide, by decide +kernel, by decide⟩
theorem MI_RF_mark : ex_MI M_RF_mark := ⟨ex_tw 989 (by decide +kernel) rfl, ex_ts 49 (by decide +kernel) rfl⟩
theorem MW_RF_takeStart : ex_MW M_RF_takeStart 2 := ⟨ex_tw 994 (by decide +kernel) rfl, ex_tw 13 (by decide +kernel) rfl, by decide, by decide, by decide +kernel, by decide⟩
theorem MI_RF_takeStart : ex_MI M_RF_takeStart := ⟨ex_tw 993 (by decide +kernel) rfl, ex_ts 50 (by decide +kernel) rfl⟩
theorem MW_RF_openElements : ex_MW M_RF_openElements 0 := ⟨ex_tw 998 (by decide +kernel) rfl, ex_tw 13 (by decide +kernel) rfl, by decide, by decide, by decide +kernel, by decide⟩
theorem MI_RF_openElements : ex_MI M_RF_openElements := ⟨ex_tw 997 (by decide +kernel) rfl, ex_ts 51 (by decide +kernel) rfl⟩
theorem MW_RF_addFault : ex_MW M_RF_addFault 2 := ⟨ex_tw 1002 (by decide +kernel) rfl, ex_tw 13 (by decide +kernel) rfl, by decide, by decide, by decide +kernel, by decide⟩
theorem MI_RF_addFault : ex_MI M_RF_addFault := ⟨ex_tw 1001 (by decide +kernel) rfl, ex_ts 52 (by decide +kernel) rfl⟩
theorem MW_RF_current : ex_MW M_RF_current 0 := ⟨ex_tw 1006 (by decide +kernel) rfl, ex_tw 13 (by decide +kernel) rfl, by decide, by decide, by decide +kernel, by decide⟩
theorem MI_RF_current : ex_MI M_RF_current := ⟨ex_tw 1005 (by decide +kernel) rfl, ex_ts 53 (by decide +kernel) rfl⟩
theorem MW_RF_takeEnd : ex_MW M_RF_takeEnd 1 := ⟨ex_tw 1010 (by decide +kernel) rfl, ex_tw 13 (by decide +kernel) rfl, by decide, by decide, by decide +kernel, by decide⟩
theorem MI_RF_takeEnd : ex_MI M_RF_takeEnd := ⟨ex_tw 1009 (by decide +kernel) rfl, ex_ts 54 (by decide +kernel) rfl⟩
theorem MW_RF_closeBare : ex_MW M_RF_closeBare 2 := ⟨ex_tw 1014 (by decide +kernel) rfl, ex_tw 13 (by decide +kernel) rfl, by decide, by decide, by decide +kernel, by decide⟩
theorem MI_RF_closeBare : ex_MI M_RF_closeBare := ⟨ex_tw 1013 (by decide +kernel) rfl, ex_ts 55 (by decide +kernel) rfl⟩
theorem MW_RF_takeCharacter : ex_MW M_RF_takeCharacter 1 := ⟨ex_tw 1018 (by decide +kernel) rfl, ex_tw 13 (by decide +kernel) rfl, by decide, by decide, by decide +kernel, by decide⟩
theorem MI_RF_takeCharacter : ex_MI M_RF_takeCharacter := ⟨ex_tw 1017 (by decide +kernel) rfl, ex_ts 56 (by decide +kernel) rfl⟩
theorem MW_RF_judge : ex_MW M_RF_judge 1 := ⟨ex_tw 1022 (by decide +kernel) rfl, ex_tw 13 (by decide +kernel) rfl, by decide, by decide, by decide +kernel, by decide⟩
theorem MI_RF_judge : ex_MI M_RF_judge := ⟨ex_tw 1021 (by decide +kernel) rfl, ex_ts 57 (by decide +kernel) rfl⟩
theorem MW_RF_modelOf : ex_MW M_RF_modelOf 1 := ⟨ex_tw 1026 (by decide +kernel) rfl, ex_tw 13 (by decide +kernel) rfl, by decide, by decide, by decide +kernel, by decide⟩
theorem MI_RF_modelOf : ex_MI M_RF_modelOf := ⟨ex_tw 1025 (by decide +kernel) rfl, ex_ts 58 (by decide +kernel) rfl⟩
theorem MW_RF_offer : ex_MW M_RF_offer 1 := ⟨ex_tw 1030 (by decide +kernel) rfl, ex_tw 13 (by decide +kernel) rfl, by decide, by decide, by decide +kernel, by decide⟩
theorem MI_RF_offer : ex_MI M_RF_offer := ⟨ex_tw 1029 (by decide +kernel) rfl, ex_ts 59 (by decide +kernel) rfl⟩
theorem MW_RF_isBit : ex_MW M_RF_isBit 2 := ⟨ex_tw 1035 (by decide +kernel) rfl, ex_tw 13 (by decide +kernel) rfl, by decide, by decide, by decide +kernel, by decide⟩
theorem MI_RF_isBit : ex_MI M_RF_isBit := ⟨ex_tw 1034 (by decide +kernel) rfl, ex_ts 60 (by decide +kernel) rfl⟩
theorem MW_RF_rename : ex_MW M_RF_rename 2 := ⟨ex_tw 1039 (by decide +kernel) rfl, ex_tw 13 (by decide +kernel) rfl, by decide, by decide, by decide +kernel, by decide⟩
theorem MI_RF_rename : ex_MI M_RF_rename := ⟨ex_tw 1038 (by decide +kernel) rfl, ex_ts 61 (by decide +kernel) rfl⟩
theorem MW_RF_makeForm : ex_MW M_RF_makeForm 0 := ⟨ex_tw 1043 (by decide +kernel) rfl, ex_tw 13 (by decide +kernel) rfl, by decide, by decide, by decide +kernel, by decide⟩
theorem MI_RF_makeForm : ex_MI M_RF_makeForm := ⟨ex_tw 1042 (by decide +kernel) rfl, ex_ts 62 (by decide +kernel) rfl⟩
theorem MW_RF_loose : ex_MW M_RF_loose 1 := ⟨ex_tw 1047 (by decide +kernel) rfl, ex_tw 13 (by decide +kernel) rfl, by decide, by decide, by decide +kernel, by decide⟩
theorem MI_RF_loose : ex_MI M_RF_loose := ⟨ex_tw 1046 (by decide +kernel) rfl, ex_ts 63 (by decide +kernel) rfl⟩
theorem MW_RF_putText : ex_MW M_RF_putText 2 := ⟨ex_tw 1051 (by decide +kernel) rfl, ex_tw 13 (by decide +kernel) rfl, by decide, by decide, by decide +kernel, by decide⟩
theorem MI_RF_putText : ex_MI M_RF_putText := ⟨ex_tw 1050 (by decide +kernel) rfl, ex_ts 64 (by decide +kernel) rfl⟩
theorem MW_RF_put : ex_MW M_RF_put 1 := ⟨ex_tw 1055 (by decide +kernel) rfl, ex_tw 13 (by decide +kernel) rfl, by decide, by decide, by decide +kernel, by decide⟩
theorem MI_RF_put : ex_MI M_RF_put := ⟨ex_tw 1054 (by decide +kernel) rfl, ex_ts 65 (by decide +kernel) rfl⟩
theorem MW_RF_laid : ex_MW M_RF_laid 1 := ⟨ex_tw 1059 (by decide +kernel) rfl, ex_tw 13 (by decide +kernel) rfl, by decide, by decide, by decide +kernel, by decide⟩
theorem MI_RF_laid : ex_MI M_RF_laid := ⟨ex_tw 1058 (by decide +kernel) rfl, ex_ts 66 (by decide +kernel) rfl⟩
theorem MW_RF_endLines : ex_MW M_RF_endLines 2 := ⟨ex_tw 1063 (by decide +kernel) rfl, ex_tw 13 (by decide +kernel) rfl, by decide, by decide, by decide +kernel, by decide⟩
theorem MI_RF_endLines : ex_MI M_RF_endLines := ⟨ex_tw 1062 (by decide +kernel) rfl, ex_ts 67 (by decide +kernel) rfl⟩
theorem MW_RF_within : ex_MW M_RF_within 2 := ⟨ex_tw 1067 (by decide +kernel) rfl, ex_tw 13 (by decide +kernel) rfl, by decide, by decide, by decide +kernel, by decide⟩
theorem MI_RF_within : ex_MI M_RF_within := ⟨ex_tw 1066 (by decide +kernel) rfl, ex_ts 68 (by decide +kernel) rfl⟩
theorem MW_RF_depthOf : ex_MW M_RF_depthOf 1 := ⟨ex_tw 1071 (by decide +kernel) rfl, ex_tw 13 (by decide +kernel) rfl, by decide, by decide, by decide +kernel, by decide⟩
theorem MI_RF_depthOf : ex_MI M_RF_depthOf := ⟨ex_tw 1070 (by decide +kernel) rfl, ex_ts 69 (by decide +kernel) rfl⟩
theorem MW_RF_putLine : ex_MW M_RF_putLine 1 := ⟨ex_tw 1075 (by decide +kernel) rfl, ex_tw 13 (by decide +kernel) rfl, by decide, by decide, by decide +kernel, by decide⟩
theorem MI_RF_putLine : ex_MI M_RF_putLine := ⟨ex_tw 1074 (by decide +kernel) rfl, ex_ts 70 (by decide +kernel) rfl⟩
theorem MW_RF_answer : ex_MW M_RF_answer 1 := ⟨ex_tw 1079 (by decide +kernel) rfl, ex_tw 13 (by decide +kernel) rfl, by decide, by decide, by decide +kernel, by decide⟩
theorem MI_RF_answer : ex_MI M_RF_answer := ⟨ex_tw 1077 (by decide +kernel) rfl, ex_tw 1078 (by decide +kernel) rfl⟩
theorem MW_RF_inbox : ex_MW M_RF_inbox 0 := ⟨ex_tw 1083 (by decide +kernel) rfl, ex_tw 13 (by decide +kernel) rfl, by decide, by decide, by decide +kernel, by decide⟩
theorem MI_RF_inbox : ex_MI M_RF_inbox := ⟨ex_tw 1081 (by decide +kernel) rfl, ex_tw 1082 (by decide +kernel) rfl⟩
theorem MW_RF_length : ex_MW M_RF_length 0 := ⟨ex_tw 1087 (by decide +kernel) rfl, ex_tw 13 (by decide +kernel) rfl, by decide, by decide, by decide +kernel, by decide⟩
theorem MI_RF_length : ex_MI M_RF_length := ⟨ex_tw 1085 (by decide +kernel) rfl, ex_tw 1086 (by decide +kernel) rfl⟩
theorem MW_RF_character : ex_MW M_RF_character 1 := ⟨ex_tw 1091 (by decide +kernel) rfl, ex_tw 13 (by decide +kernel) rfl, by decide, by decide, by decide +kernel, by decide⟩
theorem MI_RF_character : ex_MI M_RF_character := ⟨ex_tw 1089 (by decide +kernel) rfl, ex_tw 1090 (by decide +kernel) rfl⟩
theorem MW_RF_element : ex_MW M_RF_element 2 := ⟨ex_tw 1095 (by decide +kernel) rfl, ex_tw 13 (by decide +kernel) rfl, by decide, by decide, by decide +kernel, by decide⟩
theorem MI_RF_element : ex_MI M_RF_element := ⟨ex_tw 1093 (by decide +kernel) rfl, ex_tw 1094 (by decide +kernel) rfl⟩
theorem MW_RF_fault : ex_MW M_RF_fault 2 := ⟨ex_tw 1099 (by decide +kernel) rfl, ex_tw 13 (by decide +kernel) rfl, by decide, by decide, by decide +kernel, by decide⟩
theorem MI_RF_fault : ex_MI M_RF_fault := ⟨ex_tw 1097 (by decide +kernel) rfl, ex_tw 1098 (by decide +kernel) rfl⟩
theorem MW_RF_formed : ex_MW M_RF_formed 1 := ⟨ex_tw 1103 (by decide +kernel) rfl, ex_tw 13 (by decide +kernel) rfl, by decide, by decide, by decide +kernel, by decide⟩
theorem MI_RF_formed : ex_MI M_RF_formed := ⟨ex_tw 1101 (by decide +kernel) rfl, ex_tw 1102 (by decide +kernel) rfl⟩
theorem OB_1 : Cond.instanceMethod Lib.objectInit ∈ exTW := ex_tw 21 (by decide +kernel) rfl
theorem OB_2 : Cond.code Lib.objectInit ⟨#[0xb1]⟩ 1 none ∈ exTW := ex_tw 22 (by decide +kernel) rfl
theorem AC_3 : Cond.initialized "java/lang/System" ∈ exTW := ex_tw 14 (by decide +kernel) rfl
theorem OB_TG_3 : Cond.methodLink "TagGuide" 3 Lib.objectInit ∈ exTW := ex_tw 20 (by decide +kernel) rfl
theorem OB_Dr_3 : Cond.methodLink "TagGuide$Draft" 3 Lib.objectInit ∈ exTW := ex_tw 28 (by decide +kernel) rfl
theorem AR_char : Cond.arrayClass .char ∈ exTW := ex_tw 37 (by decide +kernel) rfl
theorem OB_Mr_3 : Cond.methodLink "TagGuide$ModelReader" 3 Lib.objectInit ∈ exTW := ex_tw 43 (by decide +kernel) rfl
theorem OB_Mo_3 : Cond.methodLink "TagGuide$Model" 3 Lib.objectInit ∈ exTW := ex_tw 49 (by decide +kernel) rfl
theorem AR_int : Cond.arrayClass .int ∈ exTW := ex_tw 71 (by decide +kernel) rfl
theorem OB_Ms_3 : Cond.methodLink "TagGuide$Models" 3 Lib.objectInit ∈ exTW := ex_tw 96 (by decide +kernel) rfl
theorem OB_Tx_3 : Cond.methodLink "TagGuide$Text" 3 Lib.objectInit ∈ exTW := ex_tw 117 (by decide +kernel) rfl
theorem OB_Tr_3 : Cond.methodLink "TagGuide$Tree" 3 Lib.objectInit ∈ exTW := ex_tw 133 (by decide +kernel) rfl
theorem OB_El_3 : Cond.methodLink "TagGuide$Element" 3 Lib.objectInit ∈ exTW := ex_tw 140 (by decide +kernel) rfl
theorem OB_Fa_3 : Cond.methodLink "TagGuide$Faults" 3 Lib.objectInit ∈ exTW := ex_tw 226 (by decide +kernel) rfl
theorem OB_Fo_3 : Cond.methodLink "TagGuide$Former" 3 Lib.objectInit ∈ exTW := ex_tw 240 (by decide +kernel) rfl
theorem OB_In_3 : Cond.methodLink "TagGuide$Inbox" 3 Lib.objectInit ∈ exTW := ex_tw 262 (by decide +kernel) rfl
theorem OB_An_3 : Cond.methodLink "TagGuide$Answers" 3 Lib.objectInit ∈ exTW := ex_tw 292 (by decide +kernel) rfl
theorem AC_Tx_23 : Cond.methodLink "TagGuide$Text" 23 arraycopyName ∈ exTW := ex_tw 489 (by decide +kernel) rfl
theorem AC_2 : Cond.static arraycopyName ∈ exTW := ex_tw 490 (by decide +kernel) rfl
theorem AC_1 : Cond.native arraycopyName ∈ exTW := ex_tw 491 (by decide +kernel) rfl
theorem OB_RF_1 : Cond.methodLink "TagGuideModel" 1 Lib.objectInit ∈ exTW := ex_tw 725 (by decide +kernel) rfl
theorem AR_boolean : Cond.arrayClass .boolean ∈ exTW := ex_tw 859 (by decide +kernel) rfl
end
section
theorem d_TG_init_0 : decode prog_1_method_1_code 0 = .ok (.aload_n 0, 1) := by decide +kernel
theorem d_TG_init_1 : decode prog_1_method_1_code 1 = .ok (.invokespecial 3, 3) := by decide +kernel
theorem d_TG_init_4 : decode prog_1_method_1_code 4 = .ok (.aload_n 0, 1) := by decide +kernel
theorem d_TG_init_5 : decode prog_1_method_1_code 5 = .ok (.new 9, 3) := by decide +kernel
theorem d_TG_init_8 : decode prog_1_method_1_code 8 = .ok (.dup, 1) := by decide +kernel
theorem d_TG_init_9 : decode prog_1_method_1_code 9 = .ok (.invokespecial 11, 3) := by decide +kernel
theorem d_TG_init_12 : decode prog_1_method_1_code 12 = .ok (.putfield 12, 3) := by decide +kernel
theorem d_TG_init_15 : decode prog_1_method_1_code 15 = .ok (.aload_n 0, 1) := by decide +kernel
theorem d_TG_init_16 : decode prog_1_method_1_code 16 = .ok (.new 16, 3) := by decide +kernel
theorem d_TG_init_19 : decode prog_1_method_1_code 19 = .ok (.dup, 1) := by decide +kernel
theorem d_TG_init_20 : decode prog_1_method_1_code 20 = .ok (.aload_n 0, 1) := by decide +kernel
theorem d_TG_init_21 : decode prog_1_method_1_code 21 = .ok (.getfield 12, 3) := by decide +kernel
theorem d_TG_init_24 : decode prog_1_method_1_code 24 = .ok (.invokespecial 18, 3) := by decide +kernel
theorem d_TG_init_27 : decode prog_1_method_1_code 27 = .ok (.putfield 21, 3) := by decide +kernel
theorem d_TG_init_30 : decode prog_1_method_1_code 30 = .ok (.aload_n 0, 1) := by decide +kernel
theorem d_TG_init_31 : decode prog_1_method_1_code 31 = .ok (.new 25, 3) := by decide +kernel
theorem d_TG_init_34 : decode prog_1_method_1_code 34 = .ok (.dup, 1) := by decide +kernel
theorem d_TG_init_35 : decode prog_1_method_1_code 35 = .ok (.invokespecial 27, 3) := by decide +kernel
theorem d_TG_init_38 : decode prog_1_method_1_code 38 = .ok (.putfield 28, 3) := by decide +kernel
theorem d_TG_init_41 : decode prog_1_method_1_code 41 = .ok (.aload_n 0, 1) := by decide +kernel
theorem d_TG_init_42 : decode prog_1_method_1_code 42 = .ok (.new 32, 3) := by decide +kernel
theorem d_TG_init_45 : decode prog_1_method_1_code 45 = .ok (.dup, 1) := by decide +kernel
theorem d_TG_init_46 : decode prog_1_method_1_code 46 = .ok (.invokespecial 34, 3) := by decide +kernel
theorem d_TG_init_49 : decode prog_1_method_1_code 49 = .ok (.putfield 35, 3) := by decide +kernel
theorem d_TG_init_52 : decode prog_1_method_1_code 52 = .ok (.aload_n 0, 1) := by decide +kernel
theorem d_TG_init_53 : decode prog_1_method_1_code 53 = .ok (.new 39, 3) := by decide +kernel
theorem d_TG_init_56 : decode prog_1_method_1_code 56 = .ok (.dup, 1) := by decide +kernel
theorem d_TG_init_57 : decode prog_1_method_1_code 57 = .ok (.aload_n 0, 1) := by decide +kernel
theorem d_TG_init_58 : decode prog_1_method_1_code 58 = .ok (.getfield 35, 3) := by decide +kernel
theorem d_TG_init_61 : decode prog_1_method_1_code 61 = .ok (.invokespecial 41, 3) := by decide +kernel
theorem d_TG_init_64 : decode prog_1_method_1_code 64 = .ok (.putfield 44, 3) := by decide +kernel
theorem d_TG_init_67 : decode prog_1_method_1_code 67 = .ok (.aload_n 0, 1) := by decide +kernel
theorem d_TG_init_68 : decode prog_1_method_1_code 68 = .ok (.new 48, 3) := by decide +kernel
theorem d_TG_init_71 : decode prog_1_method_1_code 71 = .ok (.dup, 1) := by decide +kernel
theorem d_TG_init_72 : decode prog_1_method_1_code 72 = .ok (.invokespecial 50, 3) := by decide +kernel
theorem d_TG_init_75 : decode prog_1_method_1_code 75 = .ok (.putfield 51, 3) := by decide +kernel
theorem d_TG_init_78 : decode prog_1_method_1_code 78 = .ok (.aload_n 0, 1) := by decide +kernel
theorem d_TG_init_79 : decode prog_1_method_1_code 79 = .ok (.new 55, 3) := by decide +kernel
theorem d_TG_init_82 : decode prog_1_method_1_code 82 = .ok (.dup, 1) := by decide +kernel
theorem d_TG_init_83 : decode prog_1_method_1_code 83 = .ok (.aload_n 0, 1) := by decide +kernel
theorem d_TG_init_84 : decode prog_1_method_1_code 84 = .ok (.getfield 35, 3) := by decide +kernel
theorem d_TG_init_87 : decode prog_1_method_1_code 87 = .ok (.aload_n 0, 1) := by decide +kernel
theorem d_TG_init_88 : decode prog_1_method_1_code 88 = .ok (.getfield 44, 3) := by decide +kernel
theorem d_TG_init_91 : decode prog_1_method_1_code 91 = .ok (.aload_n 0, 1) := by decide +kernel
theorem d_TG_init_92 : decode prog_1_method_1_code 92 = .ok (.getfield 28, 3) := by decide +kernel
theorem d_TG_init_95 : decode prog_1_method_1_code 95 = .ok (.invokespecial 57, 3) := by decide +kernel
theorem d_TG_init_98 : decode prog_1_method_1_code 98 = .ok (.putfield 60, 3) := by decide +kernel
theorem d_TG_init_101 : decode prog_1_method_1_code 101 = .ok (.aload_n 0, 1) := by decide +kernel
theorem d_TG_init_102 : decode prog_1_method_1_code 102 = .ok (.new 64, 3) := by decide +kernel
theorem d_TG_init_105 : decode prog_1_method_1_code 105 = .ok (.dup, 1) := by decide +kernel
theorem d_TG_init_106 : decode prog_1_method_1_code 106 = .ok (.invokespecial 66, 3) := by decide +kernel
theorem d_TG_init_109 : decode prog_1_method_1_code 109 = .ok (.putfield 67, 3) := by decide +kernel
theorem d_TG_init_112 : decode prog_1_method_1_code 112 = .ok (.aload_n 0, 1) := by decide +kernel
theorem d_TG_init_113 : decode prog_1_method_1_code 113 = .ok (.new 71, 3) := by decide +kernel
theorem d_TG_init_116 : decode prog_1_method_1_code 116 = .ok (.dup, 1) := by decide +kernel
theorem d_TG_init_117 : decode prog_1_method_1_code 117 = .ok (.invokespecial 73, 3) := by decide +kernel
theorem d_TG_init_120 : decode prog_1_method_1_code 120 = .ok (.putfield 74, 3) := by decide +kernel
theorem d_TG_init_123 : decode prog_1_method_1_code 123 = .ok (.aload_n 0, 1) := by decide +kernel
theorem d_TG_init_124 : decode prog_1_method_1_code 124 = .ok (.iconst 1, 1) := by decide +kernel
theorem d_TG_init_125 : decode prog_1_method_1_code 125 = .ok (.putfield 78, 3) := by decide +kernel
theorem d_TG_init_128 : decode prog_1_method_1_code 128 = .ok (.return_, 1) := by decide +kernel
theorem d_Dr_init_0 : decode prog_3_method_1_code 0 = .ok (.aload_n 0, 1) := by decide +kernel
theorem d_Dr_init_1 : decode prog_3_method_1_code 1 = .ok (.invokespecial 3, 3) := by decide +kernel
theorem d_Dr_init_4 : decode prog_3_method_1_code 4 = .ok (.aload_n 0, 1) := by decide +kernel
theorem d_Dr_init_5 : decode prog_3_method_1_code 5 = .ok (.bipush 40, 2) := by decide +kernel
theorem d_Dr_init_7 : decode prog_3_method_1_code 7 = .ok (.newarray .char, 2) := by decide +kernel
theorem d_Dr_init_9 : decode prog_3_method_1_code 9 = .ok (.putfield 9, 3) := by decide +kernel
theorem d_Dr_init_12 : decode prog_3_method_1_code 12 = .ok (.return_, 1) := by decide +kernel
theorem d_El_init_0 : decode prog_4_method_1_code 0 = .ok (.aload_n 0, 1) := by decide +kernel
theorem d_El_init_1 : decode prog_4_method_1_code 1 = .ok (.invokespecial 3, 3) := by decide +kernel
theorem d_El_init_4 : decode prog_4_method_1_code 4 = .ok (.return_, 1) := by decide +kernel
theorem d_Fa_init_0 : decode prog_5_method_1_code 0 = .ok (.aload_n 0, 1) := by decide +kernel
theorem d_Fa_init_1 : decode prog_5_method_1_code 1 = .ok (.invokespecial 3, 3) := by decide +kernel
theorem d_Fa_init_4 : decode prog_5_method_1_code 4 = .ok (.aload_n 0, 1) := by decide +kernel
theorem d_Fa_init_5 : decode prog_5_method_1_code 5 = .ok (.sipush 201, 3) := by decide +kernel
theorem d_Fa_init_8 : decode prog_5_method_1_code 8 = .ok (.newarray .int, 2) := by decide +kernel
theorem d_Fa_init_10 : decode prog_5_method_1_code 10 = .ok (.putfield 9, 3) := by decide +kernel
theorem d_Fa_init_13 : decode prog_5_method_1_code 13 = .ok (.return_, 1) := by decide +kernel
theorem d_Fo_init_0 : decode prog_6_method_1_code 0 = .ok (.aload_n 0, 1) := by decide +kernel
theorem d_Fo_init_1 : decode prog_6_method_1_code 1 = .ok (.invokespecial 3, 3) := by decide +kernel
theorem d_Fo_init_4 : decode prog_6_method_1_code 4 = .ok (.aload_n 0, 1) := by decide +kernel
theorem d_Fo_init_5 : decode prog_6_method_1_code 5 = .ok (.sipush 694, 3) := by decide +kernel
theorem d_Fo_init_8 : decode prog_6_method_1_code 8 = .ok (.newarray .char, 2) := by decide +kernel
theorem d_Fo_init_10 : decode prog_6_method_1_code 10 = .ok (.putfield 9, 3) := by decide +kernel
theorem d_Fo_init_13 : decode prog_6_method_1_code 13 = .ok (.aload_n 0, 1) := by decide +kernel
theorem d_Fo_init_14 : decode prog_6_method_1_code 14 = .ok (.aload_n 1, 1) := by decide +kernel
theorem d_Fo_init_15 : decode prog_6_method_1_code 15 = .ok (.putfield 15, 3) := by decide +kernel
theorem d_Fo_init_18 : decode prog_6_method_1_code 18 = .ok (.aload_n 0, 1) := by decide +kernel
theorem d_Fo_init_19 : decode prog_6_method_1_code 19 = .ok (.aload_n 2, 1) := by decide +kernel
theorem d_Fo_init_20 : decode prog_6_method_1_code 20 = .ok (.putfield 19, 3) := by decide +kernel
theorem d_Fo_init_23 : decode prog_6_method_1_code 23 = .ok (.aload_n 0, 1) := by decide +kernel
theorem d_Fo_init_24 : decode prog_6_method_1_code 24 = .ok (.aload_n 3, 1) := by decide +kernel
theorem d_Fo_init_25 : decode prog_6_method_1_code 25 = .ok (.putfield 23, 3) := by decide +kernel
theorem d_Fo_init_28 : decode prog_6_method_1_code 28 = .ok (.return_, 1) := by decide +kernel
theorem d_In_init_0 : decode prog_7_method_1_code 0 = .ok (.aload_n 0, 1) := by decide +kernel
theorem d_In_init_1 : decode prog_7_method_1_code 1 = .ok (.invokespecial 3, 3) := by decide +kernel
theorem d_In_init_4 : decode prog_7_method_1_code 4 = .ok (.aload_n 0, 1) := by decide +kernel
theorem d_In_init_5 : decode prog_7_method_1_code 5 = .ok (.bipush 12, 2) := by decide +kernel
theorem d_In_init_7 : decode prog_7_method_1_code 7 = .ok (.newarray .int, 2) := by decide +kernel
theorem d_In_init_9 : decode prog_7_method_1_code 9 = .ok (.putfield 9, 3) := by decide +kernel
theorem d_In_init_12 : decode prog_7_method_1_code 12 = .ok (.aload_n 0, 1) := by decide +kernel
theorem d_In_init_13 : decode prog_7_method_1_code 13 = .ok (.bipush 12, 2) := by decide +kernel
theorem d_In_init_15 : decode prog_7_method_1_code 15 = .ok (.newarray .int, 2) := by decide +kernel
theorem d_In_init_17 : decode prog_7_method_1_code 17 = .ok (.putfield 15, 3) := by decide +kernel
theorem d_In_init_20 : decode prog_7_method_1_code 20 = .ok (.aload_n 0, 1) := by decide +kernel
theorem d_In_init_21 : decode prog_7_method_1_code 21 = .ok (.bipush 12, 2) := by decide +kernel
theorem d_In_init_23 : decode prog_7_method_1_code 23 = .ok (.newarray .int, 2) := by decide +kernel
theorem d_In_init_25 : decode prog_7_method_1_code 25 = .ok (.putfield 18, 3) := by decide +kernel
theorem d_In_init_28 : decode prog_7_method_1_code 28 = .ok (.aload_n 0, 1) := by decide +kernel
theorem d_In_init_29 : decode prog_7_method_1_code 29 = .ok (.bipush 12, 2) := by decide +kernel
theorem d_In_init_31 : decode prog_7_method_1_code 31 = .ok (.newarray .int, 2) := by decide +kernel
theorem d_In_init_33 : decode prog_7_method_1_code 33 = .ok (.putfield 21, 3) := by decide +kernel
theorem d_In_init_36 : decode prog_7_method_1_code 36 = .ok (.return_, 1) := by decide +kernel
theorem d_An_init_0 : decode prog_2_method_1_code 0 = .ok (.aload_n 0, 1) := by decide +kernel
theorem d_An_init_1 : decode prog_2_method_1_code 1 = .ok (.invokespecial 3, 3) := by decide +kernel
theorem d_An_init_4 : decode prog_2_method_1_code 4 = .ok (.aload_n 0, 1) := by decide +kernel
theorem d_An_init_5 : decode prog_2_method_1_code 5 = .ok (.bipush 8, 2) := by decide +kernel
theorem d_An_init_7 : decode prog_2_method_1_code 7 = .ok (.newarray .int, 2) := by decide +kernel
theorem d_An_init_9 : decode prog_2_method_1_code 9 = .ok (.putfield 9, 3) := by decide +kernel
theorem d_An_init_12 : decode prog_2_method_1_code 12 = .ok (.aload_n 0, 1) := by decide +kernel
theorem d_An_init_13 : decode prog_2_method_1_code 13 = .ok (.bipush 8, 2) := by decide +kernel
theorem d_An_init_15 : decode prog_2_method_1_code 15 = .ok (.newarray .int, 2) := by decide +kernel
theorem d_An_init_17 : decode prog_2_method_1_code 17 = .ok (.putfield 15, 3) := by decide +kernel
theorem d_An_init_20 : decode prog_2_method_1_code 20 = .ok (.return_, 1) := by decide +kernel
theorem d_TG_write_0 : decode prog_1_method_2_code 0 = .ok (.aload_n 0, 1) := by decide +kernel
theorem d_TG_write_1 : decode prog_1_method_2_code 1 = .ok (.getfield 12, 3) := by decide +kernel
theorem d_TG_write_4 : decode prog_1_method_2_code 4 = .ok (.iload_n 1, 1) := by decide +kernel
theorem d_TG_write_5 : decode prog_1_method_2_code 5 = .ok (.invokevirtual 82, 3) := by decide +kernel
theorem d_TG_write_8 : decode prog_1_method_2_code 8 = .ok (.ireturn, 1) := by decide +kernel
theorem d_Dr_append_0 : decode prog_3_method_2_code 0 = .ok (.iload_n 1, 1) := by decide +kernel
theorem d_Dr_append_1 : decode prog_3_method_2_code 1 = .ok (.invokestatic 15, 3) := by decide +kernel
theorem d_Dr_append_4 : decode prog_3_method_2_code 4 = .ok (.ifCond .eq 12, 3) := by decide +kernel
theorem d_Dr_append_7 : decode prog_3_method_2_code 7 = .ok (.aload_n 0, 1) := by decide +kernel
theorem d_Dr_append_8 : decode prog_3_method_2_code 8 = .ok (.getfield 19, 3) := by decide +kernel
theorem d_Dr_append_11 : decode prog_3_method_2_code 11 = .ok (.bipush 40, 2) := by decide +kernel
theorem d_Dr_append_13 : decode prog_3_method_2_code 13 = .ok (.if_icmp .lt 5, 3) := by decide +kernel
theorem d_Dr_append_16 : decode prog_3_method_2_code 16 = .ok (.iconst 0, 1) := by decide +kernel
theorem d_Dr_append_17 : decode prog_3_method_2_code 17 = .ok (.ireturn, 1) := by decide +kernel
theorem d_Dr_append_18 : decode prog_3_method_2_code 18 = .ok (.aload_n 0, 1) := by decide +kernel
theorem d_Dr_append_19 : decode prog_3_method_2_code 19 = .ok (.getfield 9, 3) := by decide +kernel
theorem d_Dr_append_22 : decode prog_3_method_2_code 22 = .ok (.aload_n 0, 1) := by decide +kernel
theorem d_Dr_append_23 : decode prog_3_method_2_code 23 = .ok (.getfield 19, 3) := by decide +kernel
theorem d_Dr_append_26 : decode prog_3_method_2_code 26 = .ok (.iload_n 1, 1) := by decide +kernel
theorem d_Dr_append_27 : decode prog_3_method_2_code 27 = .ok (.castore, 1) := by decide +kernel
theorem d_Dr_append_28 : decode prog_3_method_2_code 28 = .ok (.aload_n 0, 1) := by decide +kernel
theorem d_Dr_append_29 : decode prog_3_method_2_code 29 = .ok (.dup, 1) := by decide +kernel
theorem d_Dr_append_30 : decode prog_3_method_2_code 30 = .ok (.getfield 19, 3) := by decide +kernel
theorem d_Dr_append_33 : decode prog_3_method_2_code 33 = .ok (.iconst 1, 1) := by decide +kernel
theorem d_Dr_append_34 : decode prog_3_method_2_code 34 = .ok (.iadd, 1) := by decide +kernel
theorem d_Dr_append_35 : decode prog_3_method_2_code 35 = .ok (.putfield 19, 3) := by decide +kernel
theorem d_Dr_append_38 : decode prog_3_method_2_code 38 = .ok (.iconst 1, 1) := by decide +kernel
theorem d_Dr_append_39 : decode prog_3_method_2_code 39 = .ok (.ireturn, 1) := by decide +kernel
theorem d_TG_isWritable_0 : decode prog_1_method_23_code 0 = .ok (.iload_n 0, 1) := by decide +kernel
theorem d_TG_isWritable_1 : decode prog_1_method_23_code 1 = .ok (.bipush 32, 2) := by decide +kernel
theorem d_TG_isWritable_3 : decode prog_1_method_23_code 3 = .ok (.if_icmp .lt 13, 3) := by decide +kernel
theorem d_TG_isWritable_6 : decode prog_1_method_23_code 6 = .ok (.iload_n 0, 1) := by decide +kernel
theorem d_TG_isWritable_7 : decode prog_1_method_23_code 7 = .ok (.bipush 126, 2) := by decide +kernel
theorem d_TG_isWritable_9 : decode prog_1_method_23_code 9 = .ok (.if_icmp .gt 7, 3) := by decide +kernel
theorem d_TG_isWritable_12 : decode prog_1_method_23_code 12 = .ok (.iconst 1, 1) := by decide +kernel
theorem d_TG_isWritable_13 : decode prog_1_method_23_code 13 = .ok (.goto 4, 3) := by decide +kernel
theorem d_TG_isWritable_16 : decode prog_1_method_23_code 16 = .ok (.iconst 0, 1) := by decide +kernel
theorem d_TG_isWritable_17 : decode prog_1_method_23_code 17 = .ok (.ireturn, 1) := by decide +kernel
theorem d_TG_define_0 : decode prog_1_method_3_code 0 = .ok (.iconst (-1), 1) := by decide +kernel
theorem d_TG_define_1 : decode prog_1_method_3_code 1 = .ok (.istore_n 2, 1) := by decide +kernel
theorem d_TG_define_2 : decode prog_1_method_3_code 2 = .ok (.iload_n 1, 1) := by decide +kernel
theorem d_TG_define_3 : decode prog_1_method_3_code 3 = .ok (.bipush 46, 2) := by decide +kernel
theorem d_TG_define_5 : decode prog_1_method_3_code 5 = .ok (.if_icmp .eq 10, 3) := by decide +kernel
theorem d_TG_define_8 : decode prog_1_method_3_code 8 = .ok (.iload_n 1, 1) := by decide +kernel
theorem d_TG_define_9 : decode prog_1_method_3_code 9 = .ok (.invokestatic 86, 3) := by decide +kernel
theorem d_TG_define_12 : decode prog_1_method_3_code 12 = .ok (.ifCond .eq 33, 3) := by decide +kernel
theorem d_TG_define_15 : decode prog_1_method_3_code 15 = .ok (.aload_n 0, 1) := by decide +kernel
theorem d_TG_define_16 : decode prog_1_method_3_code 16 = .ok (.getfield 12, 3) := by decide +kernel
theorem d_TG_define_19 : decode prog_1_method_3_code 19 = .ok (.invokevirtual 90, 3) := by decide +kernel
theorem d_TG_define_22 : decode prog_1_method_3_code 22 = .ok (.ifCond .eq 8, 3) := by decide +kernel
theorem d_TG_define_25 : decode prog_1_method_3_code 25 = .ok (.bipush (-2), 2) := by decide +kernel
theorem d_TG_define_27 : decode prog_1_method_3_code 27 = .ok (.goto 17, 3) := by decide +kernel
theorem d_TG_define_30 : decode prog_1_method_3_code 30 = .ok (.aload_n 0, 1) := by decide +kernel
theorem d_TG_define_31 : decode prog_1_method_3_code 31 = .ok (.getfield 21, 3) := by decide +kernel
theorem d_TG_define_34 : decode prog_1_method_3_code 34 = .ok (.aload_n 0, 1) := by decide +kernel
theorem d_TG_define_35 : decode prog_1_method_3_code 35 = .ok (.getfield 28, 3) := by decide +kernel
theorem d_TG_define_38 : decode prog_1_method_3_code 38 = .ok (.getfield 94, 3) := by decide +kernel
theorem d_TG_define_41 : decode prog_1_method_3_code 41 = .ok (.invokevirtual 98, 3) := by decide +kernel
theorem d_TG_define_44 : decode prog_1_method_3_code 44 = .ok (.istore_n 2, 1) := by decide +kernel
theorem d_TG_define_45 : decode prog_1_method_3_code 45 = .ok (.iload_n 2, 1) := by decide +kernel
theorem d_TG_define_46 : decode prog_1_method_3_code 46 = .ok (.ifCond .ne 16, 3) := by decide +kernel
theorem d_TG_define_49 : decode prog_1_method_3_code 49 = .ok (.aload_n 0, 1) := by decide +kernel
theorem d_TG_define_50 : decode prog_1_method_3_code 50 = .ok (.getfield 28, 3) := by decide +kernel
theorem d_TG_define_53 : decode prog_1_method_3_code 53 = .ok (.iload_n 1, 1) := by decide +kernel
theorem d_TG_define_54 : decode prog_1_method_3_code 54 = .ok (.invokevirtual 102, 3) := by decide +kernel
theorem d_TG_define_57 : decode prog_1_method_3_code 57 = .ok (.aload_n 0, 1) := by decide +kernel
theorem d_TG_define_58 : decode prog_1_method_3_code 58 = .ok (.iconst 1, 1) := by decide +kernel
theorem d_TG_define_59 : decode prog_1_method_3_code 59 = .ok (.putfield 78, 3) := by decide +kernel
theorem d_TG_define_62 : decode prog_1_method_3_code 62 = .ok (.aload_n 0, 1) := by decide +kernel
theorem d_TG_define_63 : decode prog_1_method_3_code 63 = .ok (.getfield 12, 3) := by decide +kernel
theorem d_TG_define_66 : decode prog_1_method_3_code 66 = .ok (.invokevirtual 106, 3) := by decide +kernel
theorem d_TG_define_69 : decode prog_1_method_3_code 69 = .ok (.iload_n 2, 1) := by decide +kernel
theorem d_TG_define_70 : decode prog_1_method_3_code 70 = .ok (.ireturn, 1) := by decide +kernel
theorem d_TG_isName_0 : decode prog_1_method_22_code 0 = .ok (.iload_n 0, 1) := by decide +kernel
theorem d_TG_isName_1 : decode prog_1_method_22_code 1 = .ok (.bipush 97, 2) := by decide +kernel
theorem d_TG_isName_3 : decode prog_1_method_22_code 3 = .ok (.if_icmp .lt 13, 3) := by decide +kernel
theorem d_TG_isName_6 : decode prog_1_method_22_code 6 = .ok (.iload_n 0, 1) := by decide +kernel
theorem d_TG_isName_7 : decode prog_1_method_22_code 7 = .ok (.bipush 105, 2) := by decide +kernel
theorem d_TG_isName_9 : decode prog_1_method_22_code 9 = .ok (.if_icmp .ge 7, 3) := by decide +kernel
theorem d_TG_isName_12 : decode prog_1_method_22_code 12 = .ok (.iconst 1, 1) := by decide +kernel
theorem d_TG_isName_13 : decode prog_1_method_22_code 13 = .ok (.goto 4, 3) := by decide +kernel
theorem d_TG_isName_16 : decode prog_1_method_22_code 16 = .ok (.iconst 0, 1) := by decide +kernel
theorem d_TG_isName_17 : decode prog_1_method_22_code 17 = .ok (.ireturn, 1) := by decide +kernel
theorem d_Dr_isTooLarge_0 : decode prog_3_method_5_code 0 = .ok (.iconst 0, 1) := by decide +kernel
theorem d_Dr_isTooLarge_1 : decode prog_3_method_5_code 1 = .ok (.istore_n 1, 1) := by decide +kernel
theorem d_Dr_isTooLarge_2 : decode prog_3_method_5_code 2 = .ok (.iconst 0, 1) := by decide +kernel
theorem d_Dr_isTooLarge_3 : decode prog_3_method_5_code 3 = .ok (.istore_n 2, 1) := by decide +kernel
theorem d_Dr_isTooLarge_4 : decode prog_3_method_5_code 4 = .ok (.iconst 0, 1) := by decide +kernel
theorem d_Dr_isTooLarge_5 : decode prog_3_method_5_code 5 = .ok (.istore_n 3, 1) := by decide +kernel
theorem d_Dr_isTooLarge_6 : decode prog_3_method_5_code 6 = .ok (.iload_n 3, 1) := by decide +kernel
theorem d_Dr_isTooLarge_7 : decode prog_3_method_5_code 7 = .ok (.aload_n 0, 1) := by decide +kernel
theorem d_Dr_isTooLarge_8 : decode prog_3_method_5_code 8 = .ok (.getfield 19, 3) := by decide +kernel
theorem d_Dr_isTooLarge_11 : decode prog_3_method_5_code 11 = .ok (.if_icmp .ge 41, 3) := by decide +kernel
theorem d_Dr_isTooLarge_14 : decode prog_3_method_5_code 14 = .ok (.aload_n 0, 1) := by decide +kernel
theorem d_Dr_isTooLarge_15 : decode prog_3_method_5_code 15 = .ok (.getfield 9, 3) := by decide +kernel
theorem d_Dr_isTooLarge_18 : decode prog_3_method_5_code 18 = .ok (.iload_n 3, 1) := by decide +kernel
theorem d_Dr_isTooLarge_19 : decode prog_3_method_5_code 19 = .ok (.caload, 1) := by decide +kernel
theorem d_Dr_isTooLarge_20 : decode prog_3_method_5_code 20 = .ok (.invokestatic 23, 3) := by decide +kernel
theorem d_Dr_isTooLarge_23 : decode prog_3_method_5_code 23 = .ok (.ifCond .eq 9, 3) := by decide +kernel
theorem d_Dr_isTooLarge_26 : decode prog_3_method_5_code 26 = .ok (.iinc 1 1, 3) := by decide +kernel
theorem d_Dr_isTooLarge_29 : decode prog_3_method_5_code 29 = .ok (.goto 17, 3) := by decide +kernel
theorem d_Dr_isTooLarge_32 : decode prog_3_method_5_code 32 = .ok (.aload_n 0, 1) := by decide +kernel
theorem d_Dr_isTooLarge_33 : decode prog_3_method_5_code 33 = .ok (.getfield 9, 3) := by decide +kernel
theorem d_Dr_isTooLarge_36 : decode prog_3_method_5_code 36 = .ok (.iload_n 3, 1) := by decide +kernel
theorem d_Dr_isTooLarge_37 : decode prog_3_method_5_code 37 = .ok (.caload, 1) := by decide +kernel
theorem d_Dr_isTooLarge_38 : decode prog_3_method_5_code 38 = .ok (.bipush 40, 2) := by decide +kernel
theorem d_Dr_isTooLarge_40 : decode prog_3_method_5_code 40 = .ok (.if_icmp .ne 6, 3) := by decide +kernel
theorem d_Dr_isTooLarge_43 : decode prog_3_method_5_code 43 = .ok (.iinc 2 1, 3) := by decide +kernel
theorem d_Dr_isTooLarge_46 : decode prog_3_method_5_code 46 = .ok (.iinc 3 1, 3) := by decide +kernel
theorem d_Dr_isTooLarge_49 : decode prog_3_method_5_code 49 = .ok (.goto (-43), 3) := by decide +kernel
theorem d_Dr_isTooLarge_52 : decode prog_3_method_5_code 52 = .ok (.iload_n 1, 1) := by decide +kernel
theorem d_Dr_isTooLarge_53 : decode prog_3_method_5_code 53 = .ok (.bipush 10, 2) := by decide +kernel
theorem d_Dr_isTooLarge_55 : decode prog_3_method_5_code 55 = .ok (.if_icmp .gt 9, 3) := by decide +kernel
theorem d_Dr_isTooLarge_58 : decode prog_3_method_5_code 58 = .ok (.iload_n 2, 1) := by decide +kernel
theorem d_Dr_isTooLarge_59 : decode prog_3_method_5_code 59 = .ok (.bipush 6, 2) := by decide +kernel
theorem d_Dr_isTooLarge_61 : decode prog_3_method_5_code 61 = .ok (.if_icmp .le 7, 3) := by decide +kernel
theorem d_Dr_isTooLarge_64 : decode prog_3_method_5_code 64 = .ok (.iconst 1, 1) := by decide +kernel
theorem d_Dr_isTooLarge_65 : decode prog_3_method_5_code 65 = .ok (.goto 4, 3) := by decide +kernel
theorem d_Dr_isTooLarge_68 : decode prog_3_method_5_code 68 = .ok (.iconst 0, 1) := by decide +kernel
theorem d_Dr_isTooLarge_69 : decode prog_3_method_5_code 69 = .ok (.ireturn, 1) := by decide +kernel
theorem d_Dr_at_0 : decode prog_3_method_4_code 0 = .ok (.iload_n 1, 1) := by decide +kernel
theorem d_Dr_at_1 : decode prog_3_method_4_code 1 = .ok (.ifCond .lt 20, 3) := by decide +kernel
theorem d_Dr_at_4 : decode prog_3_method_4_code 4 = .ok (.iload_n 1, 1) := by decide +kernel
theorem d_Dr_at_5 : decode prog_3_method_4_code 5 = .ok (.aload_n 0, 1) := by decide +kernel
theorem d_Dr_at_6 : decode prog_3_method_4_code 6 = .ok (.getfield 19, 3) := by decide +kernel
theorem d_Dr_at_9 : decode prog_3_method_4_code 9 = .ok (.if_icmp .ge 12, 3) := by decide +kernel
theorem d_Dr_at_12 : decode prog_3_method_4_code 12 = .ok (.aload_n 0, 1) := by decide +kernel
theorem d_Dr_at_13 : decode prog_3_method_4_code 13 = .ok (.getfield 9, 3) := by decide +kernel
theorem d_Dr_at_16 : decode prog_3_method_4_code 16 = .ok (.iload_n 1, 1) := by decide +kernel
theorem d_Dr_at_17 : decode prog_3_method_4_code 17 = .ok (.caload, 1) := by decide +kernel
theorem d_Dr_at_18 : decode prog_3_method_4_code 18 = .ok (.goto 4, 3) := by decide +kernel
theorem d_Dr_at_21 : decode prog_3_method_4_code 21 = .ok (.iconst (-1), 1) := by decide +kernel
theorem d_Dr_at_22 : decode prog_3_method_4_code 22 = .ok (.ireturn, 1) := by decide +kernel
theorem d_Dr_clear_0 : decode prog_3_method_3_code 0 = .ok (.aload_n 0, 1) := by decide +kernel
theorem d_Dr_clear_1 : decode prog_3_method_3_code 1 = .ok (.iconst 0, 1) := by decide +kernel
theorem d_Dr_clear_2 : decode prog_3_method_3_code 2 = .ok (.putfield 19, 3) := by decide +kernel
theorem d_Dr_clear_5 : decode prog_3_method_3_code 5 = .ok (.return_, 1) := by decide +kernel
theorem d_TG_insert_0 : decode prog_1_method_4_code 0 = .ok (.aload_n 0, 1) := by decide +kernel
theorem d_TG_insert_1 : decode prog_1_method_4_code 1 = .ok (.getfield 67, 3) := by decide +kernel
theorem d_TG_insert_4 : decode prog_1_method_4_code 4 = .ok (.iconst 4, 1) := by decide +kernel
theorem d_TG_insert_5 : decode prog_1_method_4_code 5 = .ok (.iconst 0, 1) := by decide +kernel
theorem d_TG_insert_6 : decode prog_1_method_4_code 6 = .ok (.iload_n 1, 1) := by decide +kernel
theorem d_TG_insert_7 : decode prog_1_method_4_code 7 = .ok (.iload_n 2, 1) := by decide +kernel
theorem d_TG_insert_8 : decode prog_1_method_4_code 8 = .ok (.invokevirtual 109, 3) := by decide +kernel
theorem d_TG_insert_11 : decode prog_1_method_4_code 11 = .ok (.ireturn, 1) := by decide +kernel
theorem d_In_put_0 : decode prog_7_method_3_code 0 = .ok (.aload_n 0, 1) := by decide +kernel
theorem d_In_put_1 : decode prog_7_method_3_code 1 = .ok (.invokevirtual 28, 3) := by decide +kernel
theorem d_In_put_4 : decode prog_7_method_3_code 4 = .ok (.ifCond .eq 5, 3) := by decide +kernel
theorem d_In_put_7 : decode prog_7_method_3_code 7 = .ok (.iconst 0, 1) := by decide +kernel
theorem d_In_put_8 : decode prog_7_method_3_code 8 = .ok (.ireturn, 1) := by decide +kernel
theorem d_In_put_9 : decode prog_7_method_3_code 9 = .ok (.aload_n 0, 1) := by decide +kernel
theorem d_In_put_10 : decode prog_7_method_3_code 10 = .ok (.getfield 9, 3) := by decide +kernel
theorem d_In_put_13 : decode prog_7_method_3_code 13 = .ok (.aload_n 0, 1) := by decide +kernel
theorem d_In_put_14 : decode prog_7_method_3_code 14 = .ok (.getfield 24, 3) := by decide +kernel
theorem d_In_put_17 : decode prog_7_method_3_code 17 = .ok (.iload_n 1, 1) := by decide +kernel
theorem d_In_put_18 : decode prog_7_method_3_code 18 = .ok (.iastore, 1) := by decide +kernel
theorem d_In_put_19 : decode prog_7_method_3_code 19 = .ok (.aload_n 0, 1) := by decide +kernel
theorem d_In_put_20 : decode prog_7_method_3_code 20 = .ok (.getfield 15, 3) := by decide +kernel
theorem d_In_put_23 : decode prog_7_method_3_code 23 = .ok (.aload_n 0, 1) := by decide +kernel
theorem d_In_put_24 : decode prog_7_method_3_code 24 = .ok (.getfield 24, 3) := by decide +kernel
theorem d_In_put_27 : decode prog_7_method_3_code 27 = .ok (.iload_n 2, 1) := by decide +kernel
theorem d_In_put_28 : decode prog_7_method_3_code 28 = .ok (.iastore, 1) := by decide +kernel
theorem d_In_put_29 : decode prog_7_method_3_code 29 = .ok (.aload_n 0, 1) := by decide +kernel
theorem d_In_put_30 : decode prog_7_method_3_code 30 = .ok (.getfield 18, 3) := by decide +kernel
theorem d_In_put_33 : decode prog_7_method_3_code 33 = .ok (.aload_n 0, 1) := by decide +kernel
theorem d_In_put_34 : decode prog_7_method_3_code 34 = .ok (.getfield 24, 3) := by decide +kernel
theorem d_In_put_37 : decode prog_7_method_3_code 37 = .ok (.iload_n 3, 1) := by decide +kernel
theorem d_In_put_38 : decode prog_7_method_3_code 38 = .ok (.iastore, 1) := by decide +kernel
theorem d_In_put_39 : decode prog_7_method_3_code 39 = .ok (.aload_n 0, 1) := by decide +kernel
theorem d_In_put_40 : decode prog_7_method_3_code 40 = .ok (.getfield 21, 3) := by decide +kernel
theorem d_In_put_43 : decode prog_7_method_3_code 43 = .ok (.aload_n 0, 1) := by decide +kernel
theorem d_In_put_44 : decode prog_7_method_3_code 44 = .ok (.getfield 24, 3) := by decide +kernel
theorem d_In_put_47 : decode prog_7_method_3_code 47 = .ok (.iload 4, 2) := by decide +kernel
theorem d_In_put_49 : decode prog_7_method_3_code 49 = .ok (.iastore, 1) := by decide +kernel
theorem d_In_put_50 : decode prog_7_method_3_code 50 = .ok (.aload_n 0, 1) := by decide +kernel
theorem d_In_put_51 : decode prog_7_method_3_code 51 = .ok (.dup, 1) := by decide +kernel
theorem d_In_put_52 : decode prog_7_method_3_code 52 = .ok (.getfield 24, 3) := by decide +kernel
theorem d_In_put_55 : decode prog_7_method_3_code 55 = .ok (.iconst 1, 1) := by decide +kernel
theorem d_In_put_56 : decode prog_7_method_3_code 56 = .ok (.iadd, 1) := by decide +kernel
theorem d_In_put_57 : decode prog_7_method_3_code 57 = .ok (.putfield 24, 3) := by decide +kernel
theorem d_In_put_60 : decode prog_7_method_3_code 60 = .ok (.iconst 1, 1) := by decide +kernel
theorem d_In_put_61 : decode prog_7_method_3_code 61 = .ok (.ireturn, 1) := by decide +kernel
theorem d_In_isFull_0 : decode prog_7_method_2_code 0 = .ok (.aload_n 0, 1) := by decide +kernel
theorem d_In_isFull_1 : decode prog_7_method_2_code 1 = .ok (.getfield 24, 3) := by decide +kernel
theorem d_In_isFull_4 : decode prog_7_method_2_code 4 = .ok (.bipush 12, 2) := by decide +kernel
theorem d_In_isFull_6 : decode prog_7_method_2_code 6 = .ok (.if_icmp .lt 7, 3) := by decide +kernel
theorem d_In_isFull_9 : decode prog_7_method_2_code 9 = .ok (.iconst 1, 1) := by decide +kernel
theorem d_In_isFull_10 : decode prog_7_method_2_code 10 = .ok (.goto 4, 3) := by decide +kernel
theorem d_In_isFull_13 : decode prog_7_method_2_code 13 = .ok (.iconst 0, 1) := by decide +kernel
theorem d_In_isFull_14 : decode prog_7_method_2_code 14 = .ok (.ireturn, 1) := by decide +kernel
theorem d_TG_erase_0 : decode prog_1_method_5_code 0 = .ok (.aload_n 0, 1) := by decide +kernel
theorem d_TG_erase_1 : decode prog_1_method_5_code 1 = .ok (.getfield 67, 3) := by decide +kernel
theorem d_TG_erase_4 : decode prog_1_method_5_code 4 = .ok (.iconst 5, 1) := by decide +kernel
theorem d_TG_erase_5 : decode prog_1_method_5_code 5 = .ok (.iconst 0, 1) := by decide +kernel
theorem d_TG_erase_6 : decode prog_1_method_5_code 6 = .ok (.iload_n 1, 1) := by decide +kernel
theorem d_TG_erase_7 : decode prog_1_method_5_code 7 = .ok (.iload_n 2, 1) := by decide +kernel
theorem d_TG_erase_8 : decode prog_1_method_5_code 8 = .ok (.invokevirtual 109, 3) := by decide +kernel
theorem d_TG_erase_11 : decode prog_1_method_5_code 11 = .ok (.ireturn, 1) := by decide +kernel
theorem d_TG_ask_0 : decode prog_1_method_6_code 0 = .ok (.iload_n 1, 1) := by decide +kernel
theorem d_TG_ask_1 : decode prog_1_method_6_code 1 = .ok (.ifCond .lt 8, 3) := by decide +kernel
theorem d_TG_ask_4 : decode prog_1_method_6_code 4 = .ok (.iload_n 1, 1) := by decide +kernel
theorem d_TG_ask_5 : decode prog_1_method_6_code 5 = .ok (.iconst 3, 1) := by decide +kernel
theorem d_TG_ask_6 : decode prog_1_method_6_code 6 = .ok (.if_icmp .le 5, 3) := by decide +kernel
theorem d_TG_ask_9 : decode prog_1_method_6_code 9 = .ok (.iconst (-1), 1) := by decide +kernel
theorem d_TG_ask_10 : decode prog_1_method_6_code 10 = .ok (.ireturn, 1) := by decide +kernel
theorem d_TG_ask_11 : decode prog_1_method_6_code 11 = .ok (.aload_n 0, 1) := by decide +kernel
theorem d_TG_ask_12 : decode prog_1_method_6_code 12 = .ok (.getfield 67, 3) := by decide +kernel
theorem d_TG_ask_15 : decode prog_1_method_6_code 15 = .ok (.invokevirtual 113, 3) := by decide +kernel
theorem d_TG_ask_18 : decode prog_1_method_6_code 18 = .ok (.ifCond .eq 6, 3) := by decide +kernel
theorem d_TG_ask_21 : decode prog_1_method_6_code 21 = .ok (.bipush (-2), 2) := by decide +kernel
theorem d_TG_ask_23 : decode prog_1_method_6_code 23 = .ok (.ireturn, 1) := by decide +kernel
theorem d_TG_ask_24 : decode prog_1_method_6_code 24 = .ok (.aload_n 0, 1) := by decide +kernel
theorem d_TG_ask_25 : decode prog_1_method_6_code 25 = .ok (.getfield 67, 3) := by decide +kernel
theorem d_TG_ask_28 : decode prog_1_method_6_code 28 = .ok (.iload_n 1, 1) := by decide +kernel
theorem d_TG_ask_29 : decode prog_1_method_6_code 29 = .ok (.iload_n 2, 1) := by decide +kernel
theorem d_TG_ask_30 : decode prog_1_method_6_code 30 = .ok (.iload_n 3, 1) := by decide +kernel
theorem d_TG_ask_31 : decode prog_1_method_6_code 31 = .ok (.invokevirtual 116, 3) := by decide +kernel
theorem d_TG_ask_34 : decode prog_1_method_6_code 34 = .ok (.ireturn, 1) := by decide +kernel
theorem d_In_putRequest_0 : decode prog_7_method_4_code 0 = .ok (.aload_n 0, 1) := by decide +kernel
theorem d_In_putRequest_1 : decode prog_7_method_4_code 1 = .ok (.iload_n 1, 1) := by decide +kernel
theorem d_In_putRequest_2 : decode prog_7_method_4_code 2 = .ok (.aload_n 0, 1) := by decide +kernel
theorem d_In_putRequest_3 : decode prog_7_method_4_code 3 = .ok (.getfield 32, 3) := by decide +kernel
theorem d_In_putRequest_6 : decode prog_7_method_4_code 6 = .ok (.iconst 1, 1) := by decide +kernel
theorem d_In_putRequest_7 : decode prog_7_method_4_code 7 = .ok (.iadd, 1) := by decide +kernel
theorem d_In_putRequest_8 : decode prog_7_method_4_code 8 = .ok (.iload_n 2, 1) := by decide +kernel
theorem d_In_putRequest_9 : decode prog_7_method_4_code 9 = .ok (.iload_n 3, 1) := by decide +kernel
theorem d_In_putRequest_10 : decode prog_7_method_4_code 10 = .ok (.invokevirtual 35, 3) := by decide +kernel
theorem d_In_putRequest_13 : decode prog_7_method_4_code 13 = .ok (.ifCond .ne 5, 3) := by decide +kernel
theorem d_In_putRequest_16 : decode prog_7_method_4_code 16 = .ok (.iconst (-1), 1) := by decide +kernel
theorem d_In_putRequest_17 : decode prog_7_method_4_code 17 = .ok (.ireturn, 1) := by decide +kernel
theorem d_In_putRequest_18 : decode prog_7_method_4_code 18 = .ok (.aload_n 0, 1) := by decide +kernel
theorem d_In_putRequest_19 : decode prog_7_method_4_code 19 = .ok (.dup, 1) := by decide +kernel
theorem d_In_putRequest_20 : decode prog_7_method_4_code 20 = .ok (.getfield 32, 3) := by decide +kernel
theorem d_In_putRequest_23 : decode prog_7_method_4_code 23 = .ok (.iconst 1, 1) := by decide +kernel
theorem d_In_putRequest_24 : decode prog_7_method_4_code 24 = .ok (.iadd, 1) := by decide +kernel
theorem d_In_putRequest_25 : decode prog_7_method_4_code 25 = .ok (.putfield 32, 3) := by decide +kernel
theorem d_In_putRequest_28 : decode prog_7_method_4_code 28 = .ok (.aload_n 0, 1) := by decide +kernel
theorem d_In_putRequest_29 : decode prog_7_method_4_code 29 = .ok (.getfield 32, 3) := by decide +kernel
theorem d_In_putRequest_32 : decode prog_7_method_4_code 32 = .ok (.ireturn, 1) := by decide +kernel
theorem d_TG_cancel_0 : decode prog_1_method_7_code 0 = .ok (.aload_n 0, 1) := by decide +kernel
theorem d_TG_cancel_1 : decode prog_1_method_7_code 1 = .ok (.getfield 67, 3) := by decide +kernel
theorem d_TG_cancel_4 : decode prog_1_method_7_code 4 = .ok (.aload_n 0, 1) := by decide +kernel
theorem d_TG_cancel_5 : decode prog_1_method_7_code 5 = .ok (.getfield 67, 3) := by decide +kernel
theorem d_TG_cancel_8 : decode prog_1_method_7_code 8 = .ok (.iload_n 1, 1) := by decide +kernel
theorem d_TG_cancel_9 : decode prog_1_method_7_code 9 = .ok (.invokevirtual 120, 3) := by decide +kernel
theorem d_TG_cancel_12 : decode prog_1_method_7_code 12 = .ok (.invokevirtual 124, 3) := by decide +kernel
theorem d_TG_cancel_15 : decode prog_1_method_7_code 15 = .ok (.ireturn, 1) := by decide +kernel
theorem d_In_find_0 : decode prog_7_method_5_code 0 = .ok (.iload_n 1, 1) := by decide +kernel
theorem d_In_find_1 : decode prog_7_method_5_code 1 = .ok (.iconst 1, 1) := by decide +kernel
theorem d_In_find_2 : decode prog_7_method_5_code 2 = .ok (.if_icmp .ge 5, 3) := by decide +kernel
theorem d_In_find_5 : decode prog_7_method_5_code 5 = .ok (.iconst (-1), 1) := by decide +kernel
theorem d_In_find_6 : decode prog_7_method_5_code 6 = .ok (.ireturn, 1) := by decide +kernel
theorem d_In_find_7 : decode prog_7_method_5_code 7 = .ok (.iconst 0, 1) := by decide +kernel
theorem d_In_find_8 : decode prog_7_method_5_code 8 = .ok (.istore_n 2, 1) := by decide +kernel
theorem d_In_find_9 : decode prog_7_method_5_code 9 = .ok (.iload_n 2, 1) := by decide +kernel
theorem d_In_find_10 : decode prog_7_method_5_code 10 = .ok (.aload_n 0, 1) := by decide +kernel
theorem d_In_find_11 : decode prog_7_method_5_code 11 = .ok (.getfield 24, 3) := by decide +kernel
theorem d_In_find_14 : decode prog_7_method_5_code 14 = .ok (.if_icmp .ge 21, 3) := by decide +kernel
theorem d_In_find_17 : decode prog_7_method_5_code 17 = .ok (.aload_n 0, 1) := by decide +kernel
theorem d_In_find_18 : decode prog_7_method_5_code 18 = .ok (.getfield 15, 3) := by decide +kernel
theorem d_In_find_21 : decode prog_7_method_5_code 21 = .ok (.iload_n 2, 1) := by decide +kernel
theorem d_In_find_22 : decode prog_7_method_5_code 22 = .ok (.iaload, 1) := by decide +kernel
theorem d_In_find_23 : decode prog_7_method_5_code 23 = .ok (.iload_n 1, 1) := by decide +kernel
theorem d_In_find_24 : decode prog_7_method_5_code 24 = .ok (.if_icmp .ne 5, 3) := by decide +kernel
theorem d_In_find_27 : decode prog_7_method_5_code 27 = .ok (.iload_n 2, 1) := by decide +kernel
theorem d_In_find_28 : decode prog_7_method_5_code 28 = .ok (.ireturn, 1) := by decide +kernel
theorem d_In_find_29 : decode prog_7_method_5_code 29 = .ok (.iinc 2 1, 3) := by decide +kernel
theorem d_In_find_32 : decode prog_7_method_5_code 32 = .ok (.goto (-23), 3) := by decide +kernel
theorem d_In_find_35 : decode prog_7_method_5_code 35 = .ok (.iconst (-1), 1) := by decide +kernel
theorem d_In_find_36 : decode prog_7_method_5_code 36 = .ok (.ireturn, 1) := by decide +kernel
theorem d_In_takeOut_0 : decode prog_7_method_6_code 0 = .ok (.iload_n 1, 1) := by decide +kernel
theorem d_In_takeOut_1 : decode prog_7_method_6_code 1 = .ok (.ifCond .lt 11, 3) := by decide +kernel
theorem d_In_takeOut_4 : decode prog_7_method_6_code 4 = .ok (.iload_n 1, 1) := by decide +kernel
theorem d_In_takeOut_5 : decode prog_7_method_6_code 5 = .ok (.aload_n 0, 1) := by decide +kernel
theorem d_In_takeOut_6 : decode prog_7_method_6_code 6 = .ok (.getfield 24, 3) := by decide +kernel
theorem d_In_takeOut_9 : decode prog_7_method_6_code 9 = .ok (.if_icmp .lt 5, 3) := by decide +kernel
theorem d_In_takeOut_12 : decode prog_7_method_6_code 12 = .ok (.iconst 0, 1) := by decide +kernel
theorem d_In_takeOut_13 : decode prog_7_method_6_code 13 = .ok (.ireturn, 1) := by decide +kernel
theorem d_In_takeOut_14 : decode prog_7_method_6_code 14 = .ok (.aload_n 0, 1) := by decide +kernel
theorem d_In_takeOut_15 : decode prog_7_method_6_code 15 = .ok (.dup, 1) := by decide +kernel
theorem d_In_takeOut_16 : decode prog_7_method_6_code 16 = .ok (.getfield 24, 3) := by decide +kernel
theorem d_In_takeOut_19 : decode prog_7_method_6_code 19 = .ok (.iconst 1, 1) := by decide +kernel
theorem d_In_takeOut_20 : decode prog_7_method_6_code 20 = .ok (.isub, 1) := by decide +kernel
theorem d_In_takeOut_21 : decode prog_7_method_6_code 21 = .ok (.putfield 24, 3) := by decide +kernel
theorem d_In_takeOut_24 : decode prog_7_method_6_code 24 = .ok (.iload_n 1, 1) := by decide +kernel
theorem d_In_takeOut_25 : decode prog_7_method_6_code 25 = .ok (.istore_n 2, 1) := by decide +kernel
theorem d_In_takeOut_26 : decode prog_7_method_6_code 26 = .ok (.iload_n 2, 1) := by decide +kernel
theorem d_In_takeOut_27 : decode prog_7_method_6_code 27 = .ok (.aload_n 0, 1) := by decide +kernel
theorem d_In_takeOut_28 : decode prog_7_method_6_code 28 = .ok (.getfield 24, 3) := by decide +kernel
theorem d_In_takeOut_31 : decode prog_7_method_6_code 31 = .ok (.if_icmp .ge 65, 3) := by decide +kernel
theorem d_In_takeOut_34 : decode prog_7_method_6_code 34 = .ok (.aload_n 0, 1) := by decide +kernel
theorem d_In_takeOut_35 : decode prog_7_method_6_code 35 = .ok (.getfield 9, 3) := by decide +kernel
theorem d_In_takeOut_38 : decode prog_7_method_6_code 38 = .ok (.iload_n 2, 1) := by decide +kernel
theorem d_In_takeOut_39 : decode prog_7_method_6_code 39 = .ok (.aload_n 0, 1) := by decide +kernel
theorem d_In_takeOut_40 : decode prog_7_method_6_code 40 = .ok (.getfield 9, 3) := by decide +kernel
theorem d_In_takeOut_43 : decode prog_7_method_6_code 43 = .ok (.iload_n 2, 1) := by decide +kernel
theorem d_In_takeOut_44 : decode prog_7_method_6_code 44 = .ok (.iconst 1, 1) := by decide +kernel
theorem d_In_takeOut_45 : decode prog_7_method_6_code 45 = .ok (.iadd, 1) := by decide +kernel
theorem d_In_takeOut_46 : decode prog_7_method_6_code 46 = .ok (.iaload, 1) := by decide +kernel
theorem d_In_takeOut_47 : decode prog_7_method_6_code 47 = .ok (.iastore, 1) := by decide +kernel
theorem d_In_takeOut_48 : decode prog_7_method_6_code 48 = .ok (.aload_n 0, 1) := by decide +kernel
theorem d_In_takeOut_49 : decode prog_7_method_6_code 49 = .ok (.getfield 15, 3) := by decide +kernel
theorem d_In_takeOut_52 : decode prog_7_method_6_code 52 = .ok (.iload_n 2, 1) := by decide +kernel
theorem d_In_takeOut_53 : decode prog_7_method_6_code 53 = .ok (.aload_n 0, 1) := by decide +kernel
theorem d_In_takeOut_54 : decode prog_7_method_6_code 54 = .ok (.getfield 15, 3) := by decide +kernel
theorem d_In_takeOut_57 : decode prog_7_method_6_code 57 = .ok (.iload_n 2, 1) := by decide +kernel
theorem d_In_takeOut_58 : decode prog_7_method_6_code 58 = .ok (.iconst 1, 1) := by decide +kernel
theorem d_In_takeOut_59 : decode prog_7_method_6_code 59 = .ok (.iadd, 1) := by decide +kernel
theorem d_In_takeOut_60 : decode prog_7_method_6_code 60 = .ok (.iaload, 1) := by decide +kernel
theorem d_In_takeOut_61 : decode prog_7_method_6_code 61 = .ok (.iastore, 1) := by decide +kernel
theorem d_In_takeOut_62 : decode prog_7_method_6_code 62 = .ok (.aload_n 0, 1) := by decide +kernel
theorem d_In_takeOut_63 : decode prog_7_method_6_code 63 = .ok (.getfield 18, 3) := by decide +kernel
theorem d_In_takeOut_66 : decode prog_7_method_6_code 66 = .ok (.iload_n 2, 1) := by decide +kernel
theorem d_In_takeOut_67 : decode prog_7_method_6_code 67 = .ok (.aload_n 0, 1) := by decide +kernel
theorem d_In_takeOut_68 : decode prog_7_method_6_code 68 = .ok (.getfield 18, 3) := by decide +kernel
theorem d_In_takeOut_71 : decode prog_7_method_6_code 71 = .ok (.iload_n 2, 1) := by decide +kernel
theorem d_In_takeOut_72 : decode prog_7_method_6_code 72 = .ok (.iconst 1, 1) := by decide +kernel
theorem d_In_takeOut_73 : decode prog_7_method_6_code 73 = .ok (.iadd, 1) := by decide +kernel
theorem d_In_takeOut_74 : decode prog_7_method_6_code 74 = .ok (.iaload, 1) := by decide +kernel
theorem d_In_takeOut_75 : decode prog_7_method_6_code 75 = .ok (.iastore, 1) := by decide +kernel
theorem d_In_takeOut_76 : decode prog_7_method_6_code 76 = .ok (.aload_n 0, 1) := by decide +kernel
theorem d_In_takeOut_77 : decode prog_7_method_6_code 77 = .ok (.getfield 21, 3) := by decide +kernel
theorem d_In_takeOut_80 : decode prog_7_method_6_code 80 = .ok (.iload_n 2, 1) := by decide +kernel
theorem d_In_takeOut_81 : decode prog_7_method_6_code 81 = .ok (.aload_n 0, 1) := by decide +kernel
theorem d_In_takeOut_82 : decode prog_7_method_6_code 82 = .ok (.getfield 21, 3) := by decide +kernel
theorem d_In_takeOut_85 : decode prog_7_method_6_code 85 = .ok (.iload_n 2, 1) := by decide +kernel
theorem d_In_takeOut_86 : decode prog_7_method_6_code 86 = .ok (.iconst 1, 1) := by decide +kernel
theorem d_In_takeOut_87 : decode prog_7_method_6_code 87 = .ok (.iadd, 1) := by decide +kernel
theorem d_In_takeOut_88 : decode prog_7_method_6_code 88 = .ok (.iaload, 1) := by decide +kernel
theorem d_In_takeOut_89 : decode prog_7_method_6_code 89 = .ok (.iastore, 1) := by decide +kernel
theorem d_In_takeOut_90 : decode prog_7_method_6_code 90 = .ok (.iinc 2 1, 3) := by decide +kernel
theorem d_In_takeOut_93 : decode prog_7_method_6_code 93 = .ok (.goto (-67), 3) := by decide +kernel
theorem d_In_takeOut_96 : decode prog_7_method_6_code 96 = .ok (.iconst 1, 1) := by decide +kernel
theorem d_In_takeOut_97 : decode prog_7_method_6_code 97 = .ok (.ireturn, 1) := by decide +kernel
theorem d_TG_work_0 : decode prog_1_method_8_code 0 = .ok (.aload_n 0, 1) := by decide +kernel
theorem d_TG_work_1 : decode prog_1_method_8_code 1 = .ok (.getfield 67, 3) := by decide +kernel
theorem d_TG_work_4 : decode prog_1_method_8_code 4 = .ok (.getfield 127, 3) := by decide +kernel
theorem d_TG_work_7 : decode prog_1_method_8_code 7 = .ok (.ifCond .ne 5, 3) := by decide +kernel
theorem d_TG_work_10 : decode prog_1_method_8_code 10 = .ok (.iconst (-1), 1) := by decide +kernel
theorem d_TG_work_11 : decode prog_1_method_8_code 11 = .ok (.ireturn, 1) := by decide +kernel
theorem d_TG_work_12 : decode prog_1_method_8_code 12 = .ok (.aload_n 0, 1) := by decide +kernel
theorem d_TG_work_13 : decode prog_1_method_8_code 13 = .ok (.getfield 67, 3) := by decide +kernel
theorem d_TG_work_16 : decode prog_1_method_8_code 16 = .ok (.getfield 131, 3) := by decide +kernel
theorem d_TG_work_19 : decode prog_1_method_8_code 19 = .ok (.iconst 0, 1) := by decide +kernel
theorem d_TG_work_20 : decode prog_1_method_8_code 20 = .ok (.iaload, 1) := by decide +kernel
theorem d_TG_work_21 : decode prog_1_method_8_code 21 = .ok (.istore_n 1, 1) := by decide +kernel
theorem d_TG_work_22 : decode prog_1_method_8_code 22 = .ok (.aload_n 0, 1) := by decide +kernel
theorem d_TG_work_23 : decode prog_1_method_8_code 23 = .ok (.getfield 67, 3) := by decide +kernel
theorem d_TG_work_26 : decode prog_1_method_8_code 26 = .ok (.getfield 135, 3) := by decide +kernel
theorem d_TG_work_29 : decode prog_1_method_8_code 29 = .ok (.iconst 0, 1) := by decide +kernel
theorem d_TG_work_30 : decode prog_1_method_8_code 30 = .ok (.iaload, 1) := by decide +kernel
theorem d_TG_work_31 : decode prog_1_method_8_code 31 = .ok (.istore_n 2, 1) := by decide +kernel
theorem d_TG_work_32 : decode prog_1_method_8_code 32 = .ok (.aload_n 0, 1) := by decide +kernel
theorem d_TG_work_33 : decode prog_1_method_8_code 33 = .ok (.getfield 67, 3) := by decide +kernel
theorem d_TG_work_36 : decode prog_1_method_8_code 36 = .ok (.getfield 138, 3) := by decide +kernel
theorem d_TG_work_39 : decode prog_1_method_8_code 39 = .ok (.iconst 0, 1) := by decide +kernel
theorem d_TG_work_40 : decode prog_1_method_8_code 40 = .ok (.iaload, 1) := by decide +kernel
theorem d_TG_work_41 : decode prog_1_method_8_code 41 = .ok (.istore_n 3, 1) := by decide +kernel
theorem d_TG_work_42 : decode prog_1_method_8_code 42 = .ok (.aload_n 0, 1) := by decide +kernel
theorem d_TG_work_43 : decode prog_1_method_8_code 43 = .ok (.getfield 67, 3) := by decide +kernel
theorem d_TG_work_46 : decode prog_1_method_8_code 46 = .ok (.getfield 141, 3) := by decide +kernel
theorem d_TG_work_49 : decode prog_1_method_8_code 49 = .ok (.iconst 0, 1) := by decide +kernel
theorem d_TG_work_50 : decode prog_1_method_8_code 50 = .ok (.iaload, 1) := by decide +kernel
theorem d_TG_work_51 : decode prog_1_method_8_code 51 = .ok (.istore 4, 2) := by decide +kernel
theorem d_TG_work_53 : decode prog_1_method_8_code 53 = .ok (.aload_n 0, 1) := by decide +kernel
theorem d_TG_work_54 : decode prog_1_method_8_code 54 = .ok (.getfield 67, 3) := by decide +kernel
theorem d_TG_work_57 : decode prog_1_method_8_code 57 = .ok (.iconst 0, 1) := by decide +kernel
theorem d_TG_work_58 : decode prog_1_method_8_code 58 = .ok (.invokevirtual 124, 3) := by decide +kernel
theorem d_TG_work_61 : decode prog_1_method_8_code 61 = .ok (.pop, 1) := by decide +kernel
theorem d_TG_work_62 : decode prog_1_method_8_code 62 = .ok (.iload_n 2, 1) := by decide +kernel
theorem d_TG_work_63 : decode prog_1_method_8_code 63 = .ok (.ifCond .ne 13, 3) := by decide +kernel
theorem d_TG_work_66 : decode prog_1_method_8_code 66 = .ok (.aload_n 0, 1) := by decide +kernel
theorem d_TG_work_67 : decode prog_1_method_8_code 67 = .ok (.iload_n 1, 1) := by decide +kernel
theorem d_TG_work_68 : decode prog_1_method_8_code 68 = .ok (.iload_n 3, 1) := by decide +kernel
theorem d_TG_work_69 : decode prog_1_method_8_code 69 = .ok (.iload 4, 2) := by decide +kernel
theorem d_TG_work_71 : decode prog_1_method_8_code 71 = .ok (.invokevirtual 144, 3) := by decide +kernel
theorem d_TG_work_74 : decode prog_1_method_8_code 74 = .ok (.iconst 0, 1) := by decide +kernel
theorem d_TG_work_75 : decode prog_1_method_8_code 75 = .ok (.ireturn, 1) := by decide +kernel
theorem d_TG_work_76 : decode prog_1_method_8_code 76 = .ok (.aload_n 0, 1) := by decide +kernel
theorem d_TG_work_77 : decode prog_1_method_8_code 77 = .ok (.invokevirtual 148, 3) := by decide +kernel
theorem d_TG_work_80 : decode prog_1_method_8_code 80 = .ok (.aload_n 0, 1) := by decide +kernel
theorem d_TG_work_81 : decode prog_1_method_8_code 81 = .ok (.getfield 74, 3) := by decide +kernel
theorem d_TG_work_84 : decode prog_1_method_8_code 84 = .ok (.iload_n 2, 1) := by decide +kernel
theorem d_TG_work_85 : decode prog_1_method_8_code 85 = .ok (.aload_n 0, 1) := by decide +kernel
theorem d_TG_work_86 : decode prog_1_method_8_code 86 = .ok (.iload_n 1, 1) := by decide +kernel
theorem d_TG_work_87 : decode prog_1_method_8_code 87 = .ok (.iload_n 3, 1) := by decide +kernel
theorem d_TG_work_88 : decode prog_1_method_8_code 88 = .ok (.iload 4, 2) := by decide +kernel
theorem d_TG_work_90 : decode prog_1_method_8_code 90 = .ok (.invokevirtual 151, 3) := by decide +kernel
theorem d_TG_work_93 : decode prog_1_method_8_code 93 = .ok (.invokevirtual 154, 3) := by decide +kernel
theorem d_TG_work_96 : decode prog_1_method_8_code 96 = .ok (.iload_n 2, 1) := by decide +kernel
theorem d_TG_work_97 : decode prog_1_method_8_code 97 = .ok (.ireturn, 1) := by decide +kernel
theorem d_TG_change_0 : decode prog_1_method_17_code 0 = .ok (.iload_n 1, 1) := by decide +kernel
theorem d_TG_change_1 : decode prog_1_method_17_code 1 = .ok (.iconst 4, 1) := by decide +kernel
theorem d_TG_change_2 : decode prog_1_method_17_code 2 = .ok (.if_icmp .ne 15, 3) := by decide +kernel
theorem d_TG_change_5 : decode prog_1_method_17_code 5 = .ok (.aload_n 0, 1) := by decide +kernel
theorem d_TG_change_6 : decode prog_1_method_17_code 6 = .ok (.getfield 35, 3) := by decide +kernel
theorem d_TG_change_9 : decode prog_1_method_17_code 9 = .ok (.iload_n 2, 1) := by decide +kernel
theorem d_TG_change_10 : decode prog_1_method_17_code 10 = .ok (.iload_n 3, 1) := by decide +kernel
theorem d_TG_change_11 : decode prog_1_method_17_code 11 = .ok (.invokevirtual 184, 3) := by decide +kernel
theorem d_TG_change_14 : decode prog_1_method_17_code 14 = .ok (.goto 12, 3) := by decide +kernel
theorem d_TG_change_17 : decode prog_1_method_17_code 17 = .ok (.aload_n 0, 1) := by decide +kernel
theorem d_TG_change_18 : decode prog_1_method_17_code 18 = .ok (.getfield 35, 3) := by decide +kernel
theorem d_TG_change_21 : decode prog_1_method_17_code 21 = .ok (.iload_n 2, 1) := by decide +kernel
theorem d_TG_change_22 : decode prog_1_method_17_code 22 = .ok (.iload_n 3, 1) := by decide +kernel
theorem d_TG_change_23 : decode prog_1_method_17_code 23 = .ok (.invokevirtual 187, 3) := by decide +kernel
theorem d_TG_change_26 : decode prog_1_method_17_code 26 = .ok (.aload_n 0, 1) := by decide +kernel
theorem d_TG_change_27 : decode prog_1_method_17_code 27 = .ok (.iconst 1, 1) := by decide +kernel
theorem d_TG_change_28 : decode prog_1_method_17_code 28 = .ok (.putfield 78, 3) := by decide +kernel
theorem d_TG_change_31 : decode prog_1_method_17_code 31 = .ok (.return_, 1) := by decide +kernel
theorem d_TG_refresh_0 : decode prog_1_method_21_code 0 = .ok (.aload_n 0, 1) := by decide +kernel
theorem d_TG_refresh_1 : decode prog_1_method_21_code 1 = .ok (.getfield 78, 3) := by decide +kernel
theorem d_TG_refresh_4 : decode prog_1_method_21_code 4 = .ok (.ifCond .ne 4, 3) := by decide +kernel
theorem d_TG_refresh_7 : decode prog_1_method_21_code 7 = .ok (.return_, 1) := by decide +kernel
theorem d_TG_refresh_8 : decode prog_1_method_21_code 8 = .ok (.aload_n 0, 1) := by decide +kernel
theorem d_TG_refresh_9 : decode prog_1_method_21_code 9 = .ok (.getfield 51, 3) := by decide +kernel
theorem d_TG_refresh_12 : decode prog_1_method_21_code 12 = .ok (.invokevirtual 219, 3) := by decide +kernel
theorem d_TG_refresh_15 : decode prog_1_method_21_code 15 = .ok (.aload_n 0, 1) := by decide +kernel
theorem d_TG_refresh_16 : decode prog_1_method_21_code 16 = .ok (.getfield 44, 3) := by decide +kernel
theorem d_TG_refresh_19 : decode prog_1_method_21_code 19 = .ok (.aload_n 0, 1) := by decide +kernel
theorem d_TG_refresh_20 : decode prog_1_method_21_code 20 = .ok (.getfield 51, 3) := by decide +kernel
theorem d_TG_refresh_23 : decode prog_1_method_21_code 23 = .ok (.invokevirtual 220, 3) := by decide +kernel
theorem d_TG_refresh_26 : decode prog_1_method_21_code 26 = .ok (.aload_n 0, 1) := by decide +kernel
theorem d_TG_refresh_27 : decode prog_1_method_21_code 27 = .ok (.getfield 51, 3) := by decide +kernel
theorem d_TG_refresh_30 : decode prog_1_method_21_code 30 = .ok (.aload_n 0, 1) := by decide +kernel
theorem d_TG_refresh_31 : decode prog_1_method_21_code 31 = .ok (.getfield 44, 3) := by decide +kernel
theorem d_TG_refresh_34 : decode prog_1_method_21_code 34 = .ok (.aload_n 0, 1) := by decide +kernel
theorem d_TG_refresh_35 : decode prog_1_method_21_code 35 = .ok (.getfield 28, 3) := by decide +kernel
theorem d_TG_refresh_38 : decode prog_1_method_21_code 38 = .ok (.invokevirtual 224, 3) := by decide +kernel
theorem d_TG_refresh_41 : decode prog_1_method_21_code 41 = .ok (.aload_n 0, 1) := by decide +kernel
theorem d_TG_refresh_42 : decode prog_1_method_21_code 42 = .ok (.iconst 0, 1) := by decide +kernel
theorem d_TG_refresh_43 : decode prog_1_method_21_code 43 = .ok (.putfield 78, 3) := by decide +kernel
theorem d_TG_refresh_46 : decode prog_1_method_21_code 46 = .ok (.return_, 1) := by decide +kernel
theorem d_Fa_clear_0 : decode prog_5_method_2_code 0 = .ok (.aload_n 0, 1) := by decide +kernel
theorem d_Fa_clear_1 : decode prog_5_method_2_code 1 = .ok (.iconst 0, 1) := by decide +kernel
theorem d_Fa_clear_2 : decode prog_5_method_2_code 2 = .ok (.putfield 15, 3) := by decide +kernel
theorem d_Fa_clear_5 : decode prog_5_method_2_code 5 = .ok (.return_, 1) := by decide +kernel
theorem d_El_open_0 : decode prog_4_method_2_code 0 = .ok (.aload_n 0, 1) := by decide +kernel
theorem d_El_open_1 : decode prog_4_method_2_code 1 = .ok (.iload_n 1, 1) := by decide +kernel
theorem d_El_open_2 : decode prog_4_method_2_code 2 = .ok (.putfield 9, 3) := by decide +kernel
theorem d_El_open_5 : decode prog_4_method_2_code 5 = .ok (.aload_n 0, 1) := by decide +kernel
theorem d_El_open_6 : decode prog_4_method_2_code 6 = .ok (.iload_n 2, 1) := by decide +kernel
theorem d_El_open_7 : decode prog_4_method_2_code 7 = .ok (.putfield 15, 3) := by decide +kernel
theorem d_El_open_10 : decode prog_4_method_2_code 10 = .ok (.aload_n 0, 1) := by decide +kernel
theorem d_El_open_11 : decode prog_4_method_2_code 11 = .ok (.iload_n 3, 1) := by decide +kernel
theorem d_El_open_12 : decode prog_4_method_2_code 12 = .ok (.putfield 18, 3) := by decide +kernel
theorem d_El_open_15 : decode prog_4_method_2_code 15 = .ok (.aload_n 0, 1) := by decide +kernel
theorem d_El_open_16 : decode prog_4_method_2_code 16 = .ok (.iload 4, 2) := by decide +kernel
theorem d_El_open_18 : decode prog_4_method_2_code 18 = .ok (.putfield 21, 3) := by decide +kernel
theorem d_El_open_21 : decode prog_4_method_2_code 21 = .ok (.aload_n 0, 1) := by decide +kernel
theorem d_El_open_22 : decode prog_4_method_2_code 22 = .ok (.iload 5, 2) := by decide +kernel
theorem d_El_open_24 : decode prog_4_method_2_code 24 = .ok (.putfield 24, 3) := by decide +kernel
theorem d_El_open_27 : decode prog_4_method_2_code 27 = .ok (.aload_n 0, 1) := by decide +kernel
theorem d_El_open_28 : decode prog_4_method_2_code 28 = .ok (.iconst 0, 1) := by decide +kernel
theorem d_El_open_29 : decode prog_4_method_2_code 29 = .ok (.putfield 27, 3) := by decide +kernel
theorem d_El_open_32 : decode prog_4_method_2_code 32 = .ok (.aload_n 0, 1) := by decide +kernel
theorem d_El_open_33 : decode prog_4_method_2_code 33 = .ok (.iconst (-1), 1) := by decide +kernel
theorem d_El_open_34 : decode prog_4_method_2_code 34 = .ok (.putfield 30, 3) := by decide +kernel
theorem d_El_open_37 : decode prog_4_method_2_code 37 = .ok (.return_, 1) := by decide +kernel
theorem d_Fa_add_0 : decode prog_5_method_3_code 0 = .ok (.aload_n 0, 1) := by decide +kernel
theorem d_Fa_add_1 : decode prog_5_method_3_code 1 = .ok (.getfield 15, 3) := by decide +kernel
theorem d_Fa_add_4 : decode prog_5_method_3_code 4 = .ok (.sipush 201, 3) := by decide +kernel
theorem d_Fa_add_7 : decode prog_5_method_3_code 7 = .ok (.if_icmp .lt 4, 3) := by decide +kernel
theorem d_Fa_add_10 : decode prog_5_method_3_code 10 = .ok (.return_, 1) := by decide +kernel
theorem d_Fa_add_11 : decode prog_5_method_3_code 11 = .ok (.iload_n 2, 1) := by decide +kernel
theorem d_Fa_add_12 : decode prog_5_method_3_code 12 = .ok (.bipush 8, 2) := by decide +kernel
theorem d_Fa_add_14 : decode prog_5_method_3_code 14 = .ok (.imul, 1) := by decide +kernel
theorem d_Fa_add_15 : decode prog_5_method_3_code 15 = .ok (.iload_n 1, 1) := by decide +kernel
theorem d_Fa_add_16 : decode prog_5_method_3_code 16 = .ok (.iadd, 1) := by decide +kernel
theorem d_Fa_add_17 : decode prog_5_method_3_code 17 = .ok (.istore_n 3, 1) := by decide +kernel
theorem d_Fa_add_18 : decode prog_5_method_3_code 18 = .ok (.aload_n 0, 1) := by decide +kernel
theorem d_Fa_add_19 : decode prog_5_method_3_code 19 = .ok (.getfield 15, 3) := by decide +kernel
theorem d_Fa_add_22 : decode prog_5_method_3_code 22 = .ok (.istore 4, 2) := by decide +kernel
theorem d_Fa_add_24 : decode prog_5_method_3_code 24 = .ok (.iload 4, 2) := by decide +kernel
theorem d_Fa_add_26 : decode prog_5_method_3_code 26 = .ok (.ifCond .le 38, 3) := by decide +kernel
theorem d_Fa_add_29 : decode prog_5_method_3_code 29 = .ok (.aload_n 0, 1) := by decide +kernel
theorem d_Fa_add_30 : decode prog_5_method_3_code 30 = .ok (.getfield 9, 3) := by decide +kernel
theorem d_Fa_add_33 : decode prog_5_method_3_code 33 = .ok (.iload 4, 2) := by decide +kernel
theorem d_Fa_add_35 : decode prog_5_method_3_code 35 = .ok (.iconst 1, 1) := by decide +kernel
theorem d_Fa_add_36 : decode prog_5_method_3_code 36 = .ok (.isub, 1) := by decide +kernel
theorem d_Fa_add_37 : decode prog_5_method_3_code 37 = .ok (.iaload, 1) := by decide +kernel
theorem d_Fa_add_38 : decode prog_5_method_3_code 38 = .ok (.iload_n 3, 1) := by decide +kernel
theorem d_Fa_add_39 : decode prog_5_method_3_code 39 = .ok (.if_icmp .le 25, 3) := by decide +kernel
theorem d_Fa_add_42 : decode prog_5_method_3_code 42 = .ok (.aload_n 0, 1) := by decide +kernel
theorem d_Fa_add_43 : decode prog_5_method_3_code 43 = .ok (.getfield 9, 3) := by decide +kernel
theorem d_Fa_add_46 : decode prog_5_method_3_code 46 = .ok (.iload 4, 2) := by decide +kernel
theorem d_Fa_add_48 : decode prog_5_method_3_code 48 = .ok (.aload_n 0, 1) := by decide +kernel
theorem d_Fa_add_49 : decode prog_5_method_3_code 49 = .ok (.getfield 9, 3) := by decide +kernel
theorem d_Fa_add_52 : decode prog_5_method_3_code 52 = .ok (.iload 4, 2) := by decide +kernel
theorem d_Fa_add_54 : decode prog_5_method_3_code 54 = .ok (.iconst 1, 1) := by decide +kernel
theorem d_Fa_add_55 : decode prog_5_method_3_code 55 = .ok (.isub, 1) := by decide +kernel
theorem d_Fa_add_56 : decode prog_5_method_3_code 56 = .ok (.iaload, 1) := by decide +kernel
theorem d_Fa_add_57 : decode prog_5_method_3_code 57 = .ok (.iastore, 1) := by decide +kernel
theorem d_Fa_add_58 : decode prog_5_method_3_code 58 = .ok (.iinc 4 (-1), 3) := by decide +kernel
theorem d_Fa_add_61 : decode prog_5_method_3_code 61 = .ok (.goto (-37), 3) := by decide +kernel
theorem d_Fa_add_64 : decode prog_5_method_3_code 64 = .ok (.aload_n 0, 1) := by decide +kernel
theorem d_Fa_add_65 : decode prog_5_method_3_code 65 = .ok (.getfield 9, 3) := by decide +kernel
theorem d_Fa_add_68 : decode prog_5_method_3_code 68 = .ok (.iload 4, 2) := by decide +kernel
theorem d_Fa_add_70 : decode prog_5_method_3_code 70 = .ok (.iload_n 3, 1) := by decide +kernel
theorem d_Fa_add_71 : decode prog_5_method_3_code 71 = .ok (.iastore, 1) := by decide +kernel
theorem d_Fa_add_72 : decode prog_5_method_3_code 72 = .ok (.aload_n 0, 1) := by decide +kernel
theorem d_Fa_add_73 : decode prog_5_method_3_code 73 = .ok (.dup, 1) := by decide +kernel
theorem d_Fa_add_74 : decode prog_5_method_3_code 74 = .ok (.getfield 15, 3) := by decide +kernel
theorem d_Fa_add_77 : decode prog_5_method_3_code 77 = .ok (.iconst 1, 1) := by decide +kernel
theorem d_Fa_add_78 : decode prog_5_method_3_code 78 = .ok (.iadd, 1) := by decide +kernel
theorem d_Fa_add_79 : decode prog_5_method_3_code 79 = .ok (.putfield 15, 3) := by decide +kernel
theorem d_Fa_add_82 : decode prog_5_method_3_code 82 = .ok (.return_, 1) := by decide +kernel
theorem d_El_close_0 : decode prog_4_method_3_code 0 = .ok (.aload_n 0, 1) := by decide +kernel
theorem d_El_close_1 : decode prog_4_method_3_code 1 = .ok (.iload_n 1, 1) := by decide +kernel
theorem d_El_close_2 : decode prog_4_method_3_code 2 = .ok (.putfield 33, 3) := by decide +kernel
theorem d_El_close_5 : decode prog_4_method_3_code 5 = .ok (.aload_n 0, 1) := by decide +kernel
theorem d_El_close_6 : decode prog_4_method_3_code 6 = .ok (.iload_n 2, 1) := by decide +kernel
theorem d_El_close_7 : decode prog_4_method_3_code 7 = .ok (.putfield 36, 3) := by decide +kernel
theorem d_El_close_10 : decode prog_4_method_3_code 10 = .ok (.aload_n 0, 1) := by decide +kernel
theorem d_El_close_11 : decode prog_4_method_3_code 11 = .ok (.iload_n 3, 1) := by decide +kernel
theorem d_El_close_12 : decode prog_4_method_3_code 12 = .ok (.putfield 39, 3) := by decide +kernel
theorem d_El_close_15 : decode prog_4_method_3_code 15 = .ok (.return_, 1) := by decide +kernel
theorem d_El_takeCharacter_0 : decode prog_4_method_4_code 0 = .ok (.iload_n 1, 1) := by decide +kernel
theorem d_El_takeCharacter_1 : decode prog_4_method_4_code 1 = .ok (.bipush 32, 2) := by decide +kernel
theorem d_El_takeCharacter_3 : decode prog_4_method_4_code 3 = .ok (.if_icmp .eq 16, 3) := by decide +kernel
theorem d_El_takeCharacter_6 : decode prog_4_method_4_code 6 = .ok (.aload_n 0, 1) := by decide +kernel
theorem d_El_takeCharacter_7 : decode prog_4_method_4_code 7 = .ok (.getfield 30, 3) := by decide +kernel
theorem d_El_takeCharacter_10 : decode prog_4_method_4_code 10 = .ok (.iconst (-1), 1) := by decide +kernel
theorem d_El_takeCharacter_11 : decode prog_4_method_4_code 11 = .ok (.if_icmp .ne 8, 3) := by decide +kernel
theorem d_El_takeCharacter_14 : decode prog_4_method_4_code 14 = .ok (.aload_n 0, 1) := by decide +kernel
theorem d_El_takeCharacter_15 : decode prog_4_method_4_code 15 = .ok (.iload_n 2, 1) := by decide +kernel
theorem d_El_takeCharacter_16 : decode prog_4_method_4_code 16 = .ok (.putfield 30, 3) := by decide +kernel
theorem d_El_takeCharacter_19 : decode prog_4_method_4_code 19 = .ok (.return_, 1) := by decide +kernel
theorem d_Fa_judge_0 : decode prog_5_method_4_code 0 = .ok (.iconst 0, 1) := by decide +kernel
theorem d_Fa_judge_1 : decode prog_5_method_4_code 1 = .ok (.istore_n 3, 1) := by decide +kernel
theorem d_Fa_judge_2 : decode prog_5_method_4_code 2 = .ok (.iload_n 3, 1) := by decide +kernel
theorem d_Fa_judge_3 : decode prog_5_method_4_code 3 = .ok (.aload_n 1, 1) := by decide +kernel
theorem d_Fa_judge_4 : decode prog_5_method_4_code 4 = .ok (.getfield 19, 3) := by decide +kernel
theorem d_Fa_judge_7 : decode prog_5_method_4_code 7 = .ok (.if_icmp .gt 128, 3) := by decide +kernel
theorem d_Fa_judge_10 : decode prog_5_method_4_code 10 = .ok (.aload_n 1, 1) := by decide +kernel
theorem d_Fa_judge_11 : decode prog_5_method_4_code 11 = .ok (.getfield 24, 3) := by decide +kernel
theorem d_Fa_judge_14 : decode prog_5_method_4_code 14 = .ok (.iload_n 3, 1) := by decide +kernel
theorem d_Fa_judge_15 : decode prog_5_method_4_code 15 = .ok (.aaload, 1) := by decide +kernel
theorem d_Fa_judge_16 : decode prog_5_method_4_code 16 = .ok (.astore 4, 2) := by decide +kernel
theorem d_Fa_judge_18 : decode prog_5_method_4_code 18 = .ok (.aload_n 2, 1) := by decide +kernel
theorem d_Fa_judge_19 : decode prog_5_method_4_code 19 = .ok (.aload 4, 2) := by decide +kernel
theorem d_Fa_judge_21 : decode prog_5_method_4_code 21 = .ok (.getfield 28, 3) := by decide +kernel
theorem d_Fa_judge_24 : decode prog_5_method_4_code 24 = .ok (.invokevirtual 33, 3) := by decide +kernel
theorem d_Fa_judge_27 : decode prog_5_method_4_code 27 = .ok (.astore 5, 2) := by decide +kernel
theorem d_Fa_judge_29 : decode prog_5_method_4_code 29 = .ok (.iload_n 3, 1) := by decide +kernel
theorem d_Fa_judge_30 : decode prog_5_method_4_code 30 = .ok (.ifCond .eq 21, 3) := by decide +kernel
theorem d_Fa_judge_33 : decode prog_5_method_4_code 33 = .ok (.aload 4, 2) := by decide +kernel
theorem d_Fa_judge_35 : decode prog_5_method_4_code 35 = .ok (.getfield 39, 3) := by decide +kernel
theorem d_Fa_judge_38 : decode prog_5_method_4_code 38 = .ok (.ifCond .ne 13, 3) := by decide +kernel
theorem d_Fa_judge_41 : decode prog_5_method_4_code 41 = .ok (.aload_n 0, 1) := by decide +kernel
theorem d_Fa_judge_42 : decode prog_5_method_4_code 42 = .ok (.iconst 4, 1) := by decide +kernel
theorem d_Fa_judge_43 : decode prog_5_method_4_code 43 = .ok (.aload 4, 2) := by decide +kernel
theorem d_Fa_judge_45 : decode prog_5_method_4_code 45 = .ok (.getfield 42, 3) := by decide +kernel
theorem d_Fa_judge_48 : decode prog_5_method_4_code 48 = .ok (.invokevirtual 45, 3) := by decide +kernel
theorem d_Fa_judge_51 : decode prog_5_method_4_code 51 = .ok (.iload_n 3, 1) := by decide +kernel
theorem d_Fa_judge_52 : decode prog_5_method_4_code 52 = .ok (.ifCond .eq 21, 3) := by decide +kernel
theorem d_Fa_judge_55 : decode prog_5_method_4_code 55 = .ok (.aload 5, 2) := by decide +kernel
theorem d_Fa_judge_57 : decode prog_5_method_4_code 57 = .ok (.getfield 49, 3) := by decide +kernel
theorem d_Fa_judge_60 : decode prog_5_method_4_code 60 = .ok (.ifCond .ne 13, 3) := by decide +kernel
theorem d_Fa_judge_63 : decode prog_5_method_4_code 63 = .ok (.aload_n 0, 1) := by decide +kernel
theorem d_Fa_judge_64 : decode prog_5_method_4_code 64 = .ok (.iconst 5, 1) := by decide +kernel
theorem d_Fa_judge_65 : decode prog_5_method_4_code 65 = .ok (.aload 4, 2) := by decide +kernel
theorem d_Fa_judge_67 : decode prog_5_method_4_code 67 = .ok (.getfield 42, 3) := by decide +kernel
theorem d_Fa_judge_70 : decode prog_5_method_4_code 70 = .ok (.invokevirtual 45, 3) := by decide +kernel
theorem d_Fa_judge_73 : decode prog_5_method_4_code 73 = .ok (.aload 5, 2) := by decide +kernel
theorem d_Fa_judge_75 : decode prog_5_method_4_code 75 = .ok (.invokevirtual 55, 3) := by decide +kernel
theorem d_Fa_judge_78 : decode prog_5_method_4_code 78 = .ok (.ifCond .eq 23, 3) := by decide +kernel
theorem d_Fa_judge_81 : decode prog_5_method_4_code 81 = .ok (.aload 4, 2) := by decide +kernel
theorem d_Fa_judge_83 : decode prog_5_method_4_code 83 = .ok (.getfield 59, 3) := by decide +kernel
theorem d_Fa_judge_86 : decode prog_5_method_4_code 86 = .ok (.iconst (-1), 1) := by decide +kernel
theorem d_Fa_judge_87 : decode prog_5_method_4_code 87 = .ok (.if_icmp .eq 14, 3) := by decide +kernel
theorem d_Fa_judge_90 : decode prog_5_method_4_code 90 = .ok (.aload_n 0, 1) := by decide +kernel
theorem d_Fa_judge_91 : decode prog_5_method_4_code 91 = .ok (.bipush 6, 2) := by decide +kernel
theorem d_Fa_judge_93 : decode prog_5_method_4_code 93 = .ok (.aload 4, 2) := by decide +kernel
theorem d_Fa_judge_95 : decode prog_5_method_4_code 95 = .ok (.getfield 59, 3) := by decide +kernel
theorem d_Fa_judge_98 : decode prog_5_method_4_code 98 = .ok (.invokevirtual 45, 3) := by decide +kernel
theorem d_Fa_judge_101 : decode prog_5_method_4_code 101 = .ok (.aload 5, 2) := by decide +kernel
theorem d_Fa_judge_103 : decode prog_5_method_4_code 103 = .ok (.getfield 49, 3) := by decide +kernel
theorem d_Fa_judge_106 : decode prog_5_method_4_code 106 = .ok (.ifCond .eq 23, 3) := by decide +kernel
theorem d_Fa_judge_109 : decode prog_5_method_4_code 109 = .ok (.aload_n 2, 1) := by decide +kernel
theorem d_Fa_judge_110 : decode prog_5_method_4_code 110 = .ok (.aload_n 1, 1) := by decide +kernel
theorem d_Fa_judge_111 : decode prog_5_method_4_code 111 = .ok (.iload_n 3, 1) := by decide +kernel
theorem d_Fa_judge_112 : decode prog_5_method_4_code 112 = .ok (.invokevirtual 62, 3) := by decide +kernel
theorem d_Fa_judge_115 : decode prog_5_method_4_code 115 = .ok (.ifCond .ne 14, 3) := by decide +kernel
theorem d_Fa_judge_118 : decode prog_5_method_4_code 118 = .ok (.aload_n 0, 1) := by decide +kernel
theorem d_Fa_judge_119 : decode prog_5_method_4_code 119 = .ok (.bipush 7, 2) := by decide +kernel
theorem d_Fa_judge_121 : decode prog_5_method_4_code 121 = .ok (.aload 4, 2) := by decide +kernel
theorem d_Fa_judge_123 : decode prog_5_method_4_code 123 = .ok (.getfield 42, 3) := by decide +kernel
theorem d_Fa_judge_126 : decode prog_5_method_4_code 126 = .ok (.invokevirtual 45, 3) := by decide +kernel
theorem d_Fa_judge_129 : decode prog_5_method_4_code 129 = .ok (.iinc 3 1, 3) := by decide +kernel
theorem d_Fa_judge_132 : decode prog_5_method_4_code 132 = .ok (.goto (-130), 3) := by decide +kernel
theorem d_Fa_judge_135 : decode prog_5_method_4_code 135 = .ok (.return_, 1) := by decide +kernel
theorem d_TG_reply_0 : decode prog_1_method_18_code 0 = .ok (.iload_n 1, 1) := by decide +kernel
theorem d_TG_reply_1 : decode prog_1_method_18_code 1 = .ok (.tableswitch 48 0 2 #[27, 33, 41], 27) := by decide +kernel
theorem d_TG_reply_28 : decode prog_1_method_18_code 28 = .ok (.aload_n 0, 1) := by decide +kernel
theorem d_TG_reply_29 : decode prog_1_method_18_code 29 = .ok (.iload_n 2, 1) := by decide +kernel
theorem d_TG_reply_30 : decode prog_1_method_18_code 30 = .ok (.invokevirtual 189, 3) := by decide +kernel
theorem d_TG_reply_33 : decode prog_1_method_18_code 33 = .ok (.ireturn, 1) := by decide +kernel
theorem d_TG_reply_34 : decode prog_1_method_18_code 34 = .ok (.aload_n 0, 1) := by decide +kernel
theorem d_TG_reply_35 : decode prog_1_method_18_code 35 = .ok (.getfield 51, 3) := by decide +kernel
theorem d_TG_reply_38 : decode prog_1_method_18_code 38 = .ok (.getfield 192, 3) := by decide +kernel
theorem d_TG_reply_41 : decode prog_1_method_18_code 41 = .ok (.ireturn, 1) := by decide +kernel
theorem d_TG_reply_42 : decode prog_1_method_18_code 42 = .ok (.aload_n 0, 1) := by decide +kernel
theorem d_TG_reply_43 : decode prog_1_method_18_code 43 = .ok (.iload_n 2, 1) := by decide +kernel
theorem d_TG_reply_44 : decode prog_1_method_18_code 44 = .ok (.iload_n 3, 1) := by decide +kernel
theorem d_TG_reply_45 : decode prog_1_method_18_code 45 = .ok (.invokevirtual 193, 3) := by decide +kernel
theorem d_TG_reply_48 : decode prog_1_method_18_code 48 = .ok (.ireturn, 1) := by decide +kernel
theorem d_TG_reply_49 : decode prog_1_method_18_code 49 = .ok (.aload_n 0, 1) := by decide +kernel
theorem d_TG_reply_50 : decode prog_1_method_18_code 50 = .ok (.getfield 51, 3) := by decide +kernel
theorem d_TG_reply_53 : decode prog_1_method_18_code 53 = .ok (.invokevirtual 196, 3) := by decide +kernel
theorem d_TG_reply_56 : decode prog_1_method_18_code 56 = .ok (.ifCond .eq 7, 3) := by decide +kernel
theorem d_TG_reply_59 : decode prog_1_method_18_code 59 = .ok (.iconst (-1), 1) := by decide +kernel
theorem d_TG_reply_60 : decode prog_1_method_18_code 60 = .ok (.goto 10, 3) := by decide +kernel
theorem d_TG_reply_63 : decode prog_1_method_18_code 63 = .ok (.aload_n 0, 1) := by decide +kernel
theorem d_TG_reply_64 : decode prog_1_method_18_code 64 = .ok (.getfield 60, 3) := by decide +kernel
theorem d_TG_reply_67 : decode prog_1_method_18_code 67 = .ok (.invokevirtual 199, 3) := by decide +kernel
theorem d_TG_reply_70 : decode prog_1_method_18_code 70 = .ok (.ireturn, 1) := by decide +kernel
theorem d_TG_offerAt_0 : decode prog_1_method_19_code 0 = .ok (.iload_n 1, 1) := by decide +kernel
theorem d_TG_offerAt_1 : decode prog_1_method_19_code 1 = .ok (.ifCond .lt 25, 3) := by decide +kernel
theorem d_TG_offerAt_4 : decode prog_1_method_19_code 4 = .ok (.iload_n 1, 1) := by decide +kernel
theorem d_TG_offerAt_5 : decode prog_1_method_19_code 5 = .ok (.aload_n 0, 1) := by decide +kernel
theorem d_TG_offerAt_6 : decode prog_1_method_19_code 6 = .ok (.getfield 35, 3) := by decide +kernel
theorem d_TG_offerAt_9 : decode prog_1_method_19_code 9 = .ok (.getfield 161, 3) := by decide +kernel
theorem d_TG_offerAt_12 : decode prog_1_method_19_code 12 = .ok (.if_icmp .gt 14, 3) := by decide +kernel
theorem d_TG_offerAt_15 : decode prog_1_method_19_code 15 = .ok (.aload_n 0, 1) := by decide +kernel
theorem d_TG_offerAt_16 : decode prog_1_method_19_code 16 = .ok (.getfield 44, 3) := by decide +kernel
theorem d_TG_offerAt_19 : decode prog_1_method_19_code 19 = .ok (.iload_n 1, 1) := by decide +kernel
theorem d_TG_offerAt_20 : decode prog_1_method_19_code 20 = .ok (.invokevirtual 203, 3) := by decide +kernel
theorem d_TG_offerAt_23 : decode prog_1_method_19_code 23 = .ok (.ifCond .eq 5, 3) := by decide +kernel
theorem d_TG_offerAt_26 : decode prog_1_method_19_code 26 = .ok (.iconst (-1), 1) := by decide +kernel
theorem d_TG_offerAt_27 : decode prog_1_method_19_code 27 = .ok (.ireturn, 1) := by decide +kernel
theorem d_TG_offerAt_28 : decode prog_1_method_19_code 28 = .ok (.aload_n 0, 1) := by decide +kernel
theorem d_TG_offerAt_29 : decode prog_1_method_19_code 29 = .ok (.getfield 28, 3) := by decide +kernel
theorem d_TG_offerAt_32 : decode prog_1_method_19_code 32 = .ok (.aload_n 0, 1) := by decide +kernel
theorem d_TG_offerAt_33 : decode prog_1_method_19_code 33 = .ok (.getfield 44, 3) := by decide +kernel
theorem d_TG_offerAt_36 : decode prog_1_method_19_code 36 = .ok (.aload_n 0, 1) := by decide +kernel
theorem d_TG_offerAt_37 : decode prog_1_method_19_code 37 = .ok (.getfield 44, 3) := by decide +kernel
theorem d_TG_offerAt_40 : decode prog_1_method_19_code 40 = .ok (.iload_n 1, 1) := by decide +kernel
theorem d_TG_offerAt_41 : decode prog_1_method_19_code 41 = .ok (.invokevirtual 206, 3) := by decide +kernel
theorem d_TG_offerAt_44 : decode prog_1_method_19_code 44 = .ok (.iload_n 1, 1) := by decide +kernel
theorem d_TG_offerAt_45 : decode prog_1_method_19_code 45 = .ok (.invokevirtual 209, 3) := by decide +kernel
theorem d_TG_offerAt_48 : decode prog_1_method_19_code 48 = .ok (.ireturn, 1) := by decide +kernel
theorem d_El_hasInside_0 : decode prog_4_method_5_code 0 = .ok (.aload_n 0, 1) := by decide +kernel
theorem d_El_hasInside_1 : decode prog_4_method_5_code 1 = .ok (.getfield 33, 3) := by decide +kernel
theorem d_El_hasInside_4 : decode prog_4_method_5_code 4 = .ok (.iconst 2, 1) := by decide +kernel
theorem d_El_hasInside_5 : decode prog_4_method_5_code 5 = .ok (.if_icmp .eq 23, 3) := by decide +kernel
theorem d_El_hasInside_8 : decode prog_4_method_5_code 8 = .ok (.aload_n 0, 1) := by decide +kernel
theorem d_El_hasInside_9 : decode prog_4_method_5_code 9 = .ok (.getfield 24, 3) := by decide +kernel
theorem d_El_hasInside_12 : decode prog_4_method_5_code 12 = .ok (.iload_n 1, 1) := by decide +kernel
theorem d_El_hasInside_13 : decode prog_4_method_5_code 13 = .ok (.if_icmp .gt 15, 3) := by decide +kernel
theorem d_El_hasInside_16 : decode prog_4_method_5_code 16 = .ok (.iload_n 1, 1) := by decide +kernel
theorem d_El_hasInside_17 : decode prog_4_method_5_code 17 = .ok (.aload_n 0, 1) := by decide +kernel
theorem d_El_hasInside_18 : decode prog_4_method_5_code 18 = .ok (.getfield 36, 3) := by decide +kernel
theorem d_El_hasInside_21 : decode prog_4_method_5_code 21 = .ok (.if_icmp .gt 7, 3) := by decide +kernel
theorem d_El_hasInside_24 : decode prog_4_method_5_code 24 = .ok (.iconst 1, 1) := by decide +kernel
theorem d_El_hasInside_25 : decode prog_4_method_5_code 25 = .ok (.goto 4, 3) := by decide +kernel
theorem d_El_hasInside_28 : decode prog_4_method_5_code 28 = .ok (.iconst 0, 1) := by decide +kernel
theorem d_El_hasInside_29 : decode prog_4_method_5_code 29 = .ok (.ireturn, 1) := by decide +kernel
theorem d_TG_renameAt_0 : decode prog_1_method_20_code 0 = .ok (.aload_n 0, 1) := by decide +kernel
theorem d_TG_renameAt_1 : decode prog_1_method_20_code 1 = .ok (.getfield 44, 3) := by decide +kernel
theorem d_TG_renameAt_4 : decode prog_1_method_20_code 4 = .ok (.iload_n 1, 1) := by decide +kernel
theorem d_TG_renameAt_5 : decode prog_1_method_20_code 5 = .ok (.invokevirtual 213, 3) := by decide +kernel
theorem d_TG_renameAt_8 : decode prog_1_method_20_code 8 = .ok (.istore_n 3, 1) := by decide +kernel
theorem d_TG_renameAt_9 : decode prog_1_method_20_code 9 = .ok (.iload_n 3, 1) := by decide +kernel
theorem d_TG_renameAt_10 : decode prog_1_method_20_code 10 = .ok (.iconst (-1), 1) := by decide +kernel
theorem d_TG_renameAt_11 : decode prog_1_method_20_code 11 = .ok (.if_icmp .eq 10, 3) := by decide +kernel
theorem d_TG_renameAt_14 : decode prog_1_method_20_code 14 = .ok (.iload_n 2, 1) := by decide +kernel
theorem d_TG_renameAt_15 : decode prog_1_method_20_code 15 = .ok (.invokestatic 86, 3) := by decide +kernel
theorem d_TG_renameAt_18 : decode prog_1_method_20_code 18 = .ok (.ifCond .ne 5, 3) := by decide +kernel
theorem d_TG_renameAt_21 : decode prog_1_method_20_code 21 = .ok (.iconst (-1), 1) := by decide +kernel
theorem d_TG_renameAt_22 : decode prog_1_method_20_code 22 = .ok (.ireturn, 1) := by decide +kernel
theorem d_TG_renameAt_23 : decode prog_1_method_20_code 23 = .ok (.aload_n 0, 1) := by decide +kernel
theorem d_TG_renameAt_24 : decode prog_1_method_20_code 24 = .ok (.iconst 1, 1) := by decide +kernel
theorem d_TG_renameAt_25 : decode prog_1_method_20_code 25 = .ok (.putfield 78, 3) := by decide +kernel
theorem d_TG_renameAt_28 : decode prog_1_method_20_code 28 = .ok (.aload_n 0, 1) := by decide +kernel
theorem d_TG_renameAt_29 : decode prog_1_method_20_code 29 = .ok (.getfield 44, 3) := by decide +kernel
theorem d_TG_renameAt_32 : decode prog_1_method_20_code 32 = .ok (.iload_n 3, 1) := by decide +kernel
theorem d_TG_renameAt_33 : decode prog_1_method_20_code 33 = .ok (.iload_n 2, 1) := by decide +kernel
theorem d_TG_renameAt_34 : decode prog_1_method_20_code 34 = .ok (.invokevirtual 216, 3) := by decide +kernel
theorem d_TG_renameAt_37 : decode prog_1_method_20_code 37 = .ok (.ireturn, 1) := by decide +kernel
theorem d_Fa_preventForm_0 : decode prog_5_method_5_code 0 = .ok (.iconst 0, 1) := by decide +kernel
theorem d_Fa_preventForm_1 : decode prog_5_method_5_code 1 = .ok (.istore_n 1, 1) := by decide +kernel
theorem d_Fa_preventForm_2 : decode prog_5_method_5_code 2 = .ok (.iload_n 1, 1) := by decide +kernel
theorem d_Fa_preventForm_3 : decode prog_5_method_5_code 3 = .ok (.aload_n 0, 1) := by decide +kernel
theorem d_Fa_preventForm_4 : decode prog_5_method_5_code 4 = .ok (.getfield 15, 3) := by decide +kernel
theorem d_Fa_preventForm_7 : decode prog_5_method_5_code 7 = .ok (.if_icmp .ge 24, 3) := by decide +kernel
theorem d_Fa_preventForm_10 : decode prog_5_method_5_code 10 = .ok (.aload_n 0, 1) := by decide +kernel
theorem d_Fa_preventForm_11 : decode prog_5_method_5_code 11 = .ok (.getfield 9, 3) := by decide +kernel
theorem d_Fa_preventForm_14 : decode prog_5_method_5_code 14 = .ok (.iload_n 1, 1) := by decide +kernel
theorem d_Fa_preventForm_15 : decode prog_5_method_5_code 15 = .ok (.iaload, 1) := by decide +kernel
theorem d_Fa_preventForm_16 : decode prog_5_method_5_code 16 = .ok (.bipush 8, 2) := by decide +kernel
theorem d_Fa_preventForm_18 : decode prog_5_method_5_code 18 = .ok (.irem, 1) := by decide +kernel
theorem d_Fa_preventForm_19 : decode prog_5_method_5_code 19 = .ok (.iconst 4, 1) := by decide +kernel
theorem d_Fa_preventForm_20 : decode prog_5_method_5_code 20 = .ok (.if_icmp .gt 5, 3) := by decide +kernel
theorem d_Fa_preventForm_23 : decode prog_5_method_5_code 23 = .ok (.iconst 1, 1) := by decide +kernel
theorem d_Fa_preventForm_24 : decode prog_5_method_5_code 24 = .ok (.ireturn, 1) := by decide +kernel
theorem d_Fa_preventForm_25 : decode prog_5_method_5_code 25 = .ok (.iinc 1 1, 3) := by decide +kernel
theorem d_Fa_preventForm_28 : decode prog_5_method_5_code 28 = .ok (.goto (-26), 3) := by decide +kernel
theorem d_Fa_preventForm_31 : decode prog_5_method_5_code 31 = .ok (.iconst 0, 1) := by decide +kernel
theorem d_Fa_preventForm_32 : decode prog_5_method_5_code 32 = .ok (.ireturn, 1) := by decide +kernel
theorem d_Fo_formAnew_0 : decode prog_6_method_3_code 0 = .ok (.aload_n 0, 1) := by decide +kernel
theorem d_Fo_formAnew_1 : decode prog_6_method_3_code 1 = .ok (.iconst 0, 1) := by decide +kernel
theorem d_Fo_formAnew_2 : decode prog_6_method_3_code 2 = .ok (.putfield 27, 3) := by decide +kernel
theorem d_Fo_formAnew_5 : decode prog_6_method_3_code 5 = .ok (.aload_n 0, 1) := by decide +kernel
theorem d_Fo_formAnew_6 : decode prog_6_method_3_code 6 = .ok (.getfield 23, 3) := by decide +kernel
theorem d_Fo_formAnew_9 : decode prog_6_method_3_code 9 = .ok (.aload_n 0, 1) := by decide +kernel
theorem d_Fo_formAnew_10 : decode prog_6_method_3_code 10 = .ok (.getfield 19, 3) := by decide +kernel
theorem d_Fo_formAnew_13 : decode prog_6_method_3_code 13 = .ok (.getfield 31, 3) := by decide +kernel
theorem d_Fo_formAnew_16 : decode prog_6_method_3_code 16 = .ok (.iconst 0, 1) := by decide +kernel
theorem d_Fo_formAnew_17 : decode prog_6_method_3_code 17 = .ok (.aaload, 1) := by decide +kernel
theorem d_Fo_formAnew_18 : decode prog_6_method_3_code 18 = .ok (.invokevirtual 37, 3) := by decide +kernel
theorem d_Fo_formAnew_21 : decode prog_6_method_3_code 21 = .ok (.ifCond .ne 20, 3) := by decide +kernel
theorem d_Fo_formAnew_24 : decode prog_6_method_3_code 24 = .ok (.aload_n 0, 1) := by decide +kernel
theorem d_Fo_formAnew_25 : decode prog_6_method_3_code 25 = .ok (.iconst 0, 1) := by decide +kernel
theorem d_Fo_formAnew_26 : decode prog_6_method_3_code 26 = .ok (.aload_n 0, 1) := by decide +kernel
theorem d_Fo_formAnew_27 : decode prog_6_method_3_code 27 = .ok (.getfield 15, 3) := by decide +kernel
theorem d_Fo_formAnew_30 : decode prog_6_method_3_code 30 = .ok (.getfield 43, 3) := by decide +kernel
theorem d_Fo_formAnew_33 : decode prog_6_method_3_code 33 = .ok (.invokevirtual 46, 3) := by decide +kernel
theorem d_Fo_formAnew_36 : decode prog_6_method_3_code 36 = .ok (.aload_n 0, 1) := by decide +kernel
theorem d_Fo_formAnew_37 : decode prog_6_method_3_code 37 = .ok (.getfield 27, 3) := by decide +kernel
theorem d_Fo_formAnew_40 : decode prog_6_method_3_code 40 = .ok (.ireturn, 1) := by decide +kernel
theorem d_Fo_formAnew_41 : decode prog_6_method_3_code 41 = .ok (.iconst 1, 1) := by decide +kernel
theorem d_Fo_formAnew_42 : decode prog_6_method_3_code 42 = .ok (.istore_n 1, 1) := by decide +kernel
theorem d_Fo_formAnew_43 : decode prog_6_method_3_code 43 = .ok (.iload_n 1, 1) := by decide +kernel
theorem d_Fo_formAnew_44 : decode prog_6_method_3_code 44 = .ok (.aload_n 0, 1) := by decide +kernel
theorem d_Fo_formAnew_45 : decode prog_6_method_3_code 45 = .ok (.getfield 19, 3) := by decide +kernel
theorem d_Fo_formAnew_48 : decode prog_6_method_3_code 48 = .ok (.getfield 50, 3) := by decide +kernel
theorem d_Fo_formAnew_51 : decode prog_6_method_3_code 51 = .ok (.if_icmp .gt 42, 3) := by decide +kernel
theorem d_Fo_formAnew_54 : decode prog_6_method_3_code 54 = .ok (.aload_n 0, 1) := by decide +kernel
theorem d_Fo_formAnew_55 : decode prog_6_method_3_code 55 = .ok (.getfield 19, 3) := by decide +kernel
theorem d_Fo_formAnew_58 : decode prog_6_method_3_code 58 = .ok (.getfield 31, 3) := by decide +kernel
theorem d_Fo_formAnew_61 : decode prog_6_method_3_code 61 = .ok (.iload_n 1, 1) := by decide +kernel
theorem d_Fo_formAnew_62 : decode prog_6_method_3_code 62 = .ok (.aaload, 1) := by decide +kernel
theorem d_Fo_formAnew_63 : decode prog_6_method_3_code 63 = .ok (.getfield 53, 3) := by decide +kernel
theorem d_Fo_formAnew_66 : decode prog_6_method_3_code 66 = .ok (.ifCond .ne 21, 3) := by decide +kernel
theorem d_Fo_formAnew_69 : decode prog_6_method_3_code 69 = .ok (.aload_n 0, 1) := by decide +kernel
theorem d_Fo_formAnew_70 : decode prog_6_method_3_code 70 = .ok (.getfield 27, 3) := by decide +kernel
theorem d_Fo_formAnew_73 : decode prog_6_method_3_code 73 = .ok (.ifCond .le 8, 3) := by decide +kernel
theorem d_Fo_formAnew_76 : decode prog_6_method_3_code 76 = .ok (.aload_n 0, 1) := by decide +kernel
theorem d_Fo_formAnew_77 : decode prog_6_method_3_code 77 = .ok (.iconst 0, 1) := by decide +kernel
theorem d_Fo_formAnew_78 : decode prog_6_method_3_code 78 = .ok (.invokevirtual 58, 3) := by decide +kernel
theorem d_Fo_formAnew_81 : decode prog_6_method_3_code 81 = .ok (.aload_n 0, 1) := by decide +kernel
theorem d_Fo_formAnew_82 : decode prog_6_method_3_code 82 = .ok (.iload_n 1, 1) := by decide +kernel
theorem d_Fo_formAnew_83 : decode prog_6_method_3_code 83 = .ok (.iconst 1, 1) := by decide +kernel
theorem d_Fo_formAnew_84 : decode prog_6_method_3_code 84 = .ok (.invokevirtual 62, 3) := by decide +kernel
theorem d_Fo_formAnew_87 : decode prog_6_method_3_code 87 = .ok (.iinc 1 1, 3) := by decide +kernel
theorem d_Fo_formAnew_90 : decode prog_6_method_3_code 90 = .ok (.goto (-47), 3) := by decide +kernel
theorem d_Fo_formAnew_93 : decode prog_6_method_3_code 93 = .ok (.aload_n 0, 1) := by decide +kernel
theorem d_Fo_formAnew_94 : decode prog_6_method_3_code 94 = .ok (.getfield 27, 3) := by decide +kernel
theorem d_Fo_formAnew_97 : decode prog_6_method_3_code 97 = .ok (.ireturn, 1) := by decide +kernel
theorem d_Fo_copy_0 : decode prog_6_method_6_code 0 = .ok (.iload_n 1, 1) := by decide +kernel
theorem d_Fo_copy_1 : decode prog_6_method_6_code 1 = .ok (.istore_n 3, 1) := by decide +kernel
theorem d_Fo_copy_2 : decode prog_6_method_6_code 2 = .ok (.iload_n 3, 1) := by decide +kernel
theorem d_Fo_copy_3 : decode prog_6_method_6_code 3 = .ok (.iload_n 2, 1) := by decide +kernel
theorem d_Fo_copy_4 : decode prog_6_method_6_code 4 = .ok (.if_icmp .ge 21, 3) := by decide +kernel
theorem d_Fo_copy_7 : decode prog_6_method_6_code 7 = .ok (.aload_n 0, 1) := by decide +kernel
theorem d_Fo_copy_8 : decode prog_6_method_6_code 8 = .ok (.aload_n 0, 1) := by decide +kernel
theorem d_Fo_copy_9 : decode prog_6_method_6_code 9 = .ok (.getfield 15, 3) := by decide +kernel
theorem d_Fo_copy_12 : decode prog_6_method_6_code 12 = .ok (.iload_n 3, 1) := by decide +kernel
theorem d_Fo_copy_13 : decode prog_6_method_6_code 13 = .ok (.invokevirtual 80, 3) := by decide +kernel
theorem d_Fo_copy_16 : decode prog_6_method_6_code 16 = .ok (.invokevirtual 77, 3) := by decide +kernel
theorem d_Fo_copy_19 : decode prog_6_method_6_code 19 = .ok (.iinc 3 1, 3) := by decide +kernel
theorem d_Fo_copy_22 : decode prog_6_method_6_code 22 = .ok (.goto (-20), 3) := by decide +kernel
theorem d_Fo_copy_25 : decode prog_6_method_6_code 25 = .ok (.return_, 1) := by decide +kernel
theorem d_Fo_put_0 : decode prog_6_method_7_code 0 = .ok (.aload_n 0, 1) := by decide +kernel
theorem d_Fo_put_1 : decode prog_6_method_7_code 1 = .ok (.getfield 27, 3) := by decide +kernel
theorem d_Fo_put_4 : decode prog_6_method_7_code 4 = .ok (.sipush 694, 3) := by decide +kernel
theorem d_Fo_put_7 : decode prog_6_method_7_code 7 = .ok (.if_icmp .ge 24, 3) := by decide +kernel
theorem d_Fo_put_10 : decode prog_6_method_7_code 10 = .ok (.aload_n 0, 1) := by decide +kernel
theorem d_Fo_put_11 : decode prog_6_method_7_code 11 = .ok (.getfield 9, 3) := by decide +kernel
theorem d_Fo_put_14 : decode prog_6_method_7_code 14 = .ok (.aload_n 0, 1) := by decide +kernel
theorem d_Fo_put_15 : decode prog_6_method_7_code 15 = .ok (.getfield 27, 3) := by decide +kernel
theorem d_Fo_put_18 : decode prog_6_method_7_code 18 = .ok (.iload_n 1, 1) := by decide +kernel
theorem d_Fo_put_19 : decode prog_6_method_7_code 19 = .ok (.i2c, 1) := by decide +kernel
theorem d_Fo_put_20 : decode prog_6_method_7_code 20 = .ok (.castore, 1) := by decide +kernel
theorem d_Fo_put_21 : decode prog_6_method_7_code 21 = .ok (.aload_n 0, 1) := by decide +kernel
theorem d_Fo_put_22 : decode prog_6_method_7_code 22 = .ok (.dup, 1) := by decide +kernel
theorem d_Fo_put_23 : decode prog_6_method_7_code 23 = .ok (.getfield 27, 3) := by decide +kernel
theorem d_Fo_put_26 : decode prog_6_method_7_code 26 = .ok (.iconst 1, 1) := by decide +kernel
theorem d_Fo_put_27 : decode prog_6_method_7_code 27 = .ok (.iadd, 1) := by decide +kernel
theorem d_Fo_put_28 : decode prog_6_method_7_code 28 = .ok (.putfield 27, 3) := by decide +kernel
theorem d_Fo_put_31 : decode prog_6_method_7_code 31 = .ok (.return_, 1) := by decide +kernel
theorem d_Fo_startLine_0 : decode prog_6_method_5_code 0 = .ok (.aload_n 0, 1) := by decide +kernel
theorem d_Fo_startLine_1 : decode prog_6_method_5_code 1 = .ok (.bipush 10, 2) := by decide +kernel
theorem d_Fo_startLine_3 : decode prog_6_method_5_code 3 = .ok (.invokevirtual 77, 3) := by decide +kernel
theorem d_Fo_startLine_6 : decode prog_6_method_5_code 6 = .ok (.iconst 0, 1) := by decide +kernel
theorem d_Fo_startLine_7 : decode prog_6_method_5_code 7 = .ok (.istore_n 2, 1) := by decide +kernel
theorem d_Fo_startLine_8 : decode prog_6_method_5_code 8 = .ok (.iload_n 2, 1) := by decide +kernel
theorem d_Fo_startLine_9 : decode prog_6_method_5_code 9 = .ok (.iload_n 1, 1) := by decide +kernel
theorem d_Fo_startLine_10 : decode prog_6_method_5_code 10 = .ok (.if_icmp .ge 15, 3) := by decide +kernel
theorem d_Fo_startLine_13 : decode prog_6_method_5_code 13 = .ok (.aload_n 0, 1) := by decide +kernel
theorem d_Fo_startLine_14 : decode prog_6_method_5_code 14 = .ok (.bipush 32, 2) := by decide +kernel
theorem d_Fo_startLine_16 : decode prog_6_method_5_code 16 = .ok (.invokevirtual 77, 3) := by decide +kernel
theorem d_Fo_startLine_19 : decode prog_6_method_5_code 19 = .ok (.iinc 2 1, 3) := by decide +kernel
theorem d_Fo_startLine_22 : decode prog_6_method_5_code 22 = .ok (.goto (-14), 3) := by decide +kernel
theorem d_Fo_startLine_25 : decode prog_6_method_5_code 25 = .ok (.return_, 1) := by decide +kernel
theorem d_Fo_addForm_0 : decode prog_6_method_4_code 0 = .ok (.aload_n 0, 1) := by decide +kernel
theorem d_Fo_addForm_1 : decode prog_6_method_4_code 1 = .ok (.getfield 19, 3) := by decide +kernel
theorem d_Fo_addForm_4 : decode prog_6_method_4_code 4 = .ok (.getfield 31, 3) := by decide +kernel
theorem d_Fo_addForm_7 : decode prog_6_method_4_code 7 = .ok (.iload_n 1, 1) := by decide +kernel
theorem d_Fo_addForm_8 : decode prog_6_method_4_code 8 = .ok (.aaload, 1) := by decide +kernel
theorem d_Fo_addForm_9 : decode prog_6_method_4_code 9 = .ok (.astore_n 3, 1) := by decide +kernel
theorem d_Fo_addForm_10 : decode prog_6_method_4_code 10 = .ok (.iload_n 2, 1) := by decide +kernel
theorem d_Fo_addForm_11 : decode prog_6_method_4_code 11 = .ok (.bipush 8, 2) := by decide +kernel
theorem d_Fo_addForm_13 : decode prog_6_method_4_code 13 = .ok (.if_icmp .gt 14, 3) := by decide +kernel
theorem d_Fo_addForm_16 : decode prog_6_method_4_code 16 = .ok (.aload_n 0, 1) := by decide +kernel
theorem d_Fo_addForm_17 : decode prog_6_method_4_code 17 = .ok (.getfield 23, 3) := by decide +kernel
theorem d_Fo_addForm_20 : decode prog_6_method_4_code 20 = .ok (.aload_n 3, 1) := by decide +kernel
theorem d_Fo_addForm_21 : decode prog_6_method_4_code 21 = .ok (.invokevirtual 37, 3) := by decide +kernel
theorem d_Fo_addForm_24 : decode prog_6_method_4_code 24 = .ok (.ifCond .ne 16, 3) := by decide +kernel
theorem d_Fo_addForm_27 : decode prog_6_method_4_code 27 = .ok (.aload_n 0, 1) := by decide +kernel
theorem d_Fo_addForm_28 : decode prog_6_method_4_code 28 = .ok (.aload_n 3, 1) := by decide +kernel
theorem d_Fo_addForm_29 : decode prog_6_method_4_code 29 = .ok (.getfield 65, 3) := by decide +kernel
theorem d_Fo_addForm_32 : decode prog_6_method_4_code 32 = .ok (.aload_n 3, 1) := by decide +kernel
theorem d_Fo_addForm_33 : decode prog_6_method_4_code 33 = .ok (.getfield 68, 3) := by decide +kernel
theorem d_Fo_addForm_36 : decode prog_6_method_4_code 36 = .ok (.invokevirtual 46, 3) := by decide +kernel
theorem d_Fo_addForm_39 : decode prog_6_method_4_code 39 = .ok (.return_, 1) := by decide +kernel
theorem d_Fo_addForm_40 : decode prog_6_method_4_code 40 = .ok (.aload_n 0, 1) := by decide +kernel
theorem d_Fo_addForm_41 : decode prog_6_method_4_code 41 = .ok (.aload_n 3, 1) := by decide +kernel
theorem d_Fo_addForm_42 : decode prog_6_method_4_code 42 = .ok (.getfield 65, 3) := by decide +kernel
theorem d_Fo_addForm_45 : decode prog_6_method_4_code 45 = .ok (.aload_n 3, 1) := by decide +kernel
theorem d_Fo_addForm_46 : decode prog_6_method_4_code 46 = .ok (.getfield 71, 3) := by decide +kernel
theorem d_Fo_addForm_49 : decode prog_6_method_4_code 49 = .ok (.invokevirtual 46, 3) := by decide +kernel
theorem d_Fo_addForm_52 : decode prog_6_method_4_code 52 = .ok (.iload_n 1, 1) := by decide +kernel
theorem d_Fo_addForm_53 : decode prog_6_method_4_code 53 = .ok (.iconst 1, 1) := by decide +kernel
theorem d_Fo_addForm_54 : decode prog_6_method_4_code 54 = .ok (.iadd, 1) := by decide +kernel
theorem d_Fo_addForm_55 : decode prog_6_method_4_code 55 = .ok (.istore 4, 2) := by decide +kernel
theorem d_Fo_addForm_57 : decode prog_6_method_4_code 57 = .ok (.iload 4, 2) := by decide +kernel
theorem d_Fo_addForm_59 : decode prog_6_method_4_code 59 = .ok (.aload_n 0, 1) := by decide +kernel
theorem d_Fo_addForm_60 : decode prog_6_method_4_code 60 = .ok (.getfield 19, 3) := by decide +kernel
theorem d_Fo_addForm_63 : decode prog_6_method_4_code 63 = .ok (.getfield 50, 3) := by decide +kernel
theorem d_Fo_addForm_66 : decode prog_6_method_4_code 66 = .ok (.if_icmp .gt 40, 3) := by decide +kernel
theorem d_Fo_addForm_69 : decode prog_6_method_4_code 69 = .ok (.aload_n 0, 1) := by decide +kernel
theorem d_Fo_addForm_70 : decode prog_6_method_4_code 70 = .ok (.getfield 19, 3) := by decide +kernel
theorem d_Fo_addForm_73 : decode prog_6_method_4_code 73 = .ok (.getfield 31, 3) := by decide +kernel
theorem d_Fo_addForm_76 : decode prog_6_method_4_code 76 = .ok (.iload 4, 2) := by decide +kernel
theorem d_Fo_addForm_78 : decode prog_6_method_4_code 78 = .ok (.aaload, 1) := by decide +kernel
theorem d_Fo_addForm_79 : decode prog_6_method_4_code 79 = .ok (.getfield 53, 3) := by decide +kernel
theorem d_Fo_addForm_82 : decode prog_6_method_4_code 82 = .ok (.iload_n 1, 1) := by decide +kernel
theorem d_Fo_addForm_83 : decode prog_6_method_4_code 83 = .ok (.if_icmp .ne 17, 3) := by decide +kernel
theorem d_Fo_addForm_86 : decode prog_6_method_4_code 86 = .ok (.aload_n 0, 1) := by decide +kernel
theorem d_Fo_addForm_87 : decode prog_6_method_4_code 87 = .ok (.iload_n 2, 1) := by decide +kernel
theorem d_Fo_addForm_88 : decode prog_6_method_4_code 88 = .ok (.invokevirtual 58, 3) := by decide +kernel
theorem d_Fo_addForm_91 : decode prog_6_method_4_code 91 = .ok (.aload_n 0, 1) := by decide +kernel
theorem d_Fo_addForm_92 : decode prog_6_method_4_code 92 = .ok (.iload 4, 2) := by decide +kernel
theorem d_Fo_addForm_94 : decode prog_6_method_4_code 94 = .ok (.iload_n 2, 1) := by decide +kernel
theorem d_Fo_addForm_95 : decode prog_6_method_4_code 95 = .ok (.iconst 1, 1) := by decide +kernel
theorem d_Fo_addForm_96 : decode prog_6_method_4_code 96 = .ok (.iadd, 1) := by decide +kernel
theorem d_Fo_addForm_97 : decode prog_6_method_4_code 97 = .ok (.invokevirtual 62, 3) := by decide +kernel
theorem d_Fo_addForm_100 : decode prog_6_method_4_code 100 = .ok (.iinc 4 1, 3) := by decide +kernel
theorem d_Fo_addForm_103 : decode prog_6_method_4_code 103 = .ok (.goto (-46), 3) := by decide +kernel
theorem d_Fo_addForm_106 : decode prog_6_method_4_code 106 = .ok (.aload_n 0, 1) := by decide +kernel
theorem d_Fo_addForm_107 : decode prog_6_method_4_code 107 = .ok (.iload_n 2, 1) := by decide +kernel
theorem d_Fo_addForm_108 : decode prog_6_method_4_code 108 = .ok (.iconst 1, 1) := by decide +kernel
theorem d_Fo_addForm_109 : decode prog_6_method_4_code 109 = .ok (.isub, 1) := by decide +kernel
theorem d_Fo_addForm_110 : decode prog_6_method_4_code 110 = .ok (.invokevirtual 58, 3) := by decide +kernel
theorem d_Fo_addForm_113 : decode prog_6_method_4_code 113 = .ok (.aload_n 0, 1) := by decide +kernel
theorem d_Fo_addForm_114 : decode prog_6_method_4_code 114 = .ok (.aload_n 3, 1) := by decide +kernel
theorem d_Fo_addForm_115 : decode prog_6_method_4_code 115 = .ok (.getfield 74, 3) := by decide +kernel
theorem d_Fo_addForm_118 : decode prog_6_method_4_code 118 = .ok (.aload_n 3, 1) := by decide +kernel
theorem d_Fo_addForm_119 : decode prog_6_method_4_code 119 = .ok (.getfield 68, 3) := by decide +kernel
theorem d_Fo_addForm_122 : decode prog_6_method_4_code 122 = .ok (.invokevirtual 46, 3) := by decide +kernel
theorem d_Fo_addForm_125 : decode prog_6_method_4_code 125 = .ok (.return_, 1) := by decide +kernel
theorem d_An_keep_0 : decode prog_2_method_2_code 0 = .ok (.aload_n 0, 1) := by decide +kernel
theorem d_An_keep_1 : decode prog_2_method_2_code 1 = .ok (.getfield 9, 3) := by decide +kernel
theorem d_An_keep_4 : decode prog_2_method_2_code 4 = .ok (.aload_n 0, 1) := by decide +kernel
theorem d_An_keep_5 : decode prog_2_method_2_code 5 = .ok (.getfield 18, 3) := by decide +kernel
theorem d_An_keep_8 : decode prog_2_method_2_code 8 = .ok (.iload_n 1, 1) := by decide +kernel
theorem d_An_keep_9 : decode prog_2_method_2_code 9 = .ok (.iastore, 1) := by decide +kernel
theorem d_An_keep_10 : decode prog_2_method_2_code 10 = .ok (.aload_n 0, 1) := by decide +kernel
theorem d_An_keep_11 : decode prog_2_method_2_code 11 = .ok (.getfield 15, 3) := by decide +kernel
theorem d_An_keep_14 : decode prog_2_method_2_code 14 = .ok (.aload_n 0, 1) := by decide +kernel
theorem d_An_keep_15 : decode prog_2_method_2_code 15 = .ok (.getfield 18, 3) := by decide +kernel
theorem d_An_keep_18 : decode prog_2_method_2_code 18 = .ok (.iload_n 2, 1) := by decide +kernel
theorem d_An_keep_19 : decode prog_2_method_2_code 19 = .ok (.iastore, 1) := by decide +kernel
theorem d_An_keep_20 : decode prog_2_method_2_code 20 = .ok (.aload_n 0, 1) := by decide +kernel
theorem d_An_keep_21 : decode prog_2_method_2_code 21 = .ok (.aload_n 0, 1) := by decide +kernel
theorem d_An_keep_22 : decode prog_2_method_2_code 22 = .ok (.getfield 18, 3) := by decide +kernel
theorem d_An_keep_25 : decode prog_2_method_2_code 25 = .ok (.iconst 1, 1) := by decide +kernel
theorem d_An_keep_26 : decode prog_2_method_2_code 26 = .ok (.iadd, 1) := by decide +kernel
theorem d_An_keep_27 : decode prog_2_method_2_code 27 = .ok (.bipush 8, 2) := by decide +kernel
theorem d_An_keep_29 : decode prog_2_method_2_code 29 = .ok (.irem, 1) := by decide +kernel
theorem d_An_keep_30 : decode prog_2_method_2_code 30 = .ok (.putfield 18, 3) := by decide +kernel
theorem d_An_keep_33 : decode prog_2_method_2_code 33 = .ok (.return_, 1) := by decide +kernel
theorem d_TG_answer_0 : decode prog_1_method_9_code 0 = .ok (.aload_n 0, 1) := by decide +kernel
theorem d_TG_answer_1 : decode prog_1_method_9_code 1 = .ok (.getfield 67, 3) := by decide +kernel
theorem d_TG_answer_4 : decode prog_1_method_9_code 4 = .ok (.iload_n 1, 1) := by decide +kernel
theorem d_TG_answer_5 : decode prog_1_method_9_code 5 = .ok (.invokevirtual 120, 3) := by decide +kernel
theorem d_TG_answer_8 : decode prog_1_method_9_code 8 = .ok (.iconst (-1), 1) := by decide +kernel
theorem d_TG_answer_9 : decode prog_1_method_9_code 9 = .ok (.if_icmp .ne 14, 3) := by decide +kernel
theorem d_TG_answer_12 : decode prog_1_method_9_code 12 = .ok (.aload_n 0, 1) := by decide +kernel
theorem d_TG_answer_13 : decode prog_1_method_9_code 13 = .ok (.getfield 74, 3) := by decide +kernel
theorem d_TG_answer_16 : decode prog_1_method_9_code 16 = .ok (.iload_n 1, 1) := by decide +kernel
theorem d_TG_answer_17 : decode prog_1_method_9_code 17 = .ok (.invokevirtual 158, 3) := by decide +kernel
theorem d_TG_answer_20 : decode prog_1_method_9_code 20 = .ok (.goto 5, 3) := by decide +kernel
theorem d_TG_answer_23 : decode prog_1_method_9_code 23 = .ok (.bipush (-3), 2) := by decide +kernel
theorem d_TG_answer_25 : decode prog_1_method_9_code 25 = .ok (.ireturn, 1) := by decide +kernel
theorem d_An_of_0 : decode prog_2_method_3_code 0 = .ok (.iconst 0, 1) := by decide +kernel
theorem d_An_of_1 : decode prog_2_method_3_code 1 = .ok (.istore_n 2, 1) := by decide +kernel
theorem d_An_of_2 : decode prog_2_method_3_code 2 = .ok (.iload_n 1, 1) := by decide +kernel
theorem d_An_of_3 : decode prog_2_method_3_code 3 = .ok (.ifCond .le 32, 3) := by decide +kernel
theorem d_An_of_6 : decode prog_2_method_3_code 6 = .ok (.iload_n 2, 1) := by decide +kernel
theorem d_An_of_7 : decode prog_2_method_3_code 7 = .ok (.bipush 8, 2) := by decide +kernel
theorem d_An_of_9 : decode prog_2_method_3_code 9 = .ok (.if_icmp .ge 26, 3) := by decide +kernel
theorem d_An_of_12 : decode prog_2_method_3_code 12 = .ok (.aload_n 0, 1) := by decide +kernel
theorem d_An_of_13 : decode prog_2_method_3_code 13 = .ok (.getfield 9, 3) := by decide +kernel
theorem d_An_of_16 : decode prog_2_method_3_code 16 = .ok (.iload_n 2, 1) := by decide +kernel
theorem d_An_of_17 : decode prog_2_method_3_code 17 = .ok (.iaload, 1) := by decide +kernel
theorem d_An_of_18 : decode prog_2_method_3_code 18 = .ok (.iload_n 1, 1) := by decide +kernel
theorem d_An_of_19 : decode prog_2_method_3_code 19 = .ok (.if_icmp .ne 10, 3) := by decide +kernel
theorem d_An_of_22 : decode prog_2_method_3_code 22 = .ok (.aload_n 0, 1) := by decide +kernel
theorem d_An_of_23 : decode prog_2_method_3_code 23 = .ok (.getfield 15, 3) := by decide +kernel
theorem d_An_of_26 : decode prog_2_method_3_code 26 = .ok (.iload_n 2, 1) := by decide +kernel
theorem d_An_of_27 : decode prog_2_method_3_code 27 = .ok (.iaload, 1) := by decide +kernel
theorem d_An_of_28 : decode prog_2_method_3_code 28 = .ok (.ireturn, 1) := by decide +kernel
theorem d_An_of_29 : decode prog_2_method_3_code 29 = .ok (.iinc 2 1, 3) := by decide +kernel
theorem d_An_of_32 : decode prog_2_method_3_code 32 = .ok (.goto (-30), 3) := by decide +kernel
theorem d_An_of_35 : decode prog_2_method_3_code 35 = .ok (.iconst (-1), 1) := by decide +kernel
theorem d_An_of_36 : decode prog_2_method_3_code 36 = .ok (.ireturn, 1) := by decide +kernel
theorem d_TG_inbox_0 : decode prog_1_method_10_code 0 = .ok (.aload_n 0, 1) := by decide +kernel
theorem d_TG_inbox_1 : decode prog_1_method_10_code 1 = .ok (.getfield 67, 3) := by decide +kernel
theorem d_TG_inbox_4 : decode prog_1_method_10_code 4 = .ok (.getfield 127, 3) := by decide +kernel
theorem d_TG_inbox_7 : decode prog_1_method_10_code 7 = .ok (.ireturn, 1) := by decide +kernel
theorem d_TG_length_0 : decode prog_1_method_11_code 0 = .ok (.aload_n 0, 1) := by decide +kernel
theorem d_TG_length_1 : decode prog_1_method_11_code 1 = .ok (.getfield 35, 3) := by decide +kernel
theorem d_TG_length_4 : decode prog_1_method_11_code 4 = .ok (.getfield 161, 3) := by decide +kernel
theorem d_TG_length_7 : decode prog_1_method_11_code 7 = .ok (.ireturn, 1) := by decide +kernel
theorem d_TG_character_0 : decode prog_1_method_12_code 0 = .ok (.aload_n 0, 1) := by decide +kernel
theorem d_TG_character_1 : decode prog_1_method_12_code 1 = .ok (.getfield 35, 3) := by decide +kernel
theorem d_TG_character_4 : decode prog_1_method_12_code 4 = .ok (.iload_n 1, 1) := by decide +kernel
theorem d_TG_character_5 : decode prog_1_method_12_code 5 = .ok (.invokevirtual 162, 3) := by decide +kernel
theorem d_TG_character_8 : decode prog_1_method_12_code 8 = .ok (.ireturn, 1) := by decide +kernel
theorem d_TG_element_0 : decode prog_1_method_13_code 0 = .ok (.aload_n 0, 1) := by decide +kernel
theorem d_TG_element_1 : decode prog_1_method_13_code 1 = .ok (.invokevirtual 148, 3) := by decide +kernel
theorem d_TG_element_4 : decode prog_1_method_13_code 4 = .ok (.iload_n 1, 1) := by decide +kernel
theorem d_TG_element_5 : decode prog_1_method_13_code 5 = .ok (.ifCond .lt 14, 3) := by decide +kernel
theorem d_TG_element_8 : decode prog_1_method_13_code 8 = .ok (.iload_n 1, 1) := by decide +kernel
theorem d_TG_element_9 : decode prog_1_method_13_code 9 = .ok (.aload_n 0, 1) := by decide +kernel
theorem d_TG_element_10 : decode prog_1_method_13_code 10 = .ok (.getfield 44, 3) := by decide +kernel
theorem d_TG_element_13 : decode prog_1_method_13_code 13 = .ok (.getfield 165, 3) := by decide +kernel
theorem d_TG_element_16 : decode prog_1_method_13_code 16 = .ok (.if_icmp .le 7, 3) := by decide +kernel
theorem d_TG_element_19 : decode prog_1_method_13_code 19 = .ok (.iconst (-1), 1) := by decide +kernel
theorem d_TG_element_20 : decode prog_1_method_13_code 20 = .ok (.goto 16, 3) := by decide +kernel
theorem d_TG_element_23 : decode prog_1_method_13_code 23 = .ok (.aload_n 0, 1) := by decide +kernel
theorem d_TG_element_24 : decode prog_1_method_13_code 24 = .ok (.getfield 44, 3) := by decide +kernel
theorem d_TG_element_27 : decode prog_1_method_13_code 27 = .ok (.getfield 168, 3) := by decide +kernel
theorem d_TG_element_30 : decode prog_1_method_13_code 30 = .ok (.iload_n 1, 1) := by decide +kernel
theorem d_TG_element_31 : decode prog_1_method_13_code 31 = .ok (.aaload, 1) := by decide +kernel
theorem d_TG_element_32 : decode prog_1_method_13_code 32 = .ok (.iload_n 2, 1) := by decide +kernel
theorem d_TG_element_33 : decode prog_1_method_13_code 33 = .ok (.invokevirtual 172, 3) := by decide +kernel
theorem d_TG_element_36 : decode prog_1_method_13_code 36 = .ok (.ireturn, 1) := by decide +kernel
theorem d_El_tell_0 : decode prog_4_method_6_code 0 = .ok (.iload_n 1, 1) := by decide +kernel
theorem d_El_tell_1 : decode prog_4_method_6_code 1 = .ok (.tableswitch 78 0 5 #[39, 44, 49, 54, 59, 64], 39) := by decide +kernel
theorem d_El_tell_40 : decode prog_4_method_6_code 40 = .ok (.aload_n 0, 1) := by decide +kernel
theorem d_El_tell_41 : decode prog_4_method_6_code 41 = .ok (.getfield 9, 3) := by decide +kernel
theorem d_El_tell_44 : decode prog_4_method_6_code 44 = .ok (.ireturn, 1) := by decide +kernel
theorem d_El_tell_45 : decode prog_4_method_6_code 45 = .ok (.aload_n 0, 1) := by decide +kernel
theorem d_El_tell_46 : decode prog_4_method_6_code 46 = .ok (.getfield 15, 3) := by decide +kernel
theorem d_El_tell_49 : decode prog_4_method_6_code 49 = .ok (.ireturn, 1) := by decide +kernel
theorem d_El_tell_50 : decode prog_4_method_6_code 50 = .ok (.aload_n 0, 1) := by decide +kernel
theorem d_El_tell_51 : decode prog_4_method_6_code 51 = .ok (.getfield 21, 3) := by decide +kernel
theorem d_El_tell_54 : decode prog_4_method_6_code 54 = .ok (.ireturn, 1) := by decide +kernel
theorem d_El_tell_55 : decode prog_4_method_6_code 55 = .ok (.aload_n 0, 1) := by decide +kernel
theorem d_El_tell_56 : decode prog_4_method_6_code 56 = .ok (.getfield 39, 3) := by decide +kernel
theorem d_El_tell_59 : decode prog_4_method_6_code 59 = .ok (.ireturn, 1) := by decide +kernel
theorem d_El_tell_60 : decode prog_4_method_6_code 60 = .ok (.aload_n 0, 1) := by decide +kernel
theorem d_El_tell_61 : decode prog_4_method_6_code 61 = .ok (.getfield 27, 3) := by decide +kernel
theorem d_El_tell_64 : decode prog_4_method_6_code 64 = .ok (.ireturn, 1) := by decide +kernel
theorem d_El_tell_65 : decode prog_4_method_6_code 65 = .ok (.aload_n 0, 1) := by decide +kernel
theorem d_El_tell_66 : decode prog_4_method_6_code 66 = .ok (.getfield 33, 3) := by decide +kernel
theorem d_El_tell_69 : decode prog_4_method_6_code 69 = .ok (.iconst 3, 1) := by decide +kernel
theorem d_El_tell_70 : decode prog_4_method_6_code 70 = .ok (.if_icmp .ne 7, 3) := by decide +kernel
theorem d_El_tell_73 : decode prog_4_method_6_code 73 = .ok (.iconst 1, 1) := by decide +kernel
theorem d_El_tell_74 : decode prog_4_method_6_code 74 = .ok (.goto 4, 3) := by decide +kernel
theorem d_El_tell_77 : decode prog_4_method_6_code 77 = .ok (.iconst 0, 1) := by decide +kernel
theorem d_El_tell_78 : decode prog_4_method_6_code 78 = .ok (.ireturn, 1) := by decide +kernel
theorem d_El_tell_79 : decode prog_4_method_6_code 79 = .ok (.iconst (-1), 1) := by decide +kernel
theorem d_El_tell_80 : decode prog_4_method_6_code 80 = .ok (.ireturn, 1) := by decide +kernel
theorem d_TG_fault_0 : decode prog_1_method_14_code 0 = .ok (.aload_n 0, 1) := by decide +kernel
theorem d_TG_fault_1 : decode prog_1_method_14_code 1 = .ok (.invokevirtual 148, 3) := by decide +kernel
theorem d_TG_fault_4 : decode prog_1_method_14_code 4 = .ok (.aload_n 0, 1) := by decide +kernel
theorem d_TG_fault_5 : decode prog_1_method_14_code 5 = .ok (.getfield 51, 3) := by decide +kernel
theorem d_TG_fault_8 : decode prog_1_method_14_code 8 = .ok (.iload_n 1, 1) := by decide +kernel
theorem d_TG_fault_9 : decode prog_1_method_14_code 9 = .ok (.iload_n 2, 1) := by decide +kernel
theorem d_TG_fault_10 : decode prog_1_method_14_code 10 = .ok (.invokevirtual 177, 3) := by decide +kernel
theorem d_TG_fault_13 : decode prog_1_method_14_code 13 = .ok (.ireturn, 1) := by decide +kernel
theorem d_Fa_tell_0 : decode prog_5_method_6_code 0 = .ok (.iload_n 1, 1) := by decide +kernel
theorem d_Fa_tell_1 : decode prog_5_method_6_code 1 = .ok (.ifCond .lt 11, 3) := by decide +kernel
theorem d_Fa_tell_4 : decode prog_5_method_6_code 4 = .ok (.iload_n 1, 1) := by decide +kernel
theorem d_Fa_tell_5 : decode prog_5_method_6_code 5 = .ok (.aload_n 0, 1) := by decide +kernel
theorem d_Fa_tell_6 : decode prog_5_method_6_code 6 = .ok (.getfield 15, 3) := by decide +kernel
theorem d_Fa_tell_9 : decode prog_5_method_6_code 9 = .ok (.if_icmp .lt 5, 3) := by decide +kernel
theorem d_Fa_tell_12 : decode prog_5_method_6_code 12 = .ok (.iconst (-1), 1) := by decide +kernel
theorem d_Fa_tell_13 : decode prog_5_method_6_code 13 = .ok (.ireturn, 1) := by decide +kernel
theorem d_Fa_tell_14 : decode prog_5_method_6_code 14 = .ok (.iload_n 2, 1) := by decide +kernel
theorem d_Fa_tell_15 : decode prog_5_method_6_code 15 = .ok (.lookupswitch 45 #[(0, 25), (1, 35)], 25) := by decide +kernel
theorem d_Fa_tell_40 : decode prog_5_method_6_code 40 = .ok (.aload_n 0, 1) := by decide +kernel
theorem d_Fa_tell_41 : decode prog_5_method_6_code 41 = .ok (.getfield 9, 3) := by decide +kernel
theorem d_Fa_tell_44 : decode prog_5_method_6_code 44 = .ok (.iload_n 1, 1) := by decide +kernel
theorem d_Fa_tell_45 : decode prog_5_method_6_code 45 = .ok (.iaload, 1) := by decide +kernel
theorem d_Fa_tell_46 : decode prog_5_method_6_code 46 = .ok (.bipush 8, 2) := by decide +kernel
theorem d_Fa_tell_48 : decode prog_5_method_6_code 48 = .ok (.irem, 1) := by decide +kernel
theorem d_Fa_tell_49 : decode prog_5_method_6_code 49 = .ok (.ireturn, 1) := by decide +kernel
theorem d_Fa_tell_50 : decode prog_5_method_6_code 50 = .ok (.aload_n 0, 1) := by decide +kernel
theorem d_Fa_tell_51 : decode prog_5_method_6_code 51 = .ok (.getfield 9, 3) := by decide +kernel
theorem d_Fa_tell_54 : decode prog_5_method_6_code 54 = .ok (.iload_n 1, 1) := by decide +kernel
theorem d_Fa_tell_55 : decode prog_5_method_6_code 55 = .ok (.iaload, 1) := by decide +kernel
theorem d_Fa_tell_56 : decode prog_5_method_6_code 56 = .ok (.bipush 8, 2) := by decide +kernel
theorem d_Fa_tell_58 : decode prog_5_method_6_code 58 = .ok (.idiv, 1) := by decide +kernel
theorem d_Fa_tell_59 : decode prog_5_method_6_code 59 = .ok (.ireturn, 1) := by decide +kernel
theorem d_Fa_tell_60 : decode prog_5_method_6_code 60 = .ok (.iconst (-1), 1) := by decide +kernel
theorem d_Fa_tell_61 : decode prog_5_method_6_code 61 = .ok (.ireturn, 1) := by decide +kernel
theorem d_TG_fertile_0 : decode prog_1_method_15_code 0 = .ok (.aload_n 0, 1) := by decide +kernel
theorem d_TG_fertile_1 : decode prog_1_method_15_code 1 = .ok (.getfield 28, 3) := by decide +kernel
theorem d_TG_fertile_4 : decode prog_1_method_15_code 4 = .ok (.getfield 180, 3) := by decide +kernel
theorem d_TG_fertile_7 : decode prog_1_method_15_code 7 = .ok (.ireturn, 1) := by decide +kernel
theorem d_TG_formed_0 : decode prog_1_method_16_code 0 = .ok (.aload_n 0, 1) := by decide +kernel
theorem d_TG_formed_1 : decode prog_1_method_16_code 1 = .ok (.getfield 60, 3) := by decide +kernel
theorem d_TG_formed_4 : decode prog_1_method_16_code 4 = .ok (.iload_n 1, 1) := by decide +kernel
theorem d_TG_formed_5 : decode prog_1_method_16_code 5 = .ok (.invokevirtual 183, 3) := by decide +kernel
theorem d_TG_formed_8 : decode prog_1_method_16_code 8 = .ok (.ireturn, 1) := by decide +kernel
theorem d_Fo_at_0 : decode prog_6_method_2_code 0 = .ok (.iload_n 1, 1) := by decide +kernel
theorem d_Fo_at_1 : decode prog_6_method_2_code 1 = .ok (.ifCond .lt 20, 3) := by decide +kernel
theorem d_Fo_at_4 : decode prog_6_method_2_code 4 = .ok (.iload_n 1, 1) := by decide +kernel
theorem d_Fo_at_5 : decode prog_6_method_2_code 5 = .ok (.aload_n 0, 1) := by decide +kernel
theorem d_Fo_at_6 : decode prog_6_method_2_code 6 = .ok (.getfield 27, 3) := by decide +kernel
theorem d_Fo_at_9 : decode prog_6_method_2_code 9 = .ok (.if_icmp .ge 12, 3) := by decide +kernel
theorem d_Fo_at_12 : decode prog_6_method_2_code 12 = .ok (.aload_n 0, 1) := by decide +kernel
theorem d_Fo_at_13 : decode prog_6_method_2_code 13 = .ok (.getfield 9, 3) := by decide +kernel
theorem d_Fo_at_16 : decode prog_6_method_2_code 16 = .ok (.iload_n 1, 1) := by decide +kernel
theorem d_Fo_at_17 : decode prog_6_method_2_code 17 = .ok (.caload, 1) := by decide +kernel
theorem d_Fo_at_18 : decode prog_6_method_2_code 18 = .ok (.goto 4, 3) := by decide +kernel
theorem d_Fo_at_21 : decode prog_6_method_2_code 21 = .ok (.iconst (-1), 1) := by decide +kernel
theorem d_Fo_at_22 : decode prog_6_method_2_code 22 = .ok (.ireturn, 1) := by decide +kernel
end
section
theorem d_Mr_init_0 : decode prog_9_method_1_code 0 = .ok (.aload_n 0, 1) := by decide +kernel
theorem d_Mr_init_1 : decode prog_9_method_1_code 1 = .ok (.invokespecial 3, 3) := by decide +kernel
theorem d_Mr_init_4 : decode prog_9_method_1_code 4 = .ok (.aload_n 0, 1) := by decide +kernel
theorem d_Mr_init_5 : decode prog_9_method_1_code 5 = .ok (.new 9, 3) := by decide +kernel
theorem d_Mr_init_8 : decode prog_9_method_1_code 8 = .ok (.dup, 1) := by decide +kernel
theorem d_Mr_init_9 : decode prog_9_method_1_code 9 = .ok (.invokespecial 11, 3) := by decide +kernel
theorem d_Mr_init_12 : decode prog_9_method_1_code 12 = .ok (.putfield 12, 3) := by decide +kernel
theorem d_Mr_init_15 : decode prog_9_method_1_code 15 = .ok (.aload_n 0, 1) := by decide +kernel
theorem d_Mr_init_16 : decode prog_9_method_1_code 16 = .ok (.aload_n 1, 1) := by decide +kernel
theorem d_Mr_init_17 : decode prog_9_method_1_code 17 = .ok (.putfield 18, 3) := by decide +kernel
theorem d_Mr_init_20 : decode prog_9_method_1_code 20 = .ok (.return_, 1) := by decide +kernel
theorem d_Mo_init_0 : decode prog_8_method_1_code 0 = .ok (.aload_n 0, 1) := by decide +kernel
theorem d_Mo_init_1 : decode prog_8_method_1_code 1 = .ok (.invokespecial 3, 3) := by decide +kernel
theorem d_Mo_init_4 : decode prog_8_method_1_code 4 = .ok (.aload_n 0, 1) := by decide +kernel
theorem d_Mo_init_5 : decode prog_8_method_1_code 5 = .ok (.bipush 11, 2) := by decide +kernel
theorem d_Mo_init_7 : decode prog_8_method_1_code 7 = .ok (.newarray .int, 2) := by decide +kernel
theorem d_Mo_init_9 : decode prog_8_method_1_code 9 = .ok (.putfield 9, 3) := by decide +kernel
theorem d_Mo_init_12 : decode prog_8_method_1_code 12 = .ok (.aload_n 0, 1) := by decide +kernel
theorem d_Mo_init_13 : decode prog_8_method_1_code 13 = .ok (.bipush 8, 2) := by decide +kernel
theorem d_Mo_init_15 : decode prog_8_method_1_code 15 = .ok (.newarray .int, 2) := by decide +kernel
theorem d_Mo_init_17 : decode prog_8_method_1_code 17 = .ok (.putfield 15, 3) := by decide +kernel
theorem d_Mo_init_20 : decode prog_8_method_1_code 20 = .ok (.return_, 1) := by decide +kernel
theorem d_Ms_init_0 : decode prog_10_method_1_code 0 = .ok (.aload_n 0, 1) := by decide +kernel
theorem d_Ms_init_1 : decode prog_10_method_1_code 1 = .ok (.invokespecial 3, 3) := by decide +kernel
theorem d_Ms_init_4 : decode prog_10_method_1_code 4 = .ok (.aload_n 0, 1) := by decide +kernel
theorem d_Ms_init_5 : decode prog_10_method_1_code 5 = .ok (.bipush 9, 2) := by decide +kernel
theorem d_Ms_init_7 : decode prog_10_method_1_code 7 = .ok (.anewarray 9, 3) := by decide +kernel
theorem d_Ms_init_10 : decode prog_10_method_1_code 10 = .ok (.putfield 11, 3) := by decide +kernel
theorem d_Ms_init_13 : decode prog_10_method_1_code 13 = .ok (.aload_n 0, 1) := by decide +kernel
theorem d_Ms_init_14 : decode prog_10_method_1_code 14 = .ok (.new 9, 3) := by decide +kernel
theorem d_Ms_init_17 : decode prog_10_method_1_code 17 = .ok (.dup, 1) := by decide +kernel
theorem d_Ms_init_18 : decode prog_10_method_1_code 18 = .ok (.invokespecial 17, 3) := by decide +kernel
theorem d_Ms_init_21 : decode prog_10_method_1_code 21 = .ok (.putfield 18, 3) := by decide +kernel
theorem d_Ms_init_24 : decode prog_10_method_1_code 24 = .ok (.iconst 0, 1) := by decide +kernel
theorem d_Ms_init_25 : decode prog_10_method_1_code 25 = .ok (.istore_n 1, 1) := by decide +kernel
theorem d_Ms_init_26 : decode prog_10_method_1_code 26 = .ok (.iload_n 1, 1) := by decide +kernel
theorem d_Ms_init_27 : decode prog_10_method_1_code 27 = .ok (.aload_n 0, 1) := by decide +kernel
theorem d_Ms_init_28 : decode prog_10_method_1_code 28 = .ok (.getfield 11, 3) := by decide +kernel
theorem d_Ms_init_31 : decode prog_10_method_1_code 31 = .ok (.arraylength, 1) := by decide +kernel
theorem d_Ms_init_32 : decode prog_10_method_1_code 32 = .ok (.if_icmp .ge 22, 3) := by decide +kernel
theorem d_Ms_init_35 : decode prog_10_method_1_code 35 = .ok (.aload_n 0, 1) := by decide +kernel
theorem d_Ms_init_36 : decode prog_10_method_1_code 36 = .ok (.getfield 11, 3) := by decide +kernel
theorem d_Ms_init_39 : decode prog_10_method_1_code 39 = .ok (.iload_n 1, 1) := by decide +kernel
theorem d_Ms_init_40 : decode prog_10_method_1_code 40 = .ok (.new 9, 3) := by decide +kernel
theorem d_Ms_init_43 : decode prog_10_method_1_code 43 = .ok (.dup, 1) := by decide +kernel
theorem d_Ms_init_44 : decode prog_10_method_1_code 44 = .ok (.invokespecial 17, 3) := by decide +kernel
theorem d_Ms_init_47 : decode prog_10_method_1_code 47 = .ok (.aastore, 1) := by decide +kernel
theorem d_Ms_init_48 : decode prog_10_method_1_code 48 = .ok (.iinc 1 1, 3) := by decide +kernel
theorem d_Ms_init_51 : decode prog_10_method_1_code 51 = .ok (.goto (-25), 3) := by decide +kernel
theorem d_Ms_init_54 : decode prog_10_method_1_code 54 = .ok (.return_, 1) := by decide +kernel
theorem d_Tx_init_0 : decode prog_11_method_1_code 0 = .ok (.aload_n 0, 1) := by decide +kernel
theorem d_Tx_init_1 : decode prog_11_method_1_code 1 = .ok (.invokespecial 3, 3) := by decide +kernel
theorem d_Tx_init_4 : decode prog_11_method_1_code 4 = .ok (.aload_n 0, 1) := by decide +kernel
theorem d_Tx_init_5 : decode prog_11_method_1_code 5 = .ok (.bipush 100, 2) := by decide +kernel
theorem d_Tx_init_7 : decode prog_11_method_1_code 7 = .ok (.newarray .char, 2) := by decide +kernel
theorem d_Tx_init_9 : decode prog_11_method_1_code 9 = .ok (.putfield 9, 3) := by decide +kernel
theorem d_Tx_init_12 : decode prog_11_method_1_code 12 = .ok (.return_, 1) := by decide +kernel
theorem d_Tr_init_0 : decode prog_12_method_1_code 0 = .ok (.aload_n 0, 1) := by decide +kernel
theorem d_Tr_init_1 : decode prog_12_method_1_code 1 = .ok (.invokespecial 3, 3) := by decide +kernel
theorem d_Tr_init_4 : decode prog_12_method_1_code 4 = .ok (.aload_n 0, 1) := by decide +kernel
theorem d_Tr_init_5 : decode prog_12_method_1_code 5 = .ok (.bipush 34, 2) := by decide +kernel
theorem d_Tr_init_7 : decode prog_12_method_1_code 7 = .ok (.anewarray 9, 3) := by decide +kernel
theorem d_Tr_init_10 : decode prog_12_method_1_code 10 = .ok (.putfield 11, 3) := by decide +kernel
theorem d_Tr_init_13 : decode prog_12_method_1_code 13 = .ok (.aload_n 0, 1) := by decide +kernel
theorem d_Tr_init_14 : decode prog_12_method_1_code 14 = .ok (.bipush 33, 2) := by decide +kernel
theorem d_Tr_init_16 : decode prog_12_method_1_code 16 = .ok (.newarray .int, 2) := by decide +kernel
theorem d_Tr_init_18 : decode prog_12_method_1_code 18 = .ok (.putfield 17, 3) := by decide +kernel
theorem d_Tr_init_21 : decode prog_12_method_1_code 21 = .ok (.aload_n 0, 1) := by decide +kernel
theorem d_Tr_init_22 : decode prog_12_method_1_code 22 = .ok (.bipush 33, 2) := by decide +kernel
theorem d_Tr_init_24 : decode prog_12_method_1_code 24 = .ok (.newarray .int, 2) := by decide +kernel
theorem d_Tr_init_26 : decode prog_12_method_1_code 26 = .ok (.putfield 21, 3) := by decide +kernel
theorem d_Tr_init_29 : decode prog_12_method_1_code 29 = .ok (.aload_n 0, 1) := by decide +kernel
theorem d_Tr_init_30 : decode prog_12_method_1_code 30 = .ok (.bipush 33, 2) := by decide +kernel
theorem d_Tr_init_32 : decode prog_12_method_1_code 32 = .ok (.newarray .int, 2) := by decide +kernel
theorem d_Tr_init_34 : decode prog_12_method_1_code 34 = .ok (.putfield 24, 3) := by decide +kernel
theorem d_Tr_init_37 : decode prog_12_method_1_code 37 = .ok (.aload_n 0, 1) := by decide +kernel
theorem d_Tr_init_38 : decode prog_12_method_1_code 38 = .ok (.aload_n 1, 1) := by decide +kernel
theorem d_Tr_init_39 : decode prog_12_method_1_code 39 = .ok (.putfield 27, 3) := by decide +kernel
theorem d_Tr_init_42 : decode prog_12_method_1_code 42 = .ok (.iconst 0, 1) := by decide +kernel
theorem d_Tr_init_43 : decode prog_12_method_1_code 43 = .ok (.istore_n 2, 1) := by decide +kernel
theorem d_Tr_init_44 : decode prog_12_method_1_code 44 = .ok (.iload_n 2, 1) := by decide +kernel
theorem d_Tr_init_45 : decode prog_12_method_1_code 45 = .ok (.aload_n 0, 1) := by decide +kernel
theorem d_Tr_init_46 : decode prog_12_method_1_code 46 = .ok (.getfield 11, 3) := by decide +kernel
theorem d_Tr_init_49 : decode prog_12_method_1_code 49 = .ok (.arraylength, 1) := by decide +kernel
theorem d_Tr_init_50 : decode prog_12_method_1_code 50 = .ok (.if_icmp .ge 22, 3) := by decide +kernel
theorem d_Tr_init_53 : decode prog_12_method_1_code 53 = .ok (.aload_n 0, 1) := by decide +kernel
theorem d_Tr_init_54 : decode prog_12_method_1_code 54 = .ok (.getfield 11, 3) := by decide +kernel
theorem d_Tr_init_57 : decode prog_12_method_1_code 57 = .ok (.iload_n 2, 1) := by decide +kernel
theorem d_Tr_init_58 : decode prog_12_method_1_code 58 = .ok (.new 9, 3) := by decide +kernel
theorem d_Tr_init_61 : decode prog_12_method_1_code 61 = .ok (.dup, 1) := by decide +kernel
theorem d_Tr_init_62 : decode prog_12_method_1_code 62 = .ok (.invokespecial 31, 3) := by decide +kernel
theorem d_Tr_init_65 : decode prog_12_method_1_code 65 = .ok (.aastore, 1) := by decide +kernel
theorem d_Tr_init_66 : decode prog_12_method_1_code 66 = .ok (.iinc 2 1, 3) := by decide +kernel
theorem d_Tr_init_69 : decode prog_12_method_1_code 69 = .ok (.goto (-25), 3) := by decide +kernel
theorem d_Tr_init_72 : decode prog_12_method_1_code 72 = .ok (.return_, 1) := by decide +kernel
theorem d_Mr_readInto_0 : decode prog_9_method_2_code 0 = .ok (.aload_n 0, 1) := by decide +kernel
theorem d_Mr_readInto_1 : decode prog_9_method_2_code 1 = .ok (.aload_n 1, 1) := by decide +kernel
theorem d_Mr_readInto_2 : decode prog_9_method_2_code 2 = .ok (.putfield 12, 3) := by decide +kernel
theorem d_Mr_readInto_5 : decode prog_9_method_2_code 5 = .ok (.aload_n 0, 1) := by decide +kernel
theorem d_Mr_readInto_6 : decode prog_9_method_2_code 6 = .ok (.getfield 12, 3) := by decide +kernel
theorem d_Mr_readInto_9 : decode prog_9_method_2_code 9 = .ok (.invokevirtual 22, 3) := by decide +kernel
theorem d_Mr_readInto_12 : decode prog_9_method_2_code 12 = .ok (.aload_n 0, 1) := by decide +kernel
theorem d_Mr_readInto_13 : decode prog_9_method_2_code 13 = .ok (.iconst 0, 1) := by decide +kernel
theorem d_Mr_readInto_14 : decode prog_9_method_2_code 14 = .ok (.putfield 25, 3) := by decide +kernel
theorem d_Mr_readInto_17 : decode prog_9_method_2_code 17 = .ok (.aload_n 0, 1) := by decide +kernel
theorem d_Mr_readInto_18 : decode prog_9_method_2_code 18 = .ok (.getfield 12, 3) := by decide +kernel
theorem d_Mr_readInto_21 : decode prog_9_method_2_code 21 = .ok (.aload_n 0, 1) := by decide +kernel
theorem d_Mr_readInto_22 : decode prog_9_method_2_code 22 = .ok (.bipush 35, 2) := by decide +kernel
theorem d_Mr_readInto_24 : decode prog_9_method_2_code 24 = .ok (.invokevirtual 29, 3) := by decide +kernel
theorem d_Mr_readInto_27 : decode prog_9_method_2_code 27 = .ok (.putfield 33, 3) := by decide +kernel
theorem d_Mr_readInto_30 : decode prog_9_method_2_code 30 = .ok (.aload_n 0, 1) := by decide +kernel
theorem d_Mr_readInto_31 : decode prog_9_method_2_code 31 = .ok (.getfield 25, 3) := by decide +kernel
theorem d_Mr_readInto_34 : decode prog_9_method_2_code 34 = .ok (.aload_n 0, 1) := by decide +kernel
theorem d_Mr_readInto_35 : decode prog_9_method_2_code 35 = .ok (.getfield 18, 3) := by decide +kernel
theorem d_Mr_readInto_38 : decode prog_9_method_2_code 38 = .ok (.getfield 37, 3) := by decide +kernel
theorem d_Mr_readInto_41 : decode prog_9_method_2_code 41 = .ok (.if_icmp .ne 15, 3) := by decide +kernel
theorem d_Mr_readInto_44 : decode prog_9_method_2_code 44 = .ok (.aload_n 0, 1) := by decide +kernel
theorem d_Mr_readInto_45 : decode prog_9_method_2_code 45 = .ok (.getfield 12, 3) := by decide +kernel
theorem d_Mr_readInto_48 : decode prog_9_method_2_code 48 = .ok (.iconst 0, 1) := by decide +kernel
theorem d_Mr_readInto_49 : decode prog_9_method_2_code 49 = .ok (.iconst 0, 1) := by decide +kernel
theorem d_Mr_readInto_50 : decode prog_9_method_2_code 50 = .ok (.iconst 1, 1) := by decide +kernel
theorem d_Mr_readInto_51 : decode prog_9_method_2_code 51 = .ok (.invokevirtual 42, 3) := by decide +kernel
theorem d_Mr_readInto_54 : decode prog_9_method_2_code 54 = .ok (.iconst 0, 1) := by decide +kernel
theorem d_Mr_readInto_55 : decode prog_9_method_2_code 55 = .ok (.ireturn, 1) := by decide +kernel
theorem d_Mr_readInto_56 : decode prog_9_method_2_code 56 = .ok (.aload_n 0, 1) := by decide +kernel
theorem d_Mr_readInto_57 : decode prog_9_method_2_code 57 = .ok (.iconst 0, 1) := by decide +kernel
theorem d_Mr_readInto_58 : decode prog_9_method_2_code 58 = .ok (.invokevirtual 46, 3) := by decide +kernel
theorem d_Mr_readInto_61 : decode prog_9_method_2_code 61 = .ok (.ifCond .eq 17, 3) := by decide +kernel
theorem d_Mr_readInto_64 : decode prog_9_method_2_code 64 = .ok (.aload_n 0, 1) := by decide +kernel
theorem d_Mr_readInto_65 : decode prog_9_method_2_code 65 = .ok (.getfield 25, 3) := by decide +kernel
theorem d_Mr_readInto_68 : decode prog_9_method_2_code 68 = .ok (.aload_n 0, 1) := by decide +kernel
theorem d_Mr_readInto_69 : decode prog_9_method_2_code 69 = .ok (.getfield 18, 3) := by decide +kernel
theorem d_Mr_readInto_72 : decode prog_9_method_2_code 72 = .ok (.getfield 37, 3) := by decide +kernel
theorem d_Mr_readInto_75 : decode prog_9_method_2_code 75 = .ok (.if_icmp .eq 5, 3) := by decide +kernel
theorem d_Mr_readInto_78 : decode prog_9_method_2_code 78 = .ok (.iconst (-1), 1) := by decide +kernel
theorem d_Mr_readInto_79 : decode prog_9_method_2_code 79 = .ok (.ireturn, 1) := by decide +kernel
theorem d_Mr_readInto_80 : decode prog_9_method_2_code 80 = .ok (.aload_n 0, 1) := by decide +kernel
theorem d_Mr_readInto_81 : decode prog_9_method_2_code 81 = .ok (.getfield 12, 3) := by decide +kernel
theorem d_Mr_readInto_84 : decode prog_9_method_2_code 84 = .ok (.aload_n 0, 1) := by decide +kernel
theorem d_Mr_readInto_85 : decode prog_9_method_2_code 85 = .ok (.getfield 50, 3) := by decide +kernel
theorem d_Mr_readInto_88 : decode prog_9_method_2_code 88 = .ok (.aload_n 0, 1) := by decide +kernel
theorem d_Mr_readInto_89 : decode prog_9_method_2_code 89 = .ok (.getfield 53, 3) := by decide +kernel
theorem d_Mr_readInto_92 : decode prog_9_method_2_code 92 = .ok (.aload_n 0, 1) := by decide +kernel
theorem d_Mr_readInto_93 : decode prog_9_method_2_code 93 = .ok (.getfield 56, 3) := by decide +kernel
theorem d_Mr_readInto_96 : decode prog_9_method_2_code 96 = .ok (.invokevirtual 42, 3) := by decide +kernel
theorem d_Mr_readInto_99 : decode prog_9_method_2_code 99 = .ok (.iconst 0, 1) := by decide +kernel
theorem d_Mr_readInto_100 : decode prog_9_method_2_code 100 = .ok (.ireturn, 1) := by decide +kernel
theorem d_Mo_clear_0 : decode prog_8_method_2_code 0 = .ok (.aload_n 0, 1) := by decide +kernel
theorem d_Mo_clear_1 : decode prog_8_method_2_code 1 = .ok (.iconst 0, 1) := by decide +kernel
theorem d_Mo_clear_2 : decode prog_8_method_2_code 2 = .ok (.putfield 18, 3) := by decide +kernel
theorem d_Mo_clear_5 : decode prog_8_method_2_code 5 = .ok (.aload_n 0, 1) := by decide +kernel
theorem d_Mo_clear_6 : decode prog_8_method_2_code 6 = .ok (.iconst 0, 1) := by decide +kernel
theorem d_Mo_clear_7 : decode prog_8_method_2_code 7 = .ok (.putfield 22, 3) := by decide +kernel
theorem d_Mo_clear_10 : decode prog_8_method_2_code 10 = .ok (.aload_n 0, 1) := by decide +kernel
theorem d_Mo_clear_11 : decode prog_8_method_2_code 11 = .ok (.iconst 0, 1) := by decide +kernel
theorem d_Mo_clear_12 : decode prog_8_method_2_code 12 = .ok (.putfield 25, 3) := by decide +kernel
theorem d_Mo_clear_15 : decode prog_8_method_2_code 15 = .ok (.aload_n 0, 1) := by decide +kernel
theorem d_Mo_clear_16 : decode prog_8_method_2_code 16 = .ok (.iconst 0, 1) := by decide +kernel
theorem d_Mo_clear_17 : decode prog_8_method_2_code 17 = .ok (.putfield 29, 3) := by decide +kernel
theorem d_Mo_clear_20 : decode prog_8_method_2_code 20 = .ok (.iconst 0, 1) := by decide +kernel
theorem d_Mo_clear_21 : decode prog_8_method_2_code 21 = .ok (.istore_n 1, 1) := by decide +kernel
theorem d_Mo_clear_22 : decode prog_8_method_2_code 22 = .ok (.iload_n 1, 1) := by decide +kernel
theorem d_Mo_clear_23 : decode prog_8_method_2_code 23 = .ok (.aload_n 0, 1) := by decide +kernel
theorem d_Mo_clear_24 : decode prog_8_method_2_code 24 = .ok (.getfield 9, 3) := by decide +kernel
theorem d_Mo_clear_27 : decode prog_8_method_2_code 27 = .ok (.arraylength, 1) := by decide +kernel
theorem d_Mo_clear_28 : decode prog_8_method_2_code 28 = .ok (.if_icmp .ge 16, 3) := by decide +kernel
theorem d_Mo_clear_31 : decode prog_8_method_2_code 31 = .ok (.aload_n 0, 1) := by decide +kernel
theorem d_Mo_clear_32 : decode prog_8_method_2_code 32 = .ok (.getfield 9, 3) := by decide +kernel
theorem d_Mo_clear_35 : decode prog_8_method_2_code 35 = .ok (.iload_n 1, 1) := by decide +kernel
theorem d_Mo_clear_36 : decode prog_8_method_2_code 36 = .ok (.iconst 0, 1) := by decide +kernel
theorem d_Mo_clear_37 : decode prog_8_method_2_code 37 = .ok (.iastore, 1) := by decide +kernel
theorem d_Mo_clear_38 : decode prog_8_method_2_code 38 = .ok (.iinc 1 1, 3) := by decide +kernel
theorem d_Mo_clear_41 : decode prog_8_method_2_code 41 = .ok (.goto (-19), 3) := by decide +kernel
theorem d_Mo_clear_44 : decode prog_8_method_2_code 44 = .ok (.iconst 0, 1) := by decide +kernel
theorem d_Mo_clear_45 : decode prog_8_method_2_code 45 = .ok (.istore_n 1, 1) := by decide +kernel
theorem d_Mo_clear_46 : decode prog_8_method_2_code 46 = .ok (.iload_n 1, 1) := by decide +kernel
theorem d_Mo_clear_47 : decode prog_8_method_2_code 47 = .ok (.aload_n 0, 1) := by decide +kernel
theorem d_Mo_clear_48 : decode prog_8_method_2_code 48 = .ok (.getfield 15, 3) := by decide +kernel
theorem d_Mo_clear_51 : decode prog_8_method_2_code 51 = .ok (.arraylength, 1) := by decide +kernel
theorem d_Mo_clear_52 : decode prog_8_method_2_code 52 = .ok (.if_icmp .ge 16, 3) := by decide +kernel
theorem d_Mo_clear_55 : decode prog_8_method_2_code 55 = .ok (.aload_n 0, 1) := by decide +kernel
theorem d_Mo_clear_56 : decode prog_8_method_2_code 56 = .ok (.getfield 15, 3) := by decide +kernel
theorem d_Mo_clear_59 : decode prog_8_method_2_code 59 = .ok (.iload_n 1, 1) := by decide +kernel
theorem d_Mo_clear_60 : decode prog_8_method_2_code 60 = .ok (.iconst 0, 1) := by decide +kernel
theorem d_Mo_clear_61 : decode prog_8_method_2_code 61 = .ok (.iastore, 1) := by decide +kernel
theorem d_Mo_clear_62 : decode prog_8_method_2_code 62 = .ok (.iinc 1 1, 3) := by decide +kernel
theorem d_Mo_clear_65 : decode prog_8_method_2_code 65 = .ok (.goto (-19), 3) := by decide +kernel
theorem d_Mo_clear_68 : decode prog_8_method_2_code 68 = .ok (.return_, 1) := by decide +kernel
theorem d_Mr_takes_0 : decode prog_9_method_8_code 0 = .ok (.aload_n 0, 1) := by decide +kernel
theorem d_Mr_takes_1 : decode prog_9_method_8_code 1 = .ok (.getfield 18, 3) := by decide +kernel
theorem d_Mr_takes_4 : decode prog_9_method_8_code 4 = .ok (.aload_n 0, 1) := by decide +kernel
theorem d_Mr_takes_5 : decode prog_9_method_8_code 5 = .ok (.getfield 25, 3) := by decide +kernel
theorem d_Mr_takes_8 : decode prog_9_method_8_code 8 = .ok (.invokevirtual 76, 3) := by decide +kernel
theorem d_Mr_takes_11 : decode prog_9_method_8_code 11 = .ok (.iload_n 1, 1) := by decide +kernel
theorem d_Mr_takes_12 : decode prog_9_method_8_code 12 = .ok (.if_icmp .eq 5, 3) := by decide +kernel
theorem d_Mr_takes_15 : decode prog_9_method_8_code 15 = .ok (.iconst 0, 1) := by decide +kernel
theorem d_Mr_takes_16 : decode prog_9_method_8_code 16 = .ok (.ireturn, 1) := by decide +kernel
theorem d_Mr_takes_17 : decode prog_9_method_8_code 17 = .ok (.aload_n 0, 1) := by decide +kernel
theorem d_Mr_takes_18 : decode prog_9_method_8_code 18 = .ok (.dup, 1) := by decide +kernel
theorem d_Mr_takes_19 : decode prog_9_method_8_code 19 = .ok (.getfield 25, 3) := by decide +kernel
theorem d_Mr_takes_22 : decode prog_9_method_8_code 22 = .ok (.iconst 1, 1) := by decide +kernel
theorem d_Mr_takes_23 : decode prog_9_method_8_code 23 = .ok (.iadd, 1) := by decide +kernel
theorem d_Mr_takes_24 : decode prog_9_method_8_code 24 = .ok (.putfield 25, 3) := by decide +kernel
theorem d_Mr_takes_27 : decode prog_9_method_8_code 27 = .ok (.iconst 1, 1) := by decide +kernel
theorem d_Mr_takes_28 : decode prog_9_method_8_code 28 = .ok (.ireturn, 1) := by decide +kernel
theorem d_Mo_complete_0 : decode prog_8_method_5_code 0 = .ok (.aload_n 0, 1) := by decide +kernel
theorem d_Mo_complete_1 : decode prog_8_method_5_code 1 = .ok (.getfield 9, 3) := by decide +kernel
theorem d_Mo_complete_4 : decode prog_8_method_5_code 4 = .ok (.bipush 10, 2) := by decide +kernel
theorem d_Mo_complete_6 : decode prog_8_method_5_code 6 = .ok (.iload_n 1, 1) := by decide +kernel
theorem d_Mo_complete_7 : decode prog_8_method_5_code 7 = .ok (.iastore, 1) := by decide +kernel
theorem d_Mo_complete_8 : decode prog_8_method_5_code 8 = .ok (.aload_n 0, 1) := by decide +kernel
theorem d_Mo_complete_9 : decode prog_8_method_5_code 9 = .ok (.iload_n 3, 1) := by decide +kernel
theorem d_Mo_complete_10 : decode prog_8_method_5_code 10 = .ok (.ifCond .eq 12, 3) := by decide +kernel
theorem d_Mo_complete_13 : decode prog_8_method_5_code 13 = .ok (.iload_n 2, 1) := by decide +kernel
theorem d_Mo_complete_14 : decode prog_8_method_5_code 14 = .ok (.aload_n 0, 1) := by decide +kernel
theorem d_Mo_complete_15 : decode prog_8_method_5_code 15 = .ok (.invokevirtual 36, 3) := by decide +kernel
theorem d_Mo_complete_18 : decode prog_8_method_5_code 18 = .ok (.ior, 1) := by decide +kernel
theorem d_Mo_complete_19 : decode prog_8_method_5_code 19 = .ok (.goto 4, 3) := by decide +kernel
theorem d_Mo_complete_22 : decode prog_8_method_5_code 22 = .ok (.iload_n 2, 1) := by decide +kernel
theorem d_Mo_complete_23 : decode prog_8_method_5_code 23 = .ok (.putfield 29, 3) := by decide +kernel
theorem d_Mo_complete_26 : decode prog_8_method_5_code 26 = .ok (.aload_n 0, 1) := by decide +kernel
theorem d_Mo_complete_27 : decode prog_8_method_5_code 27 = .ok (.iconst 1, 1) := by decide +kernel
theorem d_Mo_complete_28 : decode prog_8_method_5_code 28 = .ok (.putfield 18, 3) := by decide +kernel
theorem d_Mo_complete_31 : decode prog_8_method_5_code 31 = .ok (.return_, 1) := by decide +kernel
theorem d_Mo_start_0 : decode prog_8_method_7_code 0 = .ok (.sipush 1024, 3) := by decide +kernel
theorem d_Mo_start_3 : decode prog_8_method_7_code 3 = .ok (.ireturn, 1) := by decide +kernel
theorem d_Mr_readsExpression_0 : decode prog_9_method_3_code 0 = .ok (.iload_n 1, 1) := by decide +kernel
theorem d_Mr_readsExpression_1 : decode prog_9_method_3_code 1 = .ok (.bipush 6, 2) := by decide +kernel
theorem d_Mr_readsExpression_3 : decode prog_9_method_3_code 3 = .ok (.if_icmp .gt 11, 3) := by decide +kernel
theorem d_Mr_readsExpression_6 : decode prog_9_method_3_code 6 = .ok (.aload_n 0, 1) := by decide +kernel
theorem d_Mr_readsExpression_7 : decode prog_9_method_3_code 7 = .ok (.iload_n 1, 1) := by decide +kernel
theorem d_Mr_readsExpression_8 : decode prog_9_method_3_code 8 = .ok (.invokevirtual 59, 3) := by decide +kernel
theorem d_Mr_readsExpression_11 : decode prog_9_method_3_code 11 = .ok (.ifCond .ne 5, 3) := by decide +kernel
theorem d_Mr_readsExpression_14 : decode prog_9_method_3_code 14 = .ok (.iconst 0, 1) := by decide +kernel
theorem d_Mr_readsExpression_15 : decode prog_9_method_3_code 15 = .ok (.ireturn, 1) := by decide +kernel
theorem d_Mr_readsExpression_16 : decode prog_9_method_3_code 16 = .ok (.iconst 0, 1) := by decide +kernel
theorem d_Mr_readsExpression_17 : decode prog_9_method_3_code 17 = .ok (.istore_n 2, 1) := by decide +kernel
theorem d_Mr_readsExpression_18 : decode prog_9_method_3_code 18 = .ok (.iload_n 2, 1) := by decide +kernel
theorem d_Mr_readsExpression_19 : decode prog_9_method_3_code 19 = .ok (.bipush 40, 2) := by decide +kernel
theorem d_Mr_readsExpression_21 : decode prog_9_method_3_code 21 = .ok (.if_icmp .ge 87, 3) := by decide +kernel
theorem d_Mr_readsExpression_24 : decode prog_9_method_3_code 24 = .ok (.aload_n 0, 1) := by decide +kernel
theorem d_Mr_readsExpression_25 : decode prog_9_method_3_code 25 = .ok (.bipush 124, 2) := by decide +kernel
theorem d_Mr_readsExpression_27 : decode prog_9_method_3_code 27 = .ok (.invokevirtual 29, 3) := by decide +kernel
theorem d_Mr_readsExpression_30 : decode prog_9_method_3_code 30 = .ok (.ifCond .eq 78, 3) := by decide +kernel
theorem d_Mr_readsExpression_33 : decode prog_9_method_3_code 33 = .ok (.aload_n 0, 1) := by decide +kernel
theorem d_Mr_readsExpression_34 : decode prog_9_method_3_code 34 = .ok (.getfield 50, 3) := by decide +kernel
theorem d_Mr_readsExpression_37 : decode prog_9_method_3_code 37 = .ok (.istore_n 3, 1) := by decide +kernel
theorem d_Mr_readsExpression_38 : decode prog_9_method_3_code 38 = .ok (.aload_n 0, 1) := by decide +kernel
theorem d_Mr_readsExpression_39 : decode prog_9_method_3_code 39 = .ok (.getfield 53, 3) := by decide +kernel
theorem d_Mr_readsExpression_42 : decode prog_9_method_3_code 42 = .ok (.istore 4, 2) := by decide +kernel
theorem d_Mr_readsExpression_44 : decode prog_9_method_3_code 44 = .ok (.aload_n 0, 1) := by decide +kernel
theorem d_Mr_readsExpression_45 : decode prog_9_method_3_code 45 = .ok (.getfield 56, 3) := by decide +kernel
theorem d_Mr_readsExpression_48 : decode prog_9_method_3_code 48 = .ok (.istore 5, 2) := by decide +kernel
theorem d_Mr_readsExpression_50 : decode prog_9_method_3_code 50 = .ok (.aload_n 0, 1) := by decide +kernel
theorem d_Mr_readsExpression_51 : decode prog_9_method_3_code 51 = .ok (.iload_n 1, 1) := by decide +kernel
theorem d_Mr_readsExpression_52 : decode prog_9_method_3_code 52 = .ok (.invokevirtual 59, 3) := by decide +kernel
theorem d_Mr_readsExpression_55 : decode prog_9_method_3_code 55 = .ok (.ifCond .ne 5, 3) := by decide +kernel
theorem d_Mr_readsExpression_58 : decode prog_9_method_3_code 58 = .ok (.iconst 0, 1) := by decide +kernel
theorem d_Mr_readsExpression_59 : decode prog_9_method_3_code 59 = .ok (.ireturn, 1) := by decide +kernel
theorem d_Mr_readsExpression_60 : decode prog_9_method_3_code 60 = .ok (.aload_n 0, 1) := by decide +kernel
theorem d_Mr_readsExpression_61 : decode prog_9_method_3_code 61 = .ok (.dup, 1) := by decide +kernel
theorem d_Mr_readsExpression_62 : decode prog_9_method_3_code 62 = .ok (.getfield 50, 3) := by decide +kernel
theorem d_Mr_readsExpression_65 : decode prog_9_method_3_code 65 = .ok (.iload_n 3, 1) := by decide +kernel
theorem d_Mr_readsExpression_66 : decode prog_9_method_3_code 66 = .ok (.ior, 1) := by decide +kernel
theorem d_Mr_readsExpression_67 : decode prog_9_method_3_code 67 = .ok (.putfield 50, 3) := by decide +kernel
theorem d_Mr_readsExpression_70 : decode prog_9_method_3_code 70 = .ok (.aload_n 0, 1) := by decide +kernel
theorem d_Mr_readsExpression_71 : decode prog_9_method_3_code 71 = .ok (.dup, 1) := by decide +kernel
theorem d_Mr_readsExpression_72 : decode prog_9_method_3_code 72 = .ok (.getfield 53, 3) := by decide +kernel
theorem d_Mr_readsExpression_75 : decode prog_9_method_3_code 75 = .ok (.iload 4, 2) := by decide +kernel
theorem d_Mr_readsExpression_77 : decode prog_9_method_3_code 77 = .ok (.ior, 1) := by decide +kernel
theorem d_Mr_readsExpression_78 : decode prog_9_method_3_code 78 = .ok (.putfield 53, 3) := by decide +kernel
theorem d_Mr_readsExpression_81 : decode prog_9_method_3_code 81 = .ok (.aload_n 0, 1) := by decide +kernel
theorem d_Mr_readsExpression_82 : decode prog_9_method_3_code 82 = .ok (.aload_n 0, 1) := by decide +kernel
theorem d_Mr_readsExpression_83 : decode prog_9_method_3_code 83 = .ok (.getfield 56, 3) := by decide +kernel
theorem d_Mr_readsExpression_86 : decode prog_9_method_3_code 86 = .ok (.ifCond .ne 8, 3) := by decide +kernel
theorem d_Mr_readsExpression_89 : decode prog_9_method_3_code 89 = .ok (.iload 5, 2) := by decide +kernel
theorem d_Mr_readsExpression_91 : decode prog_9_method_3_code 91 = .ok (.ifCond .eq 7, 3) := by decide +kernel
theorem d_Mr_readsExpression_94 : decode prog_9_method_3_code 94 = .ok (.iconst 1, 1) := by decide +kernel
theorem d_Mr_readsExpression_95 : decode prog_9_method_3_code 95 = .ok (.goto 4, 3) := by decide +kernel
theorem d_Mr_readsExpression_98 : decode prog_9_method_3_code 98 = .ok (.iconst 0, 1) := by decide +kernel
theorem d_Mr_readsExpression_99 : decode prog_9_method_3_code 99 = .ok (.putfield 56, 3) := by decide +kernel
theorem d_Mr_readsExpression_102 : decode prog_9_method_3_code 102 = .ok (.iinc 2 1, 3) := by decide +kernel
theorem d_Mr_readsExpression_105 : decode prog_9_method_3_code 105 = .ok (.goto (-87), 3) := by decide +kernel
theorem d_Mr_readsExpression_108 : decode prog_9_method_3_code 108 = .ok (.iconst 1, 1) := by decide +kernel
theorem d_Mr_readsExpression_109 : decode prog_9_method_3_code 109 = .ok (.ireturn, 1) := by decide +kernel
theorem d_Mr_readsSequence_0 : decode prog_9_method_4_code 0 = .ok (.aload_n 0, 1) := by decide +kernel
theorem d_Mr_readsSequence_1 : decode prog_9_method_4_code 1 = .ok (.iload_n 1, 1) := by decide +kernel
theorem d_Mr_readsSequence_2 : decode prog_9_method_4_code 2 = .ok (.invokevirtual 62, 3) := by decide +kernel
theorem d_Mr_readsSequence_5 : decode prog_9_method_4_code 5 = .ok (.ifCond .ne 5, 3) := by decide +kernel
theorem d_Mr_readsSequence_8 : decode prog_9_method_4_code 8 = .ok (.iconst 0, 1) := by decide +kernel
theorem d_Mr_readsSequence_9 : decode prog_9_method_4_code 9 = .ok (.ireturn, 1) := by decide +kernel
theorem d_Mr_readsSequence_10 : decode prog_9_method_4_code 10 = .ok (.iconst 0, 1) := by decide +kernel
theorem d_Mr_readsSequence_11 : decode prog_9_method_4_code 11 = .ok (.istore_n 2, 1) := by decide +kernel
theorem d_Mr_readsSequence_12 : decode prog_9_method_4_code 12 = .ok (.iload_n 2, 1) := by decide +kernel
theorem d_Mr_readsSequence_13 : decode prog_9_method_4_code 13 = .ok (.bipush 40, 2) := by decide +kernel
theorem d_Mr_readsSequence_15 : decode prog_9_method_4_code 15 = .ok (.if_icmp .ge 123, 3) := by decide +kernel
theorem d_Mr_readsSequence_18 : decode prog_9_method_4_code 18 = .ok (.aload_n 0, 1) := by decide +kernel
theorem d_Mr_readsSequence_19 : decode prog_9_method_4_code 19 = .ok (.bipush 44, 2) := by decide +kernel
theorem d_Mr_readsSequence_21 : decode prog_9_method_4_code 21 = .ok (.invokevirtual 29, 3) := by decide +kernel
theorem d_Mr_readsSequence_24 : decode prog_9_method_4_code 24 = .ok (.ifCond .eq 114, 3) := by decide +kernel
theorem d_Mr_readsSequence_27 : decode prog_9_method_4_code 27 = .ok (.aload_n 0, 1) := by decide +kernel
theorem d_Mr_readsSequence_28 : decode prog_9_method_4_code 28 = .ok (.getfield 50, 3) := by decide +kernel
theorem d_Mr_readsSequence_31 : decode prog_9_method_4_code 31 = .ok (.istore_n 3, 1) := by decide +kernel
theorem d_Mr_readsSequence_32 : decode prog_9_method_4_code 32 = .ok (.aload_n 0, 1) := by decide +kernel
theorem d_Mr_readsSequence_33 : decode prog_9_method_4_code 33 = .ok (.getfield 53, 3) := by decide +kernel
theorem d_Mr_readsSequence_36 : decode prog_9_method_4_code 36 = .ok (.istore 4, 2) := by decide +kernel
theorem d_Mr_readsSequence_38 : decode prog_9_method_4_code 38 = .ok (.aload_n 0, 1) := by decide +kernel
theorem d_Mr_readsSequence_39 : decode prog_9_method_4_code 39 = .ok (.getfield 56, 3) := by decide +kernel
theorem d_Mr_readsSequence_42 : decode prog_9_method_4_code 42 = .ok (.istore 5, 2) := by decide +kernel
theorem d_Mr_readsSequence_44 : decode prog_9_method_4_code 44 = .ok (.aload_n 0, 1) := by decide +kernel
theorem d_Mr_readsSequence_45 : decode prog_9_method_4_code 45 = .ok (.iload_n 1, 1) := by decide +kernel
theorem d_Mr_readsSequence_46 : decode prog_9_method_4_code 46 = .ok (.invokevirtual 62, 3) := by decide +kernel
theorem d_Mr_readsSequence_49 : decode prog_9_method_4_code 49 = .ok (.ifCond .ne 5, 3) := by decide +kernel
theorem d_Mr_readsSequence_52 : decode prog_9_method_4_code 52 = .ok (.iconst 0, 1) := by decide +kernel
theorem d_Mr_readsSequence_53 : decode prog_9_method_4_code 53 = .ok (.ireturn, 1) := by decide +kernel
theorem d_Mr_readsSequence_54 : decode prog_9_method_4_code 54 = .ok (.aload_n 0, 1) := by decide +kernel
theorem d_Mr_readsSequence_55 : decode prog_9_method_4_code 55 = .ok (.getfield 12, 3) := by decide +kernel
theorem d_Mr_readsSequence_58 : decode prog_9_method_4_code 58 = .ok (.iload 4, 2) := by decide +kernel
theorem d_Mr_readsSequence_60 : decode prog_9_method_4_code 60 = .ok (.aload_n 0, 1) := by decide +kernel
theorem d_Mr_readsSequence_61 : decode prog_9_method_4_code 61 = .ok (.getfield 50, 3) := by decide +kernel
theorem d_Mr_readsSequence_64 : decode prog_9_method_4_code 64 = .ok (.invokevirtual 65, 3) := by decide +kernel
theorem d_Mr_readsSequence_67 : decode prog_9_method_4_code 67 = .ok (.aload_n 0, 1) := by decide +kernel
theorem d_Mr_readsSequence_68 : decode prog_9_method_4_code 68 = .ok (.iload 5, 2) := by decide +kernel
theorem d_Mr_readsSequence_70 : decode prog_9_method_4_code 70 = .ok (.ifCond .eq 12, 3) := by decide +kernel
theorem d_Mr_readsSequence_73 : decode prog_9_method_4_code 73 = .ok (.iload_n 3, 1) := by decide +kernel
theorem d_Mr_readsSequence_74 : decode prog_9_method_4_code 74 = .ok (.aload_n 0, 1) := by decide +kernel
theorem d_Mr_readsSequence_75 : decode prog_9_method_4_code 75 = .ok (.getfield 50, 3) := by decide +kernel
theorem d_Mr_readsSequence_78 : decode prog_9_method_4_code 78 = .ok (.ior, 1) := by decide +kernel
theorem d_Mr_readsSequence_79 : decode prog_9_method_4_code 79 = .ok (.goto 4, 3) := by decide +kernel
theorem d_Mr_readsSequence_82 : decode prog_9_method_4_code 82 = .ok (.iload_n 3, 1) := by decide +kernel
theorem d_Mr_readsSequence_83 : decode prog_9_method_4_code 83 = .ok (.putfield 50, 3) := by decide +kernel
theorem d_Mr_readsSequence_86 : decode prog_9_method_4_code 86 = .ok (.aload_n 0, 1) := by decide +kernel
theorem d_Mr_readsSequence_87 : decode prog_9_method_4_code 87 = .ok (.aload_n 0, 1) := by decide +kernel
theorem d_Mr_readsSequence_88 : decode prog_9_method_4_code 88 = .ok (.getfield 56, 3) := by decide +kernel
theorem d_Mr_readsSequence_91 : decode prog_9_method_4_code 91 = .ok (.ifCond .eq 13, 3) := by decide +kernel
theorem d_Mr_readsSequence_94 : decode prog_9_method_4_code 94 = .ok (.iload 4, 2) := by decide +kernel
theorem d_Mr_readsSequence_96 : decode prog_9_method_4_code 96 = .ok (.aload_n 0, 1) := by decide +kernel
theorem d_Mr_readsSequence_97 : decode prog_9_method_4_code 97 = .ok (.getfield 53, 3) := by decide +kernel
theorem d_Mr_readsSequence_100 : decode prog_9_method_4_code 100 = .ok (.ior, 1) := by decide +kernel
theorem d_Mr_readsSequence_101 : decode prog_9_method_4_code 101 = .ok (.goto 7, 3) := by decide +kernel
theorem d_Mr_readsSequence_104 : decode prog_9_method_4_code 104 = .ok (.aload_n 0, 1) := by decide +kernel
theorem d_Mr_readsSequence_105 : decode prog_9_method_4_code 105 = .ok (.getfield 53, 3) := by decide +kernel
theorem d_Mr_readsSequence_108 : decode prog_9_method_4_code 108 = .ok (.putfield 53, 3) := by decide +kernel
theorem d_Mr_readsSequence_111 : decode prog_9_method_4_code 111 = .ok (.aload_n 0, 1) := by decide +kernel
theorem d_Mr_readsSequence_112 : decode prog_9_method_4_code 112 = .ok (.aload_n 0, 1) := by decide +kernel
theorem d_Mr_readsSequence_113 : decode prog_9_method_4_code 113 = .ok (.getfield 56, 3) := by decide +kernel
theorem d_Mr_readsSequence_116 : decode prog_9_method_4_code 116 = .ok (.ifCond .eq 12, 3) := by decide +kernel
theorem d_Mr_readsSequence_119 : decode prog_9_method_4_code 119 = .ok (.iload 5, 2) := by decide +kernel
theorem d_Mr_readsSequence_121 : decode prog_9_method_4_code 121 = .ok (.ifCond .eq 7, 3) := by decide +kernel
theorem d_Mr_readsSequence_124 : decode prog_9_method_4_code 124 = .ok (.iconst 1, 1) := by decide +kernel
theorem d_Mr_readsSequence_125 : decode prog_9_method_4_code 125 = .ok (.goto 4, 3) := by decide +kernel
theorem d_Mr_readsSequence_128 : decode prog_9_method_4_code 128 = .ok (.iconst 0, 1) := by decide +kernel
theorem d_Mr_readsSequence_129 : decode prog_9_method_4_code 129 = .ok (.putfield 56, 3) := by decide +kernel
theorem d_Mr_readsSequence_132 : decode prog_9_method_4_code 132 = .ok (.iinc 2 1, 3) := by decide +kernel
theorem d_Mr_readsSequence_135 : decode prog_9_method_4_code 135 = .ok (.goto (-123), 3) := by decide +kernel
theorem d_Mr_readsSequence_138 : decode prog_9_method_4_code 138 = .ok (.iconst 1, 1) := by decide +kernel
theorem d_Mr_readsSequence_139 : decode prog_9_method_4_code 139 = .ok (.ireturn, 1) := by decide +kernel
theorem d_Mr_readsItem_0 : decode prog_9_method_5_code 0 = .ok (.aload_n 0, 1) := by decide +kernel
theorem d_Mr_readsItem_1 : decode prog_9_method_5_code 1 = .ok (.bipush 40, 2) := by decide +kernel
theorem d_Mr_readsItem_3 : decode prog_9_method_5_code 3 = .ok (.invokevirtual 29, 3) := by decide +kernel
theorem d_Mr_readsItem_6 : decode prog_9_method_5_code 6 = .ok (.ifCond .eq 24, 3) := by decide +kernel
theorem d_Mr_readsItem_9 : decode prog_9_method_5_code 9 = .ok (.aload_n 0, 1) := by decide +kernel
theorem d_Mr_readsItem_10 : decode prog_9_method_5_code 10 = .ok (.iload_n 1, 1) := by decide +kernel
theorem d_Mr_readsItem_11 : decode prog_9_method_5_code 11 = .ok (.iconst 1, 1) := by decide +kernel
theorem d_Mr_readsItem_12 : decode prog_9_method_5_code 12 = .ok (.iadd, 1) := by decide +kernel
theorem d_Mr_readsItem_13 : decode prog_9_method_5_code 13 = .ok (.invokevirtual 46, 3) := by decide +kernel
theorem d_Mr_readsItem_16 : decode prog_9_method_5_code 16 = .ok (.ifCond .eq 12, 3) := by decide +kernel
theorem d_Mr_readsItem_19 : decode prog_9_method_5_code 19 = .ok (.aload_n 0, 1) := by decide +kernel
theorem d_Mr_readsItem_20 : decode prog_9_method_5_code 20 = .ok (.bipush 41, 2) := by decide +kernel
theorem d_Mr_readsItem_22 : decode prog_9_method_5_code 22 = .ok (.invokevirtual 29, 3) := by decide +kernel
theorem d_Mr_readsItem_25 : decode prog_9_method_5_code 25 = .ok (.ifCond .ne 14, 3) := by decide +kernel
theorem d_Mr_readsItem_28 : decode prog_9_method_5_code 28 = .ok (.iconst 0, 1) := by decide +kernel
theorem d_Mr_readsItem_29 : decode prog_9_method_5_code 29 = .ok (.ireturn, 1) := by decide +kernel
theorem d_Mr_readsItem_30 : decode prog_9_method_5_code 30 = .ok (.aload_n 0, 1) := by decide +kernel
theorem d_Mr_readsItem_31 : decode prog_9_method_5_code 31 = .ok (.invokevirtual 69, 3) := by decide +kernel
theorem d_Mr_readsItem_34 : decode prog_9_method_5_code 34 = .ok (.ifCond .ne 5, 3) := by decide +kernel
theorem d_Mr_readsItem_37 : decode prog_9_method_5_code 37 = .ok (.iconst 0, 1) := by decide +kernel
theorem d_Mr_readsItem_38 : decode prog_9_method_5_code 38 = .ok (.ireturn, 1) := by decide +kernel
theorem d_Mr_readsItem_39 : decode prog_9_method_5_code 39 = .ok (.aload_n 0, 1) := by decide +kernel
theorem d_Mr_readsItem_40 : decode prog_9_method_5_code 40 = .ok (.invokevirtual 73, 3) := by decide +kernel
theorem d_Mr_readsItem_43 : decode prog_9_method_5_code 43 = .ok (.iconst 1, 1) := by decide +kernel
theorem d_Mr_readsItem_44 : decode prog_9_method_5_code 44 = .ok (.ireturn, 1) := by decide +kernel
theorem d_Mr_readsName_0 : decode prog_9_method_6_code 0 = .ok (.aload_n 0, 1) := by decide +kernel
theorem d_Mr_readsName_1 : decode prog_9_method_6_code 1 = .ok (.getfield 12, 3) := by decide +kernel
theorem d_Mr_readsName_4 : decode prog_9_method_6_code 4 = .ok (.aload_n 0, 1) := by decide +kernel
theorem d_Mr_readsName_5 : decode prog_9_method_6_code 5 = .ok (.getfield 18, 3) := by decide +kernel
theorem d_Mr_readsName_8 : decode prog_9_method_6_code 8 = .ok (.aload_n 0, 1) := by decide +kernel
theorem d_Mr_readsName_9 : decode prog_9_method_6_code 9 = .ok (.getfield 25, 3) := by decide +kernel
theorem d_Mr_readsName_12 : decode prog_9_method_6_code 12 = .ok (.invokevirtual 76, 3) := by decide +kernel
theorem d_Mr_readsName_15 : decode prog_9_method_6_code 15 = .ok (.invokevirtual 80, 3) := by decide +kernel
theorem d_Mr_readsName_18 : decode prog_9_method_6_code 18 = .ok (.istore_n 1, 1) := by decide +kernel
theorem d_Mr_readsName_19 : decode prog_9_method_6_code 19 = .ok (.iload_n 1, 1) := by decide +kernel
theorem d_Mr_readsName_20 : decode prog_9_method_6_code 20 = .ok (.ifCond .ne 5, 3) := by decide +kernel
theorem d_Mr_readsName_23 : decode prog_9_method_6_code 23 = .ok (.iconst 0, 1) := by decide +kernel
theorem d_Mr_readsName_24 : decode prog_9_method_6_code 24 = .ok (.ireturn, 1) := by decide +kernel
theorem d_Mr_readsName_25 : decode prog_9_method_6_code 25 = .ok (.aload_n 0, 1) := by decide +kernel
theorem d_Mr_readsName_26 : decode prog_9_method_6_code 26 = .ok (.dup, 1) := by decide +kernel
theorem d_Mr_readsName_27 : decode prog_9_method_6_code 27 = .ok (.getfield 25, 3) := by decide +kernel
theorem d_Mr_readsName_30 : decode prog_9_method_6_code 30 = .ok (.iconst 1, 1) := by decide +kernel
theorem d_Mr_readsName_31 : decode prog_9_method_6_code 31 = .ok (.iadd, 1) := by decide +kernel
theorem d_Mr_readsName_32 : decode prog_9_method_6_code 32 = .ok (.putfield 25, 3) := by decide +kernel
theorem d_Mr_readsName_35 : decode prog_9_method_6_code 35 = .ok (.aload_n 0, 1) := by decide +kernel
theorem d_Mr_readsName_36 : decode prog_9_method_6_code 36 = .ok (.iload_n 1, 1) := by decide +kernel
theorem d_Mr_readsName_37 : decode prog_9_method_6_code 37 = .ok (.putfield 50, 3) := by decide +kernel
theorem d_Mr_readsName_40 : decode prog_9_method_6_code 40 = .ok (.aload_n 0, 1) := by decide +kernel
theorem d_Mr_readsName_41 : decode prog_9_method_6_code 41 = .ok (.iload_n 1, 1) := by decide +kernel
theorem d_Mr_readsName_42 : decode prog_9_method_6_code 42 = .ok (.putfield 53, 3) := by decide +kernel
theorem d_Mr_readsName_45 : decode prog_9_method_6_code 45 = .ok (.aload_n 0, 1) := by decide +kernel
theorem d_Mr_readsName_46 : decode prog_9_method_6_code 46 = .ok (.iconst 0, 1) := by decide +kernel
theorem d_Mr_readsName_47 : decode prog_9_method_6_code 47 = .ok (.putfield 56, 3) := by decide +kernel
theorem d_Mr_readsName_50 : decode prog_9_method_6_code 50 = .ok (.iconst 1, 1) := by decide +kernel
theorem d_Mr_readsName_51 : decode prog_9_method_6_code 51 = .ok (.ireturn, 1) := by decide +kernel
theorem d_Mo_addState_0 : decode prog_8_method_3_code 0 = .ok (.aload_n 0, 1) := by decide +kernel
theorem d_Mo_addState_1 : decode prog_8_method_3_code 1 = .ok (.getfield 25, 3) := by decide +kernel
theorem d_Mo_addState_4 : decode prog_8_method_3_code 4 = .ok (.bipush 10, 2) := by decide +kernel
theorem d_Mo_addState_6 : decode prog_8_method_3_code 6 = .ok (.if_icmp .ge 10, 3) := by decide +kernel
theorem d_Mo_addState_9 : decode prog_8_method_3_code 9 = .ok (.iload_n 1, 1) := by decide +kernel
theorem d_Mo_addState_10 : decode prog_8_method_3_code 10 = .ok (.invokestatic 32, 3) := by decide +kernel
theorem d_Mo_addState_13 : decode prog_8_method_3_code 13 = .ok (.ifCond .ne 5, 3) := by decide +kernel
theorem d_Mo_addState_16 : decode prog_8_method_3_code 16 = .ok (.iconst 0, 1) := by decide +kernel
theorem d_Mo_addState_17 : decode prog_8_method_3_code 17 = .ok (.ireturn, 1) := by decide +kernel
theorem d_Mo_addState_18 : decode prog_8_method_3_code 18 = .ok (.iconst 1, 1) := by decide +kernel
theorem d_Mo_addState_19 : decode prog_8_method_3_code 19 = .ok (.aload_n 0, 1) := by decide +kernel
theorem d_Mo_addState_20 : decode prog_8_method_3_code 20 = .ok (.getfield 25, 3) := by decide +kernel
theorem d_Mo_addState_23 : decode prog_8_method_3_code 23 = .ok (.ishl, 1) := by decide +kernel
theorem d_Mo_addState_24 : decode prog_8_method_3_code 24 = .ok (.istore_n 2, 1) := by decide +kernel
theorem d_Mo_addState_25 : decode prog_8_method_3_code 25 = .ok (.aload_n 0, 1) := by decide +kernel
theorem d_Mo_addState_26 : decode prog_8_method_3_code 26 = .ok (.dup, 1) := by decide +kernel
theorem d_Mo_addState_27 : decode prog_8_method_3_code 27 = .ok (.getfield 25, 3) := by decide +kernel
theorem d_Mo_addState_30 : decode prog_8_method_3_code 30 = .ok (.iconst 1, 1) := by decide +kernel
theorem d_Mo_addState_31 : decode prog_8_method_3_code 31 = .ok (.iadd, 1) := by decide +kernel
theorem d_Mo_addState_32 : decode prog_8_method_3_code 32 = .ok (.putfield 25, 3) := by decide +kernel
theorem d_Mo_addState_35 : decode prog_8_method_3_code 35 = .ok (.aload_n 0, 1) := by decide +kernel
theorem d_Mo_addState_36 : decode prog_8_method_3_code 36 = .ok (.getfield 15, 3) := by decide +kernel
theorem d_Mo_addState_39 : decode prog_8_method_3_code 39 = .ok (.iload_n 1, 1) := by decide +kernel
theorem d_Mo_addState_40 : decode prog_8_method_3_code 40 = .ok (.bipush 97, 2) := by decide +kernel
theorem d_Mo_addState_42 : decode prog_8_method_3_code 42 = .ok (.isub, 1) := by decide +kernel
theorem d_Mo_addState_43 : decode prog_8_method_3_code 43 = .ok (.dup2, 1) := by decide +kernel
theorem d_Mo_addState_44 : decode prog_8_method_3_code 44 = .ok (.iaload, 1) := by decide +kernel
theorem d_Mo_addState_45 : decode prog_8_method_3_code 45 = .ok (.iload_n 2, 1) := by decide +kernel
theorem d_Mo_addState_46 : decode prog_8_method_3_code 46 = .ok (.ior, 1) := by decide +kernel
theorem d_Mo_addState_47 : decode prog_8_method_3_code 47 = .ok (.iastore, 1) := by decide +kernel
theorem d_Mo_addState_48 : decode prog_8_method_3_code 48 = .ok (.iload_n 2, 1) := by decide +kernel
theorem d_Mo_addState_49 : decode prog_8_method_3_code 49 = .ok (.ireturn, 1) := by decide +kernel
theorem d_Mr_readMark_0 : decode prog_9_method_7_code 0 = .ok (.aload_n 0, 1) := by decide +kernel
theorem d_Mr_readMark_1 : decode prog_9_method_7_code 1 = .ok (.bipush 63, 2) := by decide +kernel
theorem d_Mr_readMark_3 : decode prog_9_method_7_code 3 = .ok (.invokevirtual 29, 3) := by decide +kernel
theorem d_Mr_readMark_6 : decode prog_9_method_7_code 6 = .ok (.ifCond .eq 11, 3) := by decide +kernel
theorem d_Mr_readMark_9 : decode prog_9_method_7_code 9 = .ok (.aload_n 0, 1) := by decide +kernel
theorem d_Mr_readMark_10 : decode prog_9_method_7_code 10 = .ok (.iconst 1, 1) := by decide +kernel
theorem d_Mr_readMark_11 : decode prog_9_method_7_code 11 = .ok (.putfield 56, 3) := by decide +kernel
theorem d_Mr_readMark_14 : decode prog_9_method_7_code 14 = .ok (.goto 59, 3) := by decide +kernel
theorem d_Mr_readMark_17 : decode prog_9_method_7_code 17 = .ok (.aload_n 0, 1) := by decide +kernel
theorem d_Mr_readMark_18 : decode prog_9_method_7_code 18 = .ok (.bipush 42, 2) := by decide +kernel
theorem d_Mr_readMark_20 : decode prog_9_method_7_code 20 = .ok (.invokevirtual 29, 3) := by decide +kernel
theorem d_Mr_readMark_23 : decode prog_9_method_7_code 23 = .ok (.ifCond .eq 26, 3) := by decide +kernel
theorem d_Mr_readMark_26 : decode prog_9_method_7_code 26 = .ok (.aload_n 0, 1) := by decide +kernel
theorem d_Mr_readMark_27 : decode prog_9_method_7_code 27 = .ok (.getfield 12, 3) := by decide +kernel
theorem d_Mr_readMark_30 : decode prog_9_method_7_code 30 = .ok (.aload_n 0, 1) := by decide +kernel
theorem d_Mr_readMark_31 : decode prog_9_method_7_code 31 = .ok (.getfield 53, 3) := by decide +kernel
theorem d_Mr_readMark_34 : decode prog_9_method_7_code 34 = .ok (.aload_n 0, 1) := by decide +kernel
theorem d_Mr_readMark_35 : decode prog_9_method_7_code 35 = .ok (.getfield 50, 3) := by decide +kernel
theorem d_Mr_readMark_38 : decode prog_9_method_7_code 38 = .ok (.invokevirtual 65, 3) := by decide +kernel
theorem d_Mr_readMark_41 : decode prog_9_method_7_code 41 = .ok (.aload_n 0, 1) := by decide +kernel
theorem d_Mr_readMark_42 : decode prog_9_method_7_code 42 = .ok (.iconst 1, 1) := by decide +kernel
theorem d_Mr_readMark_43 : decode prog_9_method_7_code 43 = .ok (.putfield 56, 3) := by decide +kernel
theorem d_Mr_readMark_46 : decode prog_9_method_7_code 46 = .ok (.goto 27, 3) := by decide +kernel
theorem d_Mr_readMark_49 : decode prog_9_method_7_code 49 = .ok (.aload_n 0, 1) := by decide +kernel
theorem d_Mr_readMark_50 : decode prog_9_method_7_code 50 = .ok (.bipush 43, 2) := by decide +kernel
theorem d_Mr_readMark_52 : decode prog_9_method_7_code 52 = .ok (.invokevirtual 29, 3) := by decide +kernel
theorem d_Mr_readMark_55 : decode prog_9_method_7_code 55 = .ok (.ifCond .eq 18, 3) := by decide +kernel
theorem d_Mr_readMark_58 : decode prog_9_method_7_code 58 = .ok (.aload_n 0, 1) := by decide +kernel
theorem d_Mr_readMark_59 : decode prog_9_method_7_code 59 = .ok (.getfield 12, 3) := by decide +kernel
theorem d_Mr_readMark_62 : decode prog_9_method_7_code 62 = .ok (.aload_n 0, 1) := by decide +kernel
theorem d_Mr_readMark_63 : decode prog_9_method_7_code 63 = .ok (.getfield 53, 3) := by decide +kernel
theorem d_Mr_readMark_66 : decode prog_9_method_7_code 66 = .ok (.aload_n 0, 1) := by decide +kernel
theorem d_Mr_readMark_67 : decode prog_9_method_7_code 67 = .ok (.getfield 50, 3) := by decide +kernel
theorem d_Mr_readMark_70 : decode prog_9_method_7_code 70 = .ok (.invokevirtual 65, 3) := by decide +kernel
theorem d_Mr_readMark_73 : decode prog_9_method_7_code 73 = .ok (.return_, 1) := by decide +kernel
theorem d_Mo_join_0 : decode prog_8_method_4_code 0 = .ok (.iconst 0, 1) := by decide +kernel
theorem d_Mo_join_1 : decode prog_8_method_4_code 1 = .ok (.istore_n 3, 1) := by decide +kernel
theorem d_Mo_join_2 : decode prog_8_method_4_code 2 = .ok (.iload_n 3, 1) := by decide +kernel
theorem d_Mo_join_3 : decode prog_8_method_4_code 3 = .ok (.aload_n 0, 1) := by decide +kernel
theorem d_Mo_join_4 : decode prog_8_method_4_code 4 = .ok (.getfield 9, 3) := by decide +kernel
theorem d_Mo_join_7 : decode prog_8_method_4_code 7 = .ok (.arraylength, 1) := by decide +kernel
theorem d_Mo_join_8 : decode prog_8_method_4_code 8 = .ok (.if_icmp .ge 27, 3) := by decide +kernel
theorem d_Mo_join_11 : decode prog_8_method_4_code 11 = .ok (.iload_n 1, 1) := by decide +kernel
theorem d_Mo_join_12 : decode prog_8_method_4_code 12 = .ok (.iload_n 3, 1) := by decide +kernel
theorem d_Mo_join_13 : decode prog_8_method_4_code 13 = .ok (.ishr, 1) := by decide +kernel
theorem d_Mo_join_14 : decode prog_8_method_4_code 14 = .ok (.iconst 1, 1) := by decide +kernel
theorem d_Mo_join_15 : decode prog_8_method_4_code 15 = .ok (.iand, 1) := by decide +kernel
theorem d_Mo_join_16 : decode prog_8_method_4_code 16 = .ok (.ifCond .eq 13, 3) := by decide +kernel
theorem d_Mo_join_19 : decode prog_8_method_4_code 19 = .ok (.aload_n 0, 1) := by decide +kernel
theorem d_Mo_join_20 : decode prog_8_method_4_code 20 = .ok (.getfield 9, 3) := by decide +kernel
theorem d_Mo_join_23 : decode prog_8_method_4_code 23 = .ok (.iload_n 3, 1) := by decide +kernel
theorem d_Mo_join_24 : decode prog_8_method_4_code 24 = .ok (.dup2, 1) := by decide +kernel
theorem d_Mo_join_25 : decode prog_8_method_4_code 25 = .ok (.iaload, 1) := by decide +kernel
theorem d_Mo_join_26 : decode prog_8_method_4_code 26 = .ok (.iload_n 2, 1) := by decide +kernel
theorem d_Mo_join_27 : decode prog_8_method_4_code 27 = .ok (.ior, 1) := by decide +kernel
theorem d_Mo_join_28 : decode prog_8_method_4_code 28 = .ok (.iastore, 1) := by decide +kernel
theorem d_Mo_join_29 : decode prog_8_method_4_code 29 = .ok (.iinc 3 1, 3) := by decide +kernel
theorem d_Mo_join_32 : decode prog_8_method_4_code 32 = .ok (.goto (-30), 3) := by decide +kernel
theorem d_Mo_join_35 : decode prog_8_method_4_code 35 = .ok (.return_, 1) := by decide +kernel
theorem d_Ms_useSpareFor_0 : decode prog_10_method_3_code 0 = .ok (.aload_n 0, 1) := by decide +kernel
theorem d_Ms_useSpareFor_1 : decode prog_10_method_3_code 1 = .ok (.getfield 11, 3) := by decide +kernel
theorem d_Ms_useSpareFor_4 : decode prog_10_method_3_code 4 = .ok (.iload_n 1, 1) := by decide +kernel
theorem d_Ms_useSpareFor_5 : decode prog_10_method_3_code 5 = .ok (.invokestatic 22, 3) := by decide +kernel
theorem d_Ms_useSpareFor_8 : decode prog_10_method_3_code 8 = .ok (.aaload, 1) := by decide +kernel
theorem d_Ms_useSpareFor_9 : decode prog_10_method_3_code 9 = .ok (.astore_n 2, 1) := by decide +kernel
theorem d_Ms_useSpareFor_10 : decode prog_10_method_3_code 10 = .ok (.aload_n 0, 1) := by decide +kernel
theorem d_Ms_useSpareFor_11 : decode prog_10_method_3_code 11 = .ok (.getfield 11, 3) := by decide +kernel
theorem d_Ms_useSpareFor_14 : decode prog_10_method_3_code 14 = .ok (.iload_n 1, 1) := by decide +kernel
theorem d_Ms_useSpareFor_15 : decode prog_10_method_3_code 15 = .ok (.invokestatic 22, 3) := by decide +kernel
theorem d_Ms_useSpareFor_18 : decode prog_10_method_3_code 18 = .ok (.aload_n 0, 1) := by decide +kernel
theorem d_Ms_useSpareFor_19 : decode prog_10_method_3_code 19 = .ok (.getfield 18, 3) := by decide +kernel
theorem d_Ms_useSpareFor_22 : decode prog_10_method_3_code 22 = .ok (.aastore, 1) := by decide +kernel
theorem d_Ms_useSpareFor_23 : decode prog_10_method_3_code 23 = .ok (.aload_n 0, 1) := by decide +kernel
theorem d_Ms_useSpareFor_24 : decode prog_10_method_3_code 24 = .ok (.aload_n 2, 1) := by decide +kernel
theorem d_Ms_useSpareFor_25 : decode prog_10_method_3_code 25 = .ok (.putfield 18, 3) := by decide +kernel
theorem d_Ms_useSpareFor_28 : decode prog_10_method_3_code 28 = .ok (.aload_n 0, 1) := by decide +kernel
theorem d_Ms_useSpareFor_29 : decode prog_10_method_3_code 29 = .ok (.invokevirtual 26, 3) := by decide +kernel
theorem d_Ms_useSpareFor_32 : decode prog_10_method_3_code 32 = .ok (.return_, 1) := by decide +kernel
theorem d_Ms_rowOf_0 : decode prog_10_method_7_code 0 = .ok (.iload_n 0, 1) := by decide +kernel
theorem d_Ms_rowOf_1 : decode prog_10_method_7_code 1 = .ok (.bipush 97, 2) := by decide +kernel
theorem d_Ms_rowOf_3 : decode prog_10_method_7_code 3 = .ok (.isub, 1) := by decide +kernel
theorem d_Ms_rowOf_4 : decode prog_10_method_7_code 4 = .ok (.istore_n 1, 1) := by decide +kernel
theorem d_Ms_rowOf_5 : decode prog_10_method_7_code 5 = .ok (.iload_n 1, 1) := by decide +kernel
theorem d_Ms_rowOf_6 : decode prog_10_method_7_code 6 = .ok (.ifCond .lt 13, 3) := by decide +kernel
theorem d_Ms_rowOf_9 : decode prog_10_method_7_code 9 = .ok (.iload_n 1, 1) := by decide +kernel
theorem d_Ms_rowOf_10 : decode prog_10_method_7_code 10 = .ok (.bipush 8, 2) := by decide +kernel
theorem d_Ms_rowOf_12 : decode prog_10_method_7_code 12 = .ok (.if_icmp .ge 7, 3) := by decide +kernel
theorem d_Ms_rowOf_15 : decode prog_10_method_7_code 15 = .ok (.iload_n 1, 1) := by decide +kernel
theorem d_Ms_rowOf_16 : decode prog_10_method_7_code 16 = .ok (.goto 5, 3) := by decide +kernel
theorem d_Ms_rowOf_19 : decode prog_10_method_7_code 19 = .ok (.bipush 8, 2) := by decide +kernel
theorem d_Ms_rowOf_21 : decode prog_10_method_7_code 21 = .ok (.ireturn, 1) := by decide +kernel
theorem d_Ms_findFertileNames_0 : decode prog_10_method_8_code 0 = .ok (.aload_n 0, 1) := by decide +kernel
theorem d_Ms_findFertileNames_1 : decode prog_10_method_8_code 1 = .ok (.iconst 0, 1) := by decide +kernel
theorem d_Ms_findFertileNames_2 : decode prog_10_method_8_code 2 = .ok (.putfield 67, 3) := by decide +kernel
theorem d_Ms_findFertileNames_5 : decode prog_10_method_8_code 5 = .ok (.iconst 0, 1) := by decide +kernel
theorem d_Ms_findFertileNames_6 : decode prog_10_method_8_code 6 = .ok (.istore_n 1, 1) := by decide +kernel
theorem d_Ms_findFertileNames_7 : decode prog_10_method_8_code 7 = .ok (.iload_n 1, 1) := by decide +kernel
theorem d_Ms_findFertileNames_8 : decode prog_10_method_8_code 8 = .ok (.bipush 8, 2) := by decide +kernel
theorem d_Ms_findFertileNames_10 : decode prog_10_method_8_code 10 = .ok (.if_icmp .ge 81, 3) := by decide +kernel
theorem d_Ms_findFertileNames_13 : decode prog_10_method_8_code 13 = .ok (.aload_n 0, 1) := by decide +kernel
theorem d_Ms_findFertileNames_14 : decode prog_10_method_8_code 14 = .ok (.getfield 67, 3) := by decide +kernel
theorem d_Ms_findFertileNames_17 : decode prog_10_method_8_code 17 = .ok (.istore_n 2, 1) := by decide +kernel
theorem d_Ms_findFertileNames_18 : decode prog_10_method_8_code 18 = .ok (.iconst 0, 1) := by decide +kernel
theorem d_Ms_findFertileNames_19 : decode prog_10_method_8_code 19 = .ok (.istore_n 3, 1) := by decide +kernel
theorem d_Ms_findFertileNames_20 : decode prog_10_method_8_code 20 = .ok (.iload_n 3, 1) := by decide +kernel
theorem d_Ms_findFertileNames_21 : decode prog_10_method_8_code 21 = .ok (.bipush 8, 2) := by decide +kernel
theorem d_Ms_findFertileNames_23 : decode prog_10_method_8_code 23 = .ok (.if_icmp .ge 51, 3) := by decide +kernel
theorem d_Ms_findFertileNames_26 : decode prog_10_method_8_code 26 = .ok (.aload_n 0, 1) := by decide +kernel
theorem d_Ms_findFertileNames_27 : decode prog_10_method_8_code 27 = .ok (.getfield 11, 3) := by decide +kernel
theorem d_Ms_findFertileNames_30 : decode prog_10_method_8_code 30 = .ok (.iload_n 3, 1) := by decide +kernel
theorem d_Ms_findFertileNames_31 : decode prog_10_method_8_code 31 = .ok (.aaload, 1) := by decide +kernel
theorem d_Ms_findFertileNames_32 : decode prog_10_method_8_code 32 = .ok (.astore 4, 2) := by decide +kernel
theorem d_Ms_findFertileNames_34 : decode prog_10_method_8_code 34 = .ok (.aload 4, 2) := by decide +kernel
theorem d_Ms_findFertileNames_36 : decode prog_10_method_8_code 36 = .ok (.aload 4, 2) := by decide +kernel
theorem d_Ms_findFertileNames_38 : decode prog_10_method_8_code 38 = .ok (.aload 4, 2) := by decide +kernel
theorem d_Ms_findFertileNames_40 : decode prog_10_method_8_code 40 = .ok (.invokevirtual 45, 3) := by decide +kernel
theorem d_Ms_findFertileNames_43 : decode prog_10_method_8_code 43 = .ok (.aload_n 0, 1) := by decide +kernel
theorem d_Ms_findFertileNames_44 : decode prog_10_method_8_code 44 = .ok (.getfield 67, 3) := by decide +kernel
theorem d_Ms_findFertileNames_47 : decode prog_10_method_8_code 47 = .ok (.invokevirtual 74, 3) := by decide +kernel
theorem d_Ms_findFertileNames_50 : decode prog_10_method_8_code 50 = .ok (.invokevirtual 53, 3) := by decide +kernel
theorem d_Ms_findFertileNames_53 : decode prog_10_method_8_code 53 = .ok (.ifCond .eq 15, 3) := by decide +kernel
theorem d_Ms_findFertileNames_56 : decode prog_10_method_8_code 56 = .ok (.aload_n 0, 1) := by decide +kernel
theorem d_Ms_findFertileNames_57 : decode prog_10_method_8_code 57 = .ok (.dup, 1) := by decide +kernel
theorem d_Ms_findFertileNames_58 : decode prog_10_method_8_code 58 = .ok (.getfield 67, 3) := by decide +kernel
theorem d_Ms_findFertileNames_61 : decode prog_10_method_8_code 61 = .ok (.iconst 1, 1) := by decide +kernel
theorem d_Ms_findFertileNames_62 : decode prog_10_method_8_code 62 = .ok (.iload_n 3, 1) := by decide +kernel
theorem d_Ms_findFertileNames_63 : decode prog_10_method_8_code 63 = .ok (.ishl, 1) := by decide +kernel
theorem d_Ms_findFertileNames_64 : decode prog_10_method_8_code 64 = .ok (.ior, 1) := by decide +kernel
theorem d_Ms_findFertileNames_65 : decode prog_10_method_8_code 65 = .ok (.putfield 67, 3) := by decide +kernel
theorem d_Ms_findFertileNames_68 : decode prog_10_method_8_code 68 = .ok (.iinc 3 1, 3) := by decide +kernel
theorem d_Ms_findFertileNames_71 : decode prog_10_method_8_code 71 = .ok (.goto (-51), 3) := by decide +kernel
theorem d_Ms_findFertileNames_74 : decode prog_10_method_8_code 74 = .ok (.aload_n 0, 1) := by decide +kernel
theorem d_Ms_findFertileNames_75 : decode prog_10_method_8_code 75 = .ok (.getfield 67, 3) := by decide +kernel
theorem d_Ms_findFertileNames_78 : decode prog_10_method_8_code 78 = .ok (.iload_n 2, 1) := by decide +kernel
theorem d_Ms_findFertileNames_79 : decode prog_10_method_8_code 79 = .ok (.if_icmp .ne 6, 3) := by decide +kernel
theorem d_Ms_findFertileNames_82 : decode prog_10_method_8_code 82 = .ok (.goto 9, 3) := by decide +kernel
theorem d_Ms_findFertileNames_85 : decode prog_10_method_8_code 85 = .ok (.iinc 1 1, 3) := by decide +kernel
theorem d_Ms_findFertileNames_88 : decode prog_10_method_8_code 88 = .ok (.goto (-81), 3) := by decide +kernel
theorem d_Ms_findFertileNames_91 : decode prog_10_method_8_code 91 = .ok (.return_, 1) := by decide +kernel
theorem d_Mo_spread_0 : decode prog_8_method_10_code 0 = .ok (.iconst 0, 1) := by decide +kernel
theorem d_Mo_spread_1 : decode prog_8_method_10_code 1 = .ok (.istore_n 3, 1) := by decide +kernel
theorem d_Mo_spread_2 : decode prog_8_method_10_code 2 = .ok (.iconst 0, 1) := by decide +kernel
theorem d_Mo_spread_3 : decode prog_8_method_10_code 3 = .ok (.istore 4, 2) := by decide +kernel
theorem d_Mo_spread_5 : decode prog_8_method_10_code 5 = .ok (.iload 4, 2) := by decide +kernel
theorem d_Mo_spread_7 : decode prog_8_method_10_code 7 = .ok (.bipush 8, 2) := by decide +kernel
theorem d_Mo_spread_9 : decode prog_8_method_10_code 9 = .ok (.if_icmp .ge 28, 3) := by decide +kernel
theorem d_Mo_spread_12 : decode prog_8_method_10_code 12 = .ok (.iload_n 2, 1) := by decide +kernel
theorem d_Mo_spread_13 : decode prog_8_method_10_code 13 = .ok (.iload 4, 2) := by decide +kernel
theorem d_Mo_spread_15 : decode prog_8_method_10_code 15 = .ok (.ishr, 1) := by decide +kernel
theorem d_Mo_spread_16 : decode prog_8_method_10_code 16 = .ok (.iconst 1, 1) := by decide +kernel
theorem d_Mo_spread_17 : decode prog_8_method_10_code 17 = .ok (.iand, 1) := by decide +kernel
theorem d_Mo_spread_18 : decode prog_8_method_10_code 18 = .ok (.ifCond .eq 13, 3) := by decide +kernel
theorem d_Mo_spread_21 : decode prog_8_method_10_code 21 = .ok (.iload_n 3, 1) := by decide +kernel
theorem d_Mo_spread_22 : decode prog_8_method_10_code 22 = .ok (.aload_n 0, 1) := by decide +kernel
theorem d_Mo_spread_23 : decode prog_8_method_10_code 23 = .ok (.getfield 15, 3) := by decide +kernel
theorem d_Mo_spread_26 : decode prog_8_method_10_code 26 = .ok (.iload 4, 2) := by decide +kernel
theorem d_Mo_spread_28 : decode prog_8_method_10_code 28 = .ok (.iaload, 1) := by decide +kernel
theorem d_Mo_spread_29 : decode prog_8_method_10_code 29 = .ok (.ior, 1) := by decide +kernel
theorem d_Mo_spread_30 : decode prog_8_method_10_code 30 = .ok (.istore_n 3, 1) := by decide +kernel
theorem d_Mo_spread_31 : decode prog_8_method_10_code 31 = .ok (.iinc 4 1, 3) := by decide +kernel
theorem d_Mo_spread_34 : decode prog_8_method_10_code 34 = .ok (.goto (-29), 3) := by decide +kernel
theorem d_Mo_spread_37 : decode prog_8_method_10_code 37 = .ok (.iload_n 1, 1) := by decide +kernel
theorem d_Mo_spread_38 : decode prog_8_method_10_code 38 = .ok (.istore 4, 2) := by decide +kernel
theorem d_Mo_spread_40 : decode prog_8_method_10_code 40 = .ok (.iconst 0, 1) := by decide +kernel
theorem d_Mo_spread_41 : decode prog_8_method_10_code 41 = .ok (.istore 5, 2) := by decide +kernel
theorem d_Mo_spread_43 : decode prog_8_method_10_code 43 = .ok (.iload 5, 2) := by decide +kernel
theorem d_Mo_spread_45 : decode prog_8_method_10_code 45 = .ok (.bipush 10, 2) := by decide +kernel
theorem d_Mo_spread_47 : decode prog_8_method_10_code 47 = .ok (.if_icmp .gt 36, 3) := by decide +kernel
theorem d_Mo_spread_50 : decode prog_8_method_10_code 50 = .ok (.iload 4, 2) := by decide +kernel
theorem d_Mo_spread_52 : decode prog_8_method_10_code 52 = .ok (.aload_n 0, 1) := by decide +kernel
theorem d_Mo_spread_53 : decode prog_8_method_10_code 53 = .ok (.iload 4, 2) := by decide +kernel
theorem d_Mo_spread_55 : decode prog_8_method_10_code 55 = .ok (.invokevirtual 40, 3) := by decide +kernel
theorem d_Mo_spread_58 : decode prog_8_method_10_code 58 = .ok (.iload_n 3, 1) := by decide +kernel
theorem d_Mo_spread_59 : decode prog_8_method_10_code 59 = .ok (.iand, 1) := by decide +kernel
theorem d_Mo_spread_60 : decode prog_8_method_10_code 60 = .ok (.ior, 1) := by decide +kernel
theorem d_Mo_spread_61 : decode prog_8_method_10_code 61 = .ok (.istore 6, 2) := by decide +kernel
theorem d_Mo_spread_63 : decode prog_8_method_10_code 63 = .ok (.iload 6, 2) := by decide +kernel
theorem d_Mo_spread_65 : decode prog_8_method_10_code 65 = .ok (.iload 4, 2) := by decide +kernel
theorem d_Mo_spread_67 : decode prog_8_method_10_code 67 = .ok (.if_icmp .ne 6, 3) := by decide +kernel
theorem d_Mo_spread_70 : decode prog_8_method_10_code 70 = .ok (.goto 13, 3) := by decide +kernel
theorem d_Mo_spread_73 : decode prog_8_method_10_code 73 = .ok (.iload 6, 2) := by decide +kernel
theorem d_Mo_spread_75 : decode prog_8_method_10_code 75 = .ok (.istore 4, 2) := by decide +kernel
theorem d_Mo_spread_77 : decode prog_8_method_10_code 77 = .ok (.iinc 5 1, 3) := by decide +kernel
theorem d_Mo_spread_80 : decode prog_8_method_10_code 80 = .ok (.goto (-37), 3) := by decide +kernel
theorem d_Mo_spread_83 : decode prog_8_method_10_code 83 = .ok (.iload 4, 2) := by decide +kernel
theorem d_Mo_spread_85 : decode prog_8_method_10_code 85 = .ok (.ireturn, 1) := by decide +kernel
theorem d_Mo_followersOf_0 : decode prog_8_method_11_code 0 = .ok (.iconst 0, 1) := by decide +kernel
theorem d_Mo_followersOf_1 : decode prog_8_method_11_code 1 = .ok (.istore_n 2, 1) := by decide +kernel
theorem d_Mo_followersOf_2 : decode prog_8_method_11_code 2 = .ok (.iconst 0, 1) := by decide +kernel
theorem d_Mo_followersOf_3 : decode prog_8_method_11_code 3 = .ok (.istore_n 3, 1) := by decide +kernel
theorem d_Mo_followersOf_4 : decode prog_8_method_11_code 4 = .ok (.iload_n 3, 1) := by decide +kernel
theorem d_Mo_followersOf_5 : decode prog_8_method_11_code 5 = .ok (.aload_n 0, 1) := by decide +kernel
theorem d_Mo_followersOf_6 : decode prog_8_method_11_code 6 = .ok (.getfield 9, 3) := by decide +kernel
theorem d_Mo_followersOf_9 : decode prog_8_method_11_code 9 = .ok (.arraylength, 1) := by decide +kernel
theorem d_Mo_followersOf_10 : decode prog_8_method_11_code 10 = .ok (.if_icmp .ge 26, 3) := by decide +kernel
theorem d_Mo_followersOf_13 : decode prog_8_method_11_code 13 = .ok (.iload_n 1, 1) := by decide +kernel
theorem d_Mo_followersOf_14 : decode prog_8_method_11_code 14 = .ok (.iload_n 3, 1) := by decide +kernel
theorem d_Mo_followersOf_15 : decode prog_8_method_11_code 15 = .ok (.ishr, 1) := by decide +kernel
theorem d_Mo_followersOf_16 : decode prog_8_method_11_code 16 = .ok (.iconst 1, 1) := by decide +kernel
theorem d_Mo_followersOf_17 : decode prog_8_method_11_code 17 = .ok (.iand, 1) := by decide +kernel
theorem d_Mo_followersOf_18 : decode prog_8_method_11_code 18 = .ok (.ifCond .eq 12, 3) := by decide +kernel
theorem d_Mo_followersOf_21 : decode prog_8_method_11_code 21 = .ok (.iload_n 2, 1) := by decide +kernel
theorem d_Mo_followersOf_22 : decode prog_8_method_11_code 22 = .ok (.aload_n 0, 1) := by decide +kernel
theorem d_Mo_followersOf_23 : decode prog_8_method_11_code 23 = .ok (.getfield 9, 3) := by decide +kernel
theorem d_Mo_followersOf_26 : decode prog_8_method_11_code 26 = .ok (.iload_n 3, 1) := by decide +kernel
theorem d_Mo_followersOf_27 : decode prog_8_method_11_code 27 = .ok (.iaload, 1) := by decide +kernel
theorem d_Mo_followersOf_28 : decode prog_8_method_11_code 28 = .ok (.ior, 1) := by decide +kernel
theorem d_Mo_followersOf_29 : decode prog_8_method_11_code 29 = .ok (.istore_n 2, 1) := by decide +kernel
theorem d_Mo_followersOf_30 : decode prog_8_method_11_code 30 = .ok (.iinc 3 1, 3) := by decide +kernel
theorem d_Mo_followersOf_33 : decode prog_8_method_11_code 33 = .ok (.goto (-29), 3) := by decide +kernel
theorem d_Mo_followersOf_36 : decode prog_8_method_11_code 36 = .ok (.iload_n 2, 1) := by decide +kernel
theorem d_Mo_followersOf_37 : decode prog_8_method_11_code 37 = .ok (.ireturn, 1) := by decide +kernel
theorem d_Mo_accepts_0 : decode prog_8_method_8_code 0 = .ok (.iload_n 1, 1) := by decide +kernel
theorem d_Mo_accepts_1 : decode prog_8_method_8_code 1 = .ok (.aload_n 0, 1) := by decide +kernel
theorem d_Mo_accepts_2 : decode prog_8_method_8_code 2 = .ok (.getfield 29, 3) := by decide +kernel
theorem d_Mo_accepts_5 : decode prog_8_method_8_code 5 = .ok (.iand, 1) := by decide +kernel
theorem d_Mo_accepts_6 : decode prog_8_method_8_code 6 = .ok (.ifCond .eq 7, 3) := by decide +kernel
theorem d_Mo_accepts_9 : decode prog_8_method_8_code 9 = .ok (.iconst 1, 1) := by decide +kernel
theorem d_Mo_accepts_10 : decode prog_8_method_8_code 10 = .ok (.goto 4, 3) := by decide +kernel
theorem d_Mo_accepts_13 : decode prog_8_method_8_code 13 = .ok (.iconst 0, 1) := by decide +kernel
theorem d_Mo_accepts_14 : decode prog_8_method_8_code 14 = .ok (.ireturn, 1) := by decide +kernel
theorem d_Tx_putIn_0 : decode prog_11_method_3_code 0 = .ok (.iload_n 1, 1) := by decide +kernel
theorem d_Tx_putIn_1 : decode prog_11_method_3_code 1 = .ok (.ifCond .lt 27, 3) := by decide +kernel
theorem d_Tx_putIn_4 : decode prog_11_method_3_code 4 = .ok (.iload_n 1, 1) := by decide +kernel
theorem d_Tx_putIn_5 : decode prog_11_method_3_code 5 = .ok (.aload_n 0, 1) := by decide +kernel
theorem d_Tx_putIn_6 : decode prog_11_method_3_code 6 = .ok (.getfield 15, 3) := by decide +kernel
theorem d_Tx_putIn_9 : decode prog_11_method_3_code 9 = .ok (.if_icmp .gt 19, 3) := by decide +kernel
theorem d_Tx_putIn_12 : decode prog_11_method_3_code 12 = .ok (.iload_n 2, 1) := by decide +kernel
theorem d_Tx_putIn_13 : decode prog_11_method_3_code 13 = .ok (.invokestatic 19, 3) := by decide +kernel
theorem d_Tx_putIn_16 : decode prog_11_method_3_code 16 = .ok (.ifCond .eq 12, 3) := by decide +kernel
theorem d_Tx_putIn_19 : decode prog_11_method_3_code 19 = .ok (.aload_n 0, 1) := by decide +kernel
theorem d_Tx_putIn_20 : decode prog_11_method_3_code 20 = .ok (.getfield 15, 3) := by decide +kernel
theorem d_Tx_putIn_23 : decode prog_11_method_3_code 23 = .ok (.bipush 100, 2) := by decide +kernel
theorem d_Tx_putIn_25 : decode prog_11_method_3_code 25 = .ok (.if_icmp .lt 4, 3) := by decide +kernel
theorem d_Tx_putIn_28 : decode prog_11_method_3_code 28 = .ok (.return_, 1) := by decide +kernel
theorem d_Tx_putIn_29 : decode prog_11_method_3_code 29 = .ok (.aload_n 0, 1) := by decide +kernel
theorem d_Tx_putIn_30 : decode prog_11_method_3_code 30 = .ok (.getfield 9, 3) := by decide +kernel
theorem d_Tx_putIn_33 : decode prog_11_method_3_code 33 = .ok (.iload_n 1, 1) := by decide +kernel
theorem d_Tx_putIn_34 : decode prog_11_method_3_code 34 = .ok (.aload_n 0, 1) := by decide +kernel
theorem d_Tx_putIn_35 : decode prog_11_method_3_code 35 = .ok (.getfield 9, 3) := by decide +kernel
theorem d_Tx_putIn_38 : decode prog_11_method_3_code 38 = .ok (.iload_n 1, 1) := by decide +kernel
theorem d_Tx_putIn_39 : decode prog_11_method_3_code 39 = .ok (.iconst 1, 1) := by decide +kernel
theorem d_Tx_putIn_40 : decode prog_11_method_3_code 40 = .ok (.iadd, 1) := by decide +kernel
theorem d_Tx_putIn_41 : decode prog_11_method_3_code 41 = .ok (.aload_n 0, 1) := by decide +kernel
theorem d_Tx_putIn_42 : decode prog_11_method_3_code 42 = .ok (.getfield 15, 3) := by decide +kernel
theorem d_Tx_putIn_45 : decode prog_11_method_3_code 45 = .ok (.iload_n 1, 1) := by decide +kernel
theorem d_Tx_putIn_46 : decode prog_11_method_3_code 46 = .ok (.isub, 1) := by decide +kernel
theorem d_Tx_putIn_47 : decode prog_11_method_3_code 47 = .ok (.invokestatic 23, 3) := by decide +kernel
theorem d_Tx_putIn_50 : decode prog_11_method_3_code 50 = .ok (.aload_n 0, 1) := by decide +kernel
theorem d_Tx_putIn_51 : decode prog_11_method_3_code 51 = .ok (.getfield 9, 3) := by decide +kernel
theorem d_Tx_putIn_54 : decode prog_11_method_3_code 54 = .ok (.iload_n 1, 1) := by decide +kernel
theorem d_Tx_putIn_55 : decode prog_11_method_3_code 55 = .ok (.iload_n 2, 1) := by decide +kernel
theorem d_Tx_putIn_56 : decode prog_11_method_3_code 56 = .ok (.i2c, 1) := by decide +kernel
theorem d_Tx_putIn_57 : decode prog_11_method_3_code 57 = .ok (.castore, 1) := by decide +kernel
theorem d_Tx_putIn_58 : decode prog_11_method_3_code 58 = .ok (.aload_n 0, 1) := by decide +kernel
theorem d_Tx_putIn_59 : decode prog_11_method_3_code 59 = .ok (.dup, 1) := by decide +kernel
theorem d_Tx_putIn_60 : decode prog_11_method_3_code 60 = .ok (.getfield 15, 3) := by decide +kernel
theorem d_Tx_putIn_63 : decode prog_11_method_3_code 63 = .ok (.iconst 1, 1) := by decide +kernel
theorem d_Tx_putIn_64 : decode prog_11_method_3_code 64 = .ok (.iadd, 1) := by decide +kernel
theorem d_Tx_putIn_65 : decode prog_11_method_3_code 65 = .ok (.putfield 15, 3) := by decide +kernel
theorem d_Tx_putIn_68 : decode prog_11_method_3_code 68 = .ok (.return_, 1) := by decide +kernel
theorem d_Tx_takeOut_0 : decode prog_11_method_4_code 0 = .ok (.iload_n 2, 1) := by decide +kernel
theorem d_Tx_takeOut_1 : decode prog_11_method_4_code 1 = .ok (.iconst 1, 1) := by decide +kernel
theorem d_Tx_takeOut_2 : decode prog_11_method_4_code 2 = .ok (.if_icmp .lt 25, 3) := by decide +kernel
theorem d_Tx_takeOut_5 : decode prog_11_method_4_code 5 = .ok (.iload_n 1, 1) := by decide +kernel
theorem d_Tx_takeOut_6 : decode prog_11_method_4_code 6 = .ok (.ifCond .lt 21, 3) := by decide +kernel
theorem d_Tx_takeOut_9 : decode prog_11_method_4_code 9 = .ok (.iload_n 1, 1) := by decide +kernel
theorem d_Tx_takeOut_10 : decode prog_11_method_4_code 10 = .ok (.aload_n 0, 1) := by decide +kernel
theorem d_Tx_takeOut_11 : decode prog_11_method_4_code 11 = .ok (.getfield 15, 3) := by decide +kernel
theorem d_Tx_takeOut_14 : decode prog_11_method_4_code 14 = .ok (.if_icmp .ge 13, 3) := by decide +kernel
theorem d_Tx_takeOut_17 : decode prog_11_method_4_code 17 = .ok (.iload_n 2, 1) := by decide +kernel
theorem d_Tx_takeOut_18 : decode prog_11_method_4_code 18 = .ok (.aload_n 0, 1) := by decide +kernel
theorem d_Tx_takeOut_19 : decode prog_11_method_4_code 19 = .ok (.getfield 15, 3) := by decide +kernel
theorem d_Tx_takeOut_22 : decode prog_11_method_4_code 22 = .ok (.iload_n 1, 1) := by decide +kernel
theorem d_Tx_takeOut_23 : decode prog_11_method_4_code 23 = .ok (.isub, 1) := by decide +kernel
theorem d_Tx_takeOut_24 : decode prog_11_method_4_code 24 = .ok (.if_icmp .le 4, 3) := by decide +kernel
theorem d_Tx_takeOut_27 : decode prog_11_method_4_code 27 = .ok (.return_, 1) := by decide +kernel
theorem d_Tx_takeOut_28 : decode prog_11_method_4_code 28 = .ok (.aload_n 0, 1) := by decide +kernel
theorem d_Tx_takeOut_29 : decode prog_11_method_4_code 29 = .ok (.getfield 9, 3) := by decide +kernel
theorem d_Tx_takeOut_32 : decode prog_11_method_4_code 32 = .ok (.iload_n 1, 1) := by decide +kernel
theorem d_Tx_takeOut_33 : decode prog_11_method_4_code 33 = .ok (.iload_n 2, 1) := by decide +kernel
theorem d_Tx_takeOut_34 : decode prog_11_method_4_code 34 = .ok (.iadd, 1) := by decide +kernel
theorem d_Tx_takeOut_35 : decode prog_11_method_4_code 35 = .ok (.aload_n 0, 1) := by decide +kernel
theorem d_Tx_takeOut_36 : decode prog_11_method_4_code 36 = .ok (.getfield 9, 3) := by decide +kernel
theorem d_Tx_takeOut_39 : decode prog_11_method_4_code 39 = .ok (.iload_n 1, 1) := by decide +kernel
theorem d_Tx_takeOut_40 : decode prog_11_method_4_code 40 = .ok (.aload_n 0, 1) := by decide +kernel
theorem d_Tx_takeOut_41 : decode prog_11_method_4_code 41 = .ok (.getfield 15, 3) := by decide +kernel
theorem d_Tx_takeOut_44 : decode prog_11_method_4_code 44 = .ok (.iload_n 1, 1) := by decide +kernel
theorem d_Tx_takeOut_45 : decode prog_11_method_4_code 45 = .ok (.isub, 1) := by decide +kernel
theorem d_Tx_takeOut_46 : decode prog_11_method_4_code 46 = .ok (.iload_n 2, 1) := by decide +kernel
theorem d_Tx_takeOut_47 : decode prog_11_method_4_code 47 = .ok (.isub, 1) := by decide +kernel
theorem d_Tx_takeOut_48 : decode prog_11_method_4_code 48 = .ok (.invokestatic 23, 3) := by decide +kernel
theorem d_Tx_takeOut_51 : decode prog_11_method_4_code 51 = .ok (.aload_n 0, 1) := by decide +kernel
theorem d_Tx_takeOut_52 : decode prog_11_method_4_code 52 = .ok (.dup, 1) := by decide +kernel
theorem d_Tx_takeOut_53 : decode prog_11_method_4_code 53 = .ok (.getfield 15, 3) := by decide +kernel
theorem d_Tx_takeOut_56 : decode prog_11_method_4_code 56 = .ok (.iload_n 2, 1) := by decide +kernel
theorem d_Tx_takeOut_57 : decode prog_11_method_4_code 57 = .ok (.isub, 1) := by decide +kernel
theorem d_Tx_takeOut_58 : decode prog_11_method_4_code 58 = .ok (.putfield 15, 3) := by decide +kernel
theorem d_Tx_takeOut_61 : decode prog_11_method_4_code 61 = .ok (.return_, 1) := by decide +kernel
theorem d_Tr_read_0 : decode prog_12_method_2_code 0 = .ok (.aload_n 0, 1) := by decide +kernel
theorem d_Tr_read_1 : decode prog_12_method_2_code 1 = .ok (.iconst 0, 1) := by decide +kernel
theorem d_Tr_read_2 : decode prog_12_method_2_code 2 = .ok (.putfield 32, 3) := by decide +kernel
theorem d_Tr_read_5 : decode prog_12_method_2_code 5 = .ok (.aload_n 0, 1) := by decide +kernel
theorem d_Tr_read_6 : decode prog_12_method_2_code 6 = .ok (.iconst 0, 1) := by decide +kernel
theorem d_Tr_read_7 : decode prog_12_method_2_code 7 = .ok (.putfield 36, 3) := by decide +kernel
theorem d_Tr_read_10 : decode prog_12_method_2_code 10 = .ok (.aload_n 0, 1) := by decide +kernel
theorem d_Tr_read_11 : decode prog_12_method_2_code 11 = .ok (.iconst 0, 1) := by decide +kernel
theorem d_Tr_read_12 : decode prog_12_method_2_code 12 = .ok (.putfield 39, 3) := by decide +kernel
theorem d_Tr_read_15 : decode prog_12_method_2_code 15 = .ok (.aload_n 0, 1) := by decide +kernel
theorem d_Tr_read_16 : decode prog_12_method_2_code 16 = .ok (.getfield 11, 3) := by decide +kernel
theorem d_Tr_read_19 : decode prog_12_method_2_code 19 = .ok (.iconst 0, 1) := by decide +kernel
theorem d_Tr_read_20 : decode prog_12_method_2_code 20 = .ok (.aaload, 1) := by decide +kernel
theorem d_Tr_read_21 : decode prog_12_method_2_code 21 = .ok (.bipush 46, 2) := by decide +kernel
theorem d_Tr_read_23 : decode prog_12_method_2_code 23 = .ok (.iconst (-1), 1) := by decide +kernel
theorem d_Tr_read_24 : decode prog_12_method_2_code 24 = .ok (.iconst 0, 1) := by decide +kernel
theorem d_Tr_read_25 : decode prog_12_method_2_code 25 = .ok (.iconst 0, 1) := by decide +kernel
theorem d_Tr_read_26 : decode prog_12_method_2_code 26 = .ok (.iconst 0, 1) := by decide +kernel
theorem d_Tr_read_27 : decode prog_12_method_2_code 27 = .ok (.invokevirtual 42, 3) := by decide +kernel
theorem d_Tr_read_30 : decode prog_12_method_2_code 30 = .ok (.iconst 0, 1) := by decide +kernel
theorem d_Tr_read_31 : decode prog_12_method_2_code 31 = .ok (.istore_n 2, 1) := by decide +kernel
theorem d_Tr_read_32 : decode prog_12_method_2_code 32 = .ok (.iconst 0, 1) := by decide +kernel
theorem d_Tr_read_33 : decode prog_12_method_2_code 33 = .ok (.istore_n 3, 1) := by decide +kernel
theorem d_Tr_read_34 : decode prog_12_method_2_code 34 = .ok (.iload_n 3, 1) := by decide +kernel
theorem d_Tr_read_35 : decode prog_12_method_2_code 35 = .ok (.bipush 100, 2) := by decide +kernel
theorem d_Tr_read_37 : decode prog_12_method_2_code 37 = .ok (.if_icmp .ge 27, 3) := by decide +kernel
theorem d_Tr_read_40 : decode prog_12_method_2_code 40 = .ok (.iload_n 2, 1) := by decide +kernel
theorem d_Tr_read_41 : decode prog_12_method_2_code 41 = .ok (.aload_n 0, 1) := by decide +kernel
theorem d_Tr_read_42 : decode prog_12_method_2_code 42 = .ok (.getfield 27, 3) := by decide +kernel
theorem d_Tr_read_45 : decode prog_12_method_2_code 45 = .ok (.getfield 45, 3) := by decide +kernel
theorem d_Tr_read_48 : decode prog_12_method_2_code 48 = .ok (.if_icmp .ge 16, 3) := by decide +kernel
theorem d_Tr_read_51 : decode prog_12_method_2_code 51 = .ok (.aload_n 0, 1) := by decide +kernel
theorem d_Tr_read_52 : decode prog_12_method_2_code 52 = .ok (.iload_n 2, 1) := by decide +kernel
theorem d_Tr_read_53 : decode prog_12_method_2_code 53 = .ok (.aload_n 1, 1) := by decide +kernel
theorem d_Tr_read_54 : decode prog_12_method_2_code 54 = .ok (.invokevirtual 50, 3) := by decide +kernel
theorem d_Tr_read_57 : decode prog_12_method_2_code 57 = .ok (.istore_n 2, 1) := by decide +kernel
theorem d_Tr_read_58 : decode prog_12_method_2_code 58 = .ok (.iinc 3 1, 3) := by decide +kernel
theorem d_Tr_read_61 : decode prog_12_method_2_code 61 = .ok (.goto (-27), 3) := by decide +kernel
theorem d_Tr_read_64 : decode prog_12_method_2_code 64 = .ok (.aload_n 0, 1) := by decide +kernel
theorem d_Tr_read_65 : decode prog_12_method_2_code 65 = .ok (.iconst 0, 1) := by decide +kernel
theorem d_Tr_read_66 : decode prog_12_method_2_code 66 = .ok (.aload_n 0, 1) := by decide +kernel
theorem d_Tr_read_67 : decode prog_12_method_2_code 67 = .ok (.getfield 27, 3) := by decide +kernel
theorem d_Tr_read_70 : decode prog_12_method_2_code 70 = .ok (.getfield 45, 3) := by decide +kernel
theorem d_Tr_read_73 : decode prog_12_method_2_code 73 = .ok (.invokevirtual 54, 3) := by decide +kernel
theorem d_Tr_read_76 : decode prog_12_method_2_code 76 = .ok (.aload_n 0, 1) := by decide +kernel
theorem d_Tr_read_77 : decode prog_12_method_2_code 77 = .ok (.getfield 11, 3) := by decide +kernel
theorem d_Tr_read_80 : decode prog_12_method_2_code 80 = .ok (.iconst 0, 1) := by decide +kernel
theorem d_Tr_read_81 : decode prog_12_method_2_code 81 = .ok (.aaload, 1) := by decide +kernel
theorem d_Tr_read_82 : decode prog_12_method_2_code 82 = .ok (.iconst 0, 1) := by decide +kernel
theorem d_Tr_read_83 : decode prog_12_method_2_code 83 = .ok (.aload_n 0, 1) := by decide +kernel
theorem d_Tr_read_84 : decode prog_12_method_2_code 84 = .ok (.getfield 27, 3) := by decide +kernel
theorem d_Tr_read_87 : decode prog_12_method_2_code 87 = .ok (.getfield 45, 3) := by decide +kernel
theorem d_Tr_read_90 : decode prog_12_method_2_code 90 = .ok (.aload_n 0, 1) := by decide +kernel
theorem d_Tr_read_91 : decode prog_12_method_2_code 91 = .ok (.getfield 27, 3) := by decide +kernel
theorem d_Tr_read_94 : decode prog_12_method_2_code 94 = .ok (.getfield 45, 3) := by decide +kernel
theorem d_Tr_read_97 : decode prog_12_method_2_code 97 = .ok (.invokevirtual 58, 3) := by decide +kernel
theorem d_Tr_read_100 : decode prog_12_method_2_code 100 = .ok (.return_, 1) := by decide +kernel
theorem d_Tr_take_0 : decode prog_12_method_3_code 0 = .ok (.aload_n 0, 1) := by decide +kernel
theorem d_Tr_take_1 : decode prog_12_method_3_code 1 = .ok (.getfield 27, 3) := by decide +kernel
theorem d_Tr_take_4 : decode prog_12_method_3_code 4 = .ok (.iload_n 1, 1) := by decide +kernel
theorem d_Tr_take_5 : decode prog_12_method_3_code 5 = .ok (.invokevirtual 62, 3) := by decide +kernel
theorem d_Tr_take_8 : decode prog_12_method_3_code 8 = .ok (.tableswitch 67 1 3 #[28, 41, 54], 28) := by decide +kernel
theorem d_Tr_take_36 : decode prog_12_method_3_code 36 = .ok (.aload_n 0, 1) := by decide +kernel
theorem d_Tr_take_37 : decode prog_12_method_3_code 37 = .ok (.iload_n 1, 1) := by decide +kernel
theorem d_Tr_take_38 : decode prog_12_method_3_code 38 = .ok (.iload_n 1, 1) := by decide +kernel
theorem d_Tr_take_39 : decode prog_12_method_3_code 39 = .ok (.iconst 3, 1) := by decide +kernel
theorem d_Tr_take_40 : decode prog_12_method_3_code 40 = .ok (.iadd, 1) := by decide +kernel
theorem d_Tr_take_41 : decode prog_12_method_3_code 41 = .ok (.aload_n 2, 1) := by decide +kernel
theorem d_Tr_take_42 : decode prog_12_method_3_code 42 = .ok (.invokevirtual 66, 3) := by decide +kernel
theorem d_Tr_take_45 : decode prog_12_method_3_code 45 = .ok (.iload_n 1, 1) := by decide +kernel
theorem d_Tr_take_46 : decode prog_12_method_3_code 46 = .ok (.iconst 3, 1) := by decide +kernel
theorem d_Tr_take_47 : decode prog_12_method_3_code 47 = .ok (.iadd, 1) := by decide +kernel
theorem d_Tr_take_48 : decode prog_12_method_3_code 48 = .ok (.ireturn, 1) := by decide +kernel
theorem d_Tr_take_49 : decode prog_12_method_3_code 49 = .ok (.aload_n 0, 1) := by decide +kernel
theorem d_Tr_take_50 : decode prog_12_method_3_code 50 = .ok (.iload_n 1, 1) := by decide +kernel
theorem d_Tr_take_51 : decode prog_12_method_3_code 51 = .ok (.iload_n 1, 1) := by decide +kernel
theorem d_Tr_take_52 : decode prog_12_method_3_code 52 = .ok (.iconst 4, 1) := by decide +kernel
theorem d_Tr_take_53 : decode prog_12_method_3_code 53 = .ok (.iadd, 1) := by decide +kernel
theorem d_Tr_take_54 : decode prog_12_method_3_code 54 = .ok (.aload_n 2, 1) := by decide +kernel
theorem d_Tr_take_55 : decode prog_12_method_3_code 55 = .ok (.invokevirtual 70, 3) := by decide +kernel
theorem d_Tr_take_58 : decode prog_12_method_3_code 58 = .ok (.iload_n 1, 1) := by decide +kernel
theorem d_Tr_take_59 : decode prog_12_method_3_code 59 = .ok (.iconst 4, 1) := by decide +kernel
theorem d_Tr_take_60 : decode prog_12_method_3_code 60 = .ok (.iadd, 1) := by decide +kernel
theorem d_Tr_take_61 : decode prog_12_method_3_code 61 = .ok (.ireturn, 1) := by decide +kernel
theorem d_Tr_take_62 : decode prog_12_method_3_code 62 = .ok (.aload_n 0, 1) := by decide +kernel
theorem d_Tr_take_63 : decode prog_12_method_3_code 63 = .ok (.iload_n 1, 1) := by decide +kernel
theorem d_Tr_take_64 : decode prog_12_method_3_code 64 = .ok (.iload_n 1, 1) := by decide +kernel
theorem d_Tr_take_65 : decode prog_12_method_3_code 65 = .ok (.iconst 4, 1) := by decide +kernel
theorem d_Tr_take_66 : decode prog_12_method_3_code 66 = .ok (.iadd, 1) := by decide +kernel
theorem d_Tr_take_67 : decode prog_12_method_3_code 67 = .ok (.aload_n 2, 1) := by decide +kernel
theorem d_Tr_take_68 : decode prog_12_method_3_code 68 = .ok (.invokevirtual 73, 3) := by decide +kernel
theorem d_Tr_take_71 : decode prog_12_method_3_code 71 = .ok (.iload_n 1, 1) := by decide +kernel
theorem d_Tr_take_72 : decode prog_12_method_3_code 72 = .ok (.iconst 4, 1) := by decide +kernel
theorem d_Tr_take_73 : decode prog_12_method_3_code 73 = .ok (.iadd, 1) := by decide +kernel
theorem d_Tr_take_74 : decode prog_12_method_3_code 74 = .ok (.ireturn, 1) := by decide +kernel
theorem d_Tr_take_75 : decode prog_12_method_3_code 75 = .ok (.aload_n 0, 1) := by decide +kernel
theorem d_Tr_take_76 : decode prog_12_method_3_code 76 = .ok (.iload_n 1, 1) := by decide +kernel
theorem d_Tr_take_77 : decode prog_12_method_3_code 77 = .ok (.aload_n 2, 1) := by decide +kernel
theorem d_Tr_take_78 : decode prog_12_method_3_code 78 = .ok (.invokevirtual 76, 3) := by decide +kernel
theorem d_Tr_take_81 : decode prog_12_method_3_code 81 = .ok (.iload_n 1, 1) := by decide +kernel
theorem d_Tr_take_82 : decode prog_12_method_3_code 82 = .ok (.iconst 1, 1) := by decide +kernel
theorem d_Tr_take_83 : decode prog_12_method_3_code 83 = .ok (.iadd, 1) := by decide +kernel
theorem d_Tr_take_84 : decode prog_12_method_3_code 84 = .ok (.ireturn, 1) := by decide +kernel
theorem d_Tx_tagKindAt_0 : decode prog_11_method_6_code 0 = .ok (.aload_n 0, 1) := by decide +kernel
theorem d_Tx_tagKindAt_1 : decode prog_11_method_6_code 1 = .ok (.iload_n 1, 1) := by decide +kernel
theorem d_Tx_tagKindAt_2 : decode prog_11_method_6_code 2 = .ok (.invokevirtual 29, 3) := by decide +kernel
theorem d_Tx_tagKindAt_5 : decode prog_11_method_6_code 5 = .ok (.bipush 60, 2) := by decide +kernel
theorem d_Tx_tagKindAt_7 : decode prog_11_method_6_code 7 = .ok (.if_icmp .eq 5, 3) := by decide +kernel
theorem d_Tx_tagKindAt_10 : decode prog_11_method_6_code 10 = .ok (.iconst 0, 1) := by decide +kernel
theorem d_Tx_tagKindAt_11 : decode prog_11_method_6_code 11 = .ok (.ireturn, 1) := by decide +kernel
theorem d_Tx_tagKindAt_12 : decode prog_11_method_6_code 12 = .ok (.aload_n 0, 1) := by decide +kernel
theorem d_Tx_tagKindAt_13 : decode prog_11_method_6_code 13 = .ok (.iload_n 1, 1) := by decide +kernel
theorem d_Tx_tagKindAt_14 : decode prog_11_method_6_code 14 = .ok (.iconst 1, 1) := by decide +kernel
theorem d_Tx_tagKindAt_15 : decode prog_11_method_6_code 15 = .ok (.iadd, 1) := by decide +kernel
theorem d_Tx_tagKindAt_16 : decode prog_11_method_6_code 16 = .ok (.invokevirtual 29, 3) := by decide +kernel
theorem d_Tx_tagKindAt_19 : decode prog_11_method_6_code 19 = .ok (.invokestatic 33, 3) := by decide +kernel
theorem d_Tx_tagKindAt_22 : decode prog_11_method_6_code 22 = .ok (.ifCond .eq 47, 3) := by decide +kernel
theorem d_Tx_tagKindAt_25 : decode prog_11_method_6_code 25 = .ok (.aload_n 0, 1) := by decide +kernel
theorem d_Tx_tagKindAt_26 : decode prog_11_method_6_code 26 = .ok (.iload_n 1, 1) := by decide +kernel
theorem d_Tx_tagKindAt_27 : decode prog_11_method_6_code 27 = .ok (.iconst 2, 1) := by decide +kernel
theorem d_Tx_tagKindAt_28 : decode prog_11_method_6_code 28 = .ok (.iadd, 1) := by decide +kernel
theorem d_Tx_tagKindAt_29 : decode prog_11_method_6_code 29 = .ok (.invokevirtual 29, 3) := by decide +kernel
theorem d_Tx_tagKindAt_32 : decode prog_11_method_6_code 32 = .ok (.bipush 62, 2) := by decide +kernel
theorem d_Tx_tagKindAt_34 : decode prog_11_method_6_code 34 = .ok (.if_icmp .ne 5, 3) := by decide +kernel
theorem d_Tx_tagKindAt_37 : decode prog_11_method_6_code 37 = .ok (.iconst 1, 1) := by decide +kernel
theorem d_Tx_tagKindAt_38 : decode prog_11_method_6_code 38 = .ok (.ireturn, 1) := by decide +kernel
theorem d_Tx_tagKindAt_39 : decode prog_11_method_6_code 39 = .ok (.aload_n 0, 1) := by decide +kernel
theorem d_Tx_tagKindAt_40 : decode prog_11_method_6_code 40 = .ok (.iload_n 1, 1) := by decide +kernel
theorem d_Tx_tagKindAt_41 : decode prog_11_method_6_code 41 = .ok (.iconst 2, 1) := by decide +kernel
theorem d_Tx_tagKindAt_42 : decode prog_11_method_6_code 42 = .ok (.iadd, 1) := by decide +kernel
theorem d_Tx_tagKindAt_43 : decode prog_11_method_6_code 43 = .ok (.invokevirtual 29, 3) := by decide +kernel
theorem d_Tx_tagKindAt_46 : decode prog_11_method_6_code 46 = .ok (.bipush 47, 2) := by decide +kernel
theorem d_Tx_tagKindAt_48 : decode prog_11_method_6_code 48 = .ok (.if_icmp .ne 19, 3) := by decide +kernel
theorem d_Tx_tagKindAt_51 : decode prog_11_method_6_code 51 = .ok (.aload_n 0, 1) := by decide +kernel
theorem d_Tx_tagKindAt_52 : decode prog_11_method_6_code 52 = .ok (.iload_n 1, 1) := by decide +kernel
theorem d_Tx_tagKindAt_53 : decode prog_11_method_6_code 53 = .ok (.iconst 3, 1) := by decide +kernel
theorem d_Tx_tagKindAt_54 : decode prog_11_method_6_code 54 = .ok (.iadd, 1) := by decide +kernel
theorem d_Tx_tagKindAt_55 : decode prog_11_method_6_code 55 = .ok (.invokevirtual 29, 3) := by decide +kernel
theorem d_Tx_tagKindAt_58 : decode prog_11_method_6_code 58 = .ok (.bipush 62, 2) := by decide +kernel
theorem d_Tx_tagKindAt_60 : decode prog_11_method_6_code 60 = .ok (.if_icmp .ne 7, 3) := by decide +kernel
theorem d_Tx_tagKindAt_63 : decode prog_11_method_6_code 63 = .ok (.iconst 2, 1) := by decide +kernel
theorem d_Tx_tagKindAt_64 : decode prog_11_method_6_code 64 = .ok (.goto 4, 3) := by decide +kernel
theorem d_Tx_tagKindAt_67 : decode prog_11_method_6_code 67 = .ok (.iconst 0, 1) := by decide +kernel
theorem d_Tx_tagKindAt_68 : decode prog_11_method_6_code 68 = .ok (.ireturn, 1) := by decide +kernel
theorem d_Tx_tagKindAt_69 : decode prog_11_method_6_code 69 = .ok (.aload_n 0, 1) := by decide +kernel
theorem d_Tx_tagKindAt_70 : decode prog_11_method_6_code 70 = .ok (.iload_n 1, 1) := by decide +kernel
theorem d_Tx_tagKindAt_71 : decode prog_11_method_6_code 71 = .ok (.iconst 1, 1) := by decide +kernel
theorem d_Tx_tagKindAt_72 : decode prog_11_method_6_code 72 = .ok (.iadd, 1) := by decide +kernel
theorem d_Tx_tagKindAt_73 : decode prog_11_method_6_code 73 = .ok (.invokevirtual 29, 3) := by decide +kernel
theorem d_Tx_tagKindAt_76 : decode prog_11_method_6_code 76 = .ok (.bipush 47, 2) := by decide +kernel
theorem d_Tx_tagKindAt_78 : decode prog_11_method_6_code 78 = .ok (.if_icmp .ne 32, 3) := by decide +kernel
theorem d_Tx_tagKindAt_81 : decode prog_11_method_6_code 81 = .ok (.aload_n 0, 1) := by decide +kernel
theorem d_Tx_tagKindAt_82 : decode prog_11_method_6_code 82 = .ok (.iload_n 1, 1) := by decide +kernel
theorem d_Tx_tagKindAt_83 : decode prog_11_method_6_code 83 = .ok (.iconst 2, 1) := by decide +kernel
theorem d_Tx_tagKindAt_84 : decode prog_11_method_6_code 84 = .ok (.iadd, 1) := by decide +kernel
theorem d_Tx_tagKindAt_85 : decode prog_11_method_6_code 85 = .ok (.invokevirtual 29, 3) := by decide +kernel
theorem d_Tx_tagKindAt_88 : decode prog_11_method_6_code 88 = .ok (.invokestatic 33, 3) := by decide +kernel
theorem d_Tx_tagKindAt_91 : decode prog_11_method_6_code 91 = .ok (.ifCond .eq 19, 3) := by decide +kernel
theorem d_Tx_tagKindAt_94 : decode prog_11_method_6_code 94 = .ok (.aload_n 0, 1) := by decide +kernel
theorem d_Tx_tagKindAt_95 : decode prog_11_method_6_code 95 = .ok (.iload_n 1, 1) := by decide +kernel
theorem d_Tx_tagKindAt_96 : decode prog_11_method_6_code 96 = .ok (.iconst 3, 1) := by decide +kernel
theorem d_Tx_tagKindAt_97 : decode prog_11_method_6_code 97 = .ok (.iadd, 1) := by decide +kernel
theorem d_Tx_tagKindAt_98 : decode prog_11_method_6_code 98 = .ok (.invokevirtual 29, 3) := by decide +kernel
theorem d_Tx_tagKindAt_101 : decode prog_11_method_6_code 101 = .ok (.bipush 62, 2) := by decide +kernel
theorem d_Tx_tagKindAt_103 : decode prog_11_method_6_code 103 = .ok (.if_icmp .ne 7, 3) := by decide +kernel
theorem d_Tx_tagKindAt_106 : decode prog_11_method_6_code 106 = .ok (.iconst 3, 1) := by decide +kernel
theorem d_Tx_tagKindAt_107 : decode prog_11_method_6_code 107 = .ok (.goto 4, 3) := by decide +kernel
theorem d_Tx_tagKindAt_110 : decode prog_11_method_6_code 110 = .ok (.iconst 0, 1) := by decide +kernel
theorem d_Tx_tagKindAt_111 : decode prog_11_method_6_code 111 = .ok (.ireturn, 1) := by decide +kernel
theorem d_Tx_at_0 : decode prog_11_method_2_code 0 = .ok (.iload_n 1, 1) := by decide +kernel
theorem d_Tx_at_1 : decode prog_11_method_2_code 1 = .ok (.ifCond .lt 20, 3) := by decide +kernel
theorem d_Tx_at_4 : decode prog_11_method_2_code 4 = .ok (.iload_n 1, 1) := by decide +kernel
theorem d_Tx_at_5 : decode prog_11_method_2_code 5 = .ok (.aload_n 0, 1) := by decide +kernel
theorem d_Tx_at_6 : decode prog_11_method_2_code 6 = .ok (.getfield 15, 3) := by decide +kernel
theorem d_Tx_at_9 : decode prog_11_method_2_code 9 = .ok (.if_icmp .ge 12, 3) := by decide +kernel
theorem d_Tx_at_12 : decode prog_11_method_2_code 12 = .ok (.aload_n 0, 1) := by decide +kernel
theorem d_Tx_at_13 : decode prog_11_method_2_code 13 = .ok (.getfield 9, 3) := by decide +kernel
theorem d_Tx_at_16 : decode prog_11_method_2_code 16 = .ok (.iload_n 1, 1) := by decide +kernel
theorem d_Tx_at_17 : decode prog_11_method_2_code 17 = .ok (.caload, 1) := by decide +kernel
theorem d_Tx_at_18 : decode prog_11_method_2_code 18 = .ok (.goto 4, 3) := by decide +kernel
theorem d_Tx_at_21 : decode prog_11_method_2_code 21 = .ok (.iconst (-1), 1) := by decide +kernel
theorem d_Tx_at_22 : decode prog_11_method_2_code 22 = .ok (.ireturn, 1) := by decide +kernel
theorem d_Tr_takeStartTag_0 : decode prog_12_method_5_code 0 = .ok (.aload_n 0, 1) := by decide +kernel
theorem d_Tr_takeStartTag_1 : decode prog_12_method_5_code 1 = .ok (.iload_n 1, 1) := by decide +kernel
theorem d_Tr_takeStartTag_2 : decode prog_12_method_5_code 2 = .ok (.iload_n 2, 1) := by decide +kernel
theorem d_Tr_takeStartTag_3 : decode prog_12_method_5_code 3 = .ok (.aload_n 3, 1) := by decide +kernel
theorem d_Tr_takeStartTag_4 : decode prog_12_method_5_code 4 = .ok (.invokevirtual 90, 3) := by decide +kernel
theorem d_Tr_takeStartTag_7 : decode prog_12_method_5_code 7 = .ok (.ifCond .eq 11, 3) := by decide +kernel
theorem d_Tr_takeStartTag_10 : decode prog_12_method_5_code 10 = .ok (.aload_n 0, 1) := by decide +kernel
theorem d_Tr_takeStartTag_11 : decode prog_12_method_5_code 11 = .ok (.aload_n 0, 1) := by decide +kernel
theorem d_Tr_takeStartTag_12 : decode prog_12_method_5_code 12 = .ok (.getfield 32, 3) := by decide +kernel
theorem d_Tr_takeStartTag_15 : decode prog_12_method_5_code 15 = .ok (.putfield 39, 3) := by decide +kernel
theorem d_Tr_takeStartTag_18 : decode prog_12_method_5_code 18 = .ok (.return_, 1) := by decide +kernel
theorem d_Tr_begins_0 : decode prog_12_method_7_code 0 = .ok (.aload_n 0, 1) := by decide +kernel
theorem d_Tr_begins_1 : decode prog_12_method_7_code 1 = .ok (.getfield 11, 3) := by decide +kernel
theorem d_Tr_begins_4 : decode prog_12_method_7_code 4 = .ok (.aload_n 0, 1) := by decide +kernel
theorem d_Tr_begins_5 : decode prog_12_method_7_code 5 = .ok (.getfield 39, 3) := by decide +kernel
theorem d_Tr_begins_8 : decode prog_12_method_7_code 8 = .ok (.aaload, 1) := by decide +kernel
theorem d_Tr_begins_9 : decode prog_12_method_7_code 9 = .ok (.astore 4, 2) := by decide +kernel
theorem d_Tr_begins_11 : decode prog_12_method_7_code 11 = .ok (.aload 4, 2) := by decide +kernel
theorem d_Tr_begins_13 : decode prog_12_method_7_code 13 = .ok (.getfield 94, 3) := by decide +kernel
theorem d_Tr_begins_16 : decode prog_12_method_7_code 16 = .ok (.bipush 8, 2) := by decide +kernel
theorem d_Tr_begins_18 : decode prog_12_method_7_code 18 = .ok (.if_icmp .ge 12, 3) := by decide +kernel
theorem d_Tr_begins_21 : decode prog_12_method_7_code 21 = .ok (.aload_n 0, 1) := by decide +kernel
theorem d_Tr_begins_22 : decode prog_12_method_7_code 22 = .ok (.getfield 32, 3) := by decide +kernel
theorem d_Tr_begins_25 : decode prog_12_method_7_code 25 = .ok (.bipush 33, 2) := by decide +kernel
theorem d_Tr_begins_27 : decode prog_12_method_7_code 27 = .ok (.if_icmp .lt 18, 3) := by decide +kernel
theorem d_Tr_begins_30 : decode prog_12_method_7_code 30 = .ok (.aload_n 0, 1) := by decide +kernel
theorem d_Tr_begins_31 : decode prog_12_method_7_code 31 = .ok (.iload_n 1, 1) := by decide +kernel
theorem d_Tr_begins_32 : decode prog_12_method_7_code 32 = .ok (.iload_n 2, 1) := by decide +kernel
theorem d_Tr_begins_33 : decode prog_12_method_7_code 33 = .ok (.iconst (-1), 1) := by decide +kernel
theorem d_Tr_begins_34 : decode prog_12_method_7_code 34 = .ok (.invokevirtual 97, 3) := by decide +kernel
theorem d_Tr_begins_37 : decode prog_12_method_7_code 37 = .ok (.aload_n 3, 1) := by decide +kernel
theorem d_Tr_begins_38 : decode prog_12_method_7_code 38 = .ok (.iconst 2, 1) := by decide +kernel
theorem d_Tr_begins_39 : decode prog_12_method_7_code 39 = .ok (.iload_n 1, 1) := by decide +kernel
theorem d_Tr_begins_40 : decode prog_12_method_7_code 40 = .ok (.invokevirtual 85, 3) := by decide +kernel
theorem d_Tr_begins_43 : decode prog_12_method_7_code 43 = .ok (.iconst 0, 1) := by decide +kernel
theorem d_Tr_begins_44 : decode prog_12_method_7_code 44 = .ok (.ireturn, 1) := by decide +kernel
theorem d_Tr_begins_45 : decode prog_12_method_7_code 45 = .ok (.aload_n 0, 1) := by decide +kernel
theorem d_Tr_begins_46 : decode prog_12_method_7_code 46 = .ok (.dup, 1) := by decide +kernel
theorem d_Tr_begins_47 : decode prog_12_method_7_code 47 = .ok (.getfield 32, 3) := by decide +kernel
theorem d_Tr_begins_50 : decode prog_12_method_7_code 50 = .ok (.iconst 1, 1) := by decide +kernel
theorem d_Tr_begins_51 : decode prog_12_method_7_code 51 = .ok (.iadd, 1) := by decide +kernel
theorem d_Tr_begins_52 : decode prog_12_method_7_code 52 = .ok (.putfield 32, 3) := by decide +kernel
theorem d_Tr_begins_55 : decode prog_12_method_7_code 55 = .ok (.aload 4, 2) := by decide +kernel
theorem d_Tr_begins_57 : decode prog_12_method_7_code 57 = .ok (.dup, 1) := by decide +kernel
theorem d_Tr_begins_58 : decode prog_12_method_7_code 58 = .ok (.getfield 100, 3) := by decide +kernel
theorem d_Tr_begins_61 : decode prog_12_method_7_code 61 = .ok (.iconst 1, 1) := by decide +kernel
theorem d_Tr_begins_62 : decode prog_12_method_7_code 62 = .ok (.iadd, 1) := by decide +kernel
theorem d_Tr_begins_63 : decode prog_12_method_7_code 63 = .ok (.putfield 100, 3) := by decide +kernel
theorem d_Tr_begins_66 : decode prog_12_method_7_code 66 = .ok (.aload_n 0, 1) := by decide +kernel
theorem d_Tr_begins_67 : decode prog_12_method_7_code 67 = .ok (.getfield 11, 3) := by decide +kernel
theorem d_Tr_begins_70 : decode prog_12_method_7_code 70 = .ok (.aload_n 0, 1) := by decide +kernel
theorem d_Tr_begins_71 : decode prog_12_method_7_code 71 = .ok (.getfield 32, 3) := by decide +kernel
theorem d_Tr_begins_74 : decode prog_12_method_7_code 74 = .ok (.aaload, 1) := by decide +kernel
theorem d_Tr_begins_75 : decode prog_12_method_7_code 75 = .ok (.aload_n 0, 1) := by decide +kernel
theorem d_Tr_begins_76 : decode prog_12_method_7_code 76 = .ok (.getfield 27, 3) := by decide +kernel
theorem d_Tr_begins_79 : decode prog_12_method_7_code 79 = .ok (.iload_n 1, 1) := by decide +kernel
theorem d_Tr_begins_80 : decode prog_12_method_7_code 80 = .ok (.iconst 1, 1) := by decide +kernel
theorem d_Tr_begins_81 : decode prog_12_method_7_code 81 = .ok (.iadd, 1) := by decide +kernel
theorem d_Tr_begins_82 : decode prog_12_method_7_code 82 = .ok (.invokevirtual 80, 3) := by decide +kernel
theorem d_Tr_begins_85 : decode prog_12_method_7_code 85 = .ok (.aload_n 0, 1) := by decide +kernel
theorem d_Tr_begins_86 : decode prog_12_method_7_code 86 = .ok (.getfield 39, 3) := by decide +kernel
theorem d_Tr_begins_89 : decode prog_12_method_7_code 89 = .ok (.aload 4, 2) := by decide +kernel
theorem d_Tr_begins_91 : decode prog_12_method_7_code 91 = .ok (.getfield 94, 3) := by decide +kernel
theorem d_Tr_begins_94 : decode prog_12_method_7_code 94 = .ok (.iconst 1, 1) := by decide +kernel
theorem d_Tr_begins_95 : decode prog_12_method_7_code 95 = .ok (.iadd, 1) := by decide +kernel
theorem d_Tr_begins_96 : decode prog_12_method_7_code 96 = .ok (.iload_n 1, 1) := by decide +kernel
theorem d_Tr_begins_97 : decode prog_12_method_7_code 97 = .ok (.iload_n 2, 1) := by decide +kernel
theorem d_Tr_begins_98 : decode prog_12_method_7_code 98 = .ok (.invokevirtual 42, 3) := by decide +kernel
theorem d_Tr_begins_101 : decode prog_12_method_7_code 101 = .ok (.aload_n 0, 1) := by decide +kernel
theorem d_Tr_begins_102 : decode prog_12_method_7_code 102 = .ok (.iload_n 1, 1) := by decide +kernel
theorem d_Tr_begins_103 : decode prog_12_method_7_code 103 = .ok (.iload_n 2, 1) := by decide +kernel
theorem d_Tr_begins_104 : decode prog_12_method_7_code 104 = .ok (.aload_n 0, 1) := by decide +kernel
theorem d_Tr_begins_105 : decode prog_12_method_7_code 105 = .ok (.getfield 32, 3) := by decide +kernel
theorem d_Tr_begins_108 : decode prog_12_method_7_code 108 = .ok (.invokevirtual 97, 3) := by decide +kernel
theorem d_Tr_begins_111 : decode prog_12_method_7_code 111 = .ok (.iconst 1, 1) := by decide +kernel
theorem d_Tr_begins_112 : decode prog_12_method_7_code 112 = .ok (.ireturn, 1) := by decide +kernel
theorem d_Tr_addTag_0 : decode prog_12_method_11_code 0 = .ok (.aload_n 0, 1) := by decide +kernel
theorem d_Tr_addTag_1 : decode prog_12_method_11_code 1 = .ok (.getfield 36, 3) := by decide +kernel
theorem d_Tr_addTag_4 : decode prog_12_method_11_code 4 = .ok (.bipush 33, 2) := by decide +kernel
theorem d_Tr_addTag_6 : decode prog_12_method_11_code 6 = .ok (.if_icmp .ge 43, 3) := by decide +kernel
theorem d_Tr_addTag_9 : decode prog_12_method_11_code 9 = .ok (.aload_n 0, 1) := by decide +kernel
theorem d_Tr_addTag_10 : decode prog_12_method_11_code 10 = .ok (.getfield 17, 3) := by decide +kernel
theorem d_Tr_addTag_13 : decode prog_12_method_11_code 13 = .ok (.aload_n 0, 1) := by decide +kernel
theorem d_Tr_addTag_14 : decode prog_12_method_11_code 14 = .ok (.getfield 36, 3) := by decide +kernel
theorem d_Tr_addTag_17 : decode prog_12_method_11_code 17 = .ok (.iload_n 1, 1) := by decide +kernel
theorem d_Tr_addTag_18 : decode prog_12_method_11_code 18 = .ok (.iastore, 1) := by decide +kernel
theorem d_Tr_addTag_19 : decode prog_12_method_11_code 19 = .ok (.aload_n 0, 1) := by decide +kernel
theorem d_Tr_addTag_20 : decode prog_12_method_11_code 20 = .ok (.getfield 21, 3) := by decide +kernel
theorem d_Tr_addTag_23 : decode prog_12_method_11_code 23 = .ok (.aload_n 0, 1) := by decide +kernel
theorem d_Tr_addTag_24 : decode prog_12_method_11_code 24 = .ok (.getfield 36, 3) := by decide +kernel
theorem d_Tr_addTag_27 : decode prog_12_method_11_code 27 = .ok (.iload_n 2, 1) := by decide +kernel
theorem d_Tr_addTag_28 : decode prog_12_method_11_code 28 = .ok (.iastore, 1) := by decide +kernel
theorem d_Tr_addTag_29 : decode prog_12_method_11_code 29 = .ok (.aload_n 0, 1) := by decide +kernel
theorem d_Tr_addTag_30 : decode prog_12_method_11_code 30 = .ok (.getfield 24, 3) := by decide +kernel
theorem d_Tr_addTag_33 : decode prog_12_method_11_code 33 = .ok (.aload_n 0, 1) := by decide +kernel
theorem d_Tr_addTag_34 : decode prog_12_method_11_code 34 = .ok (.getfield 36, 3) := by decide +kernel
theorem d_Tr_addTag_37 : decode prog_12_method_11_code 37 = .ok (.iload_n 3, 1) := by decide +kernel
theorem d_Tr_addTag_38 : decode prog_12_method_11_code 38 = .ok (.iastore, 1) := by decide +kernel
theorem d_Tr_addTag_39 : decode prog_12_method_11_code 39 = .ok (.aload_n 0, 1) := by decide +kernel
theorem d_Tr_addTag_40 : decode prog_12_method_11_code 40 = .ok (.dup, 1) := by decide +kernel
theorem d_Tr_addTag_41 : decode prog_12_method_11_code 41 = .ok (.getfield 36, 3) := by decide +kernel
theorem d_Tr_addTag_44 : decode prog_12_method_11_code 44 = .ok (.iconst 1, 1) := by decide +kernel
theorem d_Tr_addTag_45 : decode prog_12_method_11_code 45 = .ok (.iadd, 1) := by decide +kernel
theorem d_Tr_addTag_46 : decode prog_12_method_11_code 46 = .ok (.putfield 36, 3) := by decide +kernel
theorem d_Tr_addTag_49 : decode prog_12_method_11_code 49 = .ok (.return_, 1) := by decide +kernel
theorem d_Tr_takeEmptyTag_0 : decode prog_12_method_6_code 0 = .ok (.aload_n 0, 1) := by decide +kernel
theorem d_Tr_takeEmptyTag_1 : decode prog_12_method_6_code 1 = .ok (.iload_n 1, 1) := by decide +kernel
theorem d_Tr_takeEmptyTag_2 : decode prog_12_method_6_code 2 = .ok (.iload_n 2, 1) := by decide +kernel
theorem d_Tr_takeEmptyTag_3 : decode prog_12_method_6_code 3 = .ok (.aload_n 3, 1) := by decide +kernel
theorem d_Tr_takeEmptyTag_4 : decode prog_12_method_6_code 4 = .ok (.invokevirtual 90, 3) := by decide +kernel
theorem d_Tr_takeEmptyTag_7 : decode prog_12_method_6_code 7 = .ok (.ifCond .eq 18, 3) := by decide +kernel
theorem d_Tr_takeEmptyTag_10 : decode prog_12_method_6_code 10 = .ok (.aload_n 0, 1) := by decide +kernel
theorem d_Tr_takeEmptyTag_11 : decode prog_12_method_6_code 11 = .ok (.getfield 11, 3) := by decide +kernel
theorem d_Tr_takeEmptyTag_14 : decode prog_12_method_6_code 14 = .ok (.aload_n 0, 1) := by decide +kernel
theorem d_Tr_takeEmptyTag_15 : decode prog_12_method_6_code 15 = .ok (.getfield 32, 3) := by decide +kernel
theorem d_Tr_takeEmptyTag_18 : decode prog_12_method_6_code 18 = .ok (.aaload, 1) := by decide +kernel
theorem d_Tr_takeEmptyTag_19 : decode prog_12_method_6_code 19 = .ok (.iconst 2, 1) := by decide +kernel
theorem d_Tr_takeEmptyTag_20 : decode prog_12_method_6_code 20 = .ok (.iload_n 2, 1) := by decide +kernel
theorem d_Tr_takeEmptyTag_21 : decode prog_12_method_6_code 21 = .ok (.iload_n 2, 1) := by decide +kernel
theorem d_Tr_takeEmptyTag_22 : decode prog_12_method_6_code 22 = .ok (.invokevirtual 58, 3) := by decide +kernel
theorem d_Tr_takeEmptyTag_25 : decode prog_12_method_6_code 25 = .ok (.return_, 1) := by decide +kernel
theorem d_Tr_takeEndTag_0 : decode prog_12_method_8_code 0 = .ok (.aload_n 0, 1) := by decide +kernel
theorem d_Tr_takeEndTag_1 : decode prog_12_method_8_code 1 = .ok (.aload_n 0, 1) := by decide +kernel
theorem d_Tr_takeEndTag_2 : decode prog_12_method_8_code 2 = .ok (.getfield 27, 3) := by decide +kernel
theorem d_Tr_takeEndTag_5 : decode prog_12_method_8_code 5 = .ok (.iload_n 1, 1) := by decide +kernel
theorem d_Tr_takeEndTag_6 : decode prog_12_method_8_code 6 = .ok (.iconst 2, 1) := by decide +kernel
theorem d_Tr_takeEndTag_7 : decode prog_12_method_8_code 7 = .ok (.iadd, 1) := by decide +kernel
theorem d_Tr_takeEndTag_8 : decode prog_12_method_8_code 8 = .ok (.invokevirtual 80, 3) := by decide +kernel
theorem d_Tr_takeEndTag_11 : decode prog_12_method_8_code 11 = .ok (.invokevirtual 103, 3) := by decide +kernel
theorem d_Tr_takeEndTag_14 : decode prog_12_method_8_code 14 = .ok (.istore 4, 2) := by decide +kernel
theorem d_Tr_takeEndTag_16 : decode prog_12_method_8_code 16 = .ok (.iload 4, 2) := by decide +kernel
theorem d_Tr_takeEndTag_18 : decode prog_12_method_8_code 18 = .ok (.ifCond .ne 17, 3) := by decide +kernel
theorem d_Tr_takeEndTag_21 : decode prog_12_method_8_code 21 = .ok (.aload_n 0, 1) := by decide +kernel
theorem d_Tr_takeEndTag_22 : decode prog_12_method_8_code 22 = .ok (.iload_n 1, 1) := by decide +kernel
theorem d_Tr_takeEndTag_23 : decode prog_12_method_8_code 23 = .ok (.iload_n 2, 1) := by decide +kernel
theorem d_Tr_takeEndTag_24 : decode prog_12_method_8_code 24 = .ok (.iconst (-1), 1) := by decide +kernel
theorem d_Tr_takeEndTag_25 : decode prog_12_method_8_code 25 = .ok (.invokevirtual 97, 3) := by decide +kernel
theorem d_Tr_takeEndTag_28 : decode prog_12_method_8_code 28 = .ok (.aload_n 3, 1) := by decide +kernel
theorem d_Tr_takeEndTag_29 : decode prog_12_method_8_code 29 = .ok (.iconst 3, 1) := by decide +kernel
theorem d_Tr_takeEndTag_30 : decode prog_12_method_8_code 30 = .ok (.iload_n 1, 1) := by decide +kernel
theorem d_Tr_takeEndTag_31 : decode prog_12_method_8_code 31 = .ok (.invokevirtual 85, 3) := by decide +kernel
theorem d_Tr_takeEndTag_34 : decode prog_12_method_8_code 34 = .ok (.return_, 1) := by decide +kernel
theorem d_Tr_takeEndTag_35 : decode prog_12_method_8_code 35 = .ok (.aload_n 0, 1) := by decide +kernel
theorem d_Tr_takeEndTag_36 : decode prog_12_method_8_code 36 = .ok (.iload 4, 2) := by decide +kernel
theorem d_Tr_takeEndTag_38 : decode prog_12_method_8_code 38 = .ok (.iload_n 1, 1) := by decide +kernel
theorem d_Tr_takeEndTag_39 : decode prog_12_method_8_code 39 = .ok (.invokevirtual 54, 3) := by decide +kernel
theorem d_Tr_takeEndTag_42 : decode prog_12_method_8_code 42 = .ok (.aload_n 0, 1) := by decide +kernel
theorem d_Tr_takeEndTag_43 : decode prog_12_method_8_code 43 = .ok (.getfield 11, 3) := by decide +kernel
theorem d_Tr_takeEndTag_46 : decode prog_12_method_8_code 46 = .ok (.iload 4, 2) := by decide +kernel
theorem d_Tr_takeEndTag_48 : decode prog_12_method_8_code 48 = .ok (.aaload, 1) := by decide +kernel
theorem d_Tr_takeEndTag_49 : decode prog_12_method_8_code 49 = .ok (.iconst 3, 1) := by decide +kernel
theorem d_Tr_takeEndTag_50 : decode prog_12_method_8_code 50 = .ok (.iload_n 1, 1) := by decide +kernel
theorem d_Tr_takeEndTag_51 : decode prog_12_method_8_code 51 = .ok (.iload_n 2, 1) := by decide +kernel
theorem d_Tr_takeEndTag_52 : decode prog_12_method_8_code 52 = .ok (.invokevirtual 58, 3) := by decide +kernel
theorem d_Tr_takeEndTag_55 : decode prog_12_method_8_code 55 = .ok (.aload_n 0, 1) := by decide +kernel
theorem d_Tr_takeEndTag_56 : decode prog_12_method_8_code 56 = .ok (.aload_n 0, 1) := by decide +kernel
theorem d_Tr_takeEndTag_57 : decode prog_12_method_8_code 57 = .ok (.getfield 11, 3) := by decide +kernel
theorem d_Tr_takeEndTag_60 : decode prog_12_method_8_code 60 = .ok (.iload 4, 2) := by decide +kernel
theorem d_Tr_takeEndTag_62 : decode prog_12_method_8_code 62 = .ok (.aaload, 1) := by decide +kernel
theorem d_Tr_takeEndTag_63 : decode prog_12_method_8_code 63 = .ok (.getfield 106, 3) := by decide +kernel
theorem d_Tr_takeEndTag_66 : decode prog_12_method_8_code 66 = .ok (.putfield 39, 3) := by decide +kernel
theorem d_Tr_takeEndTag_69 : decode prog_12_method_8_code 69 = .ok (.aload_n 0, 1) := by decide +kernel
theorem d_Tr_takeEndTag_70 : decode prog_12_method_8_code 70 = .ok (.iload_n 1, 1) := by decide +kernel
theorem d_Tr_takeEndTag_71 : decode prog_12_method_8_code 71 = .ok (.iload_n 2, 1) := by decide +kernel
theorem d_Tr_takeEndTag_72 : decode prog_12_method_8_code 72 = .ok (.iload 4, 2) := by decide +kernel
theorem d_Tr_takeEndTag_74 : decode prog_12_method_8_code 74 = .ok (.invokevirtual 97, 3) := by decide +kernel
theorem d_Tr_takeEndTag_77 : decode prog_12_method_8_code 77 = .ok (.return_, 1) := by decide +kernel
theorem d_Tr_latestOpenWith_0 : decode prog_12_method_9_code 0 = .ok (.aload_n 0, 1) := by decide +kernel
theorem d_Tr_latestOpenWith_1 : decode prog_12_method_9_code 1 = .ok (.getfield 39, 3) := by decide +kernel
theorem d_Tr_latestOpenWith_4 : decode prog_12_method_9_code 4 = .ok (.istore_n 2, 1) := by decide +kernel
theorem d_Tr_latestOpenWith_5 : decode prog_12_method_9_code 5 = .ok (.iconst 0, 1) := by decide +kernel
theorem d_Tr_latestOpenWith_6 : decode prog_12_method_9_code 6 = .ok (.istore_n 3, 1) := by decide +kernel
theorem d_Tr_latestOpenWith_7 : decode prog_12_method_9_code 7 = .ok (.iload_n 3, 1) := by decide +kernel
theorem d_Tr_latestOpenWith_8 : decode prog_12_method_9_code 8 = .ok (.bipush 8, 2) := by decide +kernel
theorem d_Tr_latestOpenWith_10 : decode prog_12_method_9_code 10 = .ok (.if_icmp .ge 38, 3) := by decide +kernel
theorem d_Tr_latestOpenWith_13 : decode prog_12_method_9_code 13 = .ok (.iload_n 2, 1) := by decide +kernel
theorem d_Tr_latestOpenWith_14 : decode prog_12_method_9_code 14 = .ok (.ifCond .eq 34, 3) := by decide +kernel
theorem d_Tr_latestOpenWith_17 : decode prog_12_method_9_code 17 = .ok (.aload_n 0, 1) := by decide +kernel
theorem d_Tr_latestOpenWith_18 : decode prog_12_method_9_code 18 = .ok (.getfield 11, 3) := by decide +kernel
theorem d_Tr_latestOpenWith_21 : decode prog_12_method_9_code 21 = .ok (.iload_n 2, 1) := by decide +kernel
theorem d_Tr_latestOpenWith_22 : decode prog_12_method_9_code 22 = .ok (.aaload, 1) := by decide +kernel
theorem d_Tr_latestOpenWith_23 : decode prog_12_method_9_code 23 = .ok (.getfield 109, 3) := by decide +kernel
theorem d_Tr_latestOpenWith_26 : decode prog_12_method_9_code 26 = .ok (.iload_n 1, 1) := by decide +kernel
theorem d_Tr_latestOpenWith_27 : decode prog_12_method_9_code 27 = .ok (.if_icmp .ne 5, 3) := by decide +kernel
theorem d_Tr_latestOpenWith_30 : decode prog_12_method_9_code 30 = .ok (.iload_n 2, 1) := by decide +kernel
theorem d_Tr_latestOpenWith_31 : decode prog_12_method_9_code 31 = .ok (.ireturn, 1) := by decide +kernel
theorem d_Tr_latestOpenWith_32 : decode prog_12_method_9_code 32 = .ok (.aload_n 0, 1) := by decide +kernel
theorem d_Tr_latestOpenWith_33 : decode prog_12_method_9_code 33 = .ok (.getfield 11, 3) := by decide +kernel
theorem d_Tr_latestOpenWith_36 : decode prog_12_method_9_code 36 = .ok (.iload_n 2, 1) := by decide +kernel
theorem d_Tr_latestOpenWith_37 : decode prog_12_method_9_code 37 = .ok (.aaload, 1) := by decide +kernel
theorem d_Tr_latestOpenWith_38 : decode prog_12_method_9_code 38 = .ok (.getfield 106, 3) := by decide +kernel
theorem d_Tr_latestOpenWith_41 : decode prog_12_method_9_code 41 = .ok (.istore_n 2, 1) := by decide +kernel
theorem d_Tr_latestOpenWith_42 : decode prog_12_method_9_code 42 = .ok (.iinc 3 1, 3) := by decide +kernel
theorem d_Tr_latestOpenWith_45 : decode prog_12_method_9_code 45 = .ok (.goto (-38), 3) := by decide +kernel
theorem d_Tr_latestOpenWith_48 : decode prog_12_method_9_code 48 = .ok (.iconst 0, 1) := by decide +kernel
theorem d_Tr_latestOpenWith_49 : decode prog_12_method_9_code 49 = .ok (.ireturn, 1) := by decide +kernel
theorem d_Tr_closeUpTo_0 : decode prog_12_method_10_code 0 = .ok (.iconst 0, 1) := by decide +kernel
theorem d_Tr_closeUpTo_1 : decode prog_12_method_10_code 1 = .ok (.istore_n 3, 1) := by decide +kernel
theorem d_Tr_closeUpTo_2 : decode prog_12_method_10_code 2 = .ok (.iload_n 3, 1) := by decide +kernel
theorem d_Tr_closeUpTo_3 : decode prog_12_method_10_code 3 = .ok (.bipush 8, 2) := by decide +kernel
theorem d_Tr_closeUpTo_5 : decode prog_12_method_10_code 5 = .ok (.if_icmp .ge 48, 3) := by decide +kernel
theorem d_Tr_closeUpTo_8 : decode prog_12_method_10_code 8 = .ok (.aload_n 0, 1) := by decide +kernel
theorem d_Tr_closeUpTo_9 : decode prog_12_method_10_code 9 = .ok (.getfield 39, 3) := by decide +kernel
theorem d_Tr_closeUpTo_12 : decode prog_12_method_10_code 12 = .ok (.iload_n 1, 1) := by decide +kernel
theorem d_Tr_closeUpTo_13 : decode prog_12_method_10_code 13 = .ok (.if_icmp .eq 40, 3) := by decide +kernel
theorem d_Tr_closeUpTo_16 : decode prog_12_method_10_code 16 = .ok (.aload_n 0, 1) := by decide +kernel
theorem d_Tr_closeUpTo_17 : decode prog_12_method_10_code 17 = .ok (.getfield 11, 3) := by decide +kernel
theorem d_Tr_closeUpTo_20 : decode prog_12_method_10_code 20 = .ok (.aload_n 0, 1) := by decide +kernel
theorem d_Tr_closeUpTo_21 : decode prog_12_method_10_code 21 = .ok (.getfield 39, 3) := by decide +kernel
theorem d_Tr_closeUpTo_24 : decode prog_12_method_10_code 24 = .ok (.aaload, 1) := by decide +kernel
theorem d_Tr_closeUpTo_25 : decode prog_12_method_10_code 25 = .ok (.iconst 0, 1) := by decide +kernel
theorem d_Tr_closeUpTo_26 : decode prog_12_method_10_code 26 = .ok (.iload_n 2, 1) := by decide +kernel
theorem d_Tr_closeUpTo_27 : decode prog_12_method_10_code 27 = .ok (.iload_n 2, 1) := by decide +kernel
theorem d_Tr_closeUpTo_28 : decode prog_12_method_10_code 28 = .ok (.invokevirtual 58, 3) := by decide +kernel
theorem d_Tr_closeUpTo_31 : decode prog_12_method_10_code 31 = .ok (.aload_n 0, 1) := by decide +kernel
theorem d_Tr_closeUpTo_32 : decode prog_12_method_10_code 32 = .ok (.aload_n 0, 1) := by decide +kernel
theorem d_Tr_closeUpTo_33 : decode prog_12_method_10_code 33 = .ok (.getfield 11, 3) := by decide +kernel
theorem d_Tr_closeUpTo_36 : decode prog_12_method_10_code 36 = .ok (.aload_n 0, 1) := by decide +kernel
theorem d_Tr_closeUpTo_37 : decode prog_12_method_10_code 37 = .ok (.getfield 39, 3) := by decide +kernel
theorem d_Tr_closeUpTo_40 : decode prog_12_method_10_code 40 = .ok (.aaload, 1) := by decide +kernel
theorem d_Tr_closeUpTo_41 : decode prog_12_method_10_code 41 = .ok (.getfield 106, 3) := by decide +kernel
theorem d_Tr_closeUpTo_44 : decode prog_12_method_10_code 44 = .ok (.putfield 39, 3) := by decide +kernel
theorem d_Tr_closeUpTo_47 : decode prog_12_method_10_code 47 = .ok (.iinc 3 1, 3) := by decide +kernel
theorem d_Tr_closeUpTo_50 : decode prog_12_method_10_code 50 = .ok (.goto (-48), 3) := by decide +kernel
theorem d_Tr_closeUpTo_53 : decode prog_12_method_10_code 53 = .ok (.return_, 1) := by decide +kernel
theorem d_Tr_takeCharacter_0 : decode prog_12_method_4_code 0 = .ok (.aload_n 0, 1) := by decide +kernel
theorem d_Tr_takeCharacter_1 : decode prog_12_method_4_code 1 = .ok (.getfield 27, 3) := by decide +kernel
theorem d_Tr_takeCharacter_4 : decode prog_12_method_4_code 4 = .ok (.iload_n 1, 1) := by decide +kernel
theorem d_Tr_takeCharacter_5 : decode prog_12_method_4_code 5 = .ok (.invokevirtual 80, 3) := by decide +kernel
theorem d_Tr_takeCharacter_8 : decode prog_12_method_4_code 8 = .ok (.istore_n 3, 1) := by decide +kernel
theorem d_Tr_takeCharacter_9 : decode prog_12_method_4_code 9 = .ok (.aload_n 0, 1) := by decide +kernel
theorem d_Tr_takeCharacter_10 : decode prog_12_method_4_code 10 = .ok (.getfield 11, 3) := by decide +kernel
theorem d_Tr_takeCharacter_13 : decode prog_12_method_4_code 13 = .ok (.aload_n 0, 1) := by decide +kernel
theorem d_Tr_takeCharacter_14 : decode prog_12_method_4_code 14 = .ok (.getfield 39, 3) := by decide +kernel
theorem d_Tr_takeCharacter_17 : decode prog_12_method_4_code 17 = .ok (.aaload, 1) := by decide +kernel
theorem d_Tr_takeCharacter_18 : decode prog_12_method_4_code 18 = .ok (.iload_n 3, 1) := by decide +kernel
theorem d_Tr_takeCharacter_19 : decode prog_12_method_4_code 19 = .ok (.iload_n 1, 1) := by decide +kernel
theorem d_Tr_takeCharacter_20 : decode prog_12_method_4_code 20 = .ok (.invokevirtual 83, 3) := by decide +kernel
theorem d_Tr_takeCharacter_23 : decode prog_12_method_4_code 23 = .ok (.iload_n 3, 1) := by decide +kernel
theorem d_Tr_takeCharacter_24 : decode prog_12_method_4_code 24 = .ok (.bipush 60, 2) := by decide +kernel
theorem d_Tr_takeCharacter_26 : decode prog_12_method_4_code 26 = .ok (.if_icmp .ne 9, 3) := by decide +kernel
theorem d_Tr_takeCharacter_29 : decode prog_12_method_4_code 29 = .ok (.aload_n 2, 1) := by decide +kernel
theorem d_Tr_takeCharacter_30 : decode prog_12_method_4_code 30 = .ok (.iconst 1, 1) := by decide +kernel
theorem d_Tr_takeCharacter_31 : decode prog_12_method_4_code 31 = .ok (.iload_n 1, 1) := by decide +kernel
theorem d_Tr_takeCharacter_32 : decode prog_12_method_4_code 32 = .ok (.invokevirtual 85, 3) := by decide +kernel
theorem d_Tr_takeCharacter_35 : decode prog_12_method_4_code 35 = .ok (.return_, 1) := by decide +kernel
theorem d_Ms_of_0 : decode prog_10_method_2_code 0 = .ok (.aload_n 0, 1) := by decide +kernel
theorem d_Ms_of_1 : decode prog_10_method_2_code 1 = .ok (.getfield 11, 3) := by decide +kernel
theorem d_Ms_of_4 : decode prog_10_method_2_code 4 = .ok (.iload_n 1, 1) := by decide +kernel
theorem d_Ms_of_5 : decode prog_10_method_2_code 5 = .ok (.invokestatic 22, 3) := by decide +kernel
theorem d_Ms_of_8 : decode prog_10_method_2_code 8 = .ok (.aaload, 1) := by decide +kernel
theorem d_Ms_of_9 : decode prog_10_method_2_code 9 = .ok (.areturn, 1) := by decide +kernel
theorem d_Mo_forbidsCharacters_0 : decode prog_8_method_6_code 0 = .ok (.aload_n 0, 1) := by decide +kernel
theorem d_Mo_forbidsCharacters_1 : decode prog_8_method_6_code 1 = .ok (.getfield 18, 3) := by decide +kernel
theorem d_Mo_forbidsCharacters_4 : decode prog_8_method_6_code 4 = .ok (.ifCond .eq 14, 3) := by decide +kernel
theorem d_Mo_forbidsCharacters_7 : decode prog_8_method_6_code 7 = .ok (.aload_n 0, 1) := by decide +kernel
theorem d_Mo_forbidsCharacters_8 : decode prog_8_method_6_code 8 = .ok (.getfield 22, 3) := by decide +kernel
theorem d_Mo_forbidsCharacters_11 : decode prog_8_method_6_code 11 = .ok (.ifCond .ne 7, 3) := by decide +kernel
theorem d_Mo_forbidsCharacters_14 : decode prog_8_method_6_code 14 = .ok (.iconst 1, 1) := by decide +kernel
theorem d_Mo_forbidsCharacters_15 : decode prog_8_method_6_code 15 = .ok (.goto 4, 3) := by decide +kernel
theorem d_Mo_forbidsCharacters_18 : decode prog_8_method_6_code 18 = .ok (.iconst 0, 1) := by decide +kernel
theorem d_Mo_forbidsCharacters_19 : decode prog_8_method_6_code 19 = .ok (.ireturn, 1) := by decide +kernel
theorem d_Ms_allowChildren_0 : decode prog_10_method_4_code 0 = .ok (.aload_n 0, 1) := by decide +kernel
theorem d_Ms_allowChildren_1 : decode prog_10_method_4_code 1 = .ok (.aload_n 1, 1) := by decide +kernel
theorem d_Ms_allowChildren_2 : decode prog_10_method_4_code 2 = .ok (.getfield 29, 3) := by decide +kernel
theorem d_Ms_allowChildren_5 : decode prog_10_method_4_code 5 = .ok (.iload_n 2, 1) := by decide +kernel
theorem d_Ms_allowChildren_6 : decode prog_10_method_4_code 6 = .ok (.aaload, 1) := by decide +kernel
theorem d_Ms_allowChildren_7 : decode prog_10_method_4_code 7 = .ok (.getfield 35, 3) := by decide +kernel
theorem d_Ms_allowChildren_10 : decode prog_10_method_4_code 10 = .ok (.invokevirtual 41, 3) := by decide +kernel
theorem d_Ms_allowChildren_13 : decode prog_10_method_4_code 13 = .ok (.astore_n 3, 1) := by decide +kernel
theorem d_Ms_allowChildren_14 : decode prog_10_method_4_code 14 = .ok (.aload_n 3, 1) := by decide +kernel
theorem d_Ms_allowChildren_15 : decode prog_10_method_4_code 15 = .ok (.aload_n 1, 1) := by decide +kernel
theorem d_Ms_allowChildren_16 : decode prog_10_method_4_code 16 = .ok (.aload_n 3, 1) := by decide +kernel
theorem d_Ms_allowChildren_17 : decode prog_10_method_4_code 17 = .ok (.aload_n 3, 1) := by decide +kernel
theorem d_Ms_allowChildren_18 : decode prog_10_method_4_code 18 = .ok (.invokevirtual 45, 3) := by decide +kernel
theorem d_Ms_allowChildren_21 : decode prog_10_method_4_code 21 = .ok (.iload_n 2, 1) := by decide +kernel
theorem d_Ms_allowChildren_22 : decode prog_10_method_4_code 22 = .ok (.iconst 0, 1) := by decide +kernel
theorem d_Ms_allowChildren_23 : decode prog_10_method_4_code 23 = .ok (.bipush 100, 2) := by decide +kernel
theorem d_Ms_allowChildren_25 : decode prog_10_method_4_code 25 = .ok (.invokevirtual 49, 3) := by decide +kernel
theorem d_Ms_allowChildren_28 : decode prog_10_method_4_code 28 = .ok (.invokevirtual 53, 3) := by decide +kernel
theorem d_Ms_allowChildren_31 : decode prog_10_method_4_code 31 = .ok (.ireturn, 1) := by decide +kernel
theorem d_Tr_stepChildren_0 : decode prog_12_method_16_code 0 = .ok (.iload_n 2, 1) := by decide +kernel
theorem d_Tr_stepChildren_1 : decode prog_12_method_16_code 1 = .ok (.istore 6, 2) := by decide +kernel
theorem d_Tr_stepChildren_3 : decode prog_12_method_16_code 3 = .ok (.iload_n 3, 1) := by decide +kernel
theorem d_Tr_stepChildren_4 : decode prog_12_method_16_code 4 = .ok (.iconst 1, 1) := by decide +kernel
theorem d_Tr_stepChildren_5 : decode prog_12_method_16_code 5 = .ok (.iadd, 1) := by decide +kernel
theorem d_Tr_stepChildren_6 : decode prog_12_method_16_code 6 = .ok (.istore 7, 2) := by decide +kernel
theorem d_Tr_stepChildren_8 : decode prog_12_method_16_code 8 = .ok (.iload 7, 2) := by decide +kernel
theorem d_Tr_stepChildren_10 : decode prog_12_method_16_code 10 = .ok (.aload_n 0, 1) := by decide +kernel
theorem d_Tr_stepChildren_11 : decode prog_12_method_16_code 11 = .ok (.getfield 32, 3) := by decide +kernel
theorem d_Tr_stepChildren_14 : decode prog_12_method_16_code 14 = .ok (.if_icmp .gt 60, 3) := by decide +kernel
theorem d_Tr_stepChildren_17 : decode prog_12_method_16_code 17 = .ok (.aload_n 0, 1) := by decide +kernel
theorem d_Tr_stepChildren_18 : decode prog_12_method_16_code 18 = .ok (.getfield 11, 3) := by decide +kernel
theorem d_Tr_stepChildren_21 : decode prog_12_method_16_code 21 = .ok (.iload 7, 2) := by decide +kernel
theorem d_Tr_stepChildren_23 : decode prog_12_method_16_code 23 = .ok (.aaload, 1) := by decide +kernel
theorem d_Tr_stepChildren_24 : decode prog_12_method_16_code 24 = .ok (.astore 8, 2) := by decide +kernel
theorem d_Tr_stepChildren_26 : decode prog_12_method_16_code 26 = .ok (.aload 8, 2) := by decide +kernel
theorem d_Tr_stepChildren_28 : decode prog_12_method_16_code 28 = .ok (.getfield 106, 3) := by decide +kernel
theorem d_Tr_stepChildren_31 : decode prog_12_method_16_code 31 = .ok (.iload_n 3, 1) := by decide +kernel
theorem d_Tr_stepChildren_32 : decode prog_12_method_16_code 32 = .ok (.if_icmp .ne 36, 3) := by decide +kernel
theorem d_Tr_stepChildren_35 : decode prog_12_method_16_code 35 = .ok (.iload 4, 2) := by decide +kernel
theorem d_Tr_stepChildren_37 : decode prog_12_method_16_code 37 = .ok (.aload 8, 2) := by decide +kernel
theorem d_Tr_stepChildren_39 : decode prog_12_method_16_code 39 = .ok (.getfield 119, 3) := by decide +kernel
theorem d_Tr_stepChildren_42 : decode prog_12_method_16_code 42 = .ok (.if_icmp .gt 26, 3) := by decide +kernel
theorem d_Tr_stepChildren_45 : decode prog_12_method_16_code 45 = .ok (.aload 8, 2) := by decide +kernel
theorem d_Tr_stepChildren_47 : decode prog_12_method_16_code 47 = .ok (.getfield 119, 3) := by decide +kernel
theorem d_Tr_stepChildren_50 : decode prog_12_method_16_code 50 = .ok (.iload 5, 2) := by decide +kernel
theorem d_Tr_stepChildren_52 : decode prog_12_method_16_code 52 = .ok (.if_icmp .ge 16, 3) := by decide +kernel
theorem d_Tr_stepChildren_55 : decode prog_12_method_16_code 55 = .ok (.aload_n 1, 1) := by decide +kernel
theorem d_Tr_stepChildren_56 : decode prog_12_method_16_code 56 = .ok (.iload 6, 2) := by decide +kernel
theorem d_Tr_stepChildren_58 : decode prog_12_method_16_code 58 = .ok (.aload 8, 2) := by decide +kernel
theorem d_Tr_stepChildren_60 : decode prog_12_method_16_code 60 = .ok (.getfield 109, 3) := by decide +kernel
theorem d_Tr_stepChildren_63 : decode prog_12_method_16_code 63 = .ok (.invokevirtual 122, 3) := by decide +kernel
theorem d_Tr_stepChildren_66 : decode prog_12_method_16_code 66 = .ok (.istore 6, 2) := by decide +kernel
theorem d_Tr_stepChildren_68 : decode prog_12_method_16_code 68 = .ok (.iinc 7 1, 3) := by decide +kernel
theorem d_Tr_stepChildren_71 : decode prog_12_method_16_code 71 = .ok (.goto (-63), 3) := by decide +kernel
theorem d_Tr_stepChildren_74 : decode prog_12_method_16_code 74 = .ok (.iload 6, 2) := by decide +kernel
theorem d_Tr_stepChildren_76 : decode prog_12_method_16_code 76 = .ok (.ireturn, 1) := by decide +kernel
theorem d_Mo_step_0 : decode prog_8_method_9_code 0 = .ok (.iload_n 2, 1) := by decide +kernel
theorem d_Mo_step_1 : decode prog_8_method_9_code 1 = .ok (.invokestatic 32, 3) := by decide +kernel
theorem d_Mo_step_4 : decode prog_8_method_9_code 4 = .ok (.ifCond .eq 21, 3) := by decide +kernel
theorem d_Mo_step_7 : decode prog_8_method_9_code 7 = .ok (.aload_n 0, 1) := by decide +kernel
theorem d_Mo_step_8 : decode prog_8_method_9_code 8 = .ok (.iload_n 1, 1) := by decide +kernel
theorem d_Mo_step_9 : decode prog_8_method_9_code 9 = .ok (.invokevirtual 40, 3) := by decide +kernel
theorem d_Mo_step_12 : decode prog_8_method_9_code 12 = .ok (.aload_n 0, 1) := by decide +kernel
theorem d_Mo_step_13 : decode prog_8_method_9_code 13 = .ok (.getfield 15, 3) := by decide +kernel
theorem d_Mo_step_16 : decode prog_8_method_9_code 16 = .ok (.iload_n 2, 1) := by decide +kernel
theorem d_Mo_step_17 : decode prog_8_method_9_code 17 = .ok (.bipush 97, 2) := by decide +kernel
theorem d_Mo_step_19 : decode prog_8_method_9_code 19 = .ok (.isub, 1) := by decide +kernel
theorem d_Mo_step_20 : decode prog_8_method_9_code 20 = .ok (.iaload, 1) := by decide +kernel
theorem d_Mo_step_21 : decode prog_8_method_9_code 21 = .ok (.iand, 1) := by decide +kernel
theorem d_Mo_step_22 : decode prog_8_method_9_code 22 = .ok (.goto 4, 3) := by decide +kernel
theorem d_Mo_step_25 : decode prog_8_method_9_code 25 = .ok (.iconst 0, 1) := by decide +kernel
theorem d_Mo_step_26 : decode prog_8_method_9_code 26 = .ok (.ireturn, 1) := by decide +kernel
theorem d_Tr_isWithinTag_0 : decode prog_12_method_12_code 0 = .ok (.iconst 0, 1) := by decide +kernel
theorem d_Tr_isWithinTag_1 : decode prog_12_method_12_code 1 = .ok (.istore_n 2, 1) := by decide +kernel
theorem d_Tr_isWithinTag_2 : decode prog_12_method_12_code 2 = .ok (.iload_n 2, 1) := by decide +kernel
theorem d_Tr_isWithinTag_3 : decode prog_12_method_12_code 3 = .ok (.aload_n 0, 1) := by decide +kernel
theorem d_Tr_isWithinTag_4 : decode prog_12_method_12_code 4 = .ok (.getfield 36, 3) := by decide +kernel
theorem d_Tr_isWithinTag_7 : decode prog_12_method_12_code 7 = .ok (.if_icmp .ge 31, 3) := by decide +kernel
theorem d_Tr_isWithinTag_10 : decode prog_12_method_12_code 10 = .ok (.aload_n 0, 1) := by decide +kernel
theorem d_Tr_isWithinTag_11 : decode prog_12_method_12_code 11 = .ok (.getfield 17, 3) := by decide +kernel
theorem d_Tr_isWithinTag_14 : decode prog_12_method_12_code 14 = .ok (.iload_n 2, 1) := by decide +kernel
theorem d_Tr_isWithinTag_15 : decode prog_12_method_12_code 15 = .ok (.iaload, 1) := by decide +kernel
theorem d_Tr_isWithinTag_16 : decode prog_12_method_12_code 16 = .ok (.iload_n 1, 1) := by decide +kernel
theorem d_Tr_isWithinTag_17 : decode prog_12_method_12_code 17 = .ok (.if_icmp .ge 15, 3) := by decide +kernel
theorem d_Tr_isWithinTag_20 : decode prog_12_method_12_code 20 = .ok (.iload_n 1, 1) := by decide +kernel
theorem d_Tr_isWithinTag_21 : decode prog_12_method_12_code 21 = .ok (.aload_n 0, 1) := by decide +kernel
theorem d_Tr_isWithinTag_22 : decode prog_12_method_12_code 22 = .ok (.getfield 21, 3) := by decide +kernel
theorem d_Tr_isWithinTag_25 : decode prog_12_method_12_code 25 = .ok (.iload_n 2, 1) := by decide +kernel
theorem d_Tr_isWithinTag_26 : decode prog_12_method_12_code 26 = .ok (.iaload, 1) := by decide +kernel
theorem d_Tr_isWithinTag_27 : decode prog_12_method_12_code 27 = .ok (.if_icmp .ge 5, 3) := by decide +kernel
theorem d_Tr_isWithinTag_30 : decode prog_12_method_12_code 30 = .ok (.iconst 1, 1) := by decide +kernel
theorem d_Tr_isWithinTag_31 : decode prog_12_method_12_code 31 = .ok (.ireturn, 1) := by decide +kernel
theorem d_Tr_isWithinTag_32 : decode prog_12_method_12_code 32 = .ok (.iinc 2 1, 3) := by decide +kernel
theorem d_Tr_isWithinTag_35 : decode prog_12_method_12_code 35 = .ok (.goto (-33), 3) := by decide +kernel
theorem d_Tr_isWithinTag_38 : decode prog_12_method_12_code 38 = .ok (.iconst 0, 1) := by decide +kernel
theorem d_Tr_isWithinTag_39 : decode prog_12_method_12_code 39 = .ok (.ireturn, 1) := by decide +kernel
theorem d_Tr_insideOf_0 : decode prog_12_method_15_code 0 = .ok (.aload_n 0, 1) := by decide +kernel
theorem d_Tr_insideOf_1 : decode prog_12_method_15_code 1 = .ok (.getfield 32, 3) := by decide +kernel
theorem d_Tr_insideOf_4 : decode prog_12_method_15_code 4 = .ok (.istore_n 2, 1) := by decide +kernel
theorem d_Tr_insideOf_5 : decode prog_12_method_15_code 5 = .ok (.iload_n 2, 1) := by decide +kernel
theorem d_Tr_insideOf_6 : decode prog_12_method_15_code 6 = .ok (.ifCond .le 24, 3) := by decide +kernel
theorem d_Tr_insideOf_9 : decode prog_12_method_15_code 9 = .ok (.aload_n 0, 1) := by decide +kernel
theorem d_Tr_insideOf_10 : decode prog_12_method_15_code 10 = .ok (.getfield 11, 3) := by decide +kernel
theorem d_Tr_insideOf_13 : decode prog_12_method_15_code 13 = .ok (.iload_n 2, 1) := by decide +kernel
theorem d_Tr_insideOf_14 : decode prog_12_method_15_code 14 = .ok (.aaload, 1) := by decide +kernel
theorem d_Tr_insideOf_15 : decode prog_12_method_15_code 15 = .ok (.iload_n 1, 1) := by decide +kernel
theorem d_Tr_insideOf_16 : decode prog_12_method_15_code 16 = .ok (.invokevirtual 115, 3) := by decide +kernel
theorem d_Tr_insideOf_19 : decode prog_12_method_15_code 19 = .ok (.ifCond .eq 5, 3) := by decide +kernel
theorem d_Tr_insideOf_22 : decode prog_12_method_15_code 22 = .ok (.iload_n 2, 1) := by decide +kernel
theorem d_Tr_insideOf_23 : decode prog_12_method_15_code 23 = .ok (.ireturn, 1) := by decide +kernel
theorem d_Tr_insideOf_24 : decode prog_12_method_15_code 24 = .ok (.iinc 2 (-1), 3) := by decide +kernel
theorem d_Tr_insideOf_27 : decode prog_12_method_15_code 27 = .ok (.goto (-22), 3) := by decide +kernel
theorem d_Tr_insideOf_30 : decode prog_12_method_15_code 30 = .ok (.iconst 0, 1) := by decide +kernel
theorem d_Tr_insideOf_31 : decode prog_12_method_15_code 31 = .ok (.ireturn, 1) := by decide +kernel
theorem d_Ms_offer_0 : decode prog_10_method_6_code 0 = .ok (.aload_n 0, 1) := by decide +kernel
theorem d_Ms_offer_1 : decode prog_10_method_6_code 1 = .ok (.aload_n 1, 1) := by decide +kernel
theorem d_Ms_offer_2 : decode prog_10_method_6_code 2 = .ok (.getfield 29, 3) := by decide +kernel
theorem d_Ms_offer_5 : decode prog_10_method_6_code 5 = .ok (.iload_n 2, 1) := by decide +kernel
theorem d_Ms_offer_6 : decode prog_10_method_6_code 6 = .ok (.aaload, 1) := by decide +kernel
theorem d_Ms_offer_7 : decode prog_10_method_6_code 7 = .ok (.getfield 35, 3) := by decide +kernel
theorem d_Ms_offer_10 : decode prog_10_method_6_code 10 = .ok (.invokevirtual 41, 3) := by decide +kernel
theorem d_Ms_offer_13 : decode prog_10_method_6_code 13 = .ok (.astore 4, 2) := by decide +kernel
theorem d_Ms_offer_15 : decode prog_10_method_6_code 15 = .ok (.aload_n 1, 1) := by decide +kernel
theorem d_Ms_offer_16 : decode prog_10_method_6_code 16 = .ok (.aload 4, 2) := by decide +kernel
theorem d_Ms_offer_18 : decode prog_10_method_6_code 18 = .ok (.aload 4, 2) := by decide +kernel
theorem d_Ms_offer_20 : decode prog_10_method_6_code 20 = .ok (.invokevirtual 45, 3) := by decide +kernel
theorem d_Ms_offer_23 : decode prog_10_method_6_code 23 = .ok (.iload_n 2, 1) := by decide +kernel
theorem d_Ms_offer_24 : decode prog_10_method_6_code 24 = .ok (.iconst 0, 1) := by decide +kernel
theorem d_Ms_offer_25 : decode prog_10_method_6_code 25 = .ok (.iload_n 3, 1) := by decide +kernel
theorem d_Ms_offer_26 : decode prog_10_method_6_code 26 = .ok (.invokevirtual 49, 3) := by decide +kernel
theorem d_Ms_offer_29 : decode prog_10_method_6_code 29 = .ok (.istore 5, 2) := by decide +kernel
theorem d_Ms_offer_31 : decode prog_10_method_6_code 31 = .ok (.iconst 0, 1) := by decide +kernel
theorem d_Ms_offer_32 : decode prog_10_method_6_code 32 = .ok (.istore 6, 2) := by decide +kernel
theorem d_Ms_offer_34 : decode prog_10_method_6_code 34 = .ok (.iconst 0, 1) := by decide +kernel
theorem d_Ms_offer_35 : decode prog_10_method_6_code 35 = .ok (.istore 7, 2) := by decide +kernel
theorem d_Ms_offer_37 : decode prog_10_method_6_code 37 = .ok (.iload 7, 2) := by decide +kernel
theorem d_Ms_offer_39 : decode prog_10_method_6_code 39 = .ok (.bipush 8, 2) := by decide +kernel
theorem d_Ms_offer_41 : decode prog_10_method_6_code 41 = .ok (.if_icmp .ge 81, 3) := by decide +kernel
theorem d_Ms_offer_44 : decode prog_10_method_6_code 44 = .ok (.aload_n 0, 1) := by decide +kernel
theorem d_Ms_offer_45 : decode prog_10_method_6_code 45 = .ok (.getfield 67, 3) := by decide +kernel
theorem d_Ms_offer_48 : decode prog_10_method_6_code 48 = .ok (.iload 7, 2) := by decide +kernel
theorem d_Ms_offer_50 : decode prog_10_method_6_code 50 = .ok (.ishr, 1) := by decide +kernel
theorem d_Ms_offer_51 : decode prog_10_method_6_code 51 = .ok (.iconst 1, 1) := by decide +kernel
theorem d_Ms_offer_52 : decode prog_10_method_6_code 52 = .ok (.iand, 1) := by decide +kernel
theorem d_Ms_offer_53 : decode prog_10_method_6_code 53 = .ok (.ifCond .eq 63, 3) := by decide +kernel
theorem d_Ms_offer_56 : decode prog_10_method_6_code 56 = .ok (.aload 4, 2) := by decide +kernel
theorem d_Ms_offer_58 : decode prog_10_method_6_code 58 = .ok (.aload 4, 2) := by decide +kernel
theorem d_Ms_offer_60 : decode prog_10_method_6_code 60 = .ok (.iload 5, 2) := by decide +kernel
theorem d_Ms_offer_62 : decode prog_10_method_6_code 62 = .ok (.bipush 97, 2) := by decide +kernel
theorem d_Ms_offer_64 : decode prog_10_method_6_code 64 = .ok (.iload 7, 2) := by decide +kernel
theorem d_Ms_offer_66 : decode prog_10_method_6_code 66 = .ok (.iadd, 1) := by decide +kernel
theorem d_Ms_offer_67 : decode prog_10_method_6_code 67 = .ok (.invokevirtual 70, 3) := by decide +kernel
theorem d_Ms_offer_70 : decode prog_10_method_6_code 70 = .ok (.aload_n 0, 1) := by decide +kernel
theorem d_Ms_offer_71 : decode prog_10_method_6_code 71 = .ok (.getfield 67, 3) := by decide +kernel
theorem d_Ms_offer_74 : decode prog_10_method_6_code 74 = .ok (.invokevirtual 74, 3) := by decide +kernel
theorem d_Ms_offer_77 : decode prog_10_method_6_code 77 = .ok (.istore 8, 2) := by decide +kernel
theorem d_Ms_offer_79 : decode prog_10_method_6_code 79 = .ok (.aload_n 1, 1) := by decide +kernel
theorem d_Ms_offer_80 : decode prog_10_method_6_code 80 = .ok (.aload 4, 2) := by decide +kernel
theorem d_Ms_offer_82 : decode prog_10_method_6_code 82 = .ok (.iload 8, 2) := by decide +kernel
theorem d_Ms_offer_84 : decode prog_10_method_6_code 84 = .ok (.iload_n 2, 1) := by decide +kernel
theorem d_Ms_offer_85 : decode prog_10_method_6_code 85 = .ok (.iload_n 3, 1) := by decide +kernel
theorem d_Ms_offer_86 : decode prog_10_method_6_code 86 = .ok (.bipush 100, 2) := by decide +kernel
theorem d_Ms_offer_88 : decode prog_10_method_6_code 88 = .ok (.invokevirtual 49, 3) := by decide +kernel
theorem d_Ms_offer_91 : decode prog_10_method_6_code 91 = .ok (.istore 8, 2) := by decide +kernel
theorem d_Ms_offer_93 : decode prog_10_method_6_code 93 = .ok (.iload 6, 2) := by decide +kernel
theorem d_Ms_offer_95 : decode prog_10_method_6_code 95 = .ok (.aload 4, 2) := by decide +kernel
theorem d_Ms_offer_97 : decode prog_10_method_6_code 97 = .ok (.iload 8, 2) := by decide +kernel
theorem d_Ms_offer_99 : decode prog_10_method_6_code 99 = .ok (.invokevirtual 53, 3) := by decide +kernel
theorem d_Ms_offer_102 : decode prog_10_method_6_code 102 = .ok (.ifCond .eq 10, 3) := by decide +kernel
theorem d_Ms_offer_105 : decode prog_10_method_6_code 105 = .ok (.iconst 1, 1) := by decide +kernel
theorem d_Ms_offer_106 : decode prog_10_method_6_code 106 = .ok (.iload 7, 2) := by decide +kernel
theorem d_Ms_offer_108 : decode prog_10_method_6_code 108 = .ok (.ishl, 1) := by decide +kernel
theorem d_Ms_offer_109 : decode prog_10_method_6_code 109 = .ok (.goto 4, 3) := by decide +kernel
theorem d_Ms_offer_112 : decode prog_10_method_6_code 112 = .ok (.iconst 0, 1) := by decide +kernel
theorem d_Ms_offer_113 : decode prog_10_method_6_code 113 = .ok (.ior, 1) := by decide +kernel
theorem d_Ms_offer_114 : decode prog_10_method_6_code 114 = .ok (.istore 6, 2) := by decide +kernel
theorem d_Ms_offer_116 : decode prog_10_method_6_code 116 = .ok (.iinc 7 1, 3) := by decide +kernel
theorem d_Ms_offer_119 : decode prog_10_method_6_code 119 = .ok (.goto (-82), 3) := by decide +kernel
theorem d_Ms_offer_122 : decode prog_10_method_6_code 122 = .ok (.iload 6, 2) := by decide +kernel
theorem d_Ms_offer_124 : decode prog_10_method_6_code 124 = .ok (.ireturn, 1) := by decide +kernel
theorem d_Tr_ownerOfTagAt_0 : decode prog_12_method_13_code 0 = .ok (.iconst 0, 1) := by decide +kernel
theorem d_Tr_ownerOfTagAt_1 : decode prog_12_method_13_code 1 = .ok (.istore_n 2, 1) := by decide +kernel
theorem d_Tr_ownerOfTagAt_2 : decode prog_12_method_13_code 2 = .ok (.iload_n 2, 1) := by decide +kernel
theorem d_Tr_ownerOfTagAt_3 : decode prog_12_method_13_code 3 = .ok (.aload_n 0, 1) := by decide +kernel
theorem d_Tr_ownerOfTagAt_4 : decode prog_12_method_13_code 4 = .ok (.getfield 36, 3) := by decide +kernel
theorem d_Tr_ownerOfTagAt_7 : decode prog_12_method_13_code 7 = .ok (.if_icmp .ge 36, 3) := by decide +kernel
theorem d_Tr_ownerOfTagAt_10 : decode prog_12_method_13_code 10 = .ok (.aload_n 0, 1) := by decide +kernel
theorem d_Tr_ownerOfTagAt_11 : decode prog_12_method_13_code 11 = .ok (.getfield 17, 3) := by decide +kernel
theorem d_Tr_ownerOfTagAt_14 : decode prog_12_method_13_code 14 = .ok (.iload_n 2, 1) := by decide +kernel
theorem d_Tr_ownerOfTagAt_15 : decode prog_12_method_13_code 15 = .ok (.iaload, 1) := by decide +kernel
theorem d_Tr_ownerOfTagAt_16 : decode prog_12_method_13_code 16 = .ok (.iload_n 1, 1) := by decide +kernel
theorem d_Tr_ownerOfTagAt_17 : decode prog_12_method_13_code 17 = .ok (.if_icmp .gt 20, 3) := by decide +kernel
theorem d_Tr_ownerOfTagAt_20 : decode prog_12_method_13_code 20 = .ok (.iload_n 1, 1) := by decide +kernel
theorem d_Tr_ownerOfTagAt_21 : decode prog_12_method_13_code 21 = .ok (.aload_n 0, 1) := by decide +kernel
theorem d_Tr_ownerOfTagAt_22 : decode prog_12_method_13_code 22 = .ok (.getfield 21, 3) := by decide +kernel
theorem d_Tr_ownerOfTagAt_25 : decode prog_12_method_13_code 25 = .ok (.iload_n 2, 1) := by decide +kernel
theorem d_Tr_ownerOfTagAt_26 : decode prog_12_method_13_code 26 = .ok (.iaload, 1) := by decide +kernel
theorem d_Tr_ownerOfTagAt_27 : decode prog_12_method_13_code 27 = .ok (.if_icmp .ge 10, 3) := by decide +kernel
theorem d_Tr_ownerOfTagAt_30 : decode prog_12_method_13_code 30 = .ok (.aload_n 0, 1) := by decide +kernel
theorem d_Tr_ownerOfTagAt_31 : decode prog_12_method_13_code 31 = .ok (.getfield 24, 3) := by decide +kernel
theorem d_Tr_ownerOfTagAt_34 : decode prog_12_method_13_code 34 = .ok (.iload_n 2, 1) := by decide +kernel
theorem d_Tr_ownerOfTagAt_35 : decode prog_12_method_13_code 35 = .ok (.iaload, 1) := by decide +kernel
theorem d_Tr_ownerOfTagAt_36 : decode prog_12_method_13_code 36 = .ok (.ireturn, 1) := by decide +kernel
theorem d_Tr_ownerOfTagAt_37 : decode prog_12_method_13_code 37 = .ok (.iinc 2 1, 3) := by decide +kernel
theorem d_Tr_ownerOfTagAt_40 : decode prog_12_method_13_code 40 = .ok (.goto (-38), 3) := by decide +kernel
theorem d_Tr_ownerOfTagAt_43 : decode prog_12_method_13_code 43 = .ok (.iconst (-1), 1) := by decide +kernel
theorem d_Tr_ownerOfTagAt_44 : decode prog_12_method_13_code 44 = .ok (.ireturn, 1) := by decide +kernel
theorem d_Tr_renameTags_0 : decode prog_12_method_14_code 0 = .ok (.iconst 0, 1) := by decide +kernel
theorem d_Tr_renameTags_1 : decode prog_12_method_14_code 1 = .ok (.istore_n 3, 1) := by decide +kernel
theorem d_Tr_renameTags_2 : decode prog_12_method_14_code 2 = .ok (.iconst 0, 1) := by decide +kernel
theorem d_Tr_renameTags_3 : decode prog_12_method_14_code 3 = .ok (.istore 4, 2) := by decide +kernel
theorem d_Tr_renameTags_5 : decode prog_12_method_14_code 5 = .ok (.iload 4, 2) := by decide +kernel
theorem d_Tr_renameTags_7 : decode prog_12_method_14_code 7 = .ok (.aload_n 0, 1) := by decide +kernel
theorem d_Tr_renameTags_8 : decode prog_12_method_14_code 8 = .ok (.getfield 36, 3) := by decide +kernel
theorem d_Tr_renameTags_11 : decode prog_12_method_14_code 11 = .ok (.if_icmp .ge 65, 3) := by decide +kernel
theorem d_Tr_renameTags_14 : decode prog_12_method_14_code 14 = .ok (.aload_n 0, 1) := by decide +kernel
theorem d_Tr_renameTags_15 : decode prog_12_method_14_code 15 = .ok (.getfield 24, 3) := by decide +kernel
theorem d_Tr_renameTags_18 : decode prog_12_method_14_code 18 = .ok (.iload 4, 2) := by decide +kernel
theorem d_Tr_renameTags_20 : decode prog_12_method_14_code 20 = .ok (.iaload, 1) := by decide +kernel
theorem d_Tr_renameTags_21 : decode prog_12_method_14_code 21 = .ok (.iload_n 1, 1) := by decide +kernel
theorem d_Tr_renameTags_22 : decode prog_12_method_14_code 22 = .ok (.if_icmp .ne 48, 3) := by decide +kernel
theorem d_Tr_renameTags_25 : decode prog_12_method_14_code 25 = .ok (.aload_n 0, 1) := by decide +kernel
theorem d_Tr_renameTags_26 : decode prog_12_method_14_code 26 = .ok (.getfield 17, 3) := by decide +kernel
theorem d_Tr_renameTags_29 : decode prog_12_method_14_code 29 = .ok (.iload 4, 2) := by decide +kernel
theorem d_Tr_renameTags_31 : decode prog_12_method_14_code 31 = .ok (.iaload, 1) := by decide +kernel
theorem d_Tr_renameTags_32 : decode prog_12_method_14_code 32 = .ok (.iconst 1, 1) := by decide +kernel
theorem d_Tr_renameTags_33 : decode prog_12_method_14_code 33 = .ok (.iadd, 1) := by decide +kernel
theorem d_Tr_renameTags_34 : decode prog_12_method_14_code 34 = .ok (.istore 5, 2) := by decide +kernel
theorem d_Tr_renameTags_36 : decode prog_12_method_14_code 36 = .ok (.aload_n 0, 1) := by decide +kernel
theorem d_Tr_renameTags_37 : decode prog_12_method_14_code 37 = .ok (.getfield 27, 3) := by decide +kernel
theorem d_Tr_renameTags_40 : decode prog_12_method_14_code 40 = .ok (.aload_n 0, 1) := by decide +kernel
theorem d_Tr_renameTags_41 : decode prog_12_method_14_code 41 = .ok (.getfield 27, 3) := by decide +kernel
theorem d_Tr_renameTags_44 : decode prog_12_method_14_code 44 = .ok (.iload 5, 2) := by decide +kernel
theorem d_Tr_renameTags_46 : decode prog_12_method_14_code 46 = .ok (.invokevirtual 80, 3) := by decide +kernel
theorem d_Tr_renameTags_49 : decode prog_12_method_14_code 49 = .ok (.bipush 47, 2) := by decide +kernel
theorem d_Tr_renameTags_51 : decode prog_12_method_14_code 51 = .ok (.if_icmp .ne 10, 3) := by decide +kernel
theorem d_Tr_renameTags_54 : decode prog_12_method_14_code 54 = .ok (.iload 5, 2) := by decide +kernel
theorem d_Tr_renameTags_56 : decode prog_12_method_14_code 56 = .ok (.iconst 1, 1) := by decide +kernel
theorem d_Tr_renameTags_57 : decode prog_12_method_14_code 57 = .ok (.iadd, 1) := by decide +kernel
theorem d_Tr_renameTags_58 : decode prog_12_method_14_code 58 = .ok (.goto 5, 3) := by decide +kernel
theorem d_Tr_renameTags_61 : decode prog_12_method_14_code 61 = .ok (.iload 5, 2) := by decide +kernel
theorem d_Tr_renameTags_63 : decode prog_12_method_14_code 63 = .ok (.iload_n 2, 1) := by decide +kernel
theorem d_Tr_renameTags_64 : decode prog_12_method_14_code 64 = .ok (.invokevirtual 112, 3) := by decide +kernel
theorem d_Tr_renameTags_67 : decode prog_12_method_14_code 67 = .ok (.iinc 3 1, 3) := by decide +kernel
theorem d_Tr_renameTags_70 : decode prog_12_method_14_code 70 = .ok (.iinc 4 1, 3) := by decide +kernel
theorem d_Tr_renameTags_73 : decode prog_12_method_14_code 73 = .ok (.goto (-68), 3) := by decide +kernel
theorem d_Tr_renameTags_76 : decode prog_12_method_14_code 76 = .ok (.iload_n 3, 1) := by decide +kernel
theorem d_Tr_renameTags_77 : decode prog_12_method_14_code 77 = .ok (.ireturn, 1) := by decide +kernel
theorem d_Tx_replace_0 : decode prog_11_method_5_code 0 = .ok (.iload_n 1, 1) := by decide +kernel
theorem d_Tx_replace_1 : decode prog_11_method_5_code 1 = .ok (.ifCond .lt 19, 3) := by decide +kernel
theorem d_Tx_replace_4 : decode prog_11_method_5_code 4 = .ok (.iload_n 1, 1) := by decide +kernel
theorem d_Tx_replace_5 : decode prog_11_method_5_code 5 = .ok (.aload_n 0, 1) := by decide +kernel
theorem d_Tx_replace_6 : decode prog_11_method_5_code 6 = .ok (.getfield 15, 3) := by decide +kernel
theorem d_Tx_replace_9 : decode prog_11_method_5_code 9 = .ok (.if_icmp .ge 11, 3) := by decide +kernel
theorem d_Tx_replace_12 : decode prog_11_method_5_code 12 = .ok (.aload_n 0, 1) := by decide +kernel
theorem d_Tx_replace_13 : decode prog_11_method_5_code 13 = .ok (.getfield 9, 3) := by decide +kernel
theorem d_Tx_replace_16 : decode prog_11_method_5_code 16 = .ok (.iload_n 1, 1) := by decide +kernel
theorem d_Tx_replace_17 : decode prog_11_method_5_code 17 = .ok (.iload_n 2, 1) := by decide +kernel
theorem d_Tx_replace_18 : decode prog_11_method_5_code 18 = .ok (.i2c, 1) := by decide +kernel
theorem d_Tx_replace_19 : decode prog_11_method_5_code 19 = .ok (.castore, 1) := by decide +kernel
theorem d_Tx_replace_20 : decode prog_11_method_5_code 20 = .ok (.return_, 1) := by decide +kernel
theorem d_Ms_makeLoose_0 : decode prog_10_method_5_code 0 = .ok (.aload_n 0, 1) := by decide +kernel
theorem d_Ms_makeLoose_1 : decode prog_10_method_5_code 1 = .ok (.aload_n 1, 1) := by decide +kernel
theorem d_Ms_makeLoose_2 : decode prog_10_method_5_code 2 = .ok (.getfield 35, 3) := by decide +kernel
theorem d_Ms_makeLoose_5 : decode prog_10_method_5_code 5 = .ok (.invokevirtual 41, 3) := by decide +kernel
theorem d_Ms_makeLoose_8 : decode prog_10_method_5_code 8 = .ok (.invokevirtual 57, 3) := by decide +kernel
theorem d_Ms_makeLoose_11 : decode prog_10_method_5_code 11 = .ok (.ifCond .eq 22, 3) := by decide +kernel
theorem d_Ms_makeLoose_14 : decode prog_10_method_5_code 14 = .ok (.aload_n 1, 1) := by decide +kernel
theorem d_Ms_makeLoose_15 : decode prog_10_method_5_code 15 = .ok (.getfield 61, 3) := by decide +kernel
theorem d_Ms_makeLoose_18 : decode prog_10_method_5_code 18 = .ok (.ifCond .le 15, 3) := by decide +kernel
theorem d_Ms_makeLoose_21 : decode prog_10_method_5_code 21 = .ok (.aload_n 1, 1) := by decide +kernel
theorem d_Ms_makeLoose_22 : decode prog_10_method_5_code 22 = .ok (.getfield 64, 3) := by decide +kernel
theorem d_Ms_makeLoose_25 : decode prog_10_method_5_code 25 = .ok (.iconst (-1), 1) := by decide +kernel
theorem d_Ms_makeLoose_26 : decode prog_10_method_5_code 26 = .ok (.if_icmp .ne 7, 3) := by decide +kernel
theorem d_Ms_makeLoose_29 : decode prog_10_method_5_code 29 = .ok (.iconst 1, 1) := by decide +kernel
theorem d_Ms_makeLoose_30 : decode prog_10_method_5_code 30 = .ok (.goto 4, 3) := by decide +kernel
theorem d_Ms_makeLoose_33 : decode prog_10_method_5_code 33 = .ok (.iconst 0, 1) := by decide +kernel
theorem d_Ms_makeLoose_34 : decode prog_10_method_5_code 34 = .ok (.ireturn, 1) := by decide +kernel
end
section
theorem d_RF_init_0 : decode prog_14_method_1_code 0 = .ok (.aload_n 0, 1) := by decide +kernel
theorem d_RF_init_1 : decode prog_14_method_1_code 1 = .ok (.invokespecial 1, 3) := by decide +kernel
theorem d_RF_init_4 : decode prog_14_method_1_code 4 = .ok (.aload_n 0, 1) := by decide +kernel
theorem d_RF_init_5 : decode prog_14_method_1_code 5 = .ok (.bipush 40, 2) := by decide +kernel
theorem d_RF_init_7 : decode prog_14_method_1_code 7 = .ok (.newarray .int, 2) := by decide +kernel
theorem d_RF_init_9 : decode prog_14_method_1_code 9 = .ok (.putfield 7, 3) := by decide +kernel
theorem d_RF_init_12 : decode prog_14_method_1_code 12 = .ok (.aload_n 0, 1) := by decide +kernel
theorem d_RF_init_13 : decode prog_14_method_1_code 13 = .ok (.bipush 10, 2) := by decide +kernel
theorem d_RF_init_15 : decode prog_14_method_1_code 15 = .ok (.newarray .boolean, 2) := by decide +kernel
theorem d_RF_init_17 : decode prog_14_method_1_code 17 = .ok (.putfield 13, 3) := by decide +kernel
theorem d_RF_init_20 : decode prog_14_method_1_code 20 = .ok (.aload_n 0, 1) := by decide +kernel
theorem d_RF_init_21 : decode prog_14_method_1_code 21 = .ok (.bipush 10, 2) := by decide +kernel
theorem d_RF_init_23 : decode prog_14_method_1_code 23 = .ok (.newarray .boolean, 2) := by decide +kernel
theorem d_RF_init_25 : decode prog_14_method_1_code 25 = .ok (.putfield 17, 3) := by decide +kernel
theorem d_RF_init_28 : decode prog_14_method_1_code 28 = .ok (.aload_n 0, 1) := by decide +kernel
theorem d_RF_init_29 : decode prog_14_method_1_code 29 = .ok (.bipush 10, 2) := by decide +kernel
theorem d_RF_init_31 : decode prog_14_method_1_code 31 = .ok (.newarray .int, 2) := by decide +kernel
theorem d_RF_init_33 : decode prog_14_method_1_code 33 = .ok (.putfield 20, 3) := by decide +kernel
theorem d_RF_init_36 : decode prog_14_method_1_code 36 = .ok (.aload_n 0, 1) := by decide +kernel
theorem d_RF_init_37 : decode prog_14_method_1_code 37 = .ok (.bipush 10, 2) := by decide +kernel
theorem d_RF_init_39 : decode prog_14_method_1_code 39 = .ok (.newarray .int, 2) := by decide +kernel
theorem d_RF_init_41 : decode prog_14_method_1_code 41 = .ok (.putfield 23, 3) := by decide +kernel
theorem d_RF_init_44 : decode prog_14_method_1_code 44 = .ok (.aload_n 0, 1) := by decide +kernel
theorem d_RF_init_45 : decode prog_14_method_1_code 45 = .ok (.bipush 10, 2) := by decide +kernel
theorem d_RF_init_47 : decode prog_14_method_1_code 47 = .ok (.newarray .boolean, 2) := by decide +kernel
theorem d_RF_init_49 : decode prog_14_method_1_code 49 = .ok (.putfield 26, 3) := by decide +kernel
theorem d_RF_init_52 : decode prog_14_method_1_code 52 = .ok (.aload_n 0, 1) := by decide +kernel
theorem d_RF_init_53 : decode prog_14_method_1_code 53 = .ok (.bipush 10, 2) := by decide +kernel
theorem d_RF_init_55 : decode prog_14_method_1_code 55 = .ok (.newarray .int, 2) := by decide +kernel
theorem d_RF_init_57 : decode prog_14_method_1_code 57 = .ok (.putfield 29, 3) := by decide +kernel
theorem d_RF_init_60 : decode prog_14_method_1_code 60 = .ok (.aload_n 0, 1) := by decide +kernel
theorem d_RF_init_61 : decode prog_14_method_1_code 61 = .ok (.bipush 100, 2) := by decide +kernel
theorem d_RF_init_63 : decode prog_14_method_1_code 63 = .ok (.newarray .int, 2) := by decide +kernel
theorem d_RF_init_65 : decode prog_14_method_1_code 65 = .ok (.putfield 32, 3) := by decide +kernel
theorem d_RF_init_68 : decode prog_14_method_1_code 68 = .ok (.aload_n 0, 1) := by decide +kernel
theorem d_RF_init_69 : decode prog_14_method_1_code 69 = .ok (.bipush 100, 2) := by decide +kernel
theorem d_RF_init_71 : decode prog_14_method_1_code 71 = .ok (.newarray .int, 2) := by decide +kernel
theorem d_RF_init_73 : decode prog_14_method_1_code 73 = .ok (.putfield 35, 3) := by decide +kernel
theorem d_RF_init_76 : decode prog_14_method_1_code 76 = .ok (.aload_n 0, 1) := by decide +kernel
theorem d_RF_init_77 : decode prog_14_method_1_code 77 = .ok (.bipush 14, 2) := by decide +kernel
theorem d_RF_init_79 : decode prog_14_method_1_code 79 = .ok (.newarray .boolean, 2) := by decide +kernel
theorem d_RF_init_81 : decode prog_14_method_1_code 81 = .ok (.putfield 38, 3) := by decide +kernel
theorem d_RF_init_84 : decode prog_14_method_1_code 84 = .ok (.aload_n 0, 1) := by decide +kernel
theorem d_RF_init_85 : decode prog_14_method_1_code 85 = .ok (.bipush 14, 2) := by decide +kernel
theorem d_RF_init_87 : decode prog_14_method_1_code 87 = .ok (.newarray .int, 2) := by decide +kernel
theorem d_RF_init_89 : decode prog_14_method_1_code 89 = .ok (.putfield 41, 3) := by decide +kernel
theorem d_RF_init_92 : decode prog_14_method_1_code 92 = .ok (.aload_n 0, 1) := by decide +kernel
theorem d_RF_init_93 : decode prog_14_method_1_code 93 = .ok (.bipush 14, 2) := by decide +kernel
theorem d_RF_init_95 : decode prog_14_method_1_code 95 = .ok (.newarray .int, 2) := by decide +kernel
theorem d_RF_init_97 : decode prog_14_method_1_code 97 = .ok (.putfield 44, 3) := by decide +kernel
theorem d_RF_init_100 : decode prog_14_method_1_code 100 = .ok (.aload_n 0, 1) := by decide +kernel
theorem d_RF_init_101 : decode prog_14_method_1_code 101 = .ok (.bipush 14, 2) := by decide +kernel
theorem d_RF_init_103 : decode prog_14_method_1_code 103 = .ok (.newarray .boolean, 2) := by decide +kernel
theorem d_RF_init_105 : decode prog_14_method_1_code 105 = .ok (.putfield 47, 3) := by decide +kernel
theorem d_RF_init_108 : decode prog_14_method_1_code 108 = .ok (.aload_n 0, 1) := by decide +kernel
theorem d_RF_init_109 : decode prog_14_method_1_code 109 = .ok (.bipush 100, 2) := by decide +kernel
theorem d_RF_init_111 : decode prog_14_method_1_code 111 = .ok (.newarray .int, 2) := by decide +kernel
theorem d_RF_init_113 : decode prog_14_method_1_code 113 = .ok (.putfield 50, 3) := by decide +kernel
theorem d_RF_init_116 : decode prog_14_method_1_code 116 = .ok (.aload_n 0, 1) := by decide +kernel
theorem d_RF_init_117 : decode prog_14_method_1_code 117 = .ok (.bipush 40, 2) := by decide +kernel
theorem d_RF_init_119 : decode prog_14_method_1_code 119 = .ok (.newarray .int, 2) := by decide +kernel
theorem d_RF_init_121 : decode prog_14_method_1_code 121 = .ok (.putfield 53, 3) := by decide +kernel
theorem d_RF_init_124 : decode prog_14_method_1_code 124 = .ok (.aload_n 0, 1) := by decide +kernel
theorem d_RF_init_125 : decode prog_14_method_1_code 125 = .ok (.bipush 40, 2) := by decide +kernel
theorem d_RF_init_127 : decode prog_14_method_1_code 127 = .ok (.newarray .int, 2) := by decide +kernel
theorem d_RF_init_129 : decode prog_14_method_1_code 129 = .ok (.putfield 56, 3) := by decide +kernel
theorem d_RF_init_132 : decode prog_14_method_1_code 132 = .ok (.aload_n 0, 1) := by decide +kernel
theorem d_RF_init_133 : decode prog_14_method_1_code 133 = .ok (.bipush 40, 2) := by decide +kernel
theorem d_RF_init_135 : decode prog_14_method_1_code 135 = .ok (.newarray .int, 2) := by decide +kernel
theorem d_RF_init_137 : decode prog_14_method_1_code 137 = .ok (.putfield 59, 3) := by decide +kernel
theorem d_RF_init_140 : decode prog_14_method_1_code 140 = .ok (.aload_n 0, 1) := by decide +kernel
theorem d_RF_init_141 : decode prog_14_method_1_code 141 = .ok (.bipush 40, 2) := by decide +kernel
theorem d_RF_init_143 : decode prog_14_method_1_code 143 = .ok (.newarray .int, 2) := by decide +kernel
theorem d_RF_init_145 : decode prog_14_method_1_code 145 = .ok (.putfield 62, 3) := by decide +kernel
theorem d_RF_init_148 : decode prog_14_method_1_code 148 = .ok (.aload_n 0, 1) := by decide +kernel
theorem d_RF_init_149 : decode prog_14_method_1_code 149 = .ok (.bipush 40, 2) := by decide +kernel
theorem d_RF_init_151 : decode prog_14_method_1_code 151 = .ok (.newarray .int, 2) := by decide +kernel
theorem d_RF_init_153 : decode prog_14_method_1_code 153 = .ok (.putfield 65, 3) := by decide +kernel
theorem d_RF_init_156 : decode prog_14_method_1_code 156 = .ok (.aload_n 0, 1) := by decide +kernel
theorem d_RF_init_157 : decode prog_14_method_1_code 157 = .ok (.bipush 40, 2) := by decide +kernel
theorem d_RF_init_159 : decode prog_14_method_1_code 159 = .ok (.newarray .int, 2) := by decide +kernel
theorem d_RF_init_161 : decode prog_14_method_1_code 161 = .ok (.putfield 68, 3) := by decide +kernel
theorem d_RF_init_164 : decode prog_14_method_1_code 164 = .ok (.aload_n 0, 1) := by decide +kernel
theorem d_RF_init_165 : decode prog_14_method_1_code 165 = .ok (.bipush 40, 2) := by decide +kernel
theorem d_RF_init_167 : decode prog_14_method_1_code 167 = .ok (.newarray .int, 2) := by decide +kernel
theorem d_RF_init_169 : decode prog_14_method_1_code 169 = .ok (.putfield 71, 3) := by decide +kernel
theorem d_RF_init_172 : decode prog_14_method_1_code 172 = .ok (.aload_n 0, 1) := by decide +kernel
theorem d_RF_init_173 : decode prog_14_method_1_code 173 = .ok (.bipush 40, 2) := by decide +kernel
theorem d_RF_init_175 : decode prog_14_method_1_code 175 = .ok (.newarray .int, 2) := by decide +kernel
theorem d_RF_init_177 : decode prog_14_method_1_code 177 = .ok (.putfield 74, 3) := by decide +kernel
theorem d_RF_init_180 : decode prog_14_method_1_code 180 = .ok (.aload_n 0, 1) := by decide +kernel
theorem d_RF_init_181 : decode prog_14_method_1_code 181 = .ok (.bipush 40, 2) := by decide +kernel
theorem d_RF_init_183 : decode prog_14_method_1_code 183 = .ok (.newarray .boolean, 2) := by decide +kernel
theorem d_RF_init_185 : decode prog_14_method_1_code 185 = .ok (.putfield 77, 3) := by decide +kernel
theorem d_RF_init_188 : decode prog_14_method_1_code 188 = .ok (.aload_n 0, 1) := by decide +kernel
theorem d_RF_init_189 : decode prog_14_method_1_code 189 = .ok (.bipush 101, 2) := by decide +kernel
theorem d_RF_init_191 : decode prog_14_method_1_code 191 = .ok (.newarray .int, 2) := by decide +kernel
theorem d_RF_init_193 : decode prog_14_method_1_code 193 = .ok (.putfield 80, 3) := by decide +kernel
theorem d_RF_init_196 : decode prog_14_method_1_code 196 = .ok (.aload_n 0, 1) := by decide +kernel
theorem d_RF_init_197 : decode prog_14_method_1_code 197 = .ok (.bipush 101, 2) := by decide +kernel
theorem d_RF_init_199 : decode prog_14_method_1_code 199 = .ok (.newarray .int, 2) := by decide +kernel
theorem d_RF_init_201 : decode prog_14_method_1_code 201 = .ok (.putfield 83, 3) := by decide +kernel
theorem d_RF_init_204 : decode prog_14_method_1_code 204 = .ok (.aload_n 0, 1) := by decide +kernel
theorem d_RF_init_205 : decode prog_14_method_1_code 205 = .ok (.bipush 101, 2) := by decide +kernel
theorem d_RF_init_207 : decode prog_14_method_1_code 207 = .ok (.newarray .int, 2) := by decide +kernel
theorem d_RF_init_209 : decode prog_14_method_1_code 209 = .ok (.putfield 86, 3) := by decide +kernel
theorem d_RF_init_212 : decode prog_14_method_1_code 212 = .ok (.aload_n 0, 1) := by decide +kernel
theorem d_RF_init_213 : decode prog_14_method_1_code 213 = .ok (.sipush 400, 3) := by decide +kernel
theorem d_RF_init_216 : decode prog_14_method_1_code 216 = .ok (.newarray .int, 2) := by decide +kernel
theorem d_RF_init_218 : decode prog_14_method_1_code 218 = .ok (.putfield 89, 3) := by decide +kernel
theorem d_RF_init_221 : decode prog_14_method_1_code 221 = .ok (.aload_n 0, 1) := by decide +kernel
theorem d_RF_init_222 : decode prog_14_method_1_code 222 = .ok (.sipush 400, 3) := by decide +kernel
theorem d_RF_init_225 : decode prog_14_method_1_code 225 = .ok (.newarray .int, 2) := by decide +kernel
theorem d_RF_init_227 : decode prog_14_method_1_code 227 = .ok (.putfield 92, 3) := by decide +kernel
theorem d_RF_init_230 : decode prog_14_method_1_code 230 = .ok (.aload_n 0, 1) := by decide +kernel
theorem d_RF_init_231 : decode prog_14_method_1_code 231 = .ok (.bipush 13, 2) := by decide +kernel
theorem d_RF_init_233 : decode prog_14_method_1_code 233 = .ok (.newarray .int, 2) := by decide +kernel
theorem d_RF_init_235 : decode prog_14_method_1_code 235 = .ok (.putfield 95, 3) := by decide +kernel
theorem d_RF_init_238 : decode prog_14_method_1_code 238 = .ok (.aload_n 0, 1) := by decide +kernel
theorem d_RF_init_239 : decode prog_14_method_1_code 239 = .ok (.bipush 13, 2) := by decide +kernel
theorem d_RF_init_241 : decode prog_14_method_1_code 241 = .ok (.newarray .int, 2) := by decide +kernel
theorem d_RF_init_243 : decode prog_14_method_1_code 243 = .ok (.putfield 98, 3) := by decide +kernel
theorem d_RF_init_246 : decode prog_14_method_1_code 246 = .ok (.aload_n 0, 1) := by decide +kernel
theorem d_RF_init_247 : decode prog_14_method_1_code 247 = .ok (.bipush 13, 2) := by decide +kernel
theorem d_RF_init_249 : decode prog_14_method_1_code 249 = .ok (.newarray .int, 2) := by decide +kernel
theorem d_RF_init_251 : decode prog_14_method_1_code 251 = .ok (.putfield 101, 3) := by decide +kernel
theorem d_RF_init_254 : decode prog_14_method_1_code 254 = .ok (.aload_n 0, 1) := by decide +kernel
theorem d_RF_init_255 : decode prog_14_method_1_code 255 = .ok (.bipush 13, 2) := by decide +kernel
theorem d_RF_init_257 : decode prog_14_method_1_code 257 = .ok (.newarray .int, 2) := by decide +kernel
theorem d_RF_init_259 : decode prog_14_method_1_code 259 = .ok (.putfield 104, 3) := by decide +kernel
theorem d_RF_init_262 : decode prog_14_method_1_code 262 = .ok (.aload_n 0, 1) := by decide +kernel
theorem d_RF_init_263 : decode prog_14_method_1_code 263 = .ok (.bipush 13, 2) := by decide +kernel
theorem d_RF_init_265 : decode prog_14_method_1_code 265 = .ok (.newarray .int, 2) := by decide +kernel
theorem d_RF_init_267 : decode prog_14_method_1_code 267 = .ok (.putfield 107, 3) := by decide +kernel
theorem d_RF_init_270 : decode prog_14_method_1_code 270 = .ok (.aload_n 0, 1) := by decide +kernel
theorem d_RF_init_271 : decode prog_14_method_1_code 271 = .ok (.bipush 8, 2) := by decide +kernel
theorem d_RF_init_273 : decode prog_14_method_1_code 273 = .ok (.newarray .int, 2) := by decide +kernel
theorem d_RF_init_275 : decode prog_14_method_1_code 275 = .ok (.putfield 110, 3) := by decide +kernel
theorem d_RF_init_278 : decode prog_14_method_1_code 278 = .ok (.aload_n 0, 1) := by decide +kernel
theorem d_RF_init_279 : decode prog_14_method_1_code 279 = .ok (.bipush 8, 2) := by decide +kernel
theorem d_RF_init_281 : decode prog_14_method_1_code 281 = .ok (.newarray .int, 2) := by decide +kernel
theorem d_RF_init_283 : decode prog_14_method_1_code 283 = .ok (.putfield 113, 3) := by decide +kernel
theorem d_RF_init_286 : decode prog_14_method_1_code 286 = .ok (.aload_n 0, 1) := by decide +kernel
theorem d_RF_init_287 : decode prog_14_method_1_code 287 = .ok (.sipush 900, 3) := by decide +kernel
theorem d_RF_init_290 : decode prog_14_method_1_code 290 = .ok (.newarray .int, 2) := by decide +kernel
theorem d_RF_init_292 : decode prog_14_method_1_code 292 = .ok (.putfield 116, 3) := by decide +kernel
theorem d_RF_init_295 : decode prog_14_method_1_code 295 = .ok (.return_, 1) := by decide +kernel
theorem d_RF_write_0 : decode prog_14_method_3_code 0 = .ok (.iload_n 1, 1) := by decide +kernel
theorem d_RF_write_1 : decode prog_14_method_3_code 1 = .ok (.bipush 32, 2) := by decide +kernel
theorem d_RF_write_3 : decode prog_14_method_3_code 3 = .ok (.if_icmp .lt 18, 3) := by decide +kernel
theorem d_RF_write_6 : decode prog_14_method_3_code 6 = .ok (.iload_n 1, 1) := by decide +kernel
theorem d_RF_write_7 : decode prog_14_method_3_code 7 = .ok (.bipush 126, 2) := by decide +kernel
theorem d_RF_write_9 : decode prog_14_method_3_code 9 = .ok (.if_icmp .gt 12, 3) := by decide +kernel
theorem d_RF_write_12 : decode prog_14_method_3_code 12 = .ok (.aload_n 0, 1) := by decide +kernel
theorem d_RF_write_13 : decode prog_14_method_3_code 13 = .ok (.getfield 119, 3) := by decide +kernel
theorem d_RF_write_16 : decode prog_14_method_3_code 16 = .ok (.bipush 40, 2) := by decide +kernel
theorem d_RF_write_18 : decode prog_14_method_3_code 18 = .ok (.if_icmp .ne 5, 3) := by decide +kernel
theorem d_RF_write_21 : decode prog_14_method_3_code 21 = .ok (.iconst 0, 1) := by decide +kernel
theorem d_RF_write_22 : decode prog_14_method_3_code 22 = .ok (.ireturn, 1) := by decide +kernel
theorem d_RF_write_23 : decode prog_14_method_3_code 23 = .ok (.aload_n 0, 1) := by decide +kernel
theorem d_RF_write_24 : decode prog_14_method_3_code 24 = .ok (.getfield 7, 3) := by decide +kernel
theorem d_RF_write_27 : decode prog_14_method_3_code 27 = .ok (.aload_n 0, 1) := by decide +kernel
theorem d_RF_write_28 : decode prog_14_method_3_code 28 = .ok (.getfield 119, 3) := by decide +kernel
theorem d_RF_write_31 : decode prog_14_method_3_code 31 = .ok (.iload_n 1, 1) := by decide +kernel
theorem d_RF_write_32 : decode prog_14_method_3_code 32 = .ok (.iastore, 1) := by decide +kernel
theorem d_RF_write_33 : decode prog_14_method_3_code 33 = .ok (.aload_n 0, 1) := by decide +kernel
theorem d_RF_write_34 : decode prog_14_method_3_code 34 = .ok (.dup, 1) := by decide +kernel
theorem d_RF_write_35 : decode prog_14_method_3_code 35 = .ok (.getfield 119, 3) := by decide +kernel
theorem d_RF_write_38 : decode prog_14_method_3_code 38 = .ok (.iconst 1, 1) := by decide +kernel
theorem d_RF_write_39 : decode prog_14_method_3_code 39 = .ok (.iadd, 1) := by decide +kernel
theorem d_RF_write_40 : decode prog_14_method_3_code 40 = .ok (.putfield 119, 3) := by decide +kernel
theorem d_RF_write_43 : decode prog_14_method_3_code 43 = .ok (.iconst 1, 1) := by decide +kernel
theorem d_RF_write_44 : decode prog_14_method_3_code 44 = .ok (.ireturn, 1) := by decide +kernel
theorem d_RF_define_0 : decode prog_14_method_14_code 0 = .ok (.aload_n 0, 1) := by decide +kernel
theorem d_RF_define_1 : decode prog_14_method_14_code 1 = .ok (.iload_n 1, 1) := by decide +kernel
theorem d_RF_define_2 : decode prog_14_method_14_code 2 = .ok (.invokevirtual 160, 3) := by decide +kernel
theorem d_RF_define_5 : decode prog_14_method_14_code 5 = .ok (.istore_n 2, 1) := by decide +kernel
theorem d_RF_define_6 : decode prog_14_method_14_code 6 = .ok (.aload_n 0, 1) := by decide +kernel
theorem d_RF_define_7 : decode prog_14_method_14_code 7 = .ok (.iconst 0, 1) := by decide +kernel
theorem d_RF_define_8 : decode prog_14_method_14_code 8 = .ok (.putfield 119, 3) := by decide +kernel
theorem d_RF_define_11 : decode prog_14_method_14_code 11 = .ok (.iload_n 2, 1) := by decide +kernel
theorem d_RF_define_12 : decode prog_14_method_14_code 12 = .ok (.ireturn, 1) := by decide +kernel
theorem d_RF_takeDraft_0 : decode prog_14_method_13_code 0 = .ok (.iload_n 1, 1) := by decide +kernel
theorem d_RF_takeDraft_1 : decode prog_14_method_13_code 1 = .ok (.invokestatic 127, 3) := by decide +kernel
theorem d_RF_takeDraft_4 : decode prog_14_method_13_code 4 = .ok (.ifCond .ne 11, 3) := by decide +kernel
theorem d_RF_takeDraft_7 : decode prog_14_method_13_code 7 = .ok (.iload_n 1, 1) := by decide +kernel
theorem d_RF_takeDraft_8 : decode prog_14_method_13_code 8 = .ok (.bipush 46, 2) := by decide +kernel
theorem d_RF_takeDraft_10 : decode prog_14_method_13_code 10 = .ok (.if_icmp .eq 5, 3) := by decide +kernel
theorem d_RF_takeDraft_13 : decode prog_14_method_13_code 13 = .ok (.iconst (-1), 1) := by decide +kernel
theorem d_RF_takeDraft_14 : decode prog_14_method_13_code 14 = .ok (.ireturn, 1) := by decide +kernel
theorem d_RF_takeDraft_15 : decode prog_14_method_13_code 15 = .ok (.aload_n 0, 1) := by decide +kernel
theorem d_RF_takeDraft_16 : decode prog_14_method_13_code 16 = .ok (.iconst 1, 1) := by decide +kernel
theorem d_RF_takeDraft_17 : decode prog_14_method_13_code 17 = .ok (.invokevirtual 147, 3) := by decide +kernel
theorem d_RF_takeDraft_20 : decode prog_14_method_13_code 20 = .ok (.bipush 10, 2) := by decide +kernel
theorem d_RF_takeDraft_22 : decode prog_14_method_13_code 22 = .ok (.if_icmp .gt 13, 3) := by decide +kernel
theorem d_RF_takeDraft_25 : decode prog_14_method_13_code 25 = .ok (.aload_n 0, 1) := by decide +kernel
theorem d_RF_takeDraft_26 : decode prog_14_method_13_code 26 = .ok (.iconst 0, 1) := by decide +kernel
theorem d_RF_takeDraft_27 : decode prog_14_method_13_code 27 = .ok (.invokevirtual 147, 3) := by decide +kernel
theorem d_RF_takeDraft_30 : decode prog_14_method_13_code 30 = .ok (.bipush 6, 2) := by decide +kernel
theorem d_RF_takeDraft_32 : decode prog_14_method_13_code 32 = .ok (.if_icmp .le 6, 3) := by decide +kernel
theorem d_RF_takeDraft_35 : decode prog_14_method_13_code 35 = .ok (.bipush (-2), 2) := by decide +kernel
theorem d_RF_takeDraft_37 : decode prog_14_method_13_code 37 = .ok (.ireturn, 1) := by decide +kernel
theorem d_RF_takeDraft_38 : decode prog_14_method_13_code 38 = .ok (.aload_n 0, 1) := by decide +kernel
theorem d_RF_takeDraft_39 : decode prog_14_method_13_code 39 = .ok (.iconst 0, 1) := by decide +kernel
theorem d_RF_takeDraft_40 : decode prog_14_method_13_code 40 = .ok (.invokevirtual 123, 3) := by decide +kernel
theorem d_RF_takeDraft_43 : decode prog_14_method_13_code 43 = .ok (.bipush 35, 2) := by decide +kernel
theorem d_RF_takeDraft_45 : decode prog_14_method_13_code 45 = .ok (.if_icmp .ne 7, 3) := by decide +kernel
theorem d_RF_takeDraft_48 : decode prog_14_method_13_code 48 = .ok (.iconst 1, 1) := by decide +kernel
theorem d_RF_takeDraft_49 : decode prog_14_method_13_code 49 = .ok (.goto 4, 3) := by decide +kernel
theorem d_RF_takeDraft_52 : decode prog_14_method_13_code 52 = .ok (.iconst 0, 1) := by decide +kernel
theorem d_RF_takeDraft_53 : decode prog_14_method_13_code 53 = .ok (.istore_n 2, 1) := by decide +kernel
theorem d_RF_takeDraft_54 : decode prog_14_method_13_code 54 = .ok (.iload_n 2, 1) := by decide +kernel
theorem d_RF_takeDraft_55 : decode prog_14_method_13_code 55 = .ok (.ifCond .eq 7, 3) := by decide +kernel
theorem d_RF_takeDraft_58 : decode prog_14_method_13_code 58 = .ok (.iconst 1, 1) := by decide +kernel
theorem d_RF_takeDraft_59 : decode prog_14_method_13_code 59 = .ok (.goto 4, 3) := by decide +kernel
theorem d_RF_takeDraft_62 : decode prog_14_method_13_code 62 = .ok (.iconst 0, 1) := by decide +kernel
theorem d_RF_takeDraft_63 : decode prog_14_method_13_code 63 = .ok (.istore_n 3, 1) := by decide +kernel
theorem d_RF_takeDraft_64 : decode prog_14_method_13_code 64 = .ok (.iload_n 3, 1) := by decide +kernel
theorem d_RF_takeDraft_65 : decode prog_14_method_13_code 65 = .ok (.aload_n 0, 1) := by decide +kernel
theorem d_RF_takeDraft_66 : decode prog_14_method_13_code 66 = .ok (.getfield 119, 3) := by decide +kernel
theorem d_RF_takeDraft_69 : decode prog_14_method_13_code 69 = .ok (.if_icmp .ne 10, 3) := by decide +kernel
theorem d_RF_takeDraft_72 : decode prog_14_method_13_code 72 = .ok (.aload_n 0, 1) := by decide +kernel
theorem d_RF_takeDraft_73 : decode prog_14_method_13_code 73 = .ok (.invokevirtual 151, 3) := by decide +kernel
theorem d_RF_takeDraft_76 : decode prog_14_method_13_code 76 = .ok (.goto 21, 3) := by decide +kernel
theorem d_RF_takeDraft_79 : decode prog_14_method_13_code 79 = .ok (.aload_n 0, 1) := by decide +kernel
theorem d_RF_takeDraft_80 : decode prog_14_method_13_code 80 = .ok (.iload_n 3, 1) := by decide +kernel
theorem d_RF_takeDraft_81 : decode prog_14_method_13_code 81 = .ok (.invokevirtual 154, 3) := by decide +kernel
theorem d_RF_takeDraft_84 : decode prog_14_method_13_code 84 = .ok (.ifCond .eq 11, 3) := by decide +kernel
theorem d_RF_takeDraft_87 : decode prog_14_method_13_code 87 = .ok (.aload_n 0, 1) := by decide +kernel
theorem d_RF_takeDraft_88 : decode prog_14_method_13_code 88 = .ok (.iload_n 3, 1) := by decide +kernel
theorem d_RF_takeDraft_89 : decode prog_14_method_13_code 89 = .ok (.invokevirtual 157, 3) := by decide +kernel
theorem d_RF_takeDraft_92 : decode prog_14_method_13_code 92 = .ok (.goto 5, 3) := by decide +kernel
theorem d_RF_takeDraft_95 : decode prog_14_method_13_code 95 = .ok (.iconst (-1), 1) := by decide +kernel
theorem d_RF_takeDraft_96 : decode prog_14_method_13_code 96 = .ok (.ireturn, 1) := by decide +kernel
theorem d_RF_takeDraft_97 : decode prog_14_method_13_code 97 = .ok (.iload_n 1, 1) := by decide +kernel
theorem d_RF_takeDraft_98 : decode prog_14_method_13_code 98 = .ok (.bipush 46, 2) := by decide +kernel
theorem d_RF_takeDraft_100 : decode prog_14_method_13_code 100 = .ok (.if_icmp .ne 8, 3) := by decide +kernel
theorem d_RF_takeDraft_103 : decode prog_14_method_13_code 103 = .ok (.bipush 8, 2) := by decide +kernel
theorem d_RF_takeDraft_105 : decode prog_14_method_13_code 105 = .ok (.goto 7, 3) := by decide +kernel
theorem d_RF_takeDraft_108 : decode prog_14_method_13_code 108 = .ok (.iload_n 1, 1) := by decide +kernel
theorem d_RF_takeDraft_109 : decode prog_14_method_13_code 109 = .ok (.bipush 97, 2) := by decide +kernel
theorem d_RF_takeDraft_111 : decode prog_14_method_13_code 111 = .ok (.isub, 1) := by decide +kernel
theorem d_RF_takeDraft_112 : decode prog_14_method_13_code 112 = .ok (.istore 4, 2) := by decide +kernel
theorem d_RF_takeDraft_114 : decode prog_14_method_13_code 114 = .ok (.aload_n 0, 1) := by decide +kernel
theorem d_RF_takeDraft_115 : decode prog_14_method_13_code 115 = .ok (.getfield 13, 3) := by decide +kernel
theorem d_RF_takeDraft_118 : decode prog_14_method_13_code 118 = .ok (.iload 4, 2) := by decide +kernel
theorem d_RF_takeDraft_120 : decode prog_14_method_13_code 120 = .ok (.iconst 1, 1) := by decide +kernel
theorem d_RF_takeDraft_121 : decode prog_14_method_13_code 121 = .ok (.bastore, 1) := by decide +kernel
theorem d_RF_takeDraft_122 : decode prog_14_method_13_code 122 = .ok (.aload_n 0, 1) := by decide +kernel
theorem d_RF_takeDraft_123 : decode prog_14_method_13_code 123 = .ok (.getfield 17, 3) := by decide +kernel
theorem d_RF_takeDraft_126 : decode prog_14_method_13_code 126 = .ok (.iload 4, 2) := by decide +kernel
theorem d_RF_takeDraft_128 : decode prog_14_method_13_code 128 = .ok (.iload_n 2, 1) := by decide +kernel
theorem d_RF_takeDraft_129 : decode prog_14_method_13_code 129 = .ok (.bastore, 1) := by decide +kernel
theorem d_RF_takeDraft_130 : decode prog_14_method_13_code 130 = .ok (.aload_n 0, 1) := by decide +kernel
theorem d_RF_takeDraft_131 : decode prog_14_method_13_code 131 = .ok (.getfield 20, 3) := by decide +kernel
theorem d_RF_takeDraft_134 : decode prog_14_method_13_code 134 = .ok (.iload 4, 2) := by decide +kernel
theorem d_RF_takeDraft_136 : decode prog_14_method_13_code 136 = .ok (.aload_n 0, 1) := by decide +kernel
theorem d_RF_takeDraft_137 : decode prog_14_method_13_code 137 = .ok (.getfield 20, 3) := by decide +kernel
theorem d_RF_takeDraft_140 : decode prog_14_method_13_code 140 = .ok (.bipush 9, 2) := by decide +kernel
theorem d_RF_takeDraft_142 : decode prog_14_method_13_code 142 = .ok (.iaload, 1) := by decide +kernel
theorem d_RF_takeDraft_143 : decode prog_14_method_13_code 143 = .ok (.iastore, 1) := by decide +kernel
theorem d_RF_takeDraft_144 : decode prog_14_method_13_code 144 = .ok (.aload_n 0, 1) := by decide +kernel
theorem d_RF_takeDraft_145 : decode prog_14_method_13_code 145 = .ok (.getfield 23, 3) := by decide +kernel
theorem d_RF_takeDraft_148 : decode prog_14_method_13_code 148 = .ok (.iload 4, 2) := by decide +kernel
theorem d_RF_takeDraft_150 : decode prog_14_method_13_code 150 = .ok (.aload_n 0, 1) := by decide +kernel
theorem d_RF_takeDraft_151 : decode prog_14_method_13_code 151 = .ok (.getfield 23, 3) := by decide +kernel
theorem d_RF_takeDraft_154 : decode prog_14_method_13_code 154 = .ok (.bipush 9, 2) := by decide +kernel
theorem d_RF_takeDraft_156 : decode prog_14_method_13_code 156 = .ok (.iaload, 1) := by decide +kernel
theorem d_RF_takeDraft_157 : decode prog_14_method_13_code 157 = .ok (.iastore, 1) := by decide +kernel
theorem d_RF_takeDraft_158 : decode prog_14_method_13_code 158 = .ok (.aload_n 0, 1) := by decide +kernel
theorem d_RF_takeDraft_159 : decode prog_14_method_13_code 159 = .ok (.getfield 26, 3) := by decide +kernel
theorem d_RF_takeDraft_162 : decode prog_14_method_13_code 162 = .ok (.iload 4, 2) := by decide +kernel
theorem d_RF_takeDraft_164 : decode prog_14_method_13_code 164 = .ok (.aload_n 0, 1) := by decide +kernel
theorem d_RF_takeDraft_165 : decode prog_14_method_13_code 165 = .ok (.getfield 26, 3) := by decide +kernel
theorem d_RF_takeDraft_168 : decode prog_14_method_13_code 168 = .ok (.bipush 9, 2) := by decide +kernel
theorem d_RF_takeDraft_170 : decode prog_14_method_13_code 170 = .ok (.baload, 1) := by decide +kernel
theorem d_RF_takeDraft_171 : decode prog_14_method_13_code 171 = .ok (.bastore, 1) := by decide +kernel
theorem d_RF_takeDraft_172 : decode prog_14_method_13_code 172 = .ok (.aload_n 0, 1) := by decide +kernel
theorem d_RF_takeDraft_173 : decode prog_14_method_13_code 173 = .ok (.getfield 29, 3) := by decide +kernel
theorem d_RF_takeDraft_176 : decode prog_14_method_13_code 176 = .ok (.iload 4, 2) := by decide +kernel
theorem d_RF_takeDraft_178 : decode prog_14_method_13_code 178 = .ok (.aload_n 0, 1) := by decide +kernel
theorem d_RF_takeDraft_179 : decode prog_14_method_13_code 179 = .ok (.getfield 29, 3) := by decide +kernel
theorem d_RF_takeDraft_182 : decode prog_14_method_13_code 182 = .ok (.bipush 9, 2) := by decide +kernel
theorem d_RF_takeDraft_184 : decode prog_14_method_13_code 184 = .ok (.iaload, 1) := by decide +kernel
theorem d_RF_takeDraft_185 : decode prog_14_method_13_code 185 = .ok (.iastore, 1) := by decide +kernel
theorem d_RF_takeDraft_186 : decode prog_14_method_13_code 186 = .ok (.iconst 0, 1) := by decide +kernel
theorem d_RF_takeDraft_187 : decode prog_14_method_13_code 187 = .ok (.istore 5, 2) := by decide +kernel
theorem d_RF_takeDraft_189 : decode prog_14_method_13_code 189 = .ok (.iload 5, 2) := by decide +kernel
theorem d_RF_takeDraft_191 : decode prog_14_method_13_code 191 = .ok (.bipush 10, 2) := by decide +kernel
theorem d_RF_takeDraft_193 : decode prog_14_method_13_code 193 = .ok (.if_icmp .ge 55, 3) := by decide +kernel
theorem d_RF_takeDraft_196 : decode prog_14_method_13_code 196 = .ok (.aload_n 0, 1) := by decide +kernel
theorem d_RF_takeDraft_197 : decode prog_14_method_13_code 197 = .ok (.getfield 32, 3) := by decide +kernel
theorem d_RF_takeDraft_200 : decode prog_14_method_13_code 200 = .ok (.bipush 10, 2) := by decide +kernel
theorem d_RF_takeDraft_202 : decode prog_14_method_13_code 202 = .ok (.iload 4, 2) := by decide +kernel
theorem d_RF_takeDraft_204 : decode prog_14_method_13_code 204 = .ok (.imul, 1) := by decide +kernel
theorem d_RF_takeDraft_205 : decode prog_14_method_13_code 205 = .ok (.iload 5, 2) := by decide +kernel
theorem d_RF_takeDraft_207 : decode prog_14_method_13_code 207 = .ok (.iadd, 1) := by decide +kernel
theorem d_RF_takeDraft_208 : decode prog_14_method_13_code 208 = .ok (.aload_n 0, 1) := by decide +kernel
theorem d_RF_takeDraft_209 : decode prog_14_method_13_code 209 = .ok (.getfield 32, 3) := by decide +kernel
theorem d_RF_takeDraft_212 : decode prog_14_method_13_code 212 = .ok (.bipush 90, 2) := by decide +kernel
theorem d_RF_takeDraft_214 : decode prog_14_method_13_code 214 = .ok (.iload 5, 2) := by decide +kernel
theorem d_RF_takeDraft_216 : decode prog_14_method_13_code 216 = .ok (.iadd, 1) := by decide +kernel
theorem d_RF_takeDraft_217 : decode prog_14_method_13_code 217 = .ok (.iaload, 1) := by decide +kernel
theorem d_RF_takeDraft_218 : decode prog_14_method_13_code 218 = .ok (.iastore, 1) := by decide +kernel
theorem d_RF_takeDraft_219 : decode prog_14_method_13_code 219 = .ok (.aload_n 0, 1) := by decide +kernel
theorem d_RF_takeDraft_220 : decode prog_14_method_13_code 220 = .ok (.getfield 35, 3) := by decide +kernel
theorem d_RF_takeDraft_223 : decode prog_14_method_13_code 223 = .ok (.bipush 10, 2) := by decide +kernel
theorem d_RF_takeDraft_225 : decode prog_14_method_13_code 225 = .ok (.iload 4, 2) := by decide +kernel
theorem d_RF_takeDraft_227 : decode prog_14_method_13_code 227 = .ok (.imul, 1) := by decide +kernel
theorem d_RF_takeDraft_228 : decode prog_14_method_13_code 228 = .ok (.iload 5, 2) := by decide +kernel
theorem d_RF_takeDraft_230 : decode prog_14_method_13_code 230 = .ok (.iadd, 1) := by decide +kernel
theorem d_RF_takeDraft_231 : decode prog_14_method_13_code 231 = .ok (.aload_n 0, 1) := by decide +kernel
theorem d_RF_takeDraft_232 : decode prog_14_method_13_code 232 = .ok (.getfield 35, 3) := by decide +kernel
theorem d_RF_takeDraft_235 : decode prog_14_method_13_code 235 = .ok (.bipush 90, 2) := by decide +kernel
theorem d_RF_takeDraft_237 : decode prog_14_method_13_code 237 = .ok (.iload 5, 2) := by decide +kernel
theorem d_RF_takeDraft_239 : decode prog_14_method_13_code 239 = .ok (.iadd, 1) := by decide +kernel
theorem d_RF_takeDraft_240 : decode prog_14_method_13_code 240 = .ok (.iaload, 1) := by decide +kernel
theorem d_RF_takeDraft_241 : decode prog_14_method_13_code 241 = .ok (.iastore, 1) := by decide +kernel
theorem d_RF_takeDraft_242 : decode prog_14_method_13_code 242 = .ok (.iinc 5 1, 3) := by decide +kernel
theorem d_RF_takeDraft_245 : decode prog_14_method_13_code 245 = .ok (.goto (-56), 3) := by decide +kernel
theorem d_RF_takeDraft_248 : decode prog_14_method_13_code 248 = .ok (.iconst 0, 1) := by decide +kernel
theorem d_RF_takeDraft_249 : decode prog_14_method_13_code 249 = .ok (.ireturn, 1) := by decide +kernel
theorem d_RF_isName_0 : decode prog_14_method_2_code 0 = .ok (.iload_n 0, 1) := by decide +kernel
theorem d_RF_isName_1 : decode prog_14_method_2_code 1 = .ok (.bipush 97, 2) := by decide +kernel
theorem d_RF_isName_3 : decode prog_14_method_2_code 3 = .ok (.if_icmp .lt 13, 3) := by decide +kernel
theorem d_RF_isName_6 : decode prog_14_method_2_code 6 = .ok (.iload_n 0, 1) := by decide +kernel
theorem d_RF_isName_7 : decode prog_14_method_2_code 7 = .ok (.bipush 104, 2) := by decide +kernel
theorem d_RF_isName_9 : decode prog_14_method_2_code 9 = .ok (.if_icmp .gt 7, 3) := by decide +kernel
theorem d_RF_isName_12 : decode prog_14_method_2_code 12 = .ok (.iconst 1, 1) := by decide +kernel
theorem d_RF_isName_13 : decode prog_14_method_2_code 13 = .ok (.goto 4, 3) := by decide +kernel
theorem d_RF_isName_16 : decode prog_14_method_2_code 16 = .ok (.iconst 0, 1) := by decide +kernel
theorem d_RF_isName_17 : decode prog_14_method_2_code 17 = .ok (.ireturn, 1) := by decide +kernel
theorem d_RF_count_0 : decode prog_14_method_12_code 0 = .ok (.iconst 0, 1) := by decide +kernel
theorem d_RF_count_1 : decode prog_14_method_12_code 1 = .ok (.istore_n 2, 1) := by decide +kernel
theorem d_RF_count_2 : decode prog_14_method_12_code 2 = .ok (.iconst 0, 1) := by decide +kernel
theorem d_RF_count_3 : decode prog_14_method_12_code 3 = .ok (.istore_n 3, 1) := by decide +kernel
theorem d_RF_count_4 : decode prog_14_method_12_code 4 = .ok (.iload_n 3, 1) := by decide +kernel
theorem d_RF_count_5 : decode prog_14_method_12_code 5 = .ok (.aload_n 0, 1) := by decide +kernel
theorem d_RF_count_6 : decode prog_14_method_12_code 6 = .ok (.getfield 119, 3) := by decide +kernel
theorem d_RF_count_9 : decode prog_14_method_12_code 9 = .ok (.if_icmp .ge 40, 3) := by decide +kernel
theorem d_RF_count_12 : decode prog_14_method_12_code 12 = .ok (.iload_n 1, 1) := by decide +kernel
theorem d_RF_count_13 : decode prog_14_method_12_code 13 = .ok (.ifCond .eq 17, 3) := by decide +kernel
theorem d_RF_count_16 : decode prog_14_method_12_code 16 = .ok (.aload_n 0, 1) := by decide +kernel
theorem d_RF_count_17 : decode prog_14_method_12_code 17 = .ok (.iload_n 3, 1) := by decide +kernel
theorem d_RF_count_18 : decode prog_14_method_12_code 18 = .ok (.invokevirtual 123, 3) := by decide +kernel
theorem d_RF_count_21 : decode prog_14_method_12_code 21 = .ok (.invokestatic 127, 3) := by decide +kernel
theorem d_RF_count_24 : decode prog_14_method_12_code 24 = .ok (.ifCond .eq 19, 3) := by decide +kernel
theorem d_RF_count_27 : decode prog_14_method_12_code 27 = .ok (.goto 13, 3) := by decide +kernel
theorem d_RF_count_30 : decode prog_14_method_12_code 30 = .ok (.aload_n 0, 1) := by decide +kernel
theorem d_RF_count_31 : decode prog_14_method_12_code 31 = .ok (.iload_n 3, 1) := by decide +kernel
theorem d_RF_count_32 : decode prog_14_method_12_code 32 = .ok (.invokevirtual 123, 3) := by decide +kernel
theorem d_RF_count_35 : decode prog_14_method_12_code 35 = .ok (.bipush 40, 2) := by decide +kernel
theorem d_RF_count_37 : decode prog_14_method_12_code 37 = .ok (.if_icmp .ne 6, 3) := by decide +kernel
theorem d_RF_count_40 : decode prog_14_method_12_code 40 = .ok (.iinc 2 1, 3) := by decide +kernel
theorem d_RF_count_43 : decode prog_14_method_12_code 43 = .ok (.iinc 3 1, 3) := by decide +kernel
theorem d_RF_count_46 : decode prog_14_method_12_code 46 = .ok (.goto (-42), 3) := by decide +kernel
theorem d_RF_count_49 : decode prog_14_method_12_code 49 = .ok (.iload_n 2, 1) := by decide +kernel
theorem d_RF_count_50 : decode prog_14_method_12_code 50 = .ok (.ireturn, 1) := by decide +kernel
theorem d_RF_at_0 : decode prog_14_method_4_code 0 = .ok (.iload_n 1, 1) := by decide +kernel
theorem d_RF_at_1 : decode prog_14_method_4_code 1 = .ok (.aload_n 0, 1) := by decide +kernel
theorem d_RF_at_2 : decode prog_14_method_4_code 2 = .ok (.getfield 119, 3) := by decide +kernel
theorem d_RF_at_5 : decode prog_14_method_4_code 5 = .ok (.if_icmp .ge 12, 3) := by decide +kernel
theorem d_RF_at_8 : decode prog_14_method_4_code 8 = .ok (.aload_n 0, 1) := by decide +kernel
theorem d_RF_at_9 : decode prog_14_method_4_code 9 = .ok (.getfield 7, 3) := by decide +kernel
theorem d_RF_at_12 : decode prog_14_method_4_code 12 = .ok (.iload_n 1, 1) := by decide +kernel
theorem d_RF_at_13 : decode prog_14_method_4_code 13 = .ok (.iaload, 1) := by decide +kernel
theorem d_RF_at_14 : decode prog_14_method_4_code 14 = .ok (.goto 4, 3) := by decide +kernel
theorem d_RF_at_17 : decode prog_14_method_4_code 17 = .ok (.iconst 0, 1) := by decide +kernel
theorem d_RF_at_18 : decode prog_14_method_4_code 18 = .ok (.ireturn, 1) := by decide +kernel
theorem d_RF_readNothing_0 : decode prog_14_method_11_code 0 = .ok (.aload_n 0, 1) := by decide +kernel
theorem d_RF_readNothing_1 : decode prog_14_method_11_code 1 = .ok (.getfield 29, 3) := by decide +kernel
theorem d_RF_readNothing_4 : decode prog_14_method_11_code 4 = .ok (.bipush 9, 2) := by decide +kernel
theorem d_RF_readNothing_6 : decode prog_14_method_11_code 6 = .ok (.iconst 0, 1) := by decide +kernel
theorem d_RF_readNothing_7 : decode prog_14_method_11_code 7 = .ok (.iastore, 1) := by decide +kernel
theorem d_RF_readNothing_8 : decode prog_14_method_11_code 8 = .ok (.aload_n 0, 1) := by decide +kernel
theorem d_RF_readNothing_9 : decode prog_14_method_11_code 9 = .ok (.getfield 20, 3) := by decide +kernel
theorem d_RF_readNothing_12 : decode prog_14_method_11_code 12 = .ok (.bipush 9, 2) := by decide +kernel
theorem d_RF_readNothing_14 : decode prog_14_method_11_code 14 = .ok (.iconst 0, 1) := by decide +kernel
theorem d_RF_readNothing_15 : decode prog_14_method_11_code 15 = .ok (.iastore, 1) := by decide +kernel
theorem d_RF_readNothing_16 : decode prog_14_method_11_code 16 = .ok (.aload_n 0, 1) := by decide +kernel
theorem d_RF_readNothing_17 : decode prog_14_method_11_code 17 = .ok (.getfield 23, 3) := by decide +kernel
theorem d_RF_readNothing_20 : decode prog_14_method_11_code 20 = .ok (.bipush 9, 2) := by decide +kernel
theorem d_RF_readNothing_22 : decode prog_14_method_11_code 22 = .ok (.iconst 0, 1) := by decide +kernel
theorem d_RF_readNothing_23 : decode prog_14_method_11_code 23 = .ok (.iastore, 1) := by decide +kernel
theorem d_RF_readNothing_24 : decode prog_14_method_11_code 24 = .ok (.aload_n 0, 1) := by decide +kernel
theorem d_RF_readNothing_25 : decode prog_14_method_11_code 25 = .ok (.getfield 26, 3) := by decide +kernel
theorem d_RF_readNothing_28 : decode prog_14_method_11_code 28 = .ok (.bipush 9, 2) := by decide +kernel
theorem d_RF_readNothing_30 : decode prog_14_method_11_code 30 = .ok (.iconst 1, 1) := by decide +kernel
theorem d_RF_readNothing_31 : decode prog_14_method_11_code 31 = .ok (.bastore, 1) := by decide +kernel
theorem d_RF_readNothing_32 : decode prog_14_method_11_code 32 = .ok (.return_, 1) := by decide +kernel
theorem d_RF_isExpression_0 : decode prog_14_method_5_code 0 = .ok (.iconst 0, 1) := by decide +kernel
theorem d_RF_isExpression_1 : decode prog_14_method_5_code 1 = .ok (.istore_n 2, 1) := by decide +kernel
theorem d_RF_isExpression_2 : decode prog_14_method_5_code 2 = .ok (.iconst 0, 1) := by decide +kernel
theorem d_RF_isExpression_3 : decode prog_14_method_5_code 3 = .ok (.istore_n 3, 1) := by decide +kernel
theorem d_RF_isExpression_4 : decode prog_14_method_5_code 4 = .ok (.iconst 0, 1) := by decide +kernel
theorem d_RF_isExpression_5 : decode prog_14_method_5_code 5 = .ok (.istore 4, 2) := by decide +kernel
theorem d_RF_isExpression_7 : decode prog_14_method_5_code 7 = .ok (.iload_n 1, 1) := by decide +kernel
theorem d_RF_isExpression_8 : decode prog_14_method_5_code 8 = .ok (.istore 5, 2) := by decide +kernel
theorem d_RF_isExpression_10 : decode prog_14_method_5_code 10 = .ok (.iload 5, 2) := by decide +kernel
theorem d_RF_isExpression_12 : decode prog_14_method_5_code 12 = .ok (.aload_n 0, 1) := by decide +kernel
theorem d_RF_isExpression_13 : decode prog_14_method_5_code 13 = .ok (.getfield 119, 3) := by decide +kernel
theorem d_RF_isExpression_16 : decode prog_14_method_5_code 16 = .ok (.if_icmp .ge 133, 3) := by decide +kernel
theorem d_RF_isExpression_19 : decode prog_14_method_5_code 19 = .ok (.aload_n 0, 1) := by decide +kernel
theorem d_RF_isExpression_20 : decode prog_14_method_5_code 20 = .ok (.iload 5, 2) := by decide +kernel
theorem d_RF_isExpression_22 : decode prog_14_method_5_code 22 = .ok (.invokevirtual 123, 3) := by decide +kernel
theorem d_RF_isExpression_25 : decode prog_14_method_5_code 25 = .ok (.istore 6, 2) := by decide +kernel
theorem d_RF_isExpression_27 : decode prog_14_method_5_code 27 = .ok (.iload_n 3, 1) := by decide +kernel
theorem d_RF_isExpression_28 : decode prog_14_method_5_code 28 = .ok (.ifCond .ne 38, 3) := by decide +kernel
theorem d_RF_isExpression_31 : decode prog_14_method_5_code 31 = .ok (.iload 6, 2) := by decide +kernel
theorem d_RF_isExpression_33 : decode prog_14_method_5_code 33 = .ok (.bipush 40, 2) := by decide +kernel
theorem d_RF_isExpression_35 : decode prog_14_method_5_code 35 = .ok (.if_icmp .ne 9, 3) := by decide +kernel
theorem d_RF_isExpression_38 : decode prog_14_method_5_code 38 = .ok (.iinc 2 1, 3) := by decide +kernel
theorem d_RF_isExpression_41 : decode prog_14_method_5_code 41 = .ok (.goto 13, 3) := by decide +kernel
theorem d_RF_isExpression_44 : decode prog_14_method_5_code 44 = .ok (.iload 6, 2) := by decide +kernel
theorem d_RF_isExpression_46 : decode prog_14_method_5_code 46 = .ok (.invokestatic 127, 3) := by decide +kernel
theorem d_RF_isExpression_49 : decode prog_14_method_5_code 49 = .ok (.ifCond .ne 5, 3) := by decide +kernel
theorem d_RF_isExpression_52 : decode prog_14_method_5_code 52 = .ok (.iconst 0, 1) := by decide +kernel
theorem d_RF_isExpression_53 : decode prog_14_method_5_code 53 = .ok (.ireturn, 1) := by decide +kernel
theorem d_RF_isExpression_54 : decode prog_14_method_5_code 54 = .ok (.iload 6, 2) := by decide +kernel
theorem d_RF_isExpression_56 : decode prog_14_method_5_code 56 = .ok (.invokestatic 127, 3) := by decide +kernel
theorem d_RF_isExpression_59 : decode prog_14_method_5_code 59 = .ok (.istore_n 3, 1) := by decide +kernel
theorem d_RF_isExpression_60 : decode prog_14_method_5_code 60 = .ok (.iconst 0, 1) := by decide +kernel
theorem d_RF_isExpression_61 : decode prog_14_method_5_code 61 = .ok (.istore 4, 2) := by decide +kernel
theorem d_RF_isExpression_63 : decode prog_14_method_5_code 63 = .ok (.goto 80, 3) := by decide +kernel
theorem d_RF_isExpression_66 : decode prog_14_method_5_code 66 = .ok (.iload 6, 2) := by decide +kernel
theorem d_RF_isExpression_68 : decode prog_14_method_5_code 68 = .ok (.bipush 63, 2) := by decide +kernel
theorem d_RF_isExpression_70 : decode prog_14_method_5_code 70 = .ok (.if_icmp .eq 17, 3) := by decide +kernel
theorem d_RF_isExpression_73 : decode prog_14_method_5_code 73 = .ok (.iload 6, 2) := by decide +kernel
theorem d_RF_isExpression_75 : decode prog_14_method_5_code 75 = .ok (.bipush 42, 2) := by decide +kernel
theorem d_RF_isExpression_77 : decode prog_14_method_5_code 77 = .ok (.if_icmp .eq 10, 3) := by decide +kernel
theorem d_RF_isExpression_80 : decode prog_14_method_5_code 80 = .ok (.iload 6, 2) := by decide +kernel
theorem d_RF_isExpression_82 : decode prog_14_method_5_code 82 = .ok (.bipush 43, 2) := by decide +kernel
theorem d_RF_isExpression_84 : decode prog_14_method_5_code 84 = .ok (.if_icmp .ne 16, 3) := by decide +kernel
theorem d_RF_isExpression_87 : decode prog_14_method_5_code 87 = .ok (.iload 4, 2) := by decide +kernel
theorem d_RF_isExpression_89 : decode prog_14_method_5_code 89 = .ok (.ifCond .eq 5, 3) := by decide +kernel
theorem d_RF_isExpression_92 : decode prog_14_method_5_code 92 = .ok (.iconst 0, 1) := by decide +kernel
theorem d_RF_isExpression_93 : decode prog_14_method_5_code 93 = .ok (.ireturn, 1) := by decide +kernel
theorem d_RF_isExpression_94 : decode prog_14_method_5_code 94 = .ok (.iconst 1, 1) := by decide +kernel
theorem d_RF_isExpression_95 : decode prog_14_method_5_code 95 = .ok (.istore 4, 2) := by decide +kernel
theorem d_RF_isExpression_97 : decode prog_14_method_5_code 97 = .ok (.goto 46, 3) := by decide +kernel
theorem d_RF_isExpression_100 : decode prog_14_method_5_code 100 = .ok (.iload 6, 2) := by decide +kernel
theorem d_RF_isExpression_102 : decode prog_14_method_5_code 102 = .ok (.bipush 41, 2) := by decide +kernel
theorem d_RF_isExpression_104 : decode prog_14_method_5_code 104 = .ok (.if_icmp .ne 18, 3) := by decide +kernel
theorem d_RF_isExpression_107 : decode prog_14_method_5_code 107 = .ok (.iinc 2 (-1), 3) := by decide +kernel
theorem d_RF_isExpression_110 : decode prog_14_method_5_code 110 = .ok (.iload_n 2, 1) := by decide +kernel
theorem d_RF_isExpression_111 : decode prog_14_method_5_code 111 = .ok (.ifCond .ge 5, 3) := by decide +kernel
theorem d_RF_isExpression_114 : decode prog_14_method_5_code 114 = .ok (.iconst 0, 1) := by decide +kernel
theorem d_RF_isExpression_115 : decode prog_14_method_5_code 115 = .ok (.ireturn, 1) := by decide +kernel
theorem d_RF_isExpression_116 : decode prog_14_method_5_code 116 = .ok (.iconst 0, 1) := by decide +kernel
theorem d_RF_isExpression_117 : decode prog_14_method_5_code 117 = .ok (.istore 4, 2) := by decide +kernel
theorem d_RF_isExpression_119 : decode prog_14_method_5_code 119 = .ok (.goto 24, 3) := by decide +kernel
theorem d_RF_isExpression_122 : decode prog_14_method_5_code 122 = .ok (.iload 6, 2) := by decide +kernel
theorem d_RF_isExpression_124 : decode prog_14_method_5_code 124 = .ok (.bipush 124, 2) := by decide +kernel
theorem d_RF_isExpression_126 : decode prog_14_method_5_code 126 = .ok (.if_icmp .eq 10, 3) := by decide +kernel
theorem d_RF_isExpression_129 : decode prog_14_method_5_code 129 = .ok (.iload 6, 2) := by decide +kernel
theorem d_RF_isExpression_131 : decode prog_14_method_5_code 131 = .ok (.bipush 44, 2) := by decide +kernel
theorem d_RF_isExpression_133 : decode prog_14_method_5_code 133 = .ok (.if_icmp .ne 8, 3) := by decide +kernel
theorem d_RF_isExpression_136 : decode prog_14_method_5_code 136 = .ok (.iconst 0, 1) := by decide +kernel
theorem d_RF_isExpression_137 : decode prog_14_method_5_code 137 = .ok (.istore_n 3, 1) := by decide +kernel
theorem d_RF_isExpression_138 : decode prog_14_method_5_code 138 = .ok (.goto 5, 3) := by decide +kernel
theorem d_RF_isExpression_141 : decode prog_14_method_5_code 141 = .ok (.iconst 0, 1) := by decide +kernel
theorem d_RF_isExpression_142 : decode prog_14_method_5_code 142 = .ok (.ireturn, 1) := by decide +kernel
theorem d_RF_isExpression_143 : decode prog_14_method_5_code 143 = .ok (.iinc 5 1, 3) := by decide +kernel
theorem d_RF_isExpression_146 : decode prog_14_method_5_code 146 = .ok (.goto (-136), 3) := by decide +kernel
theorem d_RF_isExpression_149 : decode prog_14_method_5_code 149 = .ok (.iload_n 3, 1) := by decide +kernel
theorem d_RF_isExpression_150 : decode prog_14_method_5_code 150 = .ok (.ifCond .eq 11, 3) := by decide +kernel
theorem d_RF_isExpression_153 : decode prog_14_method_5_code 153 = .ok (.iload_n 2, 1) := by decide +kernel
theorem d_RF_isExpression_154 : decode prog_14_method_5_code 154 = .ok (.ifCond .ne 7, 3) := by decide +kernel
theorem d_RF_isExpression_157 : decode prog_14_method_5_code 157 = .ok (.iconst 1, 1) := by decide +kernel
theorem d_RF_isExpression_158 : decode prog_14_method_5_code 158 = .ok (.goto 4, 3) := by decide +kernel
theorem d_RF_isExpression_161 : decode prog_14_method_5_code 161 = .ok (.iconst 0, 1) := by decide +kernel
theorem d_RF_isExpression_162 : decode prog_14_method_5_code 162 = .ok (.ireturn, 1) := by decide +kernel
theorem d_RF_readExpression_0 : decode prog_14_method_10_code 0 = .ok (.iconst 0, 1) := by decide +kernel
theorem d_RF_readExpression_1 : decode prog_14_method_10_code 1 = .ok (.istore_n 2, 1) := by decide +kernel
theorem d_RF_readExpression_2 : decode prog_14_method_10_code 2 = .ok (.iconst 0, 1) := by decide +kernel
theorem d_RF_readExpression_3 : decode prog_14_method_10_code 3 = .ok (.istore_n 3, 1) := by decide +kernel
theorem d_RF_readExpression_4 : decode prog_14_method_10_code 4 = .ok (.iconst 0, 1) := by decide +kernel
theorem d_RF_readExpression_5 : decode prog_14_method_10_code 5 = .ok (.istore 4, 2) := by decide +kernel
theorem d_RF_readExpression_7 : decode prog_14_method_10_code 7 = .ok (.iload 4, 2) := by decide +kernel
theorem d_RF_readExpression_9 : decode prog_14_method_10_code 9 = .ok (.bipush 10, 2) := by decide +kernel
theorem d_RF_readExpression_11 : decode prog_14_method_10_code 11 = .ok (.if_icmp .ge 20, 3) := by decide +kernel
theorem d_RF_readExpression_14 : decode prog_14_method_10_code 14 = .ok (.aload_n 0, 1) := by decide +kernel
theorem d_RF_readExpression_15 : decode prog_14_method_10_code 15 = .ok (.getfield 35, 3) := by decide +kernel
theorem d_RF_readExpression_18 : decode prog_14_method_10_code 18 = .ok (.bipush 90, 2) := by decide +kernel
theorem d_RF_readExpression_20 : decode prog_14_method_10_code 20 = .ok (.iload 4, 2) := by decide +kernel
theorem d_RF_readExpression_22 : decode prog_14_method_10_code 22 = .ok (.iadd, 1) := by decide +kernel
theorem d_RF_readExpression_23 : decode prog_14_method_10_code 23 = .ok (.iconst 0, 1) := by decide +kernel
theorem d_RF_readExpression_24 : decode prog_14_method_10_code 24 = .ok (.iastore, 1) := by decide +kernel
theorem d_RF_readExpression_25 : decode prog_14_method_10_code 25 = .ok (.iinc 4 1, 3) := by decide +kernel
theorem d_RF_readExpression_28 : decode prog_14_method_10_code 28 = .ok (.goto (-21), 3) := by decide +kernel
theorem d_RF_readExpression_31 : decode prog_14_method_10_code 31 = .ok (.iconst 0, 1) := by decide +kernel
theorem d_RF_readExpression_32 : decode prog_14_method_10_code 32 = .ok (.istore 4, 2) := by decide +kernel
theorem d_RF_readExpression_34 : decode prog_14_method_10_code 34 = .ok (.iload 4, 2) := by decide +kernel
theorem d_RF_readExpression_36 : decode prog_14_method_10_code 36 = .ok (.bipush 14, 2) := by decide +kernel
theorem d_RF_readExpression_38 : decode prog_14_method_10_code 38 = .ok (.if_icmp .ge 19, 3) := by decide +kernel
theorem d_RF_readExpression_41 : decode prog_14_method_10_code 41 = .ok (.aload_n 0, 1) := by decide +kernel
theorem d_RF_readExpression_42 : decode prog_14_method_10_code 42 = .ok (.iload 4, 2) := by decide +kernel
theorem d_RF_readExpression_44 : decode prog_14_method_10_code 44 = .ok (.iconst 0, 1) := by decide +kernel
theorem d_RF_readExpression_45 : decode prog_14_method_10_code 45 = .ok (.iconst 0, 1) := by decide +kernel
theorem d_RF_readExpression_46 : decode prog_14_method_10_code 46 = .ok (.iconst 0, 1) := by decide +kernel
theorem d_RF_readExpression_47 : decode prog_14_method_10_code 47 = .ok (.iconst 0, 1) := by decide +kernel
theorem d_RF_readExpression_48 : decode prog_14_method_10_code 48 = .ok (.invokevirtual 131, 3) := by decide +kernel
theorem d_RF_readExpression_51 : decode prog_14_method_10_code 51 = .ok (.iinc 4 1, 3) := by decide +kernel
theorem d_RF_readExpression_54 : decode prog_14_method_10_code 54 = .ok (.goto (-20), 3) := by decide +kernel
theorem d_RF_readExpression_57 : decode prog_14_method_10_code 57 = .ok (.iload_n 1, 1) := by decide +kernel
theorem d_RF_readExpression_58 : decode prog_14_method_10_code 58 = .ok (.istore 4, 2) := by decide +kernel
theorem d_RF_readExpression_60 : decode prog_14_method_10_code 60 = .ok (.iload 4, 2) := by decide +kernel
theorem d_RF_readExpression_62 : decode prog_14_method_10_code 62 = .ok (.aload_n 0, 1) := by decide +kernel
theorem d_RF_readExpression_63 : decode prog_14_method_10_code 63 = .ok (.getfield 119, 3) := by decide +kernel
theorem d_RF_readExpression_66 : decode prog_14_method_10_code 66 = .ok (.if_icmp .ge 246, 3) := by decide +kernel
theorem d_RF_readExpression_69 : decode prog_14_method_10_code 69 = .ok (.aload_n 0, 1) := by decide +kernel
theorem d_RF_readExpression_70 : decode prog_14_method_10_code 70 = .ok (.iload 4, 2) := by decide +kernel
theorem d_RF_readExpression_72 : decode prog_14_method_10_code 72 = .ok (.invokevirtual 123, 3) := by decide +kernel
theorem d_RF_readExpression_75 : decode prog_14_method_10_code 75 = .ok (.istore 5, 2) := by decide +kernel
theorem d_RF_readExpression_77 : decode prog_14_method_10_code 77 = .ok (.iload 5, 2) := by decide +kernel
theorem d_RF_readExpression_79 : decode prog_14_method_10_code 79 = .ok (.bipush 40, 2) := by decide +kernel
theorem d_RF_readExpression_81 : decode prog_14_method_10_code 81 = .ok (.if_icmp .ne 33, 3) := by decide +kernel
theorem d_RF_readExpression_84 : decode prog_14_method_10_code 84 = .ok (.iinc 2 1, 3) := by decide +kernel
theorem d_RF_readExpression_87 : decode prog_14_method_10_code 87 = .ok (.aload_n 0, 1) := by decide +kernel
theorem d_RF_readExpression_88 : decode prog_14_method_10_code 88 = .ok (.iconst 2, 1) := by decide +kernel
theorem d_RF_readExpression_89 : decode prog_14_method_10_code 89 = .ok (.iload_n 2, 1) := by decide +kernel
theorem d_RF_readExpression_90 : decode prog_14_method_10_code 90 = .ok (.imul, 1) := by decide +kernel
theorem d_RF_readExpression_91 : decode prog_14_method_10_code 91 = .ok (.iconst 0, 1) := by decide +kernel
theorem d_RF_readExpression_92 : decode prog_14_method_10_code 92 = .ok (.iconst 0, 1) := by decide +kernel
theorem d_RF_readExpression_93 : decode prog_14_method_10_code 93 = .ok (.iconst 0, 1) := by decide +kernel
theorem d_RF_readExpression_94 : decode prog_14_method_10_code 94 = .ok (.iconst 0, 1) := by decide +kernel
theorem d_RF_readExpression_95 : decode prog_14_method_10_code 95 = .ok (.invokevirtual 131, 3) := by decide +kernel
theorem d_RF_readExpression_98 : decode prog_14_method_10_code 98 = .ok (.aload_n 0, 1) := by decide +kernel
theorem d_RF_readExpression_99 : decode prog_14_method_10_code 99 = .ok (.iconst 2, 1) := by decide +kernel
theorem d_RF_readExpression_100 : decode prog_14_method_10_code 100 = .ok (.iload_n 2, 1) := by decide +kernel
theorem d_RF_readExpression_101 : decode prog_14_method_10_code 101 = .ok (.imul, 1) := by decide +kernel
theorem d_RF_readExpression_102 : decode prog_14_method_10_code 102 = .ok (.iconst 1, 1) := by decide +kernel
theorem d_RF_readExpression_103 : decode prog_14_method_10_code 103 = .ok (.iadd, 1) := by decide +kernel
theorem d_RF_readExpression_104 : decode prog_14_method_10_code 104 = .ok (.iconst 0, 1) := by decide +kernel
theorem d_RF_readExpression_105 : decode prog_14_method_10_code 105 = .ok (.iconst 0, 1) := by decide +kernel
theorem d_RF_readExpression_106 : decode prog_14_method_10_code 106 = .ok (.iconst 0, 1) := by decide +kernel
theorem d_RF_readExpression_107 : decode prog_14_method_10_code 107 = .ok (.iconst 0, 1) := by decide +kernel
theorem d_RF_readExpression_108 : decode prog_14_method_10_code 108 = .ok (.invokevirtual 131, 3) := by decide +kernel
theorem d_RF_readExpression_111 : decode prog_14_method_10_code 111 = .ok (.goto 195, 3) := by decide +kernel
theorem d_RF_readExpression_114 : decode prog_14_method_10_code 114 = .ok (.iload 5, 2) := by decide +kernel
theorem d_RF_readExpression_116 : decode prog_14_method_10_code 116 = .ok (.bipush 124, 2) := by decide +kernel
theorem d_RF_readExpression_118 : decode prog_14_method_10_code 118 = .ok (.if_icmp .ne 11, 3) := by decide +kernel
theorem d_RF_readExpression_121 : decode prog_14_method_10_code 121 = .ok (.aload_n 0, 1) := by decide +kernel
theorem d_RF_readExpression_122 : decode prog_14_method_10_code 122 = .ok (.iload_n 2, 1) := by decide +kernel
theorem d_RF_readExpression_123 : decode prog_14_method_10_code 123 = .ok (.invokevirtual 139, 3) := by decide +kernel
theorem d_RF_readExpression_126 : decode prog_14_method_10_code 126 = .ok (.goto 180, 3) := by decide +kernel
theorem d_RF_readExpression_129 : decode prog_14_method_10_code 129 = .ok (.iload 5, 2) := by decide +kernel
theorem d_RF_readExpression_131 : decode prog_14_method_10_code 131 = .ok (.bipush 44, 2) := by decide +kernel
theorem d_RF_readExpression_133 : decode prog_14_method_10_code 133 = .ok (.if_icmp .eq 173, 3) := by decide +kernel
theorem d_RF_readExpression_136 : decode prog_14_method_10_code 136 = .ok (.iconst 1, 1) := by decide +kernel
theorem d_RF_readExpression_137 : decode prog_14_method_10_code 137 = .ok (.iload_n 3, 1) := by decide +kernel
theorem d_RF_readExpression_138 : decode prog_14_method_10_code 138 = .ok (.ishl, 1) := by decide +kernel
theorem d_RF_readExpression_139 : decode prog_14_method_10_code 139 = .ok (.istore 6, 2) := by decide +kernel
theorem d_RF_readExpression_141 : decode prog_14_method_10_code 141 = .ok (.iload 6, 2) := by decide +kernel
theorem d_RF_readExpression_143 : decode prog_14_method_10_code 143 = .ok (.istore 7, 2) := by decide +kernel
theorem d_RF_readExpression_145 : decode prog_14_method_10_code 145 = .ok (.iconst 0, 1) := by decide +kernel
theorem d_RF_readExpression_146 : decode prog_14_method_10_code 146 = .ok (.istore 8, 2) := by decide +kernel
theorem d_RF_readExpression_148 : decode prog_14_method_10_code 148 = .ok (.iload 5, 2) := by decide +kernel
theorem d_RF_readExpression_150 : decode prog_14_method_10_code 150 = .ok (.bipush 41, 2) := by decide +kernel
theorem d_RF_readExpression_152 : decode prog_14_method_10_code 152 = .ok (.if_icmp .ne 44, 3) := by decide +kernel
theorem d_RF_readExpression_155 : decode prog_14_method_10_code 155 = .ok (.aload_n 0, 1) := by decide +kernel
theorem d_RF_readExpression_156 : decode prog_14_method_10_code 156 = .ok (.iload_n 2, 1) := by decide +kernel
theorem d_RF_readExpression_157 : decode prog_14_method_10_code 157 = .ok (.invokevirtual 139, 3) := by decide +kernel
theorem d_RF_readExpression_160 : decode prog_14_method_10_code 160 = .ok (.aload_n 0, 1) := by decide +kernel
theorem d_RF_readExpression_161 : decode prog_14_method_10_code 161 = .ok (.getfield 41, 3) := by decide +kernel
theorem d_RF_readExpression_164 : decode prog_14_method_10_code 164 = .ok (.iconst 2, 1) := by decide +kernel
theorem d_RF_readExpression_165 : decode prog_14_method_10_code 165 = .ok (.iload_n 2, 1) := by decide +kernel
theorem d_RF_readExpression_166 : decode prog_14_method_10_code 166 = .ok (.imul, 1) := by decide +kernel
theorem d_RF_readExpression_167 : decode prog_14_method_10_code 167 = .ok (.iaload, 1) := by decide +kernel
theorem d_RF_readExpression_168 : decode prog_14_method_10_code 168 = .ok (.istore 6, 2) := by decide +kernel
theorem d_RF_readExpression_170 : decode prog_14_method_10_code 170 = .ok (.aload_n 0, 1) := by decide +kernel
theorem d_RF_readExpression_171 : decode prog_14_method_10_code 171 = .ok (.getfield 44, 3) := by decide +kernel
theorem d_RF_readExpression_174 : decode prog_14_method_10_code 174 = .ok (.iconst 2, 1) := by decide +kernel
theorem d_RF_readExpression_175 : decode prog_14_method_10_code 175 = .ok (.iload_n 2, 1) := by decide +kernel
theorem d_RF_readExpression_176 : decode prog_14_method_10_code 176 = .ok (.imul, 1) := by decide +kernel
theorem d_RF_readExpression_177 : decode prog_14_method_10_code 177 = .ok (.iaload, 1) := by decide +kernel
theorem d_RF_readExpression_178 : decode prog_14_method_10_code 178 = .ok (.istore 7, 2) := by decide +kernel
theorem d_RF_readExpression_180 : decode prog_14_method_10_code 180 = .ok (.aload_n 0, 1) := by decide +kernel
theorem d_RF_readExpression_181 : decode prog_14_method_10_code 181 = .ok (.getfield 47, 3) := by decide +kernel
theorem d_RF_readExpression_184 : decode prog_14_method_10_code 184 = .ok (.iconst 2, 1) := by decide +kernel
theorem d_RF_readExpression_185 : decode prog_14_method_10_code 185 = .ok (.iload_n 2, 1) := by decide +kernel
theorem d_RF_readExpression_186 : decode prog_14_method_10_code 186 = .ok (.imul, 1) := by decide +kernel
theorem d_RF_readExpression_187 : decode prog_14_method_10_code 187 = .ok (.baload, 1) := by decide +kernel
theorem d_RF_readExpression_188 : decode prog_14_method_10_code 188 = .ok (.istore 8, 2) := by decide +kernel
theorem d_RF_readExpression_190 : decode prog_14_method_10_code 190 = .ok (.iinc 2 (-1), 3) := by decide +kernel
theorem d_RF_readExpression_193 : decode prog_14_method_10_code 193 = .ok (.goto 17, 3) := by decide +kernel
theorem d_RF_readExpression_196 : decode prog_14_method_10_code 196 = .ok (.aload_n 0, 1) := by decide +kernel
theorem d_RF_readExpression_197 : decode prog_14_method_10_code 197 = .ok (.getfield 32, 3) := by decide +kernel
theorem d_RF_readExpression_200 : decode prog_14_method_10_code 200 = .ok (.bipush 90, 2) := by decide +kernel
theorem d_RF_readExpression_202 : decode prog_14_method_10_code 202 = .ok (.iload_n 3, 1) := by decide +kernel
theorem d_RF_readExpression_203 : decode prog_14_method_10_code 203 = .ok (.iadd, 1) := by decide +kernel
theorem d_RF_readExpression_204 : decode prog_14_method_10_code 204 = .ok (.iload 5, 2) := by decide +kernel
theorem d_RF_readExpression_206 : decode prog_14_method_10_code 206 = .ok (.iastore, 1) := by decide +kernel
theorem d_RF_readExpression_207 : decode prog_14_method_10_code 207 = .ok (.iinc 3 1, 3) := by decide +kernel
theorem d_RF_readExpression_210 : decode prog_14_method_10_code 210 = .ok (.aload_n 0, 1) := by decide +kernel
theorem d_RF_readExpression_211 : decode prog_14_method_10_code 211 = .ok (.iload 4, 2) := by decide +kernel
theorem d_RF_readExpression_213 : decode prog_14_method_10_code 213 = .ok (.iconst 1, 1) := by decide +kernel
theorem d_RF_readExpression_214 : decode prog_14_method_10_code 214 = .ok (.iadd, 1) := by decide +kernel
theorem d_RF_readExpression_215 : decode prog_14_method_10_code 215 = .ok (.invokevirtual 123, 3) := by decide +kernel
theorem d_RF_readExpression_218 : decode prog_14_method_10_code 218 = .ok (.istore 9, 2) := by decide +kernel
theorem d_RF_readExpression_220 : decode prog_14_method_10_code 220 = .ok (.iload 9, 2) := by decide +kernel
theorem d_RF_readExpression_222 : decode prog_14_method_10_code 222 = .ok (.bipush 42, 2) := by decide +kernel
theorem d_RF_readExpression_224 : decode prog_14_method_10_code 224 = .ok (.if_icmp .eq 10, 3) := by decide +kernel
theorem d_RF_readExpression_227 : decode prog_14_method_10_code 227 = .ok (.iload 9, 2) := by decide +kernel
theorem d_RF_readExpression_229 : decode prog_14_method_10_code 229 = .ok (.bipush 43, 2) := by decide +kernel
theorem d_RF_readExpression_231 : decode prog_14_method_10_code 231 = .ok (.if_icmp .ne 7, 3) := by decide +kernel
theorem d_RF_readExpression_234 : decode prog_14_method_10_code 234 = .ok (.iconst 1, 1) := by decide +kernel
theorem d_RF_readExpression_235 : decode prog_14_method_10_code 235 = .ok (.goto 4, 3) := by decide +kernel
theorem d_RF_readExpression_238 : decode prog_14_method_10_code 238 = .ok (.iconst 0, 1) := by decide +kernel
theorem d_RF_readExpression_239 : decode prog_14_method_10_code 239 = .ok (.istore 10, 2) := by decide +kernel
theorem d_RF_readExpression_241 : decode prog_14_method_10_code 241 = .ok (.iload 10, 2) := by decide +kernel
theorem d_RF_readExpression_243 : decode prog_14_method_10_code 243 = .ok (.ifCond .eq 11, 3) := by decide +kernel
theorem d_RF_readExpression_246 : decode prog_14_method_10_code 246 = .ok (.aload_n 0, 1) := by decide +kernel
theorem d_RF_readExpression_247 : decode prog_14_method_10_code 247 = .ok (.iload 7, 2) := by decide +kernel
theorem d_RF_readExpression_249 : decode prog_14_method_10_code 249 = .ok (.iload 6, 2) := by decide +kernel
theorem d_RF_readExpression_251 : decode prog_14_method_10_code 251 = .ok (.invokevirtual 135, 3) := by decide +kernel
theorem d_RF_readExpression_254 : decode prog_14_method_10_code 254 = .ok (.iload 10, 2) := by decide +kernel
theorem d_RF_readExpression_256 : decode prog_14_method_10_code 256 = .ok (.ifCond .ne 10, 3) := by decide +kernel
theorem d_RF_readExpression_259 : decode prog_14_method_10_code 259 = .ok (.iload 9, 2) := by decide +kernel
theorem d_RF_readExpression_261 : decode prog_14_method_10_code 261 = .ok (.bipush 63, 2) := by decide +kernel
theorem d_RF_readExpression_263 : decode prog_14_method_10_code 263 = .ok (.if_icmp .ne 6, 3) := by decide +kernel
theorem d_RF_readExpression_266 : decode prog_14_method_10_code 266 = .ok (.iinc 4 1, 3) := by decide +kernel
theorem d_RF_readExpression_269 : decode prog_14_method_10_code 269 = .ok (.aload_n 0, 1) := by decide +kernel
theorem d_RF_readExpression_270 : decode prog_14_method_10_code 270 = .ok (.iconst 2, 1) := by decide +kernel
theorem d_RF_readExpression_271 : decode prog_14_method_10_code 271 = .ok (.iload_n 2, 1) := by decide +kernel
theorem d_RF_readExpression_272 : decode prog_14_method_10_code 272 = .ok (.imul, 1) := by decide +kernel
theorem d_RF_readExpression_273 : decode prog_14_method_10_code 273 = .ok (.iconst 1, 1) := by decide +kernel
theorem d_RF_readExpression_274 : decode prog_14_method_10_code 274 = .ok (.iadd, 1) := by decide +kernel
theorem d_RF_readExpression_275 : decode prog_14_method_10_code 275 = .ok (.iload 6, 2) := by decide +kernel
theorem d_RF_readExpression_277 : decode prog_14_method_10_code 277 = .ok (.iload 7, 2) := by decide +kernel
theorem d_RF_readExpression_279 : decode prog_14_method_10_code 279 = .ok (.iload 8, 2) := by decide +kernel
theorem d_RF_readExpression_281 : decode prog_14_method_10_code 281 = .ok (.ifCond .ne 17, 3) := by decide +kernel
theorem d_RF_readExpression_284 : decode prog_14_method_10_code 284 = .ok (.iload 9, 2) := by decide +kernel
theorem d_RF_readExpression_286 : decode prog_14_method_10_code 286 = .ok (.bipush 42, 2) := by decide +kernel
theorem d_RF_readExpression_288 : decode prog_14_method_10_code 288 = .ok (.if_icmp .eq 10, 3) := by decide +kernel
theorem d_RF_readExpression_291 : decode prog_14_method_10_code 291 = .ok (.iload 9, 2) := by decide +kernel
theorem d_RF_readExpression_293 : decode prog_14_method_10_code 293 = .ok (.bipush 63, 2) := by decide +kernel
theorem d_RF_readExpression_295 : decode prog_14_method_10_code 295 = .ok (.if_icmp .ne 7, 3) := by decide +kernel
theorem d_RF_readExpression_298 : decode prog_14_method_10_code 298 = .ok (.iconst 1, 1) := by decide +kernel
theorem d_RF_readExpression_299 : decode prog_14_method_10_code 299 = .ok (.goto 4, 3) := by decide +kernel
theorem d_RF_readExpression_302 : decode prog_14_method_10_code 302 = .ok (.iconst 0, 1) := by decide +kernel
theorem d_RF_readExpression_303 : decode prog_14_method_10_code 303 = .ok (.invokevirtual 143, 3) := by decide +kernel
theorem d_RF_readExpression_306 : decode prog_14_method_10_code 306 = .ok (.iinc 4 1, 3) := by decide +kernel
theorem d_RF_readExpression_309 : decode prog_14_method_10_code 309 = .ok (.goto (-249), 3) := by decide +kernel
theorem d_RF_readExpression_312 : decode prog_14_method_10_code 312 = .ok (.aload_n 0, 1) := by decide +kernel
theorem d_RF_readExpression_313 : decode prog_14_method_10_code 313 = .ok (.iconst 0, 1) := by decide +kernel
theorem d_RF_readExpression_314 : decode prog_14_method_10_code 314 = .ok (.invokevirtual 139, 3) := by decide +kernel
theorem d_RF_readExpression_317 : decode prog_14_method_10_code 317 = .ok (.aload_n 0, 1) := by decide +kernel
theorem d_RF_readExpression_318 : decode prog_14_method_10_code 318 = .ok (.getfield 29, 3) := by decide +kernel
theorem d_RF_readExpression_321 : decode prog_14_method_10_code 321 = .ok (.bipush 9, 2) := by decide +kernel
theorem d_RF_readExpression_323 : decode prog_14_method_10_code 323 = .ok (.iload_n 3, 1) := by decide +kernel
theorem d_RF_readExpression_324 : decode prog_14_method_10_code 324 = .ok (.iastore, 1) := by decide +kernel
theorem d_RF_readExpression_325 : decode prog_14_method_10_code 325 = .ok (.aload_n 0, 1) := by decide +kernel
theorem d_RF_readExpression_326 : decode prog_14_method_10_code 326 = .ok (.getfield 20, 3) := by decide +kernel
theorem d_RF_readExpression_329 : decode prog_14_method_10_code 329 = .ok (.bipush 9, 2) := by decide +kernel
theorem d_RF_readExpression_331 : decode prog_14_method_10_code 331 = .ok (.aload_n 0, 1) := by decide +kernel
theorem d_RF_readExpression_332 : decode prog_14_method_10_code 332 = .ok (.getfield 41, 3) := by decide +kernel
theorem d_RF_readExpression_335 : decode prog_14_method_10_code 335 = .ok (.iconst 0, 1) := by decide +kernel
theorem d_RF_readExpression_336 : decode prog_14_method_10_code 336 = .ok (.iaload, 1) := by decide +kernel
theorem d_RF_readExpression_337 : decode prog_14_method_10_code 337 = .ok (.iastore, 1) := by decide +kernel
theorem d_RF_readExpression_338 : decode prog_14_method_10_code 338 = .ok (.aload_n 0, 1) := by decide +kernel
theorem d_RF_readExpression_339 : decode prog_14_method_10_code 339 = .ok (.getfield 23, 3) := by decide +kernel
theorem d_RF_readExpression_342 : decode prog_14_method_10_code 342 = .ok (.bipush 9, 2) := by decide +kernel
theorem d_RF_readExpression_344 : decode prog_14_method_10_code 344 = .ok (.aload_n 0, 1) := by decide +kernel
theorem d_RF_readExpression_345 : decode prog_14_method_10_code 345 = .ok (.getfield 44, 3) := by decide +kernel
theorem d_RF_readExpression_348 : decode prog_14_method_10_code 348 = .ok (.iconst 0, 1) := by decide +kernel
theorem d_RF_readExpression_349 : decode prog_14_method_10_code 349 = .ok (.iaload, 1) := by decide +kernel
theorem d_RF_readExpression_350 : decode prog_14_method_10_code 350 = .ok (.iastore, 1) := by decide +kernel
theorem d_RF_readExpression_351 : decode prog_14_method_10_code 351 = .ok (.aload_n 0, 1) := by decide +kernel
theorem d_RF_readExpression_352 : decode prog_14_method_10_code 352 = .ok (.getfield 26, 3) := by decide +kernel
theorem d_RF_readExpression_355 : decode prog_14_method_10_code 355 = .ok (.bipush 9, 2) := by decide +kernel
theorem d_RF_readExpression_357 : decode prog_14_method_10_code 357 = .ok (.aload_n 0, 1) := by decide +kernel
theorem d_RF_readExpression_358 : decode prog_14_method_10_code 358 = .ok (.getfield 47, 3) := by decide +kernel
theorem d_RF_readExpression_361 : decode prog_14_method_10_code 361 = .ok (.iconst 0, 1) := by decide +kernel
theorem d_RF_readExpression_362 : decode prog_14_method_10_code 362 = .ok (.baload, 1) := by decide +kernel
theorem d_RF_readExpression_363 : decode prog_14_method_10_code 363 = .ok (.bastore, 1) := by decide +kernel
theorem d_RF_readExpression_364 : decode prog_14_method_10_code 364 = .ok (.return_, 1) := by decide +kernel
theorem d_RF_setPart_0 : decode prog_14_method_7_code 0 = .ok (.aload_n 0, 1) := by decide +kernel
theorem d_RF_setPart_1 : decode prog_14_method_7_code 1 = .ok (.getfield 38, 3) := by decide +kernel
theorem d_RF_setPart_4 : decode prog_14_method_7_code 4 = .ok (.iload_n 1, 1) := by decide +kernel
theorem d_RF_setPart_5 : decode prog_14_method_7_code 5 = .ok (.iload_n 2, 1) := by decide +kernel
theorem d_RF_setPart_6 : decode prog_14_method_7_code 6 = .ok (.bastore, 1) := by decide +kernel
theorem d_RF_setPart_7 : decode prog_14_method_7_code 7 = .ok (.aload_n 0, 1) := by decide +kernel
theorem d_RF_setPart_8 : decode prog_14_method_7_code 8 = .ok (.getfield 41, 3) := by decide +kernel
theorem d_RF_setPart_11 : decode prog_14_method_7_code 11 = .ok (.iload_n 1, 1) := by decide +kernel
theorem d_RF_setPart_12 : decode prog_14_method_7_code 12 = .ok (.iload_n 3, 1) := by decide +kernel
theorem d_RF_setPart_13 : decode prog_14_method_7_code 13 = .ok (.iastore, 1) := by decide +kernel
theorem d_RF_setPart_14 : decode prog_14_method_7_code 14 = .ok (.aload_n 0, 1) := by decide +kernel
theorem d_RF_setPart_15 : decode prog_14_method_7_code 15 = .ok (.getfield 44, 3) := by decide +kernel
theorem d_RF_setPart_18 : decode prog_14_method_7_code 18 = .ok (.iload_n 1, 1) := by decide +kernel
theorem d_RF_setPart_19 : decode prog_14_method_7_code 19 = .ok (.iload 4, 2) := by decide +kernel
theorem d_RF_setPart_21 : decode prog_14_method_7_code 21 = .ok (.iastore, 1) := by decide +kernel
theorem d_RF_setPart_22 : decode prog_14_method_7_code 22 = .ok (.aload_n 0, 1) := by decide +kernel
theorem d_RF_setPart_23 : decode prog_14_method_7_code 23 = .ok (.getfield 47, 3) := by decide +kernel
theorem d_RF_setPart_26 : decode prog_14_method_7_code 26 = .ok (.iload_n 1, 1) := by decide +kernel
theorem d_RF_setPart_27 : decode prog_14_method_7_code 27 = .ok (.iload 5, 2) := by decide +kernel
theorem d_RF_setPart_29 : decode prog_14_method_7_code 29 = .ok (.bastore, 1) := by decide +kernel
theorem d_RF_setPart_30 : decode prog_14_method_7_code 30 = .ok (.return_, 1) := by decide +kernel
theorem d_RF_choose_0 : decode prog_14_method_9_code 0 = .ok (.iconst 2, 1) := by decide +kernel
theorem d_RF_choose_1 : decode prog_14_method_9_code 1 = .ok (.iload_n 1, 1) := by decide +kernel
theorem d_RF_choose_2 : decode prog_14_method_9_code 2 = .ok (.imul, 1) := by decide +kernel
theorem d_RF_choose_3 : decode prog_14_method_9_code 3 = .ok (.istore_n 2, 1) := by decide +kernel
theorem d_RF_choose_4 : decode prog_14_method_9_code 4 = .ok (.iload_n 2, 1) := by decide +kernel
theorem d_RF_choose_5 : decode prog_14_method_9_code 5 = .ok (.iconst 1, 1) := by decide +kernel
theorem d_RF_choose_6 : decode prog_14_method_9_code 6 = .ok (.iadd, 1) := by decide +kernel
theorem d_RF_choose_7 : decode prog_14_method_9_code 7 = .ok (.istore_n 3, 1) := by decide +kernel
theorem d_RF_choose_8 : decode prog_14_method_9_code 8 = .ok (.aload_n 0, 1) := by decide +kernel
theorem d_RF_choose_9 : decode prog_14_method_9_code 9 = .ok (.getfield 38, 3) := by decide +kernel
theorem d_RF_choose_12 : decode prog_14_method_9_code 12 = .ok (.iload_n 2, 1) := by decide +kernel
theorem d_RF_choose_13 : decode prog_14_method_9_code 13 = .ok (.baload, 1) := by decide +kernel
theorem d_RF_choose_14 : decode prog_14_method_9_code 14 = .ok (.istore 4, 2) := by decide +kernel
theorem d_RF_choose_16 : decode prog_14_method_9_code 16 = .ok (.iload 4, 2) := by decide +kernel
theorem d_RF_choose_18 : decode prog_14_method_9_code 18 = .ok (.ifCond .eq 12, 3) := by decide +kernel
theorem d_RF_choose_21 : decode prog_14_method_9_code 21 = .ok (.aload_n 0, 1) := by decide +kernel
theorem d_RF_choose_22 : decode prog_14_method_9_code 22 = .ok (.getfield 47, 3) := by decide +kernel
theorem d_RF_choose_25 : decode prog_14_method_9_code 25 = .ok (.iload_n 2, 1) := by decide +kernel
theorem d_RF_choose_26 : decode prog_14_method_9_code 26 = .ok (.baload, 1) := by decide +kernel
theorem d_RF_choose_27 : decode prog_14_method_9_code 27 = .ok (.ifCond .ne 12, 3) := by decide +kernel
theorem d_RF_choose_30 : decode prog_14_method_9_code 30 = .ok (.aload_n 0, 1) := by decide +kernel
theorem d_RF_choose_31 : decode prog_14_method_9_code 31 = .ok (.getfield 47, 3) := by decide +kernel
theorem d_RF_choose_34 : decode prog_14_method_9_code 34 = .ok (.iload_n 3, 1) := by decide +kernel
theorem d_RF_choose_35 : decode prog_14_method_9_code 35 = .ok (.baload, 1) := by decide +kernel
theorem d_RF_choose_36 : decode prog_14_method_9_code 36 = .ok (.ifCond .eq 7, 3) := by decide +kernel
theorem d_RF_choose_39 : decode prog_14_method_9_code 39 = .ok (.iconst 1, 1) := by decide +kernel
theorem d_RF_choose_40 : decode prog_14_method_9_code 40 = .ok (.goto 4, 3) := by decide +kernel
theorem d_RF_choose_43 : decode prog_14_method_9_code 43 = .ok (.iconst 0, 1) := by decide +kernel
theorem d_RF_choose_44 : decode prog_14_method_9_code 44 = .ok (.istore 5, 2) := by decide +kernel
theorem d_RF_choose_46 : decode prog_14_method_9_code 46 = .ok (.iload 4, 2) := by decide +kernel
theorem d_RF_choose_48 : decode prog_14_method_9_code 48 = .ok (.ifCond .eq 19, 3) := by decide +kernel
theorem d_RF_choose_51 : decode prog_14_method_9_code 51 = .ok (.aload_n 0, 1) := by decide +kernel
theorem d_RF_choose_52 : decode prog_14_method_9_code 52 = .ok (.getfield 41, 3) := by decide +kernel
theorem d_RF_choose_55 : decode prog_14_method_9_code 55 = .ok (.iload_n 2, 1) := by decide +kernel
theorem d_RF_choose_56 : decode prog_14_method_9_code 56 = .ok (.iaload, 1) := by decide +kernel
theorem d_RF_choose_57 : decode prog_14_method_9_code 57 = .ok (.aload_n 0, 1) := by decide +kernel
theorem d_RF_choose_58 : decode prog_14_method_9_code 58 = .ok (.getfield 41, 3) := by decide +kernel
theorem d_RF_choose_61 : decode prog_14_method_9_code 61 = .ok (.iload_n 3, 1) := by decide +kernel
theorem d_RF_choose_62 : decode prog_14_method_9_code 62 = .ok (.iaload, 1) := by decide +kernel
theorem d_RF_choose_63 : decode prog_14_method_9_code 63 = .ok (.ior, 1) := by decide +kernel
theorem d_RF_choose_64 : decode prog_14_method_9_code 64 = .ok (.goto 9, 3) := by decide +kernel
theorem d_RF_choose_67 : decode prog_14_method_9_code 67 = .ok (.aload_n 0, 1) := by decide +kernel
theorem d_RF_choose_68 : decode prog_14_method_9_code 68 = .ok (.getfield 41, 3) := by decide +kernel
theorem d_RF_choose_71 : decode prog_14_method_9_code 71 = .ok (.iload_n 3, 1) := by decide +kernel
theorem d_RF_choose_72 : decode prog_14_method_9_code 72 = .ok (.iaload, 1) := by decide +kernel
theorem d_RF_choose_73 : decode prog_14_method_9_code 73 = .ok (.istore 6, 2) := by decide +kernel
theorem d_RF_choose_75 : decode prog_14_method_9_code 75 = .ok (.iload 4, 2) := by decide +kernel
theorem d_RF_choose_77 : decode prog_14_method_9_code 77 = .ok (.ifCond .eq 19, 3) := by decide +kernel
theorem d_RF_choose_80 : decode prog_14_method_9_code 80 = .ok (.aload_n 0, 1) := by decide +kernel
theorem d_RF_choose_81 : decode prog_14_method_9_code 81 = .ok (.getfield 44, 3) := by decide +kernel
theorem d_RF_choose_84 : decode prog_14_method_9_code 84 = .ok (.iload_n 2, 1) := by decide +kernel
theorem d_RF_choose_85 : decode prog_14_method_9_code 85 = .ok (.iaload, 1) := by decide +kernel
theorem d_RF_choose_86 : decode prog_14_method_9_code 86 = .ok (.aload_n 0, 1) := by decide +kernel
theorem d_RF_choose_87 : decode prog_14_method_9_code 87 = .ok (.getfield 44, 3) := by decide +kernel
theorem d_RF_choose_90 : decode prog_14_method_9_code 90 = .ok (.iload_n 3, 1) := by decide +kernel
theorem d_RF_choose_91 : decode prog_14_method_9_code 91 = .ok (.iaload, 1) := by decide +kernel
theorem d_RF_choose_92 : decode prog_14_method_9_code 92 = .ok (.ior, 1) := by decide +kernel
theorem d_RF_choose_93 : decode prog_14_method_9_code 93 = .ok (.goto 9, 3) := by decide +kernel
theorem d_RF_choose_96 : decode prog_14_method_9_code 96 = .ok (.aload_n 0, 1) := by decide +kernel
theorem d_RF_choose_97 : decode prog_14_method_9_code 97 = .ok (.getfield 44, 3) := by decide +kernel
theorem d_RF_choose_100 : decode prog_14_method_9_code 100 = .ok (.iload_n 3, 1) := by decide +kernel
theorem d_RF_choose_101 : decode prog_14_method_9_code 101 = .ok (.iaload, 1) := by decide +kernel
theorem d_RF_choose_102 : decode prog_14_method_9_code 102 = .ok (.istore 7, 2) := by decide +kernel
theorem d_RF_choose_104 : decode prog_14_method_9_code 104 = .ok (.aload_n 0, 1) := by decide +kernel
theorem d_RF_choose_105 : decode prog_14_method_9_code 105 = .ok (.iload_n 2, 1) := by decide +kernel
theorem d_RF_choose_106 : decode prog_14_method_9_code 106 = .ok (.iconst 1, 1) := by decide +kernel
theorem d_RF_choose_107 : decode prog_14_method_9_code 107 = .ok (.iload 6, 2) := by decide +kernel
theorem d_RF_choose_109 : decode prog_14_method_9_code 109 = .ok (.iload 7, 2) := by decide +kernel
theorem d_RF_choose_111 : decode prog_14_method_9_code 111 = .ok (.iload 5, 2) := by decide +kernel
theorem d_RF_choose_113 : decode prog_14_method_9_code 113 = .ok (.invokevirtual 131, 3) := by decide +kernel
theorem d_RF_choose_116 : decode prog_14_method_9_code 116 = .ok (.aload_n 0, 1) := by decide +kernel
theorem d_RF_choose_117 : decode prog_14_method_9_code 117 = .ok (.iload_n 3, 1) := by decide +kernel
theorem d_RF_choose_118 : decode prog_14_method_9_code 118 = .ok (.iconst 0, 1) := by decide +kernel
theorem d_RF_choose_119 : decode prog_14_method_9_code 119 = .ok (.iconst 0, 1) := by decide +kernel
theorem d_RF_choose_120 : decode prog_14_method_9_code 120 = .ok (.iconst 0, 1) := by decide +kernel
theorem d_RF_choose_121 : decode prog_14_method_9_code 121 = .ok (.iconst 0, 1) := by decide +kernel
theorem d_RF_choose_122 : decode prog_14_method_9_code 122 = .ok (.invokevirtual 131, 3) := by decide +kernel
theorem d_RF_choose_125 : decode prog_14_method_9_code 125 = .ok (.return_, 1) := by decide +kernel
theorem d_RF_link_0 : decode prog_14_method_6_code 0 = .ok (.iconst 0, 1) := by decide +kernel
theorem d_RF_link_1 : decode prog_14_method_6_code 1 = .ok (.istore_n 3, 1) := by decide +kernel
theorem d_RF_link_2 : decode prog_14_method_6_code 2 = .ok (.iload_n 3, 1) := by decide +kernel
theorem d_RF_link_3 : decode prog_14_method_6_code 3 = .ok (.bipush 10, 2) := by decide +kernel
theorem d_RF_link_5 : decode prog_14_method_6_code 5 = .ok (.if_icmp .ge 38, 3) := by decide +kernel
theorem d_RF_link_8 : decode prog_14_method_6_code 8 = .ok (.iload_n 1, 1) := by decide +kernel
theorem d_RF_link_9 : decode prog_14_method_6_code 9 = .ok (.iload_n 3, 1) := by decide +kernel
theorem d_RF_link_10 : decode prog_14_method_6_code 10 = .ok (.ishr, 1) := by decide +kernel
theorem d_RF_link_11 : decode prog_14_method_6_code 11 = .ok (.iconst 1, 1) := by decide +kernel
theorem d_RF_link_12 : decode prog_14_method_6_code 12 = .ok (.iand, 1) := by decide +kernel
theorem d_RF_link_13 : decode prog_14_method_6_code 13 = .ok (.iconst 1, 1) := by decide +kernel
theorem d_RF_link_14 : decode prog_14_method_6_code 14 = .ok (.if_icmp .ne 23, 3) := by decide +kernel
theorem d_RF_link_17 : decode prog_14_method_6_code 17 = .ok (.aload_n 0, 1) := by decide +kernel
theorem d_RF_link_18 : decode prog_14_method_6_code 18 = .ok (.getfield 35, 3) := by decide +kernel
theorem d_RF_link_21 : decode prog_14_method_6_code 21 = .ok (.bipush 90, 2) := by decide +kernel
theorem d_RF_link_23 : decode prog_14_method_6_code 23 = .ok (.iload_n 3, 1) := by decide +kernel
theorem d_RF_link_24 : decode prog_14_method_6_code 24 = .ok (.iadd, 1) := by decide +kernel
theorem d_RF_link_25 : decode prog_14_method_6_code 25 = .ok (.aload_n 0, 1) := by decide +kernel
theorem d_RF_link_26 : decode prog_14_method_6_code 26 = .ok (.getfield 35, 3) := by decide +kernel
theorem d_RF_link_29 : decode prog_14_method_6_code 29 = .ok (.bipush 90, 2) := by decide +kernel
theorem d_RF_link_31 : decode prog_14_method_6_code 31 = .ok (.iload_n 3, 1) := by decide +kernel
theorem d_RF_link_32 : decode prog_14_method_6_code 32 = .ok (.iadd, 1) := by decide +kernel
theorem d_RF_link_33 : decode prog_14_method_6_code 33 = .ok (.iaload, 1) := by decide +kernel
theorem d_RF_link_34 : decode prog_14_method_6_code 34 = .ok (.iload_n 2, 1) := by decide +kernel
theorem d_RF_link_35 : decode prog_14_method_6_code 35 = .ok (.ior, 1) := by decide +kernel
theorem d_RF_link_36 : decode prog_14_method_6_code 36 = .ok (.iastore, 1) := by decide +kernel
theorem d_RF_link_37 : decode prog_14_method_6_code 37 = .ok (.iinc 3 1, 3) := by decide +kernel
theorem d_RF_link_40 : decode prog_14_method_6_code 40 = .ok (.goto (-38), 3) := by decide +kernel
theorem d_RF_link_43 : decode prog_14_method_6_code 43 = .ok (.return_, 1) := by decide +kernel
theorem d_RF_append_0 : decode prog_14_method_8_code 0 = .ok (.aload_n 0, 1) := by decide +kernel
theorem d_RF_append_1 : decode prog_14_method_8_code 1 = .ok (.getfield 38, 3) := by decide +kernel
theorem d_RF_append_4 : decode prog_14_method_8_code 4 = .ok (.iload_n 1, 1) := by decide +kernel
theorem d_RF_append_5 : decode prog_14_method_8_code 5 = .ok (.baload, 1) := by decide +kernel
theorem d_RF_append_6 : decode prog_14_method_8_code 6 = .ok (.ifCond .ne 14, 3) := by decide +kernel
theorem d_RF_append_9 : decode prog_14_method_8_code 9 = .ok (.aload_n 0, 1) := by decide +kernel
theorem d_RF_append_10 : decode prog_14_method_8_code 10 = .ok (.iload_n 1, 1) := by decide +kernel
theorem d_RF_append_11 : decode prog_14_method_8_code 11 = .ok (.iconst 1, 1) := by decide +kernel
theorem d_RF_append_12 : decode prog_14_method_8_code 12 = .ok (.iload_n 2, 1) := by decide +kernel
theorem d_RF_append_13 : decode prog_14_method_8_code 13 = .ok (.iload_n 3, 1) := by decide +kernel
theorem d_RF_append_14 : decode prog_14_method_8_code 14 = .ok (.iload 4, 2) := by decide +kernel
theorem d_RF_append_16 : decode prog_14_method_8_code 16 = .ok (.invokevirtual 131, 3) := by decide +kernel
theorem d_RF_append_19 : decode prog_14_method_8_code 19 = .ok (.return_, 1) := by decide +kernel
theorem d_RF_append_20 : decode prog_14_method_8_code 20 = .ok (.aload_n 0, 1) := by decide +kernel
theorem d_RF_append_21 : decode prog_14_method_8_code 21 = .ok (.aload_n 0, 1) := by decide +kernel
theorem d_RF_append_22 : decode prog_14_method_8_code 22 = .ok (.getfield 44, 3) := by decide +kernel
theorem d_RF_append_25 : decode prog_14_method_8_code 25 = .ok (.iload_n 1, 1) := by decide +kernel
theorem d_RF_append_26 : decode prog_14_method_8_code 26 = .ok (.iaload, 1) := by decide +kernel
theorem d_RF_append_27 : decode prog_14_method_8_code 27 = .ok (.iload_n 2, 1) := by decide +kernel
theorem d_RF_append_28 : decode prog_14_method_8_code 28 = .ok (.invokevirtual 135, 3) := by decide +kernel
theorem d_RF_append_31 : decode prog_14_method_8_code 31 = .ok (.aload_n 0, 1) := by decide +kernel
theorem d_RF_append_32 : decode prog_14_method_8_code 32 = .ok (.getfield 47, 3) := by decide +kernel
theorem d_RF_append_35 : decode prog_14_method_8_code 35 = .ok (.iload_n 1, 1) := by decide +kernel
theorem d_RF_append_36 : decode prog_14_method_8_code 36 = .ok (.baload, 1) := by decide +kernel
theorem d_RF_append_37 : decode prog_14_method_8_code 37 = .ok (.ifCond .eq 14, 3) := by decide +kernel
theorem d_RF_append_40 : decode prog_14_method_8_code 40 = .ok (.aload_n 0, 1) := by decide +kernel
theorem d_RF_append_41 : decode prog_14_method_8_code 41 = .ok (.getfield 41, 3) := by decide +kernel
theorem d_RF_append_44 : decode prog_14_method_8_code 44 = .ok (.iload_n 1, 1) := by decide +kernel
theorem d_RF_append_45 : decode prog_14_method_8_code 45 = .ok (.iaload, 1) := by decide +kernel
theorem d_RF_append_46 : decode prog_14_method_8_code 46 = .ok (.iload_n 2, 1) := by decide +kernel
theorem d_RF_append_47 : decode prog_14_method_8_code 47 = .ok (.ior, 1) := by decide +kernel
theorem d_RF_append_48 : decode prog_14_method_8_code 48 = .ok (.goto 9, 3) := by decide +kernel
theorem d_RF_append_51 : decode prog_14_method_8_code 51 = .ok (.aload_n 0, 1) := by decide +kernel
theorem d_RF_append_52 : decode prog_14_method_8_code 52 = .ok (.getfield 41, 3) := by decide +kernel
theorem d_RF_append_55 : decode prog_14_method_8_code 55 = .ok (.iload_n 1, 1) := by decide +kernel
theorem d_RF_append_56 : decode prog_14_method_8_code 56 = .ok (.iaload, 1) := by decide +kernel
theorem d_RF_append_57 : decode prog_14_method_8_code 57 = .ok (.istore 5, 2) := by decide +kernel
theorem d_RF_append_59 : decode prog_14_method_8_code 59 = .ok (.iload 4, 2) := by decide +kernel
theorem d_RF_append_61 : decode prog_14_method_8_code 61 = .ok (.ifCond .eq 14, 3) := by decide +kernel
theorem d_RF_append_64 : decode prog_14_method_8_code 64 = .ok (.aload_n 0, 1) := by decide +kernel
theorem d_RF_append_65 : decode prog_14_method_8_code 65 = .ok (.getfield 44, 3) := by decide +kernel
theorem d_RF_append_68 : decode prog_14_method_8_code 68 = .ok (.iload_n 1, 1) := by decide +kernel
theorem d_RF_append_69 : decode prog_14_method_8_code 69 = .ok (.iaload, 1) := by decide +kernel
theorem d_RF_append_70 : decode prog_14_method_8_code 70 = .ok (.iload_n 3, 1) := by decide +kernel
theorem d_RF_append_71 : decode prog_14_method_8_code 71 = .ok (.ior, 1) := by decide +kernel
theorem d_RF_append_72 : decode prog_14_method_8_code 72 = .ok (.goto 4, 3) := by decide +kernel
theorem d_RF_append_75 : decode prog_14_method_8_code 75 = .ok (.iload_n 3, 1) := by decide +kernel
theorem d_RF_append_76 : decode prog_14_method_8_code 76 = .ok (.istore 6, 2) := by decide +kernel
theorem d_RF_append_78 : decode prog_14_method_8_code 78 = .ok (.aload_n 0, 1) := by decide +kernel
theorem d_RF_append_79 : decode prog_14_method_8_code 79 = .ok (.iload_n 1, 1) := by decide +kernel
theorem d_RF_append_80 : decode prog_14_method_8_code 80 = .ok (.iconst 1, 1) := by decide +kernel
theorem d_RF_append_81 : decode prog_14_method_8_code 81 = .ok (.iload 5, 2) := by decide +kernel
theorem d_RF_append_83 : decode prog_14_method_8_code 83 = .ok (.iload 6, 2) := by decide +kernel
theorem d_RF_append_85 : decode prog_14_method_8_code 85 = .ok (.aload_n 0, 1) := by decide +kernel
theorem d_RF_append_86 : decode prog_14_method_8_code 86 = .ok (.getfield 47, 3) := by decide +kernel
theorem d_RF_append_89 : decode prog_14_method_8_code 89 = .ok (.iload_n 1, 1) := by decide +kernel
theorem d_RF_append_90 : decode prog_14_method_8_code 90 = .ok (.baload, 1) := by decide +kernel
theorem d_RF_append_91 : decode prog_14_method_8_code 91 = .ok (.ifCond .eq 12, 3) := by decide +kernel
theorem d_RF_append_94 : decode prog_14_method_8_code 94 = .ok (.iload 4, 2) := by decide +kernel
theorem d_RF_append_96 : decode prog_14_method_8_code 96 = .ok (.ifCond .eq 7, 3) := by decide +kernel
theorem d_RF_append_99 : decode prog_14_method_8_code 99 = .ok (.iconst 1, 1) := by decide +kernel
theorem d_RF_append_100 : decode prog_14_method_8_code 100 = .ok (.goto 4, 3) := by decide +kernel
theorem d_RF_append_103 : decode prog_14_method_8_code 103 = .ok (.iconst 0, 1) := by decide +kernel
theorem d_RF_append_104 : decode prog_14_method_8_code 104 = .ok (.invokevirtual 131, 3) := by decide +kernel
theorem d_RF_append_107 : decode prog_14_method_8_code 107 = .ok (.return_, 1) := by decide +kernel
theorem d_RF_fertile_0 : decode prog_14_method_19_code 0 = .ok (.iconst 0, 1) := by decide +kernel
theorem d_RF_fertile_1 : decode prog_14_method_19_code 1 = .ok (.istore_n 1, 1) := by decide +kernel
theorem d_RF_fertile_2 : decode prog_14_method_19_code 2 = .ok (.iconst 0, 1) := by decide +kernel
theorem d_RF_fertile_3 : decode prog_14_method_19_code 3 = .ok (.istore_n 2, 1) := by decide +kernel
theorem d_RF_fertile_4 : decode prog_14_method_19_code 4 = .ok (.iload_n 2, 1) := by decide +kernel
theorem d_RF_fertile_5 : decode prog_14_method_19_code 5 = .ok (.bipush 9, 2) := by decide +kernel
theorem d_RF_fertile_7 : decode prog_14_method_19_code 7 = .ok (.if_icmp .ge 55, 3) := by decide +kernel
theorem d_RF_fertile_10 : decode prog_14_method_19_code 10 = .ok (.iconst 0, 1) := by decide +kernel
theorem d_RF_fertile_11 : decode prog_14_method_19_code 11 = .ok (.istore_n 3, 1) := by decide +kernel
theorem d_RF_fertile_12 : decode prog_14_method_19_code 12 = .ok (.iload_n 3, 1) := by decide +kernel
theorem d_RF_fertile_13 : decode prog_14_method_19_code 13 = .ok (.bipush 8, 2) := by decide +kernel
theorem d_RF_fertile_15 : decode prog_14_method_19_code 15 = .ok (.if_icmp .ge 41, 3) := by decide +kernel
theorem d_RF_fertile_18 : decode prog_14_method_19_code 18 = .ok (.aload_n 0, 1) := by decide +kernel
theorem d_RF_fertile_19 : decode prog_14_method_19_code 19 = .ok (.getfield 13, 3) := by decide +kernel
theorem d_RF_fertile_22 : decode prog_14_method_19_code 22 = .ok (.iload_n 3, 1) := by decide +kernel
theorem d_RF_fertile_23 : decode prog_14_method_19_code 23 = .ok (.baload, 1) := by decide +kernel
theorem d_RF_fertile_24 : decode prog_14_method_19_code 24 = .ok (.ifCond .eq 26, 3) := by decide +kernel
theorem d_RF_fertile_27 : decode prog_14_method_19_code 27 = .ok (.aload_n 0, 1) := by decide +kernel
theorem d_RF_fertile_28 : decode prog_14_method_19_code 28 = .ok (.iload_n 3, 1) := by decide +kernel
theorem d_RF_fertile_29 : decode prog_14_method_19_code 29 = .ok (.aload_n 0, 1) := by decide +kernel
theorem d_RF_fertile_30 : decode prog_14_method_19_code 30 = .ok (.iload_n 3, 1) := by decide +kernel
theorem d_RF_fertile_31 : decode prog_14_method_19_code 31 = .ok (.sipush 1024, 3) := by decide +kernel
theorem d_RF_fertile_34 : decode prog_14_method_19_code 34 = .ok (.iload_n 1, 1) := by decide +kernel
theorem d_RF_fertile_35 : decode prog_14_method_19_code 35 = .ok (.invokevirtual 172, 3) := by decide +kernel
theorem d_RF_fertile_38 : decode prog_14_method_19_code 38 = .ok (.invokevirtual 175, 3) := by decide +kernel
theorem d_RF_fertile_41 : decode prog_14_method_19_code 41 = .ok (.ifCond .eq 9, 3) := by decide +kernel
theorem d_RF_fertile_44 : decode prog_14_method_19_code 44 = .ok (.iload_n 1, 1) := by decide +kernel
theorem d_RF_fertile_45 : decode prog_14_method_19_code 45 = .ok (.iconst 1, 1) := by decide +kernel
theorem d_RF_fertile_46 : decode prog_14_method_19_code 46 = .ok (.iload_n 3, 1) := by decide +kernel
theorem d_RF_fertile_47 : decode prog_14_method_19_code 47 = .ok (.ishl, 1) := by decide +kernel
theorem d_RF_fertile_48 : decode prog_14_method_19_code 48 = .ok (.ior, 1) := by decide +kernel
theorem d_RF_fertile_49 : decode prog_14_method_19_code 49 = .ok (.istore_n 1, 1) := by decide +kernel
theorem d_RF_fertile_50 : decode prog_14_method_19_code 50 = .ok (.iinc 3 1, 3) := by decide +kernel
theorem d_RF_fertile_53 : decode prog_14_method_19_code 53 = .ok (.goto (-41), 3) := by decide +kernel
theorem d_RF_fertile_56 : decode prog_14_method_19_code 56 = .ok (.iinc 2 1, 3) := by decide +kernel
theorem d_RF_fertile_59 : decode prog_14_method_19_code 59 = .ok (.goto (-55), 3) := by decide +kernel
theorem d_RF_fertile_62 : decode prog_14_method_19_code 62 = .ok (.iload_n 1, 1) := by decide +kernel
theorem d_RF_fertile_63 : decode prog_14_method_19_code 63 = .ok (.ireturn, 1) := by decide +kernel
theorem d_RF_steps_0 : decode prog_14_method_18_code 0 = .ok (.iload_n 2, 1) := by decide +kernel
theorem d_RF_steps_1 : decode prog_14_method_18_code 1 = .ok (.istore 4, 2) := by decide +kernel
theorem d_RF_steps_3 : decode prog_14_method_18_code 3 = .ok (.iconst 0, 1) := by decide +kernel
theorem d_RF_steps_4 : decode prog_14_method_18_code 4 = .ok (.istore 5, 2) := by decide +kernel
theorem d_RF_steps_6 : decode prog_14_method_18_code 6 = .ok (.iload 5, 2) := by decide +kernel
theorem d_RF_steps_8 : decode prog_14_method_18_code 8 = .ok (.bipush 11, 2) := by decide +kernel
theorem d_RF_steps_10 : decode prog_14_method_18_code 10 = .ok (.if_icmp .ge 22, 3) := by decide +kernel
theorem d_RF_steps_13 : decode prog_14_method_18_code 13 = .ok (.iload 4, 2) := by decide +kernel
theorem d_RF_steps_15 : decode prog_14_method_18_code 15 = .ok (.aload_n 0, 1) := by decide +kernel
theorem d_RF_steps_16 : decode prog_14_method_18_code 16 = .ok (.iload_n 1, 1) := by decide +kernel
theorem d_RF_steps_17 : decode prog_14_method_18_code 17 = .ok (.iload 4, 2) := by decide +kernel
theorem d_RF_steps_19 : decode prog_14_method_18_code 19 = .ok (.iload_n 3, 1) := by decide +kernel
theorem d_RF_steps_20 : decode prog_14_method_18_code 20 = .ok (.invokevirtual 168, 3) := by decide +kernel
theorem d_RF_steps_23 : decode prog_14_method_18_code 23 = .ok (.ior, 1) := by decide +kernel
theorem d_RF_steps_24 : decode prog_14_method_18_code 24 = .ok (.istore 4, 2) := by decide +kernel
theorem d_RF_steps_26 : decode prog_14_method_18_code 26 = .ok (.iinc 5 1, 3) := by decide +kernel
theorem d_RF_steps_29 : decode prog_14_method_18_code 29 = .ok (.goto (-23), 3) := by decide +kernel
theorem d_RF_steps_32 : decode prog_14_method_18_code 32 = .ok (.iload 4, 2) := by decide +kernel
theorem d_RF_steps_34 : decode prog_14_method_18_code 34 = .ok (.ireturn, 1) := by decide +kernel
theorem d_RF_step_0 : decode prog_14_method_16_code 0 = .ok (.aload_n 0, 1) := by decide +kernel
theorem d_RF_step_1 : decode prog_14_method_16_code 1 = .ok (.iload_n 1, 1) := by decide +kernel
theorem d_RF_step_2 : decode prog_14_method_16_code 2 = .ok (.iload_n 2, 1) := by decide +kernel
theorem d_RF_step_3 : decode prog_14_method_16_code 3 = .ok (.invokevirtual 164, 3) := by decide +kernel
theorem d_RF_step_6 : decode prog_14_method_16_code 6 = .ok (.istore 4, 2) := by decide +kernel
theorem d_RF_step_8 : decode prog_14_method_16_code 8 = .ok (.iconst 0, 1) := by decide +kernel
theorem d_RF_step_9 : decode prog_14_method_16_code 9 = .ok (.istore 5, 2) := by decide +kernel
theorem d_RF_step_11 : decode prog_14_method_16_code 11 = .ok (.iload 5, 2) := by decide +kernel
theorem d_RF_step_13 : decode prog_14_method_16_code 13 = .ok (.aload_n 0, 1) := by decide +kernel
theorem d_RF_step_14 : decode prog_14_method_16_code 14 = .ok (.getfield 29, 3) := by decide +kernel
theorem d_RF_step_17 : decode prog_14_method_16_code 17 = .ok (.iload_n 1, 1) := by decide +kernel
theorem d_RF_step_18 : decode prog_14_method_16_code 18 = .ok (.iaload, 1) := by decide +kernel
theorem d_RF_step_19 : decode prog_14_method_16_code 19 = .ok (.if_icmp .ge 42, 3) := by decide +kernel
theorem d_RF_step_22 : decode prog_14_method_16_code 22 = .ok (.iload_n 3, 1) := by decide +kernel
theorem d_RF_step_23 : decode prog_14_method_16_code 23 = .ok (.aload_n 0, 1) := by decide +kernel
theorem d_RF_step_24 : decode prog_14_method_16_code 24 = .ok (.getfield 32, 3) := by decide +kernel
theorem d_RF_step_27 : decode prog_14_method_16_code 27 = .ok (.bipush 10, 2) := by decide +kernel
theorem d_RF_step_29 : decode prog_14_method_16_code 29 = .ok (.iload_n 1, 1) := by decide +kernel
theorem d_RF_step_30 : decode prog_14_method_16_code 30 = .ok (.imul, 1) := by decide +kernel
theorem d_RF_step_31 : decode prog_14_method_16_code 31 = .ok (.iload 5, 2) := by decide +kernel
theorem d_RF_step_33 : decode prog_14_method_16_code 33 = .ok (.iadd, 1) := by decide +kernel
theorem d_RF_step_34 : decode prog_14_method_16_code 34 = .ok (.iaload, 1) := by decide +kernel
theorem d_RF_step_35 : decode prog_14_method_16_code 35 = .ok (.bipush 97, 2) := by decide +kernel
theorem d_RF_step_37 : decode prog_14_method_16_code 37 = .ok (.isub, 1) := by decide +kernel
theorem d_RF_step_38 : decode prog_14_method_16_code 38 = .ok (.ishr, 1) := by decide +kernel
theorem d_RF_step_39 : decode prog_14_method_16_code 39 = .ok (.iconst 1, 1) := by decide +kernel
theorem d_RF_step_40 : decode prog_14_method_16_code 40 = .ok (.iand, 1) := by decide +kernel
theorem d_RF_step_41 : decode prog_14_method_16_code 41 = .ok (.ifCond .ne 14, 3) := by decide +kernel
theorem d_RF_step_44 : decode prog_14_method_16_code 44 = .ok (.iload 4, 2) := by decide +kernel
theorem d_RF_step_46 : decode prog_14_method_16_code 46 = .ok (.iconst 1, 1) := by decide +kernel
theorem d_RF_step_47 : decode prog_14_method_16_code 47 = .ok (.iload 5, 2) := by decide +kernel
theorem d_RF_step_49 : decode prog_14_method_16_code 49 = .ok (.ishl, 1) := by decide +kernel
theorem d_RF_step_50 : decode prog_14_method_16_code 50 = .ok (.iconst (-1), 1) := by decide +kernel
theorem d_RF_step_51 : decode prog_14_method_16_code 51 = .ok (.ixor, 1) := by decide +kernel
theorem d_RF_step_52 : decode prog_14_method_16_code 52 = .ok (.iand, 1) := by decide +kernel
theorem d_RF_step_53 : decode prog_14_method_16_code 53 = .ok (.istore 4, 2) := by decide +kernel
theorem d_RF_step_55 : decode prog_14_method_16_code 55 = .ok (.iinc 5 1, 3) := by decide +kernel
theorem d_RF_step_58 : decode prog_14_method_16_code 58 = .ok (.goto (-47), 3) := by decide +kernel
theorem d_RF_step_61 : decode prog_14_method_16_code 61 = .ok (.iload 4, 2) := by decide +kernel
theorem d_RF_step_63 : decode prog_14_method_16_code 63 = .ok (.ireturn, 1) := by decide +kernel
theorem d_RF_next_0 : decode prog_14_method_15_code 0 = .ok (.iload_n 2, 1) := by decide +kernel
theorem d_RF_next_1 : decode prog_14_method_15_code 1 = .ok (.sipush 1024, 3) := by decide +kernel
theorem d_RF_next_4 : decode prog_14_method_15_code 4 = .ok (.iand, 1) := by decide +kernel
theorem d_RF_next_5 : decode prog_14_method_15_code 5 = .ok (.ifCond .eq 12, 3) := by decide +kernel
theorem d_RF_next_8 : decode prog_14_method_15_code 8 = .ok (.aload_n 0, 1) := by decide +kernel
theorem d_RF_next_9 : decode prog_14_method_15_code 9 = .ok (.getfield 20, 3) := by decide +kernel
theorem d_RF_next_12 : decode prog_14_method_15_code 12 = .ok (.iload_n 1, 1) := by decide +kernel
theorem d_RF_next_13 : decode prog_14_method_15_code 13 = .ok (.iaload, 1) := by decide +kernel
theorem d_RF_next_14 : decode prog_14_method_15_code 14 = .ok (.goto 4, 3) := by decide +kernel
theorem d_RF_next_17 : decode prog_14_method_15_code 17 = .ok (.iconst 0, 1) := by decide +kernel
theorem d_RF_next_18 : decode prog_14_method_15_code 18 = .ok (.istore_n 3, 1) := by decide +kernel
theorem d_RF_next_19 : decode prog_14_method_15_code 19 = .ok (.iconst 0, 1) := by decide +kernel
theorem d_RF_next_20 : decode prog_14_method_15_code 20 = .ok (.istore 4, 2) := by decide +kernel
theorem d_RF_next_22 : decode prog_14_method_15_code 22 = .ok (.iload 4, 2) := by decide +kernel
theorem d_RF_next_24 : decode prog_14_method_15_code 24 = .ok (.aload_n 0, 1) := by decide +kernel
theorem d_RF_next_25 : decode prog_14_method_15_code 25 = .ok (.getfield 29, 3) := by decide +kernel
theorem d_RF_next_28 : decode prog_14_method_15_code 28 = .ok (.iload_n 1, 1) := by decide +kernel
theorem d_RF_next_29 : decode prog_14_method_15_code 29 = .ok (.iaload, 1) := by decide +kernel
theorem d_RF_next_30 : decode prog_14_method_15_code 30 = .ok (.if_icmp .ge 34, 3) := by decide +kernel
theorem d_RF_next_33 : decode prog_14_method_15_code 33 = .ok (.iload_n 2, 1) := by decide +kernel
theorem d_RF_next_34 : decode prog_14_method_15_code 34 = .ok (.iload 4, 2) := by decide +kernel
theorem d_RF_next_36 : decode prog_14_method_15_code 36 = .ok (.ishr, 1) := by decide +kernel
theorem d_RF_next_37 : decode prog_14_method_15_code 37 = .ok (.iconst 1, 1) := by decide +kernel
theorem d_RF_next_38 : decode prog_14_method_15_code 38 = .ok (.iand, 1) := by decide +kernel
theorem d_RF_next_39 : decode prog_14_method_15_code 39 = .ok (.iconst 1, 1) := by decide +kernel
theorem d_RF_next_40 : decode prog_14_method_15_code 40 = .ok (.if_icmp .ne 18, 3) := by decide +kernel
theorem d_RF_next_43 : decode prog_14_method_15_code 43 = .ok (.iload_n 3, 1) := by decide +kernel
theorem d_RF_next_44 : decode prog_14_method_15_code 44 = .ok (.aload_n 0, 1) := by decide +kernel
theorem d_RF_next_45 : decode prog_14_method_15_code 45 = .ok (.getfield 35, 3) := by decide +kernel
theorem d_RF_next_48 : decode prog_14_method_15_code 48 = .ok (.bipush 10, 2) := by decide +kernel
theorem d_RF_next_50 : decode prog_14_method_15_code 50 = .ok (.iload_n 1, 1) := by decide +kernel
theorem d_RF_next_51 : decode prog_14_method_15_code 51 = .ok (.imul, 1) := by decide +kernel
theorem d_RF_next_52 : decode prog_14_method_15_code 52 = .ok (.iload 4, 2) := by decide +kernel
theorem d_RF_next_54 : decode prog_14_method_15_code 54 = .ok (.iadd, 1) := by decide +kernel
theorem d_RF_next_55 : decode prog_14_method_15_code 55 = .ok (.iaload, 1) := by decide +kernel
theorem d_RF_next_56 : decode prog_14_method_15_code 56 = .ok (.ior, 1) := by decide +kernel
theorem d_RF_next_57 : decode prog_14_method_15_code 57 = .ok (.istore_n 3, 1) := by decide +kernel
theorem d_RF_next_58 : decode prog_14_method_15_code 58 = .ok (.iinc 4 1, 3) := by decide +kernel
theorem d_RF_next_61 : decode prog_14_method_15_code 61 = .ok (.goto (-39), 3) := by decide +kernel
theorem d_RF_next_64 : decode prog_14_method_15_code 64 = .ok (.iload_n 3, 1) := by decide +kernel
theorem d_RF_next_65 : decode prog_14_method_15_code 65 = .ok (.ireturn, 1) := by decide +kernel
theorem d_RF_accepts_0 : decode prog_14_method_17_code 0 = .ok (.iload_n 2, 1) := by decide +kernel
theorem d_RF_accepts_1 : decode prog_14_method_17_code 1 = .ok (.aload_n 0, 1) := by decide +kernel
theorem d_RF_accepts_2 : decode prog_14_method_17_code 2 = .ok (.getfield 23, 3) := by decide +kernel
theorem d_RF_accepts_5 : decode prog_14_method_17_code 5 = .ok (.iload_n 1, 1) := by decide +kernel
theorem d_RF_accepts_6 : decode prog_14_method_17_code 6 = .ok (.iaload, 1) := by decide +kernel
theorem d_RF_accepts_7 : decode prog_14_method_17_code 7 = .ok (.iand, 1) := by decide +kernel
theorem d_RF_accepts_8 : decode prog_14_method_17_code 8 = .ok (.ifCond .ne 20, 3) := by decide +kernel
theorem d_RF_accepts_11 : decode prog_14_method_17_code 11 = .ok (.iload_n 2, 1) := by decide +kernel
theorem d_RF_accepts_12 : decode prog_14_method_17_code 12 = .ok (.sipush 1024, 3) := by decide +kernel
theorem d_RF_accepts_15 : decode prog_14_method_17_code 15 = .ok (.iand, 1) := by decide +kernel
theorem d_RF_accepts_16 : decode prog_14_method_17_code 16 = .ok (.ifCond .eq 16, 3) := by decide +kernel
theorem d_RF_accepts_19 : decode prog_14_method_17_code 19 = .ok (.aload_n 0, 1) := by decide +kernel
theorem d_RF_accepts_20 : decode prog_14_method_17_code 20 = .ok (.getfield 26, 3) := by decide +kernel
theorem d_RF_accepts_23 : decode prog_14_method_17_code 23 = .ok (.iload_n 1, 1) := by decide +kernel
theorem d_RF_accepts_24 : decode prog_14_method_17_code 24 = .ok (.baload, 1) := by decide +kernel
theorem d_RF_accepts_25 : decode prog_14_method_17_code 25 = .ok (.ifCond .eq 7, 3) := by decide +kernel
theorem d_RF_accepts_28 : decode prog_14_method_17_code 28 = .ok (.iconst 1, 1) := by decide +kernel
theorem d_RF_accepts_29 : decode prog_14_method_17_code 29 = .ok (.goto 4, 3) := by decide +kernel
theorem d_RF_accepts_32 : decode prog_14_method_17_code 32 = .ok (.iconst 0, 1) := by decide +kernel
theorem d_RF_accepts_33 : decode prog_14_method_17_code 33 = .ok (.ireturn, 1) := by decide +kernel
theorem d_RF_insert_0 : decode prog_14_method_46_code 0 = .ok (.aload_n 0, 1) := by decide +kernel
theorem d_RF_insert_1 : decode prog_14_method_46_code 1 = .ok (.getfield 261, 3) := by decide +kernel
theorem d_RF_insert_4 : decode prog_14_method_46_code 4 = .ok (.bipush 12, 2) := by decide +kernel
theorem d_RF_insert_6 : decode prog_14_method_46_code 6 = .ok (.if_icmp .ne 5, 3) := by decide +kernel
theorem d_RF_insert_9 : decode prog_14_method_46_code 9 = .ok (.iconst 0, 1) := by decide +kernel
theorem d_RF_insert_10 : decode prog_14_method_46_code 10 = .ok (.ireturn, 1) := by decide +kernel
theorem d_RF_insert_11 : decode prog_14_method_46_code 11 = .ok (.aload_n 0, 1) := by decide +kernel
theorem d_RF_insert_12 : decode prog_14_method_46_code 12 = .ok (.iconst 0, 1) := by decide +kernel
theorem d_RF_insert_13 : decode prog_14_method_46_code 13 = .ok (.iload_n 1, 1) := by decide +kernel
theorem d_RF_insert_14 : decode prog_14_method_46_code 14 = .ok (.iload_n 2, 1) := by decide +kernel
theorem d_RF_insert_15 : decode prog_14_method_46_code 15 = .ok (.iconst 0, 1) := by decide +kernel
theorem d_RF_insert_16 : decode prog_14_method_46_code 16 = .ok (.iconst 0, 1) := by decide +kernel
theorem d_RF_insert_17 : decode prog_14_method_46_code 17 = .ok (.invokevirtual 264, 3) := by decide +kernel
theorem d_RF_insert_20 : decode prog_14_method_46_code 20 = .ok (.iconst 1, 1) := by decide +kernel
theorem d_RF_insert_21 : decode prog_14_method_46_code 21 = .ok (.ireturn, 1) := by decide +kernel
theorem d_RF_post_0 : decode prog_14_method_45_code 0 = .ok (.aload_n 0, 1) := by decide +kernel
theorem d_RF_post_1 : decode prog_14_method_45_code 1 = .ok (.getfield 95, 3) := by decide +kernel
theorem d_RF_post_4 : decode prog_14_method_45_code 4 = .ok (.aload_n 0, 1) := by decide +kernel
theorem d_RF_post_5 : decode prog_14_method_45_code 5 = .ok (.getfield 261, 3) := by decide +kernel
theorem d_RF_post_8 : decode prog_14_method_45_code 8 = .ok (.iload_n 1, 1) := by decide +kernel
theorem d_RF_post_9 : decode prog_14_method_45_code 9 = .ok (.iastore, 1) := by decide +kernel
theorem d_RF_post_10 : decode prog_14_method_45_code 10 = .ok (.aload_n 0, 1) := by decide +kernel
theorem d_RF_post_11 : decode prog_14_method_45_code 11 = .ok (.getfield 98, 3) := by decide +kernel
theorem d_RF_post_14 : decode prog_14_method_45_code 14 = .ok (.aload_n 0, 1) := by decide +kernel
theorem d_RF_post_15 : decode prog_14_method_45_code 15 = .ok (.getfield 261, 3) := by decide +kernel
theorem d_RF_post_18 : decode prog_14_method_45_code 18 = .ok (.iload_n 2, 1) := by decide +kernel
theorem d_RF_post_19 : decode prog_14_method_45_code 19 = .ok (.iastore, 1) := by decide +kernel
theorem d_RF_post_20 : decode prog_14_method_45_code 20 = .ok (.aload_n 0, 1) := by decide +kernel
theorem d_RF_post_21 : decode prog_14_method_45_code 21 = .ok (.getfield 101, 3) := by decide +kernel
theorem d_RF_post_24 : decode prog_14_method_45_code 24 = .ok (.aload_n 0, 1) := by decide +kernel
theorem d_RF_post_25 : decode prog_14_method_45_code 25 = .ok (.getfield 261, 3) := by decide +kernel
theorem d_RF_post_28 : decode prog_14_method_45_code 28 = .ok (.iload_n 3, 1) := by decide +kernel
theorem d_RF_post_29 : decode prog_14_method_45_code 29 = .ok (.iastore, 1) := by decide +kernel
theorem d_RF_post_30 : decode prog_14_method_45_code 30 = .ok (.aload_n 0, 1) := by decide +kernel
theorem d_RF_post_31 : decode prog_14_method_45_code 31 = .ok (.getfield 104, 3) := by decide +kernel
theorem d_RF_post_34 : decode prog_14_method_45_code 34 = .ok (.aload_n 0, 1) := by decide +kernel
theorem d_RF_post_35 : decode prog_14_method_45_code 35 = .ok (.getfield 261, 3) := by decide +kernel
theorem d_RF_post_38 : decode prog_14_method_45_code 38 = .ok (.iload 4, 2) := by decide +kernel
theorem d_RF_post_40 : decode prog_14_method_45_code 40 = .ok (.iastore, 1) := by decide +kernel
theorem d_RF_post_41 : decode prog_14_method_45_code 41 = .ok (.aload_n 0, 1) := by decide +kernel
theorem d_RF_post_42 : decode prog_14_method_45_code 42 = .ok (.getfield 107, 3) := by decide +kernel
theorem d_RF_post_45 : decode prog_14_method_45_code 45 = .ok (.aload_n 0, 1) := by decide +kernel
theorem d_RF_post_46 : decode prog_14_method_45_code 46 = .ok (.getfield 261, 3) := by decide +kernel
theorem d_RF_post_49 : decode prog_14_method_45_code 49 = .ok (.iload 5, 2) := by decide +kernel
theorem d_RF_post_51 : decode prog_14_method_45_code 51 = .ok (.iastore, 1) := by decide +kernel
theorem d_RF_post_52 : decode prog_14_method_45_code 52 = .ok (.aload_n 0, 1) := by decide +kernel
theorem d_RF_post_53 : decode prog_14_method_45_code 53 = .ok (.dup, 1) := by decide +kernel
theorem d_RF_post_54 : decode prog_14_method_45_code 54 = .ok (.getfield 261, 3) := by decide +kernel
theorem d_RF_post_57 : decode prog_14_method_45_code 57 = .ok (.iconst 1, 1) := by decide +kernel
theorem d_RF_post_58 : decode prog_14_method_45_code 58 = .ok (.iadd, 1) := by decide +kernel
theorem d_RF_post_59 : decode prog_14_method_45_code 59 = .ok (.putfield 261, 3) := by decide +kernel
theorem d_RF_post_62 : decode prog_14_method_45_code 62 = .ok (.return_, 1) := by decide +kernel
theorem d_RF_erase_0 : decode prog_14_method_47_code 0 = .ok (.aload_n 0, 1) := by decide +kernel
theorem d_RF_erase_1 : decode prog_14_method_47_code 1 = .ok (.getfield 261, 3) := by decide +kernel
theorem d_RF_erase_4 : decode prog_14_method_47_code 4 = .ok (.bipush 12, 2) := by decide +kernel
theorem d_RF_erase_6 : decode prog_14_method_47_code 6 = .ok (.if_icmp .ne 5, 3) := by decide +kernel
theorem d_RF_erase_9 : decode prog_14_method_47_code 9 = .ok (.iconst 0, 1) := by decide +kernel
theorem d_RF_erase_10 : decode prog_14_method_47_code 10 = .ok (.ireturn, 1) := by decide +kernel
theorem d_RF_erase_11 : decode prog_14_method_47_code 11 = .ok (.aload_n 0, 1) := by decide +kernel
theorem d_RF_erase_12 : decode prog_14_method_47_code 12 = .ok (.iconst 1, 1) := by decide +kernel
theorem d_RF_erase_13 : decode prog_14_method_47_code 13 = .ok (.iload_n 1, 1) := by decide +kernel
theorem d_RF_erase_14 : decode prog_14_method_47_code 14 = .ok (.iload_n 2, 1) := by decide +kernel
theorem d_RF_erase_15 : decode prog_14_method_47_code 15 = .ok (.iconst 0, 1) := by decide +kernel
theorem d_RF_erase_16 : decode prog_14_method_47_code 16 = .ok (.iconst 0, 1) := by decide +kernel
theorem d_RF_erase_17 : decode prog_14_method_47_code 17 = .ok (.invokevirtual 264, 3) := by decide +kernel
theorem d_RF_erase_20 : decode prog_14_method_47_code 20 = .ok (.iconst 1, 1) := by decide +kernel
theorem d_RF_erase_21 : decode prog_14_method_47_code 21 = .ok (.ireturn, 1) := by decide +kernel
theorem d_RF_ask_0 : decode prog_14_method_48_code 0 = .ok (.iload_n 1, 1) := by decide +kernel
theorem d_RF_ask_1 : decode prog_14_method_48_code 1 = .ok (.ifCond .lt 8, 3) := by decide +kernel
theorem d_RF_ask_4 : decode prog_14_method_48_code 4 = .ok (.iload_n 1, 1) := by decide +kernel
theorem d_RF_ask_5 : decode prog_14_method_48_code 5 = .ok (.iconst 3, 1) := by decide +kernel
theorem d_RF_ask_6 : decode prog_14_method_48_code 6 = .ok (.if_icmp .le 5, 3) := by decide +kernel
theorem d_RF_ask_9 : decode prog_14_method_48_code 9 = .ok (.iconst (-1), 1) := by decide +kernel
theorem d_RF_ask_10 : decode prog_14_method_48_code 10 = .ok (.ireturn, 1) := by decide +kernel
theorem d_RF_ask_11 : decode prog_14_method_48_code 11 = .ok (.aload_n 0, 1) := by decide +kernel
theorem d_RF_ask_12 : decode prog_14_method_48_code 12 = .ok (.getfield 261, 3) := by decide +kernel
theorem d_RF_ask_15 : decode prog_14_method_48_code 15 = .ok (.bipush 12, 2) := by decide +kernel
theorem d_RF_ask_17 : decode prog_14_method_48_code 17 = .ok (.if_icmp .ne 6, 3) := by decide +kernel
theorem d_RF_ask_20 : decode prog_14_method_48_code 20 = .ok (.bipush (-2), 2) := by decide +kernel
theorem d_RF_ask_22 : decode prog_14_method_48_code 22 = .ok (.ireturn, 1) := by decide +kernel
theorem d_RF_ask_23 : decode prog_14_method_48_code 23 = .ok (.aload_n 0, 1) := by decide +kernel
theorem d_RF_ask_24 : decode prog_14_method_48_code 24 = .ok (.dup, 1) := by decide +kernel
theorem d_RF_ask_25 : decode prog_14_method_48_code 25 = .ok (.getfield 268, 3) := by decide +kernel
theorem d_RF_ask_28 : decode prog_14_method_48_code 28 = .ok (.iconst 1, 1) := by decide +kernel
theorem d_RF_ask_29 : decode prog_14_method_48_code 29 = .ok (.iadd, 1) := by decide +kernel
theorem d_RF_ask_30 : decode prog_14_method_48_code 30 = .ok (.putfield 268, 3) := by decide +kernel
theorem d_RF_ask_33 : decode prog_14_method_48_code 33 = .ok (.aload_n 0, 1) := by decide +kernel
theorem d_RF_ask_34 : decode prog_14_method_48_code 34 = .ok (.iconst 2, 1) := by decide +kernel
theorem d_RF_ask_35 : decode prog_14_method_48_code 35 = .ok (.iload_n 2, 1) := by decide +kernel
theorem d_RF_ask_36 : decode prog_14_method_48_code 36 = .ok (.iload_n 3, 1) := by decide +kernel
theorem d_RF_ask_37 : decode prog_14_method_48_code 37 = .ok (.aload_n 0, 1) := by decide +kernel
theorem d_RF_ask_38 : decode prog_14_method_48_code 38 = .ok (.getfield 268, 3) := by decide +kernel
theorem d_RF_ask_41 : decode prog_14_method_48_code 41 = .ok (.iload_n 1, 1) := by decide +kernel
theorem d_RF_ask_42 : decode prog_14_method_48_code 42 = .ok (.invokevirtual 264, 3) := by decide +kernel
theorem d_RF_ask_45 : decode prog_14_method_48_code 45 = .ok (.aload_n 0, 1) := by decide +kernel
theorem d_RF_ask_46 : decode prog_14_method_48_code 46 = .ok (.getfield 268, 3) := by decide +kernel
theorem d_RF_ask_49 : decode prog_14_method_48_code 49 = .ok (.ireturn, 1) := by decide +kernel
theorem d_RF_cancel_0 : decode prog_14_method_51_code 0 = .ok (.aload_n 0, 1) := by decide +kernel
theorem d_RF_cancel_1 : decode prog_14_method_51_code 1 = .ok (.iload_n 1, 1) := by decide +kernel
theorem d_RF_cancel_2 : decode prog_14_method_51_code 2 = .ok (.invokevirtual 271, 3) := by decide +kernel
theorem d_RF_cancel_5 : decode prog_14_method_51_code 5 = .ok (.istore_n 2, 1) := by decide +kernel
theorem d_RF_cancel_6 : decode prog_14_method_51_code 6 = .ok (.iload_n 2, 1) := by decide +kernel
theorem d_RF_cancel_7 : decode prog_14_method_51_code 7 = .ok (.ifCond .ge 5, 3) := by decide +kernel
theorem d_RF_cancel_10 : decode prog_14_method_51_code 10 = .ok (.iconst 0, 1) := by decide +kernel
theorem d_RF_cancel_11 : decode prog_14_method_51_code 11 = .ok (.ireturn, 1) := by decide +kernel
theorem d_RF_cancel_12 : decode prog_14_method_51_code 12 = .ok (.aload_n 0, 1) := by decide +kernel
theorem d_RF_cancel_13 : decode prog_14_method_51_code 13 = .ok (.iload_n 2, 1) := by decide +kernel
theorem d_RF_cancel_14 : decode prog_14_method_51_code 14 = .ok (.invokevirtual 274, 3) := by decide +kernel
theorem d_RF_cancel_17 : decode prog_14_method_51_code 17 = .ok (.iconst 1, 1) := by decide +kernel
theorem d_RF_cancel_18 : decode prog_14_method_51_code 18 = .ok (.ireturn, 1) := by decide +kernel
theorem d_RF_waitsAt_0 : decode prog_14_method_50_code 0 = .ok (.iconst 0, 1) := by decide +kernel
theorem d_RF_waitsAt_1 : decode prog_14_method_50_code 1 = .ok (.istore_n 2, 1) := by decide +kernel
theorem d_RF_waitsAt_2 : decode prog_14_method_50_code 2 = .ok (.iload_n 2, 1) := by decide +kernel
theorem d_RF_waitsAt_3 : decode prog_14_method_50_code 3 = .ok (.aload_n 0, 1) := by decide +kernel
theorem d_RF_waitsAt_4 : decode prog_14_method_50_code 4 = .ok (.getfield 261, 3) := by decide +kernel
theorem d_RF_waitsAt_7 : decode prog_14_method_50_code 7 = .ok (.if_icmp .ge 31, 3) := by decide +kernel
theorem d_RF_waitsAt_10 : decode prog_14_method_50_code 10 = .ok (.aload_n 0, 1) := by decide +kernel
theorem d_RF_waitsAt_11 : decode prog_14_method_50_code 11 = .ok (.getfield 95, 3) := by decide +kernel
theorem d_RF_waitsAt_14 : decode prog_14_method_50_code 14 = .ok (.iload_n 2, 1) := by decide +kernel
theorem d_RF_waitsAt_15 : decode prog_14_method_50_code 15 = .ok (.iaload, 1) := by decide +kernel
theorem d_RF_waitsAt_16 : decode prog_14_method_50_code 16 = .ok (.iconst 2, 1) := by decide +kernel
theorem d_RF_waitsAt_17 : decode prog_14_method_50_code 17 = .ok (.if_icmp .ne 15, 3) := by decide +kernel
theorem d_RF_waitsAt_20 : decode prog_14_method_50_code 20 = .ok (.aload_n 0, 1) := by decide +kernel
theorem d_RF_waitsAt_21 : decode prog_14_method_50_code 21 = .ok (.getfield 104, 3) := by decide +kernel
theorem d_RF_waitsAt_24 : decode prog_14_method_50_code 24 = .ok (.iload_n 2, 1) := by decide +kernel
theorem d_RF_waitsAt_25 : decode prog_14_method_50_code 25 = .ok (.iaload, 1) := by decide +kernel
theorem d_RF_waitsAt_26 : decode prog_14_method_50_code 26 = .ok (.iload_n 1, 1) := by decide +kernel
theorem d_RF_waitsAt_27 : decode prog_14_method_50_code 27 = .ok (.if_icmp .ne 5, 3) := by decide +kernel
theorem d_RF_waitsAt_30 : decode prog_14_method_50_code 30 = .ok (.iload_n 2, 1) := by decide +kernel
theorem d_RF_waitsAt_31 : decode prog_14_method_50_code 31 = .ok (.ireturn, 1) := by decide +kernel
theorem d_RF_waitsAt_32 : decode prog_14_method_50_code 32 = .ok (.iinc 2 1, 3) := by decide +kernel
theorem d_RF_waitsAt_35 : decode prog_14_method_50_code 35 = .ok (.goto (-33), 3) := by decide +kernel
theorem d_RF_waitsAt_38 : decode prog_14_method_50_code 38 = .ok (.iconst (-1), 1) := by decide +kernel
theorem d_RF_waitsAt_39 : decode prog_14_method_50_code 39 = .ok (.ireturn, 1) := by decide +kernel
theorem d_RF_strike_0 : decode prog_14_method_49_code 0 = .ok (.aload_n 0, 1) := by decide +kernel
theorem d_RF_strike_1 : decode prog_14_method_49_code 1 = .ok (.dup, 1) := by decide +kernel
theorem d_RF_strike_2 : decode prog_14_method_49_code 2 = .ok (.getfield 261, 3) := by decide +kernel
theorem d_RF_strike_5 : decode prog_14_method_49_code 5 = .ok (.iconst 1, 1) := by decide +kernel
theorem d_RF_strike_6 : decode prog_14_method_49_code 6 = .ok (.isub, 1) := by decide +kernel
theorem d_RF_strike_7 : decode prog_14_method_49_code 7 = .ok (.putfield 261, 3) := by decide +kernel
theorem d_RF_strike_10 : decode prog_14_method_49_code 10 = .ok (.iload_n 1, 1) := by decide +kernel
theorem d_RF_strike_11 : decode prog_14_method_49_code 11 = .ok (.istore_n 2, 1) := by decide +kernel
theorem d_RF_strike_12 : decode prog_14_method_49_code 12 = .ok (.iload_n 2, 1) := by decide +kernel
theorem d_RF_strike_13 : decode prog_14_method_49_code 13 = .ok (.aload_n 0, 1) := by decide +kernel
theorem d_RF_strike_14 : decode prog_14_method_49_code 14 = .ok (.getfield 261, 3) := by decide +kernel
theorem d_RF_strike_17 : decode prog_14_method_49_code 17 = .ok (.if_icmp .ge 79, 3) := by decide +kernel
theorem d_RF_strike_20 : decode prog_14_method_49_code 20 = .ok (.aload_n 0, 1) := by decide +kernel
theorem d_RF_strike_21 : decode prog_14_method_49_code 21 = .ok (.getfield 95, 3) := by decide +kernel
theorem d_RF_strike_24 : decode prog_14_method_49_code 24 = .ok (.iload_n 2, 1) := by decide +kernel
theorem d_RF_strike_25 : decode prog_14_method_49_code 25 = .ok (.aload_n 0, 1) := by decide +kernel
theorem d_RF_strike_26 : decode prog_14_method_49_code 26 = .ok (.getfield 95, 3) := by decide +kernel
theorem d_RF_strike_29 : decode prog_14_method_49_code 29 = .ok (.iload_n 2, 1) := by decide +kernel
theorem d_RF_strike_30 : decode prog_14_method_49_code 30 = .ok (.iconst 1, 1) := by decide +kernel
theorem d_RF_strike_31 : decode prog_14_method_49_code 31 = .ok (.iadd, 1) := by decide +kernel
theorem d_RF_strike_32 : decode prog_14_method_49_code 32 = .ok (.iaload, 1) := by decide +kernel
theorem d_RF_strike_33 : decode prog_14_method_49_code 33 = .ok (.iastore, 1) := by decide +kernel
theorem d_RF_strike_34 : decode prog_14_method_49_code 34 = .ok (.aload_n 0, 1) := by decide +kernel
theorem d_RF_strike_35 : decode prog_14_method_49_code 35 = .ok (.getfield 98, 3) := by decide +kernel
theorem d_RF_strike_38 : decode prog_14_method_49_code 38 = .ok (.iload_n 2, 1) := by decide +kernel
theorem d_RF_strike_39 : decode prog_14_method_49_code 39 = .ok (.aload_n 0, 1) := by decide +kernel
theorem d_RF_strike_40 : decode prog_14_method_49_code 40 = .ok (.getfield 98, 3) := by decide +kernel
theorem d_RF_strike_43 : decode prog_14_method_49_code 43 = .ok (.iload_n 2, 1) := by decide +kernel
theorem d_RF_strike_44 : decode prog_14_method_49_code 44 = .ok (.iconst 1, 1) := by decide +kernel
theorem d_RF_strike_45 : decode prog_14_method_49_code 45 = .ok (.iadd, 1) := by decide +kernel
theorem d_RF_strike_46 : decode prog_14_method_49_code 46 = .ok (.iaload, 1) := by decide +kernel
theorem d_RF_strike_47 : decode prog_14_method_49_code 47 = .ok (.iastore, 1) := by decide +kernel
theorem d_RF_strike_48 : decode prog_14_method_49_code 48 = .ok (.aload_n 0, 1) := by decide +kernel
theorem d_RF_strike_49 : decode prog_14_method_49_code 49 = .ok (.getfield 101, 3) := by decide +kernel
theorem d_RF_strike_52 : decode prog_14_method_49_code 52 = .ok (.iload_n 2, 1) := by decide +kernel
theorem d_RF_strike_53 : decode prog_14_method_49_code 53 = .ok (.aload_n 0, 1) := by decide +kernel
theorem d_RF_strike_54 : decode prog_14_method_49_code 54 = .ok (.getfield 101, 3) := by decide +kernel
theorem d_RF_strike_57 : decode prog_14_method_49_code 57 = .ok (.iload_n 2, 1) := by decide +kernel
theorem d_RF_strike_58 : decode prog_14_method_49_code 58 = .ok (.iconst 1, 1) := by decide +kernel
theorem d_RF_strike_59 : decode prog_14_method_49_code 59 = .ok (.iadd, 1) := by decide +kernel
theorem d_RF_strike_60 : decode prog_14_method_49_code 60 = .ok (.iaload, 1) := by decide +kernel
theorem d_RF_strike_61 : decode prog_14_method_49_code 61 = .ok (.iastore, 1) := by decide +kernel
theorem d_RF_strike_62 : decode prog_14_method_49_code 62 = .ok (.aload_n 0, 1) := by decide +kernel
theorem d_RF_strike_63 : decode prog_14_method_49_code 63 = .ok (.getfield 104, 3) := by decide +kernel
theorem d_RF_strike_66 : decode prog_14_method_49_code 66 = .ok (.iload_n 2, 1) := by decide +kernel
theorem d_RF_strike_67 : decode prog_14_method_49_code 67 = .ok (.aload_n 0, 1) := by decide +kernel
theorem d_RF_strike_68 : decode prog_14_method_49_code 68 = .ok (.getfield 104, 3) := by decide +kernel
theorem d_RF_strike_71 : decode prog_14_method_49_code 71 = .ok (.iload_n 2, 1) := by decide +kernel
theorem d_RF_strike_72 : decode prog_14_method_49_code 72 = .ok (.iconst 1, 1) := by decide +kernel
theorem d_RF_strike_73 : decode prog_14_method_49_code 73 = .ok (.iadd, 1) := by decide +kernel
theorem d_RF_strike_74 : decode prog_14_method_49_code 74 = .ok (.iaload, 1) := by decide +kernel
theorem d_RF_strike_75 : decode prog_14_method_49_code 75 = .ok (.iastore, 1) := by decide +kernel
theorem d_RF_strike_76 : decode prog_14_method_49_code 76 = .ok (.aload_n 0, 1) := by decide +kernel
theorem d_RF_strike_77 : decode prog_14_method_49_code 77 = .ok (.getfield 107, 3) := by decide +kernel
theorem d_RF_strike_80 : decode prog_14_method_49_code 80 = .ok (.iload_n 2, 1) := by decide +kernel
theorem d_RF_strike_81 : decode prog_14_method_49_code 81 = .ok (.aload_n 0, 1) := by decide +kernel
theorem d_RF_strike_82 : decode prog_14_method_49_code 82 = .ok (.getfield 107, 3) := by decide +kernel
theorem d_RF_strike_85 : decode prog_14_method_49_code 85 = .ok (.iload_n 2, 1) := by decide +kernel
theorem d_RF_strike_86 : decode prog_14_method_49_code 86 = .ok (.iconst 1, 1) := by decide +kernel
theorem d_RF_strike_87 : decode prog_14_method_49_code 87 = .ok (.iadd, 1) := by decide +kernel
theorem d_RF_strike_88 : decode prog_14_method_49_code 88 = .ok (.iaload, 1) := by decide +kernel
theorem d_RF_strike_89 : decode prog_14_method_49_code 89 = .ok (.iastore, 1) := by decide +kernel
theorem d_RF_strike_90 : decode prog_14_method_49_code 90 = .ok (.iinc 2 1, 3) := by decide +kernel
theorem d_RF_strike_93 : decode prog_14_method_49_code 93 = .ok (.goto (-81), 3) := by decide +kernel
theorem d_RF_strike_96 : decode prog_14_method_49_code 96 = .ok (.return_, 1) := by decide +kernel
theorem d_RF_work_0 : decode prog_14_method_55_code 0 = .ok (.aload_n 0, 1) := by decide +kernel
theorem d_RF_work_1 : decode prog_14_method_55_code 1 = .ok (.getfield 261, 3) := by decide +kernel
theorem d_RF_work_4 : decode prog_14_method_55_code 4 = .ok (.ifCond .ne 5, 3) := by decide +kernel
theorem d_RF_work_7 : decode prog_14_method_55_code 7 = .ok (.iconst (-1), 1) := by decide +kernel
theorem d_RF_work_8 : decode prog_14_method_55_code 8 = .ok (.ireturn, 1) := by decide +kernel
theorem d_RF_work_9 : decode prog_14_method_55_code 9 = .ok (.aload_n 0, 1) := by decide +kernel
theorem d_RF_work_10 : decode prog_14_method_55_code 10 = .ok (.getfield 95, 3) := by decide +kernel
theorem d_RF_work_13 : decode prog_14_method_55_code 13 = .ok (.iconst 0, 1) := by decide +kernel
theorem d_RF_work_14 : decode prog_14_method_55_code 14 = .ok (.iaload, 1) := by decide +kernel
theorem d_RF_work_15 : decode prog_14_method_55_code 15 = .ok (.istore_n 1, 1) := by decide +kernel
theorem d_RF_work_16 : decode prog_14_method_55_code 16 = .ok (.aload_n 0, 1) := by decide +kernel
theorem d_RF_work_17 : decode prog_14_method_55_code 17 = .ok (.getfield 98, 3) := by decide +kernel
theorem d_RF_work_20 : decode prog_14_method_55_code 20 = .ok (.iconst 0, 1) := by decide +kernel
theorem d_RF_work_21 : decode prog_14_method_55_code 21 = .ok (.iaload, 1) := by decide +kernel
theorem d_RF_work_22 : decode prog_14_method_55_code 22 = .ok (.istore_n 2, 1) := by decide +kernel
theorem d_RF_work_23 : decode prog_14_method_55_code 23 = .ok (.aload_n 0, 1) := by decide +kernel
theorem d_RF_work_24 : decode prog_14_method_55_code 24 = .ok (.getfield 101, 3) := by decide +kernel
theorem d_RF_work_27 : decode prog_14_method_55_code 27 = .ok (.iconst 0, 1) := by decide +kernel
theorem d_RF_work_28 : decode prog_14_method_55_code 28 = .ok (.iaload, 1) := by decide +kernel
theorem d_RF_work_29 : decode prog_14_method_55_code 29 = .ok (.istore_n 3, 1) := by decide +kernel
theorem d_RF_work_30 : decode prog_14_method_55_code 30 = .ok (.aload_n 0, 1) := by decide +kernel
theorem d_RF_work_31 : decode prog_14_method_55_code 31 = .ok (.getfield 104, 3) := by decide +kernel
theorem d_RF_work_34 : decode prog_14_method_55_code 34 = .ok (.iconst 0, 1) := by decide +kernel
theorem d_RF_work_35 : decode prog_14_method_55_code 35 = .ok (.iaload, 1) := by decide +kernel
theorem d_RF_work_36 : decode prog_14_method_55_code 36 = .ok (.istore 4, 2) := by decide +kernel
theorem d_RF_work_38 : decode prog_14_method_55_code 38 = .ok (.aload_n 0, 1) := by decide +kernel
theorem d_RF_work_39 : decode prog_14_method_55_code 39 = .ok (.getfield 107, 3) := by decide +kernel
theorem d_RF_work_42 : decode prog_14_method_55_code 42 = .ok (.iconst 0, 1) := by decide +kernel
theorem d_RF_work_43 : decode prog_14_method_55_code 43 = .ok (.iaload, 1) := by decide +kernel
theorem d_RF_work_44 : decode prog_14_method_55_code 44 = .ok (.istore 5, 2) := by decide +kernel
theorem d_RF_work_46 : decode prog_14_method_55_code 46 = .ok (.aload_n 0, 1) := by decide +kernel
theorem d_RF_work_47 : decode prog_14_method_55_code 47 = .ok (.iconst 0, 1) := by decide +kernel
theorem d_RF_work_48 : decode prog_14_method_55_code 48 = .ok (.invokevirtual 274, 3) := by decide +kernel
theorem d_RF_work_51 : decode prog_14_method_55_code 51 = .ok (.iload_n 1, 1) := by decide +kernel
theorem d_RF_work_52 : decode prog_14_method_55_code 52 = .ok (.ifCond .ne 12, 3) := by decide +kernel
theorem d_RF_work_55 : decode prog_14_method_55_code 55 = .ok (.aload_n 0, 1) := by decide +kernel
theorem d_RF_work_56 : decode prog_14_method_55_code 56 = .ok (.iload_n 2, 1) := by decide +kernel
theorem d_RF_work_57 : decode prog_14_method_55_code 57 = .ok (.iload_n 3, 1) := by decide +kernel
theorem d_RF_work_58 : decode prog_14_method_55_code 58 = .ok (.invokevirtual 289, 3) := by decide +kernel
theorem d_RF_work_61 : decode prog_14_method_55_code 61 = .ok (.goto 61, 3) := by decide +kernel
theorem d_RF_work_64 : decode prog_14_method_55_code 64 = .ok (.iload_n 1, 1) := by decide +kernel
theorem d_RF_work_65 : decode prog_14_method_55_code 65 = .ok (.iconst 1, 1) := by decide +kernel
theorem d_RF_work_66 : decode prog_14_method_55_code 66 = .ok (.if_icmp .ne 12, 3) := by decide +kernel
theorem d_RF_work_69 : decode prog_14_method_55_code 69 = .ok (.aload_n 0, 1) := by decide +kernel
theorem d_RF_work_70 : decode prog_14_method_55_code 70 = .ok (.iload_n 2, 1) := by decide +kernel
theorem d_RF_work_71 : decode prog_14_method_55_code 71 = .ok (.iload_n 3, 1) := by decide +kernel
theorem d_RF_work_72 : decode prog_14_method_55_code 72 = .ok (.invokevirtual 292, 3) := by decide +kernel
theorem d_RF_work_75 : decode prog_14_method_55_code 75 = .ok (.goto 47, 3) := by decide +kernel
theorem d_RF_work_78 : decode prog_14_method_55_code 78 = .ok (.aload_n 0, 1) := by decide +kernel
theorem d_RF_work_79 : decode prog_14_method_55_code 79 = .ok (.getfield 110, 3) := by decide +kernel
theorem d_RF_work_82 : decode prog_14_method_55_code 82 = .ok (.aload_n 0, 1) := by decide +kernel
theorem d_RF_work_83 : decode prog_14_method_55_code 83 = .ok (.getfield 295, 3) := by decide +kernel
theorem d_RF_work_86 : decode prog_14_method_55_code 86 = .ok (.bipush 8, 2) := by decide +kernel
theorem d_RF_work_88 : decode prog_14_method_55_code 88 = .ok (.irem, 1) := by decide +kernel
theorem d_RF_work_89 : decode prog_14_method_55_code 89 = .ok (.iload 4, 2) := by decide +kernel
theorem d_RF_work_91 : decode prog_14_method_55_code 91 = .ok (.iastore, 1) := by decide +kernel
theorem d_RF_work_92 : decode prog_14_method_55_code 92 = .ok (.aload_n 0, 1) := by decide +kernel
theorem d_RF_work_93 : decode prog_14_method_55_code 93 = .ok (.getfield 113, 3) := by decide +kernel
theorem d_RF_work_96 : decode prog_14_method_55_code 96 = .ok (.aload_n 0, 1) := by decide +kernel
theorem d_RF_work_97 : decode prog_14_method_55_code 97 = .ok (.getfield 295, 3) := by decide +kernel
theorem d_RF_work_100 : decode prog_14_method_55_code 100 = .ok (.bipush 8, 2) := by decide +kernel
theorem d_RF_work_102 : decode prog_14_method_55_code 102 = .ok (.irem, 1) := by decide +kernel
theorem d_RF_work_103 : decode prog_14_method_55_code 103 = .ok (.aload_n 0, 1) := by decide +kernel
theorem d_RF_work_104 : decode prog_14_method_55_code 104 = .ok (.iload 5, 2) := by decide +kernel
theorem d_RF_work_106 : decode prog_14_method_55_code 106 = .ok (.iload_n 2, 1) := by decide +kernel
theorem d_RF_work_107 : decode prog_14_method_55_code 107 = .ok (.iload_n 3, 1) := by decide +kernel
theorem d_RF_work_108 : decode prog_14_method_55_code 108 = .ok (.invokevirtual 298, 3) := by decide +kernel
theorem d_RF_work_111 : decode prog_14_method_55_code 111 = .ok (.iastore, 1) := by decide +kernel
theorem d_RF_work_112 : decode prog_14_method_55_code 112 = .ok (.aload_n 0, 1) := by decide +kernel
theorem d_RF_work_113 : decode prog_14_method_55_code 113 = .ok (.dup, 1) := by decide +kernel
theorem d_RF_work_114 : decode prog_14_method_55_code 114 = .ok (.getfield 295, 3) := by decide +kernel
theorem d_RF_work_117 : decode prog_14_method_55_code 117 = .ok (.iconst 1, 1) := by decide +kernel
theorem d_RF_work_118 : decode prog_14_method_55_code 118 = .ok (.iadd, 1) := by decide +kernel
theorem d_RF_work_119 : decode prog_14_method_55_code 119 = .ok (.putfield 295, 3) := by decide +kernel
theorem d_RF_work_122 : decode prog_14_method_55_code 122 = .ok (.iload 4, 2) := by decide +kernel
theorem d_RF_work_124 : decode prog_14_method_55_code 124 = .ok (.ireturn, 1) := by decide +kernel
theorem d_RF_insertNow_0 : decode prog_14_method_52_code 0 = .ok (.iload_n 1, 1) := by decide +kernel
theorem d_RF_insertNow_1 : decode prog_14_method_52_code 1 = .ok (.ifCond .lt 32, 3) := by decide +kernel
theorem d_RF_insertNow_4 : decode prog_14_method_52_code 4 = .ok (.iload_n 1, 1) := by decide +kernel
theorem d_RF_insertNow_5 : decode prog_14_method_52_code 5 = .ok (.aload_n 0, 1) := by decide +kernel
theorem d_RF_insertNow_6 : decode prog_14_method_52_code 6 = .ok (.getfield 179, 3) := by decide +kernel
theorem d_RF_insertNow_9 : decode prog_14_method_52_code 9 = .ok (.if_icmp .gt 24, 3) := by decide +kernel
theorem d_RF_insertNow_12 : decode prog_14_method_52_code 12 = .ok (.iload_n 2, 1) := by decide +kernel
theorem d_RF_insertNow_13 : decode prog_14_method_52_code 13 = .ok (.bipush 32, 2) := by decide +kernel
theorem d_RF_insertNow_15 : decode prog_14_method_52_code 15 = .ok (.if_icmp .lt 18, 3) := by decide +kernel
theorem d_RF_insertNow_18 : decode prog_14_method_52_code 18 = .ok (.iload_n 2, 1) := by decide +kernel
theorem d_RF_insertNow_19 : decode prog_14_method_52_code 19 = .ok (.bipush 126, 2) := by decide +kernel
theorem d_RF_insertNow_21 : decode prog_14_method_52_code 21 = .ok (.if_icmp .gt 12, 3) := by decide +kernel
theorem d_RF_insertNow_24 : decode prog_14_method_52_code 24 = .ok (.aload_n 0, 1) := by decide +kernel
theorem d_RF_insertNow_25 : decode prog_14_method_52_code 25 = .ok (.getfield 179, 3) := by decide +kernel
theorem d_RF_insertNow_28 : decode prog_14_method_52_code 28 = .ok (.bipush 100, 2) := by decide +kernel
theorem d_RF_insertNow_30 : decode prog_14_method_52_code 30 = .ok (.if_icmp .ne 4, 3) := by decide +kernel
theorem d_RF_insertNow_33 : decode prog_14_method_52_code 33 = .ok (.return_, 1) := by decide +kernel
theorem d_RF_insertNow_34 : decode prog_14_method_52_code 34 = .ok (.aload_n 0, 1) := by decide +kernel
theorem d_RF_insertNow_35 : decode prog_14_method_52_code 35 = .ok (.getfield 179, 3) := by decide +kernel
theorem d_RF_insertNow_38 : decode prog_14_method_52_code 38 = .ok (.istore_n 3, 1) := by decide +kernel
theorem d_RF_insertNow_39 : decode prog_14_method_52_code 39 = .ok (.iload_n 3, 1) := by decide +kernel
theorem d_RF_insertNow_40 : decode prog_14_method_52_code 40 = .ok (.iload_n 1, 1) := by decide +kernel
theorem d_RF_insertNow_41 : decode prog_14_method_52_code 41 = .ok (.if_icmp .le 23, 3) := by decide +kernel
theorem d_RF_insertNow_44 : decode prog_14_method_52_code 44 = .ok (.aload_n 0, 1) := by decide +kernel
theorem d_RF_insertNow_45 : decode prog_14_method_52_code 45 = .ok (.getfield 50, 3) := by decide +kernel
theorem d_RF_insertNow_48 : decode prog_14_method_52_code 48 = .ok (.iload_n 3, 1) := by decide +kernel
theorem d_RF_insertNow_49 : decode prog_14_method_52_code 49 = .ok (.aload_n 0, 1) := by decide +kernel
theorem d_RF_insertNow_50 : decode prog_14_method_52_code 50 = .ok (.getfield 50, 3) := by decide +kernel
theorem d_RF_insertNow_53 : decode prog_14_method_52_code 53 = .ok (.iload_n 3, 1) := by decide +kernel
theorem d_RF_insertNow_54 : decode prog_14_method_52_code 54 = .ok (.iconst 1, 1) := by decide +kernel
theorem d_RF_insertNow_55 : decode prog_14_method_52_code 55 = .ok (.isub, 1) := by decide +kernel
theorem d_RF_insertNow_56 : decode prog_14_method_52_code 56 = .ok (.iaload, 1) := by decide +kernel
theorem d_RF_insertNow_57 : decode prog_14_method_52_code 57 = .ok (.iastore, 1) := by decide +kernel
theorem d_RF_insertNow_58 : decode prog_14_method_52_code 58 = .ok (.iinc 3 (-1), 3) := by decide +kernel
theorem d_RF_insertNow_61 : decode prog_14_method_52_code 61 = .ok (.goto (-22), 3) := by decide +kernel
theorem d_RF_insertNow_64 : decode prog_14_method_52_code 64 = .ok (.aload_n 0, 1) := by decide +kernel
theorem d_RF_insertNow_65 : decode prog_14_method_52_code 65 = .ok (.getfield 50, 3) := by decide +kernel
theorem d_RF_insertNow_68 : decode prog_14_method_52_code 68 = .ok (.iload_n 1, 1) := by decide +kernel
theorem d_RF_insertNow_69 : decode prog_14_method_52_code 69 = .ok (.iload_n 2, 1) := by decide +kernel
theorem d_RF_insertNow_70 : decode prog_14_method_52_code 70 = .ok (.iastore, 1) := by decide +kernel
theorem d_RF_insertNow_71 : decode prog_14_method_52_code 71 = .ok (.aload_n 0, 1) := by decide +kernel
theorem d_RF_insertNow_72 : decode prog_14_method_52_code 72 = .ok (.dup, 1) := by decide +kernel
theorem d_RF_insertNow_73 : decode prog_14_method_52_code 73 = .ok (.getfield 179, 3) := by decide +kernel
theorem d_RF_insertNow_76 : decode prog_14_method_52_code 76 = .ok (.iconst 1, 1) := by decide +kernel
theorem d_RF_insertNow_77 : decode prog_14_method_52_code 77 = .ok (.iadd, 1) := by decide +kernel
theorem d_RF_insertNow_78 : decode prog_14_method_52_code 78 = .ok (.putfield 179, 3) := by decide +kernel
theorem d_RF_insertNow_81 : decode prog_14_method_52_code 81 = .ok (.return_, 1) := by decide +kernel
theorem d_RF_eraseNow_0 : decode prog_14_method_53_code 0 = .ok (.iload_n 2, 1) := by decide +kernel
theorem d_RF_eraseNow_1 : decode prog_14_method_53_code 1 = .ok (.iconst 1, 1) := by decide +kernel
theorem d_RF_eraseNow_2 : decode prog_14_method_53_code 2 = .ok (.if_icmp .lt 25, 3) := by decide +kernel
theorem d_RF_eraseNow_5 : decode prog_14_method_53_code 5 = .ok (.iload_n 1, 1) := by decide +kernel
theorem d_RF_eraseNow_6 : decode prog_14_method_53_code 6 = .ok (.ifCond .lt 21, 3) := by decide +kernel
theorem d_RF_eraseNow_9 : decode prog_14_method_53_code 9 = .ok (.iload_n 1, 1) := by decide +kernel
theorem d_RF_eraseNow_10 : decode prog_14_method_53_code 10 = .ok (.aload_n 0, 1) := by decide +kernel
theorem d_RF_eraseNow_11 : decode prog_14_method_53_code 11 = .ok (.getfield 179, 3) := by decide +kernel
theorem d_RF_eraseNow_14 : decode prog_14_method_53_code 14 = .ok (.if_icmp .gt 13, 3) := by decide +kernel
theorem d_RF_eraseNow_17 : decode prog_14_method_53_code 17 = .ok (.iload_n 2, 1) := by decide +kernel
theorem d_RF_eraseNow_18 : decode prog_14_method_53_code 18 = .ok (.aload_n 0, 1) := by decide +kernel
theorem d_RF_eraseNow_19 : decode prog_14_method_53_code 19 = .ok (.getfield 179, 3) := by decide +kernel
theorem d_RF_eraseNow_22 : decode prog_14_method_53_code 22 = .ok (.iload_n 1, 1) := by decide +kernel
theorem d_RF_eraseNow_23 : decode prog_14_method_53_code 23 = .ok (.isub, 1) := by decide +kernel
theorem d_RF_eraseNow_24 : decode prog_14_method_53_code 24 = .ok (.if_icmp .le 4, 3) := by decide +kernel
theorem d_RF_eraseNow_27 : decode prog_14_method_53_code 27 = .ok (.return_, 1) := by decide +kernel
theorem d_RF_eraseNow_28 : decode prog_14_method_53_code 28 = .ok (.iload_n 1, 1) := by decide +kernel
theorem d_RF_eraseNow_29 : decode prog_14_method_53_code 29 = .ok (.istore_n 3, 1) := by decide +kernel
theorem d_RF_eraseNow_30 : decode prog_14_method_53_code 30 = .ok (.iload_n 3, 1) := by decide +kernel
theorem d_RF_eraseNow_31 : decode prog_14_method_53_code 31 = .ok (.iload_n 2, 1) := by decide +kernel
theorem d_RF_eraseNow_32 : decode prog_14_method_53_code 32 = .ok (.iadd, 1) := by decide +kernel
theorem d_RF_eraseNow_33 : decode prog_14_method_53_code 33 = .ok (.aload_n 0, 1) := by decide +kernel
theorem d_RF_eraseNow_34 : decode prog_14_method_53_code 34 = .ok (.getfield 179, 3) := by decide +kernel
theorem d_RF_eraseNow_37 : decode prog_14_method_53_code 37 = .ok (.if_icmp .ge 23, 3) := by decide +kernel
theorem d_RF_eraseNow_40 : decode prog_14_method_53_code 40 = .ok (.aload_n 0, 1) := by decide +kernel
theorem d_RF_eraseNow_41 : decode prog_14_method_53_code 41 = .ok (.getfield 50, 3) := by decide +kernel
theorem d_RF_eraseNow_44 : decode prog_14_method_53_code 44 = .ok (.iload_n 3, 1) := by decide +kernel
theorem d_RF_eraseNow_45 : decode prog_14_method_53_code 45 = .ok (.aload_n 0, 1) := by decide +kernel
theorem d_RF_eraseNow_46 : decode prog_14_method_53_code 46 = .ok (.getfield 50, 3) := by decide +kernel
theorem d_RF_eraseNow_49 : decode prog_14_method_53_code 49 = .ok (.iload_n 3, 1) := by decide +kernel
theorem d_RF_eraseNow_50 : decode prog_14_method_53_code 50 = .ok (.iload_n 2, 1) := by decide +kernel
theorem d_RF_eraseNow_51 : decode prog_14_method_53_code 51 = .ok (.iadd, 1) := by decide +kernel
theorem d_RF_eraseNow_52 : decode prog_14_method_53_code 52 = .ok (.iaload, 1) := by decide +kernel
theorem d_RF_eraseNow_53 : decode prog_14_method_53_code 53 = .ok (.iastore, 1) := by decide +kernel
theorem d_RF_eraseNow_54 : decode prog_14_method_53_code 54 = .ok (.iinc 3 1, 3) := by decide +kernel
theorem d_RF_eraseNow_57 : decode prog_14_method_53_code 57 = .ok (.goto (-27), 3) := by decide +kernel
theorem d_RF_eraseNow_60 : decode prog_14_method_53_code 60 = .ok (.aload_n 0, 1) := by decide +kernel
theorem d_RF_eraseNow_61 : decode prog_14_method_53_code 61 = .ok (.aload_n 0, 1) := by decide +kernel
theorem d_RF_eraseNow_62 : decode prog_14_method_53_code 62 = .ok (.getfield 179, 3) := by decide +kernel
theorem d_RF_eraseNow_65 : decode prog_14_method_53_code 65 = .ok (.iload_n 2, 1) := by decide +kernel
theorem d_RF_eraseNow_66 : decode prog_14_method_53_code 66 = .ok (.isub, 1) := by decide +kernel
theorem d_RF_eraseNow_67 : decode prog_14_method_53_code 67 = .ok (.putfield 179, 3) := by decide +kernel
theorem d_RF_eraseNow_70 : decode prog_14_method_53_code 70 = .ok (.return_, 1) := by decide +kernel
theorem d_RF_respond_0 : decode prog_14_method_54_code 0 = .ok (.aload_n 0, 1) := by decide +kernel
theorem d_RF_respond_1 : decode prog_14_method_54_code 1 = .ok (.invokevirtual 277, 3) := by decide +kernel
theorem d_RF_respond_4 : decode prog_14_method_54_code 4 = .ok (.iload_n 1, 1) := by decide +kernel
theorem d_RF_respond_5 : decode prog_14_method_54_code 5 = .ok (.ifCond .ne 11, 3) := by decide +kernel
theorem d_RF_respond_8 : decode prog_14_method_54_code 8 = .ok (.aload_n 0, 1) := by decide +kernel
theorem d_RF_respond_9 : decode prog_14_method_54_code 9 = .ok (.iload_n 2, 1) := by decide +kernel
theorem d_RF_respond_10 : decode prog_14_method_54_code 10 = .ok (.invokevirtual 280, 3) := by decide +kernel
theorem d_RF_respond_13 : decode prog_14_method_54_code 13 = .ok (.goto 33, 3) := by decide +kernel
theorem d_RF_respond_16 : decode prog_14_method_54_code 16 = .ok (.iload_n 1, 1) := by decide +kernel
theorem d_RF_respond_17 : decode prog_14_method_54_code 17 = .ok (.iconst 1, 1) := by decide +kernel
theorem d_RF_respond_18 : decode prog_14_method_54_code 18 = .ok (.if_icmp .ne 10, 3) := by decide +kernel
theorem d_RF_respond_21 : decode prog_14_method_54_code 21 = .ok (.aload_n 0, 1) := by decide +kernel
theorem d_RF_respond_22 : decode prog_14_method_54_code 22 = .ok (.getfield 182, 3) := by decide +kernel
theorem d_RF_respond_25 : decode prog_14_method_54_code 25 = .ok (.goto 21, 3) := by decide +kernel
theorem d_RF_respond_28 : decode prog_14_method_54_code 28 = .ok (.iload_n 1, 1) := by decide +kernel
theorem d_RF_respond_29 : decode prog_14_method_54_code 29 = .ok (.iconst 2, 1) := by decide +kernel
theorem d_RF_respond_30 : decode prog_14_method_54_code 30 = .ok (.if_icmp .ne 12, 3) := by decide +kernel
theorem d_RF_respond_33 : decode prog_14_method_54_code 33 = .ok (.aload_n 0, 1) := by decide +kernel
theorem d_RF_respond_34 : decode prog_14_method_54_code 34 = .ok (.iload_n 2, 1) := by decide +kernel
theorem d_RF_respond_35 : decode prog_14_method_54_code 35 = .ok (.iload_n 3, 1) := by decide +kernel
theorem d_RF_respond_36 : decode prog_14_method_54_code 36 = .ok (.invokevirtual 283, 3) := by decide +kernel
theorem d_RF_respond_39 : decode prog_14_method_54_code 39 = .ok (.goto 7, 3) := by decide +kernel
theorem d_RF_respond_42 : decode prog_14_method_54_code 42 = .ok (.aload_n 0, 1) := by decide +kernel
theorem d_RF_respond_43 : decode prog_14_method_54_code 43 = .ok (.invokevirtual 286, 3) := by decide +kernel
theorem d_RF_respond_46 : decode prog_14_method_54_code 46 = .ok (.ireturn, 1) := by decide +kernel
theorem d_RF_analyse_0 : decode prog_14_method_30_code 0 = .ok (.aload_n 0, 1) := by decide +kernel
theorem d_RF_analyse_1 : decode prog_14_method_30_code 1 = .ok (.iconst 0, 1) := by decide +kernel
theorem d_RF_analyse_2 : decode prog_14_method_30_code 2 = .ok (.putfield 185, 3) := by decide +kernel
theorem d_RF_analyse_5 : decode prog_14_method_30_code 5 = .ok (.aload_n 0, 1) := by decide +kernel
theorem d_RF_analyse_6 : decode prog_14_method_30_code 6 = .ok (.iconst 0, 1) := by decide +kernel
theorem d_RF_analyse_7 : decode prog_14_method_30_code 7 = .ok (.putfield 182, 3) := by decide +kernel
theorem d_RF_analyse_10 : decode prog_14_method_30_code 10 = .ok (.iconst 0, 1) := by decide +kernel
theorem d_RF_analyse_11 : decode prog_14_method_30_code 11 = .ok (.istore_n 1, 1) := by decide +kernel
theorem d_RF_analyse_12 : decode prog_14_method_30_code 12 = .ok (.iload_n 1, 1) := by decide +kernel
theorem d_RF_analyse_13 : decode prog_14_method_30_code 13 = .ok (.bipush 100, 2) := by decide +kernel
theorem d_RF_analyse_15 : decode prog_14_method_30_code 15 = .ok (.if_icmp .gt 16, 3) := by decide +kernel
theorem d_RF_analyse_18 : decode prog_14_method_30_code 18 = .ok (.aload_n 0, 1) := by decide +kernel
theorem d_RF_analyse_19 : decode prog_14_method_30_code 19 = .ok (.getfield 80, 3) := by decide +kernel
theorem d_RF_analyse_22 : decode prog_14_method_30_code 22 = .ok (.iload_n 1, 1) := by decide +kernel
theorem d_RF_analyse_23 : decode prog_14_method_30_code 23 = .ok (.iconst (-1), 1) := by decide +kernel
theorem d_RF_analyse_24 : decode prog_14_method_30_code 24 = .ok (.iastore, 1) := by decide +kernel
theorem d_RF_analyse_25 : decode prog_14_method_30_code 25 = .ok (.iinc 1 1, 3) := by decide +kernel
theorem d_RF_analyse_28 : decode prog_14_method_30_code 28 = .ok (.goto (-16), 3) := by decide +kernel
theorem d_RF_analyse_31 : decode prog_14_method_30_code 31 = .ok (.aload_n 0, 1) := by decide +kernel
theorem d_RF_analyse_32 : decode prog_14_method_30_code 32 = .ok (.bipush 46, 2) := by decide +kernel
theorem d_RF_analyse_34 : decode prog_14_method_30_code 34 = .ok (.iconst (-1), 1) := by decide +kernel
theorem d_RF_analyse_35 : decode prog_14_method_30_code 35 = .ok (.iconst 0, 1) := by decide +kernel
theorem d_RF_analyse_36 : decode prog_14_method_30_code 36 = .ok (.iconst 0, 1) := by decide +kernel
theorem d_RF_analyse_37 : decode prog_14_method_30_code 37 = .ok (.invokevirtual 208, 3) := by decide +kernel
theorem d_RF_analyse_40 : decode prog_14_method_30_code 40 = .ok (.pop, 1) := by decide +kernel
theorem d_RF_analyse_41 : decode prog_14_method_30_code 41 = .ok (.iconst 0, 1) := by decide +kernel
theorem d_RF_analyse_42 : decode prog_14_method_30_code 42 = .ok (.istore_n 1, 1) := by decide +kernel
theorem d_RF_analyse_43 : decode prog_14_method_30_code 43 = .ok (.iload_n 1, 1) := by decide +kernel
theorem d_RF_analyse_44 : decode prog_14_method_30_code 44 = .ok (.aload_n 0, 1) := by decide +kernel
theorem d_RF_analyse_45 : decode prog_14_method_30_code 45 = .ok (.getfield 179, 3) := by decide +kernel
theorem d_RF_analyse_48 : decode prog_14_method_30_code 48 = .ok (.if_icmp .ge 240, 3) := by decide +kernel
theorem d_RF_analyse_51 : decode prog_14_method_30_code 51 = .ok (.aload_n 0, 1) := by decide +kernel
theorem d_RF_analyse_52 : decode prog_14_method_30_code 52 = .ok (.iload_n 1, 1) := by decide +kernel
theorem d_RF_analyse_53 : decode prog_14_method_30_code 53 = .ok (.invokevirtual 191, 3) := by decide +kernel
theorem d_RF_analyse_56 : decode prog_14_method_30_code 56 = .ok (.bipush 60, 2) := by decide +kernel
theorem d_RF_analyse_58 : decode prog_14_method_30_code 58 = .ok (.if_icmp .ne 7, 3) := by decide +kernel
theorem d_RF_analyse_61 : decode prog_14_method_30_code 61 = .ok (.iconst 1, 1) := by decide +kernel
theorem d_RF_analyse_62 : decode prog_14_method_30_code 62 = .ok (.goto 4, 3) := by decide +kernel
theorem d_RF_analyse_65 : decode prog_14_method_30_code 65 = .ok (.iconst 0, 1) := by decide +kernel
theorem d_RF_analyse_66 : decode prog_14_method_30_code 66 = .ok (.istore_n 2, 1) := by decide +kernel
theorem d_RF_analyse_67 : decode prog_14_method_30_code 67 = .ok (.iload_n 2, 1) := by decide +kernel
theorem d_RF_analyse_68 : decode prog_14_method_30_code 68 = .ok (.ifCond .eq 20, 3) := by decide +kernel
theorem d_RF_analyse_71 : decode prog_14_method_30_code 71 = .ok (.aload_n 0, 1) := by decide +kernel
theorem d_RF_analyse_72 : decode prog_14_method_30_code 72 = .ok (.iload_n 1, 1) := by decide +kernel
theorem d_RF_analyse_73 : decode prog_14_method_30_code 73 = .ok (.iconst 1, 1) := by decide +kernel
theorem d_RF_analyse_74 : decode prog_14_method_30_code 74 = .ok (.iadd, 1) := by decide +kernel
theorem d_RF_analyse_75 : decode prog_14_method_30_code 75 = .ok (.invokevirtual 191, 3) := by decide +kernel
theorem d_RF_analyse_78 : decode prog_14_method_30_code 78 = .ok (.invokestatic 127, 3) := by decide +kernel
theorem d_RF_analyse_81 : decode prog_14_method_30_code 81 = .ok (.ifCond .eq 7, 3) := by decide +kernel
theorem d_RF_analyse_84 : decode prog_14_method_30_code 84 = .ok (.iconst 1, 1) := by decide +kernel
theorem d_RF_analyse_85 : decode prog_14_method_30_code 85 = .ok (.goto 4, 3) := by decide +kernel
theorem d_RF_analyse_88 : decode prog_14_method_30_code 88 = .ok (.iconst 0, 1) := by decide +kernel
theorem d_RF_analyse_89 : decode prog_14_method_30_code 89 = .ok (.istore_n 3, 1) := by decide +kernel
theorem d_RF_analyse_90 : decode prog_14_method_30_code 90 = .ok (.iload_n 3, 1) := by decide +kernel
theorem d_RF_analyse_91 : decode prog_14_method_30_code 91 = .ok (.ifCond .eq 19, 3) := by decide +kernel
theorem d_RF_analyse_94 : decode prog_14_method_30_code 94 = .ok (.aload_n 0, 1) := by decide +kernel
theorem d_RF_analyse_95 : decode prog_14_method_30_code 95 = .ok (.iload_n 1, 1) := by decide +kernel
theorem d_RF_analyse_96 : decode prog_14_method_30_code 96 = .ok (.iconst 2, 1) := by decide +kernel
theorem d_RF_analyse_97 : decode prog_14_method_30_code 97 = .ok (.iadd, 1) := by decide +kernel
theorem d_RF_analyse_98 : decode prog_14_method_30_code 98 = .ok (.invokevirtual 191, 3) := by decide +kernel
theorem d_RF_analyse_101 : decode prog_14_method_30_code 101 = .ok (.bipush 62, 2) := by decide +kernel
theorem d_RF_analyse_103 : decode prog_14_method_30_code 103 = .ok (.if_icmp .ne 7, 3) := by decide +kernel
theorem d_RF_analyse_106 : decode prog_14_method_30_code 106 = .ok (.iconst 1, 1) := by decide +kernel
theorem d_RF_analyse_107 : decode prog_14_method_30_code 107 = .ok (.goto 4, 3) := by decide +kernel
theorem d_RF_analyse_110 : decode prog_14_method_30_code 110 = .ok (.iconst 0, 1) := by decide +kernel
theorem d_RF_analyse_111 : decode prog_14_method_30_code 111 = .ok (.istore 4, 2) := by decide +kernel
theorem d_RF_analyse_113 : decode prog_14_method_30_code 113 = .ok (.iload_n 3, 1) := by decide +kernel
theorem d_RF_analyse_114 : decode prog_14_method_30_code 114 = .ok (.ifCond .eq 31, 3) := by decide +kernel
theorem d_RF_analyse_117 : decode prog_14_method_30_code 117 = .ok (.aload_n 0, 1) := by decide +kernel
theorem d_RF_analyse_118 : decode prog_14_method_30_code 118 = .ok (.iload_n 1, 1) := by decide +kernel
theorem d_RF_analyse_119 : decode prog_14_method_30_code 119 = .ok (.iconst 2, 1) := by decide +kernel
theorem d_RF_analyse_120 : decode prog_14_method_30_code 120 = .ok (.iadd, 1) := by decide +kernel
theorem d_RF_analyse_121 : decode prog_14_method_30_code 121 = .ok (.invokevirtual 191, 3) := by decide +kernel
theorem d_RF_analyse_124 : decode prog_14_method_30_code 124 = .ok (.bipush 47, 2) := by decide +kernel
theorem d_RF_analyse_126 : decode prog_14_method_30_code 126 = .ok (.if_icmp .ne 19, 3) := by decide +kernel
theorem d_RF_analyse_129 : decode prog_14_method_30_code 129 = .ok (.aload_n 0, 1) := by decide +kernel
theorem d_RF_analyse_130 : decode prog_14_method_30_code 130 = .ok (.iload_n 1, 1) := by decide +kernel
theorem d_RF_analyse_131 : decode prog_14_method_30_code 131 = .ok (.iconst 3, 1) := by decide +kernel
theorem d_RF_analyse_132 : decode prog_14_method_30_code 132 = .ok (.iadd, 1) := by decide +kernel
theorem d_RF_analyse_133 : decode prog_14_method_30_code 133 = .ok (.invokevirtual 191, 3) := by decide +kernel
theorem d_RF_analyse_136 : decode prog_14_method_30_code 136 = .ok (.bipush 62, 2) := by decide +kernel
theorem d_RF_analyse_138 : decode prog_14_method_30_code 138 = .ok (.if_icmp .ne 7, 3) := by decide +kernel
theorem d_RF_analyse_141 : decode prog_14_method_30_code 141 = .ok (.iconst 1, 1) := by decide +kernel
theorem d_RF_analyse_142 : decode prog_14_method_30_code 142 = .ok (.goto 4, 3) := by decide +kernel
theorem d_RF_analyse_145 : decode prog_14_method_30_code 145 = .ok (.iconst 0, 1) := by decide +kernel
theorem d_RF_analyse_146 : decode prog_14_method_30_code 146 = .ok (.istore 5, 2) := by decide +kernel
theorem d_RF_analyse_148 : decode prog_14_method_30_code 148 = .ok (.iload_n 2, 1) := by decide +kernel
theorem d_RF_analyse_149 : decode prog_14_method_30_code 149 = .ok (.ifCond .eq 44, 3) := by decide +kernel
theorem d_RF_analyse_152 : decode prog_14_method_30_code 152 = .ok (.aload_n 0, 1) := by decide +kernel
theorem d_RF_analyse_153 : decode prog_14_method_30_code 153 = .ok (.iload_n 1, 1) := by decide +kernel
theorem d_RF_analyse_154 : decode prog_14_method_30_code 154 = .ok (.iconst 1, 1) := by decide +kernel
theorem d_RF_analyse_155 : decode prog_14_method_30_code 155 = .ok (.iadd, 1) := by decide +kernel
theorem d_RF_analyse_156 : decode prog_14_method_30_code 156 = .ok (.invokevirtual 191, 3) := by decide +kernel
theorem d_RF_analyse_159 : decode prog_14_method_30_code 159 = .ok (.bipush 47, 2) := by decide +kernel
theorem d_RF_analyse_161 : decode prog_14_method_30_code 161 = .ok (.if_icmp .ne 32, 3) := by decide +kernel
theorem d_RF_analyse_164 : decode prog_14_method_30_code 164 = .ok (.aload_n 0, 1) := by decide +kernel
theorem d_RF_analyse_165 : decode prog_14_method_30_code 165 = .ok (.iload_n 1, 1) := by decide +kernel
theorem d_RF_analyse_166 : decode prog_14_method_30_code 166 = .ok (.iconst 2, 1) := by decide +kernel
theorem d_RF_analyse_167 : decode prog_14_method_30_code 167 = .ok (.iadd, 1) := by decide +kernel
theorem d_RF_analyse_168 : decode prog_14_method_30_code 168 = .ok (.invokevirtual 191, 3) := by decide +kernel
theorem d_RF_analyse_171 : decode prog_14_method_30_code 171 = .ok (.invokestatic 127, 3) := by decide +kernel
theorem d_RF_analyse_174 : decode prog_14_method_30_code 174 = .ok (.ifCond .eq 19, 3) := by decide +kernel
theorem d_RF_analyse_177 : decode prog_14_method_30_code 177 = .ok (.aload_n 0, 1) := by decide +kernel
theorem d_RF_analyse_178 : decode prog_14_method_30_code 178 = .ok (.iload_n 1, 1) := by decide +kernel
theorem d_RF_analyse_179 : decode prog_14_method_30_code 179 = .ok (.iconst 3, 1) := by decide +kernel
theorem d_RF_analyse_180 : decode prog_14_method_30_code 180 = .ok (.iadd, 1) := by decide +kernel
theorem d_RF_analyse_181 : decode prog_14_method_30_code 181 = .ok (.invokevirtual 191, 3) := by decide +kernel
theorem d_RF_analyse_184 : decode prog_14_method_30_code 184 = .ok (.bipush 62, 2) := by decide +kernel
theorem d_RF_analyse_186 : decode prog_14_method_30_code 186 = .ok (.if_icmp .ne 7, 3) := by decide +kernel
theorem d_RF_analyse_189 : decode prog_14_method_30_code 189 = .ok (.iconst 1, 1) := by decide +kernel
theorem d_RF_analyse_190 : decode prog_14_method_30_code 190 = .ok (.goto 4, 3) := by decide +kernel
theorem d_RF_analyse_193 : decode prog_14_method_30_code 193 = .ok (.iconst 0, 1) := by decide +kernel
theorem d_RF_analyse_194 : decode prog_14_method_30_code 194 = .ok (.istore 6, 2) := by decide +kernel
theorem d_RF_analyse_196 : decode prog_14_method_30_code 196 = .ok (.iload 4, 2) := by decide +kernel
theorem d_RF_analyse_198 : decode prog_14_method_30_code 198 = .ok (.ifCond .eq 9, 3) := by decide +kernel
theorem d_RF_analyse_201 : decode prog_14_method_30_code 201 = .ok (.iload_n 1, 1) := by decide +kernel
theorem d_RF_analyse_202 : decode prog_14_method_30_code 202 = .ok (.iconst 3, 1) := by decide +kernel
theorem d_RF_analyse_203 : decode prog_14_method_30_code 203 = .ok (.iadd, 1) := by decide +kernel
theorem d_RF_analyse_204 : decode prog_14_method_30_code 204 = .ok (.goto 22, 3) := by decide +kernel
theorem d_RF_analyse_207 : decode prog_14_method_30_code 207 = .ok (.iload 5, 2) := by decide +kernel
theorem d_RF_analyse_209 : decode prog_14_method_30_code 209 = .ok (.ifCond .ne 8, 3) := by decide +kernel
theorem d_RF_analyse_212 : decode prog_14_method_30_code 212 = .ok (.iload 6, 2) := by decide +kernel
theorem d_RF_analyse_214 : decode prog_14_method_30_code 214 = .ok (.ifCond .eq 9, 3) := by decide +kernel
theorem d_RF_analyse_217 : decode prog_14_method_30_code 217 = .ok (.iload_n 1, 1) := by decide +kernel
theorem d_RF_analyse_218 : decode prog_14_method_30_code 218 = .ok (.iconst 4, 1) := by decide +kernel
theorem d_RF_analyse_219 : decode prog_14_method_30_code 219 = .ok (.iadd, 1) := by decide +kernel
theorem d_RF_analyse_220 : decode prog_14_method_30_code 220 = .ok (.goto 6, 3) := by decide +kernel
theorem d_RF_analyse_223 : decode prog_14_method_30_code 223 = .ok (.iload_n 1, 1) := by decide +kernel
theorem d_RF_analyse_224 : decode prog_14_method_30_code 224 = .ok (.iconst 1, 1) := by decide +kernel
theorem d_RF_analyse_225 : decode prog_14_method_30_code 225 = .ok (.iadd, 1) := by decide +kernel
theorem d_RF_analyse_226 : decode prog_14_method_30_code 226 = .ok (.istore 7, 2) := by decide +kernel
theorem d_RF_analyse_228 : decode prog_14_method_30_code 228 = .ok (.iload 7, 2) := by decide +kernel
theorem d_RF_analyse_230 : decode prog_14_method_30_code 230 = .ok (.iload_n 1, 1) := by decide +kernel
theorem d_RF_analyse_231 : decode prog_14_method_30_code 231 = .ok (.iconst 1, 1) := by decide +kernel
theorem d_RF_analyse_232 : decode prog_14_method_30_code 232 = .ok (.iadd, 1) := by decide +kernel
theorem d_RF_analyse_233 : decode prog_14_method_30_code 233 = .ok (.if_icmp .le 11, 3) := by decide +kernel
theorem d_RF_analyse_236 : decode prog_14_method_30_code 236 = .ok (.aload_n 0, 1) := by decide +kernel
theorem d_RF_analyse_237 : decode prog_14_method_30_code 237 = .ok (.iload_n 1, 1) := by decide +kernel
theorem d_RF_analyse_238 : decode prog_14_method_30_code 238 = .ok (.iload 7, 2) := by decide +kernel
theorem d_RF_analyse_240 : decode prog_14_method_30_code 240 = .ok (.iconst (-1), 1) := by decide +kernel
theorem d_RF_analyse_241 : decode prog_14_method_30_code 241 = .ok (.invokevirtual 197, 3) := by decide +kernel
theorem d_RF_analyse_244 : decode prog_14_method_30_code 244 = .ok (.iload 4, 2) := by decide +kernel
theorem d_RF_analyse_246 : decode prog_14_method_30_code 246 = .ok (.ifCond .ne 8, 3) := by decide +kernel
theorem d_RF_analyse_249 : decode prog_14_method_30_code 249 = .ok (.iload 5, 2) := by decide +kernel
theorem d_RF_analyse_251 : decode prog_14_method_30_code 251 = .ok (.ifCond .eq 13, 3) := by decide +kernel
theorem d_RF_analyse_254 : decode prog_14_method_30_code 254 = .ok (.aload_n 0, 1) := by decide +kernel
theorem d_RF_analyse_255 : decode prog_14_method_30_code 255 = .ok (.iload_n 1, 1) := by decide +kernel
theorem d_RF_analyse_256 : decode prog_14_method_30_code 256 = .ok (.iload 5, 2) := by decide +kernel
theorem d_RF_analyse_258 : decode prog_14_method_30_code 258 = .ok (.invokevirtual 212, 3) := by decide +kernel
theorem d_RF_analyse_261 : decode prog_14_method_30_code 261 = .ok (.goto 21, 3) := by decide +kernel
theorem d_RF_analyse_264 : decode prog_14_method_30_code 264 = .ok (.iload 6, 2) := by decide +kernel
theorem d_RF_analyse_266 : decode prog_14_method_30_code 266 = .ok (.ifCond .eq 11, 3) := by decide +kernel
theorem d_RF_analyse_269 : decode prog_14_method_30_code 269 = .ok (.aload_n 0, 1) := by decide +kernel
theorem d_RF_analyse_270 : decode prog_14_method_30_code 270 = .ok (.iload_n 1, 1) := by decide +kernel
theorem d_RF_analyse_271 : decode prog_14_method_30_code 271 = .ok (.invokevirtual 216, 3) := by decide +kernel
theorem d_RF_analyse_274 : decode prog_14_method_30_code 274 = .ok (.goto 8, 3) := by decide +kernel
theorem d_RF_analyse_277 : decode prog_14_method_30_code 277 = .ok (.aload_n 0, 1) := by decide +kernel
theorem d_RF_analyse_278 : decode prog_14_method_30_code 278 = .ok (.iload_n 1, 1) := by decide +kernel
theorem d_RF_analyse_279 : decode prog_14_method_30_code 279 = .ok (.invokevirtual 219, 3) := by decide +kernel
theorem d_RF_analyse_282 : decode prog_14_method_30_code 282 = .ok (.iload 7, 2) := by decide +kernel
theorem d_RF_analyse_284 : decode prog_14_method_30_code 284 = .ok (.istore_n 1, 1) := by decide +kernel
theorem d_RF_analyse_285 : decode prog_14_method_30_code 285 = .ok (.goto (-242), 3) := by decide +kernel
theorem d_RF_analyse_288 : decode prog_14_method_30_code 288 = .ok (.iconst 1, 1) := by decide +kernel
theorem d_RF_analyse_289 : decode prog_14_method_30_code 289 = .ok (.istore_n 2, 1) := by decide +kernel
theorem d_RF_analyse_290 : decode prog_14_method_30_code 290 = .ok (.iload_n 2, 1) := by decide +kernel
theorem d_RF_analyse_291 : decode prog_14_method_30_code 291 = .ok (.aload_n 0, 1) := by decide +kernel
theorem d_RF_analyse_292 : decode prog_14_method_30_code 292 = .ok (.getfield 185, 3) := by decide +kernel
theorem d_RF_analyse_295 : decode prog_14_method_30_code 295 = .ok (.if_icmp .ge 27, 3) := by decide +kernel
theorem d_RF_analyse_298 : decode prog_14_method_30_code 298 = .ok (.aload_n 0, 1) := by decide +kernel
theorem d_RF_analyse_299 : decode prog_14_method_30_code 299 = .ok (.getfield 77, 3) := by decide +kernel
theorem d_RF_analyse_302 : decode prog_14_method_30_code 302 = .ok (.iload_n 2, 1) := by decide +kernel
theorem d_RF_analyse_303 : decode prog_14_method_30_code 303 = .ok (.baload, 1) := by decide +kernel
theorem d_RF_analyse_304 : decode prog_14_method_30_code 304 = .ok (.ifCond .eq 12, 3) := by decide +kernel
theorem d_RF_analyse_307 : decode prog_14_method_30_code 307 = .ok (.aload_n 0, 1) := by decide +kernel
theorem d_RF_analyse_308 : decode prog_14_method_30_code 308 = .ok (.iload_n 2, 1) := by decide +kernel
theorem d_RF_analyse_309 : decode prog_14_method_30_code 309 = .ok (.aload_n 0, 1) := by decide +kernel
theorem d_RF_analyse_310 : decode prog_14_method_30_code 310 = .ok (.getfield 179, 3) := by decide +kernel
theorem d_RF_analyse_313 : decode prog_14_method_30_code 313 = .ok (.invokevirtual 194, 3) := by decide +kernel
theorem d_RF_analyse_316 : decode prog_14_method_30_code 316 = .ok (.iinc 2 1, 3) := by decide +kernel
theorem d_RF_analyse_319 : decode prog_14_method_30_code 319 = .ok (.goto (-29), 3) := by decide +kernel
theorem d_RF_analyse_322 : decode prog_14_method_30_code 322 = .ok (.aload_n 0, 1) := by decide +kernel
theorem d_RF_analyse_323 : decode prog_14_method_30_code 323 = .ok (.getfield 68, 3) := by decide +kernel
theorem d_RF_analyse_326 : decode prog_14_method_30_code 326 = .ok (.iconst 0, 1) := by decide +kernel
theorem d_RF_analyse_327 : decode prog_14_method_30_code 327 = .ok (.aload_n 0, 1) := by decide +kernel
theorem d_RF_analyse_328 : decode prog_14_method_30_code 328 = .ok (.getfield 179, 3) := by decide +kernel
theorem d_RF_analyse_331 : decode prog_14_method_30_code 331 = .ok (.iastore, 1) := by decide +kernel
theorem d_RF_analyse_332 : decode prog_14_method_30_code 332 = .ok (.aload_n 0, 1) := by decide +kernel
theorem d_RF_analyse_333 : decode prog_14_method_30_code 333 = .ok (.getfield 62, 3) := by decide +kernel
theorem d_RF_analyse_336 : decode prog_14_method_30_code 336 = .ok (.iconst 0, 1) := by decide +kernel
theorem d_RF_analyse_337 : decode prog_14_method_30_code 337 = .ok (.aload_n 0, 1) := by decide +kernel
theorem d_RF_analyse_338 : decode prog_14_method_30_code 338 = .ok (.getfield 179, 3) := by decide +kernel
theorem d_RF_analyse_341 : decode prog_14_method_30_code 341 = .ok (.iastore, 1) := by decide +kernel
theorem d_RF_analyse_342 : decode prog_14_method_30_code 342 = .ok (.iconst 0, 1) := by decide +kernel
theorem d_RF_analyse_343 : decode prog_14_method_30_code 343 = .ok (.istore_n 2, 1) := by decide +kernel
theorem d_RF_analyse_344 : decode prog_14_method_30_code 344 = .ok (.iload_n 2, 1) := by decide +kernel
theorem d_RF_analyse_345 : decode prog_14_method_30_code 345 = .ok (.aload_n 0, 1) := by decide +kernel
theorem d_RF_analyse_346 : decode prog_14_method_30_code 346 = .ok (.getfield 185, 3) := by decide +kernel
theorem d_RF_analyse_349 : decode prog_14_method_30_code 349 = .ok (.if_icmp .ge 14, 3) := by decide +kernel
theorem d_RF_analyse_352 : decode prog_14_method_30_code 352 = .ok (.aload_n 0, 1) := by decide +kernel
theorem d_RF_analyse_353 : decode prog_14_method_30_code 353 = .ok (.iload_n 2, 1) := by decide +kernel
theorem d_RF_analyse_354 : decode prog_14_method_30_code 354 = .ok (.invokevirtual 222, 3) := by decide +kernel
theorem d_RF_analyse_357 : decode prog_14_method_30_code 357 = .ok (.iinc 2 1, 3) := by decide +kernel
theorem d_RF_analyse_360 : decode prog_14_method_30_code 360 = .ok (.goto (-16), 3) := by decide +kernel
theorem d_RF_analyse_363 : decode prog_14_method_30_code 363 = .ok (.return_, 1) := by decide +kernel
theorem d_RF_newElement_0 : decode prog_14_method_23_code 0 = .ok (.aload_n 0, 1) := by decide +kernel
theorem d_RF_newElement_1 : decode prog_14_method_23_code 1 = .ok (.getfield 53, 3) := by decide +kernel
theorem d_RF_newElement_4 : decode prog_14_method_23_code 4 = .ok (.aload_n 0, 1) := by decide +kernel
theorem d_RF_newElement_5 : decode prog_14_method_23_code 5 = .ok (.getfield 185, 3) := by decide +kernel
theorem d_RF_newElement_8 : decode prog_14_method_23_code 8 = .ok (.iload_n 1, 1) := by decide +kernel
theorem d_RF_newElement_9 : decode prog_14_method_23_code 9 = .ok (.iastore, 1) := by decide +kernel
theorem d_RF_newElement_10 : decode prog_14_method_23_code 10 = .ok (.aload_n 0, 1) := by decide +kernel
theorem d_RF_newElement_11 : decode prog_14_method_23_code 11 = .ok (.getfield 56, 3) := by decide +kernel
theorem d_RF_newElement_14 : decode prog_14_method_23_code 14 = .ok (.aload_n 0, 1) := by decide +kernel
theorem d_RF_newElement_15 : decode prog_14_method_23_code 15 = .ok (.getfield 185, 3) := by decide +kernel
theorem d_RF_newElement_18 : decode prog_14_method_23_code 18 = .ok (.iload_n 2, 1) := by decide +kernel
theorem d_RF_newElement_19 : decode prog_14_method_23_code 19 = .ok (.iastore, 1) := by decide +kernel
theorem d_RF_newElement_20 : decode prog_14_method_23_code 20 = .ok (.aload_n 0, 1) := by decide +kernel
theorem d_RF_newElement_21 : decode prog_14_method_23_code 21 = .ok (.getfield 59, 3) := by decide +kernel
theorem d_RF_newElement_24 : decode prog_14_method_23_code 24 = .ok (.aload_n 0, 1) := by decide +kernel
theorem d_RF_newElement_25 : decode prog_14_method_23_code 25 = .ok (.getfield 185, 3) := by decide +kernel
theorem d_RF_newElement_28 : decode prog_14_method_23_code 28 = .ok (.iload_n 3, 1) := by decide +kernel
theorem d_RF_newElement_29 : decode prog_14_method_23_code 29 = .ok (.iastore, 1) := by decide +kernel
theorem d_RF_newElement_30 : decode prog_14_method_23_code 30 = .ok (.aload_n 0, 1) := by decide +kernel
theorem d_RF_newElement_31 : decode prog_14_method_23_code 31 = .ok (.getfield 65, 3) := by decide +kernel
theorem d_RF_newElement_34 : decode prog_14_method_23_code 34 = .ok (.aload_n 0, 1) := by decide +kernel
theorem d_RF_newElement_35 : decode prog_14_method_23_code 35 = .ok (.getfield 185, 3) := by decide +kernel
theorem d_RF_newElement_38 : decode prog_14_method_23_code 38 = .ok (.iload 4, 2) := by decide +kernel
theorem d_RF_newElement_40 : decode prog_14_method_23_code 40 = .ok (.iastore, 1) := by decide +kernel
theorem d_RF_newElement_41 : decode prog_14_method_23_code 41 = .ok (.aload_n 0, 1) := by decide +kernel
theorem d_RF_newElement_42 : decode prog_14_method_23_code 42 = .ok (.getfield 68, 3) := by decide +kernel
theorem d_RF_newElement_45 : decode prog_14_method_23_code 45 = .ok (.aload_n 0, 1) := by decide +kernel
theorem d_RF_newElement_46 : decode prog_14_method_23_code 46 = .ok (.getfield 185, 3) := by decide +kernel
theorem d_RF_newElement_49 : decode prog_14_method_23_code 49 = .ok (.iload 4, 2) := by decide +kernel
theorem d_RF_newElement_51 : decode prog_14_method_23_code 51 = .ok (.iastore, 1) := by decide +kernel
theorem d_RF_newElement_52 : decode prog_14_method_23_code 52 = .ok (.aload_n 0, 1) := by decide +kernel
theorem d_RF_newElement_53 : decode prog_14_method_23_code 53 = .ok (.getfield 62, 3) := by decide +kernel
theorem d_RF_newElement_56 : decode prog_14_method_23_code 56 = .ok (.aload_n 0, 1) := by decide +kernel
theorem d_RF_newElement_57 : decode prog_14_method_23_code 57 = .ok (.getfield 185, 3) := by decide +kernel
theorem d_RF_newElement_60 : decode prog_14_method_23_code 60 = .ok (.iload 4, 2) := by decide +kernel
theorem d_RF_newElement_62 : decode prog_14_method_23_code 62 = .ok (.iastore, 1) := by decide +kernel
theorem d_RF_newElement_63 : decode prog_14_method_23_code 63 = .ok (.aload_n 0, 1) := by decide +kernel
theorem d_RF_newElement_64 : decode prog_14_method_23_code 64 = .ok (.getfield 71, 3) := by decide +kernel
theorem d_RF_newElement_67 : decode prog_14_method_23_code 67 = .ok (.aload_n 0, 1) := by decide +kernel
theorem d_RF_newElement_68 : decode prog_14_method_23_code 68 = .ok (.getfield 185, 3) := by decide +kernel
theorem d_RF_newElement_71 : decode prog_14_method_23_code 71 = .ok (.iconst (-1), 1) := by decide +kernel
theorem d_RF_newElement_72 : decode prog_14_method_23_code 72 = .ok (.iastore, 1) := by decide +kernel
theorem d_RF_newElement_73 : decode prog_14_method_23_code 73 = .ok (.aload_n 0, 1) := by decide +kernel
theorem d_RF_newElement_74 : decode prog_14_method_23_code 74 = .ok (.getfield 74, 3) := by decide +kernel
theorem d_RF_newElement_77 : decode prog_14_method_23_code 77 = .ok (.aload_n 0, 1) := by decide +kernel
theorem d_RF_newElement_78 : decode prog_14_method_23_code 78 = .ok (.getfield 185, 3) := by decide +kernel
theorem d_RF_newElement_81 : decode prog_14_method_23_code 81 = .ok (.iconst (-1), 1) := by decide +kernel
theorem d_RF_newElement_82 : decode prog_14_method_23_code 82 = .ok (.iastore, 1) := by decide +kernel
theorem d_RF_newElement_83 : decode prog_14_method_23_code 83 = .ok (.aload_n 0, 1) := by decide +kernel
theorem d_RF_newElement_84 : decode prog_14_method_23_code 84 = .ok (.getfield 77, 3) := by decide +kernel
theorem d_RF_newElement_87 : decode prog_14_method_23_code 87 = .ok (.aload_n 0, 1) := by decide +kernel
theorem d_RF_newElement_88 : decode prog_14_method_23_code 88 = .ok (.getfield 185, 3) := by decide +kernel
theorem d_RF_newElement_91 : decode prog_14_method_23_code 91 = .ok (.iconst 1, 1) := by decide +kernel
theorem d_RF_newElement_92 : decode prog_14_method_23_code 92 = .ok (.bastore, 1) := by decide +kernel
theorem d_RF_newElement_93 : decode prog_14_method_23_code 93 = .ok (.aload_n 0, 1) := by decide +kernel
theorem d_RF_newElement_94 : decode prog_14_method_23_code 94 = .ok (.dup, 1) := by decide +kernel
theorem d_RF_newElement_95 : decode prog_14_method_23_code 95 = .ok (.getfield 185, 3) := by decide +kernel
theorem d_RF_newElement_98 : decode prog_14_method_23_code 98 = .ok (.iconst 1, 1) := by decide +kernel
theorem d_RF_newElement_99 : decode prog_14_method_23_code 99 = .ok (.iadd, 1) := by decide +kernel
theorem d_RF_newElement_100 : decode prog_14_method_23_code 100 = .ok (.putfield 185, 3) := by decide +kernel
theorem d_RF_newElement_103 : decode prog_14_method_23_code 103 = .ok (.aload_n 0, 1) := by decide +kernel
theorem d_RF_newElement_104 : decode prog_14_method_23_code 104 = .ok (.getfield 185, 3) := by decide +kernel
theorem d_RF_newElement_107 : decode prog_14_method_23_code 107 = .ok (.iconst 1, 1) := by decide +kernel
theorem d_RF_newElement_108 : decode prog_14_method_23_code 108 = .ok (.isub, 1) := by decide +kernel
theorem d_RF_newElement_109 : decode prog_14_method_23_code 109 = .ok (.ireturn, 1) := by decide +kernel
theorem d_RF_charAt_0 : decode prog_14_method_20_code 0 = .ok (.iload_n 1, 1) := by decide +kernel
theorem d_RF_charAt_1 : decode prog_14_method_20_code 1 = .ok (.ifCond .lt 20, 3) := by decide +kernel
theorem d_RF_charAt_4 : decode prog_14_method_20_code 4 = .ok (.iload_n 1, 1) := by decide +kernel
theorem d_RF_charAt_5 : decode prog_14_method_20_code 5 = .ok (.aload_n 0, 1) := by decide +kernel
theorem d_RF_charAt_6 : decode prog_14_method_20_code 6 = .ok (.getfield 179, 3) := by decide +kernel
theorem d_RF_charAt_9 : decode prog_14_method_20_code 9 = .ok (.if_icmp .ge 12, 3) := by decide +kernel
theorem d_RF_charAt_12 : decode prog_14_method_20_code 12 = .ok (.aload_n 0, 1) := by decide +kernel
theorem d_RF_charAt_13 : decode prog_14_method_20_code 13 = .ok (.getfield 50, 3) := by decide +kernel
theorem d_RF_charAt_16 : decode prog_14_method_20_code 16 = .ok (.iload_n 1, 1) := by decide +kernel
theorem d_RF_charAt_17 : decode prog_14_method_20_code 17 = .ok (.iaload, 1) := by decide +kernel
theorem d_RF_charAt_18 : decode prog_14_method_20_code 18 = .ok (.goto 4, 3) := by decide +kernel
theorem d_RF_charAt_21 : decode prog_14_method_20_code 21 = .ok (.iconst 0, 1) := by decide +kernel
theorem d_RF_charAt_22 : decode prog_14_method_20_code 22 = .ok (.ireturn, 1) := by decide +kernel
theorem d_RF_mark_0 : decode prog_14_method_22_code 0 = .ok (.iload_n 1, 1) := by decide +kernel
theorem d_RF_mark_1 : decode prog_14_method_22_code 1 = .ok (.istore 4, 2) := by decide +kernel
theorem d_RF_mark_3 : decode prog_14_method_22_code 3 = .ok (.iload 4, 2) := by decide +kernel
theorem d_RF_mark_5 : decode prog_14_method_22_code 5 = .ok (.iload_n 2, 1) := by decide +kernel
theorem d_RF_mark_6 : decode prog_14_method_22_code 6 = .ok (.if_icmp .ge 33, 3) := by decide +kernel
theorem d_RF_mark_9 : decode prog_14_method_22_code 9 = .ok (.aload_n 0, 1) := by decide +kernel
theorem d_RF_mark_10 : decode prog_14_method_22_code 10 = .ok (.getfield 80, 3) := by decide +kernel
theorem d_RF_mark_13 : decode prog_14_method_22_code 13 = .ok (.iload 4, 2) := by decide +kernel
theorem d_RF_mark_15 : decode prog_14_method_22_code 15 = .ok (.iload_n 1, 1) := by decide +kernel
theorem d_RF_mark_16 : decode prog_14_method_22_code 16 = .ok (.iastore, 1) := by decide +kernel
theorem d_RF_mark_17 : decode prog_14_method_22_code 17 = .ok (.aload_n 0, 1) := by decide +kernel
theorem d_RF_mark_18 : decode prog_14_method_22_code 18 = .ok (.getfield 83, 3) := by decide +kernel
theorem d_RF_mark_21 : decode prog_14_method_22_code 21 = .ok (.iload 4, 2) := by decide +kernel
theorem d_RF_mark_23 : decode prog_14_method_22_code 23 = .ok (.iload_n 2, 1) := by decide +kernel
theorem d_RF_mark_24 : decode prog_14_method_22_code 24 = .ok (.iastore, 1) := by decide +kernel
theorem d_RF_mark_25 : decode prog_14_method_22_code 25 = .ok (.aload_n 0, 1) := by decide +kernel
theorem d_RF_mark_26 : decode prog_14_method_22_code 26 = .ok (.getfield 86, 3) := by decide +kernel
theorem d_RF_mark_29 : decode prog_14_method_22_code 29 = .ok (.iload 4, 2) := by decide +kernel
theorem d_RF_mark_31 : decode prog_14_method_22_code 31 = .ok (.iload_n 3, 1) := by decide +kernel
theorem d_RF_mark_32 : decode prog_14_method_22_code 32 = .ok (.iastore, 1) := by decide +kernel
theorem d_RF_mark_33 : decode prog_14_method_22_code 33 = .ok (.iinc 4 1, 3) := by decide +kernel
theorem d_RF_mark_36 : decode prog_14_method_22_code 36 = .ok (.goto (-33), 3) := by decide +kernel
theorem d_RF_mark_39 : decode prog_14_method_22_code 39 = .ok (.return_, 1) := by decide +kernel
theorem d_RF_takeStart_0 : decode prog_14_method_28_code 0 = .ok (.iload_n 2, 1) := by decide +kernel
theorem d_RF_takeStart_1 : decode prog_14_method_28_code 1 = .ok (.ifCond .eq 9, 3) := by decide +kernel
theorem d_RF_takeStart_4 : decode prog_14_method_28_code 4 = .ok (.iload_n 1, 1) := by decide +kernel
theorem d_RF_takeStart_5 : decode prog_14_method_28_code 5 = .ok (.iconst 4, 1) := by decide +kernel
theorem d_RF_takeStart_6 : decode prog_14_method_28_code 6 = .ok (.iadd, 1) := by decide +kernel
theorem d_RF_takeStart_7 : decode prog_14_method_28_code 7 = .ok (.goto 6, 3) := by decide +kernel
theorem d_RF_takeStart_10 : decode prog_14_method_28_code 10 = .ok (.iload_n 1, 1) := by decide +kernel
theorem d_RF_takeStart_11 : decode prog_14_method_28_code 11 = .ok (.iconst 3, 1) := by decide +kernel
theorem d_RF_takeStart_12 : decode prog_14_method_28_code 12 = .ok (.iadd, 1) := by decide +kernel
theorem d_RF_takeStart_13 : decode prog_14_method_28_code 13 = .ok (.istore_n 3, 1) := by decide +kernel
theorem d_RF_takeStart_14 : decode prog_14_method_28_code 14 = .ok (.aload_n 0, 1) := by decide +kernel
theorem d_RF_takeStart_15 : decode prog_14_method_28_code 15 = .ok (.invokevirtual 201, 3) := by decide +kernel
theorem d_RF_takeStart_18 : decode prog_14_method_28_code 18 = .ok (.bipush 8, 2) := by decide +kernel
theorem d_RF_takeStart_20 : decode prog_14_method_28_code 20 = .ok (.if_icmp .ne 10, 3) := by decide +kernel
theorem d_RF_takeStart_23 : decode prog_14_method_28_code 23 = .ok (.aload_n 0, 1) := by decide +kernel
theorem d_RF_takeStart_24 : decode prog_14_method_28_code 24 = .ok (.iconst 2, 1) := by decide +kernel
theorem d_RF_takeStart_25 : decode prog_14_method_28_code 25 = .ok (.iload_n 1, 1) := by decide +kernel
theorem d_RF_takeStart_26 : decode prog_14_method_28_code 26 = .ok (.invokevirtual 188, 3) := by decide +kernel
theorem d_RF_takeStart_29 : decode prog_14_method_28_code 29 = .ok (.return_, 1) := by decide +kernel
theorem d_RF_takeStart_30 : decode prog_14_method_28_code 30 = .ok (.aload_n 0, 1) := by decide +kernel
theorem d_RF_takeStart_31 : decode prog_14_method_28_code 31 = .ok (.aload_n 0, 1) := by decide +kernel
theorem d_RF_takeStart_32 : decode prog_14_method_28_code 32 = .ok (.iload_n 1, 1) := by decide +kernel
theorem d_RF_takeStart_33 : decode prog_14_method_28_code 33 = .ok (.iconst 1, 1) := by decide +kernel
theorem d_RF_takeStart_34 : decode prog_14_method_28_code 34 = .ok (.iadd, 1) := by decide +kernel
theorem d_RF_takeStart_35 : decode prog_14_method_28_code 35 = .ok (.invokevirtual 191, 3) := by decide +kernel
theorem d_RF_takeStart_38 : decode prog_14_method_28_code 38 = .ok (.aload_n 0, 1) := by decide +kernel
theorem d_RF_takeStart_39 : decode prog_14_method_28_code 39 = .ok (.invokevirtual 205, 3) := by decide +kernel
theorem d_RF_takeStart_42 : decode prog_14_method_28_code 42 = .ok (.iload_n 1, 1) := by decide +kernel
theorem d_RF_takeStart_43 : decode prog_14_method_28_code 43 = .ok (.iload_n 3, 1) := by decide +kernel
theorem d_RF_takeStart_44 : decode prog_14_method_28_code 44 = .ok (.invokevirtual 208, 3) := by decide +kernel
theorem d_RF_takeStart_47 : decode prog_14_method_28_code 47 = .ok (.istore 4, 2) := by decide +kernel
theorem d_RF_takeStart_49 : decode prog_14_method_28_code 49 = .ok (.aload_n 0, 1) := by decide +kernel
theorem d_RF_takeStart_50 : decode prog_14_method_28_code 50 = .ok (.iload_n 1, 1) := by decide +kernel
theorem d_RF_takeStart_51 : decode prog_14_method_28_code 51 = .ok (.iload_n 3, 1) := by decide +kernel
theorem d_RF_takeStart_52 : decode prog_14_method_28_code 52 = .ok (.iload 4, 2) := by decide +kernel
theorem d_RF_takeStart_54 : decode prog_14_method_28_code 54 = .ok (.invokevirtual 197, 3) := by decide +kernel
theorem d_RF_takeStart_57 : decode prog_14_method_28_code 57 = .ok (.iload_n 2, 1) := by decide +kernel
theorem d_RF_takeStart_58 : decode prog_14_method_28_code 58 = .ok (.ifCond .ne 4, 3) := by decide +kernel
theorem d_RF_takeStart_61 : decode prog_14_method_28_code 61 = .ok (.return_, 1) := by decide +kernel
theorem d_RF_takeStart_62 : decode prog_14_method_28_code 62 = .ok (.aload_n 0, 1) := by decide +kernel
theorem d_RF_takeStart_63 : decode prog_14_method_28_code 63 = .ok (.getfield 77, 3) := by decide +kernel
theorem d_RF_takeStart_66 : decode prog_14_method_28_code 66 = .ok (.iload 4, 2) := by decide +kernel
theorem d_RF_takeStart_68 : decode prog_14_method_28_code 68 = .ok (.iconst 0, 1) := by decide +kernel
theorem d_RF_takeStart_69 : decode prog_14_method_28_code 69 = .ok (.bastore, 1) := by decide +kernel
theorem d_RF_takeStart_70 : decode prog_14_method_28_code 70 = .ok (.aload_n 0, 1) := by decide +kernel
theorem d_RF_takeStart_71 : decode prog_14_method_28_code 71 = .ok (.getfield 65, 3) := by decide +kernel
theorem d_RF_takeStart_74 : decode prog_14_method_28_code 74 = .ok (.iload 4, 2) := by decide +kernel
theorem d_RF_takeStart_76 : decode prog_14_method_28_code 76 = .ok (.iconst (-1), 1) := by decide +kernel
theorem d_RF_takeStart_77 : decode prog_14_method_28_code 77 = .ok (.iastore, 1) := by decide +kernel
theorem d_RF_takeStart_78 : decode prog_14_method_28_code 78 = .ok (.aload_n 0, 1) := by decide +kernel
theorem d_RF_takeStart_79 : decode prog_14_method_28_code 79 = .ok (.getfield 68, 3) := by decide +kernel
theorem d_RF_takeStart_82 : decode prog_14_method_28_code 82 = .ok (.iload 4, 2) := by decide +kernel
theorem d_RF_takeStart_84 : decode prog_14_method_28_code 84 = .ok (.iconst (-1), 1) := by decide +kernel
theorem d_RF_takeStart_85 : decode prog_14_method_28_code 85 = .ok (.iastore, 1) := by decide +kernel
theorem d_RF_takeStart_86 : decode prog_14_method_28_code 86 = .ok (.return_, 1) := by decide +kernel
theorem d_RF_openElements_0 : decode prog_14_method_25_code 0 = .ok (.iconst 0, 1) := by decide +kernel
theorem d_RF_openElements_1 : decode prog_14_method_25_code 1 = .ok (.istore_n 1, 1) := by decide +kernel
theorem d_RF_openElements_2 : decode prog_14_method_25_code 2 = .ok (.iconst 1, 1) := by decide +kernel
theorem d_RF_openElements_3 : decode prog_14_method_25_code 3 = .ok (.istore_n 2, 1) := by decide +kernel
theorem d_RF_openElements_4 : decode prog_14_method_25_code 4 = .ok (.iload_n 2, 1) := by decide +kernel
theorem d_RF_openElements_5 : decode prog_14_method_25_code 5 = .ok (.aload_n 0, 1) := by decide +kernel
theorem d_RF_openElements_6 : decode prog_14_method_25_code 6 = .ok (.getfield 185, 3) := by decide +kernel
theorem d_RF_openElements_9 : decode prog_14_method_25_code 9 = .ok (.if_icmp .ge 21, 3) := by decide +kernel
theorem d_RF_openElements_12 : decode prog_14_method_25_code 12 = .ok (.aload_n 0, 1) := by decide +kernel
theorem d_RF_openElements_13 : decode prog_14_method_25_code 13 = .ok (.getfield 77, 3) := by decide +kernel
theorem d_RF_openElements_16 : decode prog_14_method_25_code 16 = .ok (.iload_n 2, 1) := by decide +kernel
theorem d_RF_openElements_17 : decode prog_14_method_25_code 17 = .ok (.baload, 1) := by decide +kernel
theorem d_RF_openElements_18 : decode prog_14_method_25_code 18 = .ok (.ifCond .eq 6, 3) := by decide +kernel
theorem d_RF_openElements_21 : decode prog_14_method_25_code 21 = .ok (.iinc 1 1, 3) := by decide +kernel
theorem d_RF_openElements_24 : decode prog_14_method_25_code 24 = .ok (.iinc 2 1, 3) := by decide +kernel
theorem d_RF_openElements_27 : decode prog_14_method_25_code 27 = .ok (.goto (-23), 3) := by decide +kernel
theorem d_RF_openElements_30 : decode prog_14_method_25_code 30 = .ok (.iload_n 1, 1) := by decide +kernel
theorem d_RF_openElements_31 : decode prog_14_method_25_code 31 = .ok (.ireturn, 1) := by decide +kernel
theorem d_RF_addFault_0 : decode prog_14_method_21_code 0 = .ok (.aload_n 0, 1) := by decide +kernel
theorem d_RF_addFault_1 : decode prog_14_method_21_code 1 = .ok (.getfield 182, 3) := by decide +kernel
theorem d_RF_addFault_4 : decode prog_14_method_21_code 4 = .ok (.istore_n 3, 1) := by decide +kernel
theorem d_RF_addFault_5 : decode prog_14_method_21_code 5 = .ok (.iload_n 3, 1) := by decide +kernel
theorem d_RF_addFault_6 : decode prog_14_method_21_code 6 = .ok (.ifCond .le 73, 3) := by decide +kernel
theorem d_RF_addFault_9 : decode prog_14_method_21_code 9 = .ok (.aload_n 0, 1) := by decide +kernel
theorem d_RF_addFault_10 : decode prog_14_method_21_code 10 = .ok (.getfield 92, 3) := by decide +kernel
theorem d_RF_addFault_13 : decode prog_14_method_21_code 13 = .ok (.iload_n 3, 1) := by decide +kernel
theorem d_RF_addFault_14 : decode prog_14_method_21_code 14 = .ok (.iconst 1, 1) := by decide +kernel
theorem d_RF_addFault_15 : decode prog_14_method_21_code 15 = .ok (.isub, 1) := by decide +kernel
theorem d_RF_addFault_16 : decode prog_14_method_21_code 16 = .ok (.iaload, 1) := by decide +kernel
theorem d_RF_addFault_17 : decode prog_14_method_21_code 17 = .ok (.iload_n 2, 1) := by decide +kernel
theorem d_RF_addFault_18 : decode prog_14_method_21_code 18 = .ok (.if_icmp .gt 27, 3) := by decide +kernel
theorem d_RF_addFault_21 : decode prog_14_method_21_code 21 = .ok (.aload_n 0, 1) := by decide +kernel
theorem d_RF_addFault_22 : decode prog_14_method_21_code 22 = .ok (.getfield 92, 3) := by decide +kernel
theorem d_RF_addFault_25 : decode prog_14_method_21_code 25 = .ok (.iload_n 3, 1) := by decide +kernel
theorem d_RF_addFault_26 : decode prog_14_method_21_code 26 = .ok (.iconst 1, 1) := by decide +kernel
theorem d_RF_addFault_27 : decode prog_14_method_21_code 27 = .ok (.isub, 1) := by decide +kernel
theorem d_RF_addFault_28 : decode prog_14_method_21_code 28 = .ok (.iaload, 1) := by decide +kernel
theorem d_RF_addFault_29 : decode prog_14_method_21_code 29 = .ok (.iload_n 2, 1) := by decide +kernel
theorem d_RF_addFault_30 : decode prog_14_method_21_code 30 = .ok (.if_icmp .ne 49, 3) := by decide +kernel
theorem d_RF_addFault_33 : decode prog_14_method_21_code 33 = .ok (.aload_n 0, 1) := by decide +kernel
theorem d_RF_addFault_34 : decode prog_14_method_21_code 34 = .ok (.getfield 89, 3) := by decide +kernel
theorem d_RF_addFault_37 : decode prog_14_method_21_code 37 = .ok (.iload_n 3, 1) := by decide +kernel
theorem d_RF_addFault_38 : decode prog_14_method_21_code 38 = .ok (.iconst 1, 1) := by decide +kernel
theorem d_RF_addFault_39 : decode prog_14_method_21_code 39 = .ok (.isub, 1) := by decide +kernel
theorem d_RF_addFault_40 : decode prog_14_method_21_code 40 = .ok (.iaload, 1) := by decide +kernel
theorem d_RF_addFault_41 : decode prog_14_method_21_code 41 = .ok (.iload_n 1, 1) := by decide +kernel
theorem d_RF_addFault_42 : decode prog_14_method_21_code 42 = .ok (.if_icmp .le 37, 3) := by decide +kernel
theorem d_RF_addFault_45 : decode prog_14_method_21_code 45 = .ok (.aload_n 0, 1) := by decide +kernel
theorem d_RF_addFault_46 : decode prog_14_method_21_code 46 = .ok (.getfield 89, 3) := by decide +kernel
theorem d_RF_addFault_49 : decode prog_14_method_21_code 49 = .ok (.iload_n 3, 1) := by decide +kernel
theorem d_RF_addFault_50 : decode prog_14_method_21_code 50 = .ok (.aload_n 0, 1) := by decide +kernel
theorem d_RF_addFault_51 : decode prog_14_method_21_code 51 = .ok (.getfield 89, 3) := by decide +kernel
theorem d_RF_addFault_54 : decode prog_14_method_21_code 54 = .ok (.iload_n 3, 1) := by decide +kernel
theorem d_RF_addFault_55 : decode prog_14_method_21_code 55 = .ok (.iconst 1, 1) := by decide +kernel
theorem d_RF_addFault_56 : decode prog_14_method_21_code 56 = .ok (.isub, 1) := by decide +kernel
theorem d_RF_addFault_57 : decode prog_14_method_21_code 57 = .ok (.iaload, 1) := by decide +kernel
theorem d_RF_addFault_58 : decode prog_14_method_21_code 58 = .ok (.iastore, 1) := by decide +kernel
theorem d_RF_addFault_59 : decode prog_14_method_21_code 59 = .ok (.aload_n 0, 1) := by decide +kernel
theorem d_RF_addFault_60 : decode prog_14_method_21_code 60 = .ok (.getfield 92, 3) := by decide +kernel
theorem d_RF_addFault_63 : decode prog_14_method_21_code 63 = .ok (.iload_n 3, 1) := by decide +kernel
theorem d_RF_addFault_64 : decode prog_14_method_21_code 64 = .ok (.aload_n 0, 1) := by decide +kernel
theorem d_RF_addFault_65 : decode prog_14_method_21_code 65 = .ok (.getfield 92, 3) := by decide +kernel
theorem d_RF_addFault_68 : decode prog_14_method_21_code 68 = .ok (.iload_n 3, 1) := by decide +kernel
theorem d_RF_addFault_69 : decode prog_14_method_21_code 69 = .ok (.iconst 1, 1) := by decide +kernel
theorem d_RF_addFault_70 : decode prog_14_method_21_code 70 = .ok (.isub, 1) := by decide +kernel
theorem d_RF_addFault_71 : decode prog_14_method_21_code 71 = .ok (.iaload, 1) := by decide +kernel
theorem d_RF_addFault_72 : decode prog_14_method_21_code 72 = .ok (.iastore, 1) := by decide +kernel
theorem d_RF_addFault_73 : decode prog_14_method_21_code 73 = .ok (.iinc 3 (-1), 3) := by decide +kernel
theorem d_RF_addFault_76 : decode prog_14_method_21_code 76 = .ok (.goto (-71), 3) := by decide +kernel
theorem d_RF_addFault_79 : decode prog_14_method_21_code 79 = .ok (.aload_n 0, 1) := by decide +kernel
theorem d_RF_addFault_80 : decode prog_14_method_21_code 80 = .ok (.getfield 89, 3) := by decide +kernel
theorem d_RF_addFault_83 : decode prog_14_method_21_code 83 = .ok (.iload_n 3, 1) := by decide +kernel
theorem d_RF_addFault_84 : decode prog_14_method_21_code 84 = .ok (.iload_n 1, 1) := by decide +kernel
theorem d_RF_addFault_85 : decode prog_14_method_21_code 85 = .ok (.iastore, 1) := by decide +kernel
theorem d_RF_addFault_86 : decode prog_14_method_21_code 86 = .ok (.aload_n 0, 1) := by decide +kernel
theorem d_RF_addFault_87 : decode prog_14_method_21_code 87 = .ok (.getfield 92, 3) := by decide +kernel
theorem d_RF_addFault_90 : decode prog_14_method_21_code 90 = .ok (.iload_n 3, 1) := by decide +kernel
theorem d_RF_addFault_91 : decode prog_14_method_21_code 91 = .ok (.iload_n 2, 1) := by decide +kernel
theorem d_RF_addFault_92 : decode prog_14_method_21_code 92 = .ok (.iastore, 1) := by decide +kernel
theorem d_RF_addFault_93 : decode prog_14_method_21_code 93 = .ok (.aload_n 0, 1) := by decide +kernel
theorem d_RF_addFault_94 : decode prog_14_method_21_code 94 = .ok (.dup, 1) := by decide +kernel
theorem d_RF_addFault_95 : decode prog_14_method_21_code 95 = .ok (.getfield 182, 3) := by decide +kernel
theorem d_RF_addFault_98 : decode prog_14_method_21_code 98 = .ok (.iconst 1, 1) := by decide +kernel
theorem d_RF_addFault_99 : decode prog_14_method_21_code 99 = .ok (.iadd, 1) := by decide +kernel
theorem d_RF_addFault_100 : decode prog_14_method_21_code 100 = .ok (.putfield 182, 3) := by decide +kernel
theorem d_RF_addFault_103 : decode prog_14_method_21_code 103 = .ok (.return_, 1) := by decide +kernel
theorem d_RF_current_0 : decode prog_14_method_24_code 0 = .ok (.aload_n 0, 1) := by decide +kernel
theorem d_RF_current_1 : decode prog_14_method_24_code 1 = .ok (.getfield 185, 3) := by decide +kernel
theorem d_RF_current_4 : decode prog_14_method_24_code 4 = .ok (.iconst 1, 1) := by decide +kernel
theorem d_RF_current_5 : decode prog_14_method_24_code 5 = .ok (.isub, 1) := by decide +kernel
theorem d_RF_current_6 : decode prog_14_method_24_code 6 = .ok (.istore_n 1, 1) := by decide +kernel
theorem d_RF_current_7 : decode prog_14_method_24_code 7 = .ok (.iload_n 1, 1) := by decide +kernel
theorem d_RF_current_8 : decode prog_14_method_24_code 8 = .ok (.ifCond .le 18, 3) := by decide +kernel
theorem d_RF_current_11 : decode prog_14_method_24_code 11 = .ok (.aload_n 0, 1) := by decide +kernel
theorem d_RF_current_12 : decode prog_14_method_24_code 12 = .ok (.getfield 77, 3) := by decide +kernel
theorem d_RF_current_15 : decode prog_14_method_24_code 15 = .ok (.iload_n 1, 1) := by decide +kernel
theorem d_RF_current_16 : decode prog_14_method_24_code 16 = .ok (.baload, 1) := by decide +kernel
theorem d_RF_current_17 : decode prog_14_method_24_code 17 = .ok (.ifCond .ne 9, 3) := by decide +kernel
theorem d_RF_current_20 : decode prog_14_method_24_code 20 = .ok (.iinc 1 (-1), 3) := by decide +kernel
theorem d_RF_current_23 : decode prog_14_method_24_code 23 = .ok (.goto (-16), 3) := by decide +kernel
theorem d_RF_current_26 : decode prog_14_method_24_code 26 = .ok (.iload_n 1, 1) := by decide +kernel
theorem d_RF_current_27 : decode prog_14_method_24_code 27 = .ok (.ireturn, 1) := by decide +kernel
theorem d_RF_takeEnd_0 : decode prog_14_method_27_code 0 = .ok (.aload_n 0, 1) := by decide +kernel
theorem d_RF_takeEnd_1 : decode prog_14_method_27_code 1 = .ok (.getfield 185, 3) := by decide +kernel
theorem d_RF_takeEnd_4 : decode prog_14_method_27_code 4 = .ok (.iconst 1, 1) := by decide +kernel
theorem d_RF_takeEnd_5 : decode prog_14_method_27_code 5 = .ok (.isub, 1) := by decide +kernel
theorem d_RF_takeEnd_6 : decode prog_14_method_27_code 6 = .ok (.istore_n 2, 1) := by decide +kernel
theorem d_RF_takeEnd_7 : decode prog_14_method_27_code 7 = .ok (.iload_n 2, 1) := by decide +kernel
theorem d_RF_takeEnd_8 : decode prog_14_method_27_code 8 = .ok (.ifCond .le 34, 3) := by decide +kernel
theorem d_RF_takeEnd_11 : decode prog_14_method_27_code 11 = .ok (.aload_n 0, 1) := by decide +kernel
theorem d_RF_takeEnd_12 : decode prog_14_method_27_code 12 = .ok (.getfield 77, 3) := by decide +kernel
theorem d_RF_takeEnd_15 : decode prog_14_method_27_code 15 = .ok (.iload_n 2, 1) := by decide +kernel
theorem d_RF_takeEnd_16 : decode prog_14_method_27_code 16 = .ok (.baload, 1) := by decide +kernel
theorem d_RF_takeEnd_17 : decode prog_14_method_27_code 17 = .ok (.ifCond .eq 19, 3) := by decide +kernel
theorem d_RF_takeEnd_20 : decode prog_14_method_27_code 20 = .ok (.aload_n 0, 1) := by decide +kernel
theorem d_RF_takeEnd_21 : decode prog_14_method_27_code 21 = .ok (.getfield 53, 3) := by decide +kernel
theorem d_RF_takeEnd_24 : decode prog_14_method_27_code 24 = .ok (.iload_n 2, 1) := by decide +kernel
theorem d_RF_takeEnd_25 : decode prog_14_method_27_code 25 = .ok (.iaload, 1) := by decide +kernel
theorem d_RF_takeEnd_26 : decode prog_14_method_27_code 26 = .ok (.aload_n 0, 1) := by decide +kernel
theorem d_RF_takeEnd_27 : decode prog_14_method_27_code 27 = .ok (.iload_n 1, 1) := by decide +kernel
theorem d_RF_takeEnd_28 : decode prog_14_method_27_code 28 = .ok (.iconst 2, 1) := by decide +kernel
theorem d_RF_takeEnd_29 : decode prog_14_method_27_code 29 = .ok (.iadd, 1) := by decide +kernel
theorem d_RF_takeEnd_30 : decode prog_14_method_27_code 30 = .ok (.invokevirtual 191, 3) := by decide +kernel
theorem d_RF_takeEnd_33 : decode prog_14_method_27_code 33 = .ok (.if_icmp .eq 9, 3) := by decide +kernel
theorem d_RF_takeEnd_36 : decode prog_14_method_27_code 36 = .ok (.iinc 2 (-1), 3) := by decide +kernel
theorem d_RF_takeEnd_39 : decode prog_14_method_27_code 39 = .ok (.goto (-32), 3) := by decide +kernel
theorem d_RF_takeEnd_42 : decode prog_14_method_27_code 42 = .ok (.iload_n 2, 1) := by decide +kernel
theorem d_RF_takeEnd_43 : decode prog_14_method_27_code 43 = .ok (.ifCond .ne 10, 3) := by decide +kernel
theorem d_RF_takeEnd_46 : decode prog_14_method_27_code 46 = .ok (.aload_n 0, 1) := by decide +kernel
theorem d_RF_takeEnd_47 : decode prog_14_method_27_code 47 = .ok (.iconst 3, 1) := by decide +kernel
theorem d_RF_takeEnd_48 : decode prog_14_method_27_code 48 = .ok (.iload_n 1, 1) := by decide +kernel
theorem d_RF_takeEnd_49 : decode prog_14_method_27_code 49 = .ok (.invokevirtual 188, 3) := by decide +kernel
theorem d_RF_takeEnd_52 : decode prog_14_method_27_code 52 = .ok (.return_, 1) := by decide +kernel
theorem d_RF_takeEnd_53 : decode prog_14_method_27_code 53 = .ok (.iload_n 2, 1) := by decide +kernel
theorem d_RF_takeEnd_54 : decode prog_14_method_27_code 54 = .ok (.iconst 1, 1) := by decide +kernel
theorem d_RF_takeEnd_55 : decode prog_14_method_27_code 55 = .ok (.iadd, 1) := by decide +kernel
theorem d_RF_takeEnd_56 : decode prog_14_method_27_code 56 = .ok (.istore_n 3, 1) := by decide +kernel
theorem d_RF_takeEnd_57 : decode prog_14_method_27_code 57 = .ok (.iload_n 3, 1) := by decide +kernel
theorem d_RF_takeEnd_58 : decode prog_14_method_27_code 58 = .ok (.aload_n 0, 1) := by decide +kernel
theorem d_RF_takeEnd_59 : decode prog_14_method_27_code 59 = .ok (.getfield 185, 3) := by decide +kernel
theorem d_RF_takeEnd_62 : decode prog_14_method_27_code 62 = .ok (.if_icmp .ge 24, 3) := by decide +kernel
theorem d_RF_takeEnd_65 : decode prog_14_method_27_code 65 = .ok (.aload_n 0, 1) := by decide +kernel
theorem d_RF_takeEnd_66 : decode prog_14_method_27_code 66 = .ok (.getfield 77, 3) := by decide +kernel
theorem d_RF_takeEnd_69 : decode prog_14_method_27_code 69 = .ok (.iload_n 3, 1) := by decide +kernel
theorem d_RF_takeEnd_70 : decode prog_14_method_27_code 70 = .ok (.baload, 1) := by decide +kernel
theorem d_RF_takeEnd_71 : decode prog_14_method_27_code 71 = .ok (.ifCond .eq 9, 3) := by decide +kernel
theorem d_RF_takeEnd_74 : decode prog_14_method_27_code 74 = .ok (.aload_n 0, 1) := by decide +kernel
theorem d_RF_takeEnd_75 : decode prog_14_method_27_code 75 = .ok (.iload_n 3, 1) := by decide +kernel
theorem d_RF_takeEnd_76 : decode prog_14_method_27_code 76 = .ok (.iload_n 1, 1) := by decide +kernel
theorem d_RF_takeEnd_77 : decode prog_14_method_27_code 77 = .ok (.invokevirtual 194, 3) := by decide +kernel
theorem d_RF_takeEnd_80 : decode prog_14_method_27_code 80 = .ok (.iinc 3 1, 3) := by decide +kernel
theorem d_RF_takeEnd_83 : decode prog_14_method_27_code 83 = .ok (.goto (-26), 3) := by decide +kernel
theorem d_RF_takeEnd_86 : decode prog_14_method_27_code 86 = .ok (.aload_n 0, 1) := by decide +kernel
theorem d_RF_takeEnd_87 : decode prog_14_method_27_code 87 = .ok (.getfield 77, 3) := by decide +kernel
theorem d_RF_takeEnd_90 : decode prog_14_method_27_code 90 = .ok (.iload_n 2, 1) := by decide +kernel
theorem d_RF_takeEnd_91 : decode prog_14_method_27_code 91 = .ok (.iconst 0, 1) := by decide +kernel
theorem d_RF_takeEnd_92 : decode prog_14_method_27_code 92 = .ok (.bastore, 1) := by decide +kernel
theorem d_RF_takeEnd_93 : decode prog_14_method_27_code 93 = .ok (.aload_n 0, 1) := by decide +kernel
theorem d_RF_takeEnd_94 : decode prog_14_method_27_code 94 = .ok (.getfield 68, 3) := by decide +kernel
theorem d_RF_takeEnd_97 : decode prog_14_method_27_code 97 = .ok (.iload_n 2, 1) := by decide +kernel
theorem d_RF_takeEnd_98 : decode prog_14_method_27_code 98 = .ok (.iload_n 1, 1) := by decide +kernel
theorem d_RF_takeEnd_99 : decode prog_14_method_27_code 99 = .ok (.iastore, 1) := by decide +kernel
theorem d_RF_takeEnd_100 : decode prog_14_method_27_code 100 = .ok (.aload_n 0, 1) := by decide +kernel
theorem d_RF_takeEnd_101 : decode prog_14_method_27_code 101 = .ok (.getfield 62, 3) := by decide +kernel
theorem d_RF_takeEnd_104 : decode prog_14_method_27_code 104 = .ok (.iload_n 2, 1) := by decide +kernel
theorem d_RF_takeEnd_105 : decode prog_14_method_27_code 105 = .ok (.iload_n 1, 1) := by decide +kernel
theorem d_RF_takeEnd_106 : decode prog_14_method_27_code 106 = .ok (.iconst 4, 1) := by decide +kernel
theorem d_RF_takeEnd_107 : decode prog_14_method_27_code 107 = .ok (.iadd, 1) := by decide +kernel
theorem d_RF_takeEnd_108 : decode prog_14_method_27_code 108 = .ok (.iastore, 1) := by decide +kernel
theorem d_RF_takeEnd_109 : decode prog_14_method_27_code 109 = .ok (.aload_n 0, 1) := by decide +kernel
theorem d_RF_takeEnd_110 : decode prog_14_method_27_code 110 = .ok (.getfield 71, 3) := by decide +kernel
theorem d_RF_takeEnd_113 : decode prog_14_method_27_code 113 = .ok (.iload_n 2, 1) := by decide +kernel
theorem d_RF_takeEnd_114 : decode prog_14_method_27_code 114 = .ok (.iload_n 1, 1) := by decide +kernel
theorem d_RF_takeEnd_115 : decode prog_14_method_27_code 115 = .ok (.iastore, 1) := by decide +kernel
theorem d_RF_takeEnd_116 : decode prog_14_method_27_code 116 = .ok (.aload_n 0, 1) := by decide +kernel
theorem d_RF_takeEnd_117 : decode prog_14_method_27_code 117 = .ok (.iload_n 1, 1) := by decide +kernel
theorem d_RF_takeEnd_118 : decode prog_14_method_27_code 118 = .ok (.iload_n 1, 1) := by decide +kernel
theorem d_RF_takeEnd_119 : decode prog_14_method_27_code 119 = .ok (.iconst 4, 1) := by decide +kernel
theorem d_RF_takeEnd_120 : decode prog_14_method_27_code 120 = .ok (.iadd, 1) := by decide +kernel
theorem d_RF_takeEnd_121 : decode prog_14_method_27_code 121 = .ok (.iload_n 2, 1) := by decide +kernel
theorem d_RF_takeEnd_122 : decode prog_14_method_27_code 122 = .ok (.invokevirtual 197, 3) := by decide +kernel
theorem d_RF_takeEnd_125 : decode prog_14_method_27_code 125 = .ok (.return_, 1) := by decide +kernel
theorem d_RF_closeBare_0 : decode prog_14_method_26_code 0 = .ok (.aload_n 0, 1) := by decide +kernel
theorem d_RF_closeBare_1 : decode prog_14_method_26_code 1 = .ok (.getfield 77, 3) := by decide +kernel
theorem d_RF_closeBare_4 : decode prog_14_method_26_code 4 = .ok (.iload_n 1, 1) := by decide +kernel
theorem d_RF_closeBare_5 : decode prog_14_method_26_code 5 = .ok (.iconst 0, 1) := by decide +kernel
theorem d_RF_closeBare_6 : decode prog_14_method_26_code 6 = .ok (.bastore, 1) := by decide +kernel
theorem d_RF_closeBare_7 : decode prog_14_method_26_code 7 = .ok (.aload_n 0, 1) := by decide +kernel
theorem d_RF_closeBare_8 : decode prog_14_method_26_code 8 = .ok (.getfield 68, 3) := by decide +kernel
theorem d_RF_closeBare_11 : decode prog_14_method_26_code 11 = .ok (.iload_n 1, 1) := by decide +kernel
theorem d_RF_closeBare_12 : decode prog_14_method_26_code 12 = .ok (.iload_n 2, 1) := by decide +kernel
theorem d_RF_closeBare_13 : decode prog_14_method_26_code 13 = .ok (.iastore, 1) := by decide +kernel
theorem d_RF_closeBare_14 : decode prog_14_method_26_code 14 = .ok (.aload_n 0, 1) := by decide +kernel
theorem d_RF_closeBare_15 : decode prog_14_method_26_code 15 = .ok (.getfield 62, 3) := by decide +kernel
theorem d_RF_closeBare_18 : decode prog_14_method_26_code 18 = .ok (.iload_n 1, 1) := by decide +kernel
theorem d_RF_closeBare_19 : decode prog_14_method_26_code 19 = .ok (.iload_n 2, 1) := by decide +kernel
theorem d_RF_closeBare_20 : decode prog_14_method_26_code 20 = .ok (.iastore, 1) := by decide +kernel
theorem d_RF_closeBare_21 : decode prog_14_method_26_code 21 = .ok (.aload_n 0, 1) := by decide +kernel
theorem d_RF_closeBare_22 : decode prog_14_method_26_code 22 = .ok (.iconst 4, 1) := by decide +kernel
theorem d_RF_closeBare_23 : decode prog_14_method_26_code 23 = .ok (.aload_n 0, 1) := by decide +kernel
theorem d_RF_closeBare_24 : decode prog_14_method_26_code 24 = .ok (.getfield 59, 3) := by decide +kernel
theorem d_RF_closeBare_27 : decode prog_14_method_26_code 27 = .ok (.iload_n 1, 1) := by decide +kernel
theorem d_RF_closeBare_28 : decode prog_14_method_26_code 28 = .ok (.iaload, 1) := by decide +kernel
theorem d_RF_closeBare_29 : decode prog_14_method_26_code 29 = .ok (.invokevirtual 188, 3) := by decide +kernel
theorem d_RF_closeBare_32 : decode prog_14_method_26_code 32 = .ok (.return_, 1) := by decide +kernel
theorem d_RF_takeCharacter_0 : decode prog_14_method_29_code 0 = .ok (.aload_n 0, 1) := by decide +kernel
theorem d_RF_takeCharacter_1 : decode prog_14_method_29_code 1 = .ok (.iload_n 1, 1) := by decide +kernel
theorem d_RF_takeCharacter_2 : decode prog_14_method_29_code 2 = .ok (.invokevirtual 191, 3) := by decide +kernel
theorem d_RF_takeCharacter_5 : decode prog_14_method_29_code 5 = .ok (.istore_n 2, 1) := by decide +kernel
theorem d_RF_takeCharacter_6 : decode prog_14_method_29_code 6 = .ok (.aload_n 0, 1) := by decide +kernel
theorem d_RF_takeCharacter_7 : decode prog_14_method_29_code 7 = .ok (.invokevirtual 205, 3) := by decide +kernel
theorem d_RF_takeCharacter_10 : decode prog_14_method_29_code 10 = .ok (.istore_n 3, 1) := by decide +kernel
theorem d_RF_takeCharacter_11 : decode prog_14_method_29_code 11 = .ok (.iload_n 2, 1) := by decide +kernel
theorem d_RF_takeCharacter_12 : decode prog_14_method_29_code 12 = .ok (.bipush 60, 2) := by decide +kernel
theorem d_RF_takeCharacter_14 : decode prog_14_method_29_code 14 = .ok (.if_icmp .ne 9, 3) := by decide +kernel
theorem d_RF_takeCharacter_17 : decode prog_14_method_29_code 17 = .ok (.aload_n 0, 1) := by decide +kernel
theorem d_RF_takeCharacter_18 : decode prog_14_method_29_code 18 = .ok (.iconst 1, 1) := by decide +kernel
theorem d_RF_takeCharacter_19 : decode prog_14_method_29_code 19 = .ok (.iload_n 1, 1) := by decide +kernel
theorem d_RF_takeCharacter_20 : decode prog_14_method_29_code 20 = .ok (.invokevirtual 188, 3) := by decide +kernel
theorem d_RF_takeCharacter_23 : decode prog_14_method_29_code 23 = .ok (.iload_n 2, 1) := by decide +kernel
theorem d_RF_takeCharacter_24 : decode prog_14_method_29_code 24 = .ok (.bipush 32, 2) := by decide +kernel
theorem d_RF_takeCharacter_26 : decode prog_14_method_29_code 26 = .ok (.if_icmp .eq 19, 3) := by decide +kernel
theorem d_RF_takeCharacter_29 : decode prog_14_method_29_code 29 = .ok (.aload_n 0, 1) := by decide +kernel
theorem d_RF_takeCharacter_30 : decode prog_14_method_29_code 30 = .ok (.getfield 74, 3) := by decide +kernel
theorem d_RF_takeCharacter_33 : decode prog_14_method_29_code 33 = .ok (.iload_n 3, 1) := by decide +kernel
theorem d_RF_takeCharacter_34 : decode prog_14_method_29_code 34 = .ok (.iaload, 1) := by decide +kernel
theorem d_RF_takeCharacter_35 : decode prog_14_method_29_code 35 = .ok (.ifCond .ge 10, 3) := by decide +kernel
theorem d_RF_takeCharacter_38 : decode prog_14_method_29_code 38 = .ok (.aload_n 0, 1) := by decide +kernel
theorem d_RF_takeCharacter_39 : decode prog_14_method_29_code 39 = .ok (.getfield 74, 3) := by decide +kernel
theorem d_RF_takeCharacter_42 : decode prog_14_method_29_code 42 = .ok (.iload_n 3, 1) := by decide +kernel
theorem d_RF_takeCharacter_43 : decode prog_14_method_29_code 43 = .ok (.iload_n 1, 1) := by decide +kernel
theorem d_RF_takeCharacter_44 : decode prog_14_method_29_code 44 = .ok (.iastore, 1) := by decide +kernel
theorem d_RF_takeCharacter_45 : decode prog_14_method_29_code 45 = .ok (.return_, 1) := by decide +kernel
theorem d_RF_judge_0 : decode prog_14_method_33_code 0 = .ok (.aload_n 0, 1) := by decide +kernel
theorem d_RF_judge_1 : decode prog_14_method_33_code 1 = .ok (.iload_n 1, 1) := by decide +kernel
theorem d_RF_judge_2 : decode prog_14_method_33_code 2 = .ok (.invokevirtual 225, 3) := by decide +kernel
theorem d_RF_judge_5 : decode prog_14_method_33_code 5 = .ok (.istore_n 2, 1) := by decide +kernel
theorem d_RF_judge_6 : decode prog_14_method_33_code 6 = .ok (.aload_n 0, 1) := by decide +kernel
theorem d_RF_judge_7 : decode prog_14_method_33_code 7 = .ok (.getfield 13, 3) := by decide +kernel
theorem d_RF_judge_10 : decode prog_14_method_33_code 10 = .ok (.iload_n 2, 1) := by decide +kernel
theorem d_RF_judge_11 : decode prog_14_method_33_code 11 = .ok (.baload, 1) := by decide +kernel
theorem d_RF_judge_12 : decode prog_14_method_33_code 12 = .ok (.ifCond .ne 19, 3) := by decide +kernel
theorem d_RF_judge_15 : decode prog_14_method_33_code 15 = .ok (.iload_n 1, 1) := by decide +kernel
theorem d_RF_judge_16 : decode prog_14_method_33_code 16 = .ok (.ifCond .le 14, 3) := by decide +kernel
theorem d_RF_judge_19 : decode prog_14_method_33_code 19 = .ok (.aload_n 0, 1) := by decide +kernel
theorem d_RF_judge_20 : decode prog_14_method_33_code 20 = .ok (.iconst 5, 1) := by decide +kernel
theorem d_RF_judge_21 : decode prog_14_method_33_code 21 = .ok (.aload_n 0, 1) := by decide +kernel
theorem d_RF_judge_22 : decode prog_14_method_33_code 22 = .ok (.getfield 59, 3) := by decide +kernel
theorem d_RF_judge_25 : decode prog_14_method_33_code 25 = .ok (.iload_n 1, 1) := by decide +kernel
theorem d_RF_judge_26 : decode prog_14_method_33_code 26 = .ok (.iaload, 1) := by decide +kernel
theorem d_RF_judge_27 : decode prog_14_method_33_code 27 = .ok (.invokevirtual 188, 3) := by decide +kernel
theorem d_RF_judge_30 : decode prog_14_method_33_code 30 = .ok (.return_, 1) := by decide +kernel
theorem d_RF_judge_31 : decode prog_14_method_33_code 31 = .ok (.aload_n 0, 1) := by decide +kernel
theorem d_RF_judge_32 : decode prog_14_method_33_code 32 = .ok (.getfield 17, 3) := by decide +kernel
theorem d_RF_judge_35 : decode prog_14_method_33_code 35 = .ok (.iload_n 2, 1) := by decide +kernel
theorem d_RF_judge_36 : decode prog_14_method_33_code 36 = .ok (.baload, 1) := by decide +kernel
theorem d_RF_judge_37 : decode prog_14_method_33_code 37 = .ok (.ifCond .ne 24, 3) := by decide +kernel
theorem d_RF_judge_40 : decode prog_14_method_33_code 40 = .ok (.aload_n 0, 1) := by decide +kernel
theorem d_RF_judge_41 : decode prog_14_method_33_code 41 = .ok (.getfield 74, 3) := by decide +kernel
theorem d_RF_judge_44 : decode prog_14_method_33_code 44 = .ok (.iload_n 1, 1) := by decide +kernel
theorem d_RF_judge_45 : decode prog_14_method_33_code 45 = .ok (.iaload, 1) := by decide +kernel
theorem d_RF_judge_46 : decode prog_14_method_33_code 46 = .ok (.ifCond .lt 15, 3) := by decide +kernel
theorem d_RF_judge_49 : decode prog_14_method_33_code 49 = .ok (.aload_n 0, 1) := by decide +kernel
theorem d_RF_judge_50 : decode prog_14_method_33_code 50 = .ok (.bipush 6, 2) := by decide +kernel
theorem d_RF_judge_52 : decode prog_14_method_33_code 52 = .ok (.aload_n 0, 1) := by decide +kernel
theorem d_RF_judge_53 : decode prog_14_method_33_code 53 = .ok (.getfield 74, 3) := by decide +kernel
theorem d_RF_judge_56 : decode prog_14_method_33_code 56 = .ok (.iload_n 1, 1) := by decide +kernel
theorem d_RF_judge_57 : decode prog_14_method_33_code 57 = .ok (.iaload, 1) := by decide +kernel
theorem d_RF_judge_58 : decode prog_14_method_33_code 58 = .ok (.invokevirtual 188, 3) := by decide +kernel
theorem d_RF_judge_61 : decode prog_14_method_33_code 61 = .ok (.sipush 1024, 3) := by decide +kernel
theorem d_RF_judge_64 : decode prog_14_method_33_code 64 = .ok (.istore_n 3, 1) := by decide +kernel
theorem d_RF_judge_65 : decode prog_14_method_33_code 65 = .ok (.iconst 1, 1) := by decide +kernel
theorem d_RF_judge_66 : decode prog_14_method_33_code 66 = .ok (.istore 4, 2) := by decide +kernel
theorem d_RF_judge_68 : decode prog_14_method_33_code 68 = .ok (.iload 4, 2) := by decide +kernel
theorem d_RF_judge_70 : decode prog_14_method_33_code 70 = .ok (.aload_n 0, 1) := by decide +kernel
theorem d_RF_judge_71 : decode prog_14_method_33_code 71 = .ok (.getfield 185, 3) := by decide +kernel
theorem d_RF_judge_74 : decode prog_14_method_33_code 74 = .ok (.if_icmp .ge 39, 3) := by decide +kernel
theorem d_RF_judge_77 : decode prog_14_method_33_code 77 = .ok (.aload_n 0, 1) := by decide +kernel
theorem d_RF_judge_78 : decode prog_14_method_33_code 78 = .ok (.getfield 56, 3) := by decide +kernel
theorem d_RF_judge_81 : decode prog_14_method_33_code 81 = .ok (.iload 4, 2) := by decide +kernel
theorem d_RF_judge_83 : decode prog_14_method_33_code 83 = .ok (.iaload, 1) := by decide +kernel
theorem d_RF_judge_84 : decode prog_14_method_33_code 84 = .ok (.iload_n 1, 1) := by decide +kernel
theorem d_RF_judge_85 : decode prog_14_method_33_code 85 = .ok (.if_icmp .ne 22, 3) := by decide +kernel
theorem d_RF_judge_88 : decode prog_14_method_33_code 88 = .ok (.aload_n 0, 1) := by decide +kernel
theorem d_RF_judge_89 : decode prog_14_method_33_code 89 = .ok (.iload_n 2, 1) := by decide +kernel
theorem d_RF_judge_90 : decode prog_14_method_33_code 90 = .ok (.iload_n 3, 1) := by decide +kernel
theorem d_RF_judge_91 : decode prog_14_method_33_code 91 = .ok (.iconst 1, 1) := by decide +kernel
theorem d_RF_judge_92 : decode prog_14_method_33_code 92 = .ok (.aload_n 0, 1) := by decide +kernel
theorem d_RF_judge_93 : decode prog_14_method_33_code 93 = .ok (.getfield 53, 3) := by decide +kernel
theorem d_RF_judge_96 : decode prog_14_method_33_code 96 = .ok (.iload 4, 2) := by decide +kernel
theorem d_RF_judge_98 : decode prog_14_method_33_code 98 = .ok (.iaload, 1) := by decide +kernel
theorem d_RF_judge_99 : decode prog_14_method_33_code 99 = .ok (.bipush 97, 2) := by decide +kernel
theorem d_RF_judge_101 : decode prog_14_method_33_code 101 = .ok (.isub, 1) := by decide +kernel
theorem d_RF_judge_102 : decode prog_14_method_33_code 102 = .ok (.ishl, 1) := by decide +kernel
theorem d_RF_judge_103 : decode prog_14_method_33_code 103 = .ok (.invokevirtual 168, 3) := by decide +kernel
theorem d_RF_judge_106 : decode prog_14_method_33_code 106 = .ok (.istore_n 3, 1) := by decide +kernel
theorem d_RF_judge_107 : decode prog_14_method_33_code 107 = .ok (.iinc 4 1, 3) := by decide +kernel
theorem d_RF_judge_110 : decode prog_14_method_33_code 110 = .ok (.goto (-42), 3) := by decide +kernel
theorem d_RF_judge_113 : decode prog_14_method_33_code 113 = .ok (.aload_n 0, 1) := by decide +kernel
theorem d_RF_judge_114 : decode prog_14_method_33_code 114 = .ok (.iload_n 2, 1) := by decide +kernel
theorem d_RF_judge_115 : decode prog_14_method_33_code 115 = .ok (.iload_n 3, 1) := by decide +kernel
theorem d_RF_judge_116 : decode prog_14_method_33_code 116 = .ok (.invokevirtual 175, 3) := by decide +kernel
theorem d_RF_judge_119 : decode prog_14_method_33_code 119 = .ok (.ifCond .ne 15, 3) := by decide +kernel
theorem d_RF_judge_122 : decode prog_14_method_33_code 122 = .ok (.aload_n 0, 1) := by decide +kernel
theorem d_RF_judge_123 : decode prog_14_method_33_code 123 = .ok (.bipush 7, 2) := by decide +kernel
theorem d_RF_judge_125 : decode prog_14_method_33_code 125 = .ok (.aload_n 0, 1) := by decide +kernel
theorem d_RF_judge_126 : decode prog_14_method_33_code 126 = .ok (.getfield 59, 3) := by decide +kernel
theorem d_RF_judge_129 : decode prog_14_method_33_code 129 = .ok (.iload_n 1, 1) := by decide +kernel
theorem d_RF_judge_130 : decode prog_14_method_33_code 130 = .ok (.iaload, 1) := by decide +kernel
theorem d_RF_judge_131 : decode prog_14_method_33_code 131 = .ok (.invokevirtual 188, 3) := by decide +kernel
theorem d_RF_judge_134 : decode prog_14_method_33_code 134 = .ok (.return_, 1) := by decide +kernel
theorem d_RF_modelOf_0 : decode prog_14_method_31_code 0 = .ok (.iload_n 1, 1) := by decide +kernel
theorem d_RF_modelOf_1 : decode prog_14_method_31_code 1 = .ok (.ifCond .ne 8, 3) := by decide +kernel
theorem d_RF_modelOf_4 : decode prog_14_method_31_code 4 = .ok (.bipush 8, 2) := by decide +kernel
theorem d_RF_modelOf_6 : decode prog_14_method_31_code 6 = .ok (.goto 12, 3) := by decide +kernel
theorem d_RF_modelOf_9 : decode prog_14_method_31_code 9 = .ok (.aload_n 0, 1) := by decide +kernel
theorem d_RF_modelOf_10 : decode prog_14_method_31_code 10 = .ok (.getfield 53, 3) := by decide +kernel
theorem d_RF_modelOf_13 : decode prog_14_method_31_code 13 = .ok (.iload_n 1, 1) := by decide +kernel
theorem d_RF_modelOf_14 : decode prog_14_method_31_code 14 = .ok (.iaload, 1) := by decide +kernel
theorem d_RF_modelOf_15 : decode prog_14_method_31_code 15 = .ok (.bipush 97, 2) := by decide +kernel
theorem d_RF_modelOf_17 : decode prog_14_method_31_code 17 = .ok (.isub, 1) := by decide +kernel
theorem d_RF_modelOf_18 : decode prog_14_method_31_code 18 = .ok (.ireturn, 1) := by decide +kernel
theorem d_RF_offer_0 : decode prog_14_method_34_code 0 = .ok (.iload_n 1, 1) := by decide +kernel
theorem d_RF_offer_1 : decode prog_14_method_34_code 1 = .ok (.ifCond .lt 11, 3) := by decide +kernel
theorem d_RF_offer_4 : decode prog_14_method_34_code 4 = .ok (.iload_n 1, 1) := by decide +kernel
theorem d_RF_offer_5 : decode prog_14_method_34_code 5 = .ok (.aload_n 0, 1) := by decide +kernel
theorem d_RF_offer_6 : decode prog_14_method_34_code 6 = .ok (.getfield 179, 3) := by decide +kernel
theorem d_RF_offer_9 : decode prog_14_method_34_code 9 = .ok (.if_icmp .le 5, 3) := by decide +kernel
theorem d_RF_offer_12 : decode prog_14_method_34_code 12 = .ok (.iconst (-1), 1) := by decide +kernel
theorem d_RF_offer_13 : decode prog_14_method_34_code 13 = .ok (.ireturn, 1) := by decide +kernel
theorem d_RF_offer_14 : decode prog_14_method_34_code 14 = .ok (.iload_n 1, 1) := by decide +kernel
theorem d_RF_offer_15 : decode prog_14_method_34_code 15 = .ok (.aload_n 0, 1) := by decide +kernel
theorem d_RF_offer_16 : decode prog_14_method_34_code 16 = .ok (.getfield 179, 3) := by decide +kernel
theorem d_RF_offer_19 : decode prog_14_method_34_code 19 = .ok (.if_icmp .ge 24, 3) := by decide +kernel
theorem d_RF_offer_22 : decode prog_14_method_34_code 22 = .ok (.aload_n 0, 1) := by decide +kernel
theorem d_RF_offer_23 : decode prog_14_method_34_code 23 = .ok (.getfield 80, 3) := by decide +kernel
theorem d_RF_offer_26 : decode prog_14_method_34_code 26 = .ok (.iload_n 1, 1) := by decide +kernel
theorem d_RF_offer_27 : decode prog_14_method_34_code 27 = .ok (.iaload, 1) := by decide +kernel
theorem d_RF_offer_28 : decode prog_14_method_34_code 28 = .ok (.ifCond .lt 15, 3) := by decide +kernel
theorem d_RF_offer_31 : decode prog_14_method_34_code 31 = .ok (.aload_n 0, 1) := by decide +kernel
theorem d_RF_offer_32 : decode prog_14_method_34_code 32 = .ok (.getfield 80, 3) := by decide +kernel
theorem d_RF_offer_35 : decode prog_14_method_34_code 35 = .ok (.iload_n 1, 1) := by decide +kernel
theorem d_RF_offer_36 : decode prog_14_method_34_code 36 = .ok (.iaload, 1) := by decide +kernel
theorem d_RF_offer_37 : decode prog_14_method_34_code 37 = .ok (.iload_n 1, 1) := by decide +kernel
theorem d_RF_offer_38 : decode prog_14_method_34_code 38 = .ok (.if_icmp .ge 5, 3) := by decide +kernel
theorem d_RF_offer_41 : decode prog_14_method_34_code 41 = .ok (.iconst (-1), 1) := by decide +kernel
theorem d_RF_offer_42 : decode prog_14_method_34_code 42 = .ok (.ireturn, 1) := by decide +kernel
theorem d_RF_offer_43 : decode prog_14_method_34_code 43 = .ok (.aload_n 0, 1) := by decide +kernel
theorem d_RF_offer_44 : decode prog_14_method_34_code 44 = .ok (.getfield 185, 3) := by decide +kernel
theorem d_RF_offer_47 : decode prog_14_method_34_code 47 = .ok (.iconst 1, 1) := by decide +kernel
theorem d_RF_offer_48 : decode prog_14_method_34_code 48 = .ok (.isub, 1) := by decide +kernel
theorem d_RF_offer_49 : decode prog_14_method_34_code 49 = .ok (.istore_n 2, 1) := by decide +kernel
theorem d_RF_offer_50 : decode prog_14_method_34_code 50 = .ok (.iload_n 2, 1) := by decide +kernel
theorem d_RF_offer_51 : decode prog_14_method_34_code 51 = .ok (.ifCond .le 38, 3) := by decide +kernel
theorem d_RF_offer_54 : decode prog_14_method_34_code 54 = .ok (.aload_n 0, 1) := by decide +kernel
theorem d_RF_offer_55 : decode prog_14_method_34_code 55 = .ok (.getfield 65, 3) := by decide +kernel
theorem d_RF_offer_58 : decode prog_14_method_34_code 58 = .ok (.iload_n 2, 1) := by decide +kernel
theorem d_RF_offer_59 : decode prog_14_method_34_code 59 = .ok (.iaload, 1) := by decide +kernel
theorem d_RF_offer_60 : decode prog_14_method_34_code 60 = .ok (.ifCond .lt 23, 3) := by decide +kernel
theorem d_RF_offer_63 : decode prog_14_method_34_code 63 = .ok (.iload_n 1, 1) := by decide +kernel
theorem d_RF_offer_64 : decode prog_14_method_34_code 64 = .ok (.aload_n 0, 1) := by decide +kernel
theorem d_RF_offer_65 : decode prog_14_method_34_code 65 = .ok (.getfield 65, 3) := by decide +kernel
theorem d_RF_offer_68 : decode prog_14_method_34_code 68 = .ok (.iload_n 2, 1) := by decide +kernel
theorem d_RF_offer_69 : decode prog_14_method_34_code 69 = .ok (.iaload, 1) := by decide +kernel
theorem d_RF_offer_70 : decode prog_14_method_34_code 70 = .ok (.if_icmp .lt 13, 3) := by decide +kernel
theorem d_RF_offer_73 : decode prog_14_method_34_code 73 = .ok (.iload_n 1, 1) := by decide +kernel
theorem d_RF_offer_74 : decode prog_14_method_34_code 74 = .ok (.aload_n 0, 1) := by decide +kernel
theorem d_RF_offer_75 : decode prog_14_method_34_code 75 = .ok (.getfield 68, 3) := by decide +kernel
theorem d_RF_offer_78 : decode prog_14_method_34_code 78 = .ok (.iload_n 2, 1) := by decide +kernel
theorem d_RF_offer_79 : decode prog_14_method_34_code 79 = .ok (.iaload, 1) := by decide +kernel
theorem d_RF_offer_80 : decode prog_14_method_34_code 80 = .ok (.if_icmp .le 9, 3) := by decide +kernel
theorem d_RF_offer_83 : decode prog_14_method_34_code 83 = .ok (.iinc 2 (-1), 3) := by decide +kernel
theorem d_RF_offer_86 : decode prog_14_method_34_code 86 = .ok (.goto (-36), 3) := by decide +kernel
theorem d_RF_offer_89 : decode prog_14_method_34_code 89 = .ok (.aload_n 0, 1) := by decide +kernel
theorem d_RF_offer_90 : decode prog_14_method_34_code 90 = .ok (.iload_n 2, 1) := by decide +kernel
theorem d_RF_offer_91 : decode prog_14_method_34_code 91 = .ok (.invokevirtual 225, 3) := by decide +kernel
theorem d_RF_offer_94 : decode prog_14_method_34_code 94 = .ok (.istore_n 3, 1) := by decide +kernel
theorem d_RF_offer_95 : decode prog_14_method_34_code 95 = .ok (.aload_n 0, 1) := by decide +kernel
theorem d_RF_offer_96 : decode prog_14_method_34_code 96 = .ok (.getfield 13, 3) := by decide +kernel
theorem d_RF_offer_99 : decode prog_14_method_34_code 99 = .ok (.iload_n 3, 1) := by decide +kernel
theorem d_RF_offer_100 : decode prog_14_method_34_code 100 = .ok (.baload, 1) := by decide +kernel
theorem d_RF_offer_101 : decode prog_14_method_34_code 101 = .ok (.ifCond .ne 5, 3) := by decide +kernel
theorem d_RF_offer_104 : decode prog_14_method_34_code 104 = .ok (.iconst 0, 1) := by decide +kernel
theorem d_RF_offer_105 : decode prog_14_method_34_code 105 = .ok (.ireturn, 1) := by decide +kernel
theorem d_RF_offer_106 : decode prog_14_method_34_code 106 = .ok (.aload_n 0, 1) := by decide +kernel
theorem d_RF_offer_107 : decode prog_14_method_34_code 107 = .ok (.invokevirtual 228, 3) := by decide +kernel
theorem d_RF_offer_110 : decode prog_14_method_34_code 110 = .ok (.istore 4, 2) := by decide +kernel
theorem d_RF_offer_112 : decode prog_14_method_34_code 112 = .ok (.sipush 1024, 3) := by decide +kernel
theorem d_RF_offer_115 : decode prog_14_method_34_code 115 = .ok (.istore 5, 2) := by decide +kernel
theorem d_RF_offer_117 : decode prog_14_method_34_code 117 = .ok (.iconst 1, 1) := by decide +kernel
theorem d_RF_offer_118 : decode prog_14_method_34_code 118 = .ok (.istore 6, 2) := by decide +kernel
theorem d_RF_offer_120 : decode prog_14_method_34_code 120 = .ok (.iload 6, 2) := by decide +kernel
theorem d_RF_offer_122 : decode prog_14_method_34_code 122 = .ok (.aload_n 0, 1) := by decide +kernel
theorem d_RF_offer_123 : decode prog_14_method_34_code 123 = .ok (.getfield 185, 3) := by decide +kernel
theorem d_RF_offer_126 : decode prog_14_method_34_code 126 = .ok (.if_icmp .ge 52, 3) := by decide +kernel
theorem d_RF_offer_129 : decode prog_14_method_34_code 129 = .ok (.aload_n 0, 1) := by decide +kernel
theorem d_RF_offer_130 : decode prog_14_method_34_code 130 = .ok (.getfield 56, 3) := by decide +kernel
theorem d_RF_offer_133 : decode prog_14_method_34_code 133 = .ok (.iload 6, 2) := by decide +kernel
theorem d_RF_offer_135 : decode prog_14_method_34_code 135 = .ok (.iaload, 1) := by decide +kernel
theorem d_RF_offer_136 : decode prog_14_method_34_code 136 = .ok (.iload_n 2, 1) := by decide +kernel
theorem d_RF_offer_137 : decode prog_14_method_34_code 137 = .ok (.if_icmp .ne 35, 3) := by decide +kernel
theorem d_RF_offer_140 : decode prog_14_method_34_code 140 = .ok (.aload_n 0, 1) := by decide +kernel
theorem d_RF_offer_141 : decode prog_14_method_34_code 141 = .ok (.getfield 59, 3) := by decide +kernel
theorem d_RF_offer_144 : decode prog_14_method_34_code 144 = .ok (.iload 6, 2) := by decide +kernel
theorem d_RF_offer_146 : decode prog_14_method_34_code 146 = .ok (.iaload, 1) := by decide +kernel
theorem d_RF_offer_147 : decode prog_14_method_34_code 147 = .ok (.iload_n 1, 1) := by decide +kernel
theorem d_RF_offer_148 : decode prog_14_method_34_code 148 = .ok (.if_icmp .ge 24, 3) := by decide +kernel
theorem d_RF_offer_151 : decode prog_14_method_34_code 151 = .ok (.aload_n 0, 1) := by decide +kernel
theorem d_RF_offer_152 : decode prog_14_method_34_code 152 = .ok (.iload_n 3, 1) := by decide +kernel
theorem d_RF_offer_153 : decode prog_14_method_34_code 153 = .ok (.iload 5, 2) := by decide +kernel
theorem d_RF_offer_155 : decode prog_14_method_34_code 155 = .ok (.iconst 1, 1) := by decide +kernel
theorem d_RF_offer_156 : decode prog_14_method_34_code 156 = .ok (.aload_n 0, 1) := by decide +kernel
theorem d_RF_offer_157 : decode prog_14_method_34_code 157 = .ok (.getfield 53, 3) := by decide +kernel
theorem d_RF_offer_160 : decode prog_14_method_34_code 160 = .ok (.iload 6, 2) := by decide +kernel
theorem d_RF_offer_162 : decode prog_14_method_34_code 162 = .ok (.iaload, 1) := by decide +kernel
theorem d_RF_offer_163 : decode prog_14_method_34_code 163 = .ok (.bipush 97, 2) := by decide +kernel
theorem d_RF_offer_165 : decode prog_14_method_34_code 165 = .ok (.isub, 1) := by decide +kernel
theorem d_RF_offer_166 : decode prog_14_method_34_code 166 = .ok (.ishl, 1) := by decide +kernel
theorem d_RF_offer_167 : decode prog_14_method_34_code 167 = .ok (.invokevirtual 168, 3) := by decide +kernel
theorem d_RF_offer_170 : decode prog_14_method_34_code 170 = .ok (.istore 5, 2) := by decide +kernel
theorem d_RF_offer_172 : decode prog_14_method_34_code 172 = .ok (.iinc 6 1, 3) := by decide +kernel
theorem d_RF_offer_175 : decode prog_14_method_34_code 175 = .ok (.goto (-55), 3) := by decide +kernel
theorem d_RF_offer_178 : decode prog_14_method_34_code 178 = .ok (.iconst 0, 1) := by decide +kernel
theorem d_RF_offer_179 : decode prog_14_method_34_code 179 = .ok (.istore 6, 2) := by decide +kernel
theorem d_RF_offer_181 : decode prog_14_method_34_code 181 = .ok (.iconst 0, 1) := by decide +kernel
theorem d_RF_offer_182 : decode prog_14_method_34_code 182 = .ok (.istore 7, 2) := by decide +kernel
theorem d_RF_offer_184 : decode prog_14_method_34_code 184 = .ok (.iload 7, 2) := by decide +kernel
theorem d_RF_offer_186 : decode prog_14_method_34_code 186 = .ok (.bipush 8, 2) := by decide +kernel
theorem d_RF_offer_188 : decode prog_14_method_34_code 188 = .ok (.if_icmp .ge 123, 3) := by decide +kernel
theorem d_RF_offer_191 : decode prog_14_method_34_code 191 = .ok (.aload_n 0, 1) := by decide +kernel
theorem d_RF_offer_192 : decode prog_14_method_34_code 192 = .ok (.iload 4, 2) := by decide +kernel
theorem d_RF_offer_194 : decode prog_14_method_34_code 194 = .ok (.iload 7, 2) := by decide +kernel
theorem d_RF_offer_196 : decode prog_14_method_34_code 196 = .ok (.invokevirtual 231, 3) := by decide +kernel
theorem d_RF_offer_199 : decode prog_14_method_34_code 199 = .ok (.ifCond .ne 6, 3) := by decide +kernel
theorem d_RF_offer_202 : decode prog_14_method_34_code 202 = .ok (.goto 103, 3) := by decide +kernel
theorem d_RF_offer_205 : decode prog_14_method_34_code 205 = .ok (.aload_n 0, 1) := by decide +kernel
theorem d_RF_offer_206 : decode prog_14_method_34_code 206 = .ok (.iload_n 3, 1) := by decide +kernel
theorem d_RF_offer_207 : decode prog_14_method_34_code 207 = .ok (.aload_n 0, 1) := by decide +kernel
theorem d_RF_offer_208 : decode prog_14_method_34_code 208 = .ok (.iload_n 3, 1) := by decide +kernel
theorem d_RF_offer_209 : decode prog_14_method_34_code 209 = .ok (.iload 5, 2) := by decide +kernel
theorem d_RF_offer_211 : decode prog_14_method_34_code 211 = .ok (.iconst 1, 1) := by decide +kernel
theorem d_RF_offer_212 : decode prog_14_method_34_code 212 = .ok (.iload 7, 2) := by decide +kernel
theorem d_RF_offer_214 : decode prog_14_method_34_code 214 = .ok (.ishl, 1) := by decide +kernel
theorem d_RF_offer_215 : decode prog_14_method_34_code 215 = .ok (.invokevirtual 168, 3) := by decide +kernel
theorem d_RF_offer_218 : decode prog_14_method_34_code 218 = .ok (.iload 4, 2) := by decide +kernel
theorem d_RF_offer_220 : decode prog_14_method_34_code 220 = .ok (.invokevirtual 172, 3) := by decide +kernel
theorem d_RF_offer_223 : decode prog_14_method_34_code 223 = .ok (.istore 8, 2) := by decide +kernel
theorem d_RF_offer_225 : decode prog_14_method_34_code 225 = .ok (.iconst 1, 1) := by decide +kernel
theorem d_RF_offer_226 : decode prog_14_method_34_code 226 = .ok (.istore 9, 2) := by decide +kernel
theorem d_RF_offer_228 : decode prog_14_method_34_code 228 = .ok (.iload 9, 2) := by decide +kernel
theorem d_RF_offer_230 : decode prog_14_method_34_code 230 = .ok (.aload_n 0, 1) := by decide +kernel
theorem d_RF_offer_231 : decode prog_14_method_34_code 231 = .ok (.getfield 185, 3) := by decide +kernel
theorem d_RF_offer_234 : decode prog_14_method_34_code 234 = .ok (.if_icmp .ge 52, 3) := by decide +kernel
theorem d_RF_offer_237 : decode prog_14_method_34_code 237 = .ok (.aload_n 0, 1) := by decide +kernel
theorem d_RF_offer_238 : decode prog_14_method_34_code 238 = .ok (.getfield 56, 3) := by decide +kernel
theorem d_RF_offer_241 : decode prog_14_method_34_code 241 = .ok (.iload 9, 2) := by decide +kernel
theorem d_RF_offer_243 : decode prog_14_method_34_code 243 = .ok (.iaload, 1) := by decide +kernel
theorem d_RF_offer_244 : decode prog_14_method_34_code 244 = .ok (.iload_n 2, 1) := by decide +kernel
theorem d_RF_offer_245 : decode prog_14_method_34_code 245 = .ok (.if_icmp .ne 35, 3) := by decide +kernel
theorem d_RF_offer_248 : decode prog_14_method_34_code 248 = .ok (.aload_n 0, 1) := by decide +kernel
theorem d_RF_offer_249 : decode prog_14_method_34_code 249 = .ok (.getfield 59, 3) := by decide +kernel
theorem d_RF_offer_252 : decode prog_14_method_34_code 252 = .ok (.iload 9, 2) := by decide +kernel
theorem d_RF_offer_254 : decode prog_14_method_34_code 254 = .ok (.iaload, 1) := by decide +kernel
theorem d_RF_offer_255 : decode prog_14_method_34_code 255 = .ok (.iload_n 1, 1) := by decide +kernel
theorem d_RF_offer_256 : decode prog_14_method_34_code 256 = .ok (.if_icmp .lt 24, 3) := by decide +kernel
theorem d_RF_offer_259 : decode prog_14_method_34_code 259 = .ok (.aload_n 0, 1) := by decide +kernel
theorem d_RF_offer_260 : decode prog_14_method_34_code 260 = .ok (.iload_n 3, 1) := by decide +kernel
theorem d_RF_offer_261 : decode prog_14_method_34_code 261 = .ok (.iload 8, 2) := by decide +kernel
theorem d_RF_offer_263 : decode prog_14_method_34_code 263 = .ok (.iconst 1, 1) := by decide +kernel
theorem d_RF_offer_264 : decode prog_14_method_34_code 264 = .ok (.aload_n 0, 1) := by decide +kernel
theorem d_RF_offer_265 : decode prog_14_method_34_code 265 = .ok (.getfield 53, 3) := by decide +kernel
theorem d_RF_offer_268 : decode prog_14_method_34_code 268 = .ok (.iload 9, 2) := by decide +kernel
theorem d_RF_offer_270 : decode prog_14_method_34_code 270 = .ok (.iaload, 1) := by decide +kernel
theorem d_RF_offer_271 : decode prog_14_method_34_code 271 = .ok (.bipush 97, 2) := by decide +kernel
theorem d_RF_offer_273 : decode prog_14_method_34_code 273 = .ok (.isub, 1) := by decide +kernel
theorem d_RF_offer_274 : decode prog_14_method_34_code 274 = .ok (.ishl, 1) := by decide +kernel
theorem d_RF_offer_275 : decode prog_14_method_34_code 275 = .ok (.invokevirtual 168, 3) := by decide +kernel
theorem d_RF_offer_278 : decode prog_14_method_34_code 278 = .ok (.istore 8, 2) := by decide +kernel
theorem d_RF_offer_280 : decode prog_14_method_34_code 280 = .ok (.iinc 9 1, 3) := by decide +kernel
theorem d_RF_offer_283 : decode prog_14_method_34_code 283 = .ok (.goto (-55), 3) := by decide +kernel
theorem d_RF_offer_286 : decode prog_14_method_34_code 286 = .ok (.aload_n 0, 1) := by decide +kernel
theorem d_RF_offer_287 : decode prog_14_method_34_code 287 = .ok (.iload_n 3, 1) := by decide +kernel
theorem d_RF_offer_288 : decode prog_14_method_34_code 288 = .ok (.iload 8, 2) := by decide +kernel
theorem d_RF_offer_290 : decode prog_14_method_34_code 290 = .ok (.invokevirtual 175, 3) := by decide +kernel
theorem d_RF_offer_293 : decode prog_14_method_34_code 293 = .ok (.ifCond .eq 12, 3) := by decide +kernel
theorem d_RF_offer_296 : decode prog_14_method_34_code 296 = .ok (.iload 6, 2) := by decide +kernel
theorem d_RF_offer_298 : decode prog_14_method_34_code 298 = .ok (.iconst 1, 1) := by decide +kernel
theorem d_RF_offer_299 : decode prog_14_method_34_code 299 = .ok (.iload 7, 2) := by decide +kernel
theorem d_RF_offer_301 : decode prog_14_method_34_code 301 = .ok (.ishl, 1) := by decide +kernel
theorem d_RF_offer_302 : decode prog_14_method_34_code 302 = .ok (.ior, 1) := by decide +kernel
theorem d_RF_offer_303 : decode prog_14_method_34_code 303 = .ok (.istore 6, 2) := by decide +kernel
theorem d_RF_offer_305 : decode prog_14_method_34_code 305 = .ok (.iinc 7 1, 3) := by decide +kernel
theorem d_RF_offer_308 : decode prog_14_method_34_code 308 = .ok (.goto (-124), 3) := by decide +kernel
theorem d_RF_offer_311 : decode prog_14_method_34_code 311 = .ok (.iload 6, 2) := by decide +kernel
theorem d_RF_offer_313 : decode prog_14_method_34_code 313 = .ok (.ireturn, 1) := by decide +kernel
theorem d_RF_isBit_0 : decode prog_14_method_32_code 0 = .ok (.iload_n 1, 1) := by decide +kernel
theorem d_RF_isBit_1 : decode prog_14_method_32_code 1 = .ok (.iload_n 2, 1) := by decide +kernel
theorem d_RF_isBit_2 : decode prog_14_method_32_code 2 = .ok (.ishr, 1) := by decide +kernel
theorem d_RF_isBit_3 : decode prog_14_method_32_code 3 = .ok (.iconst 1, 1) := by decide +kernel
theorem d_RF_isBit_4 : decode prog_14_method_32_code 4 = .ok (.iand, 1) := by decide +kernel
theorem d_RF_isBit_5 : decode prog_14_method_32_code 5 = .ok (.iconst 1, 1) := by decide +kernel
theorem d_RF_isBit_6 : decode prog_14_method_32_code 6 = .ok (.if_icmp .ne 7, 3) := by decide +kernel
theorem d_RF_isBit_9 : decode prog_14_method_32_code 9 = .ok (.iconst 1, 1) := by decide +kernel
theorem d_RF_isBit_10 : decode prog_14_method_32_code 10 = .ok (.goto 4, 3) := by decide +kernel
theorem d_RF_isBit_13 : decode prog_14_method_32_code 13 = .ok (.iconst 0, 1) := by decide +kernel
theorem d_RF_isBit_14 : decode prog_14_method_32_code 14 = .ok (.ireturn, 1) := by decide +kernel
theorem d_RF_rename_0 : decode prog_14_method_35_code 0 = .ok (.iload_n 1, 1) := by decide +kernel
theorem d_RF_rename_1 : decode prog_14_method_35_code 1 = .ok (.ifCond .lt 18, 3) := by decide +kernel
theorem d_RF_rename_4 : decode prog_14_method_35_code 4 = .ok (.iload_n 1, 1) := by decide +kernel
theorem d_RF_rename_5 : decode prog_14_method_35_code 5 = .ok (.aload_n 0, 1) := by decide +kernel
theorem d_RF_rename_6 : decode prog_14_method_35_code 6 = .ok (.getfield 179, 3) := by decide +kernel
theorem d_RF_rename_9 : decode prog_14_method_35_code 9 = .ok (.if_icmp .ge 10, 3) := by decide +kernel
theorem d_RF_rename_12 : decode prog_14_method_35_code 12 = .ok (.iload_n 2, 1) := by decide +kernel
theorem d_RF_rename_13 : decode prog_14_method_35_code 13 = .ok (.invokestatic 127, 3) := by decide +kernel
theorem d_RF_rename_16 : decode prog_14_method_35_code 16 = .ok (.ifCond .ne 5, 3) := by decide +kernel
theorem d_RF_rename_19 : decode prog_14_method_35_code 19 = .ok (.iconst (-1), 1) := by decide +kernel
theorem d_RF_rename_20 : decode prog_14_method_35_code 20 = .ok (.ireturn, 1) := by decide +kernel
theorem d_RF_rename_21 : decode prog_14_method_35_code 21 = .ok (.aload_n 0, 1) := by decide +kernel
theorem d_RF_rename_22 : decode prog_14_method_35_code 22 = .ok (.getfield 80, 3) := by decide +kernel
theorem d_RF_rename_25 : decode prog_14_method_35_code 25 = .ok (.iload_n 1, 1) := by decide +kernel
theorem d_RF_rename_26 : decode prog_14_method_35_code 26 = .ok (.iaload, 1) := by decide +kernel
theorem d_RF_rename_27 : decode prog_14_method_35_code 27 = .ok (.ifCond .lt 12, 3) := by decide +kernel
theorem d_RF_rename_30 : decode prog_14_method_35_code 30 = .ok (.aload_n 0, 1) := by decide +kernel
theorem d_RF_rename_31 : decode prog_14_method_35_code 31 = .ok (.getfield 86, 3) := by decide +kernel
theorem d_RF_rename_34 : decode prog_14_method_35_code 34 = .ok (.iload_n 1, 1) := by decide +kernel
theorem d_RF_rename_35 : decode prog_14_method_35_code 35 = .ok (.iaload, 1) := by decide +kernel
theorem d_RF_rename_36 : decode prog_14_method_35_code 36 = .ok (.ifCond .ge 5, 3) := by decide +kernel
theorem d_RF_rename_39 : decode prog_14_method_35_code 39 = .ok (.iconst (-1), 1) := by decide +kernel
theorem d_RF_rename_40 : decode prog_14_method_35_code 40 = .ok (.ireturn, 1) := by decide +kernel
theorem d_RF_rename_41 : decode prog_14_method_35_code 41 = .ok (.aload_n 0, 1) := by decide +kernel
theorem d_RF_rename_42 : decode prog_14_method_35_code 42 = .ok (.getfield 86, 3) := by decide +kernel
theorem d_RF_rename_45 : decode prog_14_method_35_code 45 = .ok (.iload_n 1, 1) := by decide +kernel
theorem d_RF_rename_46 : decode prog_14_method_35_code 46 = .ok (.iaload, 1) := by decide +kernel
theorem d_RF_rename_47 : decode prog_14_method_35_code 47 = .ok (.istore_n 3, 1) := by decide +kernel
theorem d_RF_rename_48 : decode prog_14_method_35_code 48 = .ok (.aload_n 0, 1) := by decide +kernel
theorem d_RF_rename_49 : decode prog_14_method_35_code 49 = .ok (.getfield 50, 3) := by decide +kernel
theorem d_RF_rename_52 : decode prog_14_method_35_code 52 = .ok (.aload_n 0, 1) := by decide +kernel
theorem d_RF_rename_53 : decode prog_14_method_35_code 53 = .ok (.getfield 59, 3) := by decide +kernel
theorem d_RF_rename_56 : decode prog_14_method_35_code 56 = .ok (.iload_n 3, 1) := by decide +kernel
theorem d_RF_rename_57 : decode prog_14_method_35_code 57 = .ok (.iaload, 1) := by decide +kernel
theorem d_RF_rename_58 : decode prog_14_method_35_code 58 = .ok (.iconst 1, 1) := by decide +kernel
theorem d_RF_rename_59 : decode prog_14_method_35_code 59 = .ok (.iadd, 1) := by decide +kernel
theorem d_RF_rename_60 : decode prog_14_method_35_code 60 = .ok (.iload_n 2, 1) := by decide +kernel
theorem d_RF_rename_61 : decode prog_14_method_35_code 61 = .ok (.iastore, 1) := by decide +kernel
theorem d_RF_rename_62 : decode prog_14_method_35_code 62 = .ok (.aload_n 0, 1) := by decide +kernel
theorem d_RF_rename_63 : decode prog_14_method_35_code 63 = .ok (.getfield 71, 3) := by decide +kernel
theorem d_RF_rename_66 : decode prog_14_method_35_code 66 = .ok (.iload_n 3, 1) := by decide +kernel
theorem d_RF_rename_67 : decode prog_14_method_35_code 67 = .ok (.iaload, 1) := by decide +kernel
theorem d_RF_rename_68 : decode prog_14_method_35_code 68 = .ok (.ifCond .ge 5, 3) := by decide +kernel
theorem d_RF_rename_71 : decode prog_14_method_35_code 71 = .ok (.iconst 1, 1) := by decide +kernel
theorem d_RF_rename_72 : decode prog_14_method_35_code 72 = .ok (.ireturn, 1) := by decide +kernel
theorem d_RF_rename_73 : decode prog_14_method_35_code 73 = .ok (.aload_n 0, 1) := by decide +kernel
theorem d_RF_rename_74 : decode prog_14_method_35_code 74 = .ok (.getfield 50, 3) := by decide +kernel
theorem d_RF_rename_77 : decode prog_14_method_35_code 77 = .ok (.aload_n 0, 1) := by decide +kernel
theorem d_RF_rename_78 : decode prog_14_method_35_code 78 = .ok (.getfield 71, 3) := by decide +kernel
theorem d_RF_rename_81 : decode prog_14_method_35_code 81 = .ok (.iload_n 3, 1) := by decide +kernel
theorem d_RF_rename_82 : decode prog_14_method_35_code 82 = .ok (.iaload, 1) := by decide +kernel
theorem d_RF_rename_83 : decode prog_14_method_35_code 83 = .ok (.iconst 2, 1) := by decide +kernel
theorem d_RF_rename_84 : decode prog_14_method_35_code 84 = .ok (.iadd, 1) := by decide +kernel
theorem d_RF_rename_85 : decode prog_14_method_35_code 85 = .ok (.iload_n 2, 1) := by decide +kernel
theorem d_RF_rename_86 : decode prog_14_method_35_code 86 = .ok (.iastore, 1) := by decide +kernel
theorem d_RF_rename_87 : decode prog_14_method_35_code 87 = .ok (.iconst 2, 1) := by decide +kernel
theorem d_RF_rename_88 : decode prog_14_method_35_code 88 = .ok (.ireturn, 1) := by decide +kernel
theorem d_RF_makeForm_0 : decode prog_14_method_44_code 0 = .ok (.iconst 0, 1) := by decide +kernel
theorem d_RF_makeForm_1 : decode prog_14_method_44_code 1 = .ok (.istore_n 1, 1) := by decide +kernel
theorem d_RF_makeForm_2 : decode prog_14_method_44_code 2 = .ok (.iload_n 1, 1) := by decide +kernel
theorem d_RF_makeForm_3 : decode prog_14_method_44_code 3 = .ok (.aload_n 0, 1) := by decide +kernel
theorem d_RF_makeForm_4 : decode prog_14_method_44_code 4 = .ok (.getfield 182, 3) := by decide +kernel
theorem d_RF_makeForm_7 : decode prog_14_method_44_code 7 = .ok (.if_icmp .ge 21, 3) := by decide +kernel
theorem d_RF_makeForm_10 : decode prog_14_method_44_code 10 = .ok (.aload_n 0, 1) := by decide +kernel
theorem d_RF_makeForm_11 : decode prog_14_method_44_code 11 = .ok (.getfield 89, 3) := by decide +kernel
theorem d_RF_makeForm_14 : decode prog_14_method_44_code 14 = .ok (.iload_n 1, 1) := by decide +kernel
theorem d_RF_makeForm_15 : decode prog_14_method_44_code 15 = .ok (.iaload, 1) := by decide +kernel
theorem d_RF_makeForm_16 : decode prog_14_method_44_code 16 = .ok (.iconst 5, 1) := by decide +kernel
theorem d_RF_makeForm_17 : decode prog_14_method_44_code 17 = .ok (.if_icmp .ge 5, 3) := by decide +kernel
theorem d_RF_makeForm_20 : decode prog_14_method_44_code 20 = .ok (.iconst (-1), 1) := by decide +kernel
theorem d_RF_makeForm_21 : decode prog_14_method_44_code 21 = .ok (.ireturn, 1) := by decide +kernel
theorem d_RF_makeForm_22 : decode prog_14_method_44_code 22 = .ok (.iinc 1 1, 3) := by decide +kernel
theorem d_RF_makeForm_25 : decode prog_14_method_44_code 25 = .ok (.goto (-23), 3) := by decide +kernel
theorem d_RF_makeForm_28 : decode prog_14_method_44_code 28 = .ok (.aload_n 0, 1) := by decide +kernel
theorem d_RF_makeForm_29 : decode prog_14_method_44_code 29 = .ok (.iconst 0, 1) := by decide +kernel
theorem d_RF_makeForm_30 : decode prog_14_method_44_code 30 = .ok (.putfield 234, 3) := by decide +kernel
theorem d_RF_makeForm_33 : decode prog_14_method_44_code 33 = .ok (.aload_n 0, 1) := by decide +kernel
theorem d_RF_makeForm_34 : decode prog_14_method_44_code 34 = .ok (.iconst 0, 1) := by decide +kernel
theorem d_RF_makeForm_35 : decode prog_14_method_44_code 35 = .ok (.invokevirtual 240, 3) := by decide +kernel
theorem d_RF_makeForm_38 : decode prog_14_method_44_code 38 = .ok (.ifCond .ne 17, 3) := by decide +kernel
theorem d_RF_makeForm_41 : decode prog_14_method_44_code 41 = .ok (.aload_n 0, 1) := by decide +kernel
theorem d_RF_makeForm_42 : decode prog_14_method_44_code 42 = .ok (.iconst 0, 1) := by decide +kernel
theorem d_RF_makeForm_43 : decode prog_14_method_44_code 43 = .ok (.aload_n 0, 1) := by decide +kernel
theorem d_RF_makeForm_44 : decode prog_14_method_44_code 44 = .ok (.getfield 179, 3) := by decide +kernel
theorem d_RF_makeForm_47 : decode prog_14_method_44_code 47 = .ok (.invokevirtual 252, 3) := by decide +kernel
theorem d_RF_makeForm_50 : decode prog_14_method_44_code 50 = .ok (.aload_n 0, 1) := by decide +kernel
theorem d_RF_makeForm_51 : decode prog_14_method_44_code 51 = .ok (.getfield 234, 3) := by decide +kernel
theorem d_RF_makeForm_54 : decode prog_14_method_44_code 54 = .ok (.ireturn, 1) := by decide +kernel
theorem d_RF_makeForm_55 : decode prog_14_method_44_code 55 = .ok (.iconst 0, 1) := by decide +kernel
theorem d_RF_makeForm_56 : decode prog_14_method_44_code 56 = .ok (.istore_n 1, 1) := by decide +kernel
theorem d_RF_makeForm_57 : decode prog_14_method_44_code 57 = .ok (.iconst 1, 1) := by decide +kernel
theorem d_RF_makeForm_58 : decode prog_14_method_44_code 58 = .ok (.istore_n 2, 1) := by decide +kernel
theorem d_RF_makeForm_59 : decode prog_14_method_44_code 59 = .ok (.iload_n 2, 1) := by decide +kernel
theorem d_RF_makeForm_60 : decode prog_14_method_44_code 60 = .ok (.aload_n 0, 1) := by decide +kernel
theorem d_RF_makeForm_61 : decode prog_14_method_44_code 61 = .ok (.getfield 185, 3) := by decide +kernel
theorem d_RF_makeForm_64 : decode prog_14_method_44_code 64 = .ok (.if_icmp .ge 74, 3) := by decide +kernel
theorem d_RF_makeForm_67 : decode prog_14_method_44_code 67 = .ok (.aload_n 0, 1) := by decide +kernel
theorem d_RF_makeForm_68 : decode prog_14_method_44_code 68 = .ok (.iload_n 2, 1) := by decide +kernel
theorem d_RF_makeForm_69 : decode prog_14_method_44_code 69 = .ok (.invokevirtual 255, 3) := by decide +kernel
theorem d_RF_makeForm_72 : decode prog_14_method_44_code 72 = .ok (.ifCond .ne 6, 3) := by decide +kernel
theorem d_RF_makeForm_75 : decode prog_14_method_44_code 75 = .ok (.goto 57, 3) := by decide +kernel
theorem d_RF_makeForm_78 : decode prog_14_method_44_code 78 = .ok (.aload_n 0, 1) := by decide +kernel
theorem d_RF_makeForm_79 : decode prog_14_method_44_code 79 = .ok (.iload_n 1, 1) := by decide +kernel
theorem d_RF_makeForm_80 : decode prog_14_method_44_code 80 = .ok (.iload_n 2, 1) := by decide +kernel
theorem d_RF_makeForm_81 : decode prog_14_method_44_code 81 = .ok (.invokevirtual 258, 3) := by decide +kernel
theorem d_RF_makeForm_84 : decode prog_14_method_44_code 84 = .ok (.iload_n 1, 1) := by decide +kernel
theorem d_RF_makeForm_85 : decode prog_14_method_44_code 85 = .ok (.ifCond .le 12, 3) := by decide +kernel
theorem d_RF_makeForm_88 : decode prog_14_method_44_code 88 = .ok (.aload_n 0, 1) := by decide +kernel
theorem d_RF_makeForm_89 : decode prog_14_method_44_code 89 = .ok (.aload_n 0, 1) := by decide +kernel
theorem d_RF_makeForm_90 : decode prog_14_method_44_code 90 = .ok (.iload_n 2, 1) := by decide +kernel
theorem d_RF_makeForm_91 : decode prog_14_method_44_code 91 = .ok (.invokevirtual 246, 3) := by decide +kernel
theorem d_RF_makeForm_94 : decode prog_14_method_44_code 94 = .ok (.invokevirtual 249, 3) := by decide +kernel
theorem d_RF_makeForm_97 : decode prog_14_method_44_code 97 = .ok (.aload_n 0, 1) := by decide +kernel
theorem d_RF_makeForm_98 : decode prog_14_method_44_code 98 = .ok (.aload_n 0, 1) := by decide +kernel
theorem d_RF_makeForm_99 : decode prog_14_method_44_code 99 = .ok (.getfield 59, 3) := by decide +kernel
theorem d_RF_makeForm_102 : decode prog_14_method_44_code 102 = .ok (.iload_n 2, 1) := by decide +kernel
theorem d_RF_makeForm_103 : decode prog_14_method_44_code 103 = .ok (.iaload, 1) := by decide +kernel
theorem d_RF_makeForm_104 : decode prog_14_method_44_code 104 = .ok (.aload_n 0, 1) := by decide +kernel
theorem d_RF_makeForm_105 : decode prog_14_method_44_code 105 = .ok (.iload_n 2, 1) := by decide +kernel
theorem d_RF_makeForm_106 : decode prog_14_method_44_code 106 = .ok (.invokevirtual 240, 3) := by decide +kernel
theorem d_RF_makeForm_109 : decode prog_14_method_44_code 109 = .ok (.ifCond .eq 12, 3) := by decide +kernel
theorem d_RF_makeForm_112 : decode prog_14_method_44_code 112 = .ok (.aload_n 0, 1) := by decide +kernel
theorem d_RF_makeForm_113 : decode prog_14_method_44_code 113 = .ok (.getfield 65, 3) := by decide +kernel
theorem d_RF_makeForm_116 : decode prog_14_method_44_code 116 = .ok (.iload_n 2, 1) := by decide +kernel
theorem d_RF_makeForm_117 : decode prog_14_method_44_code 117 = .ok (.iaload, 1) := by decide +kernel
theorem d_RF_makeForm_118 : decode prog_14_method_44_code 118 = .ok (.goto 9, 3) := by decide +kernel
theorem d_RF_makeForm_121 : decode prog_14_method_44_code 121 = .ok (.aload_n 0, 1) := by decide +kernel
theorem d_RF_makeForm_122 : decode prog_14_method_44_code 122 = .ok (.getfield 62, 3) := by decide +kernel
theorem d_RF_makeForm_125 : decode prog_14_method_44_code 125 = .ok (.iload_n 2, 1) := by decide +kernel
theorem d_RF_makeForm_126 : decode prog_14_method_44_code 126 = .ok (.iaload, 1) := by decide +kernel
theorem d_RF_makeForm_127 : decode prog_14_method_44_code 127 = .ok (.invokevirtual 252, 3) := by decide +kernel
theorem d_RF_makeForm_130 : decode prog_14_method_44_code 130 = .ok (.iload_n 2, 1) := by decide +kernel
theorem d_RF_makeForm_131 : decode prog_14_method_44_code 131 = .ok (.istore_n 1, 1) := by decide +kernel
theorem d_RF_makeForm_132 : decode prog_14_method_44_code 132 = .ok (.iinc 2 1, 3) := by decide +kernel
theorem d_RF_makeForm_135 : decode prog_14_method_44_code 135 = .ok (.goto (-76), 3) := by decide +kernel
theorem d_RF_makeForm_138 : decode prog_14_method_44_code 138 = .ok (.aload_n 0, 1) := by decide +kernel
theorem d_RF_makeForm_139 : decode prog_14_method_44_code 139 = .ok (.iload_n 1, 1) := by decide +kernel
theorem d_RF_makeForm_140 : decode prog_14_method_44_code 140 = .ok (.aload_n 0, 1) := by decide +kernel
theorem d_RF_makeForm_141 : decode prog_14_method_44_code 141 = .ok (.getfield 185, 3) := by decide +kernel
theorem d_RF_makeForm_144 : decode prog_14_method_44_code 144 = .ok (.invokevirtual 258, 3) := by decide +kernel
theorem d_RF_makeForm_147 : decode prog_14_method_44_code 147 = .ok (.aload_n 0, 1) := by decide +kernel
theorem d_RF_makeForm_148 : decode prog_14_method_44_code 148 = .ok (.getfield 234, 3) := by decide +kernel
theorem d_RF_makeForm_151 : decode prog_14_method_44_code 151 = .ok (.ireturn, 1) := by decide +kernel
theorem d_RF_loose_0 : decode prog_14_method_36_code 0 = .ok (.aload_n 0, 1) := by decide +kernel
theorem d_RF_loose_1 : decode prog_14_method_36_code 1 = .ok (.iload_n 1, 1) := by decide +kernel
theorem d_RF_loose_2 : decode prog_14_method_36_code 2 = .ok (.invokevirtual 225, 3) := by decide +kernel
theorem d_RF_loose_5 : decode prog_14_method_36_code 5 = .ok (.istore_n 2, 1) := by decide +kernel
theorem d_RF_loose_6 : decode prog_14_method_36_code 6 = .ok (.iconst 0, 1) := by decide +kernel
theorem d_RF_loose_7 : decode prog_14_method_36_code 7 = .ok (.istore_n 3, 1) := by decide +kernel
theorem d_RF_loose_8 : decode prog_14_method_36_code 8 = .ok (.iconst 1, 1) := by decide +kernel
theorem d_RF_loose_9 : decode prog_14_method_36_code 9 = .ok (.istore 4, 2) := by decide +kernel
theorem d_RF_loose_11 : decode prog_14_method_36_code 11 = .ok (.iload 4, 2) := by decide +kernel
theorem d_RF_loose_13 : decode prog_14_method_36_code 13 = .ok (.aload_n 0, 1) := by decide +kernel
theorem d_RF_loose_14 : decode prog_14_method_36_code 14 = .ok (.getfield 185, 3) := by decide +kernel
theorem d_RF_loose_17 : decode prog_14_method_36_code 17 = .ok (.if_icmp .ge 30, 3) := by decide +kernel
theorem d_RF_loose_20 : decode prog_14_method_36_code 20 = .ok (.iload_n 3, 1) := by decide +kernel
theorem d_RF_loose_21 : decode prog_14_method_36_code 21 = .ok (.ifCond .ne 14, 3) := by decide +kernel
theorem d_RF_loose_24 : decode prog_14_method_36_code 24 = .ok (.aload_n 0, 1) := by decide +kernel
theorem d_RF_loose_25 : decode prog_14_method_36_code 25 = .ok (.getfield 56, 3) := by decide +kernel
theorem d_RF_loose_28 : decode prog_14_method_36_code 28 = .ok (.iload 4, 2) := by decide +kernel
theorem d_RF_loose_30 : decode prog_14_method_36_code 30 = .ok (.iaload, 1) := by decide +kernel
theorem d_RF_loose_31 : decode prog_14_method_36_code 31 = .ok (.iload_n 1, 1) := by decide +kernel
theorem d_RF_loose_32 : decode prog_14_method_36_code 32 = .ok (.if_icmp .ne 7, 3) := by decide +kernel
theorem d_RF_loose_35 : decode prog_14_method_36_code 35 = .ok (.iconst 1, 1) := by decide +kernel
theorem d_RF_loose_36 : decode prog_14_method_36_code 36 = .ok (.goto 4, 3) := by decide +kernel
theorem d_RF_loose_39 : decode prog_14_method_36_code 39 = .ok (.iconst 0, 1) := by decide +kernel
theorem d_RF_loose_40 : decode prog_14_method_36_code 40 = .ok (.istore_n 3, 1) := by decide +kernel
theorem d_RF_loose_41 : decode prog_14_method_36_code 41 = .ok (.iinc 4 1, 3) := by decide +kernel
theorem d_RF_loose_44 : decode prog_14_method_36_code 44 = .ok (.goto (-33), 3) := by decide +kernel
theorem d_RF_loose_47 : decode prog_14_method_36_code 47 = .ok (.aload_n 0, 1) := by decide +kernel
theorem d_RF_loose_48 : decode prog_14_method_36_code 48 = .ok (.getfield 13, 3) := by decide +kernel
theorem d_RF_loose_51 : decode prog_14_method_36_code 51 = .ok (.iload_n 2, 1) := by decide +kernel
theorem d_RF_loose_52 : decode prog_14_method_36_code 52 = .ok (.baload, 1) := by decide +kernel
theorem d_RF_loose_53 : decode prog_14_method_36_code 53 = .ok (.ifCond .eq 29, 3) := by decide +kernel
theorem d_RF_loose_56 : decode prog_14_method_36_code 56 = .ok (.aload_n 0, 1) := by decide +kernel
theorem d_RF_loose_57 : decode prog_14_method_36_code 57 = .ok (.getfield 17, 3) := by decide +kernel
theorem d_RF_loose_60 : decode prog_14_method_36_code 60 = .ok (.iload_n 2, 1) := by decide +kernel
theorem d_RF_loose_61 : decode prog_14_method_36_code 61 = .ok (.baload, 1) := by decide +kernel
theorem d_RF_loose_62 : decode prog_14_method_36_code 62 = .ok (.ifCond .ne 20, 3) := by decide +kernel
theorem d_RF_loose_65 : decode prog_14_method_36_code 65 = .ok (.iload_n 3, 1) := by decide +kernel
theorem d_RF_loose_66 : decode prog_14_method_36_code 66 = .ok (.ifCond .eq 16, 3) := by decide +kernel
theorem d_RF_loose_69 : decode prog_14_method_36_code 69 = .ok (.aload_n 0, 1) := by decide +kernel
theorem d_RF_loose_70 : decode prog_14_method_36_code 70 = .ok (.getfield 74, 3) := by decide +kernel
theorem d_RF_loose_73 : decode prog_14_method_36_code 73 = .ok (.iload_n 1, 1) := by decide +kernel
theorem d_RF_loose_74 : decode prog_14_method_36_code 74 = .ok (.iaload, 1) := by decide +kernel
theorem d_RF_loose_75 : decode prog_14_method_36_code 75 = .ok (.ifCond .ge 7, 3) := by decide +kernel
theorem d_RF_loose_78 : decode prog_14_method_36_code 78 = .ok (.iconst 1, 1) := by decide +kernel
theorem d_RF_loose_79 : decode prog_14_method_36_code 79 = .ok (.goto 4, 3) := by decide +kernel
theorem d_RF_loose_82 : decode prog_14_method_36_code 82 = .ok (.iconst 0, 1) := by decide +kernel
theorem d_RF_loose_83 : decode prog_14_method_36_code 83 = .ok (.ireturn, 1) := by decide +kernel
theorem d_RF_putText_0 : decode prog_14_method_39_code 0 = .ok (.iload_n 1, 1) := by decide +kernel
theorem d_RF_putText_1 : decode prog_14_method_39_code 1 = .ok (.istore_n 3, 1) := by decide +kernel
theorem d_RF_putText_2 : decode prog_14_method_39_code 2 = .ok (.iload_n 3, 1) := by decide +kernel
theorem d_RF_putText_3 : decode prog_14_method_39_code 3 = .ok (.iload_n 2, 1) := by decide +kernel
theorem d_RF_putText_4 : decode prog_14_method_39_code 4 = .ok (.if_icmp .ge 19, 3) := by decide +kernel
theorem d_RF_putText_7 : decode prog_14_method_39_code 7 = .ok (.aload_n 0, 1) := by decide +kernel
theorem d_RF_putText_8 : decode prog_14_method_39_code 8 = .ok (.aload_n 0, 1) := by decide +kernel
theorem d_RF_putText_9 : decode prog_14_method_39_code 9 = .ok (.getfield 50, 3) := by decide +kernel
theorem d_RF_putText_12 : decode prog_14_method_39_code 12 = .ok (.iload_n 3, 1) := by decide +kernel
theorem d_RF_putText_13 : decode prog_14_method_39_code 13 = .ok (.iaload, 1) := by decide +kernel
theorem d_RF_putText_14 : decode prog_14_method_39_code 14 = .ok (.invokevirtual 237, 3) := by decide +kernel
theorem d_RF_putText_17 : decode prog_14_method_39_code 17 = .ok (.iinc 3 1, 3) := by decide +kernel
theorem d_RF_putText_20 : decode prog_14_method_39_code 20 = .ok (.goto (-18), 3) := by decide +kernel
theorem d_RF_putText_23 : decode prog_14_method_39_code 23 = .ok (.return_, 1) := by decide +kernel
theorem d_RF_put_0 : decode prog_14_method_38_code 0 = .ok (.aload_n 0, 1) := by decide +kernel
theorem d_RF_put_1 : decode prog_14_method_38_code 1 = .ok (.getfield 116, 3) := by decide +kernel
theorem d_RF_put_4 : decode prog_14_method_38_code 4 = .ok (.aload_n 0, 1) := by decide +kernel
theorem d_RF_put_5 : decode prog_14_method_38_code 5 = .ok (.getfield 234, 3) := by decide +kernel
theorem d_RF_put_8 : decode prog_14_method_38_code 8 = .ok (.iload_n 1, 1) := by decide +kernel
theorem d_RF_put_9 : decode prog_14_method_38_code 9 = .ok (.iastore, 1) := by decide +kernel
theorem d_RF_put_10 : decode prog_14_method_38_code 10 = .ok (.aload_n 0, 1) := by decide +kernel
theorem d_RF_put_11 : decode prog_14_method_38_code 11 = .ok (.dup, 1) := by decide +kernel
theorem d_RF_put_12 : decode prog_14_method_38_code 12 = .ok (.getfield 234, 3) := by decide +kernel
theorem d_RF_put_15 : decode prog_14_method_38_code 15 = .ok (.iconst 1, 1) := by decide +kernel
theorem d_RF_put_16 : decode prog_14_method_38_code 16 = .ok (.iadd, 1) := by decide +kernel
theorem d_RF_put_17 : decode prog_14_method_38_code 17 = .ok (.putfield 234, 3) := by decide +kernel
theorem d_RF_put_20 : decode prog_14_method_38_code 20 = .ok (.return_, 1) := by decide +kernel
theorem d_RF_laid_0 : decode prog_14_method_41_code 0 = .ok (.iconst 1, 1) := by decide +kernel
theorem d_RF_laid_1 : decode prog_14_method_41_code 1 = .ok (.istore_n 2, 1) := by decide +kernel
theorem d_RF_laid_2 : decode prog_14_method_41_code 2 = .ok (.aload_n 0, 1) := by decide +kernel
theorem d_RF_laid_3 : decode prog_14_method_41_code 3 = .ok (.getfield 56, 3) := by decide +kernel
theorem d_RF_laid_6 : decode prog_14_method_41_code 6 = .ok (.iload_n 1, 1) := by decide +kernel
theorem d_RF_laid_7 : decode prog_14_method_41_code 7 = .ok (.iaload, 1) := by decide +kernel
theorem d_RF_laid_8 : decode prog_14_method_41_code 8 = .ok (.istore_n 3, 1) := by decide +kernel
theorem d_RF_laid_9 : decode prog_14_method_41_code 9 = .ok (.iload_n 3, 1) := by decide +kernel
theorem d_RF_laid_10 : decode prog_14_method_41_code 10 = .ok (.ifCond .lt 31, 3) := by decide +kernel
theorem d_RF_laid_13 : decode prog_14_method_41_code 13 = .ok (.iload_n 2, 1) := by decide +kernel
theorem d_RF_laid_14 : decode prog_14_method_41_code 14 = .ok (.ifCond .eq 15, 3) := by decide +kernel
theorem d_RF_laid_17 : decode prog_14_method_41_code 17 = .ok (.aload_n 0, 1) := by decide +kernel
theorem d_RF_laid_18 : decode prog_14_method_41_code 18 = .ok (.iload_n 3, 1) := by decide +kernel
theorem d_RF_laid_19 : decode prog_14_method_41_code 19 = .ok (.invokevirtual 240, 3) := by decide +kernel
theorem d_RF_laid_22 : decode prog_14_method_41_code 22 = .ok (.ifCond .eq 7, 3) := by decide +kernel
theorem d_RF_laid_25 : decode prog_14_method_41_code 25 = .ok (.iconst 1, 1) := by decide +kernel
theorem d_RF_laid_26 : decode prog_14_method_41_code 26 = .ok (.goto 4, 3) := by decide +kernel
theorem d_RF_laid_29 : decode prog_14_method_41_code 29 = .ok (.iconst 0, 1) := by decide +kernel
theorem d_RF_laid_30 : decode prog_14_method_41_code 30 = .ok (.istore_n 2, 1) := by decide +kernel
theorem d_RF_laid_31 : decode prog_14_method_41_code 31 = .ok (.aload_n 0, 1) := by decide +kernel
theorem d_RF_laid_32 : decode prog_14_method_41_code 32 = .ok (.getfield 56, 3) := by decide +kernel
theorem d_RF_laid_35 : decode prog_14_method_41_code 35 = .ok (.iload_n 3, 1) := by decide +kernel
theorem d_RF_laid_36 : decode prog_14_method_41_code 36 = .ok (.iaload, 1) := by decide +kernel
theorem d_RF_laid_37 : decode prog_14_method_41_code 37 = .ok (.istore_n 3, 1) := by decide +kernel
theorem d_RF_laid_38 : decode prog_14_method_41_code 38 = .ok (.goto (-29), 3) := by decide +kernel
theorem d_RF_laid_41 : decode prog_14_method_41_code 41 = .ok (.iload_n 2, 1) := by decide +kernel
theorem d_RF_laid_42 : decode prog_14_method_41_code 42 = .ok (.ireturn, 1) := by decide +kernel
theorem d_RF_endLines_0 : decode prog_14_method_43_code 0 = .ok (.iload_n 1, 1) := by decide +kernel
theorem d_RF_endLines_1 : decode prog_14_method_43_code 1 = .ok (.istore_n 3, 1) := by decide +kernel
theorem d_RF_endLines_2 : decode prog_14_method_43_code 2 = .ok (.iload_n 3, 1) := by decide +kernel
theorem d_RF_endLines_3 : decode prog_14_method_43_code 3 = .ok (.ifCond .le 63, 3) := by decide +kernel
theorem d_RF_endLines_6 : decode prog_14_method_43_code 6 = .ok (.iload_n 2, 1) := by decide +kernel
theorem d_RF_endLines_7 : decode prog_14_method_43_code 7 = .ok (.aload_n 0, 1) := by decide +kernel
theorem d_RF_endLines_8 : decode prog_14_method_43_code 8 = .ok (.getfield 185, 3) := by decide +kernel
theorem d_RF_endLines_11 : decode prog_14_method_43_code 11 = .ok (.if_icmp .ge 12, 3) := by decide +kernel
theorem d_RF_endLines_14 : decode prog_14_method_43_code 14 = .ok (.aload_n 0, 1) := by decide +kernel
theorem d_RF_endLines_15 : decode prog_14_method_43_code 15 = .ok (.iload_n 2, 1) := by decide +kernel
theorem d_RF_endLines_16 : decode prog_14_method_43_code 16 = .ok (.iload_n 3, 1) := by decide +kernel
theorem d_RF_endLines_17 : decode prog_14_method_43_code 17 = .ok (.invokevirtual 243, 3) := by decide +kernel
theorem d_RF_endLines_20 : decode prog_14_method_43_code 20 = .ok (.ifCond .ne 46, 3) := by decide +kernel
theorem d_RF_endLines_23 : decode prog_14_method_43_code 23 = .ok (.aload_n 0, 1) := by decide +kernel
theorem d_RF_endLines_24 : decode prog_14_method_43_code 24 = .ok (.iload_n 3, 1) := by decide +kernel
theorem d_RF_endLines_25 : decode prog_14_method_43_code 25 = .ok (.invokevirtual 240, 3) := by decide +kernel
theorem d_RF_endLines_28 : decode prog_14_method_43_code 28 = .ok (.ifCond .eq 28, 3) := by decide +kernel
theorem d_RF_endLines_31 : decode prog_14_method_43_code 31 = .ok (.aload_n 0, 1) := by decide +kernel
theorem d_RF_endLines_32 : decode prog_14_method_43_code 32 = .ok (.aload_n 0, 1) := by decide +kernel
theorem d_RF_endLines_33 : decode prog_14_method_43_code 33 = .ok (.iload_n 3, 1) := by decide +kernel
theorem d_RF_endLines_34 : decode prog_14_method_43_code 34 = .ok (.invokevirtual 246, 3) := by decide +kernel
theorem d_RF_endLines_37 : decode prog_14_method_43_code 37 = .ok (.invokevirtual 249, 3) := by decide +kernel
theorem d_RF_endLines_40 : decode prog_14_method_43_code 40 = .ok (.aload_n 0, 1) := by decide +kernel
theorem d_RF_endLines_41 : decode prog_14_method_43_code 41 = .ok (.aload_n 0, 1) := by decide +kernel
theorem d_RF_endLines_42 : decode prog_14_method_43_code 42 = .ok (.getfield 71, 3) := by decide +kernel
theorem d_RF_endLines_45 : decode prog_14_method_43_code 45 = .ok (.iload_n 3, 1) := by decide +kernel
theorem d_RF_endLines_46 : decode prog_14_method_43_code 46 = .ok (.iaload, 1) := by decide +kernel
theorem d_RF_endLines_47 : decode prog_14_method_43_code 47 = .ok (.aload_n 0, 1) := by decide +kernel
theorem d_RF_endLines_48 : decode prog_14_method_43_code 48 = .ok (.getfield 62, 3) := by decide +kernel
theorem d_RF_endLines_51 : decode prog_14_method_43_code 51 = .ok (.iload_n 3, 1) := by decide +kernel
theorem d_RF_endLines_52 : decode prog_14_method_43_code 52 = .ok (.iaload, 1) := by decide +kernel
theorem d_RF_endLines_53 : decode prog_14_method_43_code 53 = .ok (.invokevirtual 252, 3) := by decide +kernel
theorem d_RF_endLines_56 : decode prog_14_method_43_code 56 = .ok (.aload_n 0, 1) := by decide +kernel
theorem d_RF_endLines_57 : decode prog_14_method_43_code 57 = .ok (.getfield 56, 3) := by decide +kernel
theorem d_RF_endLines_60 : decode prog_14_method_43_code 60 = .ok (.iload_n 3, 1) := by decide +kernel
theorem d_RF_endLines_61 : decode prog_14_method_43_code 61 = .ok (.iaload, 1) := by decide +kernel
theorem d_RF_endLines_62 : decode prog_14_method_43_code 62 = .ok (.istore_n 3, 1) := by decide +kernel
theorem d_RF_endLines_63 : decode prog_14_method_43_code 63 = .ok (.goto (-61), 3) := by decide +kernel
theorem d_RF_endLines_66 : decode prog_14_method_43_code 66 = .ok (.return_, 1) := by decide +kernel
theorem d_RF_within_0 : decode prog_14_method_42_code 0 = .ok (.iload_n 1, 1) := by decide +kernel
theorem d_RF_within_1 : decode prog_14_method_42_code 1 = .ok (.istore_n 3, 1) := by decide +kernel
theorem d_RF_within_2 : decode prog_14_method_42_code 2 = .ok (.iload_n 3, 1) := by decide +kernel
theorem d_RF_within_3 : decode prog_14_method_42_code 3 = .ok (.iload_n 2, 1) := by decide +kernel
theorem d_RF_within_4 : decode prog_14_method_42_code 4 = .ok (.if_icmp .le 13, 3) := by decide +kernel
theorem d_RF_within_7 : decode prog_14_method_42_code 7 = .ok (.aload_n 0, 1) := by decide +kernel
theorem d_RF_within_8 : decode prog_14_method_42_code 8 = .ok (.getfield 56, 3) := by decide +kernel
theorem d_RF_within_11 : decode prog_14_method_42_code 11 = .ok (.iload_n 3, 1) := by decide +kernel
theorem d_RF_within_12 : decode prog_14_method_42_code 12 = .ok (.iaload, 1) := by decide +kernel
theorem d_RF_within_13 : decode prog_14_method_42_code 13 = .ok (.istore_n 3, 1) := by decide +kernel
theorem d_RF_within_14 : decode prog_14_method_42_code 14 = .ok (.goto (-12), 3) := by decide +kernel
theorem d_RF_within_17 : decode prog_14_method_42_code 17 = .ok (.iload_n 3, 1) := by decide +kernel
theorem d_RF_within_18 : decode prog_14_method_42_code 18 = .ok (.iload_n 2, 1) := by decide +kernel
theorem d_RF_within_19 : decode prog_14_method_42_code 19 = .ok (.if_icmp .ne 7, 3) := by decide +kernel
theorem d_RF_within_22 : decode prog_14_method_42_code 22 = .ok (.iconst 1, 1) := by decide +kernel
theorem d_RF_within_23 : decode prog_14_method_42_code 23 = .ok (.goto 4, 3) := by decide +kernel
theorem d_RF_within_26 : decode prog_14_method_42_code 26 = .ok (.iconst 0, 1) := by decide +kernel
theorem d_RF_within_27 : decode prog_14_method_42_code 27 = .ok (.ireturn, 1) := by decide +kernel
theorem d_RF_depthOf_0 : decode prog_14_method_37_code 0 = .ok (.iconst 0, 1) := by decide +kernel
theorem d_RF_depthOf_1 : decode prog_14_method_37_code 1 = .ok (.istore_n 2, 1) := by decide +kernel
theorem d_RF_depthOf_2 : decode prog_14_method_37_code 2 = .ok (.aload_n 0, 1) := by decide +kernel
theorem d_RF_depthOf_3 : decode prog_14_method_37_code 3 = .ok (.getfield 56, 3) := by decide +kernel
theorem d_RF_depthOf_6 : decode prog_14_method_37_code 6 = .ok (.iload_n 1, 1) := by decide +kernel
theorem d_RF_depthOf_7 : decode prog_14_method_37_code 7 = .ok (.iaload, 1) := by decide +kernel
theorem d_RF_depthOf_8 : decode prog_14_method_37_code 8 = .ok (.istore_n 3, 1) := by decide +kernel
theorem d_RF_depthOf_9 : decode prog_14_method_37_code 9 = .ok (.iload_n 3, 1) := by decide +kernel
theorem d_RF_depthOf_10 : decode prog_14_method_37_code 10 = .ok (.ifCond .le 16, 3) := by decide +kernel
theorem d_RF_depthOf_13 : decode prog_14_method_37_code 13 = .ok (.iinc 2 1, 3) := by decide +kernel
theorem d_RF_depthOf_16 : decode prog_14_method_37_code 16 = .ok (.aload_n 0, 1) := by decide +kernel
theorem d_RF_depthOf_17 : decode prog_14_method_37_code 17 = .ok (.getfield 56, 3) := by decide +kernel
theorem d_RF_depthOf_20 : decode prog_14_method_37_code 20 = .ok (.iload_n 3, 1) := by decide +kernel
theorem d_RF_depthOf_21 : decode prog_14_method_37_code 21 = .ok (.iaload, 1) := by decide +kernel
theorem d_RF_depthOf_22 : decode prog_14_method_37_code 22 = .ok (.istore_n 3, 1) := by decide +kernel
theorem d_RF_depthOf_23 : decode prog_14_method_37_code 23 = .ok (.goto (-14), 3) := by decide +kernel
theorem d_RF_depthOf_26 : decode prog_14_method_37_code 26 = .ok (.iload_n 2, 1) := by decide +kernel
theorem d_RF_depthOf_27 : decode prog_14_method_37_code 27 = .ok (.ireturn, 1) := by decide +kernel
theorem d_RF_putLine_0 : decode prog_14_method_40_code 0 = .ok (.aload_n 0, 1) := by decide +kernel
theorem d_RF_putLine_1 : decode prog_14_method_40_code 1 = .ok (.bipush 10, 2) := by decide +kernel
theorem d_RF_putLine_3 : decode prog_14_method_40_code 3 = .ok (.invokevirtual 237, 3) := by decide +kernel
theorem d_RF_putLine_6 : decode prog_14_method_40_code 6 = .ok (.iconst 0, 1) := by decide +kernel
theorem d_RF_putLine_7 : decode prog_14_method_40_code 7 = .ok (.istore_n 2, 1) := by decide +kernel
theorem d_RF_putLine_8 : decode prog_14_method_40_code 8 = .ok (.iload_n 2, 1) := by decide +kernel
theorem d_RF_putLine_9 : decode prog_14_method_40_code 9 = .ok (.iload_n 1, 1) := by decide +kernel
theorem d_RF_putLine_10 : decode prog_14_method_40_code 10 = .ok (.if_icmp .ge 15, 3) := by decide +kernel
theorem d_RF_putLine_13 : decode prog_14_method_40_code 13 = .ok (.aload_n 0, 1) := by decide +kernel
theorem d_RF_putLine_14 : decode prog_14_method_40_code 14 = .ok (.bipush 32, 2) := by decide +kernel
theorem d_RF_putLine_16 : decode prog_14_method_40_code 16 = .ok (.invokevirtual 237, 3) := by decide +kernel
theorem d_RF_putLine_19 : decode prog_14_method_40_code 19 = .ok (.iinc 2 1, 3) := by decide +kernel
theorem d_RF_putLine_22 : decode prog_14_method_40_code 22 = .ok (.goto (-14), 3) := by decide +kernel
theorem d_RF_putLine_25 : decode prog_14_method_40_code 25 = .ok (.return_, 1) := by decide +kernel
theorem d_RF_answer_0 : decode prog_14_method_56_code 0 = .ok (.aload_n 0, 1) := by decide +kernel
theorem d_RF_answer_1 : decode prog_14_method_56_code 1 = .ok (.iload_n 1, 1) := by decide +kernel
theorem d_RF_answer_2 : decode prog_14_method_56_code 2 = .ok (.invokevirtual 271, 3) := by decide +kernel
theorem d_RF_answer_5 : decode prog_14_method_56_code 5 = .ok (.ifCond .lt 6, 3) := by decide +kernel
theorem d_RF_answer_8 : decode prog_14_method_56_code 8 = .ok (.bipush (-3), 2) := by decide +kernel
theorem d_RF_answer_10 : decode prog_14_method_56_code 10 = .ok (.ireturn, 1) := by decide +kernel
theorem d_RF_answer_11 : decode prog_14_method_56_code 11 = .ok (.iconst 0, 1) := by decide +kernel
theorem d_RF_answer_12 : decode prog_14_method_56_code 12 = .ok (.istore_n 2, 1) := by decide +kernel
theorem d_RF_answer_13 : decode prog_14_method_56_code 13 = .ok (.iload_n 2, 1) := by decide +kernel
theorem d_RF_answer_14 : decode prog_14_method_56_code 14 = .ok (.bipush 8, 2) := by decide +kernel
theorem d_RF_answer_16 : decode prog_14_method_56_code 16 = .ok (.if_icmp .ge 34, 3) := by decide +kernel
theorem d_RF_answer_19 : decode prog_14_method_56_code 19 = .ok (.iload_n 2, 1) := by decide +kernel
theorem d_RF_answer_20 : decode prog_14_method_56_code 20 = .ok (.aload_n 0, 1) := by decide +kernel
theorem d_RF_answer_21 : decode prog_14_method_56_code 21 = .ok (.getfield 295, 3) := by decide +kernel
theorem d_RF_answer_24 : decode prog_14_method_56_code 24 = .ok (.if_icmp .ge 26, 3) := by decide +kernel
theorem d_RF_answer_27 : decode prog_14_method_56_code 27 = .ok (.aload_n 0, 1) := by decide +kernel
theorem d_RF_answer_28 : decode prog_14_method_56_code 28 = .ok (.getfield 110, 3) := by decide +kernel
theorem d_RF_answer_31 : decode prog_14_method_56_code 31 = .ok (.iload_n 2, 1) := by decide +kernel
theorem d_RF_answer_32 : decode prog_14_method_56_code 32 = .ok (.iaload, 1) := by decide +kernel
theorem d_RF_answer_33 : decode prog_14_method_56_code 33 = .ok (.iload_n 1, 1) := by decide +kernel
theorem d_RF_answer_34 : decode prog_14_method_56_code 34 = .ok (.if_icmp .ne 10, 3) := by decide +kernel
theorem d_RF_answer_37 : decode prog_14_method_56_code 37 = .ok (.aload_n 0, 1) := by decide +kernel
theorem d_RF_answer_38 : decode prog_14_method_56_code 38 = .ok (.getfield 113, 3) := by decide +kernel
theorem d_RF_answer_41 : decode prog_14_method_56_code 41 = .ok (.iload_n 2, 1) := by decide +kernel
theorem d_RF_answer_42 : decode prog_14_method_56_code 42 = .ok (.iaload, 1) := by decide +kernel
theorem d_RF_answer_43 : decode prog_14_method_56_code 43 = .ok (.ireturn, 1) := by decide +kernel
theorem d_RF_answer_44 : decode prog_14_method_56_code 44 = .ok (.iinc 2 1, 3) := by decide +kernel
theorem d_RF_answer_47 : decode prog_14_method_56_code 47 = .ok (.goto (-34), 3) := by decide +kernel
theorem d_RF_answer_50 : decode prog_14_method_56_code 50 = .ok (.iconst (-1), 1) := by decide +kernel
theorem d_RF_answer_51 : decode prog_14_method_56_code 51 = .ok (.ireturn, 1) := by decide +kernel
theorem d_RF_inbox_0 : decode prog_14_method_57_code 0 = .ok (.aload_n 0, 1) := by decide +kernel
theorem d_RF_inbox_1 : decode prog_14_method_57_code 1 = .ok (.getfield 261, 3) := by decide +kernel
theorem d_RF_inbox_4 : decode prog_14_method_57_code 4 = .ok (.ireturn, 1) := by decide +kernel
theorem d_RF_length_0 : decode prog_14_method_58_code 0 = .ok (.aload_n 0, 1) := by decide +kernel
theorem d_RF_length_1 : decode prog_14_method_58_code 1 = .ok (.getfield 179, 3) := by decide +kernel
theorem d_RF_length_4 : decode prog_14_method_58_code 4 = .ok (.ireturn, 1) := by decide +kernel
theorem d_RF_character_0 : decode prog_14_method_59_code 0 = .ok (.iload_n 1, 1) := by decide +kernel
theorem d_RF_character_1 : decode prog_14_method_59_code 1 = .ok (.ifCond .lt 11, 3) := by decide +kernel
theorem d_RF_character_4 : decode prog_14_method_59_code 4 = .ok (.iload_n 1, 1) := by decide +kernel
theorem d_RF_character_5 : decode prog_14_method_59_code 5 = .ok (.aload_n 0, 1) := by decide +kernel
theorem d_RF_character_6 : decode prog_14_method_59_code 6 = .ok (.getfield 179, 3) := by decide +kernel
theorem d_RF_character_9 : decode prog_14_method_59_code 9 = .ok (.if_icmp .lt 7, 3) := by decide +kernel
theorem d_RF_character_12 : decode prog_14_method_59_code 12 = .ok (.iconst (-1), 1) := by decide +kernel
theorem d_RF_character_13 : decode prog_14_method_59_code 13 = .ok (.goto 9, 3) := by decide +kernel
theorem d_RF_character_16 : decode prog_14_method_59_code 16 = .ok (.aload_n 0, 1) := by decide +kernel
theorem d_RF_character_17 : decode prog_14_method_59_code 17 = .ok (.getfield 50, 3) := by decide +kernel
theorem d_RF_character_20 : decode prog_14_method_59_code 20 = .ok (.iload_n 1, 1) := by decide +kernel
theorem d_RF_character_21 : decode prog_14_method_59_code 21 = .ok (.iaload, 1) := by decide +kernel
theorem d_RF_character_22 : decode prog_14_method_59_code 22 = .ok (.ireturn, 1) := by decide +kernel
theorem d_RF_element_0 : decode prog_14_method_60_code 0 = .ok (.aload_n 0, 1) := by decide +kernel
theorem d_RF_element_1 : decode prog_14_method_60_code 1 = .ok (.invokevirtual 277, 3) := by decide +kernel
theorem d_RF_element_4 : decode prog_14_method_60_code 4 = .ok (.iload_n 1, 1) := by decide +kernel
theorem d_RF_element_5 : decode prog_14_method_60_code 5 = .ok (.ifCond .lt 11, 3) := by decide +kernel
theorem d_RF_element_8 : decode prog_14_method_60_code 8 = .ok (.iload_n 1, 1) := by decide +kernel
theorem d_RF_element_9 : decode prog_14_method_60_code 9 = .ok (.aload_n 0, 1) := by decide +kernel
theorem d_RF_element_10 : decode prog_14_method_60_code 10 = .ok (.getfield 185, 3) := by decide +kernel
theorem d_RF_element_13 : decode prog_14_method_60_code 13 = .ok (.if_icmp .lt 5, 3) := by decide +kernel
theorem d_RF_element_16 : decode prog_14_method_60_code 16 = .ok (.iconst (-1), 1) := by decide +kernel
theorem d_RF_element_17 : decode prog_14_method_60_code 17 = .ok (.ireturn, 1) := by decide +kernel
theorem d_RF_element_18 : decode prog_14_method_60_code 18 = .ok (.iconst 0, 1) := by decide +kernel
theorem d_RF_element_19 : decode prog_14_method_60_code 19 = .ok (.istore_n 3, 1) := by decide +kernel
theorem d_RF_element_20 : decode prog_14_method_60_code 20 = .ok (.iconst 1, 1) := by decide +kernel
theorem d_RF_element_21 : decode prog_14_method_60_code 21 = .ok (.istore 4, 2) := by decide +kernel
theorem d_RF_element_23 : decode prog_14_method_60_code 23 = .ok (.iload 4, 2) := by decide +kernel
theorem d_RF_element_25 : decode prog_14_method_60_code 25 = .ok (.aload_n 0, 1) := by decide +kernel
theorem d_RF_element_26 : decode prog_14_method_60_code 26 = .ok (.getfield 185, 3) := by decide +kernel
theorem d_RF_element_29 : decode prog_14_method_60_code 29 = .ok (.if_icmp .ge 23, 3) := by decide +kernel
theorem d_RF_element_32 : decode prog_14_method_60_code 32 = .ok (.aload_n 0, 1) := by decide +kernel
theorem d_RF_element_33 : decode prog_14_method_60_code 33 = .ok (.getfield 56, 3) := by decide +kernel
theorem d_RF_element_36 : decode prog_14_method_60_code 36 = .ok (.iload 4, 2) := by decide +kernel
theorem d_RF_element_38 : decode prog_14_method_60_code 38 = .ok (.iaload, 1) := by decide +kernel
theorem d_RF_element_39 : decode prog_14_method_60_code 39 = .ok (.iload_n 1, 1) := by decide +kernel
theorem d_RF_element_40 : decode prog_14_method_60_code 40 = .ok (.if_icmp .ne 6, 3) := by decide +kernel
theorem d_RF_element_43 : decode prog_14_method_60_code 43 = .ok (.iinc 3 1, 3) := by decide +kernel
theorem d_RF_element_46 : decode prog_14_method_60_code 46 = .ok (.iinc 4 1, 3) := by decide +kernel
theorem d_RF_element_49 : decode prog_14_method_60_code 49 = .ok (.goto (-26), 3) := by decide +kernel
theorem d_RF_element_52 : decode prog_14_method_60_code 52 = .ok (.iload_n 2, 1) := by decide +kernel
theorem d_RF_element_53 : decode prog_14_method_60_code 53 = .ok (.tableswitch 84 0 5 #[39, 46, 53, 60, 67, 69], 39) := by decide +kernel
theorem d_RF_element_92 : decode prog_14_method_60_code 92 = .ok (.aload_n 0, 1) := by decide +kernel
theorem d_RF_element_93 : decode prog_14_method_60_code 93 = .ok (.getfield 53, 3) := by decide +kernel
theorem d_RF_element_96 : decode prog_14_method_60_code 96 = .ok (.iload_n 1, 1) := by decide +kernel
theorem d_RF_element_97 : decode prog_14_method_60_code 97 = .ok (.iaload, 1) := by decide +kernel
theorem d_RF_element_98 : decode prog_14_method_60_code 98 = .ok (.ireturn, 1) := by decide +kernel
theorem d_RF_element_99 : decode prog_14_method_60_code 99 = .ok (.aload_n 0, 1) := by decide +kernel
theorem d_RF_element_100 : decode prog_14_method_60_code 100 = .ok (.getfield 56, 3) := by decide +kernel
theorem d_RF_element_103 : decode prog_14_method_60_code 103 = .ok (.iload_n 1, 1) := by decide +kernel
theorem d_RF_element_104 : decode prog_14_method_60_code 104 = .ok (.iaload, 1) := by decide +kernel
theorem d_RF_element_105 : decode prog_14_method_60_code 105 = .ok (.ireturn, 1) := by decide +kernel
theorem d_RF_element_106 : decode prog_14_method_60_code 106 = .ok (.aload_n 0, 1) := by decide +kernel
theorem d_RF_element_107 : decode prog_14_method_60_code 107 = .ok (.getfield 59, 3) := by decide +kernel
theorem d_RF_element_110 : decode prog_14_method_60_code 110 = .ok (.iload_n 1, 1) := by decide +kernel
theorem d_RF_element_111 : decode prog_14_method_60_code 111 = .ok (.iaload, 1) := by decide +kernel
theorem d_RF_element_112 : decode prog_14_method_60_code 112 = .ok (.ireturn, 1) := by decide +kernel
theorem d_RF_element_113 : decode prog_14_method_60_code 113 = .ok (.aload_n 0, 1) := by decide +kernel
theorem d_RF_element_114 : decode prog_14_method_60_code 114 = .ok (.getfield 62, 3) := by decide +kernel
theorem d_RF_element_117 : decode prog_14_method_60_code 117 = .ok (.iload_n 1, 1) := by decide +kernel
theorem d_RF_element_118 : decode prog_14_method_60_code 118 = .ok (.iaload, 1) := by decide +kernel
theorem d_RF_element_119 : decode prog_14_method_60_code 119 = .ok (.ireturn, 1) := by decide +kernel
theorem d_RF_element_120 : decode prog_14_method_60_code 120 = .ok (.iload_n 3, 1) := by decide +kernel
theorem d_RF_element_121 : decode prog_14_method_60_code 121 = .ok (.ireturn, 1) := by decide +kernel
theorem d_RF_element_122 : decode prog_14_method_60_code 122 = .ok (.aload_n 0, 1) := by decide +kernel
theorem d_RF_element_123 : decode prog_14_method_60_code 123 = .ok (.getfield 71, 3) := by decide +kernel
theorem d_RF_element_126 : decode prog_14_method_60_code 126 = .ok (.iload_n 1, 1) := by decide +kernel
theorem d_RF_element_127 : decode prog_14_method_60_code 127 = .ok (.iaload, 1) := by decide +kernel
theorem d_RF_element_128 : decode prog_14_method_60_code 128 = .ok (.ifCond .lt 7, 3) := by decide +kernel
theorem d_RF_element_131 : decode prog_14_method_60_code 131 = .ok (.iconst 1, 1) := by decide +kernel
theorem d_RF_element_132 : decode prog_14_method_60_code 132 = .ok (.goto 4, 3) := by decide +kernel
theorem d_RF_element_135 : decode prog_14_method_60_code 135 = .ok (.iconst 0, 1) := by decide +kernel
theorem d_RF_element_136 : decode prog_14_method_60_code 136 = .ok (.ireturn, 1) := by decide +kernel
theorem d_RF_element_137 : decode prog_14_method_60_code 137 = .ok (.iconst (-1), 1) := by decide +kernel
theorem d_RF_element_138 : decode prog_14_method_60_code 138 = .ok (.ireturn, 1) := by decide +kernel
theorem d_RF_fault_0 : decode prog_14_method_61_code 0 = .ok (.aload_n 0, 1) := by decide +kernel
theorem d_RF_fault_1 : decode prog_14_method_61_code 1 = .ok (.invokevirtual 277, 3) := by decide +kernel
theorem d_RF_fault_4 : decode prog_14_method_61_code 4 = .ok (.iload_n 1, 1) := by decide +kernel
theorem d_RF_fault_5 : decode prog_14_method_61_code 5 = .ok (.ifCond .lt 20, 3) := by decide +kernel
theorem d_RF_fault_8 : decode prog_14_method_61_code 8 = .ok (.iload_n 1, 1) := by decide +kernel
theorem d_RF_fault_9 : decode prog_14_method_61_code 9 = .ok (.aload_n 0, 1) := by decide +kernel
theorem d_RF_fault_10 : decode prog_14_method_61_code 10 = .ok (.getfield 182, 3) := by decide +kernel
theorem d_RF_fault_13 : decode prog_14_method_61_code 13 = .ok (.if_icmp .ge 12, 3) := by decide +kernel
theorem d_RF_fault_16 : decode prog_14_method_61_code 16 = .ok (.iload_n 2, 1) := by decide +kernel
theorem d_RF_fault_17 : decode prog_14_method_61_code 17 = .ok (.ifCond .lt 8, 3) := by decide +kernel
theorem d_RF_fault_20 : decode prog_14_method_61_code 20 = .ok (.iload_n 2, 1) := by decide +kernel
theorem d_RF_fault_21 : decode prog_14_method_61_code 21 = .ok (.iconst 1, 1) := by decide +kernel
theorem d_RF_fault_22 : decode prog_14_method_61_code 22 = .ok (.if_icmp .le 5, 3) := by decide +kernel
theorem d_RF_fault_25 : decode prog_14_method_61_code 25 = .ok (.iconst (-1), 1) := by decide +kernel
theorem d_RF_fault_26 : decode prog_14_method_61_code 26 = .ok (.ireturn, 1) := by decide +kernel
theorem d_RF_fault_27 : decode prog_14_method_61_code 27 = .ok (.iload_n 2, 1) := by decide +kernel
theorem d_RF_fault_28 : decode prog_14_method_61_code 28 = .ok (.ifCond .ne 12, 3) := by decide +kernel
theorem d_RF_fault_31 : decode prog_14_method_61_code 31 = .ok (.aload_n 0, 1) := by decide +kernel
theorem d_RF_fault_32 : decode prog_14_method_61_code 32 = .ok (.getfield 89, 3) := by decide +kernel
theorem d_RF_fault_35 : decode prog_14_method_61_code 35 = .ok (.iload_n 1, 1) := by decide +kernel
theorem d_RF_fault_36 : decode prog_14_method_61_code 36 = .ok (.iaload, 1) := by decide +kernel
theorem d_RF_fault_37 : decode prog_14_method_61_code 37 = .ok (.goto 9, 3) := by decide +kernel
theorem d_RF_fault_40 : decode prog_14_method_61_code 40 = .ok (.aload_n 0, 1) := by decide +kernel
theorem d_RF_fault_41 : decode prog_14_method_61_code 41 = .ok (.getfield 92, 3) := by decide +kernel
theorem d_RF_fault_44 : decode prog_14_method_61_code 44 = .ok (.iload_n 1, 1) := by decide +kernel
theorem d_RF_fault_45 : decode prog_14_method_61_code 45 = .ok (.iaload, 1) := by decide +kernel
theorem d_RF_fault_46 : decode prog_14_method_61_code 46 = .ok (.ireturn, 1) := by decide +kernel
theorem d_RF_formed_0 : decode prog_14_method_62_code 0 = .ok (.iload_n 1, 1) := by decide +kernel
theorem d_RF_formed_1 : decode prog_14_method_62_code 1 = .ok (.ifCond .lt 11, 3) := by decide +kernel
theorem d_RF_formed_4 : decode prog_14_method_62_code 4 = .ok (.iload_n 1, 1) := by decide +kernel
theorem d_RF_formed_5 : decode prog_14_method_62_code 5 = .ok (.aload_n 0, 1) := by decide +kernel
theorem d_RF_formed_6 : decode prog_14_method_62_code 6 = .ok (.getfield 234, 3) := by decide +kernel
theorem d_RF_formed_9 : decode prog_14_method_62_code 9 = .ok (.if_icmp .lt 7, 3) := by decide +kernel
theorem d_RF_formed_12 : decode prog_14_method_62_code 12 = .ok (.iconst (-1), 1) := by decide +kernel
theorem d_RF_formed_13 : decode prog_14_method_62_code 13 = .ok (.goto 9, 3) := by decide +kernel
theorem d_RF_formed_16 : decode prog_14_method_62_code 16 = .ok (.aload_n 0, 1) := by decide +kernel
theorem d_RF_formed_17 : decode prog_14_method_62_code 17 = .ok (.getfield 116, 3) := by decide +kernel
theorem d_RF_formed_20 : decode prog_14_method_62_code 20 = .ok (.iload_n 1, 1) := by decide +kernel
theorem d_RF_formed_21 : decode prog_14_method_62_code 21 = .ok (.iaload, 1) := by decide +kernel
theorem d_RF_formed_22 : decode prog_14_method_62_code 22 = .ok (.ireturn, 1) := by decide +kernel
end
section
/-! The heap behind both constructors (wip/whole/state.py): 129 cells; HP iv mp sp mo: the numbers iv; the models in use mp (model j lies at 9 + 3 * j), the spare one sp, the reader's model mo. -/
def exShL : List (Nat ⊕ Nat) := [.inl 0, .inl 2, .inr 1, .inl 8, .inl 7, .inr 0, .inr 0, .inl 9, .inr 3, .inl 7, .inr 0, .inr 0, .inl 7, .inr 0, .inr 0, .inl 7, .inr 0, .inr 0, .inl 7, .inr 0, .inr 0, .inl 7, .inr 0, .inr 0, .inl 7, .inr 0, .inr 0, .inl 7, .inr 0, .inr 0, .inl 7, .inr 0, .inr 0, .inl 7, .inr 0, .inr 0, .inl 7, .inr 0, .inr 0, .inl 10, .inr 1, .inl 11, .inr 4, .inr 0, .inr 0, .inr 0, .inl 3, .inl 3, .inl 3, .inl 3, .inl 3, .inl 3, .inl 3, .inl 3, .inl 3, .inl 3, .inl 3, .inl 3, .inl 3, .inl 3, .inl 3, .inl 3, .inl 3, .inl 3, .inl 3, .inl 3, .inl 3, .inl 3, .inl 3, .inl 3, .inl 3, .inl 3, .inl 3, .inl 3, .inl 3, .inl 3, .inl 3, .inl 3, .inl 3, .inl 3, .inl 4, .inr 0, .inl 5, .inr 1, .inl 6, .inr 0, .inr 0, .inr 0, .inr 0, .inl 1, .inr 0, .inr 0, .inl 12, .inr 0, .inr 2, .inr 2, .inr 0, .inr 0, .inr 2, .inr 0, .inr 0, .inr 0, .inr 2, .inr 0, .inr 0, .inr 2, .inr 0, .inr 0, .inr 0, .inr 0, .inr 0, .inr 0, .inr 0, .inr 0, .inr 0, .inr 2, .inr 0, .inr 0, .inr 0, .inr 0, .inr 0, .inr 0, .inr 0, .inr 0, .inr 0, .inr 0, .inr 0, .inr 0, .inr 0]
def exLnL : List Nat := [0, 0, 40, 0, 0, 11, 8, 0, 9, 0, 11, 8, 0, 11, 8, 0, 11, 8, 0, 11, 8, 0, 11, 8, 0, 11, 8, 0, 11, 8, 0, 11, 8, 0, 11, 8, 0, 11, 8, 0, 100, 0, 34, 33, 33, 33, 0, 0, 0, 0, 0, 0, 0, 0, 0, 0, 0, 0, 0, 0, 0, 0, 0, 0, 0, 0, 0, 0, 0, 0, 0, 0, 0, 0, 0, 0, 0, 0, 0, 0, 0, 201, 0, 694, 0, 12, 12, 12, 12, 0, 8, 8, 0, 40, 10, 10, 10, 10, 10, 10, 100, 100, 14, 14, 14, 14, 100, 40, 40, 40, 40, 40, 40, 40, 40, 40, 101, 101, 101, 400, 400, 13, 13, 13, 13, 13, 8, 8, 900]
def exSh (a : Nat) : Nat ⊕ Nat := exShL.getD a (.inl 0)
def exLn (a : Nat) : Nat := exLnL.getD a 0
def exRvL (mp : Nat → Nat) (sp mo : Nat) : List (List (Option Nat)) := [[some 1, some 3, some 7, some 39, some 41, some 80, some 82, some 84, some 89], [some 2], [], [some 1, some mo], [none, none, none, some 5, some 6], [], [], [some 8, some (9 + 3 * sp)], [some (9 + 3 * mp 0), some (9 + 3 * mp 1), some (9 + 3 * mp 2), some (9 + 3 * mp 3), some (9 + 3 * mp 4), some (9 + 3 * mp 5), some (9 + 3 * mp 6), some (9 + 3 * mp 7), some (9 + 3 * mp 8)], [none, none, none, some 10, some 11], [], [], [none, none, none, some 13, some 14], [], [], [none, none, none, some 16, some 17], [], [], [none, none, none, some 19, some 20], [], [], [none, none, none, some 22, some 23], [], [], [none, none, none, some 25, some 26], [], [], [none, none, none, some 28, some 29], [], [], [none, none, none, some 31, some 32], [], [], [none, none, none, some 34, some 35], [], [], [none, none, none, some 37, some 38], [], [], [some 40], [], [some 39, some 42, none, none, some 43, some 44, some 45], [some 46, some 47, some 48, some 49, some 50, some 51, some 52, some 53, some 54, some 55, some 56, some 57, some 58, some 59, some 60, some 61, some 62, some 63, some 64, some 65, some 66, some 67, some 68, some 69, some 70, some 71, some 72, some 73, some 74, some 75, some 76, some 77, some 78, some 79], [], [], [], [], [], [], [], [], [], [], [], [], [], [], [], [], [], [], [], [], [], [], [], [], [], [], [], [], [], [], [], [], [], [], [], [], [], [some 81], [], [some 39, some 41, some 7, some 83], [], [some 85, some 86, some 87, some 88], [], [], [], [], [some 90, some 91], [], [], [none, some 93, some 94, some 95, some 96, some 97, some 98, some 99, some 100, some 101, some 102, some 103, some 104, some 105, none, some 106, none, some 107, some 108, some 109, some 110, some 111, some 112, some 113, some 114, some 115, some 116, some 117, some 118, none, some 119, some 120, none, some 121, some 122, some 123, some 124, some 125, none, none, some 126, some 127, none, some 128], [], [], [], [], [], [], [], [], [], [], [], [], [], [], [], [], [], [], [], [], [], [], [], [], [], [], [], [], [], [], [], [], [], [], [], []]
def RV (mp : Nat → Nat) (sp mo : Nat) : Nat → Nat → Option Nat := fun a k => ((exRvL mp sp mo).getD a []).getD k none
def HP (iv : Nat → Nat → Int32) (mp : Nat → Nat) (sp mo : Nat) : ex_H := (129, exSh, exLn, iv, RV mp sp mo)
theorem mo_lt {iv : Nat → Nat → Int32} {mp : Nat → Nat} {sp mo j : Nat} (h : j < 10) : 9 + 3 * j < (HP iv mp sp mo).1 := by
  show 9 + 3 * j < 129
  omega
theorem mo_sh0 : ∀ j, j < 10 → exSh (9 + 3 * j) = .inl 7 ∧ exSh (10 + 3 * j) = .inr 0 ∧ exSh (11 + 3 * j) = .inr 0 ∧ exLn (10 + 3 * j) = 11 ∧ exLn (11 + 3 * j) = 8 := by decide +kernel
theorem mo_sh {iv : Nat → Nat → Int32} {mp : Nat → Nat} {sp mo j : Nat} (h : j < 10) : (HP iv mp sp mo).2.1 (9 + 3 * j) = .inl 7 := (mo_sh0 j h).1
theorem mo_rf {mp : Nat → Nat} {sp mo j : Nat} (h : j < 10) : RV mp sp mo (9 + 3 * j) 3 = some (10 + 3 * j) ∧ RV mp sp mo (9 + 3 * j) 4 = some (11 + 3 * j) := by
  have h9 : j = 0 ∨ j = 1 ∨ j = 2 ∨ j = 3 ∨ j = 4 ∨ j = 5 ∨ j = 6 ∨ j = 7 ∨ j = 8 ∨ j = 9 := by omega
  rcases h9 with rfl | rfl | rfl | rfl | rfl | rfl | rfl | rfl | rfl | rfl <;> exact ⟨rfl, rfl⟩
theorem el_sh0 : ∀ i, i < 34 → exSh (46 + i) = .inl 3 := by decide +kernel
theorem el_sh {iv : Nat → Nat → Int32} {mp : Nat → Nat} {sp mo i : Nat} (h : i < 34) : (HP iv mp sp mo).2.1 (46 + i) = .inl 3 := el_sh0 i h
theorem el_lt {iv : Nat → Nat → Int32} {mp : Nat → Nat} {sp mo i : Nat} (h : i < 34) : 46 + i < (HP iv mp sp mo).1 := by
  show 46 + i < 129
  omega
theorem el_rf0 : ∀ i, i < 34 → RV (fun _ => 0) 0 0 42 i = some (46 + i) := by decide +kernel
theorem el_rf {mp : Nat → Nat} {sp mo i : Nat} (h : i < 34) : RV mp sp mo 42 i = some (46 + i) := el_rf0 i h
theorem us_rf {mp : Nat → Nat} {sp mo k : Nat} (h : k < 9) : RV mp sp mo 8 k = some (9 + 3 * mp k) := by
  have h9 : k = 0 ∨ k = 1 ∨ k = 2 ∨ k = 3 ∨ k = 4 ∨ k = 5 ∨ k = 6 ∨ k = 7 ∨ k = 8 := by omega
  rcases h9 with rfl | rfl | rfl | rfl | rfl | rfl | rfl | rfl | rfl <;> rfl
/-- numbers -/
theorem i_lt {x y : Int32} : x < y ↔ x.toInt < y.toInt := Int32.lt_iff_toInt_lt
theorem i_le {x y : Int32} : x ≤ y ↔ x.toInt ≤ y.toInt := Int32.le_iff_toInt_le
theorem i_eq {x y : Int32} : x = y ↔ x.toInt = y.toInt := Int32.toInt_inj.symm
theorem i_nlt {x y : Int32} (h : ¬ x < y) : y.toInt ≤ x.toInt := Int.not_lt.mp (fun q => h (i_lt.mpr q))
theorem i_nle {x y : Int32} (h : ¬ x ≤ y) : y.toInt < x.toInt := Int.not_le.mp (fun q => h (i_le.mpr q))
theorem i_m1 : (-1 : Int32).toInt = -1 := by decide
theorem i_m2 : (-2 : Int32).toInt = -2 := by decide
theorem i_m3 : (-3 : Int32).toInt = -3 := by decide
theorem i_0 : (0 : Int32).toInt = 0 := by decide
theorem i_rng (x : Int32) : -2147483648 ≤ x.toInt ∧ x.toInt ≤ 2147483647 := by
  have h1 := Int32.le_toInt x
  have h2 := Int32.toInt_lt x
  omega
theorem i_of (x : Int32) (h : 0 ≤ x.toInt) : x = nI x.toInt.toNat := by
  have h2 := i_rng x
  refine i_eq.mpr ?_
  rw [nI_toInt (by omega)]
  omega
section EXS
variable {p : Program} {l : Launch} {e : Env} {s : State} {m : MethodId} {args : Array Value} {below : List Frame} {meth : Method} {c : Code} {M : ex_M} {G : ex_G} {R : Room} {Q : State → Prop} {cells slots pc : Nat} {L : List (Option Value)} {st : List Value} {h : ex_H}
theorem ex_getx {a idx : Nat} (ci k : Nat) (x : Int32) (hd : decode M.2.1 pc = .ok (.getfield idx, 3)) (hf : ex_FL M.1.cls idx ci k false) (ha : a < h.1) (hs : h.2.1 a = .inl ci) (hx : h.2.2.2.1 a k = x) (kk : EX M l G R Q p e s m args below meth c cells slots (pc + 3) L (.int x :: st) h) : EX M l G R Q p e s m args below meth c cells slots pc L (.ref a :: st) h := by
  subst hx
  exact ex_geti ci k hd hf ha hs kk
theorem ex_ialdx {a t : Nat} {i : Int32} (n : Nat) (x : Int32) (hd : decode M.2.1 pc = .ok (.iaload, 1)) (ha : a < h.1) (hs : h.2.1 a = .inr t) (hr : exRk t = false) (ht : exTy[t]? = some .int) (hi : i.toInt = (n : Int)) (hN : n < h.2.2.1 a) (hx : h.2.2.2.1 a n = x) (kk : EX M l G R Q p e s m args below meth c cells slots (pc + 1) L (.int x :: st) h) : EX M l G R Q p e s m args below meth c cells slots pc L (.int i :: .ref a :: st) h := by
  subst hx
  exact ex_iald n hd ha hs hr ht hi hN kk
theorem ex_caldx {a t : Nat} {i : Int32} (n : Nat) (x : Int32) (hd : decode M.2.1 pc = .ok (.caload, 1)) (ha : a < h.1) (hs : h.2.1 a = .inr t) (hr : exRk t = false) (ht : exTy[t]? = some .char) (hi : i.toInt = (n : Int)) (hN : n < h.2.2.1 a) (hx : h.2.2.2.1 a n = x) (kk : EX M l G R Q p e s m args below meth c cells slots (pc + 1) L (.int x :: st) h) : EX M l G R Q p e s m args below meth c cells slots pc L (.int i :: .ref a :: st) h := by
  subst hx
  exact ex_cald n hd ha hs hr ht hi hN kk
theorem ex_zaldx {a t : Nat} {i : Int32} (n : Nat) (x : Int32) (hd : decode M.2.1 pc = .ok (.baload, 1)) (ha : a < h.1) (hs : h.2.1 a = .inr t) (hr : exRk t = false) (ht : exTy[t]? = some .boolean) (hi : i.toInt = (n : Int)) (hN : n < h.2.2.1 a) (hx : h.2.2.2.1 a n = x) (kk : EX M l G R Q p e s m args below meth c cells slots (pc + 1) L (.int x :: st) h) : EX M l G R Q p e s m args below meth c cells slots pc L (.int i :: .ref a :: st) h := by
  subst hx
  exact ex_zald n hd ha hs hr ht hi hN kk
/-- the number on top under another name -/
theorem ex_top {x y : Int32} (hx : x = y) (kk : EX M l G R Q p e s m args below meth c cells slots pc L (.int y :: st) h) : EX M l G R Q p e s m args below meth c cells slots pc L (.int x :: st) h := by
  subst hx
  exact kk
theorem ex_heap {h' : ex_H} (hx : h = h') (kk : EX M l G R Q p e s m args below meth c cells slots pc L st h') : EX M l G R Q p e s m args below meth c cells slots pc L st h := by
  subst hx
  exact kk
end EXS
end
section
/-! leaves: characters, the draft -/
def b2i (b : Bool) : Int32 := if b = true then nI 1 else nI 0
theorem b2i_n (b : Bool) : narrow .boolean (.int (b2i b)) = .int (b2i b) := by cases b <;> decide
/-- a name: a to h -/
def nmB (x : Int32) : Bool := decide (97 ≤ x.toInt) && decide (x.toInt ≤ 104)
/-- a character that may be written -/
def wrB (x : Int32) : Bool := decide (32 ≤ x.toInt) && decide (x.toInt ≤ 126)
theorem nm_1 {x : Int32} (h1 : ¬ x < nI 97) (h2 : ¬ nI 105 ≤ x) : nmB x = true := by
  simp only [i_lt, i_le, nI_toInt (show 97 < 2 ^ 31 by decide), nI_toInt (show 105 < 2 ^ 31 by decide)] at h1 h2
  simp only [nmB, Bool.and_eq_true, decide_eq_true_eq]
  omega
theorem nm_2 {x : Int32} (h1 : x < nI 97) : nmB x = false := by
  simp only [i_lt, nI_toInt (show 97 < 2 ^ 31 by decide)] at h1
  simp only [nmB, Bool.and_eq_false_iff, decide_eq_false_iff_not]
  omega
theorem nm_3 {x : Int32} (h1 : nI 105 ≤ x) : nmB x = false := by
  simp only [i_le, nI_toInt (show 105 < 2 ^ 31 by decide)] at h1
  simp only [nmB, Bool.and_eq_false_iff, decide_eq_false_iff_not]
  omega
theorem nm_4 {x : Int32} (h1 : ¬ x < nI 97) (h2 : ¬ nI 104 < x) : nmB x = true := by
  simp only [i_lt, nI_toInt (show 97 < 2 ^ 31 by decide), nI_toInt (show 104 < 2 ^ 31 by decide)] at h1 h2
  simp only [nmB, Bool.and_eq_true, decide_eq_true_eq]
  omega
theorem nm_5 {x : Int32} (h1 : nI 104 < x) : nmB x = false := by
  simp only [i_lt, nI_toInt (show 104 < 2 ^ 31 by decide)] at h1
  simp only [nmB, Bool.and_eq_false_iff, decide_eq_false_iff_not]
  omega
theorem wr_1 {x : Int32} (h1 : ¬ x < nI 32) (h2 : ¬ nI 126 < x) : wrB x = true := by
  simp only [i_lt, nI_toInt (show 32 < 2 ^ 31 by decide), nI_toInt (show 126 < 2 ^ 31 by decide)] at h1 h2
  simp only [wrB, Bool.and_eq_true, decide_eq_true_eq]
  omega
theorem wr_2 {x : Int32} (h1 : x < nI 32) : wrB x = false := by
  simp only [i_lt, nI_toInt (show 32 < 2 ^ 31 by decide)] at h1
  simp only [wrB, Bool.and_eq_false_iff, decide_eq_false_iff_not]
  omega
theorem wr_3 {x : Int32} (h1 : nI 126 < x) : wrB x = false := by
  simp only [i_lt, nI_toInt (show 126 < 2 ^ 31 by decide)] at h1
  simp only [wrB, Bool.and_eq_false_iff, decide_eq_false_iff_not]
  omega
theorem b2i_0 {b : Bool} (h : b2i b = 0) : b = false := by
  cases b with
  | false => rfl
  | true => exact absurd h (by decide)
theorem b2i_1 {b : Bool} (h : ¬ b2i b = 0) : b = true := by
  cases b with
  | false => exact absurd (show b2i false = 0 by decide) h
  | true => rfl
set_option maxRecDepth 100000 in
set_option maxHeartbeats 4000000 in
theorem ct_TG_isName (l : Launch) (G : ex_G) (h : ex_H) (x : Int32) : CT l G 0 M_TG_isName [.int x] h 0 0 (fun r h' => h' = h ∧ r = some (.int (b2i (nmB x)))) := by
  refine ex_enter (by decide) (Nat.le_of_ble_eq_true rfl) (fun v hv => by simp at hv; rcases hv with rfl <;> rfl) (fun p e s m args below meth c => ?_)
  refine ex_iload_n (pc := 0) (i := 0) d_TG_isName_0 rfl rfl ?_
  refine ex_bipush (pc := 1) (v := (nI 97)) d_TG_isName_1 (by decide) ?_
  refine ex_icmp_lt (pc := 3) (tgt := 16) d_TG_isName_3 rfl (fun c3 => ?_) (fun c3 => ?_)
  · refine ex_iconst (pc := 16) (v := (nI 0)) d_TG_isName_16 (by decide) ?_
    refine ex_iret (ty := .boolean) d_TG_isName_17 rfl rfl rfl (Nat.le_refl _) ?_
    exact ⟨rfl, by rw [nm_2 c3]; rfl⟩
  · refine ex_iload_n (pc := 6) (i := 0) d_TG_isName_6 rfl rfl ?_
    refine ex_bipush (pc := 7) (v := (nI 105)) d_TG_isName_7 (by decide) ?_
    refine ex_icmp_ge (pc := 9) (tgt := 16) d_TG_isName_9 rfl (fun c9 => ?_) (fun c9 => ?_)
    · refine ex_iconst (pc := 16) (v := (nI 0)) d_TG_isName_16 (by decide) ?_
      refine ex_iret (ty := .boolean) d_TG_isName_17 rfl rfl rfl (Nat.le_refl _) ?_
      exact ⟨rfl, by rw [nm_3 c9]; rfl⟩
    · refine ex_iconst (pc := 12) (v := (nI 1)) d_TG_isName_12 (by decide) ?_
      refine ex_goto (pc := 13) (tgt := 17) d_TG_isName_13 rfl ?_
      refine ex_iret (ty := .boolean) d_TG_isName_17 rfl rfl rfl (Nat.le_refl _) ?_
      exact ⟨rfl, by rw [nm_1 c3 c9]; rfl⟩

set_option maxRecDepth 100000 in
set_option maxHeartbeats 4000000 in
theorem ct_TG_isWritable (l : Launch) (G : ex_G) (h : ex_H) (x : Int32) : CT l G 0 M_TG_isWritable [.int x] h 0 0 (fun r h' => h' = h ∧ r = some (.int (b2i (wrB x)))) := by
  refine ex_enter (by decide) (Nat.le_of_ble_eq_true rfl) (fun v hv => by simp at hv; rcases hv with rfl <;> rfl) (fun p e s m args below meth c => ?_)
  refine ex_iload_n (pc := 0) (i := 0) d_TG_isWritable_0 rfl rfl ?_
  refine ex_bipush (pc := 1) (v := (nI 32)) d_TG_isWritable_1 (by decide) ?_
  refine ex_icmp_lt (pc := 3) (tgt := 16) d_TG_isWritable_3 rfl (fun c3 => ?_) (fun c3 => ?_)
  · refine ex_iconst (pc := 16) (v := (nI 0)) d_TG_isWritable_16 (by decide) ?_
    refine ex_iret (ty := .boolean) d_TG_isWritable_17 rfl rfl rfl (Nat.le_refl _) ?_
    exact ⟨rfl, by rw [wr_2 c3]; rfl⟩
  · refine ex_iload_n (pc := 6) (i := 0) d_TG_isWritable_6 rfl rfl ?_
    refine ex_bipush (pc := 7) (v := (nI 126)) d_TG_isWritable_7 (by decide) ?_
    refine ex_icmp_gt (pc := 9) (tgt := 16) d_TG_isWritable_9 rfl (fun c9 => ?_) (fun c9 => ?_)
    · refine ex_iconst (pc := 16) (v := (nI 0)) d_TG_isWritable_16 (by decide) ?_
      refine ex_iret (ty := .boolean) d_TG_isWritable_17 rfl rfl rfl (Nat.le_refl _) ?_
      exact ⟨rfl, by rw [wr_3 c9]; rfl⟩
    · refine ex_iconst (pc := 12) (v := (nI 1)) d_TG_isWritable_12 (by decide) ?_
      refine ex_goto (pc := 13) (tgt := 17) d_TG_isWritable_13 rfl ?_
      refine ex_iret (ty := .boolean) d_TG_isWritable_17 rfl rfl rfl (Nat.le_refl _) ?_
      exact ⟨rfl, by rw [wr_1 c3 c9]; rfl⟩

set_option maxRecDepth 100000 in
set_option maxHeartbeats 4000000 in
theorem ct_RF_isName (l : Launch) (G : ex_G) (h : ex_H) (x : Int32) : CT l G 0 M_RF_isName [.int x] h 0 0 (fun r h' => h' = h ∧ r = some (.int (b2i (nmB x)))) := by
  refine ex_enter (by decide) (Nat.le_of_ble_eq_true rfl) (fun v hv => by simp at hv; rcases hv with rfl <;> rfl) (fun p e s m args below meth c => ?_)
  refine ex_iload_n (pc := 0) (i := 0) d_RF_isName_0 rfl rfl ?_
  refine ex_bipush (pc := 1) (v := (nI 97)) d_RF_isName_1 (by decide) ?_
  refine ex_icmp_lt (pc := 3) (tgt := 16) d_RF_isName_3 rfl (fun c3 => ?_) (fun c3 => ?_)
  · refine ex_iconst (pc := 16) (v := (nI 0)) d_RF_isName_16 (by decide) ?_
    refine ex_iret (ty := .boolean) d_RF_isName_17 rfl rfl rfl (Nat.le_refl _) ?_
    exact ⟨rfl, by rw [nm_2 c3]; rfl⟩
  · refine ex_iload_n (pc := 6) (i := 0) d_RF_isName_6 rfl rfl ?_
    refine ex_bipush (pc := 7) (v := (nI 104)) d_RF_isName_7 (by decide) ?_
    refine ex_icmp_gt (pc := 9) (tgt := 16) d_RF_isName_9 rfl (fun c9 => ?_) (fun c9 => ?_)
    · refine ex_iconst (pc := 16) (v := (nI 0)) d_RF_isName_16 (by decide) ?_
      refine ex_iret (ty := .boolean) d_RF_isName_17 rfl rfl rfl (Nat.le_refl _) ?_
      exact ⟨rfl, by rw [nm_5 c9]; rfl⟩
    · refine ex_iconst (pc := 12) (v := (nI 1)) d_RF_isName_12 (by decide) ?_
      refine ex_goto (pc := 13) (tgt := 17) d_RF_isName_13 rfl ?_
      refine ex_iret (ty := .boolean) d_RF_isName_17 rfl rfl rfl (Nat.le_refl _) ?_
      exact ⟨rfl, by rw [nm_4 c3 c9]; rfl⟩

/-- the draft of the class: n characters -/
def DrI (iv : Nat → Nat → Int32) (n : Nat) (f : Nat → Int32) : Prop := n ≤ 40 ∧ iv 1 1 = nI n ∧ ∀ k, k < n → iv 2 k = f k
theorem nI_t {n : Nat} (h : n ≤ 1000000) : (nI n).toInt = (n : Int) := nI_toInt (by omega)
set_option maxRecDepth 100000 in
set_option maxHeartbeats 4000000 in
theorem ct_Dr_clear (l : Launch) (G : ex_G) (iv : Nat → Nat → Int32) (mp : Nat → Nat) (sp mo : Nat) : CT l G 0 M_Dr_clear [.ref 1] (HP iv mp sp mo) 0 0 (fun r h' => h' = HP (ex_u2 iv 1 1 (nI 0)) mp sp mo ∧ r = none) := by
  refine ex_enter (by decide) (Nat.le_of_ble_eq_true rfl) (fun v hv => by simp at hv; rcases hv with rfl <;> rfl) (fun p e s m args below meth c => ?_)
  refine ex_aload_n (pc := 0) (i := 0) d_Dr_clear_0 rfl rfl ?_
  refine ex_iconst (pc := 1) (v := (nI 0)) d_Dr_clear_1 (by decide) ?_
  refine ex_puti (pc := 2) 2 1 .int d_Dr_clear_2 (PF_Dr_19 _) (Nat.le_of_ble_eq_true rfl) rfl rfl rfl ?_
  refine ex_vret d_Dr_clear_5 rfl rfl (Nat.le_refl _) ?_
  exact ⟨rfl, rfl⟩

set_option maxRecDepth 100000 in
set_option maxHeartbeats 4000000 in
theorem ct_Dr_at (l : Launch) (G : ex_G) (iv : Nat → Nat → Int32) (mp : Nat → Nat) (sp mo : Nat) (n : Nat) (f : Nat → Int32) (hd : DrI iv n f) (x : Int32) : CT l G 0 M_Dr_at [.ref 1, .int x] (HP iv mp sp mo) 0 0 (fun r h' => h' = HP iv mp sp mo ∧ r = some (.int (if 0 ≤ x.toInt ∧ x.toInt < n then f x.toInt.toNat else -1))) := by
  refine ex_enter (by decide) (Nat.le_of_ble_eq_true rfl) (fun v hv => by simp at hv; rcases hv with rfl | rfl <;> rfl) (fun p e s m args below meth c => ?_)
  have hnn : (nI n).toInt = (n : Int) := nI_t (by have := hd.1; omega)
  refine ex_iload_n (pc := 0) (i := 1) d_Dr_at_0 rfl rfl ?_
  refine ex_if_lt (pc := 1) (tgt := 21) d_Dr_at_1 rfl (fun c1 => ?_) (fun c1 => ?_)
  · refine ex_iconst (pc := 21) (v := (-1)) d_Dr_at_21 (by decide) ?_
    refine ex_iret (ty := .int) d_Dr_at_22 rfl rfl rfl (Nat.le_refl _) ?_
    refine ⟨rfl, ?_⟩
    rw [if_neg (fun q => by have q1 := i_lt.mp c1; rw [i_0] at q1; omega)]
  · refine ex_iload_n (pc := 4) (i := 1) d_Dr_at_4 rfl rfl ?_
    refine ex_aload_n (pc := 5) (i := 0) d_Dr_at_5 rfl rfl ?_
    refine ex_getx (pc := 6) 2 1 (nI n) d_Dr_at_6 FL_Dr_19 (Nat.le_of_ble_eq_true rfl) rfl hd.2.1 ?_
    refine ex_icmp_ge (pc := 9) (tgt := 21) d_Dr_at_9 rfl (fun c9 => ?_) (fun c9 => ?_)
    · refine ex_iconst (pc := 21) (v := (-1)) d_Dr_at_21 (by decide) ?_
      refine ex_iret (ty := .int) d_Dr_at_22 rfl rfl rfl (Nat.le_refl _) ?_
      refine ⟨rfl, ?_⟩
      rw [if_neg (fun q => by have q1 := i_le.mp c9; omega)]
    · have hx0 : 0 ≤ x.toInt := by
        have q1 := i_nlt c1
        rw [i_0] at q1
        omega
      have hx1 : x.toInt < n := by
        have q1 := i_nle c9
        omega
      have hxn : x.toInt = (x.toInt.toNat : Int) := by omega
      refine ex_aload_n (pc := 12) (i := 0) d_Dr_at_12 rfl rfl ?_
      refine ex_getr (pc := 13) 2 0 d_Dr_at_13 FL_Dr_9 (Nat.le_of_ble_eq_true rfl) rfl rfl ?_
      refine ex_iload_n (pc := 16) (i := 1) d_Dr_at_16 rfl rfl ?_
      refine ex_caldx (pc := 17) x.toInt.toNat (f x.toInt.toNat) d_Dr_at_17 (Nat.le_of_ble_eq_true rfl) rfl rfl rfl hxn (by have := hd.1; show x.toInt.toNat < 40; omega) (hd.2.2 _ (by omega)) ?_
      refine ex_goto (pc := 18) (tgt := 22) d_Dr_at_18 rfl ?_
      refine ex_iret (ty := .int) d_Dr_at_22 rfl rfl rfl (Nat.le_refl _) ?_
      refine ⟨rfl, ?_⟩
      rw [if_pos ⟨hx0, by omega⟩]
end
section
/-! reads at a place; the draft; what the inbox and the text tell -/
def gAt (sz : Int32) (f : Nat → Int32) (x : Int32) : Int32 := if 0 ≤ x.toInt ∧ x.toInt < sz.toInt then f x.toInt.toNat else -1
theorem gAt_n {sz : Int32} {f : Nat → Int32} {x : Int32} (h : ¬ (0 ≤ x.toInt ∧ x.toInt < sz.toInt)) : gAt sz f x = -1 := if_neg h
theorem gAt_y {sz : Int32} {f : Nat → Int32} {x : Int32} (h1 : ¬ x < 0) (h2 : x.toInt < sz.toInt) : gAt sz f x = f x.toInt.toNat := if_pos ⟨by have q1 := i_nlt h1; rw [i_0] at q1; exact q1, h2⟩
theorem gAt_i {sz x : Int32} {N : Nat} (h1 : ¬ x < 0) (h2 : x.toInt < sz.toInt) (h3 : sz.toInt ≤ (N : Int)) : x.toInt = (x.toInt.toNat : Int) ∧ x.toInt.toNat < N := by
  have q1 := i_nlt h1
  rw [i_0] at q1
  omega
theorem i_neg {x : Int32} {sz : Int32} (h : x < 0) : ¬ (0 ≤ x.toInt ∧ x.toInt < sz.toInt) := fun q => by
  have q1 := i_lt.mp h
  rw [i_0] at q1
  omega
theorem i_big {x sz : Int32} (h : sz ≤ x) : ¬ (0 ≤ x.toInt ∧ x.toInt < sz.toInt) := fun q => by
  have q1 := i_le.mp h
  omega
set_option maxRecDepth 100000 in
set_option maxHeartbeats 4000000 in
theorem ca_Dr_at (l : Launch) (G : ex_G) (iv : Nat → Nat → Int32) (mp : Nat → Nat) (sp mo : Nat) (x : Int32) (hb : (iv 1 1).toInt ≤ ((40 : Nat) : Int)) : CT l G 0 M_Dr_at [.ref 1, .int x] (HP iv mp sp mo) 0 0 (fun r h' => h' = HP iv mp sp mo ∧ r = some (.int (gAt (iv 1 1) (iv 2) x))) := by
  refine ex_enter (by decide) (Nat.le_of_ble_eq_true rfl) (fun v hv => by simp at hv; rcases hv with rfl | rfl <;> rfl) (fun p e s m args below meth c => ?_)
  refine ex_iload_n (pc := 0) (i := 1) d_Dr_at_0 rfl rfl ?_
  refine ex_if_lt (pc := 1) (tgt := 21) d_Dr_at_1 rfl (fun c1 => ?_) (fun c1 => ?_)
  · refine ex_iconst (pc := 21) (v := (-1)) d_Dr_at_21 (by decide) ?_
    refine ex_iret (ty := .int) d_Dr_at_22 rfl rfl rfl (Nat.le_refl _) ?_
    exact ⟨rfl, by rw [gAt_n (i_neg c1)]⟩
  · refine ex_iload_n (pc := 4) (i := 1) d_Dr_at_4 rfl rfl ?_
    refine ex_aload_n (pc := 5) (i := 0) d_Dr_at_5 rfl rfl ?_
    refine ex_getx (pc := 6) 2 1 (iv 1 1) d_Dr_at_6 FL_Dr_19 (Nat.le_of_ble_eq_true rfl) rfl rfl ?_
    refine ex_icmp_ge (pc := 9) (tgt := 21) d_Dr_at_9 rfl (fun c9 => ?_) (fun c9 => ?_)
    · refine ex_iconst (pc := 21) (v := (-1)) d_Dr_at_21 (by decide) ?_
      refine ex_iret (ty := .int) d_Dr_at_22 rfl rfl rfl (Nat.le_refl _) ?_
      exact ⟨rfl, by rw [gAt_n (i_big c9)]⟩
    · refine ex_aload_n (pc := 12) (i := 0) d_Dr_at_12 rfl rfl ?_
      refine ex_getr (pc := 13) 2 0 d_Dr_at_13 FL_Dr_9 (Nat.le_of_ble_eq_true rfl) rfl rfl ?_
      refine ex_iload_n (pc := 16) (i := 1) d_Dr_at_16 rfl rfl ?_
      refine ex_caldx (pc := 17) x.toInt.toNat (iv 2 x.toInt.toNat) d_Dr_at_17 (Nat.le_of_ble_eq_true rfl) rfl rfl rfl (gAt_i c1 (i_nle c9) hb).1 (gAt_i c1 (i_nle c9) hb).2 rfl ?_
      refine ex_goto (pc := 18) (tgt := 22) d_Dr_at_18 rfl ?_
      refine ex_iret (ty := .int) d_Dr_at_22 rfl rfl rfl (Nat.le_refl _) ?_
      exact ⟨rfl, by rw [gAt_y c1 (i_nle c9)]⟩

set_option maxRecDepth 100000 in
set_option maxHeartbeats 4000000 in
theorem ct_Tx_at (l : Launch) (G : ex_G) (iv : Nat → Nat → Int32) (mp : Nat → Nat) (sp mo : Nat) (x : Int32) (hb : (iv 39 1).toInt ≤ ((100 : Nat) : Int)) : CT l G 0 M_Tx_at [.ref 39, .int x] (HP iv mp sp mo) 0 0 (fun r h' => h' = HP iv mp sp mo ∧ r = some (.int (gAt (iv 39 1) (iv 40) x))) := by
  refine ex_enter (by decide) (Nat.le_of_ble_eq_true rfl) (fun v hv => by simp at hv; rcases hv with rfl | rfl <;> rfl) (fun p e s m args below meth c => ?_)
  refine ex_iload_n (pc := 0) (i := 1) d_Tx_at_0 rfl rfl ?_
  refine ex_if_lt (pc := 1) (tgt := 21) d_Tx_at_1 rfl (fun c1 => ?_) (fun c1 => ?_)
  · refine ex_iconst (pc := 21) (v := (-1)) d_Tx_at_21 (by decide) ?_
    refine ex_iret (ty := .int) d_Tx_at_22 rfl rfl rfl (Nat.le_refl _) ?_
    exact ⟨rfl, by rw [gAt_n (i_neg c1)]⟩
  · refine ex_iload_n (pc := 4) (i := 1) d_Tx_at_4 rfl rfl ?_
    refine ex_aload_n (pc := 5) (i := 0) d_Tx_at_5 rfl rfl ?_
    refine ex_getx (pc := 6) 10 1 (iv 39 1) d_Tx_at_6 FL_Tx_15 (Nat.le_of_ble_eq_true rfl) rfl rfl ?_
    refine ex_icmp_ge (pc := 9) (tgt := 21) d_Tx_at_9 rfl (fun c9 => ?_) (fun c9 => ?_)
    · refine ex_iconst (pc := 21) (v := (-1)) d_Tx_at_21 (by decide) ?_
      refine ex_iret (ty := .int) d_Tx_at_22 rfl rfl rfl (Nat.le_refl _) ?_
      exact ⟨rfl, by rw [gAt_n (i_big c9)]⟩
    · refine ex_aload_n (pc := 12) (i := 0) d_Tx_at_12 rfl rfl ?_
      refine ex_getr (pc := 13) 10 0 d_Tx_at_13 FL_Tx_9 (Nat.le_of_ble_eq_true rfl) rfl rfl ?_
      refine ex_iload_n (pc := 16) (i := 1) d_Tx_at_16 rfl rfl ?_
      refine ex_caldx (pc := 17) x.toInt.toNat (iv 40 x.toInt.toNat) d_Tx_at_17 (Nat.le_of_ble_eq_true rfl) rfl rfl rfl (gAt_i c1 (i_nle c9) hb).1 (gAt_i c1 (i_nle c9) hb).2 rfl ?_
      refine ex_goto (pc := 18) (tgt := 22) d_Tx_at_18 rfl ?_
      refine ex_iret (ty := .int) d_Tx_at_22 rfl rfl rfl (Nat.le_refl _) ?_
      exact ⟨rfl, by rw [gAt_y c1 (i_nle c9)]⟩

set_option maxRecDepth 100000 in
set_option maxHeartbeats 4000000 in
theorem ct_Fo_at (l : Launch) (G : ex_G) (iv : Nat → Nat → Int32) (mp : Nat → Nat) (sp mo : Nat) (x : Int32) (hb : (iv 82 4).toInt ≤ ((694 : Nat) : Int)) : CT l G 0 M_Fo_at [.ref 82, .int x] (HP iv mp sp mo) 0 0 (fun r h' => h' = HP iv mp sp mo ∧ r = some (.int (gAt (iv 82 4) (iv 83) x))) := by
  refine ex_enter (by decide) (Nat.le_of_ble_eq_true rfl) (fun v hv => by simp at hv; rcases hv with rfl | rfl <;> rfl) (fun p e s m args below meth c => ?_)
  refine ex_iload_n (pc := 0) (i := 1) d_Fo_at_0 rfl rfl ?_
  refine ex_if_lt (pc := 1) (tgt := 21) d_Fo_at_1 rfl (fun c1 => ?_) (fun c1 => ?_)
  · refine ex_iconst (pc := 21) (v := (-1)) d_Fo_at_21 (by decide) ?_
    refine ex_iret (ty := .int) d_Fo_at_22 rfl rfl rfl (Nat.le_refl _) ?_
    exact ⟨rfl, by rw [gAt_n (i_neg c1)]⟩
  · refine ex_iload_n (pc := 4) (i := 1) d_Fo_at_4 rfl rfl ?_
    refine ex_aload_n (pc := 5) (i := 0) d_Fo_at_5 rfl rfl ?_
    refine ex_getx (pc := 6) 5 4 (iv 82 4) d_Fo_at_6 FL_Fo_27 (Nat.le_of_ble_eq_true rfl) rfl rfl ?_
    refine ex_icmp_ge (pc := 9) (tgt := 21) d_Fo_at_9 rfl (fun c9 => ?_) (fun c9 => ?_)
    · refine ex_iconst (pc := 21) (v := (-1)) d_Fo_at_21 (by decide) ?_
      refine ex_iret (ty := .int) d_Fo_at_22 rfl rfl rfl (Nat.le_refl _) ?_
      exact ⟨rfl, by rw [gAt_n (i_big c9)]⟩
    · refine ex_aload_n (pc := 12) (i := 0) d_Fo_at_12 rfl rfl ?_
      refine ex_getr (pc := 13) 5 3 d_Fo_at_13 FL_Fo_9 (Nat.le_of_ble_eq_true rfl) rfl rfl ?_
      refine ex_iload_n (pc := 16) (i := 1) d_Fo_at_16 rfl rfl ?_
      refine ex_caldx (pc := 17) x.toInt.toNat (iv 83 x.toInt.toNat) d_Fo_at_17 (Nat.le_of_ble_eq_true rfl) rfl rfl rfl (gAt_i c1 (i_nle c9) hb).1 (gAt_i c1 (i_nle c9) hb).2 rfl ?_
      refine ex_goto (pc := 18) (tgt := 22) d_Fo_at_18 rfl ?_
      refine ex_iret (ty := .int) d_Fo_at_22 rfl rfl rfl (Nat.le_refl _) ?_
      exact ⟨rfl, by rw [gAt_y c1 (i_nle c9)]⟩

set_option maxRecDepth 100000 in
set_option maxHeartbeats 4000000 in
theorem ct_RF_character (l : Launch) (G : ex_G) (iv : Nat → Nat → Int32) (mp : Nat → Nat) (sp mo : Nat) (x : Int32) (hb : (iv 92 14).toInt ≤ ((100 : Nat) : Int)) : CT l G 0 M_RF_character [.ref 92, .int x] (HP iv mp sp mo) 0 0 (fun r h' => h' = HP iv mp sp mo ∧ r = some (.int (gAt (iv 92 14) (iv 106) x))) := by
  refine ex_enter (by decide) (Nat.le_of_ble_eq_true rfl) (fun v hv => by simp at hv; rcases hv with rfl | rfl <;> rfl) (fun p e s m args below meth c => ?_)
  refine ex_iload_n (pc := 0) (i := 1) d_RF_character_0 rfl rfl ?_
  refine ex_if_lt (pc := 1) (tgt := 12) d_RF_character_1 rfl (fun c1 => ?_) (fun c1 => ?_)
  · refine ex_iconst (pc := 12) (v := (-1)) d_RF_character_12 (by decide) ?_
    refine ex_goto (pc := 13) (tgt := 22) d_RF_character_13 rfl ?_
    refine ex_iret (ty := .int) d_RF_character_22 rfl rfl rfl (Nat.le_refl _) ?_
    exact ⟨rfl, by rw [gAt_n (i_neg c1)]⟩
  · refine ex_iload_n (pc := 4) (i := 1) d_RF_character_4 rfl rfl ?_
    refine ex_aload_n (pc := 5) (i := 0) d_RF_character_5 rfl rfl ?_
    refine ex_getx (pc := 6) 12 14 (iv 92 14) d_RF_character_6 FL_RF_179 (Nat.le_of_ble_eq_true rfl) rfl rfl ?_
    refine ex_icmp_lt (pc := 9) (tgt := 16) d_RF_character_9 rfl (fun c9 => ?_) (fun c9 => ?_)
    · refine ex_aload_n (pc := 16) (i := 0) d_RF_character_16 rfl rfl ?_
      refine ex_getr (pc := 17) 12 15 d_RF_character_17 FL_RF_50 (Nat.le_of_ble_eq_true rfl) rfl rfl ?_
      refine ex_iload_n (pc := 20) (i := 1) d_RF_character_20 rfl rfl ?_
      refine ex_ialdx (pc := 21) x.toInt.toNat (iv 106 x.toInt.toNat) d_RF_character_21 (Nat.le_of_ble_eq_true rfl) rfl rfl rfl (gAt_i c1 (i_lt.mp c9) hb).1 (gAt_i c1 (i_lt.mp c9) hb).2 rfl ?_
      refine ex_iret (ty := .int) d_RF_character_22 rfl rfl rfl (Nat.le_refl _) ?_
      exact ⟨rfl, by rw [gAt_y c1 (i_lt.mp c9)]⟩
    · refine ex_iconst (pc := 12) (v := (-1)) d_RF_character_12 (by decide) ?_
      refine ex_goto (pc := 13) (tgt := 22) d_RF_character_13 rfl ?_
      refine ex_iret (ty := .int) d_RF_character_22 rfl rfl rfl (Nat.le_refl _) ?_
      exact ⟨rfl, by rw [gAt_n (i_big (Int32.not_lt.mp c9))]⟩

set_option maxRecDepth 100000 in
set_option maxHeartbeats 4000000 in
theorem ct_RF_formed (l : Launch) (G : ex_G) (iv : Nat → Nat → Int32) (mp : Nat → Nat) (sp mo : Nat) (x : Int32) (hb : (iv 92 42).toInt ≤ ((900 : Nat) : Int)) : CT l G 0 M_RF_formed [.ref 92, .int x] (HP iv mp sp mo) 0 0 (fun r h' => h' = HP iv mp sp mo ∧ r = some (.int (gAt (iv 92 42) (iv 128) x))) := by
  refine ex_enter (by decide) (Nat.le_of_ble_eq_true rfl) (fun v hv => by simp at hv; rcases hv with rfl | rfl <;> rfl) (fun p e s m args below meth c => ?_)
  refine ex_iload_n (pc := 0) (i := 1) d_RF_formed_0 rfl rfl ?_
  refine ex_if_lt (pc := 1) (tgt := 12) d_RF_formed_1 rfl (fun c1 => ?_) (fun c1 => ?_)
  · refine ex_iconst (pc := 12) (v := (-1)) d_RF_formed_12 (by decide) ?_
    refine ex_goto (pc := 13) (tgt := 22) d_RF_formed_13 rfl ?_
    refine ex_iret (ty := .int) d_RF_formed_22 rfl rfl rfl (Nat.le_refl _) ?_
    exact ⟨rfl, by rw [gAt_n (i_neg c1)]⟩
  · refine ex_iload_n (pc := 4) (i := 1) d_RF_formed_4 rfl rfl ?_
    refine ex_aload_n (pc := 5) (i := 0) d_RF_formed_5 rfl rfl ?_
    refine ex_getx (pc := 6) 12 42 (iv 92 42) d_RF_formed_6 FL_RF_234 (Nat.le_of_ble_eq_true rfl) rfl rfl ?_
    refine ex_icmp_lt (pc := 9) (tgt := 16) d_RF_formed_9 rfl (fun c9 => ?_) (fun c9 => ?_)
    · refine ex_aload_n (pc := 16) (i := 0) d_RF_formed_16 rfl rfl ?_
      refine ex_getr (pc := 17) 12 43 d_RF_formed_17 FL_RF_116 (Nat.le_of_ble_eq_true rfl) rfl rfl ?_
      refine ex_iload_n (pc := 20) (i := 1) d_RF_formed_20 rfl rfl ?_
      refine ex_ialdx (pc := 21) x.toInt.toNat (iv 128 x.toInt.toNat) d_RF_formed_21 (Nat.le_of_ble_eq_true rfl) rfl rfl rfl (gAt_i c1 (i_lt.mp c9) hb).1 (gAt_i c1 (i_lt.mp c9) hb).2 rfl ?_
      refine ex_iret (ty := .int) d_RF_formed_22 rfl rfl rfl (Nat.le_refl _) ?_
      exact ⟨rfl, by rw [gAt_y c1 (i_lt.mp c9)]⟩
    · refine ex_iconst (pc := 12) (v := (-1)) d_RF_formed_12 (by decide) ?_
      refine ex_goto (pc := 13) (tgt := 22) d_RF_formed_13 rfl ?_
      refine ex_iret (ty := .int) d_RF_formed_22 rfl rfl rfl (Nat.le_refl _) ?_
      exact ⟨rfl, by rw [gAt_n (i_big (Int32.not_lt.mp c9))]⟩

set_option maxRecDepth 100000 in
set_option maxHeartbeats 4000000 in
theorem ct_TG_inbox (l : Launch) (G : ex_G) (iv : Nat → Nat → Int32) (mp : Nat → Nat) (sp mo : Nat) : CT l G 0 M_TG_inbox [.ref 0] (HP iv mp sp mo) 0 0 (fun r h' => h' = HP iv mp sp mo ∧ r = some (.int (iv 84 4))) := by
  refine ex_enter (by decide) (Nat.le_of_ble_eq_true rfl) (fun v hv => by simp at hv; rcases hv with rfl <;> rfl) (fun p e s m args below meth c => ?_)
  refine ex_aload_n (pc := 0) (i := 0) d_TG_inbox_0 rfl rfl ?_
  refine ex_getr (pc := 1) 0 7 d_TG_inbox_1 FL_TG_67 (Nat.le_of_ble_eq_true rfl) rfl rfl ?_
  refine ex_getx (pc := 4) 6 4 (iv 84 4) d_TG_inbox_4 FL_TG_127 (Nat.le_of_ble_eq_true rfl) rfl rfl ?_
  refine ex_iret (ty := .int) d_TG_inbox_7 rfl rfl rfl (Nat.le_refl _) ?_
  exact ⟨rfl, rfl⟩

set_option maxRecDepth 100000 in
set_option maxHeartbeats 4000000 in
theorem ct_TG_length (l : Launch) (G : ex_G) (iv : Nat → Nat → Int32) (mp : Nat → Nat) (sp mo : Nat) : CT l G 0 M_TG_length [.ref 0] (HP iv mp sp mo) 0 0 (fun r h' => h' = HP iv mp sp mo ∧ r = some (.int (iv 39 1))) := by
  refine ex_enter (by decide) (Nat.le_of_ble_eq_true rfl) (fun v hv => by simp at hv; rcases hv with rfl <;> rfl) (fun p e s m args below meth c => ?_)
  refine ex_aload_n (pc := 0) (i := 0) d_TG_length_0 rfl rfl ?_
  refine ex_getr (pc := 1) 0 3 d_TG_length_1 FL_TG_35 (Nat.le_of_ble_eq_true rfl) rfl rfl ?_
  refine ex_getx (pc := 4) 10 1 (iv 39 1) d_TG_length_4 FL_TG_161 (Nat.le_of_ble_eq_true rfl) rfl rfl ?_
  refine ex_iret (ty := .int) d_TG_length_7 rfl rfl rfl (Nat.le_refl _) ?_
  exact ⟨rfl, rfl⟩

set_option maxRecDepth 100000 in
set_option maxHeartbeats 4000000 in
theorem ct_TG_fertile (l : Launch) (G : ex_G) (iv : Nat → Nat → Int32) (mp : Nat → Nat) (sp mo : Nat) : CT l G 0 M_TG_fertile [.ref 0] (HP iv mp sp mo) 0 0 (fun r h' => h' = HP iv mp sp mo ∧ r = some (.int (iv 7 2))) := by
  refine ex_enter (by decide) (Nat.le_of_ble_eq_true rfl) (fun v hv => by simp at hv; rcases hv with rfl <;> rfl) (fun p e s m args below meth c => ?_)
  refine ex_aload_n (pc := 0) (i := 0) d_TG_fertile_0 rfl rfl ?_
  refine ex_getr (pc := 1) 0 2 d_TG_fertile_1 FL_TG_28 (Nat.le_of_ble_eq_true rfl) rfl rfl ?_
  refine ex_getx (pc := 4) 9 2 (iv 7 2) d_TG_fertile_4 FL_TG_180 (Nat.le_of_ble_eq_true rfl) rfl rfl ?_
  refine ex_iret (ty := .int) d_TG_fertile_7 rfl rfl rfl (Nat.le_refl _) ?_
  exact ⟨rfl, rfl⟩

set_option maxRecDepth 100000 in
set_option maxHeartbeats 4000000 in
theorem ct_RF_inbox (l : Launch) (G : ex_G) (iv : Nat → Nat → Int32) (mp : Nat → Nat) (sp mo : Nat) : CT l G 0 M_RF_inbox [.ref 92] (HP iv mp sp mo) 0 0 (fun r h' => h' = HP iv mp sp mo ∧ r = some (.int (iv 92 32))) := by
  refine ex_enter (by decide) (Nat.le_of_ble_eq_true rfl) (fun v hv => by simp at hv; rcases hv with rfl <;> rfl) (fun p e s m args below meth c => ?_)
  refine ex_aload_n (pc := 0) (i := 0) d_RF_inbox_0 rfl rfl ?_
  refine ex_getx (pc := 1) 12 32 (iv 92 32) d_RF_inbox_1 FL_RF_261 (Nat.le_of_ble_eq_true rfl) rfl rfl ?_
  refine ex_iret (ty := .int) d_RF_inbox_4 rfl rfl rfl (Nat.le_refl _) ?_
  exact ⟨rfl, rfl⟩

set_option maxRecDepth 100000 in
set_option maxHeartbeats 4000000 in
theorem ct_RF_length (l : Launch) (G : ex_G) (iv : Nat → Nat → Int32) (mp : Nat → Nat) (sp mo : Nat) : CT l G 0 M_RF_length [.ref 92] (HP iv mp sp mo) 0 0 (fun r h' => h' = HP iv mp sp mo ∧ r = some (.int (iv 92 14))) := by
  refine ex_enter (by decide) (Nat.le_of_ble_eq_true rfl) (fun v hv => by simp at hv; rcases hv with rfl <;> rfl) (fun p e s m args below meth c => ?_)
  refine ex_aload_n (pc := 0) (i := 0) d_RF_length_0 rfl rfl ?_
  refine ex_getx (pc := 1) 12 14 (iv 92 14) d_RF_length_1 FL_RF_179 (Nat.le_of_ble_eq_true rfl) rfl rfl ?_
  refine ex_iret (ty := .int) d_RF_length_4 rfl rfl rfl (Nat.le_refl _) ?_
  exact ⟨rfl, rfl⟩

set_option maxRecDepth 100000 in
set_option maxHeartbeats 4000000 in
theorem ct_TG_character (l : Launch) (G : ex_G) (iv : Nat → Nat → Int32) (mp : Nat → Nat) (sp mo : Nat) (x : Int32) (hb : (iv 39 1).toInt ≤ ((100 : Nat) : Int)) : CT l G 1 M_TG_character [.ref 0, .int x] (HP iv mp sp mo) 0 0 (fun r h' => h' = HP iv mp sp mo ∧ r = some (.int (gAt (iv 39 1) (iv 40) x))) := by
  refine ex_enter (by decide) (Nat.le_of_ble_eq_true rfl) (fun v hv => by simp at hv; rcases hv with rfl | rfl <;> rfl) (fun p e s m args below meth c => ?_)
  refine ex_aload_n (pc := 0) (i := 0) d_TG_character_0 rfl rfl ?_
  refine ex_getr (pc := 1) 0 3 d_TG_character_1 FL_TG_35 (Nat.le_of_ble_eq_true rfl) rfl rfl ?_
  refine ex_iload_n (pc := 4) (i := 1) d_TG_character_4 rfl rfl ?_
  refine ex_callV (pc := 5) (M' := M_Tx_at) (as := [.int x]) (st := []) d_TG_character_5 MW_Tx_at MI_Tx_at LK_TG_162 (Nat.le_of_ble_eq_true rfl) rfl rfl rfl (ct_Tx_at l G iv mp sp mo x hb) (ex_lt_rm (by decide)) ⟨Nat.le_refl _, Nat.le_refl _⟩ rfl rfl (Nat.le_of_ble_eq_true rfl) ?_
  rintro _ _ ⟨rfl, rfl⟩
  refine ex_iret (ty := .int) d_TG_character_8 rfl rfl rfl (Nat.le_refl _) ?_
  exact ⟨rfl, rfl⟩

set_option maxRecDepth 100000 in
set_option maxHeartbeats 4000000 in
theorem ct_TG_formed (l : Launch) (G : ex_G) (iv : Nat → Nat → Int32) (mp : Nat → Nat) (sp mo : Nat) (x : Int32) (hb : (iv 82 4).toInt ≤ ((694 : Nat) : Int)) : CT l G 1 M_TG_formed [.ref 0, .int x] (HP iv mp sp mo) 0 0 (fun r h' => h' = HP iv mp sp mo ∧ r = some (.int (gAt (iv 82 4) (iv 83) x))) := by
  refine ex_enter (by decide) (Nat.le_of_ble_eq_true rfl) (fun v hv => by simp at hv; rcases hv with rfl | rfl <;> rfl) (fun p e s m args below meth c => ?_)
  refine ex_aload_n (pc := 0) (i := 0) d_TG_formed_0 rfl rfl ?_
  refine ex_getr (pc := 1) 0 6 d_TG_formed_1 FL_TG_60 (Nat.le_of_ble_eq_true rfl) rfl rfl ?_
  refine ex_iload_n (pc := 4) (i := 1) d_TG_formed_4 rfl rfl ?_
  refine ex_callV (pc := 5) (M' := M_Fo_at) (as := [.int x]) (st := []) d_TG_formed_5 MW_Fo_at MI_Fo_at LK_TG_183 (Nat.le_of_ble_eq_true rfl) rfl rfl rfl (ct_Fo_at l G iv mp sp mo x hb) (ex_lt_rm (by decide)) ⟨Nat.le_refl _, Nat.le_refl _⟩ rfl rfl (Nat.le_of_ble_eq_true rfl) ?_
  rintro _ _ ⟨rfl, rfl⟩
  refine ex_iret (ty := .int) d_TG_formed_8 rfl rfl rfl (Nat.le_refl _) ?_
  exact ⟨rfl, rfl⟩

theorem nar_c {x : Int32} (h0 : 0 ≤ x.toInt) (h1 : x.toInt < 65536) : vp_nar .char x = x := by
  have e := i_of x h0
  rw [e]
  have h2 : x.toInt.toNat < 65536 := by omega
  have h3 := (pk_charN h2).1
  show (match narrow .char (.int (nI x.toInt.toNat)) with | .int y => y | _ => nI x.toInt.toNat) = _
  rw [h3]
theorem wr_r {x : Int32} (h : wrB x = true) : 32 ≤ x.toInt ∧ x.toInt ≤ 126 := by
  simp only [wrB, Bool.and_eq_true, decide_eq_true_eq] at h
  exact h
theorem nI_s (n : Nat) : nI n + nI 1 = nI (n + 1) := nI_add n 1
/-- a character behind n others, and the number of them -/
def apH (iv : Nat → Nat → Int32) (o k a n : Nat) (c : Int32) : Nat → Nat → Int32 := ex_u2 (ex_u2 iv a n c) o k (nI (n + 1))
set_option maxRecDepth 100000 in
set_option maxHeartbeats 4000000 in
theorem ct_Dr_append (l : Launch) (G : ex_G) (iv : Nat → Nat → Int32) (mp : Nat → Nat) (sp mo : Nat) (n : Nat) (ch : Int32) (hn : iv 1 1 = nI n) (hl : n ≤ 40) : CT l G 1 M_Dr_append [.ref 1, .int ch] (HP iv mp sp mo) 0 0 (fun r h' => h' = (if wrB ch = true ∧ n < 40 then HP (apH iv 1 1 2 n ch) mp sp mo else HP iv mp sp mo) ∧ r = some (.int (b2i (wrB ch && decide (n < 40))))) := by
  refine ex_enter (by decide) (Nat.le_of_ble_eq_true rfl) (fun v hv => by simp at hv; rcases hv with rfl | rfl <;> rfl) (fun p e s m args below meth c => ?_)
  refine ex_iload_n (pc := 0) (i := 1) d_Dr_append_0 rfl rfl ?_
  refine ex_callS (pc := 1) (M' := M_TG_isWritable) (as := [.int ch]) (st := []) d_Dr_append_1 MW_TG_isWritable ST_TG_isWritable LK_Dr_15 (ct_TG_isWritable l G (HP iv mp sp mo) ch) (ex_lt_rm (by decide)) ⟨Nat.le_refl _, Nat.le_refl _⟩ rfl rfl (Nat.le_of_ble_eq_true rfl) ?_
  rintro _ _ ⟨rfl, rfl⟩
  refine ex_if_eq (pc := 4) (tgt := 16) d_Dr_append_4 rfl (fun c4 => ?_) (fun c4 => ?_)
  · refine ex_iconst (pc := 16) (v := (nI 0)) d_Dr_append_16 (by decide) ?_
    refine ex_iret (ty := .boolean) d_Dr_append_17 rfl rfl rfl (Nat.le_refl _) ?_
    rw [b2i_0 c4]
    exact ⟨rfl, rfl⟩
  · have hw := b2i_1 c4
    refine ex_aload_n (pc := 7) (i := 0) d_Dr_append_7 rfl rfl ?_
    refine ex_getx (pc := 8) 2 1 (nI n) d_Dr_append_8 FL_Dr_19 (Nat.le_of_ble_eq_true rfl) rfl hn ?_
    refine ex_bipush (pc := 11) (v := (nI 40)) d_Dr_append_11 (by decide) ?_
    refine ex_icmp_lt (pc := 13) (tgt := 18) d_Dr_append_13 rfl (fun c13 => ?_) (fun c13 => ?_)
    · have h40 : n < 40 := by
        have q1 := i_lt.mp c13
        rw [nI_t (by omega), nI_t (by omega)] at q1
        omega
      refine ex_aload_n (pc := 18) (i := 0) d_Dr_append_18 rfl rfl ?_
      refine ex_getr (pc := 19) 2 0 d_Dr_append_19 FL_Dr_9 (Nat.le_of_ble_eq_true rfl) rfl rfl ?_
      refine ex_aload_n (pc := 22) (i := 0) d_Dr_append_22 rfl rfl ?_
      refine ex_getx (pc := 23) 2 1 (nI n) d_Dr_append_23 FL_Dr_19 (Nat.le_of_ble_eq_true rfl) rfl hn ?_
      refine ex_iload_n (pc := 26) (i := 1) d_Dr_append_26 rfl rfl ?_
      refine ex_cast (pc := 27) n d_Dr_append_27 (Nat.le_of_ble_eq_true rfl) rfl rfl rfl (nI_t (by omega)) (show n < 40 from h40) ?_
      refine ex_aload_n (pc := 28) (i := 0) d_Dr_append_28 rfl rfl ?_
      refine ex_dup (pc := 29) d_Dr_append_29 rfl ?_
      refine ex_getx (pc := 30) 2 1 (nI n) d_Dr_append_30 FL_Dr_19 (Nat.le_of_ble_eq_true rfl) rfl hn ?_
      refine ex_iconst (pc := 33) (v := (nI 1)) d_Dr_append_33 (by decide) ?_
      refine ex_iadd (pc := 34) d_Dr_append_34 ?_
      refine ex_puti (pc := 35) 2 1 .int d_Dr_append_35 (PF_Dr_19 _) (Nat.le_of_ble_eq_true rfl) rfl rfl rfl ?_
      refine ex_heap (h' := HP (apH iv 1 1 2 n ch) mp sp mo) ?_ ?_
      · rw [nar_c (by have := wr_r hw; omega) (by have := wr_r hw; omega), nI_s]
        rfl
      refine ex_iconst (pc := 38) (v := (nI 1)) d_Dr_append_38 (by decide) ?_
      refine ex_iret (ty := .boolean) d_Dr_append_39 rfl rfl rfl (Nat.le_refl _) ?_
      rw [if_pos ⟨hw, h40⟩, decide_eq_true h40, hw]
      exact ⟨rfl, rfl⟩
    · refine ex_iconst (pc := 16) (v := (nI 0)) d_Dr_append_16 (by decide) ?_
      refine ex_iret (ty := .boolean) d_Dr_append_17 rfl rfl rfl (Nat.le_refl _) ?_
      have h40 : ¬ n < 40 := by
        have q1 := i_nlt c13
        rw [nI_t (by omega), nI_t (by omega)] at q1
        omega
      rw [if_neg (fun q => h40 q.2), decide_eq_false h40, hw]
      exact ⟨rfl, rfl⟩

set_option maxRecDepth 100000 in
set_option maxHeartbeats 4000000 in
theorem ct_TG_write (l : Launch) (G : ex_G) (iv : Nat → Nat → Int32) (mp : Nat → Nat) (sp mo : Nat) (n : Nat) (ch : Int32) (hn : iv 1 1 = nI n) (hl : n ≤ 40) : CT l G 2 M_TG_write [.ref 0, .int ch] (HP iv mp sp mo) 0 0 (fun r h' => h' = (if wrB ch = true ∧ n < 40 then HP (apH iv 1 1 2 n ch) mp sp mo else HP iv mp sp mo) ∧ r = some (.int (b2i (wrB ch && decide (n < 40))))) := by
  refine ex_enter (by decide) (Nat.le_of_ble_eq_true rfl) (fun v hv => by simp at hv; rcases hv with rfl | rfl <;> rfl) (fun p e s m args below meth c => ?_)
  refine ex_aload_n (pc := 0) (i := 0) d_TG_write_0 rfl rfl ?_
  refine ex_getr (pc := 1) 0 0 d_TG_write_1 FL_TG_12 (Nat.le_of_ble_eq_true rfl) rfl rfl ?_
  refine ex_iload_n (pc := 4) (i := 1) d_TG_write_4 rfl rfl ?_
  refine ex_callV (pc := 5) (M' := M_Dr_append) (as := [.int ch]) (st := []) d_TG_write_5 MW_Dr_append MI_Dr_append LK_TG_82 (Nat.le_of_ble_eq_true rfl) rfl rfl rfl (ct_Dr_append l G iv mp sp mo n ch hn hl) (ex_lt_rm (by decide)) ⟨Nat.le_refl _, Nat.le_refl _⟩ rfl rfl (Nat.le_of_ble_eq_true rfl) ?_
  rintro _ _ ⟨rfl, rfl⟩
  refine ex_iret (ty := .boolean) d_TG_write_8 rfl (b2i_n _) rfl (Nat.le_refl _) ?_
  exact ⟨rfl, rfl⟩

set_option maxRecDepth 100000 in
set_option maxHeartbeats 4000000 in
theorem ct_RF_write (l : Launch) (G : ex_G) (iv : Nat → Nat → Int32) (mp : Nat → Nat) (sp mo : Nat) (n : Nat) (ch : Int32) (hn : iv 92 0 = nI n) (hl : n ≤ 40) : CT l G 0 M_RF_write [.ref 92, .int ch] (HP iv mp sp mo) 0 0 (fun r h' => h' = (if wrB ch = true ∧ n < 40 then HP (apH iv 92 0 93 n ch) mp sp mo else HP iv mp sp mo) ∧ r = some (.int (b2i (wrB ch && decide (n < 40))))) := by
  refine ex_enter (by decide) (Nat.le_of_ble_eq_true rfl) (fun v hv => by simp at hv; rcases hv with rfl | rfl <;> rfl) (fun p e s m args below meth c => ?_)
  refine ex_iload_n (pc := 0) (i := 1) d_RF_write_0 rfl rfl ?_
  refine ex_bipush (pc := 1) (v := (nI 32)) d_RF_write_1 (by decide) ?_
  refine ex_icmp_lt (pc := 3) (tgt := 21) d_RF_write_3 rfl (fun c3 => ?_) (fun c3 => ?_)
  · refine ex_iconst (pc := 21) (v := (nI 0)) d_RF_write_21 (by decide) ?_
    refine ex_iret (ty := .boolean) d_RF_write_22 rfl rfl rfl (Nat.le_refl _) ?_
    rw [wr_2 c3]
    exact ⟨rfl, rfl⟩
  · refine ex_iload_n (pc := 6) (i := 1) d_RF_write_6 rfl rfl ?_
    refine ex_bipush (pc := 7) (v := (nI 126)) d_RF_write_7 (by decide) ?_
    refine ex_icmp_gt (pc := 9) (tgt := 21) d_RF_write_9 rfl (fun c9 => ?_) (fun c9 => ?_)
    · refine ex_iconst (pc := 21) (v := (nI 0)) d_RF_write_21 (by decide) ?_
      refine ex_iret (ty := .boolean) d_RF_write_22 rfl rfl rfl (Nat.le_refl _) ?_
      rw [wr_3 c9]
      exact ⟨rfl, rfl⟩
    · refine ex_aload_n (pc := 12) (i := 0) d_RF_write_12 rfl rfl ?_
      refine ex_getx (pc := 13) 12 0 (nI n) d_RF_write_13 FL_RF_119 (Nat.le_of_ble_eq_true rfl) rfl hn ?_
      refine ex_bipush (pc := 16) (v := (nI 40)) d_RF_write_16 (by decide) ?_
      refine ex_icmp_ne (pc := 18) (tgt := 23) d_RF_write_18 rfl (fun c18 => ?_) (fun c18 => ?_)
      · have h40 : n < 40 := by
          have q1 : n ≠ 40 := fun q => c18 (by rw [q])
          omega
        have hw := wr_1 c3 c9
        refine ex_aload_n (pc := 23) (i := 0) d_RF_write_23 rfl rfl ?_
        refine ex_getr (pc := 24) 12 1 d_RF_write_24 FL_RF_7 (Nat.le_of_ble_eq_true rfl) rfl rfl ?_
        refine ex_aload_n (pc := 27) (i := 0) d_RF_write_27 rfl rfl ?_
        refine ex_getx (pc := 28) 12 0 (nI n) d_RF_write_28 FL_RF_119 (Nat.le_of_ble_eq_true rfl) rfl hn ?_
        refine ex_iload_n (pc := 31) (i := 1) d_RF_write_31 rfl rfl ?_
        refine ex_iast (pc := 32) n d_RF_write_32 (Nat.le_of_ble_eq_true rfl) rfl rfl rfl (nI_t (by omega)) (show n < 40 from h40) ?_
        refine ex_aload_n (pc := 33) (i := 0) d_RF_write_33 rfl rfl ?_
        refine ex_dup (pc := 34) d_RF_write_34 rfl ?_
        refine ex_getx (pc := 35) 12 0 (nI n) d_RF_write_35 FL_RF_119 (Nat.le_of_ble_eq_true rfl) rfl hn ?_
        refine ex_iconst (pc := 38) (v := (nI 1)) d_RF_write_38 (by decide) ?_
        refine ex_iadd (pc := 39) d_RF_write_39 ?_
        refine ex_puti (pc := 40) 12 0 .int d_RF_write_40 (PF_RF_119 _) (Nat.le_of_ble_eq_true rfl) rfl rfl rfl ?_
        refine ex_heap (h' := HP (apH iv 92 0 93 n ch) mp sp mo) ?_ ?_
        · rw [nI_s]
          rfl
        refine ex_iconst (pc := 43) (v := (nI 1)) d_RF_write_43 (by decide) ?_
        refine ex_iret (ty := .boolean) d_RF_write_44 rfl rfl rfl (Nat.le_refl _) ?_
        rw [if_pos ⟨hw, h40⟩, decide_eq_true h40, hw]
        exact ⟨rfl, rfl⟩
      · refine ex_iconst (pc := 21) (v := (nI 0)) d_RF_write_21 (by decide) ?_
        refine ex_iret (ty := .boolean) d_RF_write_22 rfl rfl rfl (Nat.le_refl _) ?_
        have h40 : ¬ n < 40 := by
          have q1 := i_eq.mp c18
          rw [nI_t (by omega), nI_t (by omega)] at q1
          omega
        rw [if_neg (fun q => h40 q.2), decide_eq_false h40, wr_1 c3 c9]
        exact ⟨rfl, rfl⟩
end
section
/-! the inbox on both sides -/
abbrev EXM (M : ex_M) (l : Launch) (G : ex_G) (d : Nat) (Post : Option Value → ex_H → Prop) (p : Program) (e : Env) (s : State) (m : MethodId) (args : Array Value) (below : List Frame) (meth : Method) (c : Code) (pc : Nat) (L : List (Option Value)) (st : List Value) (h : ex_H) : Prop :=
  EX M l G (ex_rm d 0 0) (MQ below (ex_Q G 0 Post) args s 0 0 (fun q => G.1 ≤ q)) p e s m args below meth c 0 0 pc L st h
/-- the first place from i on, k places long, where P holds -/
def fndI (P : Nat → Bool) : Nat → Nat → Int32
  | 0, _ => -1
  | k + 1, i => if P i = true then nI i else fndI P k (i + 1)
theorem n_ge {a b : Nat} (ha : a ≤ 1000000) (hb : b ≤ 1000000) : nI a ≤ nI b ↔ a ≤ b := nI_leI (by omega) (by omega)
theorem n_lt {a b : Nat} (ha : a ≤ 1000000) (hb : b ≤ 1000000) : nI a < nI b ↔ a < b := nI_ltI (by omega) (by omega)
theorem n_eq {a b : Nat} (ha : a ≤ 1000000) (hb : b ≤ 1000000) : nI a = nI b ↔ a = b := nI_eq (by omega) (by omega)
set_option maxRecDepth 100000 in
set_option maxHeartbeats 4000000 in
theorem ct_In_isFull (l : Launch) (G : ex_G) (iv : Nat → Nat → Int32) (mp : Nat → Nat) (sp mo : Nat) (n : Nat) (hn : iv 84 4 = nI n) (hl : n ≤ 12) : CT l G 0 M_In_isFull [.ref 84] (HP iv mp sp mo) 0 0 (fun r h' => h' = HP iv mp sp mo ∧ r = some (.int (b2i (decide (n = 12))))) := by
  refine ex_enter (by decide) (Nat.le_of_ble_eq_true rfl) (fun v hv => by simp at hv; rcases hv with rfl <;> rfl) (fun p e s m args below meth c => ?_)
  refine ex_aload_n (pc := 0) (i := 0) d_In_isFull_0 rfl rfl ?_
  refine ex_getx (pc := 1) 6 4 (nI n) d_In_isFull_1 FL_In_24 (Nat.le_of_ble_eq_true rfl) rfl hn ?_
  refine ex_bipush (pc := 4) (v := (nI 12)) d_In_isFull_4 (by decide) ?_
  refine ex_icmp_lt (pc := 6) (tgt := 13) d_In_isFull_6 rfl (fun c6 => ?_) (fun c6 => ?_)
  · refine ex_iconst (pc := 13) (v := (nI 0)) d_In_isFull_13 (by decide) ?_
    refine ex_iret (ty := .boolean) d_In_isFull_14 rfl rfl rfl (Nat.le_refl _) ?_
    have q1 := (n_lt (by omega) (by omega)).mp c6
    rw [decide_eq_false (by omega)]
    exact ⟨rfl, rfl⟩
  · refine ex_iconst (pc := 9) (v := (nI 1)) d_In_isFull_9 (by decide) ?_
    refine ex_goto (pc := 10) (tgt := 14) d_In_isFull_10 rfl ?_
    refine ex_iret (ty := .boolean) d_In_isFull_14 rfl rfl rfl (Nat.le_refl _) ?_
    have q1 : ¬ n < 12 := fun q => c6 ((n_lt (by omega) (by omega)).mpr q)
    rw [decide_eq_true (by omega)]
    exact ⟨rfl, rfl⟩

/-- a message behind n others -/
def inPut (iv : Nat → Nat → Int32) (n : Nat) (k1 k2 k3 k4 : Int32) : Nat → Nat → Int32 := ex_u2 (ex_u2 (ex_u2 (ex_u2 (ex_u2 iv 85 n k1) 86 n k2) 87 n k3) 88 n k4) 84 4 (nI (n + 1))
set_option maxRecDepth 100000 in
set_option maxHeartbeats 4000000 in
theorem ct_In_put (l : Launch) (G : ex_G) (iv : Nat → Nat → Int32) (mp : Nat → Nat) (sp mo : Nat) (n : Nat) (k1 k2 k3 k4 : Int32) (hn : iv 84 4 = nI n) (hl : n ≤ 12) : CT l G 1 M_In_put [.ref 84, .int k1, .int k2, .int k3, .int k4] (HP iv mp sp mo) 0 0 (fun r h' => h' = (if n = 12 then HP iv mp sp mo else HP (inPut iv n k1 k2 k3 k4) mp sp mo) ∧ r = some (.int (b2i (decide (¬ n = 12))))) := by
  refine ex_enter (by decide) (Nat.le_of_ble_eq_true rfl) (fun v hv => by simp at hv; rcases hv with rfl | rfl | rfl | rfl | rfl <;> rfl) (fun p e s m args below meth c => ?_)
  refine ex_aload_n (pc := 0) (i := 0) d_In_put_0 rfl rfl ?_
  refine ex_callV (pc := 1) (M' := M_In_isFull) (as := []) (st := []) d_In_put_1 MW_In_isFull MI_In_isFull LK_In_28 (Nat.le_of_ble_eq_true rfl) rfl rfl rfl (ct_In_isFull l G iv mp sp mo n hn hl) (ex_lt_rm (by decide)) ⟨Nat.le_refl _, Nat.le_refl _⟩ rfl rfl (Nat.le_of_ble_eq_true rfl) ?_
  rintro _ _ ⟨rfl, rfl⟩
  refine ex_if_eq (pc := 4) (tgt := 9) d_In_put_4 rfl (fun c4 => ?_) (fun c4 => ?_)
  · have h13 := of_decide_eq_false (b2i_0 c4)
    have h12 : n < 12 := by omega
    refine ex_aload_n (pc := 9) (i := 0) d_In_put_9 rfl rfl ?_
    refine ex_getr (pc := 10) 6 0 d_In_put_10 FL_In_9 (Nat.le_of_ble_eq_true rfl) rfl rfl ?_
    refine ex_aload_n (pc := 13) (i := 0) d_In_put_13 rfl rfl ?_
    refine ex_getx (pc := 14) 6 4 (nI n) d_In_put_14 FL_In_24 (Nat.le_of_ble_eq_true rfl) rfl hn ?_
    refine ex_iload_n (pc := 17) (i := 1) d_In_put_17 rfl rfl ?_
    refine ex_iast (pc := 18) n d_In_put_18 (Nat.le_of_ble_eq_true rfl) rfl rfl rfl (nI_t (by omega)) (show n < 12 from h12) ?_
    refine ex_aload_n (pc := 19) (i := 0) d_In_put_19 rfl rfl ?_
    refine ex_getr (pc := 20) 6 1 d_In_put_20 FL_In_15 (Nat.le_of_ble_eq_true rfl) rfl rfl ?_
    refine ex_aload_n (pc := 23) (i := 0) d_In_put_23 rfl rfl ?_
    refine ex_getx (pc := 24) 6 4 (nI n) d_In_put_24 FL_In_24 (Nat.le_of_ble_eq_true rfl) rfl hn ?_
    refine ex_iload_n (pc := 27) (i := 2) d_In_put_27 rfl rfl ?_
    refine ex_iast (pc := 28) n d_In_put_28 (Nat.le_of_ble_eq_true rfl) rfl rfl rfl (nI_t (by omega)) (show n < 12 from h12) ?_
    refine ex_aload_n (pc := 29) (i := 0) d_In_put_29 rfl rfl ?_
    refine ex_getr (pc := 30) 6 2 d_In_put_30 FL_In_18 (Nat.le_of_ble_eq_true rfl) rfl rfl ?_
    refine ex_aload_n (pc := 33) (i := 0) d_In_put_33 rfl rfl ?_
    refine ex_getx (pc := 34) 6 4 (nI n) d_In_put_34 FL_In_24 (Nat.le_of_ble_eq_true rfl) rfl hn ?_
    refine ex_iload_n (pc := 37) (i := 3) d_In_put_37 rfl rfl ?_
    refine ex_iast (pc := 38) n d_In_put_38 (Nat.le_of_ble_eq_true rfl) rfl rfl rfl (nI_t (by omega)) (show n < 12 from h12) ?_
    refine ex_aload_n (pc := 39) (i := 0) d_In_put_39 rfl rfl ?_
    refine ex_getr (pc := 40) 6 3 d_In_put_40 FL_In_21 (Nat.le_of_ble_eq_true rfl) rfl rfl ?_
    refine ex_aload_n (pc := 43) (i := 0) d_In_put_43 rfl rfl ?_
    refine ex_getx (pc := 44) 6 4 (nI n) d_In_put_44 FL_In_24 (Nat.le_of_ble_eq_true rfl) rfl hn ?_
    refine ex_iload (pc := 47) d_In_put_47 rfl ?_
    refine ex_iast (pc := 49) n d_In_put_49 (Nat.le_of_ble_eq_true rfl) rfl rfl rfl (nI_t (by omega)) (show n < 12 from h12) ?_
    refine ex_aload_n (pc := 50) (i := 0) d_In_put_50 rfl rfl ?_
    refine ex_dup (pc := 51) d_In_put_51 rfl ?_
    refine ex_getx (pc := 52) 6 4 (nI n) d_In_put_52 FL_In_24 (Nat.le_of_ble_eq_true rfl) rfl hn ?_
    refine ex_iconst (pc := 55) (v := (nI 1)) d_In_put_55 (by decide) ?_
    refine ex_iadd (pc := 56) d_In_put_56 ?_
    refine ex_puti (pc := 57) 6 4 .int d_In_put_57 (PF_In_24 _) (Nat.le_of_ble_eq_true rfl) rfl rfl rfl ?_
    refine ex_heap (h' := HP (inPut iv n k1 k2 k3 k4) mp sp mo) ?_ ?_
    · rw [nI_s]
      rfl
    refine ex_iconst (pc := 60) (v := (nI 1)) d_In_put_60 (by decide) ?_
    refine ex_iret (ty := .boolean) d_In_put_61 rfl rfl rfl (Nat.le_refl _) ?_
    rw [if_neg h13, decide_eq_true h13]
    exact ⟨rfl, rfl⟩
  · refine ex_iconst (pc := 7) (v := (nI 0)) d_In_put_7 (by decide) ?_
    refine ex_iret (ty := .boolean) d_In_put_8 rfl rfl rfl (Nat.le_refl _) ?_
    have h13 := of_decide_eq_true (b2i_1 c4)
    rw [if_pos h13, decide_eq_false (fun q => q h13)]
    exact ⟨rfl, rfl⟩

set_option maxRecDepth 100000 in
set_option maxHeartbeats 4000000 in
theorem ct_TG_insert (l : Launch) (G : ex_G) (iv : Nat → Nat → Int32) (mp : Nat → Nat) (sp mo : Nat) (n : Nat) (k3 k4 : Int32) (hn : iv 84 4 = nI n) (hl : n ≤ 12) : CT l G 2 M_TG_insert [.ref 0, .int k3, .int k4] (HP iv mp sp mo) 0 0 (fun r h' => h' = (if n = 12 then HP iv mp sp mo else HP (inPut iv n (nI 4) (nI 0) k3 k4) mp sp mo) ∧ r = some (.int (b2i (decide (¬ n = 12))))) := by
  refine ex_enter (by decide) (Nat.le_of_ble_eq_true rfl) (fun v hv => by simp at hv; rcases hv with rfl | rfl | rfl <;> rfl) (fun p e s m args below meth c => ?_)
  refine ex_aload_n (pc := 0) (i := 0) d_TG_insert_0 rfl rfl ?_
  refine ex_getr (pc := 1) 0 7 d_TG_insert_1 FL_TG_67 (Nat.le_of_ble_eq_true rfl) rfl rfl ?_
  refine ex_iconst (pc := 4) (v := (nI 4)) d_TG_insert_4 (by decide) ?_
  refine ex_iconst (pc := 5) (v := (nI 0)) d_TG_insert_5 (by decide) ?_
  refine ex_iload_n (pc := 6) (i := 1) d_TG_insert_6 rfl rfl ?_
  refine ex_iload_n (pc := 7) (i := 2) d_TG_insert_7 rfl rfl ?_
  refine ex_callV (pc := 8) (M' := M_In_put) (as := [.int (nI 4), .int (nI 0), .int k3, .int k4]) (st := []) d_TG_insert_8 MW_In_put MI_In_put LK_TG_109 (Nat.le_of_ble_eq_true rfl) rfl rfl rfl (ct_In_put l G iv mp sp mo n (nI 4) (nI 0) k3 k4 hn hl) (ex_lt_rm (by decide)) ⟨Nat.le_refl _, Nat.le_refl _⟩ rfl rfl (Nat.le_of_ble_eq_true rfl) ?_
  rintro _ _ ⟨rfl, rfl⟩
  refine ex_iret (ty := .boolean) d_TG_insert_11 rfl (b2i_n _) rfl (Nat.le_refl _) ?_
  exact ⟨rfl, rfl⟩

set_option maxRecDepth 100000 in
set_option maxHeartbeats 4000000 in
theorem ct_TG_erase (l : Launch) (G : ex_G) (iv : Nat → Nat → Int32) (mp : Nat → Nat) (sp mo : Nat) (n : Nat) (k3 k4 : Int32) (hn : iv 84 4 = nI n) (hl : n ≤ 12) : CT l G 2 M_TG_erase [.ref 0, .int k3, .int k4] (HP iv mp sp mo) 0 0 (fun r h' => h' = (if n = 12 then HP iv mp sp mo else HP (inPut iv n (nI 5) (nI 0) k3 k4) mp sp mo) ∧ r = some (.int (b2i (decide (¬ n = 12))))) := by
  refine ex_enter (by decide) (Nat.le_of_ble_eq_true rfl) (fun v hv => by simp at hv; rcases hv with rfl | rfl | rfl <;> rfl) (fun p e s m args below meth c => ?_)
  refine ex_aload_n (pc := 0) (i := 0) d_TG_erase_0 rfl rfl ?_
  refine ex_getr (pc := 1) 0 7 d_TG_erase_1 FL_TG_67 (Nat.le_of_ble_eq_true rfl) rfl rfl ?_
  refine ex_iconst (pc := 4) (v := (nI 5)) d_TG_erase_4 (by decide) ?_
  refine ex_iconst (pc := 5) (v := (nI 0)) d_TG_erase_5 (by decide) ?_
  refine ex_iload_n (pc := 6) (i := 1) d_TG_erase_6 rfl rfl ?_
  refine ex_iload_n (pc := 7) (i := 2) d_TG_erase_7 rfl rfl ?_
  refine ex_callV (pc := 8) (M' := M_In_put) (as := [.int (nI 5), .int (nI 0), .int k3, .int k4]) (st := []) d_TG_erase_8 MW_In_put MI_In_put LK_TG_109 (Nat.le_of_ble_eq_true rfl) rfl rfl rfl (ct_In_put l G iv mp sp mo n (nI 5) (nI 0) k3 k4 hn hl) (ex_lt_rm (by decide)) ⟨Nat.le_refl _, Nat.le_refl _⟩ rfl rfl (Nat.le_of_ble_eq_true rfl) ?_
  rintro _ _ ⟨rfl, rfl⟩
  refine ex_iret (ty := .boolean) d_TG_erase_11 rfl (b2i_n _) rfl (Nat.le_refl _) ?_
  exact ⟨rfl, rfl⟩

set_option maxRecDepth 100000 in
set_option maxHeartbeats 4000000 in
theorem lp_In_find {p : Program} {e : Env} {s : State} {m : MethodId} {args : Array Value} {below : List Frame} {meth : Method} {c : Code} (l : Launch) (G : ex_G) (iv : Nat → Nat → Int32) (mp : Nat → Nat) (sp mo : Nat) (x : Int32) (n : Nat) (hn : iv 84 4 = nI n) (hl : n ≤ 12) (v : Int32) : ∀ (k i : Nat), i + k = n → fndI (fun j => decide (iv 86 j = x)) k i = v → EXM M_In_find l G 0 (fun r h' => h' = HP iv mp sp mo ∧ r = some (.int v)) p e s m args below meth c 9 [some (.ref 84), some (.int x), some (.int (nI i))] [] (HP iv mp sp mo) := by
  intro k
  induction k with
  | zero =>
    intro i hik hv
    subst hv
    refine ex_iload_n (pc := 9) (i := 2) d_In_find_9 rfl rfl ?_
    refine ex_aload_n (pc := 10) (i := 0) d_In_find_10 rfl rfl ?_
    refine ex_getx (pc := 11) 6 4 (nI n) d_In_find_11 FL_In_24 (Nat.le_of_ble_eq_true rfl) rfl hn ?_
    refine ex_icmp_ge (pc := 14) (tgt := 35) d_In_find_14 rfl (fun c14 => ?_) (fun c14 => ?_)
    · refine ex_iconst (pc := 35) (v := (-1)) d_In_find_35 (by decide) ?_
      refine ex_iret (ty := .int) d_In_find_36 rfl rfl rfl (Nat.le_refl _) ?_
      exact ⟨rfl, rfl⟩
    · exact absurd ((n_ge (by omega) (by omega)).mpr (by omega)) c14
  | succ k ih =>
    intro i hik hv
    refine ex_iload_n (pc := 9) (i := 2) d_In_find_9 rfl rfl ?_
    refine ex_aload_n (pc := 10) (i := 0) d_In_find_10 rfl rfl ?_
    refine ex_getx (pc := 11) 6 4 (nI n) d_In_find_11 FL_In_24 (Nat.le_of_ble_eq_true rfl) rfl hn ?_
    refine ex_icmp_ge (pc := 14) (tgt := 35) d_In_find_14 rfl (fun c14 => ?_) (fun c14 => ?_)
    · exact absurd ((n_ge (by omega) (by omega)).mp c14) (by omega)
    · refine ex_aload_n (pc := 17) (i := 0) d_In_find_17 rfl rfl ?_
      refine ex_getr (pc := 18) 6 1 d_In_find_18 FL_In_15 (Nat.le_of_ble_eq_true rfl) rfl rfl ?_
      refine ex_iload_n (pc := 21) (i := 2) d_In_find_21 rfl rfl ?_
      refine ex_ialdx (pc := 22) i (iv 86 i) d_In_find_22 (Nat.le_of_ble_eq_true rfl) rfl rfl rfl (nI_t (by omega)) (show i < 12 by omega) rfl ?_
      refine ex_iload_n (pc := 23) (i := 1) d_In_find_23 rfl rfl ?_
      refine ex_icmp_ne (pc := 24) (tgt := 29) d_In_find_24 rfl (fun c24 => ?_) (fun c24 => ?_)
      · refine ex_iinc (pc := 29) (v := (nI (i + 1))) d_In_find_29 rfl (nI_1 i) (by decide) ?_
        refine ex_goto (pc := 32) (tgt := 9) d_In_find_32 rfl ?_
        exact ih (i + 1) (by omega) (by rw [fndI, if_neg (by simp [c24])] at hv; exact hv)
      · refine ex_iload_n (pc := 27) (i := 2) d_In_find_27 rfl rfl ?_
        refine ex_iret (ty := .int) d_In_find_28 rfl rfl rfl (Nat.le_refl _) ?_
        refine ⟨rfl, ?_⟩
        rw [← hv, fndI, if_pos (by simp [c24])]

set_option maxRecDepth 100000 in
set_option maxHeartbeats 4000000 in
theorem ct_In_find (l : Launch) (G : ex_G) (iv : Nat → Nat → Int32) (mp : Nat → Nat) (sp mo : Nat) (x : Int32) (n : Nat) (hn : iv 84 4 = nI n) (hl : n ≤ 12) : CT l G 0 M_In_find [.ref 84, .int x] (HP iv mp sp mo) 0 0 (fun r h' => h' = HP iv mp sp mo ∧ r = some (.int (if x.toInt < 1 then -1 else fndI (fun j => decide (iv 86 j = x)) n 0))) := by
  refine ex_enter (by decide) (Nat.le_of_ble_eq_true rfl) (fun v hv => by simp at hv; rcases hv with rfl | rfl <;> rfl) (fun p e s m args below meth c => ?_)
  refine ex_iload_n (pc := 0) (i := 1) d_In_find_0 rfl rfl ?_
  refine ex_iconst (pc := 1) (v := (nI 1)) d_In_find_1 (by decide) ?_
  refine ex_icmp_ge (pc := 2) (tgt := 7) d_In_find_2 rfl (fun c2 => ?_) (fun c2 => ?_)
  · refine ex_iconst (pc := 7) (v := (nI 0)) d_In_find_7 (by decide) ?_
    refine ex_istore_n (pc := 8) (i := 2) d_In_find_8 rfl (by decide) ?_
    rw [if_neg (by have q1 := i_le.mp c2; rw [nI_t (by omega)] at q1; omega)]
    exact lp_In_find l G iv mp sp mo x n hn hl _ n 0 (by omega) rfl
  · refine ex_iconst (pc := 5) (v := (-1)) d_In_find_5 (by decide) ?_
    refine ex_iret (ty := .int) d_In_find_6 rfl rfl rfl (Nat.le_refl _) ?_
    rw [if_pos (by have q1 := i_nle c2; rw [nI_t (by omega)] at q1; omega)]
    exact ⟨rfl, rfl⟩

set_option maxRecDepth 100000 in
set_option maxHeartbeats 4000000 in
theorem lp_RF_waitsAt {p : Program} {e : Env} {s : State} {m : MethodId} {args : Array Value} {below : List Frame} {meth : Method} {c : Code} (l : Launch) (G : ex_G) (iv : Nat → Nat → Int32) (mp : Nat → Nat) (sp mo : Nat) (x : Int32) (n : Nat) (hn : iv 92 32 = nI n) (hl : n ≤ 12) (v : Int32) : ∀ (k i : Nat), i + k = n → fndI (fun j => decide (iv 121 j = nI 2) && decide (iv 124 j = x)) k i = v → EXM M_RF_waitsAt l G 0 (fun r h' => h' = HP iv mp sp mo ∧ r = some (.int v)) p e s m args below meth c 2 [some (.ref 92), some (.int x), some (.int (nI i))] [] (HP iv mp sp mo) := by
  intro k
  induction k with
  | zero =>
    intro i hik hv
    subst hv
    refine ex_iload_n (pc := 2) (i := 2) d_RF_waitsAt_2 rfl rfl ?_
    refine ex_aload_n (pc := 3) (i := 0) d_RF_waitsAt_3 rfl rfl ?_
    refine ex_getx (pc := 4) 12 32 (nI n) d_RF_waitsAt_4 FL_RF_261 (Nat.le_of_ble_eq_true rfl) rfl hn ?_
    refine ex_icmp_ge (pc := 7) (tgt := 38) d_RF_waitsAt_7 rfl (fun c7 => ?_) (fun c7 => ?_)
    · refine ex_iconst (pc := 38) (v := (-1)) d_RF_waitsAt_38 (by decide) ?_
      refine ex_iret (ty := .int) d_RF_waitsAt_39 rfl rfl rfl (Nat.le_refl _) ?_
      exact ⟨rfl, rfl⟩
    · exact absurd ((n_ge (by omega) (by omega)).mpr (by omega)) c7
  | succ k ih =>
    intro i hik hv
    refine ex_iload_n (pc := 2) (i := 2) d_RF_waitsAt_2 rfl rfl ?_
    refine ex_aload_n (pc := 3) (i := 0) d_RF_waitsAt_3 rfl rfl ?_
    refine ex_getx (pc := 4) 12 32 (nI n) d_RF_waitsAt_4 FL_RF_261 (Nat.le_of_ble_eq_true rfl) rfl hn ?_
    refine ex_icmp_ge (pc := 7) (tgt := 38) d_RF_waitsAt_7 rfl (fun c7 => ?_) (fun c7 => ?_)
    · exact absurd ((n_ge (by omega) (by omega)).mp c7) (by omega)
    · refine ex_aload_n (pc := 10) (i := 0) d_RF_waitsAt_10 rfl rfl ?_
      refine ex_getr (pc := 11) 12 33 d_RF_waitsAt_11 FL_RF_95 (Nat.le_of_ble_eq_true rfl) rfl rfl ?_
      refine ex_iload_n (pc := 14) (i := 2) d_RF_waitsAt_14 rfl rfl ?_
      refine ex_ialdx (pc := 15) i (iv 121 i) d_RF_waitsAt_15 (Nat.le_of_ble_eq_true rfl) rfl rfl rfl (nI_t (by omega)) (show i < 13 by omega) rfl ?_
      refine ex_iconst (pc := 16) (v := (nI 2)) d_RF_waitsAt_16 (by decide) ?_
      refine ex_icmp_ne (pc := 17) (tgt := 32) d_RF_waitsAt_17 rfl (fun c17 => ?_) (fun c17 => ?_)
      · refine ex_iinc (pc := 32) (v := (nI (i + 1))) d_RF_waitsAt_32 rfl (nI_1 i) (by decide) ?_
        refine ex_goto (pc := 35) (tgt := 2) d_RF_waitsAt_35 rfl ?_
        exact ih (i + 1) (by omega) (by rw [fndI, if_neg (by simp [*])] at hv; exact hv)
      · refine ex_aload_n (pc := 20) (i := 0) d_RF_waitsAt_20 rfl rfl ?_
        refine ex_getr (pc := 21) 12 36 d_RF_waitsAt_21 FL_RF_104 (Nat.le_of_ble_eq_true rfl) rfl rfl ?_
        refine ex_iload_n (pc := 24) (i := 2) d_RF_waitsAt_24 rfl rfl ?_
        refine ex_ialdx (pc := 25) i (iv 124 i) d_RF_waitsAt_25 (Nat.le_of_ble_eq_true rfl) rfl rfl rfl (nI_t (by omega)) (show i < 13 by omega) rfl ?_
        refine ex_iload_n (pc := 26) (i := 1) d_RF_waitsAt_26 rfl rfl ?_
        refine ex_icmp_ne (pc := 27) (tgt := 32) d_RF_waitsAt_27 rfl (fun c27 => ?_) (fun c27 => ?_)
        · refine ex_iinc (pc := 32) (v := (nI (i + 1))) d_RF_waitsAt_32 rfl (nI_1 i) (by decide) ?_
          refine ex_goto (pc := 35) (tgt := 2) d_RF_waitsAt_35 rfl ?_
          exact ih (i + 1) (by omega) (by rw [fndI, if_neg (by simp [*])] at hv; exact hv)
        · refine ex_iload_n (pc := 30) (i := 2) d_RF_waitsAt_30 rfl rfl ?_
          refine ex_iret (ty := .int) d_RF_waitsAt_31 rfl rfl rfl (Nat.le_refl _) ?_
          refine ⟨rfl, ?_⟩
          rw [← hv, fndI, if_pos (by simp [c17, c27])]

set_option maxRecDepth 100000 in
set_option maxHeartbeats 4000000 in
theorem ct_RF_waitsAt (l : Launch) (G : ex_G) (iv : Nat → Nat → Int32) (mp : Nat → Nat) (sp mo : Nat) (x : Int32) (n : Nat) (hn : iv 92 32 = nI n) (hl : n ≤ 12) : CT l G 0 M_RF_waitsAt [.ref 92, .int x] (HP iv mp sp mo) 0 0 (fun r h' => h' = HP iv mp sp mo ∧ r = some (.int (fndI (fun j => decide (iv 121 j = nI 2) && decide (iv 124 j = x)) n 0))) := by
  refine ex_enter (by decide) (Nat.le_of_ble_eq_true rfl) (fun v hv => by simp at hv; rcases hv with rfl | rfl <;> rfl) (fun p e s m args below meth c => ?_)
  refine ex_iconst (pc := 0) (v := (nI 0)) d_RF_waitsAt_0 (by decide) ?_
  refine ex_istore_n (pc := 1) (i := 2) d_RF_waitsAt_1 rfl (by decide) ?_
  exact lp_RF_waitsAt l G iv mp sp mo x n hn hl _ n 0 (by omega) rfl

def rfPost (iv : Nat → Nat → Int32) (n : Nat) (k1 k2 k3 k4 k5 : Int32) : Nat → Nat → Int32 := ex_u2 (ex_u2 (ex_u2 (ex_u2 (ex_u2 (ex_u2 iv 121 n k1) 122 n k2) 123 n k3) 124 n k4) 125 n k5) 92 32 (nI (n + 1))
set_option maxRecDepth 100000 in
set_option maxHeartbeats 4000000 in
theorem ct_RF_post (l : Launch) (G : ex_G) (iv : Nat → Nat → Int32) (mp : Nat → Nat) (sp mo : Nat) (n : Nat) (k1 k2 k3 k4 k5 : Int32) (hn : iv 92 32 = nI n) (hl : n < 12) : CT l G 0 M_RF_post [.ref 92, .int k1, .int k2, .int k3, .int k4, .int k5] (HP iv mp sp mo) 0 0 (fun r h' => h' = HP (rfPost iv n k1 k2 k3 k4 k5) mp sp mo ∧ r = none) := by
  refine ex_enter (by decide) (Nat.le_of_ble_eq_true rfl) (fun v hv => by simp at hv; rcases hv with rfl | rfl | rfl | rfl | rfl | rfl <;> rfl) (fun p e s m args below meth c => ?_)
  refine ex_aload_n (pc := 0) (i := 0) d_RF_post_0 rfl rfl ?_
  refine ex_getr (pc := 1) 12 33 d_RF_post_1 FL_RF_95 (Nat.le_of_ble_eq_true rfl) rfl rfl ?_
  refine ex_aload_n (pc := 4) (i := 0) d_RF_post_4 rfl rfl ?_
  refine ex_getx (pc := 5) 12 32 (nI n) d_RF_post_5 FL_RF_261 (Nat.le_of_ble_eq_true rfl) rfl hn ?_
  refine ex_iload_n (pc := 8) (i := 1) d_RF_post_8 rfl rfl ?_
  refine ex_iast (pc := 9) n d_RF_post_9 (Nat.le_of_ble_eq_true rfl) rfl rfl rfl (nI_t (by omega)) (show n < 13 by omega) ?_
  refine ex_aload_n (pc := 10) (i := 0) d_RF_post_10 rfl rfl ?_
  refine ex_getr (pc := 11) 12 34 d_RF_post_11 FL_RF_98 (Nat.le_of_ble_eq_true rfl) rfl rfl ?_
  refine ex_aload_n (pc := 14) (i := 0) d_RF_post_14 rfl rfl ?_
  refine ex_getx (pc := 15) 12 32 (nI n) d_RF_post_15 FL_RF_261 (Nat.le_of_ble_eq_true rfl) rfl hn ?_
  refine ex_iload_n (pc := 18) (i := 2) d_RF_post_18 rfl rfl ?_
  refine ex_iast (pc := 19) n d_RF_post_19 (Nat.le_of_ble_eq_true rfl) rfl rfl rfl (nI_t (by omega)) (show n < 13 by omega) ?_
  refine ex_aload_n (pc := 20) (i := 0) d_RF_post_20 rfl rfl ?_
  refine ex_getr (pc := 21) 12 35 d_RF_post_21 FL_RF_101 (Nat.le_of_ble_eq_true rfl) rfl rfl ?_
  refine ex_aload_n (pc := 24) (i := 0) d_RF_post_24 rfl rfl ?_
  refine ex_getx (pc := 25) 12 32 (nI n) d_RF_post_25 FL_RF_261 (Nat.le_of_ble_eq_true rfl) rfl hn ?_
  refine ex_iload_n (pc := 28) (i := 3) d_RF_post_28 rfl rfl ?_
  refine ex_iast (pc := 29) n d_RF_post_29 (Nat.le_of_ble_eq_true rfl) rfl rfl rfl (nI_t (by omega)) (show n < 13 by omega) ?_
  refine ex_aload_n (pc := 30) (i := 0) d_RF_post_30 rfl rfl ?_
  refine ex_getr (pc := 31) 12 36 d_RF_post_31 FL_RF_104 (Nat.le_of_ble_eq_true rfl) rfl rfl ?_
  refine ex_aload_n (pc := 34) (i := 0) d_RF_post_34 rfl rfl ?_
  refine ex_getx (pc := 35) 12 32 (nI n) d_RF_post_35 FL_RF_261 (Nat.le_of_ble_eq_true rfl) rfl hn ?_
  refine ex_iload (pc := 38) d_RF_post_38 rfl ?_
  refine ex_iast (pc := 40) n d_RF_post_40 (Nat.le_of_ble_eq_true rfl) rfl rfl rfl (nI_t (by omega)) (show n < 13 by omega) ?_
  refine ex_aload_n (pc := 41) (i := 0) d_RF_post_41 rfl rfl ?_
  refine ex_getr (pc := 42) 12 37 d_RF_post_42 FL_RF_107 (Nat.le_of_ble_eq_true rfl) rfl rfl ?_
  refine ex_aload_n (pc := 45) (i := 0) d_RF_post_45 rfl rfl ?_
  refine ex_getx (pc := 46) 12 32 (nI n) d_RF_post_46 FL_RF_261 (Nat.le_of_ble_eq_true rfl) rfl hn ?_
  refine ex_iload (pc := 49) d_RF_post_49 rfl ?_
  refine ex_iast (pc := 51) n d_RF_post_51 (Nat.le_of_ble_eq_true rfl) rfl rfl rfl (nI_t (by omega)) (show n < 13 by omega) ?_
  refine ex_aload_n (pc := 52) (i := 0) d_RF_post_52 rfl rfl ?_
  refine ex_dup (pc := 53) d_RF_post_53 rfl ?_
  refine ex_getx (pc := 54) 12 32 (nI n) d_RF_post_54 FL_RF_261 (Nat.le_of_ble_eq_true rfl) rfl hn ?_
  refine ex_iconst (pc := 57) (v := (nI 1)) d_RF_post_57 (by decide) ?_
  refine ex_iadd (pc := 58) d_RF_post_58 ?_
  refine ex_puti (pc := 59) 12 32 .int d_RF_post_59 (PF_RF_261 _) (Nat.le_of_ble_eq_true rfl) rfl rfl rfl ?_
  refine ex_heap (h' := HP (rfPost iv n k1 k2 k3 k4 k5) mp sp mo) ?_ ?_
  · rw [nI_s]
    rfl
  refine ex_vret d_RF_post_62 rfl rfl (Nat.le_refl _) ?_
  exact ⟨rfl, rfl⟩

set_option maxRecDepth 100000 in
set_option maxHeartbeats 4000000 in
theorem ct_RF_insert (l : Launch) (G : ex_G) (iv : Nat → Nat → Int32) (mp : Nat → Nat) (sp mo : Nat) (n : Nat) (k3 k4 : Int32) (hn : iv 92 32 = nI n) (hl : n ≤ 12) : CT l G 1 M_RF_insert [.ref 92, .int k3, .int k4] (HP iv mp sp mo) 0 0 (fun r h' => h' = (if n = 12 then HP iv mp sp mo else HP (rfPost iv n (nI 0) k3 k4 (nI 0) (nI 0)) mp sp mo) ∧ r = some (.int (b2i (decide (¬ n = 12))))) := by
  refine ex_enter (by decide) (Nat.le_of_ble_eq_true rfl) (fun v hv => by simp at hv; rcases hv with rfl | rfl | rfl <;> rfl) (fun p e s m args below meth c => ?_)
  refine ex_aload_n (pc := 0) (i := 0) d_RF_insert_0 rfl rfl ?_
  refine ex_getx (pc := 1) 12 32 (nI n) d_RF_insert_1 FL_RF_261 (Nat.le_of_ble_eq_true rfl) rfl hn ?_
  refine ex_bipush (pc := 4) (v := (nI 12)) d_RF_insert_4 (by decide) ?_
  refine ex_icmp_ne (pc := 6) (tgt := 11) d_RF_insert_6 rfl (fun c6 => ?_) (fun c6 => ?_)
  · have h12 : ¬ n = 12 := fun q => c6 (by rw [q])
    refine ex_aload_n (pc := 11) (i := 0) d_RF_insert_11 rfl rfl ?_
    refine ex_iconst (pc := 12) (v := (nI 0)) d_RF_insert_12 (by decide) ?_
    refine ex_iload_n (pc := 13) (i := 1) d_RF_insert_13 rfl rfl ?_
    refine ex_iload_n (pc := 14) (i := 2) d_RF_insert_14 rfl rfl ?_
    refine ex_iconst (pc := 15) (v := (nI 0)) d_RF_insert_15 (by decide) ?_
    refine ex_iconst (pc := 16) (v := (nI 0)) d_RF_insert_16 (by decide) ?_
    refine ex_callV (pc := 17) (M' := M_RF_post) (as := [.int (nI 0), .int k3, .int k4, .int (nI 0), .int (nI 0)]) (st := []) d_RF_insert_17 MW_RF_post MI_RF_post LK_RF_264 (Nat.le_of_ble_eq_true rfl) rfl rfl rfl (ct_RF_post l G iv mp sp mo n (nI 0) k3 k4 (nI 0) (nI 0) hn (by omega)) (ex_lt_rm (by decide)) ⟨Nat.le_refl _, Nat.le_refl _⟩ rfl rfl (Nat.le_of_ble_eq_true rfl) ?_
    rintro _ _ ⟨rfl, rfl⟩
    refine ex_iconst (pc := 20) (v := (nI 1)) d_RF_insert_20 (by decide) ?_
    refine ex_iret (ty := .boolean) d_RF_insert_21 rfl rfl rfl (Nat.le_refl _) ?_
    rw [if_neg h12, decide_eq_true h12]
    exact ⟨rfl, rfl⟩
  · refine ex_iconst (pc := 9) (v := (nI 0)) d_RF_insert_9 (by decide) ?_
    refine ex_iret (ty := .boolean) d_RF_insert_10 rfl rfl rfl (Nat.le_refl _) ?_
    have h12 := (n_eq (by omega) (by omega)).mp c6
    rw [if_pos h12, decide_eq_false (fun q => q h12)]
    exact ⟨rfl, rfl⟩

set_option maxRecDepth 100000 in
set_option maxHeartbeats 4000000 in
theorem ct_RF_erase (l : Launch) (G : ex_G) (iv : Nat → Nat → Int32) (mp : Nat → Nat) (sp mo : Nat) (n : Nat) (k3 k4 : Int32) (hn : iv 92 32 = nI n) (hl : n ≤ 12) : CT l G 1 M_RF_erase [.ref 92, .int k3, .int k4] (HP iv mp sp mo) 0 0 (fun r h' => h' = (if n = 12 then HP iv mp sp mo else HP (rfPost iv n (nI 1) k3 k4 (nI 0) (nI 0)) mp sp mo) ∧ r = some (.int (b2i (decide (¬ n = 12))))) := by
  refine ex_enter (by decide) (Nat.le_of_ble_eq_true rfl) (fun v hv => by simp at hv; rcases hv with rfl | rfl | rfl <;> rfl) (fun p e s m args below meth c => ?_)
  refine ex_aload_n (pc := 0) (i := 0) d_RF_erase_0 rfl rfl ?_
  refine ex_getx (pc := 1) 12 32 (nI n) d_RF_erase_1 FL_RF_261 (Nat.le_of_ble_eq_true rfl) rfl hn ?_
  refine ex_bipush (pc := 4) (v := (nI 12)) d_RF_erase_4 (by decide) ?_
  refine ex_icmp_ne (pc := 6) (tgt := 11) d_RF_erase_6 rfl (fun c6 => ?_) (fun c6 => ?_)
  · have h12 : ¬ n = 12 := fun q => c6 (by rw [q])
    refine ex_aload_n (pc := 11) (i := 0) d_RF_erase_11 rfl rfl ?_
    refine ex_iconst (pc := 12) (v := (nI 1)) d_RF_erase_12 (by decide) ?_
    refine ex_iload_n (pc := 13) (i := 1) d_RF_erase_13 rfl rfl ?_
    refine ex_iload_n (pc := 14) (i := 2) d_RF_erase_14 rfl rfl ?_
    refine ex_iconst (pc := 15) (v := (nI 0)) d_RF_erase_15 (by decide) ?_
    refine ex_iconst (pc := 16) (v := (nI 0)) d_RF_erase_16 (by decide) ?_
    refine ex_callV (pc := 17) (M' := M_RF_post) (as := [.int (nI 1), .int k3, .int k4, .int (nI 0), .int (nI 0)]) (st := []) d_RF_erase_17 MW_RF_post MI_RF_post LK_RF_264 (Nat.le_of_ble_eq_true rfl) rfl rfl rfl (ct_RF_post l G iv mp sp mo n (nI 1) k3 k4 (nI 0) (nI 0) hn (by omega)) (ex_lt_rm (by decide)) ⟨Nat.le_refl _, Nat.le_refl _⟩ rfl rfl (Nat.le_of_ble_eq_true rfl) ?_
    rintro _ _ ⟨rfl, rfl⟩
    refine ex_iconst (pc := 20) (v := (nI 1)) d_RF_erase_20 (by decide) ?_
    refine ex_iret (ty := .boolean) d_RF_erase_21 rfl rfl rfl (Nat.le_refl _) ?_
    rw [if_neg h12, decide_eq_true h12]
    exact ⟨rfl, rfl⟩
  · refine ex_iconst (pc := 9) (v := (nI 0)) d_RF_erase_9 (by decide) ?_
    refine ex_iret (ty := .boolean) d_RF_erase_10 rfl rfl rfl (Nat.le_refl _) ?_
    have h12 := (n_eq (by omega) (by omega)).mp c6
    rw [if_pos h12, decide_eq_false (fun q => q h12)]
    exact ⟨rfl, rfl⟩
end
section
/-! taking out of the inbox, asking, cancelling, answers -/
/-- the rows of S moved down by one from place row to before place i -/
def shf (iv : Nat → Nat → Int32) (S : Nat → Bool) (row i : Nat) : Nat → Nat → Int32 := fun a j => if S a = true ∧ row ≤ j ∧ j < i then iv a (j + 1) else iv a j
theorem shf_0 {iv : Nat → Nat → Int32} {S : Nat → Bool} {row : Nat} : shf iv S row row = iv := by
  funext a j
  exact if_neg (fun q => by omega)
theorem shf_hi {iv : Nat → Nat → Int32} {S : Nat → Bool} {row i a j : Nat} (h : i ≤ j) : shf iv S row i a j = iv a j := if_neg (fun q => by omega)
theorem shf_1 {iv : Nat → Nat → Int32} {S : Nat → Bool} {row i : Nat} (h : row ≤ i) (a j : Nat) : shf iv S row (i + 1) a j = if S a = true ∧ j = i then iv a (i + 1) else shf iv S row i a j := by
  unfold shf
  by_cases hS : S a = true
  · by_cases hj : j = i
    · subst hj
      rw [if_pos ⟨hS, h, by omega⟩, if_pos ⟨hS, rfl⟩]
    · rw [if_neg (c := S a = true ∧ j = i) (fun q => hj q.2)]
      by_cases hr : row ≤ j ∧ j < i
      · rw [if_pos ⟨hS, hr.1, by omega⟩, if_pos ⟨hS, hr.1, hr.2⟩]
      · rw [if_neg (fun q => hr ⟨q.2.1, by omega⟩), if_neg (fun q => hr q.2)]
  · rw [if_neg (fun q => hS q.1), if_neg (fun q => hS q.1), if_neg (fun q => hS q.1)]
def S_in (a : Nat) : Bool := decide (85 ≤ a) && decide (a ≤ 88)
theorem shf_in {iv : Nat → Nat → Int32} {row i : Nat} (h : row ≤ i) : ex_u2 (ex_u2 (ex_u2 (ex_u2 (shf iv S_in row i) 85 i (iv 85 (i + 1))) 86 i (iv 86 (i + 1))) 87 i (iv 87 (i + 1))) 88 i (iv 88 (i + 1)) = shf iv S_in row (i + 1) := by
  funext a j
  rw [shf_1 h]
  unfold ex_u2
  by_cases hj : j = i
  · subst hj
    by_cases h88 : a = 88
    · subst h88
      rw [if_pos ⟨rfl, rfl⟩, if_pos ⟨by decide, rfl⟩]
    rw [if_neg (fun q => h88 q.1)]
    by_cases h87 : a = 87
    · subst h87
      rw [if_pos ⟨rfl, rfl⟩, if_pos ⟨by decide, rfl⟩]
    rw [if_neg (fun q => h87 q.1)]
    by_cases h86 : a = 86
    · subst h86
      rw [if_pos ⟨rfl, rfl⟩, if_pos ⟨by decide, rfl⟩]
    rw [if_neg (fun q => h86 q.1)]
    by_cases h85 : a = 85
    · subst h85
      rw [if_pos ⟨rfl, rfl⟩, if_pos ⟨by decide, rfl⟩]
    rw [if_neg (fun q => h85 q.1)]
    rw [if_neg (fun q => by have q1 := q.1; simp only [S_in, Bool.and_eq_true, decide_eq_true_eq] at q1; omega)]
  · simp [hj]
def S_rf (a : Nat) : Bool := decide (121 ≤ a) && decide (a ≤ 125)
theorem shf_rf {iv : Nat → Nat → Int32} {row i : Nat} (h : row ≤ i) : ex_u2 (ex_u2 (ex_u2 (ex_u2 (ex_u2 (shf iv S_rf row i) 121 i (iv 121 (i + 1))) 122 i (iv 122 (i + 1))) 123 i (iv 123 (i + 1))) 124 i (iv 124 (i + 1))) 125 i (iv 125 (i + 1)) = shf iv S_rf row (i + 1) := by
  funext a j
  rw [shf_1 h]
  unfold ex_u2
  by_cases hj : j = i
  · subst hj
    by_cases h125 : a = 125
    · subst h125
      rw [if_pos ⟨rfl, rfl⟩, if_pos ⟨by decide, rfl⟩]
    rw [if_neg (fun q => h125 q.1)]
    by_cases h124 : a = 124
    · subst h124
      rw [if_pos ⟨rfl, rfl⟩, if_pos ⟨by decide, rfl⟩]
    rw [if_neg (fun q => h124 q.1)]
    by_cases h123 : a = 123
    · subst h123
      rw [if_pos ⟨rfl, rfl⟩, if_pos ⟨by decide, rfl⟩]
    rw [if_neg (fun q => h123 q.1)]
    by_cases h122 : a = 122
    · subst h122
      rw [if_pos ⟨rfl, rfl⟩, if_pos ⟨by decide, rfl⟩]
    rw [if_neg (fun q => h122 q.1)]
    by_cases h121 : a = 121
    · subst h121
      rw [if_pos ⟨rfl, rfl⟩, if_pos ⟨by decide, rfl⟩]
    rw [if_neg (fun q => h121 q.1)]
    rw [if_neg (fun q => by have q1 := q.1; simp only [S_rf, Bool.and_eq_true, decide_eq_true_eq] at q1; omega)]
  · simp [hj]
def inOut (iv : Nat → Nat → Int32) (n row : Nat) : Nat → Nat → Int32 := shf (ex_u2 iv 84 4 (nI (n - 1))) S_in row (n - 1)
def rfOut (iv : Nat → Nat → Int32) (n row : Nat) : Nat → Nat → Int32 := shf (ex_u2 iv 92 32 (nI (n - 1))) S_rf row (n - 1)
theorem nI_p {n : Nat} (h : 1 ≤ n) : nI n - nI 1 = nI (n - 1) := pk_sub h
set_option maxRecDepth 100000 in
set_option maxHeartbeats 4000000 in
theorem lp_In_takeOut {p : Program} {e : Env} {s : State} {m : MethodId} {args : Array Value} {below : List Frame} {meth : Method} {c : Code} (l : Launch) (G : ex_G) (iv : Nat → Nat → Int32) (mp : Nat → Nat) (sp mo : Nat) (x : Int32) (row n : Nat) (hn : iv 84 4 = nI n) (hl : n ≤ 11) : ∀ (k i : Nat), i + k = n → row ≤ i → EXM M_In_takeOut l G 0 (fun r h' => h' = HP (shf iv S_in row n) mp sp mo ∧ r = some (.int (nI 1))) p e s m args below meth c 26 [some (.ref 84), some (.int x), some (.int (nI i))] [] (HP (shf iv S_in row i) mp sp mo) := by
  intro k
  induction k with
  | zero =>
    intro i hik hr
    have hin : i = n := by omega
    refine ex_iload_n (pc := 26) (i := 2) d_In_takeOut_26 rfl rfl ?_
    refine ex_aload_n (pc := 27) (i := 0) d_In_takeOut_27 rfl rfl ?_
    refine ex_getx (pc := 28) 6 4 (nI n) d_In_takeOut_28 FL_In_24 (Nat.le_of_ble_eq_true rfl) rfl hn ?_
    refine ex_icmp_ge (pc := 31) (tgt := 96) d_In_takeOut_31 rfl (fun c31 => ?_) (fun c31 => ?_)
    · refine ex_iconst (pc := 96) (v := (nI 1)) d_In_takeOut_96 (by decide) ?_
      refine ex_iret (ty := .boolean) d_In_takeOut_97 rfl rfl rfl (Nat.le_refl _) ?_
      exact ⟨by rw [hin], rfl⟩
    · exact absurd ((n_ge (by omega) (by omega)).mpr (by omega)) c31
  | succ k ih =>
    intro i hik hr
    have hi1 : (nI i + nI 1).toInt = ((i + 1 : Nat) : Int) := by rw [nI_s]; exact nI_t (by omega)
    refine ex_iload_n (pc := 26) (i := 2) d_In_takeOut_26 rfl rfl ?_
    refine ex_aload_n (pc := 27) (i := 0) d_In_takeOut_27 rfl rfl ?_
    refine ex_getx (pc := 28) 6 4 (nI n) d_In_takeOut_28 FL_In_24 (Nat.le_of_ble_eq_true rfl) rfl hn ?_
    refine ex_icmp_ge (pc := 31) (tgt := 96) d_In_takeOut_31 rfl (fun c31 => ?_) (fun c31 => ?_)
    · exact absurd ((n_ge (by omega) (by omega)).mp c31) (by omega)
    · refine ex_aload_n (pc := 34) (i := 0) d_In_takeOut_34 rfl rfl ?_
      refine ex_getr (pc := 35) 6 0 d_In_takeOut_35 FL_In_9 (Nat.le_of_ble_eq_true rfl) rfl rfl ?_
      refine ex_iload_n (pc := 38) (i := 2) d_In_takeOut_38 rfl rfl ?_
      refine ex_aload_n (pc := 39) (i := 0) d_In_takeOut_39 rfl rfl ?_
      refine ex_getr (pc := 40) 6 0 d_In_takeOut_40 FL_In_9 (Nat.le_of_ble_eq_true rfl) rfl rfl ?_
      refine ex_iload_n (pc := 43) (i := 2) d_In_takeOut_43 rfl rfl ?_
      refine ex_iconst (pc := 44) (v := (nI 1)) d_In_takeOut_44 (by decide) ?_
      refine ex_iadd (pc := 45) d_In_takeOut_45 ?_
      refine ex_ialdx (pc := 46) (i + 1) (iv 85 (i + 1)) d_In_takeOut_46 (Nat.le_of_ble_eq_true rfl) rfl rfl rfl hi1 (show i + 1 < 12 by omega) (shf_hi (by omega)) ?_
      refine ex_iast (pc := 47) i d_In_takeOut_47 (Nat.le_of_ble_eq_true rfl) rfl rfl rfl (nI_t (by omega)) (show i < 12 by omega) ?_
      refine ex_aload_n (pc := 48) (i := 0) d_In_takeOut_48 rfl rfl ?_
      refine ex_getr (pc := 49) 6 1 d_In_takeOut_49 FL_In_15 (Nat.le_of_ble_eq_true rfl) rfl rfl ?_
      refine ex_iload_n (pc := 52) (i := 2) d_In_takeOut_52 rfl rfl ?_
      refine ex_aload_n (pc := 53) (i := 0) d_In_takeOut_53 rfl rfl ?_
      refine ex_getr (pc := 54) 6 1 d_In_takeOut_54 FL_In_15 (Nat.le_of_ble_eq_true rfl) rfl rfl ?_
      refine ex_iload_n (pc := 57) (i := 2) d_In_takeOut_57 rfl rfl ?_
      refine ex_iconst (pc := 58) (v := (nI 1)) d_In_takeOut_58 (by decide) ?_
      refine ex_iadd (pc := 59) d_In_takeOut_59 ?_
      refine ex_ialdx (pc := 60) (i + 1) (iv 86 (i + 1)) d_In_takeOut_60 (Nat.le_of_ble_eq_true rfl) rfl rfl rfl hi1 (show i + 1 < 12 by omega) (shf_hi (by omega)) ?_
      refine ex_iast (pc := 61) i d_In_takeOut_61 (Nat.le_of_ble_eq_true rfl) rfl rfl rfl (nI_t (by omega)) (show i < 12 by omega) ?_
      refine ex_aload_n (pc := 62) (i := 0) d_In_takeOut_62 rfl rfl ?_
      refine ex_getr (pc := 63) 6 2 d_In_takeOut_63 FL_In_18 (Nat.le_of_ble_eq_true rfl) rfl rfl ?_
      refine ex_iload_n (pc := 66) (i := 2) d_In_takeOut_66 rfl rfl ?_
      refine ex_aload_n (pc := 67) (i := 0) d_In_takeOut_67 rfl rfl ?_
      refine ex_getr (pc := 68) 6 2 d_In_takeOut_68 FL_In_18 (Nat.le_of_ble_eq_true rfl) rfl rfl ?_
      refine ex_iload_n (pc := 71) (i := 2) d_In_takeOut_71 rfl rfl ?_
      refine ex_iconst (pc := 72) (v := (nI 1)) d_In_takeOut_72 (by decide) ?_
      refine ex_iadd (pc := 73) d_In_takeOut_73 ?_
      refine ex_ialdx (pc := 74) (i + 1) (iv 87 (i + 1)) d_In_takeOut_74 (Nat.le_of_ble_eq_true rfl) rfl rfl rfl hi1 (show i + 1 < 12 by omega) (shf_hi (by omega)) ?_
      refine ex_iast (pc := 75) i d_In_takeOut_75 (Nat.le_of_ble_eq_true rfl) rfl rfl rfl (nI_t (by omega)) (show i < 12 by omega) ?_
      refine ex_aload_n (pc := 76) (i := 0) d_In_takeOut_76 rfl rfl ?_
      refine ex_getr (pc := 77) 6 3 d_In_takeOut_77 FL_In_21 (Nat.le_of_ble_eq_true rfl) rfl rfl ?_
      refine ex_iload_n (pc := 80) (i := 2) d_In_takeOut_80 rfl rfl ?_
      refine ex_aload_n (pc := 81) (i := 0) d_In_takeOut_81 rfl rfl ?_
      refine ex_getr (pc := 82) 6 3 d_In_takeOut_82 FL_In_21 (Nat.le_of_ble_eq_true rfl) rfl rfl ?_
      refine ex_iload_n (pc := 85) (i := 2) d_In_takeOut_85 rfl rfl ?_
      refine ex_iconst (pc := 86) (v := (nI 1)) d_In_takeOut_86 (by decide) ?_
      refine ex_iadd (pc := 87) d_In_takeOut_87 ?_
      refine ex_ialdx (pc := 88) (i + 1) (iv 88 (i + 1)) d_In_takeOut_88 (Nat.le_of_ble_eq_true rfl) rfl rfl rfl hi1 (show i + 1 < 12 by omega) (shf_hi (by omega)) ?_
      refine ex_iast (pc := 89) i d_In_takeOut_89 (Nat.le_of_ble_eq_true rfl) rfl rfl rfl (nI_t (by omega)) (show i < 12 by omega) ?_
      refine ex_heap (h' := HP (shf iv S_in row (i + 1)) mp sp mo) ?_ ?_
      · rw [← shf_in hr]
        rfl
      refine ex_iinc (pc := 90) (v := (nI (i + 1))) d_In_takeOut_90 rfl (nI_1 i) (by decide) ?_
      refine ex_goto (pc := 93) (tgt := 26) d_In_takeOut_93 rfl ?_
      exact ih (i + 1) (by omega) (by omega)

set_option maxRecDepth 100000 in
set_option maxHeartbeats 4000000 in
theorem ct_In_takeOut (l : Launch) (G : ex_G) (iv : Nat → Nat → Int32) (mp : Nat → Nat) (sp mo : Nat) (x : Int32) (n : Nat) (hn : iv 84 4 = nI n) (hl : n ≤ 12) : CT l G 0 M_In_takeOut [.ref 84, .int x] (HP iv mp sp mo) 0 0 (fun r h' => h' = (if 0 ≤ x.toInt ∧ x.toInt < n then HP (inOut iv n x.toInt.toNat) mp sp mo else HP iv mp sp mo) ∧ r = some (.int (b2i (decide (0 ≤ x.toInt ∧ x.toInt < n))))) := by
  refine ex_enter (by decide) (Nat.le_of_ble_eq_true rfl) (fun v hv => by simp at hv; rcases hv with rfl | rfl <;> rfl) (fun p e s m args below meth c => ?_)
  refine ex_iload_n (pc := 0) (i := 1) d_In_takeOut_0 rfl rfl ?_
  refine ex_if_lt (pc := 1) (tgt := 12) d_In_takeOut_1 rfl (fun c1 => ?_) (fun c1 => ?_)
  · refine ex_iconst (pc := 12) (v := (nI 0)) d_In_takeOut_12 (by decide) ?_
    refine ex_iret (ty := .boolean) d_In_takeOut_13 rfl rfl rfl (Nat.le_refl _) ?_
    have hx : ¬ (0 ≤ x.toInt ∧ x.toInt < n) := fun q => by have q1 := i_lt.mp c1; rw [i_0] at q1; omega
    rw [if_neg hx, decide_eq_false hx]
    exact ⟨rfl, rfl⟩
  · refine ex_iload_n (pc := 4) (i := 1) d_In_takeOut_4 rfl rfl ?_
    refine ex_aload_n (pc := 5) (i := 0) d_In_takeOut_5 rfl rfl ?_
    refine ex_getx (pc := 6) 6 4 (nI n) d_In_takeOut_6 FL_In_24 (Nat.le_of_ble_eq_true rfl) rfl hn ?_
    refine ex_icmp_lt (pc := 9) (tgt := 14) d_In_takeOut_9 rfl (fun c9 => ?_) (fun c9 => ?_)
    · have hx : 0 ≤ x.toInt ∧ x.toInt < n := by
        have q1 := i_nlt c1
        have q2 := i_lt.mp c9
        rw [i_0] at q1
        rw [nI_t (by omega)] at q2
        exact ⟨q1, q2⟩
      refine ex_aload_n (pc := 14) (i := 0) d_In_takeOut_14 rfl rfl ?_
      refine ex_dup (pc := 15) d_In_takeOut_15 rfl ?_
      refine ex_getx (pc := 16) 6 4 (nI n) d_In_takeOut_16 FL_In_24 (Nat.le_of_ble_eq_true rfl) rfl hn ?_
      refine ex_iconst (pc := 19) (v := (nI 1)) d_In_takeOut_19 (by decide) ?_
      refine ex_isub (pc := 20) d_In_takeOut_20 ?_
      refine ex_puti (pc := 21) 6 4 .int d_In_takeOut_21 (PF_In_24 _) (Nat.le_of_ble_eq_true rfl) rfl rfl rfl ?_
      refine ex_iload_n (pc := 24) (i := 1) d_In_takeOut_24 rfl rfl ?_
      refine ex_istore_n (pc := 25) (i := 2) d_In_takeOut_25 rfl (by decide) ?_
      rw [if_pos hx, decide_eq_true hx]
      obtain ⟨row, hrn, rfl⟩ : ∃ row, row < n ∧ x = nI row := ⟨x.toInt.toNat, by omega, i_of x hx.1⟩
      refine ex_heap (h' := HP (shf (ex_u2 iv 84 4 (nI (n - 1))) S_in row row) mp sp mo) ?_ ?_
      · rw [shf_0, nI_p (by omega)]
        rfl
      have hrow : (nI row).toInt.toNat = row := by
        rw [nI_t (by omega)]
        omega
      rw [hrow]
      exact lp_In_takeOut l G (ex_u2 iv 84 4 (nI (n - 1))) mp sp mo _ row (n - 1) rfl (by omega) (n - 1 - row) row (by omega) (Nat.le_refl _)
    · refine ex_iconst (pc := 12) (v := (nI 0)) d_In_takeOut_12 (by decide) ?_
      refine ex_iret (ty := .boolean) d_In_takeOut_13 rfl rfl rfl (Nat.le_refl _) ?_
      have hx : ¬ (0 ≤ x.toInt ∧ x.toInt < n) := fun q => by have q1 := i_nlt c9; rw [nI_t (by omega)] at q1; omega
      rw [if_neg hx, decide_eq_false hx]
      exact ⟨rfl, rfl⟩

set_option maxRecDepth 100000 in
set_option maxHeartbeats 4000000 in
theorem lp_RF_strike {p : Program} {e : Env} {s : State} {m : MethodId} {args : Array Value} {below : List Frame} {meth : Method} {c : Code} (l : Launch) (G : ex_G) (iv : Nat → Nat → Int32) (mp : Nat → Nat) (sp mo : Nat) (x : Int32) (row n : Nat) (hn : iv 92 32 = nI n) (hl : n ≤ 11) : ∀ (k i : Nat), i + k = n → row ≤ i → EXM M_RF_strike l G 0 (fun r h' => h' = HP (shf iv S_rf row n) mp sp mo ∧ r = none) p e s m args below meth c 12 [some (.ref 92), some (.int x), some (.int (nI i))] [] (HP (shf iv S_rf row i) mp sp mo) := by
  intro k
  induction k with
  | zero =>
    intro i hik hr
    have hin : i = n := by omega
    refine ex_iload_n (pc := 12) (i := 2) d_RF_strike_12 rfl rfl ?_
    refine ex_aload_n (pc := 13) (i := 0) d_RF_strike_13 rfl rfl ?_
    refine ex_getx (pc := 14) 12 32 (nI n) d_RF_strike_14 FL_RF_261 (Nat.le_of_ble_eq_true rfl) rfl hn ?_
    refine ex_icmp_ge (pc := 17) (tgt := 96) d_RF_strike_17 rfl (fun c17 => ?_) (fun c17 => ?_)
    · refine ex_vret d_RF_strike_96 rfl rfl (Nat.le_refl _) ?_
      exact ⟨by rw [hin], rfl⟩
    · exact absurd ((n_ge (by omega) (by omega)).mpr (by omega)) c17
  | succ k ih =>
    intro i hik hr
    have hi1 : (nI i + nI 1).toInt = ((i + 1 : Nat) : Int) := by rw [nI_s]; exact nI_t (by omega)
    refine ex_iload_n (pc := 12) (i := 2) d_RF_strike_12 rfl rfl ?_
    refine ex_aload_n (pc := 13) (i := 0) d_RF_strike_13 rfl rfl ?_
    refine ex_getx (pc := 14) 12 32 (nI n) d_RF_strike_14 FL_RF_261 (Nat.le_of_ble_eq_true rfl) rfl hn ?_
    refine ex_icmp_ge (pc := 17) (tgt := 96) d_RF_strike_17 rfl (fun c17 => ?_) (fun c17 => ?_)
    · exact absurd ((n_ge (by omega) (by omega)).mp c17) (by omega)
    · refine ex_aload_n (pc := 20) (i := 0) d_RF_strike_20 rfl rfl ?_
      refine ex_getr (pc := 21) 12 33 d_RF_strike_21 FL_RF_95 (Nat.le_of_ble_eq_true rfl) rfl rfl ?_
      refine ex_iload_n (pc := 24) (i := 2) d_RF_strike_24 rfl rfl ?_
      refine ex_aload_n (pc := 25) (i := 0) d_RF_strike_25 rfl rfl ?_
      refine ex_getr (pc := 26) 12 33 d_RF_strike_26 FL_RF_95 (Nat.le_of_ble_eq_true rfl) rfl rfl ?_
      refine ex_iload_n (pc := 29) (i := 2) d_RF_strike_29 rfl rfl ?_
      refine ex_iconst (pc := 30) (v := (nI 1)) d_RF_strike_30 (by decide) ?_
      refine ex_iadd (pc := 31) d_RF_strike_31 ?_
      refine ex_ialdx (pc := 32) (i + 1) (iv 121 (i + 1)) d_RF_strike_32 (Nat.le_of_ble_eq_true rfl) rfl rfl rfl hi1 (show i + 1 < 13 by omega) (shf_hi (by omega)) ?_
      refine ex_iast (pc := 33) i d_RF_strike_33 (Nat.le_of_ble_eq_true rfl) rfl rfl rfl (nI_t (by omega)) (show i < 13 by omega) ?_
      refine ex_aload_n (pc := 34) (i := 0) d_RF_strike_34 rfl rfl ?_
      refine ex_getr (pc := 35) 12 34 d_RF_strike_35 FL_RF_98 (Nat.le_of_ble_eq_true rfl) rfl rfl ?_
      refine ex_iload_n (pc := 38) (i := 2) d_RF_strike_38 rfl rfl ?_
      refine ex_aload_n (pc := 39) (i := 0) d_RF_strike_39 rfl rfl ?_
      refine ex_getr (pc := 40) 12 34 d_RF_strike_40 FL_RF_98 (Nat.le_of_ble_eq_true rfl) rfl rfl ?_
      refine ex_iload_n (pc := 43) (i := 2) d_RF_strike_43 rfl rfl ?_
      refine ex_iconst (pc := 44) (v := (nI 1)) d_RF_strike_44 (by decide) ?_
      refine ex_iadd (pc := 45) d_RF_strike_45 ?_
      refine ex_ialdx (pc := 46) (i + 1) (iv 122 (i + 1)) d_RF_strike_46 (Nat.le_of_ble_eq_true rfl) rfl rfl rfl hi1 (show i + 1 < 13 by omega) (shf_hi (by omega)) ?_
      refine ex_iast (pc := 47) i d_RF_strike_47 (Nat.le_of_ble_eq_true rfl) rfl rfl rfl (nI_t (by omega)) (show i < 13 by omega) ?_
      refine ex_aload_n (pc := 48) (i := 0) d_RF_strike_48 rfl rfl ?_
      refine ex_getr (pc := 49) 12 35 d_RF_strike_49 FL_RF_101 (Nat.le_of_ble_eq_true rfl) rfl rfl ?_
      refine ex_iload_n (pc := 52) (i := 2) d_RF_strike_52 rfl rfl ?_
      refine ex_aload_n (pc := 53) (i := 0) d_RF_strike_53 rfl rfl ?_
      refine ex_getr (pc := 54) 12 35 d_RF_strike_54 FL_RF_101 (Nat.le_of_ble_eq_true rfl) rfl rfl ?_
      refine ex_iload_n (pc := 57) (i := 2) d_RF_strike_57 rfl rfl ?_
      refine ex_iconst (pc := 58) (v := (nI 1)) d_RF_strike_58 (by decide) ?_
      refine ex_iadd (pc := 59) d_RF_strike_59 ?_
      refine ex_ialdx (pc := 60) (i + 1) (iv 123 (i + 1)) d_RF_strike_60 (Nat.le_of_ble_eq_true rfl) rfl rfl rfl hi1 (show i + 1 < 13 by omega) (shf_hi (by omega)) ?_
      refine ex_iast (pc := 61) i d_RF_strike_61 (Nat.le_of_ble_eq_true rfl) rfl rfl rfl (nI_t (by omega)) (show i < 13 by omega) ?_
      refine ex_aload_n (pc := 62) (i := 0) d_RF_strike_62 rfl rfl ?_
      refine ex_getr (pc := 63) 12 36 d_RF_strike_63 FL_RF_104 (Nat.le_of_ble_eq_true rfl) rfl rfl ?_
      refine ex_iload_n (pc := 66) (i := 2) d_RF_strike_66 rfl rfl ?_
      refine ex_aload_n (pc := 67) (i := 0) d_RF_strike_67 rfl rfl ?_
      refine ex_getr (pc := 68) 12 36 d_RF_strike_68 FL_RF_104 (Nat.le_of_ble_eq_true rfl) rfl rfl ?_
      refine ex_iload_n (pc := 71) (i := 2) d_RF_strike_71 rfl rfl ?_
      refine ex_iconst (pc := 72) (v := (nI 1)) d_RF_strike_72 (by decide) ?_
      refine ex_iadd (pc := 73) d_RF_strike_73 ?_
      refine ex_ialdx (pc := 74) (i + 1) (iv 124 (i + 1)) d_RF_strike_74 (Nat.le_of_ble_eq_true rfl) rfl rfl rfl hi1 (show i + 1 < 13 by omega) (shf_hi (by omega)) ?_
      refine ex_iast (pc := 75) i d_RF_strike_75 (Nat.le_of_ble_eq_true rfl) rfl rfl rfl (nI_t (by omega)) (show i < 13 by omega) ?_
      refine ex_aload_n (pc := 76) (i := 0) d_RF_strike_76 rfl rfl ?_
      refine ex_getr (pc := 77) 12 37 d_RF_strike_77 FL_RF_107 (Nat.le_of_ble_eq_true rfl) rfl rfl ?_
      refine ex_iload_n (pc := 80) (i := 2) d_RF_strike_80 rfl rfl ?_
      refine ex_aload_n (pc := 81) (i := 0) d_RF_strike_81 rfl rfl ?_
      refine ex_getr (pc := 82) 12 37 d_RF_strike_82 FL_RF_107 (Nat.le_of_ble_eq_true rfl) rfl rfl ?_
      refine ex_iload_n (pc := 85) (i := 2) d_RF_strike_85 rfl rfl ?_
      refine ex_iconst (pc := 86) (v := (nI 1)) d_RF_strike_86 (by decide) ?_
      refine ex_iadd (pc := 87) d_RF_strike_87 ?_
      refine ex_ialdx (pc := 88) (i + 1) (iv 125 (i + 1)) d_RF_strike_88 (Nat.le_of_ble_eq_true rfl) rfl rfl rfl hi1 (show i + 1 < 13 by omega) (shf_hi (by omega)) ?_
      refine ex_iast (pc := 89) i d_RF_strike_89 (Nat.le_of_ble_eq_true rfl) rfl rfl rfl (nI_t (by omega)) (show i < 13 by omega) ?_
      refine ex_heap (h' := HP (shf iv S_rf row (i + 1)) mp sp mo) ?_ ?_
      · rw [← shf_rf hr]
        rfl
      refine ex_iinc (pc := 90) (v := (nI (i + 1))) d_RF_strike_90 rfl (nI_1 i) (by decide) ?_
      refine ex_goto (pc := 93) (tgt := 12) d_RF_strike_93 rfl ?_
      exact ih (i + 1) (by omega) (by omega)

set_option maxRecDepth 100000 in
set_option maxHeartbeats 4000000 in
theorem ct_RF_strike (l : Launch) (G : ex_G) (iv : Nat → Nat → Int32) (mp : Nat → Nat) (sp mo : Nat) (row n : Nat) (hn : iv 92 32 = nI n) (hl : n ≤ 12) (hr : row < n) : CT l G 0 M_RF_strike [.ref 92, .int (nI row)] (HP iv mp sp mo) 0 0 (fun r h' => h' = HP (rfOut iv n row) mp sp mo ∧ r = none) := by
  refine ex_enter (by decide) (Nat.le_of_ble_eq_true rfl) (fun v hv => by simp at hv; rcases hv with rfl | rfl <;> rfl) (fun p e s m args below meth c => ?_)
  refine ex_aload_n (pc := 0) (i := 0) d_RF_strike_0 rfl rfl ?_
  refine ex_dup (pc := 1) d_RF_strike_1 rfl ?_
  refine ex_getx (pc := 2) 12 32 (nI n) d_RF_strike_2 FL_RF_261 (Nat.le_of_ble_eq_true rfl) rfl hn ?_
  refine ex_iconst (pc := 5) (v := (nI 1)) d_RF_strike_5 (by decide) ?_
  refine ex_isub (pc := 6) d_RF_strike_6 ?_
  refine ex_puti (pc := 7) 12 32 .int d_RF_strike_7 (PF_RF_261 _) (Nat.le_of_ble_eq_true rfl) rfl rfl rfl ?_
  refine ex_iload_n (pc := 10) (i := 1) d_RF_strike_10 rfl rfl ?_
  refine ex_istore_n (pc := 11) (i := 2) d_RF_strike_11 rfl (by decide) ?_
  refine ex_heap (h' := HP (shf (ex_u2 iv 92 32 (nI (n - 1))) S_rf row row) mp sp mo) ?_ ?_
  · rw [shf_0, nI_p (by omega)]
    rfl
  exact lp_RF_strike l G (ex_u2 iv 92 32 (nI (n - 1))) mp sp mo _ row (n - 1) rfl (by omega) (n - 1 - row) row (by omega) (Nat.le_refl _)

def cfind (iv : Nat → Nat → Int32) (n : Nat) (x : Int32) : Int32 := if x.toInt < 1 then -1 else fndI (fun j => decide (iv 86 j = x)) n 0
def rfind (iv : Nat → Nat → Int32) (n : Nat) (x : Int32) : Int32 := fndI (fun j => decide (iv 121 j = nI 2) && decide (iv 124 j = x)) n 0
theorem fndI_r (P : Nat → Bool) : ∀ k i, i + k ≤ 1000000 → fndI P k i = -1 ∨ ∃ j, i ≤ j ∧ j < i + k ∧ P j = true ∧ fndI P k i = nI j := by
  intro k
  induction k with
  | zero => exact fun _ _ => Or.inl rfl
  | succ k ih =>
    intro i hi
    by_cases hP : P i = true
    · exact Or.inr ⟨i, Nat.le_refl _, by omega, hP, if_pos hP⟩
    · rcases ih (i + 1) (by omega) with h | ⟨j, h1, h2, h3, h4⟩
      · exact Or.inl ((if_neg hP).trans h)
      · exact Or.inr ⟨j, by omega, by omega, h3, (if_neg hP).trans h4⟩
set_option maxRecDepth 100000 in
set_option maxHeartbeats 4000000 in
theorem ct_TG_cancel (l : Launch) (G : ex_G) (iv : Nat → Nat → Int32) (mp : Nat → Nat) (sp mo : Nat) (x : Int32) (n : Nat) (hn : iv 84 4 = nI n) (hl : n ≤ 12) : CT l G 1 M_TG_cancel [.ref 0, .int x] (HP iv mp sp mo) 0 0 (fun r h' => h' = (if 0 ≤ (cfind iv n x).toInt ∧ (cfind iv n x).toInt < n then HP (inOut iv n (cfind iv n x).toInt.toNat) mp sp mo else HP iv mp sp mo) ∧ r = some (.int (b2i (decide (0 ≤ (cfind iv n x).toInt ∧ (cfind iv n x).toInt < n))))) := by
  refine ex_enter (by decide) (Nat.le_of_ble_eq_true rfl) (fun v hv => by simp at hv; rcases hv with rfl | rfl <;> rfl) (fun p e s m args below meth c => ?_)
  refine ex_aload_n (pc := 0) (i := 0) d_TG_cancel_0 rfl rfl ?_
  refine ex_getr (pc := 1) 0 7 d_TG_cancel_1 FL_TG_67 (Nat.le_of_ble_eq_true rfl) rfl rfl ?_
  refine ex_aload_n (pc := 4) (i := 0) d_TG_cancel_4 rfl rfl ?_
  refine ex_getr (pc := 5) 0 7 d_TG_cancel_5 FL_TG_67 (Nat.le_of_ble_eq_true rfl) rfl rfl ?_
  refine ex_iload_n (pc := 8) (i := 1) d_TG_cancel_8 rfl rfl ?_
  refine ex_callV (pc := 9) (M' := M_In_find) (as := [.int x]) (st := [.ref 84]) d_TG_cancel_9 MW_In_find MI_In_find LK_TG_120 (Nat.le_of_ble_eq_true rfl) rfl rfl rfl (ct_In_find l G iv mp sp mo x n hn hl) (ex_lt_rm (by decide)) ⟨Nat.le_refl _, Nat.le_refl _⟩ rfl rfl (Nat.le_of_ble_eq_true rfl) ?_
  rintro _ _ ⟨rfl, rfl⟩
  refine ex_callV (pc := 12) (M' := M_In_takeOut) (as := [.int (cfind iv n x)]) (st := []) d_TG_cancel_12 MW_In_takeOut MI_In_takeOut LK_TG_124 (Nat.le_of_ble_eq_true rfl) rfl rfl rfl (ct_In_takeOut l G iv mp sp mo (cfind iv n x) n hn hl) (ex_lt_rm (by decide)) ⟨Nat.le_refl _, Nat.le_refl _⟩ rfl rfl (Nat.le_of_ble_eq_true rfl) ?_
  rintro _ _ ⟨rfl, rfl⟩
  refine ex_iret (ty := .boolean) d_TG_cancel_15 rfl (b2i_n _) rfl (Nat.le_refl _) ?_
  exact ⟨rfl, rfl⟩

set_option maxRecDepth 100000 in
set_option maxHeartbeats 4000000 in
theorem ct_RF_cancel (l : Launch) (G : ex_G) (iv : Nat → Nat → Int32) (mp : Nat → Nat) (sp mo : Nat) (x : Int32) (n : Nat) (hn : iv 92 32 = nI n) (hl : n ≤ 12) : CT l G 1 M_RF_cancel [.ref 92, .int x] (HP iv mp sp mo) 0 0 (fun r h' => h' = (if 0 ≤ (rfind iv n x).toInt then HP (rfOut iv n (rfind iv n x).toInt.toNat) mp sp mo else HP iv mp sp mo) ∧ r = some (.int (b2i (decide (0 ≤ (rfind iv n x).toInt))))) := by
  refine ex_enter (by decide) (Nat.le_of_ble_eq_true rfl) (fun v hv => by simp at hv; rcases hv with rfl | rfl <;> rfl) (fun p e s m args below meth c => ?_)
  refine ex_aload_n (pc := 0) (i := 0) d_RF_cancel_0 rfl rfl ?_
  refine ex_iload_n (pc := 1) (i := 1) d_RF_cancel_1 rfl rfl ?_
  refine ex_callV (pc := 2) (M' := M_RF_waitsAt) (as := [.int x]) (st := []) d_RF_cancel_2 MW_RF_waitsAt MI_RF_waitsAt LK_RF_271 (Nat.le_of_ble_eq_true rfl) rfl rfl rfl (ct_RF_waitsAt l G iv mp sp mo x n hn hl) (ex_lt_rm (by decide)) ⟨Nat.le_refl _, Nat.le_refl _⟩ rfl rfl (Nat.le_of_ble_eq_true rfl) ?_
  rintro _ _ ⟨rfl, rfl⟩
  change EX _ _ _ _ _ _ _ _ _ _ _ _ _ _ _ _ _ [.int (rfind iv n x)] _
  refine ex_istore_n (pc := 5) (i := 2) d_RF_cancel_5 rfl (by decide) ?_
  refine ex_iload_n (pc := 6) (i := 2) d_RF_cancel_6 rfl rfl ?_
  refine ex_if_ge (pc := 7) (tgt := 12) d_RF_cancel_7 rfl (fun c7 => ?_) (fun c7 => ?_)
  · obtain ⟨j, hj1, hj2⟩ : ∃ j, j < n ∧ rfind iv n x = nI j := by
      rcases fndI_r (fun j => decide (iv 121 j = nI 2) && decide (iv 124 j = x)) n 0 (by omega) with q | ⟨j, q1, q2, q3, q4⟩
      · have q1 := i_le.mp c7
        rw [show rfind iv n x = -1 from q, i_0, i_m1] at q1
        omega
      · exact ⟨j, by omega, q4⟩
    have hjt : (nI j).toInt = (j : Int) := nI_t (by omega)
    rw [hj2, hjt, if_pos (by omega), decide_eq_true (by omega), show ((j : Int)).toNat = j from by omega]
    refine ex_aload_n (pc := 12) (i := 0) d_RF_cancel_12 rfl rfl ?_
    refine ex_iload_n (pc := 13) (i := 2) d_RF_cancel_13 rfl rfl ?_
    refine ex_callV (pc := 14) (M' := M_RF_strike) (as := [.int (nI j)]) (st := []) d_RF_cancel_14 MW_RF_strike MI_RF_strike LK_RF_274 (Nat.le_of_ble_eq_true rfl) rfl rfl rfl (ct_RF_strike l G iv mp sp mo j n hn hl (by omega)) (ex_lt_rm (by decide)) ⟨Nat.le_refl _, Nat.le_refl _⟩ rfl rfl (Nat.le_of_ble_eq_true rfl) ?_
    rintro _ _ ⟨rfl, rfl⟩
    refine ex_iconst (pc := 17) (v := (nI 1)) d_RF_cancel_17 (by decide) ?_
    refine ex_iret (ty := .boolean) d_RF_cancel_18 rfl rfl rfl (Nat.le_refl _) ?_
    exact ⟨rfl, rfl⟩
  · refine ex_iconst (pc := 10) (v := (nI 0)) d_RF_cancel_10 (by decide) ?_
    refine ex_iret (ty := .boolean) d_RF_cancel_11 rfl rfl rfl (Nat.le_refl _) ?_
    have q0 : ¬ 0 ≤ (rfind iv n x).toInt := by
      have q1 := i_nle c7
      rw [i_0] at q1
      omega
    rw [if_neg q0, decide_eq_false q0]
    exact ⟨rfl, rfl⟩
end
section
/-! asking, answers -/
/-- a request behind n messages; q requests were made before -/
def inAsk (iv : Nat → Nat → Int32) (n q : Nat) (k1 k3 k4 : Int32) : Nat → Nat → Int32 := ex_u2 (inPut iv n k1 (nI (q + 1)) k3 k4) 84 5 (nI (q + 1))
def rfAsk (iv : Nat → Nat → Int32) (n q : Nat) (k1 k3 k4 : Int32) : Nat → Nat → Int32 := rfPost (ex_u2 iv 92 38 (nI (q + 1))) n (nI 2) k3 k4 (nI (q + 1)) k1
set_option maxRecDepth 100000 in
set_option maxHeartbeats 4000000 in
theorem ct_In_putRequest (l : Launch) (G : ex_G) (iv : Nat → Nat → Int32) (mp : Nat → Nat) (sp mo : Nat) (n q : Nat) (k1 k3 k4 : Int32) (hn : iv 84 4 = nI n) (hl : n < 12) (hq : iv 84 5 = nI q) : CT l G 2 M_In_putRequest [.ref 84, .int k1, .int k3, .int k4] (HP iv mp sp mo) 0 0 (fun r h' => h' = HP (inAsk iv n q k1 k3 k4) mp sp mo ∧ r = some (.int (nI (q + 1)))) := by
  refine ex_enter (by decide) (Nat.le_of_ble_eq_true rfl) (fun v hv => by simp at hv; rcases hv with rfl | rfl | rfl | rfl <;> rfl) (fun p e s m args below meth c => ?_)
  refine ex_aload_n (pc := 0) (i := 0) d_In_putRequest_0 rfl rfl ?_
  refine ex_iload_n (pc := 1) (i := 1) d_In_putRequest_1 rfl rfl ?_
  refine ex_aload_n (pc := 2) (i := 0) d_In_putRequest_2 rfl rfl ?_
  refine ex_getx (pc := 3) 6 5 (nI q) d_In_putRequest_3 FL_In_32 (Nat.le_of_ble_eq_true rfl) rfl hq ?_
  refine ex_iconst (pc := 6) (v := (nI 1)) d_In_putRequest_6 (by decide) ?_
  refine ex_iadd (pc := 7) d_In_putRequest_7 ?_
  refine ex_iload_n (pc := 8) (i := 2) d_In_putRequest_8 rfl rfl ?_
  refine ex_iload_n (pc := 9) (i := 3) d_In_putRequest_9 rfl rfl ?_
  refine ex_callV (pc := 10) (M' := M_In_put) (as := [.int k1, .int (nI q + nI 1), .int k3, .int k4]) (st := []) d_In_putRequest_10 MW_In_put MI_In_put LK_In_35 (Nat.le_of_ble_eq_true rfl) rfl rfl rfl (ct_In_put l G iv mp sp mo n k1 (nI q + nI 1) k3 k4 hn (by omega)) (ex_lt_rm (by decide)) ⟨Nat.le_refl _, Nat.le_refl _⟩ rfl rfl (Nat.le_of_ble_eq_true rfl) ?_
  rintro _ _ ⟨rfl, rfl⟩
  rw [if_neg (show ¬ n = 12 by omega), decide_eq_true (show ¬ n = 12 by omega), nI_s]
  refine ex_if_ne (pc := 13) (tgt := 18) d_In_putRequest_13 rfl (fun c13 => ?_) (fun c13 => ?_)
  · refine ex_aload_n (pc := 18) (i := 0) d_In_putRequest_18 rfl rfl ?_
    refine ex_dup (pc := 19) d_In_putRequest_19 rfl ?_
    refine ex_getx (pc := 20) 6 5 (nI q) d_In_putRequest_20 FL_In_32 (Nat.le_of_ble_eq_true rfl) rfl hq ?_
    refine ex_iconst (pc := 23) (v := (nI 1)) d_In_putRequest_23 (by decide) ?_
    refine ex_iadd (pc := 24) d_In_putRequest_24 ?_
    refine ex_puti (pc := 25) 6 5 .int d_In_putRequest_25 (PF_In_32 _) (Nat.le_of_ble_eq_true rfl) rfl rfl rfl ?_
    refine ex_heap (h' := HP (inAsk iv n q k1 k3 k4) mp sp mo) ?_ ?_
    · rw [nI_s]
      rfl
    refine ex_aload_n (pc := 28) (i := 0) d_In_putRequest_28 rfl rfl ?_
    refine ex_getx (pc := 29) 6 5 (nI (q + 1)) d_In_putRequest_29 FL_In_32 (Nat.le_of_ble_eq_true rfl) rfl rfl ?_
    refine ex_iret (ty := .int) d_In_putRequest_32 rfl rfl rfl (Nat.le_refl _) ?_
    exact ⟨rfl, rfl⟩
  · exact absurd c13 (by decide)

set_option maxRecDepth 100000 in
set_option maxHeartbeats 4000000 in
theorem ct_TG_ask (l : Launch) (G : ex_G) (iv : Nat → Nat → Int32) (mp : Nat → Nat) (sp mo : Nat) (n q : Nat) (k1 k3 k4 : Int32) (hn : iv 84 4 = nI n) (hl : n ≤ 12) (hq : iv 84 5 = nI q) : CT l G 3 M_TG_ask [.ref 0, .int k1, .int k3, .int k4] (HP iv mp sp mo) 0 0 (fun r h' => h' = (if 0 ≤ k1.toInt ∧ k1.toInt ≤ 3 ∧ n < 12 then HP (inAsk iv n q k1 k3 k4) mp sp mo else HP iv mp sp mo) ∧ r = some (.int (if 0 ≤ k1.toInt ∧ k1.toInt ≤ 3 then (if n < 12 then nI (q + 1) else -2) else -1))) := by
  refine ex_enter (by decide) (Nat.le_of_ble_eq_true rfl) (fun v hv => by simp at hv; rcases hv with rfl | rfl | rfl | rfl <;> rfl) (fun p e s m args below meth c => ?_)
  refine ex_iload_n (pc := 0) (i := 1) d_TG_ask_0 rfl rfl ?_
  refine ex_if_lt (pc := 1) (tgt := 9) d_TG_ask_1 rfl (fun c1 => ?_) (fun c1 => ?_)
  · refine ex_iconst (pc := 9) (v := (-1)) d_TG_ask_9 (by decide) ?_
    refine ex_iret (ty := .int) d_TG_ask_10 rfl rfl rfl (Nat.le_refl _) ?_
    have hk : ¬ (0 ≤ k1.toInt ∧ k1.toInt ≤ 3) := fun q => by have q1 := i_lt.mp c1; rw [i_0] at q1; omega
    rw [if_neg (fun q => hk ⟨q.1, q.2.1⟩), if_neg hk]
    exact ⟨rfl, rfl⟩
  · refine ex_iload_n (pc := 4) (i := 1) d_TG_ask_4 rfl rfl ?_
    refine ex_iconst (pc := 5) (v := (nI 3)) d_TG_ask_5 (by decide) ?_
    refine ex_icmp_le (pc := 6) (tgt := 11) d_TG_ask_6 rfl (fun c6 => ?_) (fun c6 => ?_)
    · have hk : 0 ≤ k1.toInt ∧ k1.toInt ≤ 3 := by
        have q1 := i_nlt c1
        have q2 := i_le.mp c6
        rw [i_0] at q1
        rw [nI_t (by omega)] at q2
        exact ⟨q1, by omega⟩
      refine ex_aload_n (pc := 11) (i := 0) d_TG_ask_11 rfl rfl ?_
      refine ex_getr (pc := 12) 0 7 d_TG_ask_12 FL_TG_67 (Nat.le_of_ble_eq_true rfl) rfl rfl ?_
      refine ex_callV (pc := 15) (M' := M_In_isFull) (as := []) (st := []) d_TG_ask_15 MW_In_isFull MI_In_isFull LK_TG_113 (Nat.le_of_ble_eq_true rfl) rfl rfl rfl (ct_In_isFull l G iv mp sp mo n hn hl) (ex_lt_rm (by decide)) ⟨Nat.le_refl _, Nat.le_refl _⟩ rfl rfl (Nat.le_of_ble_eq_true rfl) ?_
      rintro _ _ ⟨rfl, rfl⟩
      refine ex_if_eq (pc := 18) (tgt := 24) d_TG_ask_18 rfl (fun c18 => ?_) (fun c18 => ?_)
      · have h12 : n < 12 := by
          have q1 := of_decide_eq_false (b2i_0 c18)
          omega
        rw [if_pos ⟨hk.1, hk.2, h12⟩, if_pos hk, if_pos h12]
        refine ex_aload_n (pc := 24) (i := 0) d_TG_ask_24 rfl rfl ?_
        refine ex_getr (pc := 25) 0 7 d_TG_ask_25 FL_TG_67 (Nat.le_of_ble_eq_true rfl) rfl rfl ?_
        refine ex_iload_n (pc := 28) (i := 1) d_TG_ask_28 rfl rfl ?_
        refine ex_iload_n (pc := 29) (i := 2) d_TG_ask_29 rfl rfl ?_
        refine ex_iload_n (pc := 30) (i := 3) d_TG_ask_30 rfl rfl ?_
        refine ex_callV (pc := 31) (M' := M_In_putRequest) (as := [.int k1, .int k3, .int k4]) (st := []) d_TG_ask_31 MW_In_putRequest MI_In_putRequest LK_TG_116 (Nat.le_of_ble_eq_true rfl) rfl rfl rfl (ct_In_putRequest l G iv mp sp mo n q k1 k3 k4 hn h12 hq) (ex_lt_rm (by decide)) ⟨Nat.le_refl _, Nat.le_refl _⟩ rfl rfl (Nat.le_of_ble_eq_true rfl) ?_
        rintro _ _ ⟨rfl, rfl⟩
        refine ex_iret (ty := .int) d_TG_ask_34 rfl rfl rfl (Nat.le_refl _) ?_
        exact ⟨rfl, rfl⟩
      · refine ex_bipush (pc := 21) (v := (-2)) d_TG_ask_21 (by decide) ?_
        refine ex_iret (ty := .int) d_TG_ask_23 rfl rfl rfl (Nat.le_refl _) ?_
        have h12 := of_decide_eq_true (b2i_1 c18)
        rw [if_neg (fun q => by omega), if_pos hk, if_neg (by omega)]
        exact ⟨rfl, rfl⟩
    · refine ex_iconst (pc := 9) (v := (-1)) d_TG_ask_9 (by decide) ?_
      refine ex_iret (ty := .int) d_TG_ask_10 rfl rfl rfl (Nat.le_refl _) ?_
      have hk : ¬ (0 ≤ k1.toInt ∧ k1.toInt ≤ 3) := fun q => by have q1 := i_nle c6; rw [nI_t (by omega)] at q1; omega
      rw [if_neg (fun q => hk ⟨q.1, q.2.1⟩), if_neg hk]
      exact ⟨rfl, rfl⟩

set_option maxRecDepth 100000 in
set_option maxHeartbeats 4000000 in
theorem ct_RF_ask (l : Launch) (G : ex_G) (iv : Nat → Nat → Int32) (mp : Nat → Nat) (sp mo : Nat) (n q : Nat) (k1 k3 k4 : Int32) (hn : iv 92 32 = nI n) (hl : n ≤ 12) (hq : iv 92 38 = nI q) : CT l G 1 M_RF_ask [.ref 92, .int k1, .int k3, .int k4] (HP iv mp sp mo) 0 0 (fun r h' => h' = (if 0 ≤ k1.toInt ∧ k1.toInt ≤ 3 ∧ n < 12 then HP (rfAsk iv n q k1 k3 k4) mp sp mo else HP iv mp sp mo) ∧ r = some (.int (if 0 ≤ k1.toInt ∧ k1.toInt ≤ 3 then (if n < 12 then nI (q + 1) else -2) else -1))) := by
  refine ex_enter (by decide) (Nat.le_of_ble_eq_true rfl) (fun v hv => by simp at hv; rcases hv with rfl | rfl | rfl | rfl <;> rfl) (fun p e s m args below meth c => ?_)
  refine ex_iload_n (pc := 0) (i := 1) d_RF_ask_0 rfl rfl ?_
  refine ex_if_lt (pc := 1) (tgt := 9) d_RF_ask_1 rfl (fun c1 => ?_) (fun c1 => ?_)
  · refine ex_iconst (pc := 9) (v := (-1)) d_RF_ask_9 (by decide) ?_
    refine ex_iret (ty := .int) d_RF_ask_10 rfl rfl rfl (Nat.le_refl _) ?_
    have hk : ¬ (0 ≤ k1.toInt ∧ k1.toInt ≤ 3) := fun q => by have q1 := i_lt.mp c1; rw [i_0] at q1; omega
    rw [if_neg (fun q => hk ⟨q.1, q.2.1⟩), if_neg hk]
    exact ⟨rfl, rfl⟩
  · refine ex_iload_n (pc := 4) (i := 1) d_RF_ask_4 rfl rfl ?_
    refine ex_iconst (pc := 5) (v := (nI 3)) d_RF_ask_5 (by decide) ?_
    refine ex_icmp_le (pc := 6) (tgt := 11) d_RF_ask_6 rfl (fun c6 => ?_) (fun c6 => ?_)
    · have hk : 0 ≤ k1.toInt ∧ k1.toInt ≤ 3 := by
        have q1 := i_nlt c1
        have q2 := i_le.mp c6
        rw [i_0] at q1
        rw [nI_t (by omega)] at q2
        exact ⟨q1, by omega⟩
      refine ex_aload_n (pc := 11) (i := 0) d_RF_ask_11 rfl rfl ?_
      refine ex_getx (pc := 12) 12 32 (nI n) d_RF_ask_12 FL_RF_261 (Nat.le_of_ble_eq_true rfl) rfl hn ?_
      refine ex_bipush (pc := 15) (v := (nI 12)) d_RF_ask_15 (by decide) ?_
      refine ex_icmp_ne (pc := 17) (tgt := 23) d_RF_ask_17 rfl (fun c17 => ?_) (fun c17 => ?_)
      · have h12 : n < 12 := by
          have q1 : ¬ n = 12 := fun q => c17 (by rw [q])
          omega
        rw [if_pos ⟨hk.1, hk.2, h12⟩, if_pos hk, if_pos h12]
        refine ex_aload_n (pc := 23) (i := 0) d_RF_ask_23 rfl rfl ?_
        refine ex_dup (pc := 24) d_RF_ask_24 rfl ?_
        refine ex_getx (pc := 25) 12 38 (nI q) d_RF_ask_25 FL_RF_268 (Nat.le_of_ble_eq_true rfl) rfl hq ?_
        refine ex_iconst (pc := 28) (v := (nI 1)) d_RF_ask_28 (by decide) ?_
        refine ex_iadd (pc := 29) d_RF_ask_29 ?_
        refine ex_puti (pc := 30) 12 38 .int d_RF_ask_30 (PF_RF_268 _) (Nat.le_of_ble_eq_true rfl) rfl rfl rfl ?_
        refine ex_heap (h' := HP (ex_u2 iv 92 38 (nI (q + 1))) mp sp mo) ?_ ?_
        · rw [nI_s]
          rfl
        refine ex_aload_n (pc := 33) (i := 0) d_RF_ask_33 rfl rfl ?_
        refine ex_iconst (pc := 34) (v := (nI 2)) d_RF_ask_34 (by decide) ?_
        refine ex_iload_n (pc := 35) (i := 2) d_RF_ask_35 rfl rfl ?_
        refine ex_iload_n (pc := 36) (i := 3) d_RF_ask_36 rfl rfl ?_
        refine ex_aload_n (pc := 37) (i := 0) d_RF_ask_37 rfl rfl ?_
        refine ex_getx (pc := 38) 12 38 (nI (q + 1)) d_RF_ask_38 FL_RF_268 (Nat.le_of_ble_eq_true rfl) rfl rfl ?_
        refine ex_iload_n (pc := 41) (i := 1) d_RF_ask_41 rfl rfl ?_
        refine ex_callV (pc := 42) (M' := M_RF_post) (as := [.int (nI 2), .int k3, .int k4, .int (nI (q + 1)), .int k1]) (st := []) d_RF_ask_42 MW_RF_post MI_RF_post LK_RF_264 (Nat.le_of_ble_eq_true rfl) rfl rfl rfl (ct_RF_post l G (ex_u2 iv 92 38 (nI (q + 1))) mp sp mo n (nI 2) k3 k4 (nI (q + 1)) k1 hn h12) (ex_lt_rm (by decide)) ⟨Nat.le_refl _, Nat.le_refl _⟩ rfl rfl (Nat.le_of_ble_eq_true rfl) ?_
        rintro _ _ ⟨rfl, rfl⟩
        refine ex_aload_n (pc := 45) (i := 0) d_RF_ask_45 rfl rfl ?_
        refine ex_getx (pc := 46) 12 38 (nI (q + 1)) d_RF_ask_46 FL_RF_268 (Nat.le_of_ble_eq_true rfl) rfl rfl ?_
        refine ex_iret (ty := .int) d_RF_ask_49 rfl rfl rfl (Nat.le_refl _) ?_
        exact ⟨rfl, rfl⟩
      · refine ex_bipush (pc := 20) (v := (-2)) d_RF_ask_20 (by decide) ?_
        refine ex_iret (ty := .int) d_RF_ask_22 rfl rfl rfl (Nat.le_refl _) ?_
        have h12 := (n_eq (by omega) (by omega)).mp c17
        rw [if_neg (fun q => by omega), if_pos hk, if_neg (by omega)]
        exact ⟨rfl, rfl⟩
    · refine ex_iconst (pc := 9) (v := (-1)) d_RF_ask_9 (by decide) ?_
      refine ex_iret (ty := .int) d_RF_ask_10 rfl rfl rfl (Nat.le_refl _) ?_
      have hk : ¬ (0 ≤ k1.toInt ∧ k1.toInt ≤ 3) := fun q => by have q1 := i_nle c6; rw [nI_t (by omega)] at q1; omega
      rw [if_neg (fun q => hk ⟨q.1, q.2.1⟩), if_neg hk]
      exact ⟨rfl, rfl⟩

/-- what f holds at the first place from i on, k places long, where P holds -/
def fndV (P : Nat → Bool) (f : Nat → Int32) : Nat → Nat → Int32
  | 0, _ => -1
  | k + 1, i => if P i = true then f i else fndV P f k (i + 1)
def anKeep (iv : Nat → Nat → Int32) (t : Nat) (q v : Int32) : Nat → Nat → Int32 := ex_u2 (ex_u2 (ex_u2 iv 90 t q) 91 t v) 89 2 (nI ((t + 1) % 8))
set_option maxRecDepth 100000 in
set_option maxHeartbeats 4000000 in
theorem ct_An_keep (l : Launch) (G : ex_G) (iv : Nat → Nat → Int32) (mp : Nat → Nat) (sp mo : Nat) (t : Nat) (q v : Int32) (hn : iv 89 2 = nI t) (ht : t < 8) : CT l G 0 M_An_keep [.ref 89, .int q, .int v] (HP iv mp sp mo) 0 0 (fun r h' => h' = HP (anKeep iv t q v) mp sp mo ∧ r = none) := by
  refine ex_enter (by decide) (Nat.le_of_ble_eq_true rfl) (fun v hv => by simp at hv; rcases hv with rfl | rfl | rfl <;> rfl) (fun p e s m args below meth c => ?_)
  refine ex_aload_n (pc := 0) (i := 0) d_An_keep_0 rfl rfl ?_
  refine ex_getr (pc := 1) 1 0 d_An_keep_1 FL_An_9 (Nat.le_of_ble_eq_true rfl) rfl rfl ?_
  refine ex_aload_n (pc := 4) (i := 0) d_An_keep_4 rfl rfl ?_
  refine ex_getx (pc := 5) 1 2 (nI t) d_An_keep_5 FL_An_18 (Nat.le_of_ble_eq_true rfl) rfl hn ?_
  refine ex_iload_n (pc := 8) (i := 1) d_An_keep_8 rfl rfl ?_
  refine ex_iast (pc := 9) t d_An_keep_9 (Nat.le_of_ble_eq_true rfl) rfl rfl rfl (nI_t (by omega)) (show t < 8 from ht) ?_
  refine ex_aload_n (pc := 10) (i := 0) d_An_keep_10 rfl rfl ?_
  refine ex_getr (pc := 11) 1 1 d_An_keep_11 FL_An_15 (Nat.le_of_ble_eq_true rfl) rfl rfl ?_
  refine ex_aload_n (pc := 14) (i := 0) d_An_keep_14 rfl rfl ?_
  refine ex_getx (pc := 15) 1 2 (nI t) d_An_keep_15 FL_An_18 (Nat.le_of_ble_eq_true rfl) rfl hn ?_
  refine ex_iload_n (pc := 18) (i := 2) d_An_keep_18 rfl rfl ?_
  refine ex_iast (pc := 19) t d_An_keep_19 (Nat.le_of_ble_eq_true rfl) rfl rfl rfl (nI_t (by omega)) (show t < 8 from ht) ?_
  refine ex_aload_n (pc := 20) (i := 0) d_An_keep_20 rfl rfl ?_
  refine ex_aload_n (pc := 21) (i := 0) d_An_keep_21 rfl rfl ?_
  refine ex_getx (pc := 22) 1 2 (nI t) d_An_keep_22 FL_An_18 (Nat.le_of_ble_eq_true rfl) rfl hn ?_
  refine ex_iconst (pc := 25) (v := (nI 1)) d_An_keep_25 (by decide) ?_
  refine ex_iadd (pc := 26) d_An_keep_26 ?_
  refine ex_bipush (pc := 27) (v := (nI 8)) d_An_keep_27 (by decide) ?_
  refine ex_irem (pc := 29) d_An_keep_29 (by decide) ?_
  refine ex_puti (pc := 30) 1 2 .int d_An_keep_30 (PF_An_18 _) (Nat.le_of_ble_eq_true rfl) rfl rfl rfl ?_
  refine ex_heap (h' := HP (anKeep iv t q v) mp sp mo) ?_ ?_
  · rw [nI_s, pk_rem (by omega) (by omega) (by omega)]
    rfl
  refine ex_vret d_An_keep_33 rfl rfl (Nat.le_refl _) ?_
  exact ⟨rfl, rfl⟩

set_option maxRecDepth 100000 in
set_option maxHeartbeats 4000000 in
theorem lp_An_of {p : Program} {e : Env} {s : State} {m : MethodId} {args : Array Value} {below : List Frame} {meth : Method} {c : Code} (l : Launch) (G : ex_G) (iv : Nat → Nat → Int32) (mp : Nat → Nat) (sp mo : Nat) (x : Int32) (hx : 0 < x.toInt) (v : Int32) : ∀ (k i : Nat), i + k = 8 → fndV (fun j => decide (iv 90 j = x)) (iv 91) k i = v → EXM M_An_of l G 0 (fun r h' => h' = HP iv mp sp mo ∧ r = some (.int v)) p e s m args below meth c 2 [some (.ref 89), some (.int x), some (.int (nI i))] [] (HP iv mp sp mo) := by
  intro k
  induction k with
  | zero =>
    intro i hik hv
    subst hv
    refine ex_iload_n (pc := 2) (i := 1) d_An_of_2 rfl rfl ?_
    refine ex_if_le (pc := 3) (tgt := 35) d_An_of_3 rfl (fun c3 => ?_) (fun c3 => ?_)
    · exact absurd c3 (fun q => by have q1 := i_le.mp q; rw [i_0] at q1; omega)
    · refine ex_iload_n (pc := 6) (i := 2) d_An_of_6 rfl rfl ?_
      refine ex_bipush (pc := 7) (v := (nI 8)) d_An_of_7 (by decide) ?_
      refine ex_icmp_ge (pc := 9) (tgt := 35) d_An_of_9 rfl (fun c9 => ?_) (fun c9 => ?_)
      · refine ex_iconst (pc := 35) (v := (-1)) d_An_of_35 (by decide) ?_
        refine ex_iret (ty := .int) d_An_of_36 rfl rfl rfl (Nat.le_refl _) ?_
        exact ⟨rfl, rfl⟩
      · exact absurd ((n_ge (by omega) (by omega)).mpr (by omega)) c9
  | succ k ih =>
    intro i hik hv
    refine ex_iload_n (pc := 2) (i := 1) d_An_of_2 rfl rfl ?_
    refine ex_if_le (pc := 3) (tgt := 35) d_An_of_3 rfl (fun c3 => ?_) (fun c3 => ?_)
    · exact absurd c3 (fun q => by have q1 := i_le.mp q; rw [i_0] at q1; omega)
    · refine ex_iload_n (pc := 6) (i := 2) d_An_of_6 rfl rfl ?_
      refine ex_bipush (pc := 7) (v := (nI 8)) d_An_of_7 (by decide) ?_
      refine ex_icmp_ge (pc := 9) (tgt := 35) d_An_of_9 rfl (fun c9 => ?_) (fun c9 => ?_)
      · exact absurd ((n_ge (by omega) (by omega)).mp c9) (by omega)
      · refine ex_aload_n (pc := 12) (i := 0) d_An_of_12 rfl rfl ?_
        refine ex_getr (pc := 13) 1 0 d_An_of_13 FL_An_9 (Nat.le_of_ble_eq_true rfl) rfl rfl ?_
        refine ex_iload_n (pc := 16) (i := 2) d_An_of_16 rfl rfl ?_
        refine ex_ialdx (pc := 17) i (iv 90 i) d_An_of_17 (Nat.le_of_ble_eq_true rfl) rfl rfl rfl (nI_t (by omega)) (show i < 8 by omega) rfl ?_
        refine ex_iload_n (pc := 18) (i := 1) d_An_of_18 rfl rfl ?_
        refine ex_icmp_ne (pc := 19) (tgt := 29) d_An_of_19 rfl (fun c19 => ?_) (fun c19 => ?_)
        · refine ex_iinc (pc := 29) (v := (nI (i + 1))) d_An_of_29 rfl (nI_1 i) (by decide) ?_
          refine ex_goto (pc := 32) (tgt := 2) d_An_of_32 rfl ?_
          exact ih (i + 1) (by omega) (by rw [fndV, if_neg (by simp [c19])] at hv; exact hv)
        · refine ex_aload_n (pc := 22) (i := 0) d_An_of_22 rfl rfl ?_
          refine ex_getr (pc := 23) 1 1 d_An_of_23 FL_An_15 (Nat.le_of_ble_eq_true rfl) rfl rfl ?_
          refine ex_iload_n (pc := 26) (i := 2) d_An_of_26 rfl rfl ?_
          refine ex_ialdx (pc := 27) i (iv 91 i) d_An_of_27 (Nat.le_of_ble_eq_true rfl) rfl rfl rfl (nI_t (by omega)) (show i < 8 by omega) rfl ?_
          refine ex_iret (ty := .int) d_An_of_28 rfl rfl rfl (Nat.le_refl _) ?_
          refine ⟨rfl, ?_⟩
          rw [← hv, fndV, if_pos (by simp [c19])]

set_option maxRecDepth 100000 in
set_option maxHeartbeats 4000000 in
theorem ct_An_of (l : Launch) (G : ex_G) (iv : Nat → Nat → Int32) (mp : Nat → Nat) (sp mo : Nat) (x : Int32) : CT l G 0 M_An_of [.ref 89, .int x] (HP iv mp sp mo) 0 0 (fun r h' => h' = HP iv mp sp mo ∧ r = some (.int (if 0 < x.toInt then fndV (fun j => decide (iv 90 j = x)) (iv 91) 8 0 else -1))) := by
  refine ex_enter (by decide) (Nat.le_of_ble_eq_true rfl) (fun v hv => by simp at hv; rcases hv with rfl | rfl <;> rfl) (fun p e s m args below meth c => ?_)
  refine ex_iconst (pc := 0) (v := (nI 0)) d_An_of_0 (by decide) ?_
  refine ex_istore_n (pc := 1) (i := 2) d_An_of_1 rfl (by decide) ?_
  by_cases hx : 0 < x.toInt
  · rw [if_pos hx]
    exact lp_An_of l G iv mp sp mo x hx _ 8 0 (by omega) rfl
  rw [if_neg hx]
  refine ex_iload_n (pc := 2) (i := 1) d_An_of_2 rfl rfl ?_
  refine ex_if_le (pc := 3) (tgt := 35) d_An_of_3 rfl (fun c3 => ?_) (fun c3 => ?_)
  · refine ex_iconst (pc := 35) (v := (-1)) d_An_of_35 (by decide) ?_
    refine ex_iret (ty := .int) d_An_of_36 rfl rfl rfl (Nat.le_refl _) ?_
    exact ⟨rfl, rfl⟩
  · exact absurd c3 (fun q => q (i_le.mpr (by rw [i_0]; omega)))

def cAns (iv : Nat → Nat → Int32) (n : Nat) (x : Int32) : Int32 := if cfind iv n x = -1 then (if 0 < x.toInt then fndV (fun j => decide (iv 90 j = x)) (iv 91) 8 0 else -1) else -3
set_option maxRecDepth 100000 in
set_option maxHeartbeats 4000000 in
theorem ct_TG_answer (l : Launch) (G : ex_G) (iv : Nat → Nat → Int32) (mp : Nat → Nat) (sp mo : Nat) (x : Int32) (n : Nat) (hn : iv 84 4 = nI n) (hl : n ≤ 12) : CT l G 1 M_TG_answer [.ref 0, .int x] (HP iv mp sp mo) 0 0 (fun r h' => h' = HP iv mp sp mo ∧ r = some (.int (cAns iv n x))) := by
  refine ex_enter (by decide) (Nat.le_of_ble_eq_true rfl) (fun v hv => by simp at hv; rcases hv with rfl | rfl <;> rfl) (fun p e s m args below meth c => ?_)
  refine ex_aload_n (pc := 0) (i := 0) d_TG_answer_0 rfl rfl ?_
  refine ex_getr (pc := 1) 0 7 d_TG_answer_1 FL_TG_67 (Nat.le_of_ble_eq_true rfl) rfl rfl ?_
  refine ex_iload_n (pc := 4) (i := 1) d_TG_answer_4 rfl rfl ?_
  refine ex_callV (pc := 5) (M' := M_In_find) (as := [.int x]) (st := []) d_TG_answer_5 MW_In_find MI_In_find LK_TG_120 (Nat.le_of_ble_eq_true rfl) rfl rfl rfl (ct_In_find l G iv mp sp mo x n hn hl) (ex_lt_rm (by decide)) ⟨Nat.le_refl _, Nat.le_refl _⟩ rfl rfl (Nat.le_of_ble_eq_true rfl) ?_
  rintro _ _ ⟨rfl, rfl⟩
  change EX _ _ _ _ _ _ _ _ _ _ _ _ _ _ _ _ _ [.int (cfind iv n x)] _
  refine ex_iconst (pc := 8) (v := (-1)) d_TG_answer_8 (by decide) ?_
  refine ex_icmp_ne (pc := 9) (tgt := 23) d_TG_answer_9 rfl (fun c9 => ?_) (fun c9 => ?_)
  · refine ex_bipush (pc := 23) (v := (-3)) d_TG_answer_23 (by decide) ?_
    refine ex_iret (ty := .int) d_TG_answer_25 rfl rfl rfl (Nat.le_refl _) ?_
    exact ⟨rfl, by rw [cAns, if_neg c9]⟩
  · refine ex_aload_n (pc := 12) (i := 0) d_TG_answer_12 rfl rfl ?_
    refine ex_getr (pc := 13) 0 8 d_TG_answer_13 FL_TG_74 (Nat.le_of_ble_eq_true rfl) rfl rfl ?_
    refine ex_iload_n (pc := 16) (i := 1) d_TG_answer_16 rfl rfl ?_
    refine ex_callV (pc := 17) (M' := M_An_of) (as := [.int x]) (st := []) d_TG_answer_17 MW_An_of MI_An_of LK_TG_158 (Nat.le_of_ble_eq_true rfl) rfl rfl rfl (ct_An_of l G iv mp sp mo x) (ex_lt_rm (by decide)) ⟨Nat.le_refl _, Nat.le_refl _⟩ rfl rfl (Nat.le_of_ble_eq_true rfl) ?_
    rintro _ _ ⟨rfl, rfl⟩
    refine ex_goto (pc := 20) (tgt := 25) d_TG_answer_20 rfl ?_
    refine ex_iret (ty := .int) d_TG_answer_25 rfl rfl rfl (Nat.le_refl _) ?_
    exact ⟨rfl, by rw [cAns, if_pos c9]⟩

def rAns (iv : Nat → Nat → Int32) (n a : Nat) (x : Int32) : Int32 := if 0 ≤ (rfind iv n x).toInt then -3 else fndV (fun j => decide (iv 126 j = x)) (iv 127) (min 8 a) 0
set_option maxRecDepth 100000 in
set_option maxHeartbeats 4000000 in
theorem lp_RF_answer {p : Program} {e : Env} {s : State} {m : MethodId} {args : Array Value} {below : List Frame} {meth : Method} {c : Code} (l : Launch) (G : ex_G) (iv : Nat → Nat → Int32) (mp : Nat → Nat) (sp mo : Nat) (x : Int32) (a : Nat) (ha : iv 92 39 = nI a) (hal : a ≤ 1000000) (v : Int32) : ∀ (k i : Nat), i + k = min 8 a → fndV (fun j => decide (iv 126 j = x)) (iv 127) k i = v → EXM M_RF_answer l G 1 (fun r h' => h' = HP iv mp sp mo ∧ r = some (.int v)) p e s m args below meth c 13 [some (.ref 92), some (.int x), some (.int (nI i))] [] (HP iv mp sp mo) := by
  intro k
  induction k with
  | zero =>
    intro i hik hv
    subst hv
    refine ex_iload_n (pc := 13) (i := 2) d_RF_answer_13 rfl rfl ?_
    refine ex_bipush (pc := 14) (v := (nI 8)) d_RF_answer_14 (by decide) ?_
    refine ex_icmp_ge (pc := 16) (tgt := 50) d_RF_answer_16 rfl (fun c16 => ?_) (fun c16 => ?_)
    · refine ex_iconst (pc := 50) (v := (-1)) d_RF_answer_50 (by decide) ?_
      refine ex_iret (ty := .int) d_RF_answer_51 rfl rfl rfl (Nat.le_refl _) ?_
      exact ⟨rfl, rfl⟩
    · refine ex_iload_n (pc := 19) (i := 2) d_RF_answer_19 rfl rfl ?_
      refine ex_aload_n (pc := 20) (i := 0) d_RF_answer_20 rfl rfl ?_
      refine ex_getx (pc := 21) 12 39 (nI a) d_RF_answer_21 FL_RF_295 (Nat.le_of_ble_eq_true rfl) rfl ha ?_
      refine ex_icmp_ge (pc := 24) (tgt := 50) d_RF_answer_24 rfl (fun c24 => ?_) (fun c24 => ?_)
      · refine ex_iconst (pc := 50) (v := (-1)) d_RF_answer_50 (by decide) ?_
        refine ex_iret (ty := .int) d_RF_answer_51 rfl rfl rfl (Nat.le_refl _) ?_
        exact ⟨rfl, rfl⟩
      · exact absurd ((n_ge (by omega) (by omega)).mpr (by have q1 : ¬ 8 ≤ i := fun q => c16 ((n_ge (by omega) (by omega)).mpr q); omega)) c24
  | succ k ih =>
    intro i hik hv
    refine ex_iload_n (pc := 13) (i := 2) d_RF_answer_13 rfl rfl ?_
    refine ex_bipush (pc := 14) (v := (nI 8)) d_RF_answer_14 (by decide) ?_
    refine ex_icmp_ge (pc := 16) (tgt := 50) d_RF_answer_16 rfl (fun c16 => ?_) (fun c16 => ?_)
    · exact absurd ((n_ge (by omega) (by omega)).mp c16) (by omega)
    · refine ex_iload_n (pc := 19) (i := 2) d_RF_answer_19 rfl rfl ?_
      refine ex_aload_n (pc := 20) (i := 0) d_RF_answer_20 rfl rfl ?_
      refine ex_getx (pc := 21) 12 39 (nI a) d_RF_answer_21 FL_RF_295 (Nat.le_of_ble_eq_true rfl) rfl ha ?_
      refine ex_icmp_ge (pc := 24) (tgt := 50) d_RF_answer_24 rfl (fun c24 => ?_) (fun c24 => ?_)
      · exact absurd ((n_ge (by omega) (by omega)).mp c24) (by omega)
      · refine ex_aload_n (pc := 27) (i := 0) d_RF_answer_27 rfl rfl ?_
        refine ex_getr (pc := 28) 12 40 d_RF_answer_28 FL_RF_110 (Nat.le_of_ble_eq_true rfl) rfl rfl ?_
        refine ex_iload_n (pc := 31) (i := 2) d_RF_answer_31 rfl rfl ?_
        refine ex_ialdx (pc := 32) i (iv 126 i) d_RF_answer_32 (Nat.le_of_ble_eq_true rfl) rfl rfl rfl (nI_t (by omega)) (show i < 8 by omega) rfl ?_
        refine ex_iload_n (pc := 33) (i := 1) d_RF_answer_33 rfl rfl ?_
        refine ex_icmp_ne (pc := 34) (tgt := 44) d_RF_answer_34 rfl (fun c34 => ?_) (fun c34 => ?_)
        · refine ex_iinc (pc := 44) (v := (nI (i + 1))) d_RF_answer_44 rfl (nI_1 i) (by decide) ?_
          refine ex_goto (pc := 47) (tgt := 13) d_RF_answer_47 rfl ?_
          exact ih (i + 1) (by omega) (by rw [fndV, if_neg (by simp [c34])] at hv; exact hv)
        · refine ex_aload_n (pc := 37) (i := 0) d_RF_answer_37 rfl rfl ?_
          refine ex_getr (pc := 38) 12 41 d_RF_answer_38 FL_RF_113 (Nat.le_of_ble_eq_true rfl) rfl rfl ?_
          refine ex_iload_n (pc := 41) (i := 2) d_RF_answer_41 rfl rfl ?_
          refine ex_ialdx (pc := 42) i (iv 127 i) d_RF_answer_42 (Nat.le_of_ble_eq_true rfl) rfl rfl rfl (nI_t (by omega)) (show i < 8 by omega) rfl ?_
          refine ex_iret (ty := .int) d_RF_answer_43 rfl rfl rfl (Nat.le_refl _) ?_
          refine ⟨rfl, ?_⟩
          rw [← hv, fndV, if_pos (by simp [c34])]

set_option maxRecDepth 100000 in
set_option maxHeartbeats 4000000 in
theorem ct_RF_answer (l : Launch) (G : ex_G) (iv : Nat → Nat → Int32) (mp : Nat → Nat) (sp mo : Nat) (x : Int32) (n a : Nat) (hn : iv 92 32 = nI n) (hl : n ≤ 12) (ha : iv 92 39 = nI a) (hal : a ≤ 1000000) : CT l G 1 M_RF_answer [.ref 92, .int x] (HP iv mp sp mo) 0 0 (fun r h' => h' = HP iv mp sp mo ∧ r = some (.int (rAns iv n a x))) := by
  refine ex_enter (by decide) (Nat.le_of_ble_eq_true rfl) (fun v hv => by simp at hv; rcases hv with rfl | rfl <;> rfl) (fun p e s m args below meth c => ?_)
  refine ex_aload_n (pc := 0) (i := 0) d_RF_answer_0 rfl rfl ?_
  refine ex_iload_n (pc := 1) (i := 1) d_RF_answer_1 rfl rfl ?_
  refine ex_callV (pc := 2) (M' := M_RF_waitsAt) (as := [.int x]) (st := []) d_RF_answer_2 MW_RF_waitsAt MI_RF_waitsAt LK_RF_271 (Nat.le_of_ble_eq_true rfl) rfl rfl rfl (ct_RF_waitsAt l G iv mp sp mo x n hn hl) (ex_lt_rm (by decide)) ⟨Nat.le_refl _, Nat.le_refl _⟩ rfl rfl (Nat.le_of_ble_eq_true rfl) ?_
  rintro _ _ ⟨rfl, rfl⟩
  change EX _ _ _ _ _ _ _ _ _ _ _ _ _ _ _ _ _ [.int (rfind iv n x)] _
  refine ex_if_lt (pc := 5) (tgt := 11) d_RF_answer_5 rfl (fun c5 => ?_) (fun c5 => ?_)
  · refine ex_iconst (pc := 11) (v := (nI 0)) d_RF_answer_11 (by decide) ?_
    refine ex_istore_n (pc := 12) (i := 2) d_RF_answer_12 rfl (by decide) ?_
    have q0 : ¬ 0 ≤ (rfind iv n x).toInt := by
      have q1 := i_lt.mp c5
      rw [i_0] at q1
      omega
    rw [rAns, if_neg q0]
    exact lp_RF_answer l G iv mp sp mo x a ha hal _ (min 8 a) 0 (by omega) rfl
  · refine ex_bipush (pc := 8) (v := (-3)) d_RF_answer_8 (by decide) ?_
    refine ex_iret (ty := .int) d_RF_answer_10 rfl rfl rfl (Nat.le_refl _) ?_
    have q0 : 0 ≤ (rfind iv n x).toInt := by
      have q1 := i_nlt c5
      rw [i_0] at q1
      omega
    exact ⟨rfl, by rw [rAns, if_pos q0]⟩
end
section
/-! the text: characters come and go, on both sides -/
def insF (f : Nat → Int32) (t : Nat) (ch : Int32) (k : Nat) : Int32 := if k < t then f k else if k = t then ch else f (k - 1)
def delF (f : Nat → Int32) (t y : Nat) (k : Nat) : Int32 := if k < t then f k else f (k + y)
theorem ex_u2_up {iv : Nat → Nat → Int32} {a t : Nat} {F : Nat → Int32} {v : Int32} : ex_u2 (va_up iv a F) a t v = va_up iv a (va_up F t v) := by
  funext i j
  unfold ex_u2 va_up
  by_cases hi : i = a
  · subst hi
    by_cases hj : j = t
    · simp [hj]
    · simp [hj]
  · simp [hi]
theorem up_id {iv : Nat → Nat → Int32} {a : Nat} : va_up iv a (iv a) = iv := by
  funext i
  by_cases hi : i = a
  · subst hi
    exact va_up_self _ _ _
  · exact va_up_ne _ _ hi
theorem up_up {iv : Nat → Nat → Int32} {a : Nat} {F F' : Nat → Int32} : va_up (va_up iv a F) a F' = va_up iv a F' := by
  funext i
  by_cases hi : i = a
  · subst hi
    rw [va_up_self, va_up_self]
  · rw [va_up_ne _ _ hi, va_up_ne _ _ hi, va_up_ne _ _ hi]
theorem c_id {x : Int32} (h : wrB x = true) : (x.toUInt32 % 65536).toInt32 = x := by
  have h1 := wr_r h
  have e := i_of x (by omega)
  generalize hq : x.toInt.toNat = q at e
  have hq2 : q < 65536 := by omega
  rw [pk_char, e, pk_tn (by omega), Nat.mod_eq_of_lt hq2]
theorem wr_fit {x : Int32} (h : wrB x = true) : fits .char (.int x) = true := by
  have h1 := wr_r h
  have e := i_of x (by omega)
  rw [e]
  exact (pk_charN (by omega)).2
theorem wr_nar {x : Int32} (h : wrB x = true) : vp_nar .char x = x := by
  have h1 := wr_r h
  exact nar_c (by omega) (by omega)
/-- the characters of the text may all be written -/
def txC (iv : Nat → Nat → Int32) (n : Nat) : Prop := ∀ k, k < n → wrB (iv 40 k) = true
def inOk (n : Nat) (x ch : Int32) : Prop := 0 ≤ x.toInt ∧ x.toInt ≤ n ∧ wrB ch = true ∧ n < 100
def delOk (n : Nat) (x y : Int32) : Prop := 1 ≤ y.toInt ∧ 0 ≤ x.toInt ∧ x.toInt + y.toInt ≤ n
set_option maxRecDepth 100000 in
set_option maxHeartbeats 4000000 in
theorem ct_Tx_putIn (l : Launch) (G : ex_G) (iv : Nat → Nat → Int32) (mp : Nat → Nat) (sp mo : Nat) (n : Nat) (x ch : Int32) (hn : iv 39 1 = nI n) (hl : n ≤ 100) (hc : txC iv n) : CT l G 1 M_Tx_putIn [.ref 39, .int x, .int ch] (HP iv mp sp mo) 0 0 (fun r h' => r = none ∧ (inOk n x ch → ∃ g, h' = HP (ex_u2 (va_up iv 40 g) 39 1 (nI (n + 1))) mp sp mo ∧ ∀ k, k < n + 1 → g k = insF (iv 40) x.toInt.toNat ch k) ∧ (¬ inOk n x ch → h' = HP iv mp sp mo)) := by
  refine ex_enter (by decide) (Nat.le_of_ble_eq_true rfl) (fun v hv => by simp at hv; rcases hv with rfl | rfl | rfl <;> rfl) (fun p e s m args below meth c => ?_)
  refine ex_iload_n (pc := 0) (i := 1) d_Tx_putIn_0 rfl rfl ?_
  refine ex_if_lt (pc := 1) (tgt := 28) d_Tx_putIn_1 rfl (fun c1 => ?_) (fun c1 => ?_)
  · refine ex_vret d_Tx_putIn_28 rfl rfl (Nat.le_refl _) ?_
    refine ⟨rfl, fun q => absurd q (fun q => ?_), fun _ => rfl⟩
    have q1 := i_lt.mp c1
    have q2 := q.1
    rw [i_0] at q1
    omega
  · refine ex_iload_n (pc := 4) (i := 1) d_Tx_putIn_4 rfl rfl ?_
    refine ex_aload_n (pc := 5) (i := 0) d_Tx_putIn_5 rfl rfl ?_
    refine ex_getx (pc := 6) 10 1 (nI n) d_Tx_putIn_6 FL_Tx_15 (Nat.le_of_ble_eq_true rfl) rfl hn ?_
    refine ex_icmp_gt (pc := 9) (tgt := 28) d_Tx_putIn_9 rfl (fun c9 => ?_) (fun c9 => ?_)
    · refine ex_vret d_Tx_putIn_28 rfl rfl (Nat.le_refl _) ?_
      refine ⟨rfl, fun q => absurd q (fun q => ?_), fun _ => rfl⟩
      have q1 := i_lt.mp c9
      have q2 := q.2.1
      rw [nI_t (by omega)] at q1
      omega
    · refine ex_iload_n (pc := 12) (i := 2) d_Tx_putIn_12 rfl rfl ?_
      refine ex_callS (pc := 13) (M' := M_TG_isWritable) (as := [.int ch]) (st := []) d_Tx_putIn_13 MW_TG_isWritable ST_TG_isWritable LK_Tx_19 (ct_TG_isWritable l G (HP iv mp sp mo) ch) (ex_lt_rm (by decide)) ⟨Nat.le_refl _, Nat.le_refl _⟩ rfl rfl (Nat.le_of_ble_eq_true rfl) ?_
      rintro _ _ ⟨rfl, rfl⟩
      refine ex_if_eq (pc := 16) (tgt := 28) d_Tx_putIn_16 rfl (fun c16 => ?_) (fun c16 => ?_)
      · refine ex_vret d_Tx_putIn_28 rfl rfl (Nat.le_refl _) ?_
        refine ⟨rfl, fun q => absurd q (fun q => ?_), fun _ => rfl⟩
        exact absurd (b2i_0 c16) (by rw [q.2.2.1]; decide)
      · refine ex_aload_n (pc := 19) (i := 0) d_Tx_putIn_19 rfl rfl ?_
        refine ex_getx (pc := 20) 10 1 (nI n) d_Tx_putIn_20 FL_Tx_15 (Nat.le_of_ble_eq_true rfl) rfl hn ?_
        refine ex_bipush (pc := 23) (v := (nI 100)) d_Tx_putIn_23 (by decide) ?_
        refine ex_icmp_lt (pc := 25) (tgt := 29) d_Tx_putIn_25 rfl (fun c25 => ?_) (fun c25 => ?_)
        · have hw := b2i_1 c16
          have h100 : n < 100 := (n_lt (by omega) (by omega)).mp c25
          have hx : 0 ≤ x.toInt ∧ x.toInt ≤ n := by
            have q1 := i_nlt c1
            have q2 := i_nlt c9
            rw [i_0] at q1
            rw [nI_t (by omega)] at q2
            exact ⟨q1, q2⟩
          obtain ⟨t, htn, rfl⟩ : ∃ t, t ≤ n ∧ x = nI t := ⟨x.toInt.toNat, by omega, i_of x hx.1⟩
          have htt : (nI t).toInt = (t : Int) := nI_t (by omega)
          refine ex_aload_n (pc := 29) (i := 0) d_Tx_putIn_29 rfl rfl ?_
          refine ex_getr (pc := 30) 10 0 d_Tx_putIn_30 FL_Tx_9 (Nat.le_of_ble_eq_true rfl) rfl rfl ?_
          refine ex_iload_n (pc := 33) (i := 1) d_Tx_putIn_33 rfl rfl ?_
          refine ex_aload_n (pc := 34) (i := 0) d_Tx_putIn_34 rfl rfl ?_
          refine ex_getr (pc := 35) 10 0 d_Tx_putIn_35 FL_Tx_9 (Nat.le_of_ble_eq_true rfl) rfl rfl ?_
          refine ex_iload_n (pc := 38) (i := 1) d_Tx_putIn_38 rfl rfl ?_
          refine ex_iconst (pc := 39) (v := (nI 1)) d_Tx_putIn_39 (by decide) ?_
          refine ex_iadd (pc := 40) d_Tx_putIn_40 ?_
          refine ex_aload_n (pc := 41) (i := 0) d_Tx_putIn_41 rfl rfl ?_
          refine ex_getx (pc := 42) 10 1 (nI n) d_Tx_putIn_42 FL_Tx_15 (Nat.le_of_ble_eq_true rfl) rfl hn ?_
          refine ex_iload_n (pc := 45) (i := 1) d_Tx_putIn_45 rfl rfl ?_
          refine ex_isub (pc := 46) d_Tx_putIn_46 ?_
          refine ex_copy (pc := 47) t (t + 1) (n - t) d_Tx_putIn_47 AC_Tx_23 AC_1 AC_2 AC_3 (Nat.le_of_ble_eq_true rfl) rfl (Nat.le_of_ble_eq_true rfl) rfl rfl rfl rfl (nI_t (by omega)) (by rw [nI_s]; exact nI_t (by omega)) (by rw [pk_sub htn]; exact nI_t (by omega)) (show t + (n - t) ≤ 100 by omega) (show t + 1 + (n - t) ≤ 100 by omega) (fun k hk => wr_fit (hc _ (by omega))) (ex_lt_rm (by decide)) (Nat.le_of_ble_eq_true rfl) ?_
          refine ex_aload_n (pc := 50) (i := 0) d_Tx_putIn_50 rfl rfl ?_
          refine ex_getr (pc := 51) 10 0 d_Tx_putIn_51 FL_Tx_9 (Nat.le_of_ble_eq_true rfl) rfl rfl ?_
          refine ex_iload_n (pc := 54) (i := 1) d_Tx_putIn_54 rfl rfl ?_
          refine ex_iload_n (pc := 55) (i := 2) d_Tx_putIn_55 rfl rfl ?_
          refine ex_i2c (pc := 56) (v := ch) d_Tx_putIn_56 (c_id hw) ?_
          refine ex_cast (pc := 57) t d_Tx_putIn_57 (Nat.le_of_ble_eq_true rfl) rfl rfl rfl (nI_t (by omega)) (show t < 100 by omega) ?_
          refine ex_aload_n (pc := 58) (i := 0) d_Tx_putIn_58 rfl rfl ?_
          refine ex_dup (pc := 59) d_Tx_putIn_59 rfl ?_
          refine ex_getx (pc := 60) 10 1 (nI n) d_Tx_putIn_60 FL_Tx_15 (Nat.le_of_ble_eq_true rfl) rfl hn ?_
          refine ex_iconst (pc := 63) (v := (nI 1)) d_Tx_putIn_63 (by decide) ?_
          refine ex_iadd (pc := 64) d_Tx_putIn_64 ?_
          refine ex_puti (pc := 65) 10 1 .int d_Tx_putIn_65 (PF_Tx_15 _) (Nat.le_of_ble_eq_true rfl) rfl rfl rfl ?_
          refine ex_heap (h' := HP (ex_u2 (va_up iv 40 (va_up (va_cpy (iv 40) (iv 40) t (t + 1) (n - t)) t ch)) 39 1 (nI (n + 1))) mp sp mo) ?_ ?_
          · rw [nI_s, wr_nar hw, ← ex_u2_up]
            rfl
          refine ex_vret d_Tx_putIn_68 rfl rfl (Nat.le_refl _) ?_
          refine ⟨rfl, fun _ => ⟨_, rfl, fun k hk => ?_⟩, fun q => absurd ⟨hx.1, hx.2, hw, h100⟩ q⟩
          rw [htt]
          show va_up _ _ _ k = insF _ t ch k
          unfold insF va_up va_cpy
          by_cases h1 : k = t
          · rw [if_pos h1, if_neg (by omega), if_pos h1]
          · rw [if_neg h1]
            by_cases h2 : k < t
            · rw [if_pos h2, if_neg (by omega)]
            · rw [if_neg h2, if_neg h1, if_pos (by omega)]
              congr 1
              omega
        · refine ex_vret d_Tx_putIn_28 rfl rfl (Nat.le_refl _) ?_
          refine ⟨rfl, fun q => absurd q (fun q => ?_), fun _ => rfl⟩
          exact c25 ((n_lt (by omega) (by omega)).mpr q.2.2.2)

set_option maxRecDepth 100000 in
set_option maxHeartbeats 4000000 in
theorem ct_Tx_takeOut (l : Launch) (G : ex_G) (iv : Nat → Nat → Int32) (mp : Nat → Nat) (sp mo : Nat) (n : Nat) (x y : Int32) (hn : iv 39 1 = nI n) (hl : n ≤ 100) (hc : txC iv n) : CT l G 1 M_Tx_takeOut [.ref 39, .int x, .int y] (HP iv mp sp mo) 0 0 (fun r h' => r = none ∧ (delOk n x y → ∃ g, h' = HP (ex_u2 (va_up iv 40 g) 39 1 (nI (n - y.toInt.toNat))) mp sp mo ∧ ∀ k, k < n - y.toInt.toNat → g k = delF (iv 40) x.toInt.toNat y.toInt.toNat k) ∧ (¬ delOk n x y → h' = HP iv mp sp mo)) := by
  refine ex_enter (by decide) (Nat.le_of_ble_eq_true rfl) (fun v hv => by simp at hv; rcases hv with rfl | rfl | rfl <;> rfl) (fun p e s m args below meth c => ?_)
  refine ex_iload_n (pc := 0) (i := 2) d_Tx_takeOut_0 rfl rfl ?_
  refine ex_iconst (pc := 1) (v := (nI 1)) d_Tx_takeOut_1 (by decide) ?_
  refine ex_icmp_lt (pc := 2) (tgt := 27) d_Tx_takeOut_2 rfl (fun c2 => ?_) (fun c2 => ?_)
  · refine ex_vret d_Tx_takeOut_27 rfl rfl (Nat.le_refl _) ?_
    refine ⟨rfl, fun q => absurd q (fun q => ?_), fun _ => rfl⟩
    have q1 := i_lt.mp c2
    have q2 := q.1
    rw [nI_t (by omega)] at q1
    omega
  · refine ex_iload_n (pc := 5) (i := 1) d_Tx_takeOut_5 rfl rfl ?_
    refine ex_if_lt (pc := 6) (tgt := 27) d_Tx_takeOut_6 rfl (fun c6 => ?_) (fun c6 => ?_)
    · refine ex_vret d_Tx_takeOut_27 rfl rfl (Nat.le_refl _) ?_
      refine ⟨rfl, fun q => absurd q (fun q => ?_), fun _ => rfl⟩
      have q1 := i_lt.mp c6
      have q2 := q.2.1
      rw [i_0] at q1
      omega
    · refine ex_iload_n (pc := 9) (i := 1) d_Tx_takeOut_9 rfl rfl ?_
      refine ex_aload_n (pc := 10) (i := 0) d_Tx_takeOut_10 rfl rfl ?_
      refine ex_getx (pc := 11) 10 1 (nI n) d_Tx_takeOut_11 FL_Tx_15 (Nat.le_of_ble_eq_true rfl) rfl hn ?_
      refine ex_icmp_ge (pc := 14) (tgt := 27) d_Tx_takeOut_14 rfl (fun c14 => ?_) (fun c14 => ?_)
      · refine ex_vret d_Tx_takeOut_27 rfl rfl (Nat.le_refl _) ?_
        refine ⟨rfl, fun q => absurd q (fun q => ?_), fun _ => rfl⟩
        have q1 := i_le.mp c14
        have q2 := q.2.2
        have q3 := q.1
        rw [nI_t (by omega)] at q1
        omega
      · have hx : 0 ≤ x.toInt ∧ x.toInt < n := by
          have q1 := i_nlt c6
          have q2 := i_nle c14
          rw [i_0] at q1
          rw [nI_t (by omega)] at q2
          exact ⟨q1, q2⟩
        obtain ⟨t, htn, rfl⟩ : ∃ t, t < n ∧ x = nI t := ⟨x.toInt.toNat, by omega, i_of x hx.1⟩
        have htt : (nI t).toInt = (t : Int) := nI_t (by omega)
        have hy1 : 1 ≤ y.toInt := by
          have q1 := i_nlt c2
          rw [nI_t (by omega)] at q1
          omega
        refine ex_iload_n (pc := 17) (i := 2) d_Tx_takeOut_17 rfl rfl ?_
        refine ex_aload_n (pc := 18) (i := 0) d_Tx_takeOut_18 rfl rfl ?_
        refine ex_getx (pc := 19) 10 1 (nI n) d_Tx_takeOut_19 FL_Tx_15 (Nat.le_of_ble_eq_true rfl) rfl hn ?_
        refine ex_iload_n (pc := 22) (i := 1) d_Tx_takeOut_22 rfl rfl ?_
        refine ex_isub (pc := 23) d_Tx_takeOut_23 ?_
        refine ex_top (pk_sub (show t ≤ n by omega)) ?_
        refine ex_icmp_le (pc := 24) (tgt := 28) d_Tx_takeOut_24 rfl (fun c24 => ?_) (fun c24 => ?_)
        · have hy2 : y.toInt ≤ (n - t : Nat) := by
            have q1 := i_le.mp c24
            rw [nI_t (by omega)] at q1
            exact q1
          obtain ⟨u, hun, rfl⟩ : ∃ u, u ≤ n - t ∧ y = nI u := ⟨y.toInt.toNat, by omega, i_of y (by omega)⟩
          have hut : (nI u).toInt = (u : Int) := nI_t (by omega)
          have hu1 : 1 ≤ u := by omega
          refine ex_aload_n (pc := 28) (i := 0) d_Tx_takeOut_28 rfl rfl ?_
          refine ex_getr (pc := 29) 10 0 d_Tx_takeOut_29 FL_Tx_9 (Nat.le_of_ble_eq_true rfl) rfl rfl ?_
          refine ex_iload_n (pc := 32) (i := 1) d_Tx_takeOut_32 rfl rfl ?_
          refine ex_iload_n (pc := 33) (i := 2) d_Tx_takeOut_33 rfl rfl ?_
          refine ex_iadd (pc := 34) d_Tx_takeOut_34 ?_
          refine ex_aload_n (pc := 35) (i := 0) d_Tx_takeOut_35 rfl rfl ?_
          refine ex_getr (pc := 36) 10 0 d_Tx_takeOut_36 FL_Tx_9 (Nat.le_of_ble_eq_true rfl) rfl rfl ?_
          refine ex_iload_n (pc := 39) (i := 1) d_Tx_takeOut_39 rfl rfl ?_
          refine ex_aload_n (pc := 40) (i := 0) d_Tx_takeOut_40 rfl rfl ?_
          refine ex_getx (pc := 41) 10 1 (nI n) d_Tx_takeOut_41 FL_Tx_15 (Nat.le_of_ble_eq_true rfl) rfl hn ?_
          refine ex_iload_n (pc := 44) (i := 1) d_Tx_takeOut_44 rfl rfl ?_
          refine ex_isub (pc := 45) d_Tx_takeOut_45 ?_
          refine ex_iload_n (pc := 46) (i := 2) d_Tx_takeOut_46 rfl rfl ?_
          refine ex_isub (pc := 47) d_Tx_takeOut_47 ?_
          refine ex_copy (pc := 48) (t + u) t (n - t - u) d_Tx_takeOut_48 AC_Tx_23 AC_1 AC_2 AC_3 (Nat.le_of_ble_eq_true rfl) rfl (Nat.le_of_ble_eq_true rfl) rfl rfl rfl rfl (by rw [nI_add]; exact nI_t (by omega)) (nI_t (by omega)) (by rw [pk_sub (by omega), pk_sub (by omega)]; exact nI_t (by omega)) (show t + u + (n - t - u) ≤ 100 by omega) (show t + (n - t - u) ≤ 100 by omega) (fun k hk => wr_fit (hc _ (by omega))) (ex_lt_rm (by decide)) (Nat.le_of_ble_eq_true rfl) ?_
          refine ex_aload_n (pc := 51) (i := 0) d_Tx_takeOut_51 rfl rfl ?_
          refine ex_dup (pc := 52) d_Tx_takeOut_52 rfl ?_
          refine ex_getx (pc := 53) 10 1 (nI n) d_Tx_takeOut_53 FL_Tx_15 (Nat.le_of_ble_eq_true rfl) rfl hn ?_
          refine ex_iload_n (pc := 56) (i := 2) d_Tx_takeOut_56 rfl rfl ?_
          refine ex_isub (pc := 57) d_Tx_takeOut_57 ?_
          refine ex_puti (pc := 58) 10 1 .int d_Tx_takeOut_58 (PF_Tx_15 _) (Nat.le_of_ble_eq_true rfl) rfl rfl rfl ?_
          refine ex_heap (h' := HP (ex_u2 (va_up iv 40 (va_cpy (iv 40) (iv 40) (t + u) t (n - t - u))) 39 1 (nI (n - u))) mp sp mo) ?_ ?_
          · rw [pk_sub (show u ≤ n by omega)]
            rfl
          refine ex_vret d_Tx_takeOut_61 rfl rfl (Nat.le_refl _) ?_
          rw [hut, htt]
          refine ⟨rfl, fun _ => ⟨_, rfl, fun k hk => ?_⟩, fun q => absurd ⟨by omega, by omega, by omega⟩ q⟩
          show va_cpy _ _ _ _ _ k = delF _ t u k
          have hk2 : k < n - u := hk
          unfold delF va_cpy
          by_cases h2 : k < t
          · rw [if_neg (by omega)]
            exact (if_pos h2).symm
          · rw [if_pos (by omega)]
            refine Eq.trans ?_ (if_neg h2).symm
            congr 1
            omega
        · refine ex_vret d_Tx_takeOut_27 rfl rfl (Nat.le_refl _) ?_
          refine ⟨rfl, fun q => absurd q (fun q => ?_), fun _ => rfl⟩
          have q1 := i_nle c24
          have q2 := q.2.2
          rw [nI_t (by omega)] at q1
          rw [htt] at q2
          omega
end
section
/-! the text of the reference -/
def mvU (f : Nat → Int32) (j n : Nat) : Nat → Int32 := fun q => if j < q ∧ q ≤ n then f (q - 1) else f q
theorem mvU_n {f : Nat → Int32} {n : Nat} : mvU f n n = f := by
  funext q
  exact if_neg (fun h => by omega)
theorem mvU_lo {f : Nat → Int32} {j n q : Nat} (h : q ≤ j) : mvU f j n q = f q := if_neg (fun q => by omega)
theorem mvU_1 {f : Nat → Int32} {j n : Nat} (h : j + 1 ≤ n) : va_up (mvU f (j + 1) n) (j + 1) (f j) = mvU f j n := by
  funext q
  unfold va_up mvU
  by_cases h1 : q = j + 1
  · rw [if_pos h1, if_pos (by omega), h1]
    rfl
  · rw [if_neg h1]
    by_cases h2 : j < q ∧ q ≤ n
    · rw [if_pos (by omega), if_pos h2]
    · rw [if_neg (by omega), if_neg h2]
def mvD (f : Nat → Int32) (t j u : Nat) : Nat → Int32 := fun q => if t ≤ q ∧ q < j then f (q + u) else f q
theorem mvD_0 {f : Nat → Int32} {t u : Nat} : mvD f t t u = f := by
  funext q
  exact if_neg (fun h => by omega)
theorem mvD_hi {f : Nat → Int32} {t j u q : Nat} (h : j ≤ q) : mvD f t j u q = f q := if_neg (fun q => by omega)
theorem mvD_1 {f : Nat → Int32} {t j u : Nat} (h : t ≤ j) : va_up (mvD f t j u) j (f (j + u)) = mvD f t (j + 1) u := by
  funext q
  unfold va_up mvD
  by_cases h1 : q = j
  · rw [if_pos h1, if_pos (by omega), h1]
  · rw [if_neg h1]
    by_cases h2 : t ≤ q ∧ q < j
    · rw [if_pos h2, if_pos (by omega)]
    · rw [if_neg h2, if_neg (by omega)]
set_option maxRecDepth 100000 in
set_option maxHeartbeats 4000000 in
theorem lp_RF_insertNow {p : Program} {e : Env} {s : State} {m : MethodId} {args : Array Value} {below : List Frame} {meth : Method} {c : Code} (l : Launch) (G : ex_G) (iv : Nat → Nat → Int32) (mp : Nat → Nat) (sp mo : Nat) (n t : Nat) (x ch : Int32) (hn : iv 92 14 = nI n) (hl : n < 100) (hx : x = nI t) (htn : t ≤ n) (ho : inOk n x ch) : ∀ (k : Nat), t + k ≤ n → EXM M_RF_insertNow l G 0 (fun r h' => r = none ∧ (inOk n x ch → ∃ g, h' = HP (ex_u2 (va_up iv 106 g) 92 14 (nI (n + 1))) mp sp mo ∧ ∀ k, k < n + 1 → g k = insF (iv 106) x.toInt.toNat ch k) ∧ (¬ inOk n x ch → h' = HP iv mp sp mo)) p e s m args below meth c 39 [some (.ref 92), some (.int x), some (.int ch), some (.int (nI (t + k)))] [] (HP (va_up iv 106 (mvU (iv 106) (t + k) n)) mp sp mo) := by
  intro k
  induction k with
  | zero =>
    intro hk
    subst hx
    have htt : (nI t).toInt = (t : Int) := nI_t (by omega)
    refine ex_iload_n (pc := 39) (i := 3) d_RF_insertNow_39 rfl rfl ?_
    refine ex_iload_n (pc := 40) (i := 1) d_RF_insertNow_40 rfl rfl ?_
    refine ex_icmp_le (pc := 41) (tgt := 64) d_RF_insertNow_41 rfl (fun c41 => ?_) (fun c41 => ?_)
    · refine ex_aload_n (pc := 64) (i := 0) d_RF_insertNow_64 rfl rfl ?_
      refine ex_getr (pc := 65) 12 15 d_RF_insertNow_65 FL_RF_50 (Nat.le_of_ble_eq_true rfl) rfl rfl ?_
      refine ex_iload_n (pc := 68) (i := 1) d_RF_insertNow_68 rfl rfl ?_
      refine ex_iload_n (pc := 69) (i := 2) d_RF_insertNow_69 rfl rfl ?_
      refine ex_iast (pc := 70) t d_RF_insertNow_70 (Nat.le_of_ble_eq_true rfl) rfl rfl rfl htt (show t < 100 by omega) ?_
      refine ex_aload_n (pc := 71) (i := 0) d_RF_insertNow_71 rfl rfl ?_
      refine ex_dup (pc := 72) d_RF_insertNow_72 rfl ?_
      refine ex_getx (pc := 73) 12 14 (nI n) d_RF_insertNow_73 FL_RF_179 (Nat.le_of_ble_eq_true rfl) rfl hn ?_
      refine ex_iconst (pc := 76) (v := (nI 1)) d_RF_insertNow_76 (by decide) ?_
      refine ex_iadd (pc := 77) d_RF_insertNow_77 ?_
      refine ex_puti (pc := 78) 12 14 .int d_RF_insertNow_78 (PF_RF_179 _) (Nat.le_of_ble_eq_true rfl) rfl rfl rfl ?_
      refine ex_heap (h' := HP (ex_u2 (va_up iv 106 (va_up (mvU (iv 106) t n) t ch)) 92 14 (nI (n + 1))) mp sp mo) ?_ ?_
      · rw [nI_s, ← ex_u2_up]
        rfl
      refine ex_vret d_RF_insertNow_81 rfl rfl (Nat.le_refl _) ?_
      refine ⟨rfl, fun _ => ⟨_, rfl, fun k hk => ?_⟩, fun q => absurd ho q⟩
      rw [htt]
      show va_up _ _ _ k = insF _ t ch k
      unfold insF va_up mvU
      by_cases h1 : k = t
      · rw [if_pos h1, if_neg (by omega), if_pos h1]
      · rw [if_neg h1]
        by_cases h2 : k < t
        · rw [if_pos h2, if_neg (by omega)]
        · rw [if_neg h2, if_neg h1, if_pos (by omega)]
    · exact absurd (Int32.le_refl (nI t)) c41
  | succ k ih =>
    intro hk
    have hs1 : nI (t + (k + 1)) - nI 1 = nI (t + k) := nI_p (by omega)
    refine ex_iload_n (pc := 39) (i := 3) d_RF_insertNow_39 rfl rfl ?_
    refine ex_iload_n (pc := 40) (i := 1) d_RF_insertNow_40 rfl rfl ?_
    refine ex_icmp_le (pc := 41) (tgt := 64) d_RF_insertNow_41 rfl (fun c41 => ?_) (fun c41 => ?_)
    · exact absurd c41 (fun q => by rw [hx] at q; exact absurd ((n_ge (by omega) (by omega)).mp q) (by omega))
    · refine ex_aload_n (pc := 44) (i := 0) d_RF_insertNow_44 rfl rfl ?_
      refine ex_getr (pc := 45) 12 15 d_RF_insertNow_45 FL_RF_50 (Nat.le_of_ble_eq_true rfl) rfl rfl ?_
      refine ex_iload_n (pc := 48) (i := 3) d_RF_insertNow_48 rfl rfl ?_
      refine ex_aload_n (pc := 49) (i := 0) d_RF_insertNow_49 rfl rfl ?_
      refine ex_getr (pc := 50) 12 15 d_RF_insertNow_50 FL_RF_50 (Nat.le_of_ble_eq_true rfl) rfl rfl ?_
      refine ex_iload_n (pc := 53) (i := 3) d_RF_insertNow_53 rfl rfl ?_
      refine ex_iconst (pc := 54) (v := (nI 1)) d_RF_insertNow_54 (by decide) ?_
      refine ex_isub (pc := 55) d_RF_insertNow_55 ?_
      refine ex_ialdx (pc := 56) (t + k) (iv 106 (t + k)) d_RF_insertNow_56 (Nat.le_of_ble_eq_true rfl) rfl rfl rfl (by rw [hs1]; exact nI_t (by omega)) (show t + k < 100 by omega) (mvU_lo (by omega)) ?_
      refine ex_iast (pc := 57) (t + (k + 1)) d_RF_insertNow_57 (Nat.le_of_ble_eq_true rfl) rfl rfl rfl (nI_t (by omega)) (show t + (k + 1) < 100 by omega) ?_
      refine ex_heap (h' := HP (va_up iv 106 (mvU (iv 106) (t + k) n)) mp sp mo) ?_ ?_
      · rw [← mvU_1 (show t + k + 1 ≤ n by omega), ← ex_u2_up]
        rfl
      refine ex_iinc (pc := 58) (v := (nI (t + k))) d_RF_insertNow_58 rfl (pk_m1 (t + k)) (by decide) ?_
      refine ex_goto (pc := 61) (tgt := 39) d_RF_insertNow_61 rfl ?_
      exact ih (by omega)

set_option maxRecDepth 100000 in
set_option maxHeartbeats 4000000 in
theorem ct_RF_insertNow (l : Launch) (G : ex_G) (iv : Nat → Nat → Int32) (mp : Nat → Nat) (sp mo : Nat) (n : Nat) (x ch : Int32) (hn : iv 92 14 = nI n) (hl : n ≤ 100) : CT l G 0 M_RF_insertNow [.ref 92, .int x, .int ch] (HP iv mp sp mo) 0 0 (fun r h' => r = none ∧ (inOk n x ch → ∃ g, h' = HP (ex_u2 (va_up iv 106 g) 92 14 (nI (n + 1))) mp sp mo ∧ ∀ k, k < n + 1 → g k = insF (iv 106) x.toInt.toNat ch k) ∧ (¬ inOk n x ch → h' = HP iv mp sp mo)) := by
  refine ex_enter (by decide) (Nat.le_of_ble_eq_true rfl) (fun v hv => by simp at hv; rcases hv with rfl | rfl | rfl <;> rfl) (fun p e s m args below meth c => ?_)
  refine ex_iload_n (pc := 0) (i := 1) d_RF_insertNow_0 rfl rfl ?_
  refine ex_if_lt (pc := 1) (tgt := 33) d_RF_insertNow_1 rfl (fun c1 => ?_) (fun c1 => ?_)
  · refine ex_vret d_RF_insertNow_33 rfl rfl (Nat.le_refl _) ?_
    refine ⟨rfl, fun q => absurd q (fun q => ?_), fun _ => rfl⟩
    have q1 := i_lt.mp c1
    have q2 := q.1
    rw [i_0] at q1
    omega
  · refine ex_iload_n (pc := 4) (i := 1) d_RF_insertNow_4 rfl rfl ?_
    refine ex_aload_n (pc := 5) (i := 0) d_RF_insertNow_5 rfl rfl ?_
    refine ex_getx (pc := 6) 12 14 (nI n) d_RF_insertNow_6 FL_RF_179 (Nat.le_of_ble_eq_true rfl) rfl hn ?_
    refine ex_icmp_gt (pc := 9) (tgt := 33) d_RF_insertNow_9 rfl (fun c9 => ?_) (fun c9 => ?_)
    · refine ex_vret d_RF_insertNow_33 rfl rfl (Nat.le_refl _) ?_
      refine ⟨rfl, fun q => absurd q (fun q => ?_), fun _ => rfl⟩
      have q1 := i_lt.mp c9
      have q2 := q.2.1
      rw [nI_t (by omega)] at q1
      omega
    · refine ex_iload_n (pc := 12) (i := 2) d_RF_insertNow_12 rfl rfl ?_
      refine ex_bipush (pc := 13) (v := (nI 32)) d_RF_insertNow_13 (by decide) ?_
      refine ex_icmp_lt (pc := 15) (tgt := 33) d_RF_insertNow_15 rfl (fun c15 => ?_) (fun c15 => ?_)
      · refine ex_vret d_RF_insertNow_33 rfl rfl (Nat.le_refl _) ?_
        refine ⟨rfl, fun q => absurd q (fun q => ?_), fun _ => rfl⟩
        have q1 := q.2.2.1
        rw [wr_2 c15] at q1
        cases q1
      · refine ex_iload_n (pc := 18) (i := 2) d_RF_insertNow_18 rfl rfl ?_
        refine ex_bipush (pc := 19) (v := (nI 126)) d_RF_insertNow_19 (by decide) ?_
        refine ex_icmp_gt (pc := 21) (tgt := 33) d_RF_insertNow_21 rfl (fun c21 => ?_) (fun c21 => ?_)
        · refine ex_vret d_RF_insertNow_33 rfl rfl (Nat.le_refl _) ?_
          refine ⟨rfl, fun q => absurd q (fun q => ?_), fun _ => rfl⟩
          have q1 := q.2.2.1
          rw [wr_3 c21] at q1
          cases q1
        · refine ex_aload_n (pc := 24) (i := 0) d_RF_insertNow_24 rfl rfl ?_
          refine ex_getx (pc := 25) 12 14 (nI n) d_RF_insertNow_25 FL_RF_179 (Nat.le_of_ble_eq_true rfl) rfl hn ?_
          refine ex_bipush (pc := 28) (v := (nI 100)) d_RF_insertNow_28 (by decide) ?_
          refine ex_icmp_ne (pc := 30) (tgt := 34) d_RF_insertNow_30 rfl (fun c30 => ?_) (fun c30 => ?_)
          · have h100 : n < 100 := by
              have q1 : ¬ n = 100 := fun q => c30 (by rw [q])
              omega
            have ho : inOk n x ch := by
              have q1 := i_nlt c1
              have q2 := i_nlt c9
              rw [i_0] at q1
              rw [nI_t (by omega)] at q2
              exact ⟨q1, q2, wr_1 c15 c21, h100⟩
            refine ex_aload_n (pc := 34) (i := 0) d_RF_insertNow_34 rfl rfl ?_
            refine ex_getx (pc := 35) 12 14 (nI n) d_RF_insertNow_35 FL_RF_179 (Nat.le_of_ble_eq_true rfl) rfl hn ?_
            refine ex_istore_n (pc := 38) (i := 3) d_RF_insertNow_38 rfl (by decide) ?_
            obtain ⟨t, htn, hxt⟩ : ∃ t, t ≤ n ∧ x = nI t := ⟨x.toInt.toNat, by have q1 := ho.2.1; omega, i_of x ho.1⟩
            have e1 : t + (n - t) = n := by omega
            refine ex_heap (h' := HP (va_up iv 106 (mvU (iv 106) (t + (n - t)) n)) mp sp mo) ?_ ?_
            · rw [e1, mvU_n, up_id]
            have q9 := lp_RF_insertNow (p := p) (e := e) (s := s) (m := m) (args := args) (below := below) (meth := meth) (c := c) l G iv mp sp mo n t x ch hn h100 hxt htn ho (n - t) (by omega)
            rw [e1] at q9 ⊢
            exact q9
          · refine ex_vret d_RF_insertNow_33 rfl rfl (Nat.le_refl _) ?_
            refine ⟨rfl, fun q => absurd q (fun q => ?_), fun _ => rfl⟩
            have q1 := (n_eq (by omega) (by omega)).mp c30
            have q2 := q.2.2.2
            omega

set_option maxRecDepth 100000 in
set_option maxHeartbeats 4000000 in
theorem lp_RF_eraseNow {p : Program} {e : Env} {s : State} {m : MethodId} {args : Array Value} {below : List Frame} {meth : Method} {c : Code} (l : Launch) (G : ex_G) (iv : Nat → Nat → Int32) (mp : Nat → Nat) (sp mo : Nat) (n t u : Nat) (x y : Int32) (hn : iv 92 14 = nI n) (hl : n ≤ 100) (hx : x = nI t) (hy : y = nI u) (ho : delOk n x y) : ∀ (k j : Nat), j + u + k = n → t ≤ j → EXM M_RF_eraseNow l G 0 (fun r h' => r = none ∧ (delOk n x y → ∃ g, h' = HP (ex_u2 (va_up iv 106 g) 92 14 (nI (n - y.toInt.toNat))) mp sp mo ∧ ∀ k, k < n - y.toInt.toNat → g k = delF (iv 106) x.toInt.toNat y.toInt.toNat k) ∧ (¬ delOk n x y → h' = HP iv mp sp mo)) p e s m args below meth c 30 [some (.ref 92), some (.int x), some (.int y), some (.int (nI j))] [] (HP (va_up iv 106 (mvD (iv 106) t j u)) mp sp mo) := by
  intro k
  induction k with
  | zero =>
    intro j hj htj
    subst hx hy
    have htt : (nI t).toInt = (t : Int) := nI_t (by omega)
    have hut : (nI u).toInt = (u : Int) := nI_t (by omega)
    have hju : nI j + nI u = nI (j + u) := nI_add j u
    refine ex_iload_n (pc := 30) (i := 3) d_RF_eraseNow_30 rfl rfl ?_
    refine ex_iload_n (pc := 31) (i := 2) d_RF_eraseNow_31 rfl rfl ?_
    refine ex_iadd (pc := 32) d_RF_eraseNow_32 ?_
    refine ex_aload_n (pc := 33) (i := 0) d_RF_eraseNow_33 rfl rfl ?_
    refine ex_getx (pc := 34) 12 14 (nI n) d_RF_eraseNow_34 FL_RF_179 (Nat.le_of_ble_eq_true rfl) rfl hn ?_
    refine ex_icmp_ge (pc := 37) (tgt := 60) d_RF_eraseNow_37 rfl (fun c37 => ?_) (fun c37 => ?_)
    · refine ex_aload_n (pc := 60) (i := 0) d_RF_eraseNow_60 rfl rfl ?_
      refine ex_aload_n (pc := 61) (i := 0) d_RF_eraseNow_61 rfl rfl ?_
      refine ex_getx (pc := 62) 12 14 (nI n) d_RF_eraseNow_62 FL_RF_179 (Nat.le_of_ble_eq_true rfl) rfl hn ?_
      refine ex_iload_n (pc := 65) (i := 2) d_RF_eraseNow_65 rfl rfl ?_
      refine ex_isub (pc := 66) d_RF_eraseNow_66 ?_
      refine ex_puti (pc := 67) 12 14 .int d_RF_eraseNow_67 (PF_RF_179 _) (Nat.le_of_ble_eq_true rfl) rfl rfl rfl ?_
      refine ex_heap (h' := HP (ex_u2 (va_up iv 106 (mvD (iv 106) t j u)) 92 14 (nI (n - u))) mp sp mo) ?_ ?_
      · rw [pk_sub (show u ≤ n by omega)]
        rfl
      refine ex_vret d_RF_eraseNow_70 rfl rfl (Nat.le_refl _) ?_
      rw [hut, htt]
      refine ⟨rfl, fun _ => ⟨_, rfl, fun k hk => ?_⟩, fun q => absurd (by unfold delOk at ho ⊢; rw [hut, htt] at ho; rw [hut, htt]; exact ho) q⟩
      have hk2 : k < n - u := hk
      show mvD _ t j u k = delF _ t u k
      unfold delF mvD
      by_cases h2 : k < t
      · rw [if_neg (by omega)]
        exact (if_pos h2).symm
      · rw [if_pos (by omega)]
        exact (if_neg h2).symm
    · rw [hju] at c37
      exact absurd ((n_ge (by omega) (by omega)).mpr (by omega)) c37
  | succ k ih =>
    intro j hj htj
    have hju : nI j + y = nI (j + u) := by rw [hy]; exact nI_add j u
    refine ex_iload_n (pc := 30) (i := 3) d_RF_eraseNow_30 rfl rfl ?_
    refine ex_iload_n (pc := 31) (i := 2) d_RF_eraseNow_31 rfl rfl ?_
    refine ex_iadd (pc := 32) d_RF_eraseNow_32 ?_
    refine ex_aload_n (pc := 33) (i := 0) d_RF_eraseNow_33 rfl rfl ?_
    refine ex_getx (pc := 34) 12 14 (nI n) d_RF_eraseNow_34 FL_RF_179 (Nat.le_of_ble_eq_true rfl) rfl hn ?_
    refine ex_icmp_ge (pc := 37) (tgt := 60) d_RF_eraseNow_37 rfl (fun c37 => ?_) (fun c37 => ?_)
    · rw [hju] at c37
      exact absurd ((n_ge (by omega) (by omega)).mp c37) (by omega)
    · refine ex_aload_n (pc := 40) (i := 0) d_RF_eraseNow_40 rfl rfl ?_
      refine ex_getr (pc := 41) 12 15 d_RF_eraseNow_41 FL_RF_50 (Nat.le_of_ble_eq_true rfl) rfl rfl ?_
      refine ex_iload_n (pc := 44) (i := 3) d_RF_eraseNow_44 rfl rfl ?_
      refine ex_aload_n (pc := 45) (i := 0) d_RF_eraseNow_45 rfl rfl ?_
      refine ex_getr (pc := 46) 12 15 d_RF_eraseNow_46 FL_RF_50 (Nat.le_of_ble_eq_true rfl) rfl rfl ?_
      refine ex_iload_n (pc := 49) (i := 3) d_RF_eraseNow_49 rfl rfl ?_
      refine ex_iload_n (pc := 50) (i := 2) d_RF_eraseNow_50 rfl rfl ?_
      refine ex_iadd (pc := 51) d_RF_eraseNow_51 ?_
      refine ex_ialdx (pc := 52) (j + u) (iv 106 (j + u)) d_RF_eraseNow_52 (Nat.le_of_ble_eq_true rfl) rfl rfl rfl (by rw [hju]; exact nI_t (by omega)) (show j + u < 100 by omega) (mvD_hi (by omega)) ?_
      refine ex_iast (pc := 53) j d_RF_eraseNow_53 (Nat.le_of_ble_eq_true rfl) rfl rfl rfl (nI_t (by omega)) (show j < 100 by omega) ?_
      refine ex_heap (h' := HP (va_up iv 106 (mvD (iv 106) t (j + 1) u)) mp sp mo) ?_ ?_
      · rw [← mvD_1 htj, ← ex_u2_up]
        rfl
      refine ex_iinc (pc := 54) (v := (nI (j + 1))) d_RF_eraseNow_54 rfl (nI_1 j) (by decide) ?_
      refine ex_goto (pc := 57) (tgt := 30) d_RF_eraseNow_57 rfl ?_
      exact ih (j + 1) (by omega) (by omega)

set_option maxRecDepth 100000 in
set_option maxHeartbeats 4000000 in
theorem ct_RF_eraseNow (l : Launch) (G : ex_G) (iv : Nat → Nat → Int32) (mp : Nat → Nat) (sp mo : Nat) (n : Nat) (x y : Int32) (hn : iv 92 14 = nI n) (hl : n ≤ 100) : CT l G 0 M_RF_eraseNow [.ref 92, .int x, .int y] (HP iv mp sp mo) 0 0 (fun r h' => r = none ∧ (delOk n x y → ∃ g, h' = HP (ex_u2 (va_up iv 106 g) 92 14 (nI (n - y.toInt.toNat))) mp sp mo ∧ ∀ k, k < n - y.toInt.toNat → g k = delF (iv 106) x.toInt.toNat y.toInt.toNat k) ∧ (¬ delOk n x y → h' = HP iv mp sp mo)) := by
  refine ex_enter (by decide) (Nat.le_of_ble_eq_true rfl) (fun v hv => by simp at hv; rcases hv with rfl | rfl | rfl <;> rfl) (fun p e s m args below meth c => ?_)
  refine ex_iload_n (pc := 0) (i := 2) d_RF_eraseNow_0 rfl rfl ?_
  refine ex_iconst (pc := 1) (v := (nI 1)) d_RF_eraseNow_1 (by decide) ?_
  refine ex_icmp_lt (pc := 2) (tgt := 27) d_RF_eraseNow_2 rfl (fun c2 => ?_) (fun c2 => ?_)
  · refine ex_vret d_RF_eraseNow_27 rfl rfl (Nat.le_refl _) ?_
    refine ⟨rfl, fun q => absurd q (fun q => ?_), fun _ => rfl⟩
    have q1 := i_lt.mp c2
    have q2 := q.1
    rw [nI_t (by omega)] at q1
    omega
  · refine ex_iload_n (pc := 5) (i := 1) d_RF_eraseNow_5 rfl rfl ?_
    refine ex_if_lt (pc := 6) (tgt := 27) d_RF_eraseNow_6 rfl (fun c6 => ?_) (fun c6 => ?_)
    · refine ex_vret d_RF_eraseNow_27 rfl rfl (Nat.le_refl _) ?_
      refine ⟨rfl, fun q => absurd q (fun q => ?_), fun _ => rfl⟩
      have q1 := i_lt.mp c6
      have q2 := q.2.1
      rw [i_0] at q1
      omega
    · refine ex_iload_n (pc := 9) (i := 1) d_RF_eraseNow_9 rfl rfl ?_
      refine ex_aload_n (pc := 10) (i := 0) d_RF_eraseNow_10 rfl rfl ?_
      refine ex_getx (pc := 11) 12 14 (nI n) d_RF_eraseNow_11 FL_RF_179 (Nat.le_of_ble_eq_true rfl) rfl hn ?_
      refine ex_icmp_gt (pc := 14) (tgt := 27) d_RF_eraseNow_14 rfl (fun c14 => ?_) (fun c14 => ?_)
      · refine ex_vret d_RF_eraseNow_27 rfl rfl (Nat.le_refl _) ?_
        refine ⟨rfl, fun q => absurd q (fun q => ?_), fun _ => rfl⟩
        have q1 := i_lt.mp c14
        have q2 := q.2.2
        have q3 := q.1
        rw [nI_t (by omega)] at q1
        omega
      · have hx : 0 ≤ x.toInt ∧ x.toInt ≤ n := by
          have q1 := i_nlt c6
          have q2 := i_nlt c14
          rw [i_0] at q1
          rw [nI_t (by omega)] at q2
          exact ⟨q1, q2⟩
        obtain ⟨t, htn, rfl⟩ : ∃ t, t ≤ n ∧ x = nI t := ⟨x.toInt.toNat, by omega, i_of x hx.1⟩
        have htt : (nI t).toInt = (t : Int) := nI_t (by omega)
        have hy1 : 1 ≤ y.toInt := by
          have q1 := i_nlt c2
          rw [nI_t (by omega)] at q1
          omega
        refine ex_iload_n (pc := 17) (i := 2) d_RF_eraseNow_17 rfl rfl ?_
        refine ex_aload_n (pc := 18) (i := 0) d_RF_eraseNow_18 rfl rfl ?_
        refine ex_getx (pc := 19) 12 14 (nI n) d_RF_eraseNow_19 FL_RF_179 (Nat.le_of_ble_eq_true rfl) rfl hn ?_
        refine ex_iload_n (pc := 22) (i := 1) d_RF_eraseNow_22 rfl rfl ?_
        refine ex_isub (pc := 23) d_RF_eraseNow_23 ?_
        refine ex_top (pk_sub htn) ?_
        refine ex_icmp_le (pc := 24) (tgt := 28) d_RF_eraseNow_24 rfl (fun c24 => ?_) (fun c24 => ?_)
        · have hy2 : y.toInt ≤ (n - t : Nat) := by
            have q1 := i_le.mp c24
            rw [nI_t (by omega)] at q1
            exact q1
          obtain ⟨u, hun, hyu⟩ : ∃ u, u ≤ n - t ∧ y = nI u := ⟨y.toInt.toNat, by omega, i_of y (by omega)⟩
          have hut : (nI u).toInt = (u : Int) := nI_t (by omega)
          have hu1 : 1 ≤ u := by rw [hyu, hut] at hy1; omega
          refine ex_iload_n (pc := 28) (i := 1) d_RF_eraseNow_28 rfl rfl ?_
          refine ex_istore_n (pc := 29) (i := 3) d_RF_eraseNow_29 rfl (by decide) ?_
          refine ex_heap (h' := HP (va_up iv 106 (mvD (iv 106) t t u)) mp sp mo) ?_ ?_
          · rw [mvD_0, up_id]
          exact lp_RF_eraseNow l G iv mp sp mo n t u (nI t) y hn hl rfl hyu (by unfold delOk; rw [htt, hyu, hut]; omega) (n - t - u) t (by omega) (Nat.le_refl _)
        · refine ex_vret d_RF_eraseNow_27 rfl rfl (Nat.le_refl _) ?_
          refine ⟨rfl, fun q => absurd q (fun q => ?_), fun _ => rfl⟩
          have q1 := i_nle c24
          have q2 := q.2.2
          rw [nI_t (by omega)] at q1
          rw [htt] at q2
          omega

def gAt0 (sz : Int32) (f : Nat → Int32) (x : Int32) : Int32 := if 0 ≤ x.toInt ∧ x.toInt < sz.toInt then f x.toInt.toNat else nI 0
set_option maxRecDepth 100000 in
set_option maxHeartbeats 4000000 in
theorem ct_RF_charAt (l : Launch) (G : ex_G) (iv : Nat → Nat → Int32) (mp : Nat → Nat) (sp mo : Nat) (x : Int32) (hb : (iv 92 14).toInt ≤ ((100 : Nat) : Int)) : CT l G 0 M_RF_charAt [.ref 92, .int x] (HP iv mp sp mo) 0 0 (fun r h' => h' = HP iv mp sp mo ∧ r = some (.int (gAt0 (iv 92 14) (iv 106) x))) := by
  refine ex_enter (by decide) (Nat.le_of_ble_eq_true rfl) (fun v hv => by simp at hv; rcases hv with rfl | rfl <;> rfl) (fun p e s m args below meth c => ?_)
  refine ex_iload_n (pc := 0) (i := 1) d_RF_charAt_0 rfl rfl ?_
  refine ex_if_lt (pc := 1) (tgt := 21) d_RF_charAt_1 rfl (fun c1 => ?_) (fun c1 => ?_)
  · refine ex_iconst (pc := 21) (v := (nI 0)) d_RF_charAt_21 (by decide) ?_
    refine ex_iret (ty := .int) d_RF_charAt_22 rfl rfl rfl (Nat.le_refl _) ?_
    exact ⟨rfl, by rw [gAt0, if_neg (i_neg c1)]⟩
  · refine ex_iload_n (pc := 4) (i := 1) d_RF_charAt_4 rfl rfl ?_
    refine ex_aload_n (pc := 5) (i := 0) d_RF_charAt_5 rfl rfl ?_
    refine ex_getx (pc := 6) 12 14 (iv 92 14) d_RF_charAt_6 FL_RF_179 (Nat.le_of_ble_eq_true rfl) rfl rfl ?_
    refine ex_icmp_ge (pc := 9) (tgt := 21) d_RF_charAt_9 rfl (fun c9 => ?_) (fun c9 => ?_)
    · refine ex_iconst (pc := 21) (v := (nI 0)) d_RF_charAt_21 (by decide) ?_
      refine ex_iret (ty := .int) d_RF_charAt_22 rfl rfl rfl (Nat.le_refl _) ?_
      exact ⟨rfl, by rw [gAt0, if_neg (i_big c9)]⟩
    · refine ex_aload_n (pc := 12) (i := 0) d_RF_charAt_12 rfl rfl ?_
      refine ex_getr (pc := 13) 12 15 d_RF_charAt_13 FL_RF_50 (Nat.le_of_ble_eq_true rfl) rfl rfl ?_
      refine ex_iload_n (pc := 16) (i := 1) d_RF_charAt_16 rfl rfl ?_
      refine ex_ialdx (pc := 17) x.toInt.toNat (iv 106 x.toInt.toNat) d_RF_charAt_17 (Nat.le_of_ble_eq_true rfl) rfl rfl rfl (gAt_i c1 (i_nle c9) hb).1 (gAt_i c1 (i_nle c9) hb).2 rfl ?_
      refine ex_goto (pc := 18) (tgt := 22) d_RF_charAt_18 rfl ?_
      refine ex_iret (ty := .int) d_RF_charAt_22 rfl rfl rfl (Nat.le_refl _) ?_
      exact ⟨rfl, by rw [gAt0, if_pos ⟨by have q1 := i_nlt c1; rw [i_0] at q1; exact q1, i_nle c9⟩]⟩

set_option maxRecDepth 100000 in
set_option maxHeartbeats 4000000 in
theorem ct_RF_at (l : Launch) (G : ex_G) (iv : Nat → Nat → Int32) (mp : Nat → Nat) (sp mo : Nat) (x : Int32) (hx : 0 ≤ x.toInt) (hb : (iv 92 0).toInt ≤ ((40 : Nat) : Int)) : CT l G 0 M_RF_at [.ref 92, .int x] (HP iv mp sp mo) 0 0 (fun r h' => h' = HP iv mp sp mo ∧ r = some (.int (gAt0 (iv 92 0) (iv 93) x))) := by
  refine ex_enter (by decide) (Nat.le_of_ble_eq_true rfl) (fun v hv => by simp at hv; rcases hv with rfl | rfl <;> rfl) (fun p e s m args below meth c => ?_)
  refine ex_iload_n (pc := 0) (i := 1) d_RF_at_0 rfl rfl ?_
  refine ex_aload_n (pc := 1) (i := 0) d_RF_at_1 rfl rfl ?_
  refine ex_getx (pc := 2) 12 0 (iv 92 0) d_RF_at_2 FL_RF_119 (Nat.le_of_ble_eq_true rfl) rfl rfl ?_
  refine ex_icmp_ge (pc := 5) (tgt := 17) d_RF_at_5 rfl (fun c5 => ?_) (fun c5 => ?_)
  · refine ex_iconst (pc := 17) (v := (nI 0)) d_RF_at_17 (by decide) ?_
    refine ex_iret (ty := .int) d_RF_at_18 rfl rfl rfl (Nat.le_refl _) ?_
    exact ⟨rfl, by rw [gAt0, if_neg (i_big c5)]⟩
  · refine ex_aload_n (pc := 8) (i := 0) d_RF_at_8 rfl rfl ?_
    refine ex_getr (pc := 9) 12 1 d_RF_at_9 FL_RF_7 (Nat.le_of_ble_eq_true rfl) rfl rfl ?_
    refine ex_iload_n (pc := 12) (i := 1) d_RF_at_12 rfl rfl ?_
    refine ex_ialdx (pc := 13) x.toInt.toNat (iv 93 x.toInt.toNat) d_RF_at_13 (Nat.le_of_ble_eq_true rfl) rfl rfl rfl (by omega) (show x.toInt.toNat < 40 by have q1 := i_nle c5; omega) rfl ?_
    refine ex_goto (pc := 14) (tgt := 18) d_RF_at_14 rfl ?_
    refine ex_iret (ty := .int) d_RF_at_18 rfl rfl rfl (Nat.le_refl _) ?_
    exact ⟨rfl, by rw [gAt0, if_pos ⟨hx, i_nle c5⟩]⟩

set_option maxRecDepth 100000 in
set_option maxHeartbeats 4000000 in
theorem ct_Tx_replace (l : Launch) (G : ex_G) (iv : Nat → Nat → Int32) (mp : Nat → Nat) (sp mo : Nat) (n t : Nat) (ch : Int32) (hn : iv 39 1 = nI n) (hl : n ≤ 100) (ht : t < n) (hw : wrB ch = true) : CT l G 0 M_Tx_replace [.ref 39, .int (nI t), .int ch] (HP iv mp sp mo) 0 0 (fun r h' => h' = HP (ex_u2 iv 40 t ch) mp sp mo ∧ r = none) := by
  refine ex_enter (by decide) (Nat.le_of_ble_eq_true rfl) (fun v hv => by simp at hv; rcases hv with rfl | rfl | rfl <;> rfl) (fun p e s m args below meth c => ?_)
  refine ex_iload_n (pc := 0) (i := 1) d_Tx_replace_0 rfl rfl ?_
  refine ex_if_lt (pc := 1) (tgt := 20) d_Tx_replace_1 rfl (fun c1 => ?_) (fun c1 => ?_)
  · exact absurd c1 (nI_pos (by omega))
  · refine ex_iload_n (pc := 4) (i := 1) d_Tx_replace_4 rfl rfl ?_
    refine ex_aload_n (pc := 5) (i := 0) d_Tx_replace_5 rfl rfl ?_
    refine ex_getx (pc := 6) 10 1 (nI n) d_Tx_replace_6 FL_Tx_15 (Nat.le_of_ble_eq_true rfl) rfl hn ?_
    refine ex_icmp_ge (pc := 9) (tgt := 20) d_Tx_replace_9 rfl (fun c9 => ?_) (fun c9 => ?_)
    · exact absurd ((n_ge (by omega) (by omega)).mp c9) (by omega)
    · refine ex_aload_n (pc := 12) (i := 0) d_Tx_replace_12 rfl rfl ?_
      refine ex_getr (pc := 13) 10 0 d_Tx_replace_13 FL_Tx_9 (Nat.le_of_ble_eq_true rfl) rfl rfl ?_
      refine ex_iload_n (pc := 16) (i := 1) d_Tx_replace_16 rfl rfl ?_
      refine ex_iload_n (pc := 17) (i := 2) d_Tx_replace_17 rfl rfl ?_
      refine ex_i2c (pc := 18) (v := ch) d_Tx_replace_18 (c_id hw) ?_
      refine ex_cast (pc := 19) t d_Tx_replace_19 (Nat.le_of_ble_eq_true rfl) rfl rfl rfl (nI_t (by omega)) (show t < 100 by omega) ?_
      refine ex_heap (h' := HP (ex_u2 iv 40 t ch) mp sp mo) ?_ ?_
      · rw [wr_nar hw]
        rfl
      refine ex_vret d_Tx_replace_20 rfl rfl (Nat.le_refl _) ?_
      exact ⟨rfl, rfl⟩
end
