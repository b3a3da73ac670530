section
-- ===== PART A: goes FIRST, ahead of the names: the tables' words, and 'selects' of the private methods out of them =====
/-- a private method of a class that the tables say can be made, by its rows of tables_1 -/
def lw_okq (q : MethodName × Nat) : Prop := (q.1.cls ≠ "java/lang/invoke/MethodHandle" ∧ q.1.cls ≠ "java/lang/invoke/VarHandle") ∧ Cond.instantiable q.1.cls q.2 ∈ tables_1 ∧ Cond.privateMethod q.1 ∈ tables_1 ∧ Cond.instanceMethod q.1 ∈ tables_1
theorem lw_p0 : lw_okq (⟨"FaceSenate$Tape", "isAt", "(I)Z"⟩, 8) := ⟨⟨by decide +kernel, by decide +kernel⟩, List.mem_of_getElem? (i := 36) (by decide +kernel), List.mem_of_getElem? (i := 519) (by decide +kernel), List.mem_of_getElem? (i := 520) (by decide +kernel)⟩
theorem lw_p1 : lw_okq (⟨"FaceSenate$Tape", "readWord", "()V"⟩, 8) := ⟨⟨by decide +kernel, by decide +kernel⟩, List.mem_of_getElem? (i := 36) (by decide +kernel), List.mem_of_getElem? (i := 526) (by decide +kernel), List.mem_of_getElem? (i := 527) (by decide +kernel)⟩
theorem lw_p2 : lw_okq (⟨"FaceSenate$Tape", "readNumber", "()V"⟩, 8) := ⟨⟨by decide +kernel, by decide +kernel⟩, List.mem_of_getElem? (i := 36) (by decide +kernel), List.mem_of_getElem? (i := 533) (by decide +kernel), List.mem_of_getElem? (i := 534) (by decide +kernel)⟩
theorem lw_p3 : lw_okq (⟨"FaceSenate$Reader", "line", "(Z)Z"⟩, 4) := ⟨⟨by decide +kernel, by decide +kernel⟩, List.mem_of_getElem? (i := 30) (by decide +kernel), List.mem_of_getElem? (i := 595) (by decide +kernel), List.mem_of_getElem? (i := 596) (by decide +kernel)⟩
theorem lw_p4 : lw_okq (⟨"FaceSenate$Reader", "hallLine", "()Z"⟩, 4) := ⟨⟨by decide +kernel, by decide +kernel⟩, List.mem_of_getElem? (i := 30) (by decide +kernel), List.mem_of_getElem? (i := 599) (by decide +kernel), List.mem_of_getElem? (i := 600) (by decide +kernel)⟩
theorem lw_p5 : lw_okq (⟨"FaceSenate$Reader", "isNumber", "(II)Z"⟩, 4) := ⟨⟨by decide +kernel, by decide +kernel⟩, List.mem_of_getElem? (i := 30) (by decide +kernel), List.mem_of_getElem? (i := 604) (by decide +kernel), List.mem_of_getElem? (i := 605) (by decide +kernel)⟩
theorem lw_p6 : lw_okq (⟨"FaceSenate$Reader", "refuse", "()Z"⟩, 4) := ⟨⟨by decide +kernel, by decide +kernel⟩, List.mem_of_getElem? (i := 30) (by decide +kernel), List.mem_of_getElem? (i := 608) (by decide +kernel), List.mem_of_getElem? (i := 609) (by decide +kernel)⟩
theorem lw_p7 : lw_okq (⟨"FaceSenate$Reader", "refuseBy", "(I)Z"⟩, 4) := ⟨⟨by decide +kernel, by decide +kernel⟩, List.mem_of_getElem? (i := 30) (by decide +kernel), List.mem_of_getElem? (i := 612) (by decide +kernel), List.mem_of_getElem? (i := 613) (by decide +kernel)⟩
theorem lw_p8 : lw_okq (⟨"FaceSenate$Reader", "skip", "(I)Z"⟩, 4) := ⟨⟨by decide +kernel, by decide +kernel⟩, List.mem_of_getElem? (i := 30) (by decide +kernel), List.mem_of_getElem? (i := 616) (by decide +kernel), List.mem_of_getElem? (i := 617) (by decide +kernel)⟩
theorem lw_p9 : lw_okq (⟨"FaceSenate$Reader", "districtLine", "()Z"⟩, 4) := ⟨⟨by decide +kernel, by decide +kernel⟩, List.mem_of_getElem? (i := 30) (by decide +kernel), List.mem_of_getElem? (i := 620) (by decide +kernel), List.mem_of_getElem? (i := 621) (by decide +kernel)⟩
theorem lw_p10 : lw_okq (⟨"FaceSenate$Reader", "isNewName", "([JI)Z"⟩, 4) := ⟨⟨by decide +kernel, by decide +kernel⟩, List.mem_of_getElem? (i := 30) (by decide +kernel), List.mem_of_getElem? (i := 624) (by decide +kernel), List.mem_of_getElem? (i := 625) (by decide +kernel)⟩
theorem lw_p11 : lw_okq (⟨"FaceSenate$Reader", "placeOfName", "([JI)I"⟩, 4) := ⟨⟨by decide +kernel, by decide +kernel⟩, List.mem_of_getElem? (i := 30) (by decide +kernel), List.mem_of_getElem? (i := 628) (by decide +kernel), List.mem_of_getElem? (i := 629) (by decide +kernel)⟩
theorem lw_p12 : lw_okq (⟨"FaceSenate$Reader", "memberLine", "()Z"⟩, 4) := ⟨⟨by decide +kernel, by decide +kernel⟩, List.mem_of_getElem? (i := 30) (by decide +kernel), List.mem_of_getElem? (i := 632) (by decide +kernel), List.mem_of_getElem? (i := 633) (by decide +kernel)⟩
theorem lw_p13 : lw_okq (⟨"FaceSenate$Reader", "homeOf", "(I)Z"⟩, 4) := ⟨⟨by decide +kernel, by decide +kernel⟩, List.mem_of_getElem? (i := 30) (by decide +kernel), List.mem_of_getElem? (i := 636) (by decide +kernel), List.mem_of_getElem? (i := 637) (by decide +kernel)⟩
theorem lw_p14 : lw_okq (⟨"FaceSenate$Reader", "stoicOf", "(I)Z"⟩, 4) := ⟨⟨by decide +kernel, by decide +kernel⟩, List.mem_of_getElem? (i := 30) (by decide +kernel), List.mem_of_getElem? (i := 640) (by decide +kernel), List.mem_of_getElem? (i := 641) (by decide +kernel)⟩
theorem lw_p15 : lw_okq (⟨"FaceSenate$Reader", "seatOf", "(I)Z"⟩, 4) := ⟨⟨by decide +kernel, by decide +kernel⟩, List.mem_of_getElem? (i := 30) (by decide +kernel), List.mem_of_getElem? (i := 644) (by decide +kernel), List.mem_of_getElem? (i := 645) (by decide +kernel)⟩
def lw_privs_1 : List (MethodName × Nat) := [(⟨"FaceSenate$Tape", "isAt", "(I)Z"⟩, 8), (⟨"FaceSenate$Tape", "readWord", "()V"⟩, 8), (⟨"FaceSenate$Tape", "readNumber", "()V"⟩, 8), (⟨"FaceSenate$Reader", "line", "(Z)Z"⟩, 4), (⟨"FaceSenate$Reader", "hallLine", "()Z"⟩, 4), (⟨"FaceSenate$Reader", "isNumber", "(II)Z"⟩, 4), (⟨"FaceSenate$Reader", "refuse", "()Z"⟩, 4), (⟨"FaceSenate$Reader", "refuseBy", "(I)Z"⟩, 4), (⟨"FaceSenate$Reader", "skip", "(I)Z"⟩, 4), (⟨"FaceSenate$Reader", "districtLine", "()Z"⟩, 4), (⟨"FaceSenate$Reader", "isNewName", "([JI)Z"⟩, 4), (⟨"FaceSenate$Reader", "placeOfName", "([JI)I"⟩, 4), (⟨"FaceSenate$Reader", "memberLine", "()Z"⟩, 4), (⟨"FaceSenate$Reader", "homeOf", "(I)Z"⟩, 4), (⟨"FaceSenate$Reader", "stoicOf", "(I)Z"⟩, 4), (⟨"FaceSenate$Reader", "seatOf", "(I)Z"⟩, 4)]
theorem lw_r1 : ∀ q ∈ lw_privs_1, lw_okq q := List.forall_mem_cons.mpr ⟨lw_p0, List.forall_mem_cons.mpr ⟨lw_p1, List.forall_mem_cons.mpr ⟨lw_p2, List.forall_mem_cons.mpr ⟨lw_p3, List.forall_mem_cons.mpr ⟨lw_p4, List.forall_mem_cons.mpr ⟨lw_p5, List.forall_mem_cons.mpr ⟨lw_p6, List.forall_mem_cons.mpr ⟨lw_p7, List.forall_mem_cons.mpr ⟨lw_p8, List.forall_mem_cons.mpr ⟨lw_p9, List.forall_mem_cons.mpr ⟨lw_p10, List.forall_mem_cons.mpr ⟨lw_p11, List.forall_mem_cons.mpr ⟨lw_p12, List.forall_mem_cons.mpr ⟨lw_p13, List.forall_mem_cons.mpr ⟨lw_p14, List.forall_mem_cons.mpr ⟨lw_p15, fun _ h => absurd h List.not_mem_nil⟩⟩⟩⟩⟩⟩⟩⟩⟩⟩⟩⟩⟩⟩⟩⟩
theorem lw_p16 : lw_okq (⟨"FaceSenate$Reader", "isUntold", "(LFaceSenate$Formula;)Z"⟩, 4) := ⟨⟨by decide +kernel, by decide +kernel⟩, List.mem_of_getElem? (i := 30) (by decide +kernel), List.mem_of_getElem? (i := 648) (by decide +kernel), List.mem_of_getElem? (i := 649) (by decide +kernel)⟩
theorem lw_p17 : lw_okq (⟨"FaceSenate$Reader", "level", "(LFaceSenate$Formula;II)Z"⟩, 4) := ⟨⟨by decide +kernel, by decide +kernel⟩, List.mem_of_getElem? (i := 30) (by decide +kernel), List.mem_of_getElem? (i := 653) (by decide +kernel), List.mem_of_getElem? (i := 654) (by decide +kernel)⟩
theorem lw_p18 : lw_okq (⟨"FaceSenate$Reader", "unit", "(LFaceSenate$Formula;I)Z"⟩, 4) := ⟨⟨by decide +kernel, by decide +kernel⟩, List.mem_of_getElem? (i := 30) (by decide +kernel), List.mem_of_getElem? (i := 657) (by decide +kernel), List.mem_of_getElem? (i := 658) (by decide +kernel)⟩
theorem lw_p19 : lw_okq (⟨"FaceSenate$Reader", "negation", "(LFaceSenate$Formula;I)Z"⟩, 4) := ⟨⟨by decide +kernel, by decide +kernel⟩, List.mem_of_getElem? (i := 30) (by decide +kernel), List.mem_of_getElem? (i := 662) (by decide +kernel), List.mem_of_getElem? (i := 663) (by decide +kernel)⟩
theorem lw_p20 : lw_okq (⟨"FaceSenate$Reader", "toothLine", "()Z"⟩, 4) := ⟨⟨by decide +kernel, by decide +kernel⟩, List.mem_of_getElem? (i := 30) (by decide +kernel), List.mem_of_getElem? (i := 669) (by decide +kernel), List.mem_of_getElem? (i := 670) (by decide +kernel)⟩
theorem lw_p21 : lw_okq (⟨"FaceSenate$Reader", "drawLine", "()Z"⟩, 4) := ⟨⟨by decide +kernel, by decide +kernel⟩, List.mem_of_getElem? (i := 30) (by decide +kernel), List.mem_of_getElem? (i := 673) (by decide +kernel), List.mem_of_getElem? (i := 674) (by decide +kernel)⟩
theorem lw_p22 : lw_okq (⟨"FaceSenate", "isMember", "(I)Z"⟩, 16) := ⟨⟨by decide +kernel, by decide +kernel⟩, List.mem_of_getElem? (i := 22) (by decide +kernel), List.mem_of_getElem? (i := 702) (by decide +kernel), List.mem_of_getElem? (i := 703) (by decide +kernel)⟩
theorem lw_p23 : lw_okq (⟨"FaceSenate$Trial", "areBeside", "(II)Z"⟩, 11) := ⟨⟨by decide +kernel, by decide +kernel⟩, List.mem_of_getElem? (i := 321) (by decide +kernel), List.mem_of_getElem? (i := 719) (by decide +kernel), List.mem_of_getElem? (i := 720) (by decide +kernel)⟩
theorem lw_p24 : lw_okq (⟨"FaceSenate", "isSeat", "(I)Z"⟩, 16) := ⟨⟨by decide +kernel, by decide +kernel⟩, List.mem_of_getElem? (i := 22) (by decide +kernel), List.mem_of_getElem? (i := 774) (by decide +kernel), List.mem_of_getElem? (i := 775) (by decide +kernel)⟩
theorem lw_p25 : lw_okq (⟨"FaceSenate$Trial", "nextFace", "(LFaceSenate$Plan;I)I"⟩, 11) := ⟨⟨by decide +kernel, by decide +kernel⟩, List.mem_of_getElem? (i := 321) (by decide +kernel), List.mem_of_getElem? (i := 826) (by decide +kernel), List.mem_of_getElem? (i := 827) (by decide +kernel)⟩
theorem lw_p26 : lw_okq (⟨"FaceSenate", "canChange", "(II)Z"⟩, 16) := ⟨⟨by decide +kernel, by decide +kernel⟩, List.mem_of_getElem? (i := 22) (by decide +kernel), List.mem_of_getElem? (i := 855) (by decide +kernel), List.mem_of_getElem? (i := 856) (by decide +kernel)⟩
theorem lw_p27 : lw_okq (⟨"FaceSenate", "isSeated", "(I)Z"⟩, 16) := ⟨⟨by decide +kernel, by decide +kernel⟩, List.mem_of_getElem? (i := 22) (by decide +kernel), List.mem_of_getElem? (i := 859) (by decide +kernel), List.mem_of_getElem? (i := 860) (by decide +kernel)⟩
theorem lw_p28 : lw_okq (⟨"FaceSenate", "sampleOff", "(II)I"⟩, 16) := ⟨⟨by decide +kernel, by decide +kernel⟩, List.mem_of_getElem? (i := 22) (by decide +kernel), List.mem_of_getElem? (i := 903) (by decide +kernel), List.mem_of_getElem? (i := 904) (by decide +kernel)⟩
theorem lw_p29 : lw_okq (⟨"FaceSenate", "ringOf", "(II)I"⟩, 16) := ⟨⟨by decide +kernel, by decide +kernel⟩, List.mem_of_getElem? (i := 22) (by decide +kernel), List.mem_of_getElem? (i := 916) (by decide +kernel), List.mem_of_getElem? (i := 917) (by decide +kernel)⟩
theorem lw_p30 : lw_okq (⟨"FaceSenate", "layDown", "(I)V"⟩, 16) := ⟨⟨by decide +kernel, by decide +kernel⟩, List.mem_of_getElem? (i := 22) (by decide +kernel), List.mem_of_getElem? (i := 924) (by decide +kernel), List.mem_of_getElem? (i := 925) (by decide +kernel)⟩
theorem lw_p31 : lw_okq (⟨"FaceSenate", "groupOf", "(I)I"⟩, 16) := ⟨⟨by decide +kernel, by decide +kernel⟩, List.mem_of_getElem? (i := 22) (by decide +kernel), List.mem_of_getElem? (i := 943) (by decide +kernel), List.mem_of_getElem? (i := 944) (by decide +kernel)⟩
def lw_privs_2 : List (MethodName × Nat) := [(⟨"FaceSenate$Reader", "isUntold", "(LFaceSenate$Formula;)Z"⟩, 4), (⟨"FaceSenate$Reader", "level", "(LFaceSenate$Formula;II)Z"⟩, 4), (⟨"FaceSenate$Reader", "unit", "(LFaceSenate$Formula;I)Z"⟩, 4), (⟨"FaceSenate$Reader", "negation", "(LFaceSenate$Formula;I)Z"⟩, 4), (⟨"FaceSenate$Reader", "toothLine", "()Z"⟩, 4), (⟨"FaceSenate$Reader", "drawLine", "()Z"⟩, 4), (⟨"FaceSenate", "isMember", "(I)Z"⟩, 16), (⟨"FaceSenate$Trial", "areBeside", "(II)Z"⟩, 11), (⟨"FaceSenate", "isSeat", "(I)Z"⟩, 16), (⟨"FaceSenate$Trial", "nextFace", "(LFaceSenate$Plan;I)I"⟩, 11), (⟨"FaceSenate", "canChange", "(II)Z"⟩, 16), (⟨"FaceSenate", "isSeated", "(I)Z"⟩, 16), (⟨"FaceSenate", "sampleOff", "(II)I"⟩, 16), (⟨"FaceSenate", "ringOf", "(II)I"⟩, 16), (⟨"FaceSenate", "layDown", "(I)V"⟩, 16), (⟨"FaceSenate", "groupOf", "(I)I"⟩, 16)]
theorem lw_r2 : ∀ q ∈ lw_privs_2, lw_okq q := List.forall_mem_cons.mpr ⟨lw_p16, List.forall_mem_cons.mpr ⟨lw_p17, List.forall_mem_cons.mpr ⟨lw_p18, List.forall_mem_cons.mpr ⟨lw_p19, List.forall_mem_cons.mpr ⟨lw_p20, List.forall_mem_cons.mpr ⟨lw_p21, List.forall_mem_cons.mpr ⟨lw_p22, List.forall_mem_cons.mpr ⟨lw_p23, List.forall_mem_cons.mpr ⟨lw_p24, List.forall_mem_cons.mpr ⟨lw_p25, List.forall_mem_cons.mpr ⟨lw_p26, List.forall_mem_cons.mpr ⟨lw_p27, List.forall_mem_cons.mpr ⟨lw_p28, List.forall_mem_cons.mpr ⟨lw_p29, List.forall_mem_cons.mpr ⟨lw_p30, List.forall_mem_cons.mpr ⟨lw_p31, fun _ h => absurd h List.not_mem_nil⟩⟩⟩⟩⟩⟩⟩⟩⟩⟩⟩⟩⟩⟩⟩⟩
theorem lw_p32 : lw_okq (⟨"FaceSenate", "reportSeated", "(II)I"⟩, 16) := ⟨⟨by decide +kernel, by decide +kernel⟩, List.mem_of_getElem? (i := 22) (by decide +kernel), List.mem_of_getElem? (i := 951) (by decide +kernel), List.mem_of_getElem? (i := 952) (by decide +kernel)⟩
theorem lw_p33 : lw_okq (⟨"FaceSenate", "reportChanged", "(II)I"⟩, 16) := ⟨⟨by decide +kernel, by decide +kernel⟩, List.mem_of_getElem? (i := 22) (by decide +kernel), List.mem_of_getElem? (i := 960) (by decide +kernel), List.mem_of_getElem? (i := 961) (by decide +kernel)⟩
theorem lw_p34 : lw_okq (⟨"FaceSenate", "turn", "(IIII)I"⟩, 16) := ⟨⟨by decide +kernel, by decide +kernel⟩, List.mem_of_getElem? (i := 22) (by decide +kernel), List.mem_of_getElem? (i := 1021) (by decide +kernel), List.mem_of_getElem? (i := 1022) (by decide +kernel)⟩
theorem lw_p35 : lw_okq (⟨"FaceSenate", "goOnWith", "(II)V"⟩, 16) := ⟨⟨by decide +kernel, by decide +kernel⟩, List.mem_of_getElem? (i := 22) (by decide +kernel), List.mem_of_getElem? (i := 1033) (by decide +kernel), List.mem_of_getElem? (i := 1034) (by decide +kernel)⟩
theorem lw_p36 : lw_okq (⟨"FaceSenate", "fittingNews", "(I)I"⟩, 16) := ⟨⟨by decide +kernel, by decide +kernel⟩, List.mem_of_getElem? (i := 22) (by decide +kernel), List.mem_of_getElem? (i := 1080) (by decide +kernel), List.mem_of_getElem? (i := 1081) (by decide +kernel)⟩
theorem lw_p37 : lw_okq (⟨"FaceSenate$Looks", "counts", "(II)Z"⟩, 7) := ⟨⟨by decide +kernel, by decide +kernel⟩, List.mem_of_getElem? (i := 405) (by decide +kernel), List.mem_of_getElem? (i := 1088) (by decide +kernel), List.mem_of_getElem? (i := 1089) (by decide +kernel)⟩
theorem lw_p38 : lw_okq (⟨"FaceSenate", "allAreSo", "(III)Z"⟩, 16) := ⟨⟨by decide +kernel, by decide +kernel⟩, List.mem_of_getElem? (i := 22) (by decide +kernel), List.mem_of_getElem? (i := 1093) (by decide +kernel), List.mem_of_getElem? (i := 1094) (by decide +kernel)⟩
theorem lw_p39 : lw_okq (⟨"FaceSenate", "facesThen", "(II)V"⟩, 16) := ⟨⟨by decide +kernel, by decide +kernel⟩, List.mem_of_getElem? (i := 22) (by decide +kernel), List.mem_of_getElem? (i := 1105) (by decide +kernel), List.mem_of_getElem? (i := 1106) (by decide +kernel)⟩
theorem lw_p40 : lw_okq (⟨"FaceSenate", "mostLeft", "(II)I"⟩, 16) := ⟨⟨by decide +kernel, by decide +kernel⟩, List.mem_of_getElem? (i := 22) (by decide +kernel), List.mem_of_getElem? (i := 1110) (by decide +kernel), List.mem_of_getElem? (i := 1111) (by decide +kernel)⟩
theorem lw_p41 : lw_okq (⟨"FaceSenateModel", "clearBank", "()V"⟩, 73) := ⟨⟨by decide +kernel, by decide +kernel⟩, List.mem_of_getElem? (i := 1129) (by decide +kernel), List.mem_of_getElem? (i := 1135) (by decide +kernel), List.mem_of_getElem? (i := 1136) (by decide +kernel)⟩
theorem lw_p42 : lw_okq (⟨"FaceSenateModel", "startAnew", "()V"⟩, 73) := ⟨⟨by decide +kernel, by decide +kernel⟩, List.mem_of_getElem? (i := 1129) (by decide +kernel), List.mem_of_getElem? (i := 1139) (by decide +kernel), List.mem_of_getElem? (i := 1140) (by decide +kernel)⟩
theorem lw_p43 : lw_okq (⟨"FaceSenateModel", "many", "()I"⟩, 73) := ⟨⟨by decide +kernel, by decide +kernel⟩, List.mem_of_getElem? (i := 1129) (by decide +kernel), List.mem_of_getElem? (i := 1143) (by decide +kernel), List.mem_of_getElem? (i := 1144) (by decide +kernel)⟩
theorem lw_p44 : lw_okq (⟨"FaceSenateModel", "goOn", "()V"⟩, 73) := ⟨⟨by decide +kernel, by decide +kernel⟩, List.mem_of_getElem? (i := 1129) (by decide +kernel), List.mem_of_getElem? (i := 1371) (by decide +kernel), List.mem_of_getElem? (i := 1372) (by decide +kernel)⟩
theorem lw_p45 : lw_okq (⟨"FaceSenateModel", "sign", "(I)I"⟩, 73) := ⟨⟨by decide +kernel, by decide +kernel⟩, List.mem_of_getElem? (i := 1129) (by decide +kernel), List.mem_of_getElem? (i := 1375) (by decide +kernel), List.mem_of_getElem? (i := 1376) (by decide +kernel)⟩
theorem lw_p46 : lw_okq (⟨"FaceSenateModel", "isGood", "()Z"⟩, 73) := ⟨⟨by decide +kernel, by decide +kernel⟩, List.mem_of_getElem? (i := 1129) (by decide +kernel), List.mem_of_getElem? (i := 1415) (by decide +kernel), List.mem_of_getElem? (i := 1416) (by decide +kernel)⟩
theorem lw_p47 : lw_okq (⟨"FaceSenateModel", "readLine", "()V"⟩, 73) := ⟨⟨by decide +kernel, by decide +kernel⟩, List.mem_of_getElem? (i := 1129) (by decide +kernel), List.mem_of_getElem? (i := 1419) (by decide +kernel), List.mem_of_getElem? (i := 1420) (by decide +kernel)⟩
def lw_privs_3 : List (MethodName × Nat) := [(⟨"FaceSenate", "reportSeated", "(II)I"⟩, 16), (⟨"FaceSenate", "reportChanged", "(II)I"⟩, 16), (⟨"FaceSenate", "turn", "(IIII)I"⟩, 16), (⟨"FaceSenate", "goOnWith", "(II)V"⟩, 16), (⟨"FaceSenate", "fittingNews", "(I)I"⟩, 16), (⟨"FaceSenate$Looks", "counts", "(II)Z"⟩, 7), (⟨"FaceSenate", "allAreSo", "(III)Z"⟩, 16), (⟨"FaceSenate", "facesThen", "(II)V"⟩, 16), (⟨"FaceSenate", "mostLeft", "(II)I"⟩, 16), (⟨"FaceSenateModel", "clearBank", "()V"⟩, 73), (⟨"FaceSenateModel", "startAnew", "()V"⟩, 73), (⟨"FaceSenateModel", "many", "()I"⟩, 73), (⟨"FaceSenateModel", "goOn", "()V"⟩, 73), (⟨"FaceSenateModel", "sign", "(I)I"⟩, 73), (⟨"FaceSenateModel", "isGood", "()Z"⟩, 73), (⟨"FaceSenateModel", "readLine", "()V"⟩, 73)]
theorem lw_r3 : ∀ q ∈ lw_privs_3, lw_okq q := List.forall_mem_cons.mpr ⟨lw_p32, List.forall_mem_cons.mpr ⟨lw_p33, List.forall_mem_cons.mpr ⟨lw_p34, List.forall_mem_cons.mpr ⟨lw_p35, List.forall_mem_cons.mpr ⟨lw_p36, List.forall_mem_cons.mpr ⟨lw_p37, List.forall_mem_cons.mpr ⟨lw_p38, List.forall_mem_cons.mpr ⟨lw_p39, List.forall_mem_cons.mpr ⟨lw_p40, List.forall_mem_cons.mpr ⟨lw_p41, List.forall_mem_cons.mpr ⟨lw_p42, List.forall_mem_cons.mpr ⟨lw_p43, List.forall_mem_cons.mpr ⟨lw_p44, List.forall_mem_cons.mpr ⟨lw_p45, List.forall_mem_cons.mpr ⟨lw_p46, List.forall_mem_cons.mpr ⟨lw_p47, fun _ h => absurd h List.not_mem_nil⟩⟩⟩⟩⟩⟩⟩⟩⟩⟩⟩⟩⟩⟩⟩⟩
theorem lw_p48 : lw_okq (⟨"FaceSenateModel", "isFull", "()Z"⟩, 73) := ⟨⟨by decide +kernel, by decide +kernel⟩, List.mem_of_getElem? (i := 1129) (by decide +kernel), List.mem_of_getElem? (i := 1423) (by decide +kernel), List.mem_of_getElem? (i := 1424) (by decide +kernel)⟩
theorem lw_p49 : lw_okq (⟨"FaceSenateModel", "isWord", "(J)Z"⟩, 73) := ⟨⟨by decide +kernel, by decide +kernel⟩, List.mem_of_getElem? (i := 1129) (by decide +kernel), List.mem_of_getElem? (i := 1427) (by decide +kernel), List.mem_of_getElem? (i := 1428) (by decide +kernel)⟩
theorem lw_p50 : lw_okq (⟨"FaceSenateModel", "misplaced", "()V"⟩, 73) := ⟨⟨by decide +kernel, by decide +kernel⟩, List.mem_of_getElem? (i := 1129) (by decide +kernel), List.mem_of_getElem? (i := 1431) (by decide +kernel), List.mem_of_getElem? (i := 1432) (by decide +kernel)⟩
theorem lw_p51 : lw_okq (⟨"FaceSenateModel", "fails", "(II)V"⟩, 73) := ⟨⟨by decide +kernel, by decide +kernel⟩, List.mem_of_getElem? (i := 1129) (by decide +kernel), List.mem_of_getElem? (i := 1435) (by decide +kernel), List.mem_of_getElem? (i := 1436) (by decide +kernel)⟩
theorem lw_p52 : lw_okq (⟨"FaceSenateModel", "numeral", "(II)I"⟩, 73) := ⟨⟨by decide +kernel, by decide +kernel⟩, List.mem_of_getElem? (i := 1129) (by decide +kernel), List.mem_of_getElem? (i := 1439) (by decide +kernel), List.mem_of_getElem? (i := 1440) (by decide +kernel)⟩
theorem lw_p53 : lw_okq (⟨"FaceSenateModel", "after", "(JII)I"⟩, 73) := ⟨⟨by decide +kernel, by decide +kernel⟩, List.mem_of_getElem? (i := 1129) (by decide +kernel), List.mem_of_getElem? (i := 1443) (by decide +kernel), List.mem_of_getElem? (i := 1444) (by decide +kernel)⟩
theorem lw_p54 : lw_okq (⟨"FaceSenateModel", "must", "(Z)V"⟩, 73) := ⟨⟨by decide +kernel, by decide +kernel⟩, List.mem_of_getElem? (i := 1129) (by decide +kernel), List.mem_of_getElem? (i := 1447) (by decide +kernel), List.mem_of_getElem? (i := 1448) (by decide +kernel)⟩
theorem lw_p55 : lw_okq (⟨"FaceSenateModel", "readDistrict", "()V"⟩, 73) := ⟨⟨by decide +kernel, by decide +kernel⟩, List.mem_of_getElem? (i := 1129) (by decide +kernel), List.mem_of_getElem? (i := 1451) (by decide +kernel), List.mem_of_getElem? (i := 1452) (by decide +kernel)⟩
theorem lw_p56 : lw_okq (⟨"FaceSenateModel", "districtHere", "()I"⟩, 73) := ⟨⟨by decide +kernel, by decide +kernel⟩, List.mem_of_getElem? (i := 1129) (by decide +kernel), List.mem_of_getElem? (i := 1455) (by decide +kernel), List.mem_of_getElem? (i := 1456) (by decide +kernel)⟩
theorem lw_p57 : lw_okq (⟨"FaceSenateModel", "here", "([JII)I"⟩, 73) := ⟨⟨by decide +kernel, by decide +kernel⟩, List.mem_of_getElem? (i := 1129) (by decide +kernel), List.mem_of_getElem? (i := 1459) (by decide +kernel), List.mem_of_getElem? (i := 1460) (by decide +kernel)⟩
theorem lw_p58 : lw_okq (⟨"FaceSenateModel", "fresh", "(I)J"⟩, 73) := ⟨⟨by decide +kernel, by decide +kernel⟩, List.mem_of_getElem? (i := 1129) (by decide +kernel), List.mem_of_getElem? (i := 1463) (by decide +kernel), List.mem_of_getElem? (i := 1464) (by decide +kernel)⟩
theorem lw_p59 : lw_okq (⟨"FaceSenateModel", "readMember", "()V"⟩, 73) := ⟨⟨by decide +kernel, by decide +kernel⟩, List.mem_of_getElem? (i := 1129) (by decide +kernel), List.mem_of_getElem? (i := 1467) (by decide +kernel), List.mem_of_getElem? (i := 1468) (by decide +kernel)⟩
theorem lw_p60 : lw_okq (⟨"FaceSenateModel", "known", "(I)I"⟩, 73) := ⟨⟨by decide +kernel, by decide +kernel⟩, List.mem_of_getElem? (i := 1129) (by decide +kernel), List.mem_of_getElem? (i := 1471) (by decide +kernel), List.mem_of_getElem? (i := 1472) (by decide +kernel)⟩
theorem lw_p61 : lw_okq (⟨"FaceSenateModel", "passes", "(J)Z"⟩, 73) := ⟨⟨by decide +kernel, by decide +kernel⟩, List.mem_of_getElem? (i := 1129) (by decide +kernel), List.mem_of_getElem? (i := 1475) (by decide +kernel), List.mem_of_getElem? (i := 1476) (by decide +kernel)⟩
theorem lw_p62 : lw_okq (⟨"FaceSenateModel", "readSeat", "()I"⟩, 73) := ⟨⟨by decide +kernel, by decide +kernel⟩, List.mem_of_getElem? (i := 1129) (by decide +kernel), List.mem_of_getElem? (i := 1479) (by decide +kernel), List.mem_of_getElem? (i := 1480) (by decide +kernel)⟩
theorem lw_p63 : lw_okq (⟨"FaceSenateModel", "readRule", "(I)V"⟩, 73) := ⟨⟨by decide +kernel, by decide +kernel⟩, List.mem_of_getElem? (i := 1129) (by decide +kernel), List.mem_of_getElem? (i := 1483) (by decide +kernel), List.mem_of_getElem? (i := 1484) (by decide +kernel)⟩
def lw_privs_4 : List (MethodName × Nat) := [(⟨"FaceSenateModel", "isFull", "()Z"⟩, 73), (⟨"FaceSenateModel", "isWord", "(J)Z"⟩, 73), (⟨"FaceSenateModel", "misplaced", "()V"⟩, 73), (⟨"FaceSenateModel", "fails", "(II)V"⟩, 73), (⟨"FaceSenateModel", "numeral", "(II)I"⟩, 73), (⟨"FaceSenateModel", "after", "(JII)I"⟩, 73), (⟨"FaceSenateModel", "must", "(Z)V"⟩, 73), (⟨"FaceSenateModel", "readDistrict", "()V"⟩, 73), (⟨"FaceSenateModel", "districtHere", "()I"⟩, 73), (⟨"FaceSenateModel", "here", "([JII)I"⟩, 73), (⟨"FaceSenateModel", "fresh", "(I)J"⟩, 73), (⟨"FaceSenateModel", "readMember", "()V"⟩, 73), (⟨"FaceSenateModel", "known", "(I)I"⟩, 73), (⟨"FaceSenateModel", "passes", "(J)Z"⟩, 73), (⟨"FaceSenateModel", "readSeat", "()I"⟩, 73), (⟨"FaceSenateModel", "readRule", "(I)V"⟩, 73)]
theorem lw_r4 : ∀ q ∈ lw_privs_4, lw_okq q := List.forall_mem_cons.mpr ⟨lw_p48, List.forall_mem_cons.mpr ⟨lw_p49, List.forall_mem_cons.mpr ⟨lw_p50, List.forall_mem_cons.mpr ⟨lw_p51, List.forall_mem_cons.mpr ⟨lw_p52, List.forall_mem_cons.mpr ⟨lw_p53, List.forall_mem_cons.mpr ⟨lw_p54, List.forall_mem_cons.mpr ⟨lw_p55, List.forall_mem_cons.mpr ⟨lw_p56, List.forall_mem_cons.mpr ⟨lw_p57, List.forall_mem_cons.mpr ⟨lw_p58, List.forall_mem_cons.mpr ⟨lw_p59, List.forall_mem_cons.mpr ⟨lw_p60, List.forall_mem_cons.mpr ⟨lw_p61, List.forall_mem_cons.mpr ⟨lw_p62, List.forall_mem_cons.mpr ⟨lw_p63, fun _ h => absurd h List.not_mem_nil⟩⟩⟩⟩⟩⟩⟩⟩⟩⟩⟩⟩⟩⟩⟩⟩
theorem lw_p64 : lw_okq (⟨"FaceSenateModel", "e", "()V"⟩, 73) := ⟨⟨by decide +kernel, by decide +kernel⟩, List.mem_of_getElem? (i := 1129) (by decide +kernel), List.mem_of_getElem? (i := 1487) (by decide +kernel), List.mem_of_getElem? (i := 1488) (by decide +kernel)⟩
theorem lw_p65 : lw_okq (⟨"FaceSenateModel", "pushE", "(II)V"⟩, 73) := ⟨⟨by decide +kernel, by decide +kernel⟩, List.mem_of_getElem? (i := 1129) (by decide +kernel), List.mem_of_getElem? (i := 1491) (by decide +kernel), List.mem_of_getElem? (i := 1492) (by decide +kernel)⟩
theorem lw_p66 : lw_okq (⟨"FaceSenateModel", "unit", "()Z"⟩, 73) := ⟨⟨by decide +kernel, by decide +kernel⟩, List.mem_of_getElem? (i := 1129) (by decide +kernel), List.mem_of_getElem? (i := 1495) (by decide +kernel), List.mem_of_getElem? (i := 1496) (by decide +kernel)⟩
theorem lw_p67 : lw_okq (⟨"FaceSenateModel", "isSignHere", "(I)Z"⟩, 73) := ⟨⟨by decide +kernel, by decide +kernel⟩, List.mem_of_getElem? (i := 1129) (by decide +kernel), List.mem_of_getElem? (i := 1499) (by decide +kernel), List.mem_of_getElem? (i := 1500) (by decide +kernel)⟩
theorem lw_p68 : lw_okq (⟨"FaceSenateModel", "wordHere", "()I"⟩, 73) := ⟨⟨by decide +kernel, by decide +kernel⟩, List.mem_of_getElem? (i := 1129) (by decide +kernel), List.mem_of_getElem? (i := 1503) (by decide +kernel), List.mem_of_getElem? (i := 1504) (by decide +kernel)⟩
theorem lw_p69 : lw_okq (⟨"FaceSenateModel", "emit", "(II)V"⟩, 73) := ⟨⟨by decide +kernel, by decide +kernel⟩, List.mem_of_getElem? (i := 1129) (by decide +kernel), List.mem_of_getElem? (i := 1507) (by decide +kernel), List.mem_of_getElem? (i := 1508) (by decide +kernel)⟩
theorem lw_p70 : lw_okq (⟨"FaceSenateModel", "behindUnit", "()Z"⟩, 73) := ⟨⟨by decide +kernel, by decide +kernel⟩, List.mem_of_getElem? (i := 1129) (by decide +kernel), List.mem_of_getElem? (i := 1511) (by decide +kernel), List.mem_of_getElem? (i := 1512) (by decide +kernel)⟩
theorem lw_p71 : lw_okq (⟨"FaceSenateModel", "rankHere", "()I"⟩, 73) := ⟨⟨by decide +kernel, by decide +kernel⟩, List.mem_of_getElem? (i := 1129) (by decide +kernel), List.mem_of_getElem? (i := 1515) (by decide +kernel), List.mem_of_getElem? (i := 1516) (by decide +kernel)⟩
theorem lw_p72 : lw_okq (⟨"FaceSenateModel", "isCompared", "()Z"⟩, 73) := ⟨⟨by decide +kernel, by decide +kernel⟩, List.mem_of_getElem? (i := 1129) (by decide +kernel), List.mem_of_getElem? (i := 1519) (by decide +kernel), List.mem_of_getElem? (i := 1520) (by decide +kernel)⟩
theorem lw_p73 : lw_okq (⟨"FaceSenateModel", "isMember", "(I)Z"⟩, 73) := ⟨⟨by decide +kernel, by decide +kernel⟩, List.mem_of_getElem? (i := 1129) (by decide +kernel), List.mem_of_getElem? (i := 1531) (by decide +kernel), List.mem_of_getElem? (i := 1532) (by decide +kernel)⟩
theorem lw_p74 : lw_okq (⟨"FaceSenateModel", "beside", "(I)I"⟩, 73) := ⟨⟨by decide +kernel, by decide +kernel⟩, List.mem_of_getElem? (i := 1129) (by decide +kernel), List.mem_of_getElem? (i := 1538) (by decide +kernel), List.mem_of_getElem? (i := 1539) (by decide +kernel)⟩
theorem lw_p75 : lw_okq (⟨"FaceSenateModel", "areBeside", "(II)Z"⟩, 73) := ⟨⟨by decide +kernel, by decide +kernel⟩, List.mem_of_getElem? (i := 1129) (by decide +kernel), List.mem_of_getElem? (i := 1542) (by decide +kernel), List.mem_of_getElem? (i := 1543) (by decide +kernel)⟩
theorem lw_p76 : lw_okq (⟨"FaceSenateModel", "facesOf", "(I)I"⟩, 73) := ⟨⟨by decide +kernel, by decide +kernel⟩, List.mem_of_getElem? (i := 1129) (by decide +kernel), List.mem_of_getElem? (i := 1549) (by decide +kernel), List.mem_of_getElem? (i := 1550) (by decide +kernel)⟩
theorem lw_p77 : lw_okq (⟨"FaceSenateModel", "brightAt", "(I)I"⟩, 73) := ⟨⟨by decide +kernel, by decide +kernel⟩, List.mem_of_getElem? (i := 1129) (by decide +kernel), List.mem_of_getElem? (i := 1556) (by decide +kernel), List.mem_of_getElem? (i := 1557) (by decide +kernel)⟩
theorem lw_p78 : lw_okq (⟨"FaceSenateModel", "comes", "(I)I"⟩, 73) := ⟨⟨by decide +kernel, by decide +kernel⟩, List.mem_of_getElem? (i := 1129) (by decide +kernel), List.mem_of_getElem? (i := 1560) (by decide +kernel), List.mem_of_getElem? (i := 1561) (by decide +kernel)⟩
theorem lw_p79 : lw_okq (⟨"FaceSenateModel", "asked", "(II)I"⟩, 73) := ⟨⟨by decide +kernel, by decide +kernel⟩, List.mem_of_getElem? (i := 1129) (by decide +kernel), List.mem_of_getElem? (i := 1564) (by decide +kernel), List.mem_of_getElem? (i := 1565) (by decide +kernel)⟩
def lw_privs_5 : List (MethodName × Nat) := [(⟨"FaceSenateModel", "e", "()V"⟩, 73), (⟨"FaceSenateModel", "pushE", "(II)V"⟩, 73), (⟨"FaceSenateModel", "unit", "()Z"⟩, 73), (⟨"FaceSenateModel", "isSignHere", "(I)Z"⟩, 73), (⟨"FaceSenateModel", "wordHere", "()I"⟩, 73), (⟨"FaceSenateModel", "emit", "(II)V"⟩, 73), (⟨"FaceSenateModel", "behindUnit", "()Z"⟩, 73), (⟨"FaceSenateModel", "rankHere", "()I"⟩, 73), (⟨"FaceSenateModel", "isCompared", "()Z"⟩, 73), (⟨"FaceSenateModel", "isMember", "(I)Z"⟩, 73), (⟨"FaceSenateModel", "beside", "(I)I"⟩, 73), (⟨"FaceSenateModel", "areBeside", "(II)Z"⟩, 73), (⟨"FaceSenateModel", "facesOf", "(I)I"⟩, 73), (⟨"FaceSenateModel", "brightAt", "(I)I"⟩, 73), (⟨"FaceSenateModel", "comes", "(I)I"⟩, 73), (⟨"FaceSenateModel", "asked", "(II)I"⟩, 73)]
theorem lw_r5 : ∀ q ∈ lw_privs_5, lw_okq q := List.forall_mem_cons.mpr ⟨lw_p64, List.forall_mem_cons.mpr ⟨lw_p65, List.forall_mem_cons.mpr ⟨lw_p66, List.forall_mem_cons.mpr ⟨lw_p67, List.forall_mem_cons.mpr ⟨lw_p68, List.forall_mem_cons.mpr ⟨lw_p69, List.forall_mem_cons.mpr ⟨lw_p70, List.forall_mem_cons.mpr ⟨lw_p71, List.forall_mem_cons.mpr ⟨lw_p72, List.forall_mem_cons.mpr ⟨lw_p73, List.forall_mem_cons.mpr ⟨lw_p74, List.forall_mem_cons.mpr ⟨lw_p75, List.forall_mem_cons.mpr ⟨lw_p76, List.forall_mem_cons.mpr ⟨lw_p77, List.forall_mem_cons.mpr ⟨lw_p78, List.forall_mem_cons.mpr ⟨lw_p79, fun _ h => absurd h List.not_mem_nil⟩⟩⟩⟩⟩⟩⟩⟩⟩⟩⟩⟩⟩⟩⟩⟩
theorem lw_p80 : lw_okq (⟨"FaceSenateModel", "membersOf", "(I)I"⟩, 73) := ⟨⟨by decide +kernel, by decide +kernel⟩, List.mem_of_getElem? (i := 1129) (by decide +kernel), List.mem_of_getElem? (i := 1575) (by decide +kernel), List.mem_of_getElem? (i := 1576) (by decide +kernel)⟩
theorem lw_p81 : lw_okq (⟨"FaceSenateModel", "offOf", "(I)I"⟩, 73) := ⟨⟨by decide +kernel, by decide +kernel⟩, List.mem_of_getElem? (i := 1129) (by decide +kernel), List.mem_of_getElem? (i := 1579) (by decide +kernel), List.mem_of_getElem? (i := 1580) (by decide +kernel)⟩
theorem lw_p82 : lw_okq (⟨"FaceSenateModel", "isSeat", "(I)Z"⟩, 73) := ⟨⟨by decide +kernel, by decide +kernel⟩, List.mem_of_getElem? (i := 1129) (by decide +kernel), List.mem_of_getElem? (i := 1590) (by decide +kernel), List.mem_of_getElem? (i := 1591) (by decide +kernel)⟩
theorem lw_p83 : lw_okq (⟨"FaceSenateModel", "seats", "()I"⟩, 73) := ⟨⟨by decide +kernel, by decide +kernel⟩, List.mem_of_getElem? (i := 1129) (by decide +kernel), List.mem_of_getElem? (i := 1594) (by decide +kernel), List.mem_of_getElem? (i := 1595) (by decide +kernel)⟩
theorem lw_p84 : lw_okq (⟨"FaceSenateModel", "whoSits", "(I)I"⟩, 73) := ⟨⟨by decide +kernel, by decide +kernel⟩, List.mem_of_getElem? (i := 1129) (by decide +kernel), List.mem_of_getElem? (i := 1598) (by decide +kernel), List.mem_of_getElem? (i := 1599) (by decide +kernel)⟩
theorem lw_p85 : lw_okq (⟨"FaceSenateModel", "reportNow", "()I"⟩, 73) := ⟨⟨by decide +kernel, by decide +kernel⟩, List.mem_of_getElem? (i := 1129) (by decide +kernel), List.mem_of_getElem? (i := 1606) (by decide +kernel), List.mem_of_getElem? (i := 1607) (by decide +kernel)⟩
theorem lw_p86 : lw_okq (⟨"FaceSenateModel", "everybody", "()I"⟩, 73) := ⟨⟨by decide +kernel, by decide +kernel⟩, List.mem_of_getElem? (i := 1129) (by decide +kernel), List.mem_of_getElem? (i := 1610) (by decide +kernel), List.mem_of_getElem? (i := 1611) (by decide +kernel)⟩
theorem lw_p87 : lw_okq (⟨"FaceSenateModel", "allOff", "()I"⟩, 73) := ⟨⟨by decide +kernel, by decide +kernel⟩, List.mem_of_getElem? (i := 1129) (by decide +kernel), List.mem_of_getElem? (i := 1618) (by decide +kernel), List.mem_of_getElem? (i := 1619) (by decide +kernel)⟩
theorem lw_p88 : lw_okq (⟨"FaceSenateModel", "keepAct", "()V"⟩, 73) := ⟨⟨by decide +kernel, by decide +kernel⟩, List.mem_of_getElem? (i := 1129) (by decide +kernel), List.mem_of_getElem? (i := 1630) (by decide +kernel), List.mem_of_getElem? (i := 1631) (by decide +kernel)⟩
theorem lw_p89 : lw_okq (⟨"FaceSenateModel", "goInEarnest", "()I"⟩, 73) := ⟨⟨by decide +kernel, by decide +kernel⟩, List.mem_of_getElem? (i := 1129) (by decide +kernel), List.mem_of_getElem? (i := 1634) (by decide +kernel), List.mem_of_getElem? (i := 1635) (by decide +kernel)⟩
theorem lw_p90 : lw_okq (⟨"FaceSenateModel", "goStep", "()I"⟩, 73) := ⟨⟨by decide +kernel, by decide +kernel⟩, List.mem_of_getElem? (i := 1129) (by decide +kernel), List.mem_of_getElem? (i := 1638) (by decide +kernel), List.mem_of_getElem? (i := 1639) (by decide +kernel)⟩
theorem lw_p91 : lw_okq (⟨"FaceSenateModel", "lookOf", "(I)I"⟩, 73) := ⟨⟨by decide +kernel, by decide +kernel⟩, List.mem_of_getElem? (i := 1129) (by decide +kernel), List.mem_of_getElem? (i := 1642) (by decide +kernel), List.mem_of_getElem? (i := 1643) (by decide +kernel)⟩
theorem lw_p92 : lw_okq (⟨"FaceSenateModel", "canChange", "(II)Z"⟩, 73) := ⟨⟨by decide +kernel, by decide +kernel⟩, List.mem_of_getElem? (i := 1129) (by decide +kernel), List.mem_of_getElem? (i := 1661) (by decide +kernel), List.mem_of_getElem? (i := 1662) (by decide +kernel)⟩
theorem lw_p93 : lw_okq (⟨"FaceSenateModel", "changeBoth", "(II)V"⟩, 73) := ⟨⟨by decide +kernel, by decide +kernel⟩, List.mem_of_getElem? (i := 1129) (by decide +kernel), List.mem_of_getElem? (i := 1665) (by decide +kernel), List.mem_of_getElem? (i := 1666) (by decide +kernel)⟩
theorem lw_p94 : lw_okq (⟨"FaceSenateModel", "exchange", "()V"⟩, 73) := ⟨⟨by decide +kernel, by decide +kernel⟩, List.mem_of_getElem? (i := 1129) (by decide +kernel), List.mem_of_getElem? (i := 1677) (by decide +kernel), List.mem_of_getElem? (i := 1678) (by decide +kernel)⟩
theorem lw_p95 : lw_okq (⟨"FaceSenateModel", "offWith", "(II)I"⟩, 73) := ⟨⟨by decide +kernel, by decide +kernel⟩, List.mem_of_getElem? (i := 1129) (by decide +kernel), List.mem_of_getElem? (i := 1689) (by decide +kernel), List.mem_of_getElem? (i := 1690) (by decide +kernel)⟩
def lw_privs_6 : List (MethodName × Nat) := [(⟨"FaceSenateModel", "membersOf", "(I)I"⟩, 73), (⟨"FaceSenateModel", "offOf", "(I)I"⟩, 73), (⟨"FaceSenateModel", "isSeat", "(I)Z"⟩, 73), (⟨"FaceSenateModel", "seats", "()I"⟩, 73), (⟨"FaceSenateModel", "whoSits", "(I)I"⟩, 73), (⟨"FaceSenateModel", "reportNow", "()I"⟩, 73), (⟨"FaceSenateModel", "everybody", "()I"⟩, 73), (⟨"FaceSenateModel", "allOff", "()I"⟩, 73), (⟨"FaceSenateModel", "keepAct", "()V"⟩, 73), (⟨"FaceSenateModel", "goInEarnest", "()I"⟩, 73), (⟨"FaceSenateModel", "goStep", "()I"⟩, 73), (⟨"FaceSenateModel", "lookOf", "(I)I"⟩, 73), (⟨"FaceSenateModel", "canChange", "(II)Z"⟩, 73), (⟨"FaceSenateModel", "changeBoth", "(II)V"⟩, 73), (⟨"FaceSenateModel", "exchange", "()V"⟩, 73), (⟨"FaceSenateModel", "offWith", "(II)I"⟩, 73)]
theorem lw_r6 : ∀ q ∈ lw_privs_6, lw_okq q := List.forall_mem_cons.mpr ⟨lw_p80, List.forall_mem_cons.mpr ⟨lw_p81, List.forall_mem_cons.mpr ⟨lw_p82, List.forall_mem_cons.mpr ⟨lw_p83, List.forall_mem_cons.mpr ⟨lw_p84, List.forall_mem_cons.mpr ⟨lw_p85, List.forall_mem_cons.mpr ⟨lw_p86, List.forall_mem_cons.mpr ⟨lw_p87, List.forall_mem_cons.mpr ⟨lw_p88, List.forall_mem_cons.mpr ⟨lw_p89, List.forall_mem_cons.mpr ⟨lw_p90, List.forall_mem_cons.mpr ⟨lw_p91, List.forall_mem_cons.mpr ⟨lw_p92, List.forall_mem_cons.mpr ⟨lw_p93, List.forall_mem_cons.mpr ⟨lw_p94, List.forall_mem_cons.mpr ⟨lw_p95, fun _ h => absurd h List.not_mem_nil⟩⟩⟩⟩⟩⟩⟩⟩⟩⟩⟩⟩⟩⟩⟩⟩
theorem lw_p96 : lw_okq (⟨"FaceSenateModel", "awayOf", "(I)I"⟩, 73) := ⟨⟨by decide +kernel, by decide +kernel⟩, List.mem_of_getElem? (i := 1129) (by decide +kernel), List.mem_of_getElem? (i := 1697) (by decide +kernel), List.mem_of_getElem? (i := 1698) (by decide +kernel)⟩
theorem lw_p97 : lw_okq (⟨"FaceSenateModel", "layFar", "(I)V"⟩, 73) := ⟨⟨by decide +kernel, by decide +kernel⟩, List.mem_of_getElem? (i := 1129) (by decide +kernel), List.mem_of_getElem? (i := 1713) (by decide +kernel), List.mem_of_getElem? (i := 1714) (by decide +kernel)⟩
theorem lw_p98 : lw_okq (⟨"FaceSenateModel", "keepNow", "()V"⟩, 73) := ⟨⟨by decide +kernel, by decide +kernel⟩, List.mem_of_getElem? (i := 1129) (by decide +kernel), List.mem_of_getElem? (i := 1728) (by decide +kernel), List.mem_of_getElem? (i := 1729) (by decide +kernel)⟩
theorem lw_p99 : lw_okq (⟨"FaceSenateModel", "reportBehind", "(I)I"⟩, 73) := ⟨⟨by decide +kernel, by decide +kernel⟩, List.mem_of_getElem? (i := 1129) (by decide +kernel), List.mem_of_getElem? (i := 1732) (by decide +kernel), List.mem_of_getElem? (i := 1733) (by decide +kernel)⟩
theorem lw_p100 : lw_okq (⟨"FaceSenateModel", "bringBack", "()V"⟩, 73) := ⟨⟨by decide +kernel, by decide +kernel⟩, List.mem_of_getElem? (i := 1129) (by decide +kernel), List.mem_of_getElem? (i := 1736) (by decide +kernel), List.mem_of_getElem? (i := 1737) (by decide +kernel)⟩
theorem lw_p101 : lw_okq (⟨"FaceSenateModel", "reportAt", "(II)I"⟩, 73) := ⟨⟨by decide +kernel, by decide +kernel⟩, List.mem_of_getElem? (i := 1129) (by decide +kernel), List.mem_of_getElem? (i := 1744) (by decide +kernel), List.mem_of_getElem? (i := 1745) (by decide +kernel)⟩
theorem lw_p102 : lw_okq (⟨"FaceSenateModel", "areAlike", "()Z"⟩, 73) := ⟨⟨by decide +kernel, by decide +kernel⟩, List.mem_of_getElem? (i := 1129) (by decide +kernel), List.mem_of_getElem? (i := 1764) (by decide +kernel), List.mem_of_getElem? (i := 1765) (by decide +kernel)⟩
theorem lw_p103 : lw_okq (⟨"FaceSenateModel", "reportByTurns", "(II)I"⟩, 73) := ⟨⟨by decide +kernel, by decide +kernel⟩, List.mem_of_getElem? (i := 1129) (by decide +kernel), List.mem_of_getElem? (i := 1791) (by decide +kernel), List.mem_of_getElem? (i := 1792) (by decide +kernel)⟩
theorem lw_p104 : lw_okq (⟨"FaceSenateModel", "offBehind", "(II)I"⟩, 73) := ⟨⟨by decide +kernel, by decide +kernel⟩, List.mem_of_getElem? (i := 1129) (by decide +kernel), List.mem_of_getElem? (i := 1803) (by decide +kernel), List.mem_of_getElem? (i := 1804) (by decide +kernel)⟩
theorem lw_p105 : lw_okq (⟨"FaceSenateModel", "doesFit", "(II)Z"⟩, 73) := ⟨⟨by decide +kernel, by decide +kernel⟩, List.mem_of_getElem? (i := 1129) (by decide +kernel), List.mem_of_getElem? (i := 1831) (by decide +kernel), List.mem_of_getElem? (i := 1832) (by decide +kernel)⟩
theorem lw_p106 : lw_okq (⟨"FaceSenateModel", "faceBy", "(III)I"⟩, 73) := ⟨⟨by decide +kernel, by decide +kernel⟩, List.mem_of_getElem? (i := 1129) (by decide +kernel), List.mem_of_getElem? (i := 1835) (by decide +kernel), List.mem_of_getElem? (i := 1836) (by decide +kernel)⟩
theorem lw_p107 : lw_okq (⟨"FaceSenateModel", "mostLike", "(III)I"⟩, 73) := ⟨⟨by decide +kernel, by decide +kernel⟩, List.mem_of_getElem? (i := 1129) (by decide +kernel), List.mem_of_getElem? (i := 1844) (by decide +kernel), List.mem_of_getElem? (i := 1845) (by decide +kernel)⟩
def lw_privs_7 : List (MethodName × Nat) := [(⟨"FaceSenateModel", "awayOf", "(I)I"⟩, 73), (⟨"FaceSenateModel", "layFar", "(I)V"⟩, 73), (⟨"FaceSenateModel", "keepNow", "()V"⟩, 73), (⟨"FaceSenateModel", "reportBehind", "(I)I"⟩, 73), (⟨"FaceSenateModel", "bringBack", "()V"⟩, 73), (⟨"FaceSenateModel", "reportAt", "(II)I"⟩, 73), (⟨"FaceSenateModel", "areAlike", "()Z"⟩, 73), (⟨"FaceSenateModel", "reportByTurns", "(II)I"⟩, 73), (⟨"FaceSenateModel", "offBehind", "(II)I"⟩, 73), (⟨"FaceSenateModel", "doesFit", "(II)Z"⟩, 73), (⟨"FaceSenateModel", "faceBy", "(III)I"⟩, 73), (⟨"FaceSenateModel", "mostLike", "(III)I"⟩, 73)]
theorem lw_r7 : ∀ q ∈ lw_privs_7, lw_okq q := List.forall_mem_cons.mpr ⟨lw_p96, List.forall_mem_cons.mpr ⟨lw_p97, List.forall_mem_cons.mpr ⟨lw_p98, List.forall_mem_cons.mpr ⟨lw_p99, List.forall_mem_cons.mpr ⟨lw_p100, List.forall_mem_cons.mpr ⟨lw_p101, List.forall_mem_cons.mpr ⟨lw_p102, List.forall_mem_cons.mpr ⟨lw_p103, List.forall_mem_cons.mpr ⟨lw_p104, List.forall_mem_cons.mpr ⟨lw_p105, List.forall_mem_cons.mpr ⟨lw_p106, List.forall_mem_cons.mpr ⟨lw_p107, fun _ h => absurd h List.not_mem_nil⟩⟩⟩⟩⟩⟩⟩⟩⟩⟩⟩⟩
def lw_privs : List (MethodName × Nat) := lw_privs_1 ++ (lw_privs_2 ++ (lw_privs_3 ++ (lw_privs_4 ++ (lw_privs_5 ++ (lw_privs_6 ++ (lw_privs_7))))))
def lw_tbl : List Cond := k2_sels lw_privs ++ tables_1
theorem lw_privs_ok : ∀ q ∈ lw_privs, lw_okq q := by
  show ∀ q ∈ lw_privs_1 ++ (lw_privs_2 ++ (lw_privs_3 ++ (lw_privs_4 ++ (lw_privs_5 ++ (lw_privs_6 ++ (lw_privs_7)))))), lw_okq q
  exact List.forall_mem_append.mpr ⟨lw_r1, List.forall_mem_append.mpr ⟨lw_r2, List.forall_mem_append.mpr ⟨lw_r3, List.forall_mem_append.mpr ⟨lw_r4, List.forall_mem_append.mpr ⟨lw_r5, List.forall_mem_append.mpr ⟨lw_r6, lw_r7⟩⟩⟩⟩⟩⟩
end
section
/-! ===== BEGIN words of one list among another's, by their places ===== -/
theorem goodIn_r {big : List Cond} (ws : List Cond) (ps : List Nat) (hp : ws = ps.filterMap (fun i => big[i]?)) (h : ws.all goodWord = true) : GoodIn big ws := by
  intro w hw
  have h1 := List.all_eq_true.mp h w hw
  rw [hp] at hw
  obtain ⟨i, -, hi⟩ := List.mem_filterMap.mp hw
  have hm : w ∈ big := by first | exact List.mem_of_getElem? hi | exact List.getElem?_mem hi
  exact ⟨hm, good_of_word h1⟩
theorem goodIn_app {big a b : List Cond} (ha : GoodIn big a) (hb : GoodIn big b) : GoodIn big (a ++ b) := fun w h => (List.mem_append.mp h).elim (ha w) (hb w)
theorem goodIn_ca {big a b : List Cond} {c : Cond} (ha : GoodIn big (c :: a)) (hb : GoodIn big b) : GoodIn big (c :: (a ++ b)) := fun w h => (List.mem_cons.mp h).elim (fun e => ha w (List.mem_cons.mpr (Or.inl e))) (fun h => (List.mem_append.mp h).elim (fun h => ha w (List.mem_cons.mpr (Or.inr h))) (hb w))
theorem goodIn_sub {big ws : List Cond} (hm : ∀ w ∈ ws, w ∈ big) (h : ws.all goodWord = true) : GoodIn big ws := fun w hw => ⟨hm w hw, good_of_word (List.all_eq_true.mp h w hw)⟩
/-! ===== END ===== -/

/-! ===== BEGIN printed: names, fields, word lists, decode rows ===== -/
def RX0 : String := "FaceSenate$Acts"
def TX0 : u_T := fun k => match k with
  | 0 => ("FaceSenate$Acts", "shelf", "LFaceSenate$Shelf;", true)
  | 1 => ("FaceSenate$Acts", "done", "I", false)
  | _ => ("FaceSenate$Acts", "undone", "I", false)
def tyX0 : Nat → FieldType := fun k => match k with
  | 0 => .object "FaceSenate$Shelf"
  | 1 => .int
  | _ => .int
abbrev wsX00 : List Cond := u_ws RX0 TX0 3
theorem nmX0 : ∀ a, a < 3 → ∀ b, b < 3 → a ≠ b → (TX0 a).2.1 ≠ (TX0 b).2.1 := by decide +kernel
theorem tyX0_ok : ∀ k, k < 3 → parseFieldDescriptor (TX0 k).2.2.1 = some (tyX0 k) := by decide +kernel
abbrev cX0_init : ByteArray := prog_2_method_1_code
def yX0_init : MethodName := ⟨RX0, "<init>", "()V"⟩
abbrev cX0_clear : ByteArray := prog_2_method_2_code
def yX0_clear : MethodName := ⟨RX0, "clear", "()V"⟩
abbrev cX0_keep : ByteArray := prog_2_method_3_code
def yX0_keep : MethodName := ⟨RX0, "keep", "(LFaceSenate$Sitting;)V"⟩
abbrev cX0_takeBack : ByteArray := prog_2_method_4_code
def yX0_takeBack : MethodName := ⟨RX0, "takeBack", "(LFaceSenate$Sitting;)Z"⟩
abbrev cX0_doAgain : ByteArray := prog_2_method_5_code
def yX0_doAgain : MethodName := ⟨RX0, "doAgain", "(LFaceSenate$Sitting;)Z"⟩
def RX1 : String := "FaceSenate$Formula"
def TX1 : u_T := fun k => match k with
  | 0 => ("FaceSenate$Formula", "codes", "[I", true)
  | 1 => ("FaceSenate$Formula", "stack", "[I", true)
  | 2 => ("FaceSenate$Formula", "length", "I", false)
  | _ => ("FaceSenate$Formula", "units", "I", false)
def tyX1 : Nat → FieldType := fun k => match k with
  | 0 => .array .int
  | 1 => .array .int
  | 2 => .int
  | _ => .int
abbrev wsX10 : List Cond := u_ws RX1 TX1 4
theorem nmX1 : ∀ a, a < 4 → ∀ b, b < 4 → a ≠ b → (TX1 a).2.1 ≠ (TX1 b).2.1 := by decide +kernel
theorem tyX1_ok : ∀ k, k < 4 → parseFieldDescriptor (TX1 k).2.2.1 = some (tyX1 k) := by decide +kernel
abbrev cX1_init : ByteArray := prog_3_method_1_code
def yX1_init : MethodName := ⟨RX1, "<init>", "()V"⟩
abbrev cX1_clear : ByteArray := prog_3_method_2_code
def yX1_clear : MethodName := ⟨RX1, "clear", "()V"⟩
abbrev cX1_add : ByteArray := prog_3_method_3_code
def yX1_add : MethodName := ⟨RX1, "add", "(I)V"⟩
abbrev cX1_worth : ByteArray := prog_3_method_4_code
def yX1_worth : MethodName := ⟨RX1, "worth", "([I)I"⟩
abbrev cX1_operand : ByteArray := prog_3_method_5_code
def yX1_operand : MethodName := ⟨RX1, "operand", "(I[I)I"⟩
abbrev cX1_joined : ByteArray := prog_3_method_6_code
def yX1_joined : MethodName := ⟨RX1, "joined", "(III)I"⟩
def RX2 : String := "FaceSenate$Looks"
def TX2 : u_T := fun k => match k with
  | 0 => ("FaceSenate$Looks", "steps", "[I", true)
  | 1 => ("FaceSenate$Looks", "members", "[I", true)
  | 2 => ("FaceSenate$Looks", "faces", "[I", true)
  | 3 => ("FaceSenate$Looks", "wants", "[Z", true)
  | 4 => ("FaceSenate$Looks", "toldAt", "[I", true)
  | 5 => ("FaceSenate$Looks", "untoldAt", "[I", true)
  | _ => ("FaceSenate$Looks", "count", "I", false)
def tyX2 : Nat → FieldType := fun k => match k with
  | 0 => .array .int
  | 1 => .array .int
  | 2 => .array .int
  | 3 => .array .boolean
  | 4 => .array .int
  | 5 => .array .int
  | _ => .int
abbrev wsX20 : List Cond := u_ws RX2 TX2 7
theorem nmX2 : ∀ a, a < 7 → ∀ b, b < 7 → a ≠ b → (TX2 a).2.1 ≠ (TX2 b).2.1 := by decide +kernel
theorem tyX2_ok : ∀ k, k < 7 → parseFieldDescriptor (TX2 k).2.2.1 = some (tyX2 k) := by decide +kernel
abbrev cX2_init : ByteArray := prog_4_method_1_code
def yX2_init : MethodName := ⟨RX2, "<init>", "()V"⟩
abbrev cX2_clear : ByteArray := prog_4_method_2_code
def yX2_clear : MethodName := ⟨RX2, "clear", "()V"⟩
abbrev cX2_tell : ByteArray := prog_4_method_3_code
def yX2_tell : MethodName := ⟨RX2, "tell", "(IIIZI)I"⟩
abbrev cX2_takeBack : ByteArray := prog_4_method_4_code
def yX2_takeBack : MethodName := ⟨RX2, "takeBack", "(II)Z"⟩
abbrev cX2_counts : ByteArray := prog_4_method_5_code
def yX2_counts : MethodName := ⟨RX2, "counts", "(II)Z"⟩
abbrev cX2_deepest : ByteArray := prog_4_method_6_code
def yX2_deepest : MethodName := ⟨RX2, "deepest", "(I)I"⟩
abbrev cX2_areSo : ByteArray := prog_4_method_7_code
def yX2_areSo : MethodName := ⟨RX2, "areSo", "(IILFaceSenate$Sitting;)Z"⟩
def RX3 : String := "FaceSenate$Plan"
def TX3 : u_T := fun k => match k with
  | 0 => ("FaceSenate$Plan", "districtNames", "[J", true)
  | 1 => ("FaceSenate$Plan", "moods", "[I", true)
  | 2 => ("FaceSenate$Plan", "memberNames", "[J", true)
  | 3 => ("FaceSenate$Plan", "homes", "[I", true)
  | 4 => ("FaceSenate$Plan", "faces", "[I", true)
  | 5 => ("FaceSenate$Plan", "stoics", "[I", true)
  | 6 => ("FaceSenate$Plan", "seats", "[I", true)
  | 7 => ("FaceSenate$Plan", "look", "LFaceSenate$Formula;", true)
  | 8 => ("FaceSenate$Plan", "light", "LFaceSenate$Formula;", true)
  | 9 => ("FaceSenate$Plan", "columns", "I", false)
  | 10 => ("FaceSenate$Plan", "rows", "I", false)
  | 11 => ("FaceSenate$Plan", "districts", "I", false)
  | 12 => ("FaceSenate$Plan", "members", "I", false)
  | 13 => ("FaceSenate$Plan", "tooth", "I", false)
  | 14 => ("FaceSenate$Plan", "ache", "I", false)
  | 15 => ("FaceSenate$Plan", "draw", "I", false)
  | 16 => ("FaceSenate$Plan", "toothTold", "Z", false)
  | _ => ("FaceSenate$Plan", "drawTold", "Z", false)
def tyX3 : Nat → FieldType := fun k => match k with
  | 0 => .array .long
  | 1 => .array .int
  | 2 => .array .long
  | 3 => .array .int
  | 4 => .array .int
  | 5 => .array .int
  | 6 => .array .int
  | 7 => .object "FaceSenate$Formula"
  | 8 => .object "FaceSenate$Formula"
  | 9 => .int
  | 10 => .int
  | 11 => .int
  | 12 => .int
  | 13 => .int
  | 14 => .int
  | 15 => .int
  | 16 => .boolean
  | _ => .boolean
abbrev wsX30 : List Cond := u_ws RX3 TX3 18
theorem nmX3 : ∀ a, a < 18 → ∀ b, b < 18 → a ≠ b → (TX3 a).2.1 ≠ (TX3 b).2.1 := by decide +kernel
theorem tyX3_ok : ∀ k, k < 18 → parseFieldDescriptor (TX3 k).2.2.1 = some (tyX3 k) := by decide +kernel
abbrev cX3_init : ByteArray := prog_5_method_1_code
def yX3_init : MethodName := ⟨RX3, "<init>", "()V"⟩
abbrev cX3_clear : ByteArray := prog_5_method_2_code
def yX3_clear : MethodName := ⟨RX3, "clear", "()V"⟩
abbrev cX3_seatCount : ByteArray := prog_5_method_3_code
def yX3_seatCount : MethodName := ⟨RX3, "seatCount", "()I"⟩
abbrev cX3_membersOf : ByteArray := prog_5_method_4_code
def yX3_membersOf : MethodName := ⟨RX3, "membersOf", "(I)I"⟩
abbrev cX3_offOf : ByteArray := prog_5_method_5_code
def yX3_offOf : MethodName := ⟨RX3, "offOf", "(ILFaceSenate$Sitting;)I"⟩
abbrev cX3_offOfAll : ByteArray := prog_5_method_6_code
def yX3_offOfAll : MethodName := ⟨RX3, "offOfAll", "(LFaceSenate$Sitting;)I"⟩
def RX4 : String := "FaceSenate$Reader"
def TX4 : u_T := fun k => match k with
  | 0 => ("FaceSenate$Reader", "tape", "LFaceSenate$Tape;", true)
  | 1 => ("FaceSenate$Reader", "plan", "LFaceSenate$Plan;", false)
  | 2 => ("FaceSenate$Reader", "fault", "I", false)
  | _ => ("FaceSenate$Reader", "faultPlace", "I", false)
def tyX4 : Nat → FieldType := fun k => match k with
  | 0 => .object "FaceSenate$Tape"
  | 1 => .object "FaceSenate$Plan"
  | 2 => .int
  | _ => .int
abbrev wsX40 : List Cond := u_ws RX4 TX4 4
theorem nmX4 : ∀ a, a < 4 → ∀ b, b < 4 → a ≠ b → (TX4 a).2.1 ≠ (TX4 b).2.1 := by decide +kernel
theorem tyX4_ok : ∀ k, k < 4 → parseFieldDescriptor (TX4 k).2.2.1 = some (tyX4 k) := by decide +kernel
abbrev cX4_init : ByteArray := prog_6_method_1_code
def yX4_init : MethodName := ⟨RX4, "<init>", "()V"⟩
abbrev cX4_read : ByteArray := prog_6_method_2_code
def yX4_read : MethodName := ⟨RX4, "read", "()V"⟩
abbrev cX4_line : ByteArray := prog_6_method_3_code
def yX4_line : MethodName := ⟨RX4, "line", "(Z)Z"⟩
abbrev cX4_hallLine : ByteArray := prog_6_method_4_code
def yX4_hallLine : MethodName := ⟨RX4, "hallLine", "()Z"⟩
abbrev cX4_districtLine : ByteArray := prog_6_method_5_code
def yX4_districtLine : MethodName := ⟨RX4, "districtLine", "()Z"⟩
abbrev cX4_memberLine : ByteArray := prog_6_method_6_code
def yX4_memberLine : MethodName := ⟨RX4, "memberLine", "()Z"⟩
abbrev cX4_homeOf : ByteArray := prog_6_method_7_code
def yX4_homeOf : MethodName := ⟨RX4, "homeOf", "(I)Z"⟩
abbrev cX4_stoicOf : ByteArray := prog_6_method_8_code
def yX4_stoicOf : MethodName := ⟨RX4, "stoicOf", "(I)Z"⟩
abbrev cX4_seatOf : ByteArray := prog_6_method_9_code
def yX4_seatOf : MethodName := ⟨RX4, "seatOf", "(I)Z"⟩
abbrev cX4_toothLine : ByteArray := prog_6_method_10_code
def yX4_toothLine : MethodName := ⟨RX4, "toothLine", "()Z"⟩
abbrev cX4_drawLine : ByteArray := prog_6_method_11_code
def yX4_drawLine : MethodName := ⟨RX4, "drawLine", "()Z"⟩
abbrev cX4_isUntold : ByteArray := prog_6_method_12_code
def yX4_isUntold : MethodName := ⟨RX4, "isUntold", "(LFaceSenate$Formula;)Z"⟩
abbrev cX4_level : ByteArray := prog_6_method_13_code
def yX4_level : MethodName := ⟨RX4, "level", "(LFaceSenate$Formula;II)Z"⟩
abbrev cX4_negation : ByteArray := prog_6_method_14_code
def yX4_negation : MethodName := ⟨RX4, "negation", "(LFaceSenate$Formula;I)Z"⟩
abbrev cX4_unit : ByteArray := prog_6_method_15_code
def yX4_unit : MethodName := ⟨RX4, "unit", "(LFaceSenate$Formula;I)Z"⟩
abbrev cX4_operatorOf : ByteArray := prog_6_method_16_code
def yX4_operatorOf : MethodName := ⟨RX4, "operatorOf", "(II)I"⟩
abbrev cX4_isNewName : ByteArray := prog_6_method_17_code
def yX4_isNewName : MethodName := ⟨RX4, "isNewName", "([JI)Z"⟩
abbrev cX4_placeOfName : ByteArray := prog_6_method_18_code
def yX4_placeOfName : MethodName := ⟨RX4, "placeOfName", "([JI)I"⟩
abbrev cX4_isNumber : ByteArray := prog_6_method_19_code
def yX4_isNumber : MethodName := ⟨RX4, "isNumber", "(II)Z"⟩
abbrev cX4_skip : ByteArray := prog_6_method_20_code
def yX4_skip : MethodName := ⟨RX4, "skip", "(I)Z"⟩
abbrev cX4_refuse : ByteArray := prog_6_method_21_code
def yX4_refuse : MethodName := ⟨RX4, "refuse", "()Z"⟩
abbrev cX4_refuseBy : ByteArray := prog_6_method_22_code
def yX4_refuseBy : MethodName := ⟨RX4, "refuseBy", "(I)Z"⟩
def RX5 : String := "FaceSenate$Shelf"
def TX5 : u_T := fun k => match k with
  | 0 => ("FaceSenate$Shelf", "size", "I", true)
  | 1 => ("FaceSenate$Shelf", "cells", "[I", true)
  | _ => ("FaceSenate$Shelf", "full", "[Z", true)
def tyX5 : Nat → FieldType := fun k => match k with
  | 0 => .int
  | 1 => .array .int
  | _ => .array .boolean
abbrev wsX50 : List Cond := u_ws RX5 TX5 3
theorem nmX5 : ∀ a, a < 3 → ∀ b, b < 3 → a ≠ b → (TX5 a).2.1 ≠ (TX5 b).2.1 := by decide +kernel
theorem tyX5_ok : ∀ k, k < 3 → parseFieldDescriptor (TX5 k).2.2.1 = some (tyX5 k) := by decide +kernel
abbrev cX5_init : ByteArray := prog_7_method_1_code
def yX5_init : MethodName := ⟨RX5, "<init>", "(I)V"⟩
abbrev cX5_clear : ByteArray := prog_7_method_2_code
def yX5_clear : MethodName := ⟨RX5, "clear", "()V"⟩
abbrev cX5_put : ByteArray := prog_7_method_3_code
def yX5_put : MethodName := ⟨RX5, "put", "(ILFaceSenate$Sitting;)V"⟩
abbrev cX5_give : ByteArray := prog_7_method_4_code
def yX5_give : MethodName := ⟨RX5, "give", "(ILFaceSenate$Sitting;)Z"⟩
abbrev cX5_dropFirst : ByteArray := prog_7_method_5_code
def yX5_dropFirst : MethodName := ⟨RX5, "dropFirst", "()V"⟩
def RX6 : String := "FaceSenate$Sitting"
def TX6 : u_T := fun k => match k with
  | 0 => ("FaceSenate$Sitting", "faces", "[I", true)
  | 1 => ("FaceSenate$Sitting", "seats", "[I", true)
  | 2 => ("FaceSenate$Sitting", "news", "I", false)
  | 3 => ("FaceSenate$Sitting", "step", "I", false)
  | _ => ("FaceSenate$Sitting", "seed", "I", false)
def tyX6 : Nat → FieldType := fun k => match k with
  | 0 => .array .int
  | 1 => .array .int
  | 2 => .int
  | 3 => .int
  | _ => .int
abbrev wsX60 : List Cond := u_ws RX6 TX6 5
theorem nmX6 : ∀ a, a < 5 → ∀ b, b < 5 → a ≠ b → (TX6 a).2.1 ≠ (TX6 b).2.1 := by decide +kernel
theorem tyX6_ok : ∀ k, k < 5 → parseFieldDescriptor (TX6 k).2.2.1 = some (tyX6 k) := by decide +kernel
abbrev cX6_init : ByteArray := prog_8_method_1_code
def yX6_init : MethodName := ⟨RX6, "<init>", "()V"⟩
abbrev cX6_begin : ByteArray := prog_8_method_2_code
def yX6_begin : MethodName := ⟨RX6, "begin", "(LFaceSenate$Plan;)V"⟩
abbrev cX6_take : ByteArray := prog_8_method_3_code
def yX6_take : MethodName := ⟨RX6, "take", "(LFaceSenate$Sitting;)V"⟩
abbrev cX6_together : ByteArray := prog_8_method_4_code
def yX6_together : MethodName := ⟨RX6, "together", "()I"⟩
abbrev cX6_facesOf : ByteArray := prog_8_method_5_code
def yX6_facesOf : MethodName := ⟨RX6, "facesOf", "(I)I"⟩
abbrev cX6_sitterOn : ByteArray := prog_8_method_6_code
def yX6_sitterOn : MethodName := ⟨RX6, "sitterOn", "(I)I"⟩
abbrev cX6_seated : ByteArray := prog_8_method_7_code
def yX6_seated : MethodName := ⟨RX6, "seated", "()I"⟩
abbrev cX6_swap : ByteArray := prog_8_method_8_code
def yX6_swap : MethodName := ⟨RX6, "swap", "(II)V"⟩
def RX7 : String := "FaceSenate$Tape"
def TX7 : u_T := fun k => match k with
  | 0 => ("FaceSenate$Tape", "bytes", "[B", true)
  | 1 => ("FaceSenate$Tape", "words", "[J", true)
  | 2 => ("FaceSenate$Tape", "after", "I", false)
  | 3 => ("FaceSenate$Tape", "length", "I", false)
  | 4 => ("FaceSenate$Tape", "kind", "I", false)
  | 5 => ("FaceSenate$Tape", "start", "I", false)
  | 6 => ("FaceSenate$Tape", "number", "I", false)
  | _ => ("FaceSenate$Tape", "name", "J", false)
def tyX7 : Nat → FieldType := fun k => match k with
  | 0 => .array .byte
  | 1 => .array .long
  | 2 => .int
  | 3 => .int
  | 4 => .int
  | 5 => .int
  | 6 => .int
  | _ => .long
abbrev wsX70 : List Cond := u_ws RX7 TX7 8
theorem nmX7 : ∀ a, a < 8 → ∀ b, b < 8 → a ≠ b → (TX7 a).2.1 ≠ (TX7 b).2.1 := by decide +kernel
theorem tyX7_ok : ∀ k, k < 8 → parseFieldDescriptor (TX7 k).2.2.1 = some (tyX7 k) := by decide +kernel
abbrev cX7_init : ByteArray := prog_9_method_1_code
def yX7_init : MethodName := ⟨RX7, "<init>", "()V"⟩
abbrev cX7_add : ByteArray := prog_9_method_2_code
def yX7_add : MethodName := ⟨RX7, "add", "(I)V"⟩
abbrev cX7_toFirst : ByteArray := prog_9_method_3_code
def yX7_toFirst : MethodName := ⟨RX7, "toFirst", "()V"⟩
abbrev cX7_toNext : ByteArray := prog_9_method_4_code
def yX7_toNext : MethodName := ⟨RX7, "toNext", "()V"⟩
abbrev cX7_readWord : ByteArray := prog_9_method_5_code
def yX7_readWord : MethodName := ⟨RX7, "readWord", "()V"⟩
abbrev cX7_readNumber : ByteArray := prog_9_method_6_code
def yX7_readNumber : MethodName := ⟨RX7, "readNumber", "()V"⟩
abbrev cX7_isAt : ByteArray := prog_9_method_7_code
def yX7_isAt : MethodName := ⟨RX7, "isAt", "(I)Z"⟩
abbrev cX7_isLetter : ByteArray := prog_9_method_8_code
def yX7_isLetter : MethodName := ⟨RX7, "isLetter", "(I)Z"⟩
abbrev cX7_isDigit : ByteArray := prog_9_method_9_code
def yX7_isDigit : MethodName := ⟨RX7, "isDigit", "(I)Z"⟩
abbrev cX7_codeWith : ByteArray := prog_9_method_10_code
def yX7_codeWith : MethodName := ⟨RX7, "codeWith", "(JI)J"⟩
def RX8 : String := "FaceSenate$Trial"
def TX8 : u_T := fun k => match k with
  | 0 => ("FaceSenate$Trial", "sitting", "LFaceSenate$Sitting;", true)
  | 1 => ("FaceSenate$Trial", "beside", "[I", true)
  | 2 => ("FaceSenate$Trial", "rows", "[I", true)
  | 3 => ("FaceSenate$Trial", "columns", "[I", true)
  | 4 => ("FaceSenate$Trial", "next", "[I", true)
  | 5 => ("FaceSenate$Trial", "kept", "[I", true)
  | 6 => ("FaceSenate$Trial", "seen", "[I", true)
  | 7 => ("FaceSenate$Trial", "lit", "[I", true)
  | 8 => ("FaceSenate$Trial", "litSteps", "[I", true)
  | 9 => ("FaceSenate$Trial", "litWorths", "[I", true)
  | _ => ("FaceSenate$Trial", "plan", "LFaceSenate$Plan;", false)
def tyX8 : Nat → FieldType := fun k => match k with
  | 0 => .object "FaceSenate$Sitting"
  | 1 => .array .int
  | 2 => .array .int
  | 3 => .array .int
  | 4 => .array .int
  | 5 => .array .int
  | 6 => .array .int
  | 7 => .array .int
  | 8 => .array .int
  | 9 => .array .int
  | _ => .object "FaceSenate$Plan"
abbrev wsX80 : List Cond := u_ws RX8 TX8 11
theorem nmX8 : ∀ a, a < 11 → ∀ b, b < 11 → a ≠ b → (TX8 a).2.1 ≠ (TX8 b).2.1 := by decide +kernel
theorem tyX8_ok : ∀ k, k < 11 → parseFieldDescriptor (TX8 k).2.2.1 = some (tyX8 k) := by decide +kernel
abbrev cX8_init : ByteArray := prog_10_method_1_code
def yX8_init : MethodName := ⟨RX8, "<init>", "()V"⟩
abbrev cX8_begin : ByteArray := prog_10_method_2_code
def yX8_begin : MethodName := ⟨RX8, "begin", "(LFaceSenate$Plan;LFaceSenate$Sitting;)V"⟩
abbrev cX8_arrange : ByteArray := prog_10_method_3_code
def yX8_arrange : MethodName := ⟨RX8, "arrange", "()V"⟩
abbrev cX8_areBeside : ByteArray := prog_10_method_4_code
def yX8_areBeside : MethodName := ⟨RX8, "areBeside", "(II)Z"⟩
abbrev cX8_besideOf : ByteArray := prog_10_method_5_code
def yX8_besideOf : MethodName := ⟨RX8, "besideOf", "(I)I"⟩
abbrev cX8_besideAny : ByteArray := prog_10_method_6_code
def yX8_besideAny : MethodName := ⟨RX8, "besideAny", "(I)I"⟩
abbrev cX8_passAll : ByteArray := prog_10_method_7_code
def yX8_passAll : MethodName := ⟨RX8, "passAll", "(I)V"⟩
abbrev cX8_pass : ByteArray := prog_10_method_8_code
def yX8_pass : MethodName := ⟨RX8, "pass", "()I"⟩
abbrev cX8_nextFace : ByteArray := prog_10_method_9_code
def yX8_nextFace : MethodName := ⟨RX8, "nextFace", "(LFaceSenate$Plan;I)I"⟩
abbrev cX8_wince : ByteArray := prog_10_method_10_code
def yX8_wince : MethodName := ⟨RX8, "wince", "()I"⟩
abbrev cX8_brightAt : ByteArray := prog_10_method_11_code
def yX8_brightAt : MethodName := ⟨RX8, "brightAt", "(II)I"⟩
abbrev cX8_forgetLight : ByteArray := prog_10_method_12_code
def yX8_forgetLight : MethodName := ⟨RX8, "forgetLight", "()V"⟩
abbrev cX8_allAlike : ByteArray := prog_10_method_13_code
def yX8_allAlike : MethodName := ⟨RX8, "allAlike", "()Z"⟩
abbrev cX8_keepFaces : ByteArray := prog_10_method_14_code
def yX8_keepFaces : MethodName := ⟨RX8, "keepFaces", "(I)V"⟩
abbrev cX8_takeKept : ByteArray := prog_10_method_15_code
def yX8_takeKept : MethodName := ⟨RX8, "takeKept", "(I)V"⟩
abbrev cX8_unlikeKept : ByteArray := prog_10_method_16_code
def yX8_unlikeKept : MethodName := ⟨RX8, "unlikeKept", "(I)I"⟩
def RX9 : String := "FaceSenate"
def TX9 : u_T := fun k => match k with
  | 0 => ("FaceSenate", "reader", "LFaceSenate$Reader;", true)
  | 1 => ("FaceSenate", "plan", "LFaceSenate$Plan;", false)
  | 2 => ("FaceSenate", "now", "LFaceSenate$Sitting;", true)
  | 3 => ("FaceSenate", "trial", "LFaceSenate$Trial;", true)
  | 4 => ("FaceSenate", "acts", "LFaceSenate$Acts;", true)
  | 5 => ("FaceSenate", "boxes", "LFaceSenate$Shelf;", true)
  | 6 => ("FaceSenate", "told", "LFaceSenate$Looks;", true)
  | 7 => ("FaceSenate", "lying", "[I", true)
  | 8 => ("FaceSenate", "rings", "[I", true)
  | 9 => ("FaceSenate", "tally", "[I", true)
  | 10 => ("FaceSenate", "asked", "[I", true)
  | 11 => ("FaceSenate", "lyingCount", "I", false)
  | 12 => ("FaceSenate", "time", "I", false)
  | 13 => ("FaceSenate", "faultNumber", "I", false)
  | 14 => ("FaceSenate", "faultPlace", "I", false)
  | _ => ("FaceSenate", "opening", "I", false)
def tyX9 : Nat → FieldType := fun k => match k with
  | 0 => .object "FaceSenate$Reader"
  | 1 => .object "FaceSenate$Plan"
  | 2 => .object "FaceSenate$Sitting"
  | 3 => .object "FaceSenate$Trial"
  | 4 => .object "FaceSenate$Acts"
  | 5 => .object "FaceSenate$Shelf"
  | 6 => .object "FaceSenate$Looks"
  | 7 => .array .int
  | 8 => .array .int
  | 9 => .array .int
  | 10 => .array .int
  | 11 => .int
  | 12 => .int
  | 13 => .int
  | 14 => .int
  | _ => .int
abbrev wsX90 : List Cond := u_ws RX9 TX9 16
theorem nmX9 : ∀ a, a < 16 → ∀ b, b < 16 → a ≠ b → (TX9 a).2.1 ≠ (TX9 b).2.1 := by decide +kernel
theorem tyX9_ok : ∀ k, k < 16 → parseFieldDescriptor (TX9 k).2.2.1 = some (tyX9 k) := by decide +kernel
abbrev cX9_init : ByteArray := prog_1_method_1_code
def yX9_init : MethodName := ⟨RX9, "<init>", "()V"⟩
abbrev cX9_feed : ByteArray := prog_1_method_2_code
def yX9_feed : MethodName := ⟨RX9, "feed", "(IIIII)I"⟩
abbrev cX9_end : ByteArray := prog_1_method_3_code
def yX9_end : MethodName := ⟨RX9, "end", "(I)I"⟩
abbrev cX9_senate : ByteArray := prog_1_method_4_code
def yX9_senate : MethodName := ⟨RX9, "senate", "()I"⟩
abbrev cX9_fault : ByteArray := prog_1_method_5_code
def yX9_fault : MethodName := ⟨RX9, "fault", "(I)I"⟩
abbrev cX9_member : ByteArray := prog_1_method_6_code
def yX9_member : MethodName := ⟨RX9, "member", "(II)I"⟩
abbrev cX9_district : ByteArray := prog_1_method_7_code
def yX9_district : MethodName := ⟨RX9, "district", "(II)I"⟩
abbrev cX9_seat : ByteArray := prog_1_method_8_code
def yX9_seat : MethodName := ⟨RX9, "seat", "(II)I"⟩
abbrev cX9_report : ByteArray := prog_1_method_9_code
def yX9_report : MethodName := ⟨RX9, "report", "()I"⟩
abbrev cX9_off : ByteArray := prog_1_method_10_code
def yX9_off : MethodName := ⟨RX9, "off", "()I"⟩
abbrev cX9_step : ByteArray := prog_1_method_11_code
def yX9_step : MethodName := ⟨RX9, "step", "()I"⟩
abbrev cX9_news : ByteArray := prog_1_method_12_code
def yX9_news : MethodName := ⟨RX9, "news", "(I)I"⟩
abbrev cX9_sit : ByteArray := prog_1_method_13_code
def yX9_sit : MethodName := ⟨RX9, "sit", "(II)I"⟩
abbrev cX9_change : ByteArray := prog_1_method_14_code
def yX9_change : MethodName := ⟨RX9, "change", "(II)Z"⟩
abbrev cX9_unseat : ByteArray := prog_1_method_15_code
def yX9_unseat : MethodName := ⟨RX9, "unseat", "(I)I"⟩
abbrev cX9_undo : ByteArray := prog_1_method_16_code
def yX9_undo : MethodName := ⟨RX9, "undo", "()Z"⟩
abbrev cX9_redo : ByteArray := prog_1_method_17_code
def yX9_redo : MethodName := ⟨RX9, "redo", "()Z"⟩
abbrev cX9_stand : ByteArray := prog_1_method_18_code
def yX9_stand : MethodName := ⟨RX9, "stand", "(II)I"⟩
abbrev cX9_sample : ByteArray := prog_1_method_19_code
def yX9_sample : MethodName := ⟨RX9, "sample", "(II)I"⟩
abbrev cX9_samples : ByteArray := prog_1_method_20_code
def yX9_samples : MethodName := ⟨RX9, "samples", "(I)I"⟩
abbrev cX9_sampleOff : ByteArray := prog_1_method_21_code
def yX9_sampleOff : MethodName := ⟨RX9, "sampleOff", "(II)I"⟩
abbrev cX9_chain : ByteArray := prog_1_method_22_code
def yX9_chain : MethodName := ⟨RX9, "chain", "(II)I"⟩
abbrev cX9_ringOf : ByteArray := prog_1_method_23_code
def yX9_ringOf : MethodName := ⟨RX9, "ringOf", "(II)I"⟩
abbrev cX9_layDown : ByteArray := prog_1_method_24_code
def yX9_layDown : MethodName := ⟨RX9, "layDown", "(I)V"⟩
abbrev cX9_firstOf : ByteArray := prog_1_method_25_code
def yX9_firstOf : MethodName := ⟨RX9, "firstOf", "(I)I"⟩
abbrev cX9_groups : ByteArray := prog_1_method_26_code
def yX9_groups : MethodName := ⟨RX9, "groups", "()I"⟩
abbrev cX9_groupOf : ByteArray := prog_1_method_27_code
def yX9_groupOf : MethodName := ⟨RX9, "groupOf", "(I)I"⟩
abbrev cX9_place : ByteArray := prog_1_method_28_code
def yX9_place : MethodName := ⟨RX9, "place", "(II)I"⟩
abbrev cX9_reportSeated : ByteArray := prog_1_method_29_code
def yX9_reportSeated : MethodName := ⟨RX9, "reportSeated", "(II)I"⟩
abbrev cX9_move : ByteArray := prog_1_method_30_code
def yX9_move : MethodName := ⟨RX9, "move", "(I)I"⟩
abbrev cX9_reportChanged : ByteArray := prog_1_method_31_code
def yX9_reportChanged : MethodName := ⟨RX9, "reportChanged", "(II)I"⟩
abbrev cX9_brightest : ByteArray := prog_1_method_32_code
def yX9_brightest : MethodName := ⟨RX9, "brightest", "()I"⟩
abbrev cX9_settled : ByteArray := prog_1_method_33_code
def yX9_settled : MethodName := ⟨RX9, "settled", "()I"⟩
abbrev cX9_will : ByteArray := prog_1_method_34_code
def yX9_will : MethodName := ⟨RX9, "will", "(II)I"⟩
abbrev cX9_ahead : ByteArray := prog_1_method_35_code
def yX9_ahead : MethodName := ⟨RX9, "ahead", "(I)I"⟩
abbrev cX9_alike : ByteArray := prog_1_method_36_code
def yX9_alike : MethodName := ⟨RX9, "alike", "()I"⟩
abbrev cX9_unrest : ByteArray := prog_1_method_37_code
def yX9_unrest : MethodName := ⟨RX9, "unrest", "(I)I"⟩
abbrev cX9_sways : ByteArray := prog_1_method_38_code
def yX9_sways : MethodName := ⟨RX9, "sways", "(III)I"⟩
abbrev cX9_moved : ByteArray := prog_1_method_39_code
def yX9_moved : MethodName := ⟨RX9, "moved", "(I)I"⟩
abbrev cX9_key : ByteArray := prog_1_method_40_code
def yX9_key : MethodName := ⟨RX9, "key", "()I"⟩
abbrev cX9_parties : ByteArray := prog_1_method_41_code
def yX9_parties : MethodName := ⟨RX9, "parties", "(II)I"⟩
abbrev cX9_turn : ByteArray := prog_1_method_42_code
def yX9_turn : MethodName := ⟨RX9, "turn", "(IIII)I"⟩
abbrev cX9_least : ByteArray := prog_1_method_43_code
def yX9_least : MethodName := ⟨RX9, "least", "(II)I"⟩
abbrev cX9_best : ByteArray := prog_1_method_44_code
def yX9_best : MethodName := ⟨RX9, "best", "(I)I"⟩
abbrev cX9_goOnWith : ByteArray := prog_1_method_45_code
def yX9_goOnWith : MethodName := ⟨RX9, "goOnWith", "(II)V"⟩
abbrev cX9_odds : ByteArray := prog_1_method_46_code
def yX9_odds : MethodName := ⟨RX9, "odds", "(II)I"⟩
abbrev cX9_commonDivisor : ByteArray := prog_1_method_47_code
def yX9_commonDivisor : MethodName := ⟨RX9, "commonDivisor", "(II)I"⟩
abbrev cX9_power : ByteArray := prog_1_method_48_code
def yX9_power : MethodName := ⟨RX9, "power", "(II)I"⟩
abbrev cX9_lies : ByteArray := prog_1_method_49_code
def yX9_lies : MethodName := ⟨RX9, "lies", "(I)I"⟩
abbrev cX9_looks : ByteArray := prog_1_method_50_code
def yX9_looks : MethodName := ⟨RX9, "looks", "(IIIZ)I"⟩
abbrev cX9_untell : ByteArray := prog_1_method_51_code
def yX9_untell : MethodName := ⟨RX9, "untell", "(I)Z"⟩
abbrev cX9_later : ByteArray := prog_1_method_52_code
def yX9_later : MethodName := ⟨RX9, "later", "(I)I"⟩
abbrev cX9_fits : ByteArray := prog_1_method_53_code
def yX9_fits : MethodName := ⟨RX9, "fits", "(I)I"⟩
abbrev cX9_fittingNews : ByteArray := prog_1_method_54_code
def yX9_fittingNews : MethodName := ⟨RX9, "fittingNews", "(I)I"⟩
abbrev cX9_allAreSo : ByteArray := prog_1_method_55_code
def yX9_allAreSo : MethodName := ⟨RX9, "allAreSo", "(III)Z"⟩
abbrev cX9_ask : ByteArray := prog_1_method_56_code
def yX9_ask : MethodName := ⟨RX9, "ask", "(III)I"⟩
abbrev cX9_facesThen : ByteArray := prog_1_method_57_code
def yX9_facesThen : MethodName := ⟨RX9, "facesThen", "(II)V"⟩
abbrev cX9_mostLeft : ByteArray := prog_1_method_58_code
def yX9_mostLeft : MethodName := ⟨RX9, "mostLeft", "(II)I"⟩
abbrev cX9_image : ByteArray := prog_1_method_59_code
def yX9_image : MethodName := ⟨RX9, "image", "(I)I"⟩
abbrev cX9_back : ByteArray := prog_1_method_60_code
def yX9_back : MethodName := ⟨RX9, "back", "(I)I"⟩
abbrev cX9_about : ByteArray := prog_1_method_61_code
def yX9_about : MethodName := ⟨RX9, "about", "(I)I"⟩
abbrev cX9_isMember : ByteArray := prog_1_method_62_code
def yX9_isMember : MethodName := ⟨RX9, "isMember", "(I)Z"⟩
abbrev cX9_isSeated : ByteArray := prog_1_method_63_code
def yX9_isSeated : MethodName := ⟨RX9, "isSeated", "(I)Z"⟩
abbrev cX9_isSeat : ByteArray := prog_1_method_64_code
def yX9_isSeat : MethodName := ⟨RX9, "isSeat", "(I)Z"⟩
abbrev cX9_canChange : ByteArray := prog_1_method_65_code
def yX9_canChange : MethodName := ⟨RX9, "canChange", "(II)Z"⟩
abbrev cX9_isPart : ByteArray := prog_1_method_66_code
def yX9_isPart : MethodName := ⟨RX9, "isPart", "(I)Z"⟩
abbrev cX9_isWithin : ByteArray := prog_1_method_67_code
def yX9_isWithin : MethodName := ⟨RX9, "isWithin", "(II)Z"⟩
abbrev cX9_within : ByteArray := prog_1_method_68_code
def yX9_within : MethodName := ⟨RX9, "within", "(II)I"⟩
def RX10 : String := "FaceSenateModel"
def TX10 : u_T := fun k => match k with
  | 0 => ("FaceSenateModel", "tape", "[B", true)
  | 1 => ("FaceSenateModel", "text", "[B", true)
  | 2 => ("FaceSenateModel", "taped", "I", false)
  | 3 => ("FaceSenateModel", "size", "I", false)
  | 4 => ("FaceSenateModel", "faultKind", "I", false)
  | 5 => ("FaceSenateModel", "faultPlace", "I", false)
  | 6 => ("FaceSenateModel", "at", "I", false)
  | 7 => ("FaceSenateModel", "end", "I", false)
  | 8 => ("FaceSenateModel", "token", "I", false)
  | 9 => ("FaceSenateModel", "number", "I", false)
  | 10 => ("FaceSenateModel", "name", "J", false)
  | 11 => ("FaceSenateModel", "columns", "[I", true)
  | 12 => ("FaceSenateModel", "rows", "[I", true)
  | 13 => ("FaceSenateModel", "lines", "[I", true)
  | 14 => ("FaceSenateModel", "districts", "[I", true)
  | 15 => ("FaceSenateModel", "members", "[I", true)
  | 16 => ("FaceSenateModel", "units", "[I", true)
  | 17 => ("FaceSenateModel", "tooth", "[I", true)
  | 18 => ("FaceSenateModel", "ache", "[I", true)
  | 19 => ("FaceSenateModel", "draw", "[I", true)
  | 20 => ("FaceSenateModel", "mood", "[I", true)
  | 21 => ("FaceSenateModel", "ofDistrict", "[I", true)
  | 22 => ("FaceSenateModel", "faceTold", "[I", true)
  | 23 => ("FaceSenateModel", "stoic", "[I", true)
  | 24 => ("FaceSenateModel", "seatTold", "[I", true)
  | 25 => ("FaceSenateModel", "ruleFrom", "[I", true)
  | 26 => ("FaceSenateModel", "ruleTo", "[I", true)
  | 27 => ("FaceSenateModel", "hasLook", "[Z", true)
  | 28 => ("FaceSenateModel", "hasTooth", "[Z", true)
  | 29 => ("FaceSenateModel", "isDraw", "[Z", true)
  | 30 => ("FaceSenateModel", "dName", "[J", true)
  | 31 => ("FaceSenateModel", "mName", "[J", true)
  | 32 => ("FaceSenateModel", "code", "[I", true)
  | 33 => ("FaceSenateModel", "codeNumber", "[I", true)
  | 34 => ("FaceSenateModel", "eWhat", "[I", true)
  | 35 => ("FaceSenateModel", "eSign", "[I", true)
  | 36 => ("FaceSenateModel", "pile", "[I", true)
  | 37 => ("FaceSenateModel", "bank", "I", false)
  | 38 => ("FaceSenateModel", "rb", "I", false)
  | 39 => ("FaceSenateModel", "codes", "I", false)
  | 40 => ("FaceSenateModel", "within", "I", false)
  | 41 => ("FaceSenateModel", "piled", "I", false)
  | 42 => ("FaceSenateModel", "unitsInRule", "I", false)
  | 43 => ("FaceSenateModel", "askFace", "I", false)
  | 44 => ("FaceSenateModel", "askNear", "I", false)
  | 45 => ("FaceSenateModel", "askBeside", "I", false)
  | 46 => ("FaceSenateModel", "askBright", "I", false)
  | 47 => ("FaceSenateModel", "askStoic", "I", false)
  | 48 => ("FaceSenateModel", "askNews", "I", false)
  | 49 => ("FaceSenateModel", "askSeat", "I", false)
  | 50 => ("FaceSenateModel", "all", "[I", true)
  | 51 => ("FaceSenateModel", "faces", "[I", true)
  | 52 => ("FaceSenateModel", "was", "[I", true)
  | 53 => ("FaceSenateModel", "acts", "I", false)
  | 54 => ("FaceSenateModel", "undone", "I", false)
  | 55 => ("FaceSenateModel", "far", "[I", true)
  | 56 => ("FaceSenateModel", "laidRow", "[I", true)
  | 57 => ("FaceSenateModel", "laid", "I", false)
  | 58 => ("FaceSenateModel", "kept", "[I", true)
  | 59 => ("FaceSenateModel", "faceThen", "[I", true)
  | 60 => ("FaceSenateModel", "faceElse", "[I", true)
  | 61 => ("FaceSenateModel", "byTurns", "[I", true)
  | 62 => ("FaceSenateModel", "sSteps", "[I", true)
  | 63 => ("FaceSenateModel", "sMember", "[I", true)
  | 64 => ("FaceSenateModel", "sFace", "[I", true)
  | 65 => ("FaceSenateModel", "sIs", "[I", true)
  | 66 => ("FaceSenateModel", "sTold", "[I", true)
  | 67 => ("FaceSenateModel", "sUntold", "[I", true)
  | 68 => ("FaceSenateModel", "parts", "[I", true)
  | 69 => ("FaceSenateModel", "looked", "I", false)
  | 70 => ("FaceSenateModel", "time", "I", false)
  | 71 => ("FaceSenateModel", "boxAll", "[I", true)
  | _ => ("FaceSenateModel", "isBoxed", "[Z", true)
def tyX10 : Nat → FieldType := fun k => match k with
  | 0 => .array .byte
  | 1 => .array .byte
  | 2 => .int
  | 3 => .int
  | 4 => .int
  | 5 => .int
  | 6 => .int
  | 7 => .int
  | 8 => .int
  | 9 => .int
  | 10 => .long
  | 11 => .array .int
  | 12 => .array .int
  | 13 => .array .int
  | 14 => .array .int
  | 15 => .array .int
  | 16 => .array .int
  | 17 => .array .int
  | 18 => .array .int
  | 19 => .array .int
  | 20 => .array .int
  | 21 => .array .int
  | 22 => .array .int
  | 23 => .array .int
  | 24 => .array .int
  | 25 => .array .int
  | 26 => .array .int
  | 27 => .array .boolean
  | 28 => .array .boolean
  | 29 => .array .boolean
  | 30 => .array .long
  | 31 => .array .long
  | 32 => .array .int
  | 33 => .array .int
  | 34 => .array .int
  | 35 => .array .int
  | 36 => .array .int
  | 37 => .int
  | 38 => .int
  | 39 => .int
  | 40 => .int
  | 41 => .int
  | 42 => .int
  | 43 => .int
  | 44 => .int
  | 45 => .int
  | 46 => .int
  | 47 => .int
  | 48 => .int
  | 49 => .int
  | 50 => .array .int
  | 51 => .array .int
  | 52 => .array .int
  | 53 => .int
  | 54 => .int
  | 55 => .array .int
  | 56 => .array .int
  | 57 => .int
  | 58 => .array .int
  | 59 => .array .int
  | 60 => .array .int
  | 61 => .array .int
  | 62 => .array .int
  | 63 => .array .int
  | 64 => .array .int
  | 65 => .array .int
  | 66 => .array .int
  | 67 => .array .int
  | 68 => .array .int
  | 69 => .int
  | 70 => .int
  | 71 => .array .int
  | _ => .array .boolean
abbrev wsX100 : List Cond := u_ws RX10 TX10 73
theorem nmX10 : ∀ a, a < 73 → ∀ b, b < 73 → a ≠ b → (TX10 a).2.1 ≠ (TX10 b).2.1 := by decide +kernel
theorem tyX10_ok : ∀ k, k < 73 → parseFieldDescriptor (TX10 k).2.2.1 = some (tyX10 k) := by decide +kernel
abbrev cX10_init : ByteArray := prog_12_method_1_code
def yX10_init : MethodName := ⟨RX10, "<init>", "()V"⟩
abbrev cX10_sign : ByteArray := prog_12_method_2_code
def yX10_sign : MethodName := ⟨RX10, "sign", "(I)I"⟩
abbrev cX10_isLetter : ByteArray := prog_12_method_3_code
def yX10_isLetter : MethodName := ⟨RX10, "isLetter", "(I)Z"⟩
abbrev cX10_isDigit : ByteArray := prog_12_method_4_code
def yX10_isDigit : MethodName := ⟨RX10, "isDigit", "(I)Z"⟩
abbrev cX10_fails : ByteArray := prog_12_method_5_code
def yX10_fails : MethodName := ⟨RX10, "fails", "(II)V"⟩
abbrev cX10_isGood : ByteArray := prog_12_method_6_code
def yX10_isGood : MethodName := ⟨RX10, "isGood", "()Z"⟩
abbrev cX10_isKept : ByteArray := prog_12_method_7_code
def yX10_isKept : MethodName := ⟨RX10, "isKept", "(J)Z"⟩
abbrev cX10_isSign : ByteArray := prog_12_method_8_code
def yX10_isSign : MethodName := ⟨RX10, "isSign", "(I)Z"⟩
abbrev cX10_goOn : ByteArray := prog_12_method_9_code
def yX10_goOn : MethodName := ⟨RX10, "goOn", "()V"⟩
abbrev cX10_isSignHere : ByteArray := prog_12_method_10_code
def yX10_isSignHere : MethodName := ⟨RX10, "isSignHere", "(I)Z"⟩
abbrev cX10_isWord : ByteArray := prog_12_method_11_code
def yX10_isWord : MethodName := ⟨RX10, "isWord", "(J)Z"⟩
abbrev cX10_misplaced : ByteArray := prog_12_method_12_code
def yX10_misplaced : MethodName := ⟨RX10, "misplaced", "()V"⟩
abbrev cX10_must : ByteArray := prog_12_method_13_code
def yX10_must : MethodName := ⟨RX10, "must", "(Z)V"⟩
abbrev cX10_numeral : ByteArray := prog_12_method_14_code
def yX10_numeral : MethodName := ⟨RX10, "numeral", "(II)I"⟩
abbrev cX10_after : ByteArray := prog_12_method_15_code
def yX10_after : MethodName := ⟨RX10, "after", "(JII)I"⟩
abbrev cX10_clearBank : ByteArray := prog_12_method_16_code
def yX10_clearBank : MethodName := ⟨RX10, "clearBank", "()V"⟩
abbrev cX10_senate : ByteArray := prog_12_method_17_code
def yX10_senate : MethodName := ⟨RX10, "senate", "()I"⟩
abbrev cX10_isFull : ByteArray := prog_12_method_18_code
def yX10_isFull : MethodName := ⟨RX10, "isFull", "()Z"⟩
abbrev cX10_readLine : ByteArray := prog_12_method_19_code
def yX10_readLine : MethodName := ⟨RX10, "readLine", "()V"⟩
abbrev cX10_here : ByteArray := prog_12_method_20_code
def yX10_here : MethodName := ⟨RX10, "here", "([JII)I"⟩
abbrev cX10_districtHere : ByteArray := prog_12_method_21_code
def yX10_districtHere : MethodName := ⟨RX10, "districtHere", "()I"⟩
abbrev cX10_fresh : ByteArray := prog_12_method_22_code
def yX10_fresh : MethodName := ⟨RX10, "fresh", "(I)J"⟩
abbrev cX10_known : ByteArray := prog_12_method_23_code
def yX10_known : MethodName := ⟨RX10, "known", "(I)I"⟩
abbrev cX10_passes : ByteArray := prog_12_method_24_code
def yX10_passes : MethodName := ⟨RX10, "passes", "(J)Z"⟩
abbrev cX10_readDistrict : ByteArray := prog_12_method_25_code
def yX10_readDistrict : MethodName := ⟨RX10, "readDistrict", "()V"⟩
abbrev cX10_readSeat : ByteArray := prog_12_method_26_code
def yX10_readSeat : MethodName := ⟨RX10, "readSeat", "()I"⟩
abbrev cX10_readMember : ByteArray := prog_12_method_27_code
def yX10_readMember : MethodName := ⟨RX10, "readMember", "()V"⟩
abbrev cX10_readRule : ByteArray := prog_12_method_28_code
def yX10_readRule : MethodName := ⟨RX10, "readRule", "(I)V"⟩
abbrev cX10_emit : ByteArray := prog_12_method_29_code
def yX10_emit : MethodName := ⟨RX10, "emit", "(II)V"⟩
abbrev cX10_pushE : ByteArray := prog_12_method_30_code
def yX10_pushE : MethodName := ⟨RX10, "pushE", "(II)V"⟩
abbrev cX10_e : ByteArray := prog_12_method_31_code
def yX10_e : MethodName := ⟨RX10, "e", "()V"⟩
abbrev cX10_wordHere : ByteArray := prog_12_method_32_code
def yX10_wordHere : MethodName := ⟨RX10, "wordHere", "()I"⟩
abbrev cX10_unit : ByteArray := prog_12_method_33_code
def yX10_unit : MethodName := ⟨RX10, "unit", "()Z"⟩
abbrev cX10_rankHere : ByteArray := prog_12_method_34_code
def yX10_rankHere : MethodName := ⟨RX10, "rankHere", "()I"⟩
abbrev cX10_isCompared : ByteArray := prog_12_method_35_code
def yX10_isCompared : MethodName := ⟨RX10, "isCompared", "()Z"⟩
abbrev cX10_behindUnit : ByteArray := prog_12_method_36_code
def yX10_behindUnit : MethodName := ⟨RX10, "behindUnit", "()Z"⟩
abbrev cX10_two : ByteArray := prog_12_method_37_code
def yX10_two : MethodName := ⟨RX10, "two", "(III)I"⟩
abbrev cX10_asked : ByteArray := prog_12_method_38_code
def yX10_asked : MethodName := ⟨RX10, "asked", "(II)I"⟩
abbrev cX10_comes : ByteArray := prog_12_method_39_code
def yX10_comes : MethodName := ⟨RX10, "comes", "(I)I"⟩
abbrev cX10_fault : ByteArray := prog_12_method_40_code
def yX10_fault : MethodName := ⟨RX10, "fault", "(I)I"⟩
abbrev cX10_isIn : ByteArray := prog_12_method_41_code
def yX10_isIn : MethodName := ⟨RX10, "isIn", "(III)Z"⟩
abbrev cX10_has : ByteArray := prog_12_method_42_code
def yX10_has : MethodName := ⟨RX10, "has", "(II)Z"⟩
abbrev cX10_bitsOf : ByteArray := prog_12_method_43_code
def yX10_bitsOf : MethodName := ⟨RX10, "bitsOf", "(I)I"⟩
abbrev cX10_plain : ByteArray := prog_12_method_44_code
def yX10_plain : MethodName := ⟨RX10, "plain", "(I)I"⟩
abbrev cX10_divisor : ByteArray := prog_12_method_45_code
def yX10_divisor : MethodName := ⟨RX10, "divisor", "(II)I"⟩
abbrev cX10_power : ByteArray := prog_12_method_46_code
def yX10_power : MethodName := ⟨RX10, "power", "(II)I"⟩
abbrev cX10_many : ByteArray := prog_12_method_47_code
def yX10_many : MethodName := ⟨RX10, "many", "()I"⟩
abbrev cX10_seats : ByteArray := prog_12_method_48_code
def yX10_seats : MethodName := ⟨RX10, "seats", "()I"⟩
abbrev cX10_isMember : ByteArray := prog_12_method_49_code
def yX10_isMember : MethodName := ⟨RX10, "isMember", "(I)Z"⟩
abbrev cX10_isSeat : ByteArray := prog_12_method_50_code
def yX10_isSeat : MethodName := ⟨RX10, "isSeat", "(I)Z"⟩
abbrev cX10_isFace : ByteArray := prog_12_method_51_code
def yX10_isFace : MethodName := ⟨RX10, "isFace", "(I)Z"⟩
abbrev cX10_startAnew : ByteArray := prog_12_method_52_code
def yX10_startAnew : MethodName := ⟨RX10, "startAnew", "()V"⟩
abbrev cX10_whoSits : ByteArray := prog_12_method_53_code
def yX10_whoSits : MethodName := ⟨RX10, "whoSits", "(I)I"⟩
abbrev cX10_areBeside : ByteArray := prog_12_method_54_code
def yX10_areBeside : MethodName := ⟨RX10, "areBeside", "(II)Z"⟩
abbrev cX10_beside : ByteArray := prog_12_method_55_code
def yX10_beside : MethodName := ⟨RX10, "beside", "(I)I"⟩
abbrev cX10_facesOf : ByteArray := prog_12_method_56_code
def yX10_facesOf : MethodName := ⟨RX10, "facesOf", "(I)I"⟩
abbrev cX10_everybody : ByteArray := prog_12_method_57_code
def yX10_everybody : MethodName := ⟨RX10, "everybody", "()I"⟩
abbrev cX10_brightAt : ByteArray := prog_12_method_58_code
def yX10_brightAt : MethodName := ⟨RX10, "brightAt", "(I)I"⟩
abbrev cX10_lookOf : ByteArray := prog_12_method_59_code
def yX10_lookOf : MethodName := ⟨RX10, "lookOf", "(I)I"⟩
abbrev cX10_goStep : ByteArray := prog_12_method_60_code
def yX10_goStep : MethodName := ⟨RX10, "goStep", "()I"⟩
abbrev cX10_goInEarnest : ByteArray := prog_12_method_61_code
def yX10_goInEarnest : MethodName := ⟨RX10, "goInEarnest", "()I"⟩
abbrev cX10_member : ByteArray := prog_12_method_62_code
def yX10_member : MethodName := ⟨RX10, "member", "(II)I"⟩
abbrev cX10_membersOf : ByteArray := prog_12_method_63_code
def yX10_membersOf : MethodName := ⟨RX10, "membersOf", "(I)I"⟩
abbrev cX10_offOf : ByteArray := prog_12_method_64_code
def yX10_offOf : MethodName := ⟨RX10, "offOf", "(I)I"⟩
abbrev cX10_allOff : ByteArray := prog_12_method_65_code
def yX10_allOff : MethodName := ⟨RX10, "allOff", "()I"⟩
abbrev cX10_district : ByteArray := prog_12_method_66_code
def yX10_district : MethodName := ⟨RX10, "district", "(II)I"⟩
abbrev cX10_seat : ByteArray := prog_12_method_67_code
def yX10_seat : MethodName := ⟨RX10, "seat", "(II)I"⟩
abbrev cX10_reportNow : ByteArray := prog_12_method_68_code
def yX10_reportNow : MethodName := ⟨RX10, "reportNow", "()I"⟩
abbrev cX10_report : ByteArray := prog_12_method_69_code
def yX10_report : MethodName := ⟨RX10, "report", "()I"⟩
abbrev cX10_off : ByteArray := prog_12_method_70_code
def yX10_off : MethodName := ⟨RX10, "off", "()I"⟩
abbrev cX10_brightest : ByteArray := prog_12_method_71_code
def yX10_brightest : MethodName := ⟨RX10, "brightest", "()I"⟩
abbrev cX10_keepAct : ByteArray := prog_12_method_72_code
def yX10_keepAct : MethodName := ⟨RX10, "keepAct", "()V"⟩
abbrev cX10_exchange : ByteArray := prog_12_method_73_code
def yX10_exchange : MethodName := ⟨RX10, "exchange", "()V"⟩
abbrev cX10_step : ByteArray := prog_12_method_74_code
def yX10_step : MethodName := ⟨RX10, "step", "()I"⟩
abbrev cX10_news : ByteArray := prog_12_method_75_code
def yX10_news : MethodName := ⟨RX10, "news", "(I)I"⟩
abbrev cX10_sit : ByteArray := prog_12_method_76_code
def yX10_sit : MethodName := ⟨RX10, "sit", "(II)I"⟩
abbrev cX10_canChange : ByteArray := prog_12_method_77_code
def yX10_canChange : MethodName := ⟨RX10, "canChange", "(II)Z"⟩
abbrev cX10_changeBoth : ByteArray := prog_12_method_78_code
def yX10_changeBoth : MethodName := ⟨RX10, "changeBoth", "(II)V"⟩
abbrev cX10_change : ByteArray := prog_12_method_79_code
def yX10_change : MethodName := ⟨RX10, "change", "(II)Z"⟩
abbrev cX10_unseat : ByteArray := prog_12_method_80_code
def yX10_unseat : MethodName := ⟨RX10, "unseat", "(I)I"⟩
abbrev cX10_undo : ByteArray := prog_12_method_81_code
def yX10_undo : MethodName := ⟨RX10, "undo", "()Z"⟩
abbrev cX10_redo : ByteArray := prog_12_method_82_code
def yX10_redo : MethodName := ⟨RX10, "redo", "()Z"⟩
abbrev cX10_offWith : ByteArray := prog_12_method_83_code
def yX10_offWith : MethodName := ⟨RX10, "offWith", "(II)I"⟩
abbrev cX10_stand : ByteArray := prog_12_method_84_code
def yX10_stand : MethodName := ⟨RX10, "stand", "(II)I"⟩
abbrev cX10_awayOf : ByteArray := prog_12_method_85_code
def yX10_awayOf : MethodName := ⟨RX10, "awayOf", "(I)I"⟩
abbrev cX10_sample : ByteArray := prog_12_method_86_code
def yX10_sample : MethodName := ⟨RX10, "sample", "(II)I"⟩
abbrev cX10_samples : ByteArray := prog_12_method_87_code
def yX10_samples : MethodName := ⟨RX10, "samples", "(I)I"⟩
abbrev cX10_lies : ByteArray := prog_12_method_88_code
def yX10_lies : MethodName := ⟨RX10, "lies", "(I)I"⟩
abbrev cX10_layFar : ByteArray := prog_12_method_89_code
def yX10_layFar : MethodName := ⟨RX10, "layFar", "(I)V"⟩
abbrev cX10_chain : ByteArray := prog_12_method_90_code
def yX10_chain : MethodName := ⟨RX10, "chain", "(II)I"⟩
abbrev cX10_groups : ByteArray := prog_12_method_91_code
def yX10_groups : MethodName := ⟨RX10, "groups", "()I"⟩
abbrev cX10_keepNow : ByteArray := prog_12_method_92_code
def yX10_keepNow : MethodName := ⟨RX10, "keepNow", "()V"⟩
abbrev cX10_bringBack : ByteArray := prog_12_method_93_code
def yX10_bringBack : MethodName := ⟨RX10, "bringBack", "()V"⟩
abbrev cX10_isAhead : ByteArray := prog_12_method_94_code
def yX10_isAhead : MethodName := ⟨RX10, "isAhead", "(I)Z"⟩
abbrev cX10_reportBehind : ByteArray := prog_12_method_95_code
def yX10_reportBehind : MethodName := ⟨RX10, "reportBehind", "(I)I"⟩
abbrev cX10_ahead : ByteArray := prog_12_method_96_code
def yX10_ahead : MethodName := ⟨RX10, "ahead", "(I)I"⟩
abbrev cX10_reportAt : ByteArray := prog_12_method_97_code
def yX10_reportAt : MethodName := ⟨RX10, "reportAt", "(II)I"⟩
abbrev cX10_place : ByteArray := prog_12_method_98_code
def yX10_place : MethodName := ⟨RX10, "place", "(II)I"⟩
abbrev cX10_move : ByteArray := prog_12_method_99_code
def yX10_move : MethodName := ⟨RX10, "move", "(I)I"⟩
abbrev cX10_settled : ByteArray := prog_12_method_100_code
def yX10_settled : MethodName := ⟨RX10, "settled", "()I"⟩
abbrev cX10_will : ByteArray := prog_12_method_101_code
def yX10_will : MethodName := ⟨RX10, "will", "(II)I"⟩
abbrev cX10_areAlike : ByteArray := prog_12_method_102_code
def yX10_areAlike : MethodName := ⟨RX10, "areAlike", "()Z"⟩
abbrev cX10_alike : ByteArray := prog_12_method_103_code
def yX10_alike : MethodName := ⟨RX10, "alike", "()I"⟩
abbrev cX10_unrest : ByteArray := prog_12_method_104_code
def yX10_unrest : MethodName := ⟨RX10, "unrest", "(I)I"⟩
abbrev cX10_sways : ByteArray := prog_12_method_105_code
def yX10_sways : MethodName := ⟨RX10, "sways", "(III)I"⟩
abbrev cX10_moved : ByteArray := prog_12_method_106_code
def yX10_moved : MethodName := ⟨RX10, "moved", "(I)I"⟩
abbrev cX10_key : ByteArray := prog_12_method_107_code
def yX10_key : MethodName := ⟨RX10, "key", "()I"⟩
abbrev cX10_reportByTurns : ByteArray := prog_12_method_108_code
def yX10_reportByTurns : MethodName := ⟨RX10, "reportByTurns", "(II)I"⟩
abbrev cX10_parties : ByteArray := prog_12_method_109_code
def yX10_parties : MethodName := ⟨RX10, "parties", "(II)I"⟩
abbrev cX10_least : ByteArray := prog_12_method_110_code
def yX10_least : MethodName := ⟨RX10, "least", "(II)I"⟩
abbrev cX10_offBehind : ByteArray := prog_12_method_111_code
def yX10_offBehind : MethodName := ⟨RX10, "offBehind", "(II)I"⟩
abbrev cX10_best : ByteArray := prog_12_method_112_code
def yX10_best : MethodName := ⟨RX10, "best", "(I)I"⟩
abbrev cX10_odds : ByteArray := prog_12_method_113_code
def yX10_odds : MethodName := ⟨RX10, "odds", "(II)I"⟩
abbrev cX10_looks : ByteArray := prog_12_method_114_code
def yX10_looks : MethodName := ⟨RX10, "looks", "(IIIZ)I"⟩
abbrev cX10_untell : ByteArray := prog_12_method_115_code
def yX10_untell : MethodName := ⟨RX10, "untell", "(I)Z"⟩
abbrev cX10_later : ByteArray := prog_12_method_116_code
def yX10_later : MethodName := ⟨RX10, "later", "(I)I"⟩
abbrev cX10_faceBy : ByteArray := prog_12_method_117_code
def yX10_faceBy : MethodName := ⟨RX10, "faceBy", "(III)I"⟩
abbrev cX10_doesFit : ByteArray := prog_12_method_118_code
def yX10_doesFit : MethodName := ⟨RX10, "doesFit", "(II)Z"⟩
abbrev cX10_fits : ByteArray := prog_12_method_119_code
def yX10_fits : MethodName := ⟨RX10, "fits", "(I)I"⟩
abbrev cX10_mostLike : ByteArray := prog_12_method_120_code
def yX10_mostLike : MethodName := ⟨RX10, "mostLike", "(III)I"⟩
abbrev cX10_ask : ByteArray := prog_12_method_121_code
def yX10_ask : MethodName := ⟨RX10, "ask", "(III)I"⟩
abbrev cX10_image : ByteArray := prog_12_method_122_code
def yX10_image : MethodName := ⟨RX10, "image", "(I)I"⟩
abbrev cX10_back : ByteArray := prog_12_method_123_code
def yX10_back : MethodName := ⟨RX10, "back", "(I)I"⟩
abbrev cX10_about : ByteArray := prog_12_method_124_code
def yX10_about : MethodName := ⟨RX10, "about", "(I)I"⟩
abbrev cX10_feed : ByteArray := prog_12_method_125_code
def yX10_feed : MethodName := ⟨RX10, "feed", "(IIIII)I"⟩
abbrev cX10_end : ByteArray := prog_12_method_126_code
def yX10_end : MethodName := ⟨RX10, "end", "(I)I"⟩
def RJx145de : String := "java/io/Serializable"
def TJx145de : u_T := fun k => match k with
  | _ => ("", "", "", false)
def tyJx145de : Nat → FieldType := fun k => match k with
  | _ => .int
abbrev wsJx145de0 : List Cond := u_ws RJx145de TJx145de 0
theorem nmJx145de : ∀ a, a < 0 → ∀ b, b < 0 → a ≠ b → (TJx145de a).2.1 ≠ (TJx145de b).2.1 := by decide +kernel
theorem tyJx145de_ok : ∀ k, k < 0 → parseFieldDescriptor (TJx145de k).2.2.1 = some (tyJx145de k) := by decide +kernel
def RJx9f9b0 : String := "java/lang/CharSequence"
def TJx9f9b0 : u_T := fun k => match k with
  | _ => ("", "", "", false)
def tyJx9f9b0 : Nat → FieldType := fun k => match k with
  | _ => .int
abbrev wsJx9f9b00 : List Cond := u_ws RJx9f9b0 TJx9f9b0 0
theorem nmJx9f9b0 : ∀ a, a < 0 → ∀ b, b < 0 → a ≠ b → (TJx9f9b0 a).2.1 ≠ (TJx9f9b0 b).2.1 := by decide +kernel
theorem tyJx9f9b0_ok : ∀ k, k < 0 → parseFieldDescriptor (TJx9f9b0 k).2.2.1 = some (tyJx9f9b0 k) := by decide +kernel
def RJ11 : String := "java/lang/Character"
def TJ11 : u_T := fun k => match k with
  | _ => ("", "", "", false)
def tyJ11 : Nat → FieldType := fun k => match k with
  | _ => .int
abbrev wsJ110 : List Cond := u_ws RJ11 TJ11 0
theorem nmJ11 : ∀ a, a < 0 → ∀ b, b < 0 → a ≠ b → (TJ11 a).2.1 ≠ (TJ11 b).2.1 := by decide +kernel
theorem tyJ11_ok : ∀ k, k < 0 → parseFieldDescriptor (TJ11 k).2.2.1 = some (tyJ11 k) := by decide +kernel
abbrev cJ11_isValidCodePoint_9a6ad : ByteArray := prog_13_method_11_code
def yJ11_isValidCodePoint_9a6ad : MethodName := ⟨RJ11, "isValidCodePoint", "(I)Z"⟩
abbrev cJ11_highSurrogate_5068e : ByteArray := prog_13_method_28_code
def yJ11_highSurrogate_5068e : MethodName := ⟨RJ11, "highSurrogate", "(I)C"⟩
abbrev cJ11_lowSurrogate_5068e : ByteArray := prog_13_method_29_code
def yJ11_lowSurrogate_5068e : MethodName := ⟨RJ11, "lowSurrogate", "(I)C"⟩
def RJxb160c : String := "java/lang/Comparable"
def TJxb160c : u_T := fun k => match k with
  | _ => ("", "", "", false)
def tyJxb160c : Nat → FieldType := fun k => match k with
  | _ => .int
abbrev wsJxb160c0 : List Cond := u_ws RJxb160c TJxb160c 0
theorem nmJxb160c : ∀ a, a < 0 → ∀ b, b < 0 → a ≠ b → (TJxb160c a).2.1 ≠ (TJxb160c b).2.1 := by decide +kernel
theorem tyJxb160c_ok : ∀ k, k < 0 → parseFieldDescriptor (TJxb160c k).2.2.1 = some (tyJxb160c k) := by decide +kernel
def RJ6 : String := "java/lang/Integer"
def TJ6 : u_T := fun k => match k with
  | _ => ("", "", "", false)
def tyJ6 : Nat → FieldType := fun k => match k with
  | _ => .int
abbrev wsJ60 : List Cond := u_ws RJ6 TJ6 0
theorem nmJ6 : ∀ a, a < 0 → ∀ b, b < 0 → a ≠ b → (TJ6 a).2.1 ≠ (TJ6 b).2.1 := by decide +kernel
theorem tyJ6_ok : ∀ k, k < 0 → parseFieldDescriptor (TJ6 k).2.2.1 = some (tyJ6 k) := by decide +kernel
abbrev cJ6_bitCount_0f7a4 : ByteArray := prog_14_method_49_code
def yJ6_bitCount_0f7a4 : MethodName := ⟨RJ6, "bitCount", "(I)I"⟩
def RJ9 : String := "java/lang/Math"
def TJ9 : u_T := fun k => match k with
  | _ => ("", "", "", false)
def tyJ9 : Nat → FieldType := fun k => match k with
  | _ => .int
abbrev wsJ90 : List Cond := u_ws RJ9 TJ9 0
theorem nmJ9 : ∀ a, a < 0 → ∀ b, b < 0 → a ≠ b → (TJ9 a).2.1 ≠ (TJ9 b).2.1 := by decide +kernel
theorem tyJ9_ok : ∀ k, k < 0 → parseFieldDescriptor (TJ9 k).2.2.1 = some (tyJ9 k) := by decide +kernel
abbrev cJ9_abs_0f7a4 : ByteArray := prog_15_method_59_code
def yJ9_abs_0f7a4 : MethodName := ⟨RJ9, "abs", "(I)I"⟩
abbrev cJ9_max_7cf53 : ByteArray := prog_15_method_65_code
def yJ9_max_7cf53 : MethodName := ⟨RJ9, "max", "(II)I"⟩
abbrev cJ9_min_7cf53 : ByteArray := prog_15_method_69_code
def yJ9_min_7cf53 : MethodName := ⟨RJ9, "min", "(II)I"⟩
def RJ0 : String := "java/lang/String"
def TJ0 : u_T := fun k => match k with
  | _ => ("", "", "", false)
def tyJ0 : Nat → FieldType := fun k => match k with
  | _ => .int
abbrev wsJ00 : List Cond := u_ws RJ0 TJ0 0
theorem nmJ0 : ∀ a, a < 0 → ∀ b, b < 0 → a ≠ b → (TJ0 a).2.1 ≠ (TJ0 b).2.1 := by decide +kernel
theorem tyJ0_ok : ∀ k, k < 0 → parseFieldDescriptor (TJ0 k).2.2.1 = some (tyJ0 k) := by decide +kernel
abbrev cJ0_length_8abf5 : ByteArray := prog_16_method_54_code
def yJ0_length_8abf5 : MethodName := ⟨RJ0, "length", "()I"⟩
abbrev cJ0_charAt_5068e : ByteArray := prog_16_method_56_code
def yJ0_charAt_5068e : MethodName := ⟨RJ0, "charAt", "(I)C"⟩
abbrev cJ0_indexOf_0f7a4 : ByteArray := prog_16_method_79_code
def yJ0_indexOf_0f7a4 : MethodName := ⟨RJ0, "indexOf", "(I)I"⟩
abbrev cJ0_indexOf_7cf53 : ByteArray := prog_16_method_80_code
def yJ0_indexOf_7cf53 : MethodName := ⟨RJ0, "indexOf", "(II)I"⟩
abbrev cJ0_coder_7d493 : ByteArray := prog_16_method_152_code
def yJ0_coder_7d493 : MethodName := ⟨RJ0, "coder", "()B"⟩
abbrev cJ0_isLatin1_aae02 : ByteArray := prog_16_method_154_code
def yJ0_isLatin1_aae02 : MethodName := ⟨RJ0, "isLatin1", "()Z"⟩
abbrev cJ0_checkIndex_df160 : ByteArray := prog_16_method_155_code
def yJ0_checkIndex_df160 : MethodName := ⟨RJ0, "checkIndex", "(II)V"⟩
abbrev cJ0_checkBoundsBeginEnd_23922 : ByteArray := prog_16_method_158_code
def yJ0_checkBoundsBeginEnd_23922 : MethodName := ⟨RJ0, "checkBoundsBeginEnd", "(III)V"⟩
def RJ1 : String := "java/lang/StringLatin1"
def TJ1 : u_T := fun k => match k with
  | _ => ("", "", "", false)
def tyJ1 : Nat → FieldType := fun k => match k with
  | _ => .int
abbrev wsJ10 : List Cond := u_ws RJ1 TJ1 0
theorem nmJ1 : ∀ a, a < 0 → ∀ b, b < 0 → a ≠ b → (TJ1 a).2.1 ≠ (TJ1 b).2.1 := by decide +kernel
theorem tyJ1_ok : ∀ k, k < 0 → parseFieldDescriptor (TJ1 k).2.2.1 = some (tyJ1 k) := by decide +kernel
abbrev cJ1_charAt_3b067 : ByteArray := prog_17_method_2_code
def yJ1_charAt_3b067 : MethodName := ⟨RJ1, "charAt", "([BI)C"⟩
abbrev cJ1_canEncode_9a6ad : ByteArray := prog_17_method_4_code
def yJ1_canEncode_9a6ad : MethodName := ⟨RJ1, "canEncode", "(I)Z"⟩
abbrev cJ1_indexOf_4cfef : ByteArray := prog_17_method_22_code
def yJ1_indexOf_4cfef : MethodName := ⟨RJ1, "indexOf", "([BIII)I"⟩
abbrev cJ1_indexOfChar_4cfef : ByteArray := prog_17_method_23_code
def yJ1_indexOfChar_4cfef : MethodName := ⟨RJ1, "indexOfChar", "([BIII)I"⟩
def RJ2 : String := "java/lang/StringUTF16"
def TJ2 : u_T := fun k => match k with
  | _ => ("", "", "", false)
def tyJ2 : Nat → FieldType := fun k => match k with
  | _ => .int
abbrev wsJ20 : List Cond := u_ws RJ2 TJ2 0
theorem nmJ2 : ∀ a, a < 0 → ∀ b, b < 0 → a ≠ b → (TJ2 a).2.1 ≠ (TJ2 b).2.1 := by decide +kernel
theorem tyJ2_ok : ∀ k, k < 0 → parseFieldDescriptor (TJ2 k).2.2.1 = some (tyJ2 k) := by decide +kernel
abbrev cJ2_getChar_3b067 : ByteArray := prog_18_method_5_code
def yJ2_getChar_3b067 : MethodName := ⟨RJ2, "getChar", "([BI)C"⟩
abbrev cJ2_length_9d52b : ByteArray := prog_18_method_6_code
def yJ2_length_9d52b : MethodName := ⟨RJ2, "length", "([B)I"⟩
abbrev cJ2_indexOf_4cfef : ByteArray := prog_18_method_40_code
def yJ2_indexOf_4cfef : MethodName := ⟨RJ2, "indexOf", "([BIII)I"⟩
abbrev cJ2_indexOfChar_4cfef : ByteArray := prog_18_method_47_code
def yJ2_indexOfChar_4cfef : MethodName := ⟨RJ2, "indexOfChar", "([BIII)I"⟩
abbrev cJ2_indexOfCharUnsafe_4cfef : ByteArray := prog_18_method_48_code
def yJ2_indexOfCharUnsafe_4cfef : MethodName := ⟨RJ2, "indexOfCharUnsafe", "([BIII)I"⟩
abbrev cJ2_indexOfSupplementary_4cfef : ByteArray := prog_18_method_49_code
def yJ2_indexOfSupplementary_4cfef : MethodName := ⟨RJ2, "indexOfSupplementary", "([BIII)I"⟩
abbrev cJ2_charAt_3b067 : ByteArray := prog_18_method_83_code
def yJ2_charAt_3b067 : MethodName := ⟨RJ2, "charAt", "([BI)C"⟩
abbrev cJ2_checkIndex_2214a : ByteArray := prog_18_method_91_code
def yJ2_checkIndex_2214a : MethodName := ⟨RJ2, "checkIndex", "(I[B)V"⟩
abbrev cJ2_checkBoundsBeginEnd_d044e : ByteArray := prog_18_method_93_code
def yJ2_checkBoundsBeginEnd_d044e : MethodName := ⟨RJ2, "checkBoundsBeginEnd", "(II[B)V"⟩
def RJ10 : String := "java/lang/System"
def TJ10 : u_T := fun k => match k with
  | _ => ("", "", "", false)
def tyJ10 : Nat → FieldType := fun k => match k with
  | _ => .int
abbrev wsJ100 : List Cond := u_ws RJ10 TJ10 0
theorem nmJ10 : ∀ a, a < 0 → ∀ b, b < 0 → a ≠ b → (TJ10 a).2.1 ≠ (TJ10 b).2.1 := by decide +kernel
theorem tyJ10_ok : ∀ k, k < 0 → parseFieldDescriptor (TJ10 k).2.2.1 = some (tyJ10 k) := by decide +kernel
def RJxfd54e : String := "java/lang/constant/Constable"
def TJxfd54e : u_T := fun k => match k with
  | _ => ("", "", "", false)
def tyJxfd54e : Nat → FieldType := fun k => match k with
  | _ => .int
abbrev wsJxfd54e0 : List Cond := u_ws RJxfd54e TJxfd54e 0
theorem nmJxfd54e : ∀ a, a < 0 → ∀ b, b < 0 → a ≠ b → (TJxfd54e a).2.1 ≠ (TJxfd54e b).2.1 := by decide +kernel
theorem tyJxfd54e_ok : ∀ k, k < 0 → parseFieldDescriptor (TJxfd54e k).2.2.1 = some (tyJxfd54e k) := by decide +kernel
def RJx3cf43 : String := "java/lang/constant/ConstantDesc"
def TJx3cf43 : u_T := fun k => match k with
  | _ => ("", "", "", false)
def tyJx3cf43 : Nat → FieldType := fun k => match k with
  | _ => .int
abbrev wsJx3cf430 : List Cond := u_ws RJx3cf43 TJx3cf43 0
theorem nmJx3cf43 : ∀ a, a < 0 → ∀ b, b < 0 → a ≠ b → (TJx3cf43 a).2.1 ≠ (TJx3cf43 b).2.1 := by decide +kernel
theorem tyJx3cf43_ok : ∀ k, k < 0 → parseFieldDescriptor (TJx3cf43 k).2.2.1 = some (tyJx3cf43 k) := by decide +kernel
def RJ7 : String := "java/util/Arrays"
def TJ7 : u_T := fun k => match k with
  | _ => ("", "", "", false)
def tyJ7 : Nat → FieldType := fun k => match k with
  | _ => .int
abbrev wsJ70 : List Cond := u_ws RJ7 TJ7 0
theorem nmJ7 : ∀ a, a < 0 → ∀ b, b < 0 → a ≠ b → (TJ7 a).2.1 ≠ (TJ7 b).2.1 := by decide +kernel
theorem tyJ7_ok : ∀ k, k < 0 → parseFieldDescriptor (TJ7 k).2.2.1 = some (tyJ7 k) := by decide +kernel
abbrev cJ7_fill_53178 : ByteArray := prog_20_method_103_code
def yJ7_fill_53178 : MethodName := ⟨RJ7, "fill", "([II)V"⟩
def RJ3 : String := "jdk/internal/util/Preconditions"
def TJ3 : u_T := fun k => match k with
  | _ => ("", "", "", false)
def tyJ3 : Nat → FieldType := fun k => match k with
  | _ => .int
abbrev wsJ30 : List Cond := u_ws RJ3 TJ3 0
theorem nmJ3 : ∀ a, a < 0 → ∀ b, b < 0 → a ≠ b → (TJ3 a).2.1 ≠ (TJ3 b).2.1 := by decide +kernel
theorem tyJ3_ok : ∀ k, k < 0 → parseFieldDescriptor (TJ3 k).2.2.1 = some (tyJ3 k) := by decide +kernel
abbrev cJ3_checkIndex_8e157 : ByteArray := prog_21_method_11_code
def yJ3_checkIndex_8e157 : MethodName := ⟨RJ3, "checkIndex", "(IILjava/util/function/BiFunction;)I"⟩
abbrev cJ3_checkFromToIndex_8c36e : ByteArray := prog_21_method_12_code
def yJ3_checkFromToIndex_8c36e : MethodName := ⟨RJ3, "checkFromToIndex", "(IIILjava/util/function/BiFunction;)I"⟩
def RL : String := "FaceSenateLaw"
abbrev cL_law : ByteArray := code
def yL_law : MethodName := ⟨RL, "law", "([I)Z"⟩
end
section
/-! an executor over entries (pc, kind, a, b, c): ints are constants, variables with intervals, or unknown; cells made since the start -/
abbrev fx_V : Type := Nat ⊕ (Nat ⊕ (Option Nat ⊕ Nat))
abbrev fx_C : Type := Unit ⊕ ((Nat × List fx_V) ⊕ (Nat × (Nat × List (Nat × fx_V))))
abbrev fx_H : Type := Nat × List (List fx_C)
abbrev fx_J : Type := List (Nat × Nat)
abbrev fx_I : Type := Nat × (Nat × (Nat × (Nat × Nat)))
abbrev fx_L : Type := List (Nat × fx_V)
abbrev fx_K : Type := Option fx_V → fx_H → fx_J → Bool
/-- entries, how many values it takes, cells, slots, the kind of its first value, its slots for values -/
abbrev fx_M : Type := List fx_I × (Nat × (Nat × (Nat × (Nat × Nat))))
abbrev fx_Z : Type := Nat → List fx_V → fx_H → Option (Option fx_V × fx_H)
abbrev fx_G : Type := Nat → List fx_I → List fx_I → fx_L → List fx_V → Nat → Nat → Nat → Nat → fx_H → fx_J → fx_K → Bool
noncomputable def fx_if {α : Type} (c : Bool) (x y : α) : α := Bool.rec (motive := fun _ => α) y x c
abbrev fc (n : Nat) : fx_V := .inl n
abbrev fv (i : Nat) : fx_V := .inr (.inl i)
abbrev fr (k : Nat) : fx_V := .inr (.inr (.inl (some k)))
abbrev fz : fx_V := .inr (.inr (.inl none))
abbrev fl (n : Nat) : fx_V := .inr (.inr (.inr n))
noncomputable def fx_nth {α : Type} (l : List α) : Nat → Option α := List.rec (motive := fun _ => Nat → Option α) (fun _ => none) (fun a _ ih n => Nat.rec (motive := fun _ => Option α) (some a) (fun n _ => ih n) n) l
noncomputable def fx_put {α : Type} (a : α) (l : List α) : Nat → (List α → Bool) → Bool := List.rec (motive := fun _ => Nat → (List α → Bool) → Bool) (fun _ _ => false) (fun b t ih n k => Nat.rec (motive := fun _ => Bool) (k (a :: t)) (fun n _ => ih n (fun t' => k (b :: t'))) n) l
noncomputable def fx_num (n : Nat) (k : Nat → Bool) : Bool := Nat.rec (motive := fun _ => Bool) (k 0) (fun m _ => k (m + 1)) n
noncomputable def fx_look {α : Type} (l : List (Nat × α)) (i : Nat) : Option α := List.rec (motive := fun _ => Option α) none (fun q _ ih => fx_if (Nat.beq q.1 i) (some q.2) ih) l
noncomputable def fx_all {α : Type} (l : List α) (f : α → Bool) : Bool := List.rec (motive := fun _ => Bool) true (fun a _ ih => f a && ih) l
noncomputable def fx_hget (h : fx_H) (k : Nat) : Option fx_C := match fx_nth h.2 (Nat.div k 16) with
  | none => none
  | some r => fx_nth r (Nat.mod k 16)
noncomputable def fx_hset (h : fx_H) (k : Nat) (c : fx_C) (kk : fx_H → Bool) : Bool := match h with
  | (n, rows) => match fx_nth rows (Nat.div k 16) with
    | none => false
    | some r => fx_put c r (Nat.mod k 16) (fun r' => fx_put r' rows (Nat.div k 16) (fun z => kk (n, z)))
noncomputable def fx_snoc {α : Type} (a : α) (l : List α) : (List α → Bool) → Bool := List.rec (motive := fun _ => (List α → Bool) → Bool) (fun k => k [a]) (fun b _ ih k => ih (fun t' => k (b :: t'))) l
noncomputable def fx_hnew (h : fx_H) (c : fx_C) (kk : fx_H → Bool) : Bool := match h with
  | (n, rows) => Nat.blt n 1000000 && fx_if (Nat.beq (Nat.mod n 16) 0)
    (Nat.beq rows.length (Nat.div n 16) && fx_snoc [c] rows (fun z => fx_num (Nat.add n 1) (fun n => kk (n, z))))
    (match fx_nth rows (Nat.div n 16) with
      | none => false
      | some r => Nat.beq r.length (Nat.mod n 16) && fx_snoc c r (fun r' => fx_put r' rows (Nat.div n 16) (fun z => fx_num (Nat.add n 1) (fun n => kk (n, z)))))
/-- the interval of a variable (biased) -/
noncomputable def fx_iv (j : fx_J) (i : Nat) : Nat × Nat := match fx_nth j i with
  | none => (0, 4294967295)
  | some q => q
def fx_b (n : Nat) : Nat := Nat.mod (Nat.add n 2147483648) 4294967296
noncomputable def fx_nz (j : fx_J) (v : fx_V) (k : fx_V → Bool) : Bool := match v with
  | .inr (.inl (i + 1)) => fx_if (Nat.beq (fx_iv j (i + 1)).1 (fx_iv j (i + 1)).2) (fx_num (fx_b (fx_iv j (i + 1)).1) (fun n => k (fc n))) (k v)
  | _ => k v
noncomputable def fx_val (v : fx_V) (k : fx_V → Bool) : Bool := match v with
  | .inl n => fx_num n (fun n => k (fc n))
  | .inr (.inr (.inr n)) => fx_num n (fun n => k (fl n))
  | _ => k v
noncomputable def fx_int (v : fx_V) : Bool := match v with
  | .inl _ => true
  | .inr (.inl _) => true
  | _ => false
noncomputable def fx_form (b : Nat) (v : fx_V) : Bool := match v with
  | .inl _ => Nat.ble b 1
  | .inr (.inl _) => Nat.ble b 1
  | .inr (.inr (.inl _)) => Nat.beq b 2 || Nat.beq b 3
  | .inr (.inr (.inr _)) => Nat.beq b 4 || Nat.beq b 5
noncomputable def fx_cat (v : fx_V) : Nat := match v with
  | .inr (.inr (.inr _)) => 2
  | _ => 1
def fx_odd (b : Nat) : Nat := Nat.add (Nat.mod b 2) 1
noncomputable def fx_to (cod : List fx_I) (t : Nat) : List fx_I := List.rec (motive := fun _ => List fx_I) [] (fun q r ih => fx_if (Nat.beq q.1 t) (q :: r) ih) cod
noncomputable def fx_drop (l : fx_L) (i : Nat) (k : fx_L → Bool) : Bool := List.rec (motive := fun _ => (fx_L → Bool) → Bool) (fun k => k []) (fun q _ ih k => ih (fun t => fx_if (Nat.beq q.1 i || (Nat.beq (q.1 + 1) i && Nat.beq (fx_cat q.2) 2)) (k t) (k (q :: t)))) l k
noncomputable def fx_drop2 (l : fx_L) (i : Nat) (k : fx_L → Bool) : Bool := List.rec (motive := fun _ => (fx_L → Bool) → Bool) (fun k => k []) (fun q _ ih k => ih (fun t => fx_if (Nat.beq q.1 i || (Nat.beq q.1 (i + 1) || (Nat.beq (q.1 + 1) i && Nat.beq (fx_cat q.2) 2))) (k t) (k (q :: t)))) l k
noncomputable def fx_store (l : fx_L) (i : Nat) (v : fx_V) (k : fx_L → Bool) : Bool := match v with
  | .inr (.inr (.inr _)) => fx_drop2 l i (fun t => k ((i, v) :: t))
  | _ => fx_drop l i (fun t => k ((i, v) :: t))
/-- what a comparison may come to: the truth, the intervals then; conditions 0 eq, 1 ne, 2 lt, 3 ge, 4 gt, 5 le -/
noncomputable def fx_con (o x y : Nat) : Bool := fx_if (Nat.beq o 0) (Nat.beq x y) (fx_if (Nat.beq o 1) (!Nat.beq x y) (fx_if (Nat.beq o 2) (Nat.blt x y) (fx_if (Nat.beq o 3) (Nat.ble y x) (fx_if (Nat.beq o 4) (Nat.blt y x) (Nat.ble x y)))))
noncomputable def fx_with (j : fx_J) (i lo hi : Nat) (k : fx_J → Bool) : Bool := fx_if (Nat.ble lo hi) (fx_num lo (fun lo => fx_num hi (fun hi => fx_put (lo, hi) j i k))) true
/-- a variable i against a constant y (biased): below, at, above it -/
noncomputable def fx_cut (o : Nat) (j : fx_J) (i y : Nat) (k : Bool → fx_J → Bool) : Bool :=
  fx_if (Nat.blt (fx_iv j i).2 y) (k (fx_con o 0 1) j) (fx_if (Nat.blt y (fx_iv j i).1) (k (fx_con o 1 0) j)
    ((Nat.beq y 0 || fx_with j i (fx_iv j i).1 (y - 1) (fun j => k (fx_con o 0 1) j)) && (fx_with j i y y (fun j => k (fx_con o 0 0) j) && fx_with j i (y + 1) (fx_iv j i).2 (fun j => k (fx_con o 1 0) j))))
noncomputable def fx_swap (o : Nat) : Nat := fx_if (Nat.beq o 2) 4 (fx_if (Nat.beq o 4) 2 (fx_if (Nat.beq o 3) 5 (fx_if (Nat.beq o 5) 3 o)))
noncomputable def fx_cmp (o : Nat) (j : fx_J) (x y : fx_V) (k : Bool → fx_J → Bool) : Bool := match x, y with
  | .inl a, .inl b => k (fx_con o (fx_b a) (fx_b b)) j
  | .inr (.inl (i + 1)), .inl b => fx_cut o j (i + 1) (fx_b b) k
  | .inl a, .inr (.inl (i + 1)) => fx_cut (fx_swap o) j (i + 1) (fx_b a) k
  | .inr (.inl (i + 1)), .inr (.inl (i2 + 1)) => Nat.beq i i2 && k (fx_con o 0 0) j
  | _, _ => false
/-- ints: 0 add, 1 sub, 2 mul, 3 div, 4 rem, 5 and, 6 or, 7 xor, 8 shl, 9 shr, 10 ushr; of constants -/
noncomputable def fx_bin (o x y : Nat) : Option Nat :=
  fx_if (Nat.beq o 0) (some (Nat.mod (Nat.add x y) 4294967296)) (fx_if (Nat.beq o 1) (some ((x + (4294967296 - y % 4294967296)) % 4294967296)) (fx_if (Nat.beq o 2) (some (Nat.mod (Nat.mul x y) 4294967296))
    (fx_if (Nat.beq o 3) (fx_if (Nat.blt x 2147483648 && (Nat.blt y 2147483648 && Nat.blt 0 y)) (some (x / y)) none) (fx_if (Nat.beq o 4) (fx_if (Nat.blt x 2147483648 && (Nat.blt y 2147483648 && Nat.blt 0 y)) (some (x % y)) none)
      (fx_if (Nat.beq o 5) (some (Nat.land x y)) (fx_if (Nat.beq o 6) (some (Nat.lor x y)) (fx_if (Nat.beq o 7) (some (Nat.xor x y))
        (fx_if (Nat.beq o 8) (fx_if (Nat.blt y 32) (some (Nat.shiftLeft x y % 4294967296)) none) (fx_if (Nat.beq o 9) (fx_if (Nat.blt x 2147483648 && Nat.blt y 32) (some (Nat.shiftRight x y)) none)
          (fx_if (Nat.beq o 10) (fx_if (Nat.blt x 4294967296 && Nat.blt y 32) (some (Nat.shiftRight x y)) none) none))))))))))
/-- one of them unknown -/
noncomputable def fx_bis (o : Nat) (x y : fx_V) : Option fx_V := match x, y with
  | .inl a, .inl b => match fx_bin o a b with
    | some n => some (fc n)
    | none => none
  | .inl a, .inr (.inl i) => fx_if (Nat.beq o 0 && Nat.beq a 0) (some (fv i)) (fx_if (Nat.beq o 2 && Nat.beq a 0) (some (fc 0)) (fx_if (Nat.beq o 3 || Nat.beq o 4) none (some (fv 0))))
  | .inr (.inl i), .inl b => fx_if (Nat.beq o 0 && Nat.beq b 0) (some (fv i)) (fx_if (Nat.beq o 2 && Nat.beq b 0) (some (fc 0)) (fx_if (Nat.beq o 5 && (Nat.beq b 63 && Nat.beq i 1)) (some (fv 7)) (fx_if ((Nat.beq o 3 || Nat.beq o 4) && (Nat.beq (b % 4294967296) 0)) none (some (fv 0)))))
  | .inr (.inl _), .inr (.inl _) => fx_if (Nat.beq o 3 || Nat.beq o 4) none (some (fv 0))
  | _, _ => none
/-- is the value a variable within twenty numbers (then each is taken for itself) -/
noncomputable def fx_few (j : fx_J) (v : fx_V) : Option (Nat × (Nat × Nat)) := match v with
  | .inr (.inl (i + 1)) => fx_if (Nat.ble ((fx_iv j (i + 1)).2 - (fx_iv j (i + 1)).1) 20) (some (i + 1, (fx_iv j (i + 1)).1, (fx_iv j (i + 1)).2 - (fx_iv j (i + 1)).1)) none
  | _ => none
noncomputable def fx_each (j : fx_J) (i lo n : Nat) (k : fx_J → Bool) : Bool := Nat.rec (motive := fun _ => Bool) (fx_with j i lo lo k) (fun m ih => fx_with j i (lo + (m + 1)) (lo + (m + 1)) k && ih) n
/-- arrays: 0 int, 1 byte, 2 boolean, 3 long -/
noncomputable def fx_dft (ty : Nat) : fx_V := fx_if (Nat.beq ty 3) (fl 0) (fc 0)
noncomputable def fx_aget (ty : Nat) (u : List (Nat × fx_V)) (n : Nat) : fx_V := match fx_look u n with
  | some v => v
  | none => fx_dft ty
noncomputable def fx_without {α : Type} (l : List (Nat × α)) (i : Nat) (k : List (Nat × α) → Bool) : Bool := List.rec (motive := fun _ => (List (Nat × α) → Bool) → Bool) (fun k => k []) (fun q t ih k => fx_if (Nat.beq q.1 i) (ih k) (ih (fun t => k (q :: t)))) l k
noncomputable def fx_veq (x y : fx_V) : Bool := match x, y with
  | .inl a, .inl b => Nat.beq a b
  | .inr (.inl (a + 1)), .inr (.inl (b + 1)) => Nat.beq a b
  | .inr (.inr (.inl none)), .inr (.inr (.inl none)) => true
  | .inr (.inr (.inl (some a))), .inr (.inr (.inl (some b))) => Nat.beq a b
  | .inr (.inr (.inr a)), .inr (.inr (.inr b)) => Nat.beq a b
  | _, _ => false
noncomputable def fx_aset (ty : Nat) (u : List (Nat × fx_V)) (n : Nat) (v : fx_V) (k : List (Nat × fx_V) → Bool) : Bool :=
  fx_if (fx_veq v (fx_aget ty u n)) (k u) (fx_without u n (fun u => fx_if (fx_veq v (fx_dft ty)) (k u) (k ((n, v) :: u))))
/-- what a store of a small type keeps: none if it isn't known to fit -/
noncomputable def fx_nar (ty : Nat) (v : fx_V) : Option fx_V := fx_if (Nat.beq ty 0) (fx_if (fx_int v) (some v) none) (fx_if (Nat.beq ty 3) (match v with
    | .inr (.inr (.inr _)) => some v
    | _ => none) (match v with
    | .inl n => fx_if (Nat.blt n (fx_if (Nat.beq ty 1) 128 2)) (some v) none
    | .inr (.inl _) => some (fv 0)
    | _ => none))
noncomputable def fx_split (n : Nat) (stk : List fx_V) : Option (List fx_V × List fx_V) := Nat.rec (motive := fun _ => List fx_V → List fx_V → Option (List fx_V × List fx_V)) (fun acc st => some (acc, st)) (fun _ ih acc st => match st with
    | [] => none
    | v :: st => ih (v :: acc) st) n [] stk
noncomputable def fx_args (l : List fx_V) : Nat → fx_L := List.rec (motive := fun _ => Nat → fx_L) (fun _ => []) (fun v _ ih i => (i, v) :: ih (i + fx_cat v)) l
noncomputable def fx_cats (l : List fx_V) : Nat := List.rec (motive := fun _ => Nat) 0 (fun v _ ih => fx_cat v + ih) l
/-- copies int by int -/
noncomputable def fx_copy (s d : List (Nat × fx_V)) (sp dp : Nat) (n : Nat) : (List (Nat × fx_V) → Bool) → Bool := Nat.rec (motive := fun _ => (List (Nat × fx_V) → Bool) → Bool) (fun k => k d) (fun m ih k => ih (fun u => fx_aset 0 u (dp + m) (fx_aget 0 s (sp + m)) k)) n
end
section
noncomputable def fx_nx (go : List fx_I → Bool) (pc len : Nat) (tl : List fx_I) : Bool := match tl with
  | [] => false
  | r :: _ => Nat.beq r.1 (Nat.add pc len) && go tl
noncomputable def fx_clen (a : Nat) : Nat := match fx_nth [1, 2, 3, 2, 3, 1, 3, 1] a with
  | some n => n
  | none => 0
noncomputable def fx_cst (a c : Nat) : fx_V := fx_if (Nat.blt a 5) (fc c) (fx_if (Nat.blt a 7) (fl c) fz)
noncomputable def fx_fit (t : Nat) (v : fx_V) : Bool := match v with
  | .inl n => Nat.beq t 0 || (Nat.beq t 2 && Nat.blt n 2)
  | .inr (.inl _) => Nat.beq t 0
  | .inr (.inr (.inl _)) => Nat.beq t 4
  | .inr (.inr (.inr _)) => Nat.beq t 3
noncomputable def fx_rok (b : Nat) (v : fx_V) : Bool := match v with
  | .inl n => Nat.beq b 1 || ((Nat.beq b 2 && Nat.blt n 2) || ((Nat.beq b 4 && Nat.blt n 65536) || (Nat.beq b 5 && Nat.blt n 128)))
  | .inr (.inl _) => Nat.beq b 1
  | _ => false
noncomputable def fx_aty (a ty : Nat) : Bool := fx_if (Nat.beq a 0) (Nat.beq ty 0) (fx_if (Nat.beq a 1) (Nat.beq ty 1 || Nat.beq ty 2) (Nat.beq a 2 && Nat.beq ty 3))
def fx_txt : List Nat := [104, 97, 108, 108, 32, 98, 121, 32, 100, 105, 115, 116, 114, 105, 99, 116, 32, 109, 111, 111, 100, 32, 109, 101, 109, 98, 101, 114, 32, 102, 111, 114, 32, 97, 116, 32, 108, 111, 111, 107, 32, 108, 105, 103, 104, 116, 32, 116, 111, 111, 116, 104, 32, 111, 102, 32, 100, 114, 97, 119, 32, 111, 114, 32, 97, 110, 100, 32, 110, 111, 116, 32, 102, 97, 99, 101, 32, 110, 101, 97, 114, 32, 98, 101, 115, 105, 100, 101, 32, 98, 114, 105, 103, 104, 116, 32, 115, 116, 111, 105, 99, 32, 110, 101, 119, 115, 32, 115, 116, 101, 112, 32, 114, 111, 119, 32, 99, 111, 108, 117, 109, 110, 32]
/-- a load from an array -/
noncomputable def fx_ld (a : Nat) (h : fx_H) (j : fx_J) (r n : Nat) (k : fx_V → Bool) : Bool := match fx_hget h r with
  | some (.inr (.inr (ty, len, u))) => (fx_aty a ty && Nat.blt n len) && (match fx_look u n with
    | some v => fx_fit (fx_if (Nat.beq ty 3) 3 0) v && fx_nz j v k
    | none => k (fx_dft ty))
  | some _ => false
  | none => fx_if (Nat.beq r 1000000) ((Nat.beq a 0 && Nat.blt n 6) && (Nat.blt (n + 2147483648) (fx_iv j 8).1 && fx_nz j (fv (n + 1)) k))
    (Nat.beq r 1000002 && (Nat.beq a 1 && (match fx_nth fx_txt n with
      | some z => k (fc z)
      | none => false)))
/-- a store into an array: values that are held -/
noncomputable def fx_sto (a : Nat) (h : fx_H) (r n : Nat) (v : fx_V) (k : fx_H → Bool) : Bool := match fx_hget h r with
  | some (.inr (.inr (ty, len, u))) => (fx_aty a ty && Nat.blt n len) && (match fx_nar ty v with
    | some w => fx_aset ty u n w (fun u' => fx_hset h r (.inr (.inr (ty, len, u'))) k)
    | none => false)
  | _ => false
noncomputable def fx_len (h : fx_H) (r : Nat) : Option fx_V := match fx_hget h r with
  | some (.inr (.inr (_, len, _))) => some (fc len)
  | some _ => none
  | none => fx_if (Nat.beq r 1000000) (some (fv 8)) (fx_if (Nat.beq r 1000002) (some (fc 123)) none)
noncomputable def fx_un (a : Nat) (v : fx_V) : Option fx_V := match v with
  | .inl n => fx_if (Nat.beq a 0) (some (fc ((4294967296 - n % 4294967296) % 4294967296))) (fx_if (Nat.beq a 1) (fx_if (Nat.blt n 128) (some (fc n)) none) (fx_if (Nat.beq a 2) (fx_if (Nat.blt n 65536) (some (fc n)) none) (fx_if (Nat.beq a 3 && Nat.blt n 2147483648) (some (fl n)) none)))
  | .inr (.inl _) => fx_if (Nat.blt a 3) (some (fv 0)) none
  | _ => none
noncomputable def fx_lbin (o x y : Nat) : Option Nat := fx_if (Nat.beq o 0) (some ((x + y) % 18446744073709551616)) (fx_if (Nat.beq o 1) (some ((x + (18446744073709551616 - y % 18446744073709551616)) % 18446744073709551616)) (fx_if (Nat.beq o 2) (some (x * y % 18446744073709551616)) none))
/-- the order of what lies on the stack: dup, pop, dup2, dup_x1, dup_x2 -/
noncomputable def fx_stk (a : Nat) (st : List fx_V) : Option (List fx_V) := match st with
  | v :: st => fx_if (Nat.beq (fx_cat v) 1) (fx_if (Nat.beq a 0) (some (v :: v :: st)) (fx_if (Nat.beq a 1) (some st) (match st with
    | w :: st => fx_if (Nat.beq (fx_cat w) 1) (fx_if (Nat.beq a 2) (some (v :: w :: v :: w :: st)) (fx_if (Nat.beq a 3) (some (v :: w :: v :: st)) (match st with
      | x :: st => fx_if (Nat.beq (fx_cat x) 1 && Nat.beq a 4) (some (v :: w :: x :: v :: st)) none
      | [] => none))) none
    | [] => none))) none
  | [] => none
/-- each target of a switch, for a variable i: keys from lo (biased) on -/
noncomputable def fx_keys (j : fx_J) (i : Nat) (go : Nat → fx_J → Bool) (ts : List Nat) : Nat → Bool := List.rec (motive := fun _ => Nat → Bool) (fun _ => true) (fun t _ ih lo => fx_if (Nat.ble (fx_iv j i).1 lo && Nat.ble lo (fx_iv j i).2) (fx_with j i lo lo (go t)) true && ih (lo + 1)) ts
noncomputable def fx_sw (j : fx_J) (x : fx_V) (dft lo : Nat) (ts : List Nat) (go : Nat → fx_J → Bool) : Bool := match x with
  | .inl n => fx_if (Nat.ble lo (fx_b n)) (match fx_nth ts (fx_b n - lo) with
    | some t => go t j
    | none => go dft j) (go dft j)
  | .inr (.inl (i + 1)) => fx_keys j (i + 1) go ts lo && ((Nat.beq lo 0 || fx_with j (i + 1) (fx_iv j (i + 1)).1 (fx_if (Nat.ble (fx_iv j (i + 1)).2 (lo - 1)) (fx_iv j (i + 1)).2 (lo - 1)) (go dft)) && fx_with j (i + 1) (fx_if (Nat.ble (lo + ts.length) (fx_iv j (i + 1)).1) (fx_iv j (i + 1)).1 (lo + ts.length)) (fx_iv j (i + 1)).2 (go dft))
  | _ => false
noncomputable def fx_top (v : fx_V) : Bool := match v with
  | .inr (.inl 0) => true
  | _ => false
/-- is the called one's first value of its kind: 0 nothing asked, 1 any reference, 2 + c an object of the kind c, 99 the text -/
noncomputable def fx_rcv (t : Nat) (h : fx_H) (as : List fx_V) : Bool := fx_if (Nat.beq t 0) true (match as with
  | .inr (.inr (.inl (some r))) :: _ => fx_if (Nat.beq t 1) (match fx_hget h r with
      | some (.inr (.inl _)) => true
      | _ => false) (fx_if (Nat.beq t 99) (Nat.beq r 1000001) (match fx_hget h r with
      | some (.inr (.inl (ci, _))) => Nat.beq (ci + 2) t
      | _ => false))
  | _ => false)
abbrev fx_E : Type := (Nat → Option fx_M) × ((Nat → List Nat) × ((Nat → Option (List fx_V)) × (fx_Z × (fx_L → fx_H → fx_J → Bool))))
noncomputable def fx_ret (st : List fx_V) (v : Option fx_V) : List fx_V := match v with
  | none => st
  | some v => v :: st
noncomputable def fx_call (E : fx_E) (ih : fx_G) (d : Nat) (nx : List fx_V → Nat → Nat → fx_H → fx_J → Bool) (c : Nat) (stk : List fx_V) (ce sl mc ms : Nat) (h : fx_H) (j : fx_J) : Bool := match d with
  | 0 => false
  | d + 1 => match E.1 c with
    | none => false
    | some (cod, na, mc', ms', t, nl) => match fx_split na stk with
      | none => false
      | some (as, st) => (Nat.ble (fx_cats st) 8 && (Nat.ble (ce + mc') mc && (Nat.ble (sl + ms') ms && (Nat.ble (fx_cats as) nl && fx_rcv t h as)))) && (match fx_if (Nat.ble 10 d) (E.2.2.2.1 c as h) none with
        | some (v, h') => fx_num (ce + mc') (fun ce => fx_num (sl + ms') (fun sl => nx (fx_ret st v) ce sl h' j))
        | none => ih d cod cod (fx_args as 0) [] 0 0 mc' ms' h j (fun v h' j' => fx_num (ce + mc') (fun ce => fx_num (sl + ms') (fun sl => nx (fx_ret st v) ce sl h' j'))))
abbrev fx_O : Type := List fx_I → fx_L → List fx_V → Nat → Nat → fx_H → fx_J → Bool
noncomputable def fx_k0 (go : fx_O) (pc a b : Nat) (tl : List fx_I) (loc : fx_L) (stk : List fx_V) (ce sl : Nat) (h : fx_H) (j : fx_J) : Bool := match fx_look loc a with
  | none => false
  | some v => (fx_form b v && Nat.blt b 6) && fx_nz j v (fun v => fx_nx (fun t => go t loc (v :: stk) ce sl h j) pc (fx_odd b) tl)
noncomputable def fx_k1 (go : fx_O) (pc b c : Nat) (tl : List fx_I) (loc : fx_L) (stk : List fx_V) (ce sl : Nat) (h : fx_H) (j : fx_J) : Bool := match stk with
  | .inr (.inr (.inl (some r))) :: st => (match fx_hget h r with
    | some (.inr (.inl (ci, fs))) => Nat.beq ci b && (match fx_nth fs c with
      | some v => fx_nx (fun t => go t loc (v :: st) ce sl h j) pc 3 tl
      | none => false)
    | _ => false)
  | _ => false
noncomputable def fx_k3 (go : fx_O) (cod : List fx_I) (pc a b : Nat) (tl : List fx_I) (loc : fx_L) (stk : List fx_V) (ce sl : Nat) (h : fx_H) (j : fx_J) : Bool := match stk with
  | y :: x :: st => fx_nz j y (fun y => fx_nz j x (fun x => Nat.blt a 6 && fx_cmp a j x y (fun t j => fx_if t (go (fx_to cod b) loc st ce sl h j) (fx_nx (fun t => go t loc st ce sl h j) pc 3 tl))))
  | _ => false
noncomputable def fx_k4 (go : fx_O) (cod : List fx_I) (pc a b : Nat) (tl : List fx_I) (loc : fx_L) (stk : List fx_V) (ce sl : Nat) (h : fx_H) (j : fx_J) : Bool := match stk with
  | x :: st => fx_nz j x (fun x => Nat.blt a 6 && fx_cmp a j x (fc 0) (fun t j => fx_if t (go (fx_to cod b) loc st ce sl h j) (fx_nx (fun t => go t loc st ce sl h j) pc 3 tl)))
  | _ => false
noncomputable def fx_k6 (go : fx_O) (q : fx_I) (pc a : Nat) (tl : List fx_I) (loc : fx_L) (stk : List fx_V) (ce sl : Nat) (h : fx_H) (j : fx_J) : Bool := match stk with
  | i :: .inr (.inr (.inl (some r))) :: st => fx_nz j i (fun i => match i with
    | .inl n => fx_ld a h j r n (fun v => fx_nx (fun t => go t loc (v :: st) ce sl h j) pc 1 tl)
    | _ => match fx_few j i with
      | some (i, lo, n) => fx_each j i lo n (fun j => go (q :: tl) loc stk ce sl h j)
      | none => false)
  | _ => false
noncomputable def fx_k7 (go : fx_O) (pc a b : Nat) (tl : List fx_I) (loc : fx_L) (stk : List fx_V) (ce sl : Nat) (h : fx_H) (j : fx_J) : Bool := match fx_look loc a with
  | none => false
  | some v => fx_nz j v (fun v => match fx_bis 0 v (fc b) with
    | some w => fx_val w (fun w => fx_store loc a w (fun loc => fx_nx (fun t => go t loc stk ce sl h j) pc 3 tl))
    | none => false)
noncomputable def fx_k8 (go : fx_O) (q : fx_I) (pc a : Nat) (tl : List fx_I) (loc : fx_L) (stk : List fx_V) (ce sl : Nat) (h : fx_H) (j : fx_J) : Bool := match stk with
  | v :: i :: .inr (.inr (.inl (some r))) :: st => fx_nz j i (fun i => match i with
    | .inl n => fx_nz j v (fun v => fx_sto a h r n v (fun h => fx_nx (fun t => go t loc st ce sl h j) pc 1 tl))
    | _ => match fx_few j i with
      | some (i, lo, n) => fx_each j i lo n (fun j => go (q :: tl) loc stk ce sl h j)
      | none => false)
  | _ => false
noncomputable def fx_k10 (k : fx_K) (a b : Nat) (stk : List fx_V) (h : fx_H) (j : fx_J) : Bool := fx_if (Nat.beq a 0) (match stk with
    | [v] => fx_nz j v (fun v => fx_rok b v && k (some v) h j)
    | _ => false) (fx_if (Nat.beq a 1) (match stk with
    | [] => k none h j
    | _ => false) (match stk with
    | [.inr (.inr (.inr n))] => k (some (fl n)) h j
    | _ => false))
noncomputable def fx_k11 (go : fx_O) (pc a b : Nat) (tl : List fx_I) (loc : fx_L) (stk : List fx_V) (ce sl : Nat) (h : fx_H) (j : fx_J) : Bool := match stk with
  | v :: st => (fx_form b v && Nat.blt b 6) && fx_store loc a v (fun loc => fx_nx (fun t => go t loc st ce sl h j) pc (fx_odd b) tl)
  | _ => false
noncomputable def fx_k12 (go : fx_O) (q : fx_I) (pc a : Nat) (tl : List fx_I) (loc : fx_L) (stk : List fx_V) (ce sl : Nat) (h : fx_H) (j : fx_J) : Bool := match stk with
  | y :: x :: st => fx_nz j y (fun y => fx_nz j x (fun x => match fx_bis a x y with
    | none => false
    | some w => fx_if (fx_top w) (match fx_few j x with
        | some (i, lo, n) => fx_each j i lo n (fun j => go (q :: tl) loc stk ce sl h j)
        | none => match fx_few j y with
          | some (i, lo, n) => fx_each j i lo n (fun j => go (q :: tl) loc stk ce sl h j)
          | none => fx_nx (fun t => go t loc (w :: st) ce sl h j) pc 1 tl)
      (fx_val w (fun w => fx_nx (fun t => go t loc (w :: st) ce sl h j) pc 1 tl))))
  | _ => false
noncomputable def fx_k13 (go : fx_O) (pc a : Nat) (tl : List fx_I) (loc : fx_L) (stk : List fx_V) (ce sl : Nat) (h : fx_H) (j : fx_J) : Bool := match stk with
  | x :: st => fx_nz j x (fun x => match fx_un a x with
    | some w => fx_val w (fun w => fx_nx (fun t => go t loc (w :: st) ce sl h j) pc 1 tl)
    | none => false)
  | _ => false
noncomputable def fx_k14 (go : fx_O) (pc b c : Nat) (tl : List fx_I) (loc : fx_L) (stk : List fx_V) (ce sl : Nat) (h : fx_H) (j : fx_J) : Bool := match stk with
  | v :: .inr (.inr (.inl (some r))) :: st => (match fx_hget h r with
    | some (.inr (.inl (ci, fs))) => (Nat.beq ci b && fx_fit (Nat.mod c 8) v) && fx_put v fs (Nat.div c 8) (fun fs => fx_hset h r (.inr (.inl (ci, fs))) (fun h => fx_nx (fun t => go t loc st ce sl h j) pc 3 tl))
    | _ => false)
  | _ => false
noncomputable def fx_k15 (go : fx_O) (pc a : Nat) (tl : List fx_I) (loc : fx_L) (stk : List fx_V) (ce sl : Nat) (h : fx_H) (j : fx_J) : Bool := match fx_stk a stk with
  | some stk => fx_nx (fun t => go t loc stk ce sl h j) pc 1 tl
  | none => false
noncomputable def fx_k16 (E : fx_E) (go : fx_O) (pc b : Nat) (tl : List fx_I) (loc : fx_L) (stk : List fx_V) (ce sl mc ms : Nat) (h : fx_H) (j : fx_J) : Bool := match E.2.2.1 b with
  | some fs => (Nat.ble (ce + 1) mc && Nat.ble (sl + fs.length) ms) && fx_hnew h (.inr (.inl (b, fs))) (fun h' => fx_num (ce + 1) (fun ce => fx_num (sl + fs.length) (fun sl => fx_num h.1 (fun n => fx_nx (fun t => go t loc (fr n :: stk) ce sl h' j) pc 3 tl))))
  | none => false
noncomputable def fx_k17 (go : fx_O) (pc a : Nat) (tl : List fx_I) (loc : fx_L) (stk : List fx_V) (ce sl mc ms : Nat) (h : fx_H) (j : fx_J) : Bool := match stk with
  | .inl n :: st => ((Nat.ble n 1000000 && Nat.blt a 4) && (Nat.ble (ce + 1) mc && Nat.ble (sl + n) ms)) && fx_hnew h (.inr (.inr (a, n, []))) (fun h' => fx_num (ce + 1) (fun ce => fx_num (sl + n) (fun sl => fx_num h.1 (fun n => fx_nx (fun t => go t loc (fr n :: st) ce sl h' j) pc 2 tl))))
  | _ => false
noncomputable def fx_k18 (go : fx_O) (pc : Nat) (tl : List fx_I) (loc : fx_L) (stk : List fx_V) (ce sl : Nat) (h : fx_H) (j : fx_J) : Bool := match stk with
  | .inr (.inr (.inl (some r))) :: st => (match fx_len h r with
    | some v => fx_nz j v (fun v => fx_nx (fun t => go t loc (v :: st) ce sl h j) pc 1 tl)
    | none => false)
  | _ => false
noncomputable def fx_k19 (go : fx_O) (cod : List fx_I) (pc a b : Nat) (tl : List fx_I) (loc : fx_L) (stk : List fx_V) (ce sl : Nat) (h : fx_H) (j : fx_J) : Bool := match stk with
  | .inr (.inr (.inl none)) :: st => fx_if (Nat.beq a 0) (go (fx_to cod b) loc st ce sl h j) (Nat.beq a 1 && fx_nx (fun t => go t loc st ce sl h j) pc 3 tl)
  | .inr (.inr (.inl (some r))) :: st => Nat.blt r 1000000 && fx_if (Nat.beq a 1) (go (fx_to cod b) loc st ce sl h j) (Nat.beq a 0 && fx_nx (fun t => go t loc st ce sl h j) pc 3 tl)
  | _ => false
noncomputable def fx_k20 (E : fx_E) (go : fx_O) (cod : List fx_I) (a b c : Nat) (loc : fx_L) (stk : List fx_V) (ce sl : Nat) (h : fx_H) (j : fx_J) : Bool := match stk with
  | x :: st => fx_nz j x (fun x => fx_sw j x a (fx_b b) (E.2.1 c) (fun t j => go (fx_to cod t) loc st ce sl h j))
  | _ => false
noncomputable def fx_k22 (go : fx_O) (d pc : Nat) (tl : List fx_I) (loc : fx_L) (stk : List fx_V) (ce sl : Nat) (h : fx_H) (j : fx_J) : Bool := match stk with
  | .inr (.inr (.inl (some r))) :: st => (Nat.blt 0 d && (Nat.blt r 1000000 && Nat.ble (fx_cats st) 8)) && fx_nx (fun t => go t loc st ce sl h j) pc 3 tl
  | _ => false
noncomputable def fx_ints (u : List (Nat × fx_V)) (sp n : Nat) : Bool := Nat.rec (motive := fun _ => Bool) true (fun m ih => fx_int (fx_aget 0 u (sp + m)) && ih) n
noncomputable def fx_k23 (go : fx_O) (d pc : Nat) (tl : List fx_I) (loc : fx_L) (stk : List fx_V) (ce sl : Nat) (h : fx_H) (j : fx_J) : Bool := match stk with
  | .inl n :: .inl dp :: .inr (.inr (.inl (some r))) :: .inl sp :: .inr (.inr (.inl (some r0))) :: st => (match fx_hget h r0 with
    | some (.inr (.inr (0, len0, u0))) => (match fx_hget h r with
      | some (.inr (.inr (0, len, u))) => ((Nat.blt 0 d && Nat.ble (fx_cats st) 8) && (Nat.ble (sp + n) len0 && (Nat.ble (dp + n) len && fx_ints u0 sp n))) && fx_copy u0 u sp dp n (fun u => fx_hset h r (.inr (.inr (0, len, u))) (fun h => fx_nx (fun t => go t loc st ce sl h j) pc 3 tl))
      | _ => false)
    | _ => false)
  | _ => false
noncomputable def fx_k24 (go : fx_O) (pc a : Nat) (tl : List fx_I) (loc : fx_L) (stk : List fx_V) (ce sl : Nat) (h : fx_H) (j : fx_J) : Bool := match stk with
  | .inr (.inr (.inr y)) :: .inr (.inr (.inr x)) :: st => (match fx_lbin a x y with
    | some n => fx_num n (fun n => fx_nx (fun t => go t loc (fl n :: st) ce sl h j) pc 1 tl)
    | none => false)
  | _ => false
noncomputable def fx_k25 (go : fx_O) (pc b : Nat) (tl : List fx_I) (loc : fx_L) (stk : List fx_V) (ce sl : Nat) (h : fx_H) (j : fx_J) : Bool := match stk with
  | .inr (.inr (.inl (some r))) :: st => Nat.beq r 1000001 && fx_if (Nat.beq b 0) (fx_nx (fun t => go t loc (fr 1000002 :: st) ce sl h j) pc 3 tl) (Nat.beq b 1 && fx_nx (fun t => go t loc (fc 0 :: st) ce sl h j) pc 3 tl)
  | _ => false
noncomputable def fx_k26 (go : fx_O) (pc b : Nat) (tl : List fx_I) (loc : fx_L) (stk : List fx_V) (ce sl : Nat) (h : fx_H) (j : fx_J) : Bool := fx_if (Nat.beq b 0) (fx_nx (fun t => go t loc (fc 1 :: stk) ce sl h j) pc 3 tl) (Nat.beq b 1 && fx_nx (fun t => go t loc (fr 1000003 :: stk) ce sl h j) pc 3 tl)
noncomputable def fx_k29 (go : fx_O) (d pc b : Nat) (tl : List fx_I) (loc : fx_L) (stk : List fx_V) (ce sl : Nat) (h : fx_H) (j : fx_J) : Bool := match stk with
  | y :: x :: st => fx_nz j y (fun y => fx_nz j x (fun x => match y, x with
    | .inl v, .inl u => (Nat.blt 0 d && Nat.ble (fx_cats st) 8) && fx_if (Nat.beq b 0) (fx_if (Nat.blt (fx_b u) (fx_b v)) (fx_nx (fun t => go t loc (fc v :: st) ce sl h j) pc 3 tl) (fx_nx (fun t => go t loc (fc u :: st) ce sl h j) pc 3 tl)) (Nat.beq b 1 && fx_if (Nat.blt (fx_b v) (fx_b u)) (fx_nx (fun t => go t loc (fc v :: st) ce sl h j) pc 3 tl) (fx_nx (fun t => go t loc (fc u :: st) ce sl h j) pc 3 tl))
    | _, _ => false))
  | _ => false
noncomputable def fx_k28 (E : fx_E) (loc : fx_L) (stk : List fx_V) (h : fx_H) (j : fx_J) : Bool := match stk with
  | [] => E.2.2.2.2 loc h j
  | _ => false
noncomputable def fx_ga (go : fx_O) (cod : List fx_I) (pc kd a b c : Nat) (tl : List fx_I) (loc : fx_L) (stk : List fx_V) (ce sl : Nat) (h : fx_H) (j : fx_J) : Bool :=
  fx_if (Nat.beq kd 0) (fx_k0 go pc a b tl loc stk ce sl h j) (fx_if (Nat.beq kd 1) (fx_k1 go pc b c tl loc stk ce sl h j) (fx_if (Nat.beq kd 2) (Nat.blt a 8 && fx_nx (fun t => go t loc (fx_cst a c :: stk) ce sl h j) pc (fx_clen a) tl) (fx_k3 go cod pc a b tl loc stk ce sl h j)))
noncomputable def fx_gb (go : fx_O) (cod : List fx_I) (pc kd a b c : Nat) (tl : List fx_I) (loc : fx_L) (stk : List fx_V) (ce sl : Nat) (h : fx_H) (j : fx_J) : Bool :=
  fx_if (Nat.beq kd 4) (fx_k4 go cod pc a b tl loc stk ce sl h j) (fx_if (Nat.beq kd 5) (go (fx_to cod b) loc stk ce sl h j) (fx_if (Nat.beq kd 6) (fx_k6 go (pc, kd, a, b, c) pc a tl loc stk ce sl h j) (fx_k7 go pc a b tl loc stk ce sl h j)))
noncomputable def fx_gc (E : fx_E) (ih : fx_G) (go : fx_O) (d pc kd a b c : Nat) (tl : List fx_I) (loc : fx_L) (stk : List fx_V) (ce sl mc ms : Nat) (h : fx_H) (j : fx_J) (k : fx_K) : Bool :=
  fx_if (Nat.beq kd 8) (fx_k8 go (pc, kd, a, b, c) pc a tl loc stk ce sl h j) (fx_if (Nat.beq kd 9) (Nat.blt a 5 && fx_call E ih d (fun stk ce sl h j => fx_nx (fun t => go t loc stk ce sl h j) pc 3 tl) c stk ce sl mc ms h j) (fx_if (Nat.beq kd 10) (fx_k10 k a b stk h j) (fx_k11 go pc a b tl loc stk ce sl h j)))
noncomputable def fx_gd (go : fx_O) (pc kd a b c : Nat) (tl : List fx_I) (loc : fx_L) (stk : List fx_V) (ce sl : Nat) (h : fx_H) (j : fx_J) : Bool :=
  fx_if (Nat.beq kd 12) (fx_k12 go (pc, kd, a, b, c) pc a tl loc stk ce sl h j) (fx_if (Nat.beq kd 13) (fx_k13 go pc a tl loc stk ce sl h j) (fx_if (Nat.beq kd 14) (fx_k14 go pc b c tl loc stk ce sl h j) (fx_k15 go pc a tl loc stk ce sl h j)))
noncomputable def fx_ge (E : fx_E) (go : fx_O) (cod : List fx_I) (d pc kd a b c : Nat) (tl : List fx_I) (loc : fx_L) (stk : List fx_V) (ce sl mc ms : Nat) (h : fx_H) (j : fx_J) : Bool :=
  fx_if (Nat.beq kd 16) (fx_k16 E go pc b tl loc stk ce sl mc ms h j) (fx_if (Nat.beq kd 17) (fx_k17 go pc a tl loc stk ce sl mc ms h j) (fx_if (Nat.beq kd 18) (fx_k18 go pc tl loc stk ce sl h j) (fx_if (Nat.beq kd 19) (fx_k19 go cod pc a b tl loc stk ce sl h j)
    (fx_if (Nat.beq kd 20 || Nat.beq kd 21) (fx_k20 E go cod a b c loc stk ce sl h j) (fx_if (Nat.beq kd 22) (fx_k22 go d pc tl loc stk ce sl h j) (fx_if (Nat.beq kd 23) (fx_k23 go d pc tl loc stk ce sl h j) (fx_if (Nat.beq kd 24) (fx_k24 go pc a tl loc stk ce sl h j)
      (fx_if (Nat.beq kd 25) (fx_k25 go pc b tl loc stk ce sl h j) (fx_if (Nat.beq kd 26) (fx_k26 go pc b tl loc stk ce sl h j) (fx_if (Nat.beq kd 27) (fx_nx (fun t => go t loc (fr 1000001 :: stk) ce sl h j) pc 2 tl) (fx_if (Nat.beq kd 28) (fx_k28 E loc stk h j) (Nat.beq kd 29 && fx_k29 go d pc b tl loc stk ce sl h j))))))))))))
noncomputable def fx_one (E : fx_E) (ih : fx_G) (go : fx_O) (d : Nat) (cod : List fx_I) (pc kd a b c : Nat) (tl : List fx_I) (loc : fx_L) (stk : List fx_V) (ce sl mc ms : Nat) (h : fx_H) (j : fx_J) (k : fx_K) : Bool :=
  fx_if (Nat.blt kd 4) (fx_ga go cod pc kd a b c tl loc stk ce sl h j) (fx_if (Nat.blt kd 8) (fx_gb go cod pc kd a b c tl loc stk ce sl h j) (fx_if (Nat.blt kd 12) (fx_gc E ih go d pc kd a b c tl loc stk ce sl mc ms h j k) (fx_if (Nat.blt kd 16) (fx_gd go pc kd a b c tl loc stk ce sl h j) (fx_ge E go cod d pc kd a b c tl loc stk ce sl mc ms h j))))
noncomputable def fx_step (E : fx_E) (ih : fx_G) : fx_G := fun d cod at_ loc stk ce sl mc ms h j k => match at_ with
  | [] => false
  | (pc, kd, a, b, c) :: tl => fx_one E ih (fun t loc stk ce sl h j => ih d cod t loc stk ce sl mc ms h j k) d cod pc kd a b c tl loc stk ce sl mc ms h j k
noncomputable def fx_go (E : fx_E) (n : Nat) : fx_G := Nat.rec (motive := fun _ => fx_G) (fun _ _ _ _ _ _ _ _ _ _ _ _ => false) (fun _ ih => fx_step E ih) n
theorem fx_go_succ (E : fx_E) (n : Nat) : fx_go E (n + 1) = fx_step E (fx_go E n) := rfl
end
section
def fm_0 : fx_M := ([(0, 0, 0, 2, 0), (1, 22, 1, 0, 0), (4, 0, 0, 2, 0), (5, 16, 7, 4, 0), (8, 15, 0, 0, 0), (9, 9, 3, 9, 1), (12, 14, 10, 9, 4), (15, 0, 0, 2, 0), (16, 16, 16, 3, 0), (19, 15, 0, 0, 0), (20, 9, 1, 18, 11), (23, 14, 19, 9, 12), (26, 0, 0, 2, 0), (27, 16, 23, 6, 0), (30, 15, 0, 0, 0), (31, 9, 3, 25, 17), (34, 14, 26, 9, 20), (37, 0, 0, 2, 0), (38, 16, 30, 8, 0), (41, 15, 0, 0, 0), (42, 9, 3, 32, 18), (45, 14, 33, 9, 28), (48, 0, 0, 2, 0), (49, 16, 37, 0, 0), (52, 15, 0, 0, 0), (53, 9, 3, 39, 19), (56, 14, 40, 9, 36), (59, 0, 0, 2, 0), (60, 16, 44, 5, 0), (63, 15, 0, 0, 0), (64, 2, 0, 32771, 3), (65, 9, 1, 46, 20), (68, 14, 49, 9, 44), (71, 0, 0, 2, 0), (72, 16, 53, 2, 0), (75, 15, 0, 0, 0), (76, 9, 3, 55, 21), (79, 14, 56, 9, 52), (82, 0, 0, 2, 0), (83, 2, 1, 32775, 7), (85, 17, 0, 0, 0), (87, 14, 60, 9, 60), (90, 0, 0, 2, 0), (91, 2, 1, 32775, 7), (93, 17, 0, 0, 0), (95, 14, 64, 9, 68), (98, 0, 0, 2, 0), (99, 2, 1, 32778, 10), (101, 17, 0, 0, 0), (103, 14, 67, 9, 76), (106, 0, 0, 2, 0), (107, 2, 1, 32838, 70), (109, 17, 0, 0, 0), (111, 14, 70, 9, 84), (114, 0, 0, 2, 0), (115, 2, 0, 32768, 0), (116, 14, 73, 9, 88), (119, 0, 0, 2, 0), (120, 2, 0, 32768, 0), (121, 14, 77, 9, 96), (124, 0, 0, 2, 0), (125, 2, 0, 32768, 0), (126, 14, 80, 9, 104), (129, 0, 0, 2, 0), (130, 2, 0, 32767, 4294967295), (131, 14, 83, 9, 112), (134, 0, 0, 2, 0), (135, 2, 0, 32767, 4294967295), (136, 14, 86, 9, 120), (139, 0, 0, 2, 0), (140, 1, 26, 9, 2), (143, 0, 0, 2, 0), (144, 1, 19, 9, 1), (147, 9, 0, 89, 22), (150, 10, 1, 0, 0)], 1, 66, 7144, 1, 1)
def fm_1 : fx_M := ([(0, 0, 0, 2, 0), (1, 22, 3, 0, 0), (4, 0, 0, 2, 0), (5, 16, 9, 7, 0), (8, 15, 0, 0, 0), (9, 9, 1, 11, 2), (12, 14, 12, 4, 4), (15, 0, 0, 2, 0), (16, 16, 18, 3, 0), (19, 15, 0, 0, 0), (20, 9, 1, 20, 11), (23, 14, 21, 4, 12), (26, 0, 0, 2, 0), (27, 2, 0, 32768, 0), (28, 14, 25, 4, 16), (31, 0, 0, 2, 0), (32, 2, 0, 32767, 4294967295), (33, 14, 29, 4, 24), (36, 10, 1, 0, 0)], 1, 17, 2421, 1, 1)
def fm_2 : fx_M := ([(0, 0, 0, 2, 0), (1, 22, 3, 0, 0), (4, 0, 0, 2, 0), (5, 2, 2, 34368, 1600), (8, 17, 1, 0, 0), (10, 14, 9, 7, 4), (13, 0, 0, 2, 0), (14, 2, 1, 32792, 24), (16, 17, 3, 0, 0), (18, 14, 15, 7, 12), (21, 0, 0, 2, 0), (22, 2, 0, 32768, 0), (23, 14, 19, 7, 16), (26, 0, 0, 2, 0), (27, 2, 0, 32768, 0), (28, 14, 23, 7, 24), (31, 0, 0, 2, 0), (32, 2, 0, 32768, 0), (33, 14, 26, 7, 32), (36, 0, 0, 2, 0), (37, 2, 0, 32768, 0), (38, 14, 29, 7, 40), (41, 0, 0, 2, 0), (42, 2, 0, 32768, 0), (43, 14, 32, 7, 48), (46, 0, 0, 2, 0), (47, 2, 5, 0, 0), (48, 14, 35, 7, 59), (51, 2, 0, 32768, 0), (52, 11, 1, 0, 0), (53, 2, 5, 0, 0), (54, 11, 2, 4, 0), (55, 2, 0, 32768, 0), (56, 11, 4, 1, 0), (58, 0, 4, 1, 0), (60, 27, 39, 0, 0), (62, 9, 0, 41, 3), (65, 3, 3, 121, 0), (68, 27, 39, 0, 0), (70, 0, 4, 1, 0), (72, 9, 0, 46, 5), (75, 11, 5, 1, 0), (77, 0, 5, 1, 0), (79, 2, 1, 32800, 32), (81, 3, 0, 94, 0), (84, 0, 2, 4, 0), (85, 0, 5, 1, 0), (87, 9, 2, 50, 10), (90, 11, 2, 4, 0), (91, 5, 0, 115, 0), (94, 0, 1, 0, 0), (95, 0, 0, 2, 0), (96, 1, 15, 7, 1), (99, 18, 0, 0, 0), (100, 3, 3, 115, 0), (103, 0, 0, 2, 0), (104, 1, 15, 7, 1), (107, 0, 1, 0, 0), (108, 0, 2, 4, 0), (109, 8, 2, 0, 0), (110, 7, 1, 1, 0), (113, 2, 5, 0, 0), (114, 11, 2, 4, 0), (115, 7, 4, 1, 0), (118, 5, 0, 58, 0), (121, 10, 1, 0, 0)], 1, 2, 1624, 1, 6)
def fm_3 : fx_M := ([(0, 0, 0, 2, 0), (1, 25, 9, 0, 0), (4, 18, 0, 0, 0), (5, 0, 0, 2, 0), (6, 9, 0, 335, 4), (9, 12, 9, 0, 0), (10, 10, 0, 1, 0)], 1, 0, 0, 99, 1)
def fm_4 : fx_M := ([(0, 26, 38, 0, 0), (3, 4, 0, 13, 0), (6, 0, 0, 2, 0), (7, 25, 15, 1, 0), (10, 5, 0, 14, 0), (14, 10, 0, 5, 0)], 1, 0, 0, 99, 1)
def fm_5 : fx_M := ([(0, 0, 0, 2, 0), (1, 9, 0, 492, 6), (4, 4, 0, 16, 0), (7, 0, 0, 2, 0), (8, 25, 9, 0, 0), (11, 0, 1, 0, 0), (12, 9, 2, 495, 7), (15, 10, 0, 4, 0)], 2, 0, 0, 99, 2)
def fm_6 : fx_M := ([(0, 26, 38, 0, 0), (3, 4, 0, 17, 0), (6, 0, 0, 2, 0), (7, 25, 15, 1, 0), (10, 4, 1, 17, 0), (13, 2, 0, 32769, 1), (14, 5, 0, 18, 0), (18, 10, 0, 2, 0)], 1, 0, 0, 99, 1)
def fm_7 : fx_M := ([(0, 0, 1, 0, 0), (1, 0, 0, 2, 0), (2, 18, 0, 0, 0), (3, 9, 2, 9, 8), (6, 0, 0, 2, 0), (7, 0, 1, 0, 0), (8, 6, 1, 0, 0), (9, 2, 2, 33023, 255), (12, 12, 5, 0, 0), (13, 13, 2, 0, 0), (14, 10, 0, 4, 0)], 2, 0, 0, 0, 2)
def fm_8 : fx_M := ([(0, 0, 0, 0, 0), (1, 0, 1, 0, 0), (2, 26, 1053, 1, 0), (5, 9, 2, 1059, 9), (8, 15, 1, 0, 0), (9, 10, 1, 0, 0)], 2, 0, 0, 0, 2)
def fm_9 : fx_M := ([(0, 0, 0, 0, 0), (1, 4, 2, 9, 0), (4, 0, 0, 0, 0), (5, 0, 1, 0, 0), (6, 3, 2, 16, 0), (16, 0, 0, 0, 0), (17, 10, 0, 1, 0)], 3, 0, 0, 0, 3)
def fm_10 : fx_M := ([(0, 0, 0, 4, 0), (1, 2, 6, 79, 27), (4, 24, 2, 0, 0), (5, 0, 2, 0, 0), (6, 13, 3, 0, 0), (7, 24, 0, 0, 0), (8, 2, 6, 81, 97), (11, 24, 1, 0, 0), (12, 2, 5, 1, 1), (13, 24, 0, 0, 0), (14, 10, 2, 3, 0)], 2, 0, 0, 0, 3)
def fm_11 : fx_M := ([(0, 0, 0, 2, 0), (1, 22, 3, 0, 0), (4, 0, 0, 2, 0), (5, 2, 0, 32772, 4), (6, 17, 3, 0, 0), (8, 14, 9, 3, 4), (11, 0, 0, 2, 0), (12, 2, 0, 32772, 4), (13, 17, 0, 0, 0), (15, 14, 15, 3, 12), (18, 0, 0, 2, 0), (19, 2, 1, 32775, 7), (21, 17, 3, 0, 0), (23, 14, 19, 3, 20), (26, 0, 0, 2, 0), (27, 2, 1, 32775, 7), (29, 17, 0, 0, 0), (31, 14, 22, 3, 28), (34, 0, 0, 2, 0), (35, 2, 1, 32775, 7), (37, 17, 0, 0, 0), (39, 14, 25, 3, 36), (42, 0, 0, 2, 0), (43, 2, 1, 32775, 7), (45, 17, 0, 0, 0), (47, 14, 28, 3, 44), (50, 0, 0, 2, 0), (51, 2, 1, 32775, 7), (53, 17, 0, 0, 0), (55, 14, 31, 3, 52), (58, 0, 0, 2, 0), (59, 16, 34, 1, 0), (62, 15, 0, 0, 0), (63, 9, 3, 36, 12), (66, 14, 37, 3, 60), (69, 0, 0, 2, 0), (70, 16, 34, 1, 0), (73, 15, 0, 0, 0), (74, 9, 3, 36, 12), (77, 14, 41, 3, 68), (80, 0, 0, 2, 0), (81, 2, 0, 32772, 4), (82, 14, 44, 3, 72), (85, 0, 0, 2, 0), (86, 2, 0, 32772, 4), (87, 14, 48, 3, 80), (90, 0, 0, 2, 0), (91, 2, 0, 32768, 0), (92, 14, 51, 3, 88), (95, 0, 0, 2, 0), (96, 2, 0, 32768, 0), (97, 14, 54, 3, 96), (100, 0, 0, 2, 0), (101, 2, 0, 32768, 0), (102, 14, 57, 3, 104), (105, 0, 0, 2, 0), (106, 2, 0, 32769, 1), (107, 14, 60, 3, 112), (110, 0, 0, 2, 0), (111, 2, 0, 32768, 0), (112, 14, 63, 3, 120), (115, 0, 0, 2, 0), (116, 2, 0, 32768, 0), (117, 14, 66, 3, 130), (120, 0, 0, 2, 0), (121, 2, 0, 32768, 0), (122, 14, 70, 3, 138), (125, 0, 0, 2, 0), (126, 9, 0, 73, 13), (129, 10, 1, 0, 0)], 1, 13, 771, 1, 1)
def fm_12 : fx_M := ([(0, 0, 0, 2, 0), (1, 22, 3, 0, 0), (4, 0, 0, 2, 0), (5, 2, 2, 33088, 320), (8, 17, 0, 0, 0), (10, 14, 9, 1, 4), (13, 0, 0, 2, 0), (14, 2, 1, 32808, 40), (16, 17, 0, 0, 0), (18, 14, 15, 1, 12), (21, 0, 0, 2, 0), (22, 2, 0, 32768, 0), (23, 14, 18, 1, 16), (26, 0, 0, 2, 0), (27, 2, 0, 32768, 0), (28, 14, 22, 1, 24), (31, 10, 1, 0, 0)], 1, 2, 360, 1, 1)
def fm_13 : fx_M := ([(0, 0, 0, 2, 0), (1, 1, 22, 3, 3), (4, 2, 0, 32768, 0), (5, 9, 2, 76, 14), (8, 0, 0, 2, 0), (9, 1, 25, 3, 4), (12, 2, 0, 32768, 0), (13, 9, 2, 76, 14), (16, 0, 0, 2, 0), (17, 1, 28, 3, 5), (20, 2, 0, 32768, 0), (21, 9, 2, 76, 14), (24, 0, 0, 2, 0), (25, 1, 31, 3, 6), (28, 2, 0, 32767, 4294967295), (29, 9, 2, 76, 14), (32, 0, 0, 2, 0), (33, 1, 37, 3, 7), (36, 9, 0, 82, 15), (39, 0, 0, 2, 0), (40, 1, 37, 3, 7), (43, 2, 0, 32768, 0), (44, 9, 0, 83, 16), (47, 0, 0, 2, 0), (48, 1, 41, 3, 8), (51, 9, 0, 82, 15), (54, 0, 0, 2, 0), (55, 1, 41, 3, 8), (58, 2, 1, 32805, 37), (60, 9, 0, 83, 16), (63, 0, 0, 2, 0), (64, 2, 0, 32772, 4), (65, 14, 44, 3, 72), (68, 0, 0, 2, 0), (69, 2, 0, 32772, 4), (70, 14, 48, 3, 80), (73, 0, 0, 2, 0), (74, 2, 0, 32768, 0), (75, 14, 51, 3, 88), (78, 0, 0, 2, 0), (79, 2, 0, 32768, 0), (80, 14, 54, 3, 96), (83, 0, 0, 2, 0), (84, 2, 0, 32768, 0), (85, 14, 57, 3, 104), (88, 0, 0, 2, 0), (89, 2, 0, 32769, 1), (90, 14, 60, 3, 112), (93, 0, 0, 2, 0), (94, 2, 0, 32768, 0), (95, 14, 63, 3, 120), (98, 0, 0, 2, 0), (99, 2, 0, 32768, 0), (100, 14, 66, 3, 130), (103, 0, 0, 2, 0), (104, 2, 0, 32768, 0), (105, 14, 70, 3, 138), (108, 10, 1, 0, 0)], 1, 0, 0, 5, 1)
def fm_14 : fx_M := ([(0, 2, 0, 32768, 0), (1, 11, 2, 0, 0), (2, 0, 0, 2, 0), (3, 18, 0, 0, 0), (4, 11, 3, 0, 0), (5, 0, 2, 0, 0), (6, 0, 3, 0, 0), (7, 3, 3, 20, 0), (10, 0, 0, 2, 0), (11, 0, 2, 0, 0), (12, 0, 1, 0, 0), (13, 8, 0, 0, 0), (14, 7, 2, 1, 0), (17, 5, 0, 5, 0), (20, 10, 1, 0, 0)], 2, 0, 0, 0, 4)
def fm_15 : fx_M := ([(0, 0, 0, 2, 0), (1, 2, 0, 32768, 0), (2, 14, 18, 1, 16), (5, 0, 0, 2, 0), (6, 2, 0, 32768, 0), (7, 14, 22, 1, 24), (10, 10, 1, 0, 0)], 1, 0, 0, 3, 1)
def fm_16 : fx_M := ([(0, 0, 0, 2, 0), (1, 1, 18, 1, 2), (4, 0, 0, 2, 0), (5, 1, 9, 1, 0), (8, 18, 0, 0, 0), (9, 3, 3, 32, 0), (12, 0, 0, 2, 0), (13, 1, 9, 1, 0), (16, 0, 0, 2, 0), (17, 1, 18, 1, 2), (20, 0, 1, 0, 0), (21, 8, 0, 0, 0), (22, 0, 0, 2, 0), (23, 15, 0, 0, 0), (24, 1, 18, 1, 2), (27, 2, 0, 32769, 1), (28, 12, 0, 0, 0), (29, 14, 18, 1, 16), (32, 10, 1, 0, 0)], 2, 0, 0, 3, 2)
def fm_17 : fx_M := ([(0, 0, 0, 2, 0), (1, 22, 3, 0, 0), (4, 0, 0, 2, 0), (5, 2, 1, 32775, 7), (7, 17, 0, 0, 0), (9, 14, 9, 6, 4), (12, 0, 0, 2, 0), (13, 2, 1, 32775, 7), (15, 17, 0, 0, 0), (17, 14, 15, 6, 12), (20, 0, 0, 2, 0), (21, 2, 0, 32768, 0), (22, 14, 18, 6, 16), (25, 0, 0, 2, 0), (26, 2, 0, 32768, 0), (27, 14, 22, 6, 24), (30, 0, 0, 2, 0), (31, 2, 0, 32768, 0), (32, 14, 25, 6, 32), (35, 10, 1, 0, 0)], 1, 2, 14, 1, 1)
def fm_18 : fx_M := ([(0, 0, 0, 2, 0), (1, 22, 3, 0, 0), (4, 0, 0, 2, 0), (5, 16, 9, 6, 0), (8, 15, 0, 0, 0), (9, 9, 3, 11, 17), (12, 14, 12, 8, 4), (15, 0, 0, 2, 0), (16, 2, 1, 32775, 7), (18, 17, 0, 0, 0), (20, 14, 18, 8, 12), (23, 0, 0, 2, 0), (24, 2, 1, 32775, 7), (26, 17, 0, 0, 0), (28, 14, 22, 8, 20), (31, 0, 0, 2, 0), (32, 2, 1, 32775, 7), (34, 17, 0, 0, 0), (36, 14, 25, 8, 28), (39, 0, 0, 2, 0), (40, 2, 1, 32775, 7), (42, 17, 0, 0, 0), (44, 14, 28, 8, 36), (47, 0, 0, 2, 0), (48, 2, 1, 32789, 21), (50, 17, 0, 0, 0), (52, 14, 31, 8, 44), (55, 0, 0, 2, 0), (56, 2, 1, 32777, 9), (58, 17, 0, 0, 0), (60, 14, 34, 8, 52), (63, 0, 0, 2, 0), (64, 2, 1, 32777, 9), (66, 17, 0, 0, 0), (68, 14, 37, 8, 60), (71, 0, 0, 2, 0), (72, 2, 2, 33792, 1024), (75, 17, 0, 0, 0), (77, 14, 40, 8, 68), (80, 0, 0, 2, 0), (81, 2, 2, 33792, 1024), (84, 17, 0, 0, 0), (86, 14, 43, 8, 76), (89, 0, 0, 2, 0), (90, 2, 7, 0, 0), (91, 14, 46, 8, 84), (94, 10, 1, 0, 0)], 1, 12, 2134, 1, 1)
def fm_19 : fx_M := ([(0, 0, 0, 2, 0), (1, 22, 3, 0, 0), (4, 0, 0, 2, 0), (5, 16, 9, 5, 0), (8, 15, 0, 0, 0), (9, 2, 1, 32809, 41), (11, 9, 1, 11, 20), (14, 14, 14, 0, 4), (17, 0, 0, 2, 0), (18, 2, 0, 32768, 0), (19, 14, 20, 0, 8), (22, 0, 0, 2, 0), (23, 2, 0, 32768, 0), (24, 14, 24, 0, 16), (27, 10, 1, 0, 0)], 1, 3, 741, 1, 1)
def fm_20 : fx_M := ([(0, 0, 0, 2, 0), (1, 22, 3, 0, 0), (4, 0, 0, 2, 0), (5, 0, 1, 0, 0), (6, 2, 0, 32768, 0), (7, 29, 9, 0, 0), (10, 14, 15, 5, 0), (13, 0, 0, 2, 0), (14, 0, 0, 2, 0), (15, 1, 15, 5, 0), (18, 2, 1, 32785, 17), (20, 12, 2, 0, 0), (21, 17, 0, 0, 0), (23, 14, 21, 5, 12), (26, 0, 0, 2, 0), (27, 0, 0, 2, 0), (28, 1, 15, 5, 0), (31, 17, 2, 0, 0), (33, 14, 25, 5, 20), (36, 10, 1, 0, 0)], 2, 2, 738, 1, 2)
def fm_21 : fx_M := ([(0, 0, 0, 2, 0), (1, 22, 3, 0, 0), (4, 0, 0, 2, 0), (5, 2, 1, 32798, 30), (7, 17, 0, 0, 0), (9, 14, 9, 2, 4), (12, 0, 0, 2, 0), (13, 2, 1, 32798, 30), (15, 17, 0, 0, 0), (17, 14, 15, 2, 12), (20, 0, 0, 2, 0), (21, 2, 1, 32798, 30), (23, 17, 0, 0, 0), (25, 14, 18, 2, 20), (28, 0, 0, 2, 0), (29, 2, 1, 32798, 30), (31, 17, 2, 0, 0), (33, 14, 21, 2, 28), (36, 0, 0, 2, 0), (37, 2, 1, 32798, 30), (39, 17, 0, 0, 0), (41, 14, 25, 2, 36), (44, 0, 0, 2, 0), (45, 2, 1, 32798, 30), (47, 17, 0, 0, 0), (49, 14, 28, 2, 44), (52, 0, 0, 2, 0), (53, 2, 0, 32768, 0), (54, 14, 31, 2, 48), (57, 10, 1, 0, 0)], 1, 6, 180, 1, 1)
def fm_22 : fx_M := ([(0, 0, 1, 2, 0), (1, 1, 28, 3, 4), (4, 2, 0, 32768, 0), (5, 0, 0, 2, 0), (6, 1, 9, 6, 0), (9, 2, 0, 32768, 0), (10, 2, 1, 32775, 7), (12, 23, 31, 0, 0), (15, 0, 1, 2, 0), (16, 1, 37, 3, 6), (19, 2, 0, 32768, 0), (20, 0, 0, 2, 0), (21, 1, 15, 6, 1), (24, 2, 0, 32768, 0), (25, 2, 1, 32775, 7), (27, 23, 31, 0, 0), (30, 0, 0, 2, 0), (31, 2, 0, 32768, 0), (32, 14, 18, 6, 16), (35, 0, 0, 2, 0), (36, 2, 0, 32768, 0), (37, 14, 22, 6, 24), (40, 0, 0, 2, 0), (41, 0, 1, 2, 0), (42, 1, 38, 3, 15), (45, 14, 25, 6, 32), (48, 10, 1, 0, 0)], 2, 0, 0, 8, 2)
def fm_23 : fx_M := ([(0, 0, 0, 2, 0), (1, 22, 1, 0, 0), (4, 0, 0, 2, 0), (5, 2, 2, 34388, 1620), (8, 17, 1, 0, 0), (10, 14, 7, 10, 4), (13, 0, 0, 2, 0), (14, 2, 2, 34368, 1600), (17, 17, 1, 0, 0), (19, 14, 13, 10, 12), (22, 0, 0, 2, 0), (23, 2, 0, 32767, 4294967295), (24, 14, 16, 10, 40), (27, 0, 0, 2, 0), (28, 2, 0, 32770, 2), (29, 17, 0, 0, 0), (31, 14, 20, 10, 92), (34, 0, 0, 2, 0), (35, 2, 0, 32770, 2), (36, 17, 0, 0, 0), (38, 14, 24, 10, 100), (41, 0, 0, 2, 0), (42, 2, 0, 32770, 2), (43, 17, 0, 0, 0), (45, 14, 27, 10, 108), (48, 0, 0, 2, 0), (49, 2, 0, 32770, 2), (50, 17, 0, 0, 0), (52, 14, 30, 10, 116), (55, 0, 0, 2, 0), (56, 2, 0, 32770, 2), (57, 17, 0, 0, 0), (59, 14, 33, 10, 124), (62, 0, 0, 2, 0), (63, 2, 0, 32770, 2), (64, 17, 0, 0, 0), (66, 14, 36, 10, 132), (69, 0, 0, 2, 0), (70, 2, 0, 32770, 2), (71, 17, 0, 0, 0), (73, 14, 39, 10, 140), (76, 0, 0, 2, 0), (77, 2, 0, 32770, 2), (78, 17, 0, 0, 0), (80, 14, 42, 10, 148), (83, 0, 0, 2, 0), (84, 2, 0, 32770, 2), (85, 17, 0, 0, 0), (87, 14, 45, 10, 156), (90, 0, 0, 2, 0), (91, 2, 1, 32776, 8), (93, 17, 0, 0, 0), (95, 14, 48, 10, 164), (98, 0, 0, 2, 0), (99, 2, 1, 32782, 14), (101, 17, 0, 0, 0), (103, 14, 51, 10, 172), (106, 0, 0, 2, 0), (107, 2, 1, 32782, 14), (109, 17, 0, 0, 0), (111, 14, 54, 10, 180), (114, 0, 0, 2, 0), (115, 2, 1, 32782, 14), (117, 17, 0, 0, 0), (119, 14, 57, 10, 188), (122, 0, 0, 2, 0), (123, 2, 1, 32782, 14), (125, 17, 0, 0, 0), (127, 14, 60, 10, 196), (130, 0, 0, 2, 0), (131, 2, 0, 32772, 4), (132, 17, 0, 0, 0), (134, 14, 63, 10, 204), (137, 0, 0, 2, 0), (138, 2, 0, 32772, 4), (139, 17, 0, 0, 0), (141, 14, 66, 10, 212), (144, 0, 0, 2, 0), (145, 2, 0, 32772, 4), (146, 17, 2, 0, 0), (148, 14, 69, 10, 220), (151, 0, 0, 2, 0), (152, 2, 0, 32770, 2), (153, 17, 2, 0, 0), (155, 14, 73, 10, 228), (158, 0, 0, 2, 0), (159, 2, 0, 32770, 2), (160, 17, 2, 0, 0), (162, 14, 76, 10, 236), (165, 0, 0, 2, 0), (166, 2, 1, 32776, 8), (168, 17, 3, 0, 0), (170, 14, 79, 10, 244), (173, 0, 0, 2, 0), (174, 2, 1, 32782, 14), (176, 17, 3, 0, 0), (178, 14, 83, 10, 252), (181, 0, 0, 2, 0), (182, 2, 2, 33888, 1120), (185, 17, 0, 0, 0), (187, 14, 86, 10, 260), (190, 0, 0, 2, 0), (191, 2, 2, 33888, 1120), (194, 17, 0, 0, 0), (196, 14, 89, 10, 268), (199, 0, 0, 2, 0), (200, 2, 1, 32858, 90), (202, 17, 0, 0, 0), (204, 14, 92, 10, 276), (207, 0, 0, 2, 0), (208, 2, 1, 32858, 90), (210, 17, 0, 0, 0), (212, 14, 95, 10, 284), (215, 0, 0, 2, 0), (216, 2, 1, 32828, 60), (218, 17, 0, 0, 0), (220, 14, 98, 10, 292), (223, 0, 0, 2, 0), (224, 2, 1, 32785, 17), (226, 17, 0, 0, 0), (228, 14, 101, 10, 404), (231, 0, 0, 2, 0), (232, 2, 1, 32775, 7), (234, 17, 0, 0, 0), (236, 14, 104, 10, 412), (239, 0, 0, 2, 0), (240, 2, 2, 33465, 697), (243, 17, 0, 0, 0), (245, 14, 107, 10, 420), (248, 0, 0, 2, 0), (249, 2, 1, 32775, 7), (251, 17, 0, 0, 0), (253, 14, 110, 10, 444), (256, 0, 0, 2, 0), (257, 2, 1, 32775, 7), (259, 17, 0, 0, 0), (261, 14, 113, 10, 452), (264, 0, 0, 2, 0), (265, 2, 1, 32785, 17), (267, 17, 0, 0, 0), (269, 14, 116, 10, 468), (272, 0, 0, 2, 0), (273, 2, 1, 32775, 7), (275, 17, 0, 0, 0), (277, 14, 119, 10, 476), (280, 0, 0, 2, 0), (281, 2, 1, 32775, 7), (283, 17, 0, 0, 0), (285, 14, 122, 10, 484), (288, 0, 0, 2, 0), (289, 2, 2, 33768, 1000), (292, 17, 0, 0, 0), (294, 14, 125, 10, 492), (297, 0, 0, 2, 0), (298, 2, 1, 32798, 30), (300, 17, 0, 0, 0), (302, 14, 128, 10, 500), (305, 0, 0, 2, 0), (306, 2, 1, 32798, 30), (308, 17, 0, 0, 0), (310, 14, 131, 10, 508), (313, 0, 0, 2, 0), (314, 2, 1, 32798, 30), (316, 17, 0, 0, 0), (318, 14, 134, 10, 516), (321, 0, 0, 2, 0), (322, 2, 1, 32798, 30), (324, 17, 0, 0, 0), (326, 14, 137, 10, 524), (329, 0, 0, 2, 0), (330, 2, 1, 32798, 30), (332, 17, 0, 0, 0), (334, 14, 140, 10, 532), (337, 0, 0, 2, 0), (338, 2, 1, 32798, 30), (340, 17, 0, 0, 0), (342, 14, 143, 10, 540), (345, 0, 0, 2, 0), (346, 2, 1, 32778, 10), (348, 17, 0, 0, 0), (350, 14, 146, 10, 548), (353, 0, 0, 2, 0), (354, 2, 1, 32819, 51), (356, 17, 0, 0, 0), (358, 14, 149, 10, 572), (361, 0, 0, 2, 0), (362, 2, 0, 32771, 3), (363, 17, 2, 0, 0), (365, 14, 152, 10, 580), (368, 0, 0, 2, 0), (369, 9, 0, 155, 24), (372, 0, 0, 2, 0), (373, 9, 0, 158, 25), (376, 10, 1, 0, 0)], 1, 46, 7830, 1, 1)
def fm_24 : fx_M := ([(0, 0, 0, 2, 0), (1, 1, 20, 10, 11), (4, 0, 0, 2, 0), (5, 1, 274, 10, 38), (8, 2, 0, 32772, 4), (9, 8, 0, 0, 0), (10, 0, 0, 2, 0), (11, 1, 24, 10, 12), (14, 0, 0, 2, 0), (15, 1, 274, 10, 38), (18, 2, 0, 32772, 4), (19, 8, 0, 0, 0), (20, 0, 0, 2, 0), (21, 1, 27, 10, 13), (24, 0, 0, 2, 0), (25, 1, 274, 10, 38), (28, 2, 0, 32768, 0), (29, 8, 0, 0, 0), (30, 0, 0, 2, 0), (31, 1, 30, 10, 14), (34, 0, 0, 2, 0), (35, 1, 274, 10, 38), (38, 2, 0, 32768, 0), (39, 8, 0, 0, 0), (40, 0, 0, 2, 0), (41, 1, 33, 10, 15), (44, 0, 0, 2, 0), (45, 1, 274, 10, 38), (48, 2, 0, 32768, 0), (49, 8, 0, 0, 0), (50, 0, 0, 2, 0), (51, 1, 36, 10, 16), (54, 0, 0, 2, 0), (55, 1, 274, 10, 38), (58, 2, 0, 32768, 0), (59, 8, 0, 0, 0), (60, 0, 0, 2, 0), (61, 1, 39, 10, 17), (64, 0, 0, 2, 0), (65, 1, 274, 10, 38), (68, 2, 0, 32768, 0), (69, 8, 0, 0, 0), (70, 0, 0, 2, 0), (71, 1, 42, 10, 18), (74, 0, 0, 2, 0), (75, 1, 274, 10, 38), (78, 2, 0, 32769, 1), (79, 8, 0, 0, 0), (80, 0, 0, 2, 0), (81, 1, 45, 10, 19), (84, 0, 0, 2, 0), (85, 1, 274, 10, 38), (88, 2, 0, 32768, 0), (89, 8, 0, 0, 0), (90, 0, 0, 2, 0), (91, 1, 69, 10, 27), (94, 2, 0, 32770, 2), (95, 0, 0, 2, 0), (96, 1, 274, 10, 38), (99, 12, 2, 0, 0), (100, 2, 0, 32768, 0), (101, 8, 1, 0, 0), (102, 0, 0, 2, 0), (103, 1, 69, 10, 27), (106, 2, 0, 32770, 2), (107, 0, 0, 2, 0), (108, 1, 274, 10, 38), (111, 12, 2, 0, 0), (112, 2, 0, 32769, 1), (113, 12, 0, 0, 0), (114, 2, 0, 32768, 0), (115, 8, 1, 0, 0), (116, 0, 0, 2, 0), (117, 1, 73, 10, 28), (120, 0, 0, 2, 0), (121, 1, 274, 10, 38), (124, 2, 0, 32768, 0), (125, 8, 1, 0, 0), (126, 0, 0, 2, 0), (127, 1, 76, 10, 29), (130, 0, 0, 2, 0), (131, 1, 274, 10, 38), (134, 2, 0, 32768, 0), (135, 8, 1, 0, 0), (136, 0, 0, 2, 0), (137, 2, 2, 33328, 560), (140, 0, 0, 2, 0), (141, 1, 274, 10, 38), (144, 12, 2, 0, 0), (145, 14, 277, 10, 312), (148, 10, 1, 0, 0)], 1, 0, 0, 12, 1)
def fm_25 : fx_M := ([(0, 2, 0, 32768, 0), (1, 11, 1, 0, 0), (2, 0, 1, 0, 0), (3, 2, 1, 32785, 17), (5, 3, 3, 21, 0), (8, 0, 0, 2, 0), (9, 1, 101, 10, 50), (12, 0, 1, 0, 0), (13, 2, 0, 32768, 0), (14, 8, 0, 0, 0), (15, 7, 1, 1, 0), (18, 5, 0, 2, 0), (21, 2, 0, 32768, 0), (22, 11, 1, 0, 0), (23, 0, 1, 0, 0), (24, 2, 1, 32775, 7), (26, 3, 3, 45, 0), (29, 0, 0, 2, 0), (30, 1, 101, 10, 50), (33, 2, 1, 32775, 7), (35, 0, 1, 0, 0), (36, 12, 0, 0, 0), (37, 2, 0, 32767, 4294967295), (38, 8, 0, 0, 0), (39, 7, 1, 1, 0), (42, 5, 0, 23, 0), (45, 2, 0, 32768, 0), (46, 11, 1, 0, 0), (47, 0, 1, 0, 0), (48, 0, 0, 2, 0), (49, 9, 0, 391, 26), (52, 3, 3, 106, 0), (106, 0, 0, 2, 0), (107, 1, 101, 10, 50), (110, 2, 1, 32784, 16), (112, 0, 0, 2, 0), (113, 1, 45, 10, 19), (116, 0, 0, 2, 0), (117, 1, 283, 10, 37), (120, 6, 0, 0, 0), (121, 8, 0, 0, 0), (122, 0, 0, 2, 0), (123, 2, 0, 32768, 0), (124, 14, 401, 10, 424), (127, 0, 0, 2, 0), (128, 2, 0, 32768, 0), (129, 14, 404, 10, 432), (132, 0, 0, 2, 0), (133, 2, 0, 32768, 0), (134, 14, 407, 10, 552), (137, 0, 0, 2, 0), (138, 2, 0, 32768, 0), (139, 14, 410, 10, 456), (142, 2, 0, 32768, 0), (143, 11, 1, 0, 0), (144, 0, 1, 0, 0), (145, 2, 0, 32771, 3), (146, 3, 3, 162, 0), (149, 0, 0, 2, 0), (150, 1, 152, 10, 72), (153, 0, 1, 0, 0), (154, 2, 0, 32768, 0), (155, 8, 1, 0, 0), (156, 7, 1, 1, 0), (159, 5, 0, 144, 0), (162, 10, 1, 0, 0)], 1, 0, 0, 12, 2)
def fm_26 : fx_M := ([(0, 0, 0, 2, 0), (1, 1, 33, 10, 15), (4, 0, 0, 2, 0), (5, 1, 283, 10, 37), (8, 6, 0, 0, 0), (9, 10, 0, 1, 0)], 1, 0, 0, 12, 1)
def fm_27 : fx_M := ([(0, 0, 0, 2, 0), (1, 1, 10, 9, 0), (4, 1, 93, 4, 0), (7, 11, 6, 3, 0), (9, 0, 6, 3, 0), (11, 1, 97, 7, 3), (14, 2, 2, 34348, 1580), (17, 3, 5, 22, 0), (22, 0, 6, 3, 0), (24, 0, 1, 0, 0), (25, 9, 0, 102, 28), (28, 0, 6, 3, 0), (30, 0, 2, 0, 0), (31, 9, 0, 102, 28), (34, 0, 6, 3, 0), (36, 0, 3, 0, 0), (37, 9, 0, 102, 28), (40, 0, 6, 3, 0), (42, 0, 4, 1, 0), (44, 9, 0, 102, 28), (47, 0, 6, 3, 0), (49, 0, 5, 1, 0), (51, 9, 0, 102, 28), (54, 0, 6, 3, 0), (56, 1, 97, 7, 3), (59, 10, 0, 1, 0)], 6, 0, 0, 11, 7)
def fm_28 : fx_M := ([(0, 2, 1, 32792, 24), (2, 11, 2, 0, 0), (3, 0, 2, 0, 0), (4, 4, 2, 48, 0), (7, 0, 0, 2, 0), (8, 1, 23, 7, 3), (11, 0, 0, 2, 0), (12, 1, 9, 7, 0), (15, 18, 0, 0, 0), (16, 3, 3, 48, 0), (19, 0, 0, 2, 0), (20, 1, 9, 7, 0), (23, 0, 0, 2, 0), (24, 1, 23, 7, 3), (27, 0, 1, 0, 0), (28, 0, 2, 0, 0), (29, 12, 9, 0, 0), (30, 13, 1, 0, 0), (31, 8, 1, 0, 0), (32, 0, 0, 2, 0), (33, 15, 0, 0, 0), (34, 1, 23, 7, 3), (37, 2, 0, 32769, 1), (38, 12, 0, 0, 0), (39, 14, 23, 7, 24), (42, 7, 2, 4294967288, 0), (45, 5, 0, 3, 0), (48, 10, 1, 0, 0)], 2, 0, 0, 9, 3)
def fm_29 : fx_M := ([(0, 0, 0, 2, 0), (1, 1, 280, 10, 2), (4, 2, 1, 32788, 20), (6, 12, 0, 0, 0), (7, 2, 2, 34368, 1600), (10, 3, 5, 15, 0), (15, 2, 0, 32768, 0), (16, 11, 6, 1, 0), (18, 0, 6, 1, 0), (20, 2, 1, 32788, 20), (22, 3, 3, 105, 0), (25, 0, 6, 1, 0), (27, 2, 0, 32772, 4), (28, 3, 3, 35, 0), (31, 0, 1, 0, 0), (32, 5, 0, 71, 0), (35, 0, 6, 1, 0), (37, 2, 1, 32776, 8), (39, 3, 3, 46, 0), (42, 0, 2, 0, 0), (43, 5, 0, 71, 0), (46, 0, 6, 1, 0), (48, 2, 1, 32780, 12), (50, 3, 3, 57, 0), (53, 0, 3, 0, 0), (54, 5, 0, 71, 0), (57, 0, 6, 1, 0), (59, 2, 1, 32784, 16), (61, 3, 3, 69, 0), (64, 0, 4, 1, 0), (66, 5, 0, 71, 0), (69, 0, 5, 1, 0), (71, 11, 7, 1, 0), (73, 0, 0, 2, 0), (74, 1, 7, 10, 0), (77, 0, 0, 2, 0), (78, 1, 280, 10, 2), (81, 0, 6, 1, 0), (83, 12, 0, 0, 0), (84, 0, 7, 1, 0), (86, 2, 1, 32792, 24), (88, 2, 1, 32776, 8), (90, 0, 6, 1, 0), (92, 2, 0, 32771, 3), (93, 12, 5, 0, 0), (94, 12, 2, 0, 0), (95, 12, 1, 0, 0), (96, 12, 9, 0, 0), (97, 13, 1, 0, 0), (98, 8, 1, 0, 0), (99, 7, 6, 1, 0), (102, 5, 0, 18, 0), (105, 0, 0, 2, 0), (106, 15, 0, 0, 0), (107, 1, 280, 10, 2), (110, 2, 1, 32788, 20), (112, 12, 0, 0, 0), (113, 14, 280, 10, 16), (116, 0, 0, 2, 0), (117, 1, 280, 10, 2), (120, 10, 0, 1, 0)], 6, 0, 0, 12, 8)
def fm_30 : fx_M := ([(0, 0, 1, 0, 0), (1, 4, 2, 18, 0), (4, 0, 1, 0, 0), (5, 0, 0, 2, 0), (6, 1, 10, 9, 0), (9, 1, 93, 4, 0), (12, 1, 97, 7, 3), (15, 3, 5, 20, 0), (18, 2, 0, 32767, 4294967295), (19, 10, 0, 1, 0), (20, 0, 0, 2, 0), (21, 1, 10, 9, 0), (24, 1, 93, 4, 0), (27, 0, 1, 0, 0), (28, 14, 97, 7, 24), (31, 0, 1, 0, 0), (32, 10, 0, 1, 0)], 2, 0, 0, 11, 2)
def fm_31 : fx_M := ([(0, 0, 1, 0, 0), (1, 4, 2, 12, 0), (4, 0, 1, 0, 0), (5, 0, 0, 2, 0), (6, 1, 280, 10, 2), (9, 3, 5, 14, 0), (12, 2, 0, 32767, 4294967295), (13, 10, 0, 1, 0), (14, 0, 0, 2, 0), (15, 0, 1, 0, 0), (16, 14, 280, 10, 16), (19, 0, 1, 0, 0), (20, 10, 0, 1, 0)], 2, 0, 0, 12, 2)
def fm_32 : fx_M := ([(0, 0, 0, 2, 0), (1, 1, 10, 9, 0), (4, 9, 0, 105, 33), (7, 0, 0, 2, 0), (8, 0, 0, 2, 0), (9, 1, 10, 9, 0), (12, 1, 108, 4, 2), (15, 14, 80, 9, 104), (18, 0, 0, 2, 0), (19, 0, 0, 2, 0), (20, 1, 10, 9, 0), (23, 1, 111, 4, 3), (26, 14, 83, 9, 112), (29, 0, 0, 2, 0), (30, 1, 80, 9, 13), (33, 4, 0, 38, 0), (38, 0, 0, 2, 0), (39, 1, 10, 9, 0), (42, 1, 112, 4, 1), (45, 11, 1, 2, 0), (46, 0, 0, 2, 0), (47, 1, 10, 9, 0), (50, 0, 0, 2, 0), (51, 1, 19, 9, 1), (54, 14, 112, 4, 12), (57, 0, 0, 2, 0), (58, 0, 1, 2, 0), (59, 14, 19, 9, 12), (62, 0, 0, 2, 0), (63, 1, 10, 9, 0), (66, 1, 93, 4, 0), (69, 2, 0, 32768, 0), (70, 14, 97, 7, 24), (73, 0, 0, 2, 0), (74, 1, 26, 9, 2), (77, 0, 0, 2, 0), (78, 1, 19, 9, 1), (81, 9, 0, 89, 22), (84, 0, 0, 2, 0), (85, 1, 33, 9, 3), (88, 9, 0, 113, 37), (91, 0, 0, 2, 0), (92, 1, 40, 9, 4), (95, 9, 0, 116, 38), (98, 0, 0, 2, 0), (99, 1, 49, 9, 5), (102, 9, 0, 119, 39), (105, 0, 0, 2, 0), (106, 1, 56, 9, 6), (109, 9, 0, 120, 40), (112, 0, 0, 2, 0), (113, 2, 0, 32768, 0), (114, 14, 73, 9, 88), (117, 0, 0, 2, 0), (118, 1, 19, 9, 1), (121, 1, 121, 3, 12), (124, 10, 0, 1, 0)], 1, 0, 0, 11, 2)
def fm_33 : fx_M := ([(0, 0, 0, 2, 0), (1, 1, 21, 4, 1), (4, 9, 0, 32, 13), (7, 0, 0, 2, 0), (8, 2, 0, 32768, 0), (9, 14, 25, 4, 16), (12, 0, 0, 2, 0), (13, 2, 0, 32767, 4294967295), (14, 14, 29, 4, 24), (17, 0, 0, 2, 0), (18, 1, 12, 4, 0), (21, 9, 0, 35, 34), (24, 2, 0, 32769, 1), (25, 11, 1, 0, 0), (26, 2, 0, 32768, 0), (27, 11, 2, 0, 0), (28, 0, 2, 0, 0), (29, 2, 2, 34368, 1600), (32, 3, 3, 69, 0), (35, 0, 1, 0, 0), (36, 4, 0, 69, 0), (39, 0, 0, 2, 0), (40, 1, 12, 4, 0), (43, 1, 38, 7, 4), (46, 4, 0, 69, 0), (69, 10, 1, 0, 0)], 1, 0, 0, 6, 3)
def fm_34 : fx_M := ([(0, 0, 0, 2, 0), (1, 2, 0, 32768, 0), (2, 14, 19, 7, 16), (5, 0, 0, 2, 0), (6, 9, 0, 54, 35), (9, 10, 1, 0, 0)], 1, 0, 0, 9, 1)
def fm_35 : fx_M := ([(0, 0, 0, 2, 0), (1, 0, 0, 2, 0), (2, 1, 19, 7, 2), (5, 14, 29, 7, 40), (8, 0, 0, 2, 0), (9, 1, 29, 7, 5), (12, 11, 1, 0, 0), (13, 0, 1, 0, 0), (14, 2, 2, 34368, 1600), (17, 3, 3, 63, 0), (20, 0, 0, 2, 0), (21, 0, 1, 0, 0), (22, 9, 0, 57, 36), (25, 4, 0, 63, 0), (63, 0, 0, 2, 0), (64, 0, 0, 2, 0), (65, 1, 29, 7, 5), (68, 9, 0, 57, 36), (71, 4, 0, 90, 0), (90, 2, 0, 32767, 4294967295), (91, 11, 1, 0, 0), (92, 0, 1, 0, 0), (93, 2, 0, 32767, 4294967295), (94, 3, 1, 105, 0), (97, 0, 0, 2, 0), (98, 2, 0, 32768, 0), (99, 14, 26, 7, 32), (102, 5, 0, 162, 0), (162, 10, 1, 0, 0)], 1, 0, 0, 9, 2)
def fm_36 : fx_M := ([(0, 0, 1, 0, 0), (1, 4, 2, 25, 0), (4, 0, 1, 0, 0), (5, 0, 0, 2, 0), (6, 1, 23, 7, 3), (9, 3, 3, 25, 0), (25, 2, 0, 32768, 0), (26, 10, 0, 2, 0)], 2, 0, 0, 9, 2)
def fm_37 : fx_M := ([(0, 0, 0, 2, 0), (1, 1, 40, 8, 8), (4, 2, 0, 32768, 0), (5, 9, 2, 147, 14), (8, 10, 1, 0, 0)], 1, 0, 0, 10, 1)
def fm_38 : fx_M := ([(0, 0, 0, 2, 0), (1, 2, 0, 32768, 0), (2, 14, 20, 0, 8), (5, 0, 0, 2, 0), (6, 2, 0, 32768, 0), (7, 14, 24, 0, 16), (10, 10, 1, 0, 0)], 1, 0, 0, 2, 1)
def fm_39 : fx_M := ([(0, 2, 0, 32768, 0), (1, 11, 1, 0, 0), (2, 0, 1, 0, 0), (3, 0, 0, 2, 0), (4, 1, 25, 5, 2), (7, 18, 0, 0, 0), (8, 3, 3, 24, 0), (11, 0, 0, 2, 0), (12, 1, 25, 5, 2), (15, 0, 1, 0, 0), (16, 2, 0, 32768, 0), (17, 8, 1, 0, 0), (18, 7, 1, 1, 0), (21, 5, 0, 2, 0), (24, 10, 1, 0, 0)], 1, 0, 0, 7, 2)
def fm_40 : fx_M := ([(0, 0, 0, 2, 0), (1, 2, 0, 32768, 0), (2, 14, 31, 2, 48), (5, 10, 1, 0, 0)], 1, 0, 0, 4, 1)
def fm_41 : fx_M := ([(0, 0, 0, 2, 0), (1, 2, 0, 32768, 0), (2, 14, 164, 10, 32), (5, 0, 0, 2, 0), (6, 2, 0, 32767, 4294967295), (7, 14, 16, 10, 40), (10, 0, 0, 2, 0), (11, 0, 0, 2, 0), (12, 1, 280, 10, 2), (15, 14, 161, 10, 24), (18, 2, 0, 32768, 0), (19, 11, 1, 0, 0), (20, 0, 1, 0, 0), (21, 0, 0, 2, 0), (22, 1, 161, 10, 3), (25, 3, 3, 46, 0), (46, 0, 0, 2, 0), (47, 2, 0, 32768, 0), (48, 14, 280, 10, 16), (51, 0, 0, 2, 0), (52, 2, 0, 32768, 0), (53, 14, 215, 10, 56), (56, 0, 0, 2, 0), (57, 2, 0, 32769, 1), (58, 0, 0, 2, 0), (59, 1, 283, 10, 37), (62, 12, 1, 0, 0), (63, 14, 274, 10, 304), (66, 0, 0, 2, 0), (67, 9, 0, 155, 24), (70, 0, 0, 2, 0), (71, 9, 0, 257, 42), (74, 0, 0, 2, 0), (75, 9, 0, 253, 44), (78, 4, 0, 95, 0), (81, 0, 0, 2, 0), (82, 1, 225, 10, 8), (85, 4, 0, 95, 0), (95, 0, 0, 2, 0), (96, 9, 0, 253, 44), (99, 4, 1, 104, 0), (104, 0, 0, 2, 0), (105, 0, 0, 2, 0), (106, 1, 274, 10, 38), (109, 14, 283, 10, 296), (112, 0, 0, 2, 0), (113, 9, 0, 158, 25), (116, 0, 0, 2, 0), (117, 1, 33, 10, 15), (120, 0, 0, 2, 0), (121, 1, 283, 10, 37), (124, 6, 0, 0, 0), (125, 10, 0, 1, 0)], 1, 0, 0, 12, 2)
def fm_42 : fx_M := ([(0, 0, 0, 2, 0), (1, 0, 0, 2, 0), (2, 1, 215, 10, 7), (5, 14, 218, 10, 48), (8, 0, 0, 2, 0), (9, 1, 218, 10, 6), (12, 0, 0, 2, 0), (13, 1, 161, 10, 3), (16, 3, 3, 58, 0), (58, 0, 0, 2, 0), (59, 0, 0, 2, 0), (60, 1, 218, 10, 6), (63, 9, 0, 221, 43), (66, 11, 1, 0, 0), (67, 0, 0, 2, 0), (68, 0, 0, 2, 0), (69, 1, 218, 10, 6), (72, 2, 0, 32769, 1), (73, 12, 0, 0, 0), (74, 14, 215, 10, 56), (77, 0, 0, 2, 0), (78, 1, 218, 10, 6), (81, 0, 0, 2, 0), (82, 1, 161, 10, 3), (85, 3, 2, 112, 0), (88, 0, 0, 2, 0), (89, 2, 0, 32768, 0), (90, 14, 225, 10, 64), (93, 0, 0, 2, 0), (94, 0, 0, 2, 0), (95, 1, 161, 10, 3), (98, 14, 218, 10, 48), (101, 0, 0, 2, 0), (102, 0, 0, 2, 0), (103, 1, 161, 10, 3), (106, 14, 215, 10, 56), (109, 5, 0, 377, 0), (377, 10, 1, 0, 0)], 1, 0, 0, 12, 3)
def fm_43 : fx_M := ([(0, 0, 1, 0, 0), (1, 0, 0, 2, 0), (2, 1, 161, 10, 3), (5, 3, 3, 21, 0), (21, 2, 0, 32768, 0), (22, 10, 0, 1, 0)], 2, 0, 0, 12, 2)
def fm_44 : fx_M := ([(0, 0, 0, 2, 0), (1, 1, 164, 10, 4), (4, 4, 1, 11, 0), (7, 2, 0, 32769, 1), (8, 5, 0, 12, 0), (12, 10, 0, 2, 0)], 1, 0, 0, 12, 1)
def fm_45 : fx_M := ([(0, 0, 1, 0, 0), (1, 21, 38, 0, 1), (28, 0, 0, 2, 0), (29, 1, 80, 9, 13), (32, 10, 0, 1, 0), (33, 0, 0, 2, 0), (34, 1, 83, 9, 14), (37, 10, 0, 1, 0), (38, 2, 0, 32767, 4294967295), (39, 10, 0, 1, 0)], 2, 0, 0, 11, 2)
def fm_46 : fx_M := ([(0, 0, 1, 0, 0), (1, 4, 1, 11, 0), (4, 0, 0, 2, 0), (5, 1, 164, 10, 4), (8, 5, 0, 24, 0), (11, 0, 1, 0, 0), (12, 2, 0, 32769, 1), (13, 3, 1, 23, 0), (16, 0, 0, 2, 0), (17, 1, 16, 10, 5), (20, 5, 0, 24, 0), (23, 2, 0, 32767, 4294967295), (24, 10, 0, 1, 0)], 2, 0, 0, 12, 2)
def fm_47 : fx_M := ([(0, 0, 0, 2, 0), (1, 0, 1, 0, 0), (2, 9, 0, 124, 48), (5, 4, 1, 11, 0), (8, 2, 1, 32766, 4294967294), (10, 10, 0, 1, 0)], 3, 0, 0, 11, 3)
def fm_48 : fx_M := ([(0, 0, 1, 0, 0), (1, 4, 2, 25, 0), (4, 0, 1, 0, 0), (5, 0, 0, 2, 0), (6, 1, 19, 9, 1), (9, 1, 121, 3, 12), (12, 3, 3, 25, 0), (25, 2, 0, 32768, 0), (26, 10, 0, 2, 0)], 2, 0, 0, 11, 2)
def fm_49 : fx_M := ([(0, 0, 0, 2, 0), (1, 0, 1, 0, 0), (2, 9, 0, 444, 50), (5, 4, 1, 11, 0), (8, 2, 1, 32766, 4294967294), (10, 10, 0, 1, 0)], 3, 0, 0, 12, 3)
def fm_50 : fx_M := ([(0, 0, 1, 0, 0), (1, 2, 0, 32768, 0), (2, 0, 0, 2, 0), (3, 9, 0, 391, 26), (6, 2, 0, 32769, 1), (7, 12, 1, 0, 0), (8, 9, 2, 394, 51), (11, 10, 0, 2, 0)], 2, 0, 0, 12, 2)
def fm_51 : fx_M := ([(0, 0, 0, 0, 0), (1, 0, 1, 0, 0), (2, 3, 2, 14, 0), (5, 0, 0, 0, 0), (6, 0, 2, 0, 0), (7, 3, 4, 14, 0), (10, 2, 0, 32769, 1), (11, 5, 0, 15, 0), (14, 2, 0, 32768, 0), (15, 10, 0, 2, 0)], 3, 0, 0, 0, 3)
def fm_52 : fx_M := ([(0, 0, 1, 0, 0), (1, 4, 2, 15, 0), (4, 0, 1, 0, 0), (5, 0, 0, 2, 0), (6, 1, 19, 9, 1), (9, 1, 157, 3, 11), (12, 3, 2, 17, 0), (15, 2, 0, 32767, 4294967295), (16, 10, 0, 1, 0)], 3, 0, 0, 11, 3)
def fm_53 : fx_M := ([(0, 0, 1, 0, 0), (1, 2, 0, 32768, 0), (2, 0, 0, 2, 0), (3, 1, 30, 10, 14), (6, 0, 0, 2, 0), (7, 1, 283, 10, 37), (10, 6, 0, 0, 0), (11, 2, 0, 32769, 1), (12, 12, 1, 0, 0), (13, 9, 2, 394, 51), (16, 4, 1, 21, 0), (19, 2, 0, 32767, 4294967295), (20, 10, 0, 1, 0)], 3, 0, 0, 12, 3)
def fm_54 : fx_M := ([(0, 0, 0, 2, 0), (1, 0, 1, 0, 0), (2, 9, 0, 170, 55), (5, 4, 1, 11, 0), (8, 2, 1, 32766, 4294967294), (10, 10, 0, 1, 0), (11, 0, 2, 0, 0), (12, 21, 80, 0, 2), (40, 0, 0, 2, 0), (41, 1, 26, 9, 2), (44, 0, 1, 0, 0), (45, 9, 0, 173, 60), (48, 10, 0, 1, 0), (49, 0, 0, 2, 0), (50, 1, 33, 9, 3), (53, 0, 0, 2, 0), (54, 1, 19, 9, 1), (57, 0, 0, 2, 0), (58, 1, 26, 9, 2), (61, 9, 0, 128, 62), (64, 0, 0, 2, 0), (65, 1, 33, 9, 3), (68, 0, 1, 0, 0), (69, 0, 0, 2, 0), (70, 1, 26, 9, 2), (73, 1, 150, 6, 3), (76, 9, 0, 153, 66), (79, 10, 0, 1, 0), (80, 2, 1, 32766, 4294967294), (82, 10, 0, 1, 0)], 3, 0, 0, 11, 3)
def fm_55 : fx_M := ([(0, 0, 1, 0, 0), (1, 4, 2, 19, 0), (4, 0, 1, 0, 0), (5, 0, 0, 2, 0), (6, 1, 19, 9, 1), (9, 9, 0, 261, 59), (12, 3, 3, 19, 0), (15, 2, 0, 32769, 1), (16, 5, 0, 20, 0), (19, 2, 0, 32768, 0), (20, 10, 0, 2, 0)], 2, 0, 0, 11, 2)
def fm_56 : fx_M := ([(0, 0, 0, 2, 0), (1, 0, 1, 0, 0), (2, 9, 0, 453, 57), (5, 4, 1, 11, 0), (8, 2, 1, 32766, 4294967294), (10, 10, 0, 1, 0), (11, 0, 2, 0, 0), (12, 21, 52, 0, 3), (40, 0, 0, 2, 0), (41, 0, 1, 0, 0), (42, 9, 0, 456, 61), (45, 10, 0, 1, 0), (46, 0, 0, 2, 0), (47, 0, 1, 0, 0), (48, 9, 0, 426, 70), (51, 10, 0, 1, 0), (52, 2, 1, 32766, 4294967294), (54, 10, 0, 1, 0)], 3, 0, 0, 12, 3)
def fm_57 : fx_M := ([(0, 0, 1, 0, 0), (1, 2, 0, 32768, 0), (2, 0, 0, 2, 0), (3, 9, 0, 398, 58), (6, 2, 0, 32769, 1), (7, 12, 1, 0, 0), (8, 9, 2, 394, 51), (11, 10, 0, 2, 0)], 2, 0, 0, 12, 2)
def fm_58 : fx_M := ([(0, 0, 0, 2, 0), (1, 1, 20, 10, 11), (4, 0, 0, 2, 0), (5, 1, 283, 10, 37), (8, 6, 0, 0, 0), (9, 0, 0, 2, 0), (10, 1, 24, 10, 12), (13, 0, 0, 2, 0), (14, 1, 283, 10, 37), (17, 6, 0, 0, 0), (18, 12, 2, 0, 0), (19, 10, 0, 1, 0)], 1, 0, 0, 12, 1)
def fm_59 : fx_M := ([(0, 0, 0, 2, 0), (1, 1, 44, 3, 9), (4, 0, 0, 2, 0), (5, 1, 48, 3, 10), (8, 12, 2, 0, 0), (9, 2, 1, 32784, 16), (11, 29, 87, 1, 0), (14, 10, 0, 1, 0)], 1, 0, 0, 5, 1)
def fm_60 : fx_M := ([(0, 2, 0, 32768, 0), (1, 11, 2, 0, 0), (2, 0, 2, 0, 0), (3, 2, 1, 32775, 7), (5, 3, 3, 26, 0), (8, 0, 0, 2, 0), (9, 1, 15, 6, 1), (12, 0, 2, 0, 0), (13, 6, 0, 0, 0), (14, 0, 1, 0, 0), (15, 3, 1, 20, 0), (20, 7, 2, 1, 0), (23, 5, 0, 2, 0), (26, 2, 0, 32767, 4294967295), (27, 10, 0, 1, 0)], 2, 0, 0, 8, 3)
def fm_61 : fx_M := ([(0, 2, 0, 32768, 0), (1, 11, 2, 0, 0), (2, 0, 2, 0, 0), (3, 0, 0, 2, 0), (4, 9, 0, 391, 26), (7, 3, 3, 31, 0), (31, 2, 0, 32767, 4294967295), (32, 10, 0, 1, 0)], 2, 0, 0, 12, 3)
def fm_62 : fx_M := ([(0, 0, 0, 2, 0), (1, 0, 1, 2, 0), (2, 14, 46, 8, 84), (5, 0, 0, 2, 0), (6, 1, 12, 8, 0), (9, 0, 2, 2, 0), (10, 9, 0, 50, 63), (13, 0, 0, 2, 0), (14, 9, 0, 54, 64), (17, 10, 1, 0, 0)], 3, 0, 0, 10, 3)
def fm_63 : fx_M := ([(0, 0, 1, 2, 0), (1, 1, 9, 6, 0), (4, 2, 0, 32768, 0), (5, 0, 0, 2, 0), (6, 1, 9, 6, 0), (9, 2, 0, 32768, 0), (10, 2, 1, 32775, 7), (12, 23, 31, 0, 0), (15, 0, 1, 2, 0), (16, 1, 15, 6, 1), (19, 2, 0, 32768, 0), (20, 0, 0, 2, 0), (21, 1, 15, 6, 1), (24, 2, 0, 32768, 0), (25, 2, 1, 32775, 7), (27, 23, 31, 0, 0), (30, 0, 0, 2, 0), (31, 0, 1, 2, 0), (32, 1, 18, 6, 2), (35, 14, 18, 6, 16), (38, 0, 0, 2, 0), (39, 0, 1, 2, 0), (40, 1, 22, 6, 3), (43, 14, 22, 6, 24), (46, 0, 0, 2, 0), (47, 0, 1, 2, 0), (48, 1, 25, 6, 4), (51, 14, 25, 6, 32), (54, 10, 1, 0, 0)], 2, 0, 0, 8, 2)
def fm_64 : fx_M := ([(0, 0, 0, 2, 0), (1, 1, 46, 8, 10), (4, 19, 1, 11, 0), (11, 0, 0, 2, 0), (12, 1, 46, 8, 10), (15, 1, 57, 3, 9), (18, 2, 0, 32769, 1), (19, 29, 62, 0, 0), (22, 11, 1, 0, 0), (23, 2, 0, 32768, 0), (24, 11, 2, 0, 0), (25, 0, 2, 0, 0), (26, 2, 1, 32775, 7), (28, 3, 3, 69, 0), (31, 0, 0, 2, 0), (32, 1, 12, 8, 0), (35, 1, 68, 6, 1), (38, 0, 2, 0, 0), (39, 6, 0, 0, 0), (40, 2, 0, 32768, 0), (41, 29, 62, 0, 0), (44, 11, 3, 0, 0), (45, 0, 0, 2, 0), (46, 1, 22, 8, 2), (49, 0, 2, 0, 0), (50, 0, 3, 0, 0), (51, 0, 1, 0, 0), (52, 12, 3, 0, 0), (53, 8, 0, 0, 0), (54, 0, 0, 2, 0), (55, 1, 25, 8, 3), (58, 0, 2, 0, 0), (59, 0, 3, 0, 0), (60, 0, 1, 0, 0), (61, 12, 4, 0, 0), (62, 8, 0, 0, 0), (63, 7, 2, 1, 0), (66, 5, 0, 25, 0), (69, 2, 0, 32768, 0), (70, 11, 2, 0, 0), (71, 0, 2, 0, 0), (72, 2, 1, 32775, 7), (74, 3, 3, 129, 0), (77, 2, 0, 32768, 0), (78, 11, 3, 0, 0), (79, 2, 0, 32768, 0), (80, 11, 4, 1, 0), (82, 0, 4, 1, 0), (84, 2, 1, 32775, 7), (86, 3, 3, 116, 0), (89, 0, 3, 0, 0), (90, 0, 0, 2, 0), (91, 0, 2, 0, 0), (92, 0, 4, 1, 0), (94, 9, 0, 71, 65), (97, 4, 0, 107, 0), (107, 2, 0, 32768, 0), (108, 12, 6, 0, 0), (109, 11, 3, 0, 0), (110, 7, 4, 1, 0), (113, 5, 0, 82, 0), (116, 0, 0, 2, 0), (117, 1, 18, 8, 1), (120, 0, 2, 0, 0), (121, 0, 3, 0, 0), (122, 8, 0, 0, 0), (123, 7, 2, 1, 0), (126, 5, 0, 71, 0), (129, 10, 1, 0, 0)], 1, 0, 0, 10, 5)
def fm_65 : fx_M := ([(0, 0, 0, 2, 0), (1, 1, 12, 8, 0), (4, 1, 68, 6, 1), (7, 0, 1, 0, 0), (8, 6, 0, 0, 0), (9, 2, 0, 32767, 4294967295), (10, 3, 0, 67, 0), (67, 2, 0, 32768, 0), (68, 10, 0, 2, 0)], 3, 0, 0, 10, 3)
def fm_66 : fx_M := ([(0, 0, 0, 2, 0), (1, 1, 46, 8, 10), (4, 19, 0, 21, 0), (7, 0, 1, 0, 0), (8, 4, 2, 21, 0), (11, 0, 1, 0, 0), (12, 2, 1, 32784, 16), (14, 3, 3, 21, 0), (17, 0, 2, 0, 0), (18, 4, 3, 23, 0), (23, 0, 2, 0, 0), (24, 2, 1, 32832, 64), (26, 12, 4, 0, 0), (27, 2, 1, 32784, 16), (29, 12, 2, 0, 0), (30, 0, 1, 0, 0), (31, 12, 0, 0, 0), (32, 11, 3, 0, 0), (33, 0, 0, 2, 0), (34, 1, 40, 8, 8), (37, 0, 3, 0, 0), (38, 6, 0, 0, 0), (39, 0, 2, 0, 0), (40, 2, 0, 32769, 1), (41, 12, 0, 0, 0), (42, 3, 0, 122, 0), (45, 0, 0, 2, 0), (46, 1, 46, 8, 10), (49, 1, 57, 3, 9), (52, 2, 0, 32769, 1), (53, 29, 62, 0, 0), (56, 11, 4, 1, 0), (58, 0, 0, 2, 0), (59, 1, 37, 8, 7), (62, 2, 1, 32774, 6), (64, 0, 2, 0, 0), (65, 8, 0, 0, 0), (66, 0, 0, 2, 0), (67, 1, 37, 8, 7), (70, 2, 1, 32775, 7), (72, 0, 1, 0, 0), (73, 0, 4, 1, 0), (75, 12, 3, 0, 0), (76, 8, 0, 0, 0), (77, 0, 0, 2, 0), (78, 1, 37, 8, 7), (81, 2, 1, 32776, 8), (83, 0, 1, 0, 0), (84, 0, 4, 1, 0), (86, 12, 4, 0, 0), (87, 8, 0, 0, 0), (88, 0, 0, 2, 0), (89, 1, 43, 8, 9), (92, 0, 3, 0, 0), (93, 0, 0, 2, 0), (94, 1, 46, 8, 10), (97, 1, 144, 3, 8), (100, 0, 0, 2, 0), (101, 1, 37, 8, 7), (104, 9, 0, 126, 67), (107, 2, 1, 32777, 9), (109, 9, 4, 132, 69), (112, 8, 0, 0, 0), (113, 0, 0, 2, 0), (114, 1, 40, 8, 8), (117, 0, 3, 0, 0), (118, 0, 2, 0, 0), (119, 2, 0, 32769, 1), (120, 12, 0, 0, 0), (121, 8, 0, 0, 0), (122, 0, 0, 2, 0), (123, 1, 43, 8, 9), (126, 0, 3, 0, 0), (127, 6, 0, 0, 0), (128, 10, 0, 1, 0)], 3, 0, 0, 10, 5)
def fm_67 : fx_M := ([(0, 2, 0, 32768, 0), (1, 11, 2, 0, 0), (2, 2, 0, 32768, 0), (3, 11, 3, 0, 0), (4, 0, 3, 0, 0), (5, 0, 0, 2, 0), (6, 1, 18, 1, 2), (9, 3, 3, 149, 0), (12, 0, 3, 0, 0), (13, 0, 0, 2, 0), (14, 1, 9, 1, 0), (17, 18, 0, 0, 0), (18, 3, 3, 149, 0), (21, 0, 0, 2, 0), (22, 1, 9, 1, 0), (25, 0, 3, 0, 0), (26, 6, 0, 0, 0), (27, 11, 4, 1, 0), (29, 0, 4, 1, 0), (31, 2, 1, 32800, 32), (33, 3, 3, 43, 0), (43, 0, 2, 0, 0), (44, 0, 0, 2, 0), (45, 1, 15, 1, 1), (48, 18, 0, 0, 0), (49, 3, 3, 143, 0), (52, 0, 0, 2, 0), (53, 1, 15, 1, 1), (56, 0, 2, 0, 0), (57, 0, 4, 1, 0), (59, 0, 1, 2, 0), (60, 9, 2, 25, 68), (63, 8, 0, 0, 0), (64, 7, 2, 1, 0), (67, 5, 0, 143, 0), (143, 7, 3, 1, 0), (146, 5, 0, 4, 0), (149, 0, 2, 0, 0), (150, 4, 5, 162, 0), (153, 0, 0, 2, 0), (154, 1, 15, 1, 1), (157, 2, 0, 32768, 0), (158, 6, 0, 0, 0), (159, 5, 0, 163, 0), (163, 10, 0, 1, 0)], 2, 0, 0, 3, 5)
def fm_68 : fx_M := ([(0, 0, 0, 0, 0), (1, 2, 1, 32800, 32), (3, 3, 2, 11, 0), (6, 0, 0, 0, 0), (7, 2, 1, 32800, 32), (9, 12, 1, 0, 0), (10, 10, 0, 1, 0)], 2, 0, 0, 0, 2)
def fm_69 : fx_M := ([(0, 2, 0, 32768, 0), (1, 0, 0, 0, 0), (2, 0, 1, 0, 0), (3, 29, 296, 1, 0), (6, 29, 293, 0, 0), (9, 10, 0, 1, 0)], 2, 0, 0, 0, 2)
def fm_70 : fx_M := ([(0, 0, 1, 0, 0), (1, 4, 3, 6, 0), (6, 0, 0, 2, 0), (7, 1, 69, 10, 27), (10, 2, 0, 32770, 2), (11, 0, 0, 2, 0), (12, 1, 283, 10, 37), (15, 12, 2, 0, 0), (16, 2, 0, 32769, 1), (17, 12, 0, 0, 0), (18, 6, 1, 0, 0), (19, 4, 1, 24, 0), (22, 2, 0, 32773, 5), (23, 10, 0, 1, 0)], 2, 0, 0, 12, 2)
def fm_71 : fx_M := ([(0, 0, 0, 2, 0), (1, 1, 26, 9, 2), (4, 9, 0, 176, 72), (7, 10, 0, 1, 0)], 1, 0, 0, 11, 1)
def fm_72 : fx_M := ([(0, 0, 0, 2, 0), (1, 2, 1, 32895, 127), (3, 9, 0, 41, 73), (6, 10, 0, 1, 0)], 1, 0, 0, 8, 1)
def fm_73 : fx_M := ([(0, 2, 0, 32768, 0), (1, 11, 2, 0, 0), (2, 2, 0, 32768, 0), (3, 11, 3, 0, 0), (4, 0, 3, 0, 0), (5, 2, 1, 32775, 7), (7, 3, 3, 38, 0), (10, 0, 2, 0, 0), (11, 0, 1, 0, 0), (12, 0, 3, 0, 0), (13, 12, 9, 0, 0), (14, 2, 0, 32769, 1), (15, 12, 5, 0, 0), (16, 2, 0, 32769, 1), (17, 3, 1, 29, 0), (20, 0, 0, 2, 0), (21, 1, 9, 6, 0), (24, 0, 3, 0, 0), (25, 6, 0, 0, 0), (26, 5, 0, 30, 0), (30, 12, 0, 0, 0), (31, 11, 2, 0, 0), (32, 7, 3, 1, 0), (35, 5, 0, 4, 0), (38, 0, 2, 0, 0), (39, 10, 0, 1, 0)], 2, 0, 0, 8, 4)
def fm_74 : fx_M := ([(0, 0, 0, 2, 0), (1, 9, 0, 462, 75), (4, 10, 0, 1, 0)], 1, 0, 0, 12, 1)
def fm_75 : fx_M := ([(0, 0, 0, 2, 0), (1, 0, 0, 2, 0), (2, 9, 0, 459, 76), (5, 9, 0, 432, 77), (8, 10, 0, 1, 0)], 1, 0, 0, 12, 1)
def fm_76 : fx_M := ([(0, 2, 0, 32769, 1), (1, 0, 0, 2, 0), (2, 9, 0, 391, 26), (5, 12, 8, 0, 0), (6, 2, 0, 32769, 1), (7, 12, 1, 0, 0), (8, 10, 0, 1, 0)], 1, 0, 0, 12, 1)
def fm_77 : fx_M := ([(0, 2, 0, 32768, 0), (1, 11, 2, 0, 0), (2, 2, 0, 32768, 0), (3, 11, 3, 0, 0), (4, 0, 3, 0, 0), (5, 0, 0, 2, 0), (6, 9, 0, 391, 26), (9, 3, 3, 41, 0), (41, 0, 2, 0, 0), (42, 10, 0, 1, 0)], 2, 0, 0, 12, 4)
def fm_78 : fx_M := ([(0, 0, 0, 2, 0), (1, 1, 19, 9, 1), (4, 0, 0, 2, 0), (5, 1, 26, 9, 2), (8, 9, 0, 180, 79), (11, 10, 0, 1, 0)], 1, 0, 0, 11, 1)
def fm_79 : fx_M := ([(0, 2, 0, 32768, 0), (1, 11, 2, 0, 0), (2, 2, 0, 32768, 0), (3, 11, 3, 0, 0), (4, 0, 3, 0, 0), (5, 0, 0, 2, 0), (6, 1, 51, 3, 11), (9, 3, 3, 27, 0), (27, 0, 2, 0, 0), (28, 10, 0, 1, 0)], 2, 0, 0, 5, 4)
def fm_80 : fx_M := ([(0, 0, 0, 2, 0), (1, 9, 0, 465, 81), (4, 10, 0, 1, 0)], 1, 0, 0, 12, 1)
def fm_81 : fx_M := ([(0, 2, 0, 32768, 0), (1, 11, 1, 0, 0), (2, 2, 0, 32768, 0), (3, 11, 2, 0, 0), (4, 0, 2, 0, 0), (5, 0, 0, 2, 0), (6, 1, 30, 10, 14), (9, 0, 0, 2, 0), (10, 1, 283, 10, 37), (13, 6, 0, 0, 0), (14, 3, 3, 31, 0), (31, 0, 1, 0, 0), (32, 10, 0, 1, 0)], 1, 0, 0, 12, 3)
def fm_82 : fx_M := ([(0, 0, 0, 2, 0), (1, 1, 26, 9, 2), (4, 1, 150, 6, 3), (7, 2, 2, 33767, 999), (10, 3, 2, 15, 0), (15, 0, 0, 2, 0), (16, 1, 40, 9, 4), (19, 0, 0, 2, 0), (20, 1, 26, 9, 2), (23, 9, 0, 184, 83), (26, 0, 0, 2, 0), (27, 1, 33, 9, 3), (30, 0, 0, 2, 0), (31, 1, 19, 9, 1), (34, 0, 0, 2, 0), (35, 1, 26, 9, 2), (38, 9, 0, 128, 62), (41, 0, 0, 2, 0), (42, 1, 33, 9, 3), (45, 9, 0, 188, 85), (48, 15, 1, 0, 0), (49, 0, 0, 2, 0), (50, 1, 33, 9, 3), (53, 9, 0, 191, 86), (56, 11, 1, 0, 0), (57, 0, 0, 2, 0), (58, 1, 26, 9, 2), (61, 0, 0, 2, 0), (62, 1, 33, 9, 3), (65, 1, 194, 8, 0), (68, 9, 0, 197, 63), (71, 0, 1, 0, 0), (72, 10, 0, 1, 0)], 1, 0, 0, 11, 2)
def fm_83 : fx_M := ([(0, 0, 0, 2, 0), (1, 1, 20, 0, 1), (4, 2, 1, 32808, 40), (6, 3, 2, 22, 0), (22, 0, 0, 2, 0), (23, 1, 14, 0, 0), (26, 0, 0, 2, 0), (27, 1, 20, 0, 1), (30, 0, 1, 2, 0), (31, 9, 0, 30, 84), (34, 0, 0, 2, 0), (35, 15, 0, 0, 0), (36, 1, 20, 0, 1), (39, 2, 0, 32769, 1), (40, 12, 0, 0, 0), (41, 14, 20, 0, 8), (44, 0, 0, 2, 0), (45, 2, 0, 32768, 0), (46, 14, 24, 0, 16), (49, 10, 1, 0, 0)], 2, 0, 0, 2, 2)
def fm_84 : fx_M := ([(0, 0, 1, 0, 0), (1, 4, 2, 12, 0), (4, 0, 1, 0, 0), (5, 0, 0, 2, 0), (6, 1, 15, 5, 0), (9, 3, 2, 13, 0), (13, 0, 1, 0, 0), (14, 2, 1, 32785, 17), (16, 12, 2, 0, 0), (17, 11, 3, 0, 0), (18, 0, 2, 2, 0), (19, 1, 29, 6, 0), (22, 2, 0, 32768, 0), (23, 0, 0, 2, 0), (24, 1, 21, 5, 1), (27, 0, 3, 0, 0), (28, 2, 1, 32775, 7), (30, 23, 34, 0, 0), (33, 0, 2, 2, 0), (34, 1, 40, 6, 1), (37, 2, 0, 32768, 0), (38, 0, 0, 2, 0), (39, 1, 21, 5, 1), (42, 0, 3, 0, 0), (43, 2, 1, 32775, 7), (45, 12, 0, 0, 0), (46, 2, 1, 32775, 7), (48, 23, 34, 0, 0), (51, 0, 0, 2, 0), (52, 1, 21, 5, 1), (55, 0, 3, 0, 0), (56, 2, 1, 32782, 14), (58, 12, 0, 0, 0), (59, 0, 2, 2, 0), (60, 1, 43, 6, 2), (63, 8, 0, 0, 0), (64, 0, 0, 2, 0), (65, 1, 21, 5, 1), (68, 0, 3, 0, 0), (69, 2, 1, 32783, 15), (71, 12, 0, 0, 0), (72, 0, 2, 2, 0), (73, 1, 46, 6, 3), (76, 8, 0, 0, 0), (77, 0, 0, 2, 0), (78, 1, 21, 5, 1), (81, 0, 3, 0, 0), (82, 2, 1, 32784, 16), (84, 12, 0, 0, 0), (85, 0, 2, 2, 0), (86, 1, 49, 6, 4), (89, 8, 0, 0, 0), (90, 0, 0, 2, 0), (91, 1, 25, 5, 2), (94, 0, 1, 0, 0), (95, 2, 0, 32769, 1), (96, 8, 1, 0, 0), (97, 10, 1, 0, 0)], 3, 0, 0, 7, 4)
def fm_85 : fx_M := ([(0, 0, 0, 2, 0), (1, 1, 46, 8, 10), (4, 19, 1, 9, 0), (9, 2, 0, 32768, 0), (10, 11, 1, 0, 0), (11, 2, 0, 32768, 0), (12, 11, 2, 0, 0), (13, 0, 2, 0, 0), (14, 0, 0, 2, 0), (15, 1, 46, 8, 10), (18, 1, 83, 3, 12), (21, 3, 3, 79, 0), (79, 0, 0, 2, 0), (80, 1, 28, 8, 4), (83, 2, 0, 32768, 0), (84, 0, 0, 2, 0), (85, 1, 12, 8, 0), (88, 1, 90, 6, 0), (91, 2, 0, 32768, 0), (92, 0, 0, 2, 0), (93, 1, 46, 8, 10), (96, 1, 83, 3, 12), (99, 2, 1, 32775, 7), (101, 29, 93, 1, 0), (104, 23, 96, 0, 0), (107, 0, 0, 2, 0), (108, 1, 12, 8, 0), (111, 15, 0, 0, 0), (112, 1, 102, 6, 3), (115, 2, 0, 32769, 1), (116, 12, 0, 0, 0), (117, 14, 102, 6, 24), (120, 0, 1, 0, 0), (121, 10, 0, 1, 0)], 1, 0, 0, 10, 3)
def fm_86 : fx_M := ([(0, 0, 0, 2, 0), (1, 1, 46, 8, 10), (4, 19, 1, 9, 0), (9, 2, 0, 32768, 0), (10, 11, 1, 0, 0), (11, 2, 0, 32768, 0), (12, 11, 2, 0, 0), (13, 0, 2, 0, 0), (14, 0, 0, 2, 0), (15, 1, 46, 8, 10), (18, 1, 83, 3, 12), (21, 3, 3, 117, 0), (117, 0, 1, 0, 0), (118, 10, 0, 1, 0)], 1, 0, 0, 10, 3)
def fm_87 : fx_M := ([(0, 0, 0, 2, 0), (1, 1, 101, 10, 50), (4, 2, 1, 32783, 15), (6, 6, 0, 0, 0), (7, 2, 2, 33767, 999), (10, 3, 1, 15, 0), (15, 0, 0, 2, 0), (16, 9, 0, 468, 88), (19, 0, 0, 2, 0), (20, 9, 0, 471, 89), (23, 10, 0, 1, 0)], 1, 0, 0, 12, 1)
def fm_88 : fx_M := ([(0, 0, 0, 2, 0), (1, 1, 401, 10, 53), (4, 2, 1, 32808, 40), (6, 3, 1, 49, 0), (49, 2, 0, 32768, 0), (50, 11, 1, 0, 0), (51, 0, 1, 0, 0), (52, 2, 1, 32785, 17), (54, 3, 3, 83, 0), (57, 0, 0, 2, 0), (58, 1, 107, 10, 52), (61, 2, 1, 32785, 17), (63, 0, 0, 2, 0), (64, 1, 401, 10, 53), (67, 12, 2, 0, 0), (68, 0, 1, 0, 0), (69, 12, 0, 0, 0), (70, 0, 0, 2, 0), (71, 1, 101, 10, 50), (74, 0, 1, 0, 0), (75, 6, 0, 0, 0), (76, 8, 0, 0, 0), (77, 7, 1, 1, 0), (80, 5, 0, 51, 0), (83, 0, 0, 2, 0), (84, 15, 0, 0, 0), (85, 1, 401, 10, 53), (88, 2, 0, 32769, 1), (89, 12, 0, 0, 0), (90, 14, 401, 10, 424), (93, 0, 0, 2, 0), (94, 2, 0, 32768, 0), (95, 14, 404, 10, 432), (98, 10, 1, 0, 0)], 1, 0, 0, 12, 2)
def fm_89 : fx_M := ([(0, 0, 0, 2, 0), (1, 9, 0, 441, 90), (4, 11, 1, 0, 0), (5, 2, 0, 32768, 0), (6, 11, 2, 0, 0), (7, 2, 0, 32768, 0), (8, 11, 3, 0, 0), (9, 0, 3, 0, 0), (10, 0, 0, 2, 0), (11, 9, 0, 391, 26), (14, 3, 3, 129, 0), (129, 0, 2, 0, 0), (130, 10, 0, 1, 0)], 1, 0, 0, 12, 4)
def fm_90 : fx_M := ([(0, 2, 0, 32768, 0), (1, 11, 1, 0, 0), (2, 2, 0, 32768, 0), (3, 11, 2, 0, 0), (4, 0, 2, 0, 0), (5, 0, 0, 2, 0), (6, 9, 0, 391, 26), (9, 3, 3, 29, 0), (29, 2, 0, 32768, 0), (30, 11, 2, 0, 0), (31, 0, 2, 0, 0), (32, 0, 0, 2, 0), (33, 9, 0, 391, 26), (36, 3, 3, 84, 0), (84, 0, 0, 2, 0), (85, 1, 101, 10, 50), (88, 2, 1, 32783, 15), (90, 15, 2, 0, 0), (91, 6, 0, 0, 0), (92, 2, 0, 32769, 1), (93, 12, 0, 0, 0), (94, 8, 0, 0, 0), (95, 0, 1, 0, 0), (96, 10, 0, 1, 0)], 1, 0, 0, 12, 3)
def fm_91 : fx_M := ([(0, 0, 1, 0, 0), (1, 2, 1, 32777, 9), (3, 9, 2, 200, 92), (6, 4, 0, 20, 0), (9, 0, 1, 0, 0), (10, 0, 0, 2, 0), (11, 1, 26, 9, 2), (14, 1, 204, 6, 2), (17, 3, 1, 22, 0), (20, 2, 0, 32767, 4294967295), (21, 10, 0, 1, 0), (22, 0, 0, 2, 0), (23, 1, 40, 9, 4), (26, 0, 0, 2, 0), (27, 1, 26, 9, 2), (30, 9, 0, 184, 83), (33, 0, 0, 2, 0), (34, 1, 26, 9, 2), (37, 1, 204, 6, 2), (40, 11, 2, 0, 0), (41, 0, 0, 2, 0), (42, 1, 26, 9, 2), (45, 0, 1, 0, 0), (46, 14, 204, 6, 16), (49, 0, 2, 0, 0), (50, 10, 0, 1, 0)], 2, 0, 0, 11, 3)
def fm_92 : fx_M := ([(0, 0, 0, 0, 0), (1, 4, 2, 13, 0), (4, 0, 0, 0, 0), (5, 0, 1, 0, 0), (6, 3, 4, 13, 0), (9, 2, 0, 32769, 1), (10, 5, 0, 14, 0), (13, 2, 0, 32768, 0), (14, 10, 0, 2, 0)], 2, 0, 0, 0, 2)
def fm_93 : fx_M := ([(0, 0, 1, 0, 0), (1, 9, 2, 474, 94), (4, 4, 0, 18, 0), (7, 0, 0, 2, 0), (8, 1, 101, 10, 50), (11, 2, 1, 32782, 14), (13, 6, 0, 0, 0), (14, 0, 1, 0, 0), (15, 3, 1, 20, 0), (18, 2, 0, 32767, 4294967295), (19, 10, 0, 1, 0), (20, 0, 0, 2, 0), (21, 9, 0, 468, 88), (24, 0, 0, 2, 0), (25, 1, 101, 10, 50), (28, 2, 1, 32782, 14), (30, 6, 0, 0, 0), (31, 11, 2, 0, 0), (32, 0, 0, 2, 0), (33, 1, 101, 10, 50), (36, 2, 1, 32782, 14), (38, 0, 1, 0, 0), (39, 8, 0, 0, 0), (40, 0, 2, 0, 0), (41, 10, 0, 1, 0)], 2, 0, 0, 12, 3)
def fm_94 : fx_M := ([(0, 0, 0, 0, 0), (1, 2, 0, 32768, 0), (2, 2, 1, 32777, 9), (4, 9, 2, 394, 51), (7, 10, 0, 2, 0)], 1, 0, 0, 0, 1)
def fm_95 : fx_M := ([(0, 0, 0, 2, 0), (1, 0, 1, 0, 0), (2, 9, 0, 124, 48), (5, 4, 0, 28, 0), (28, 2, 0, 32767, 4294967295), (29, 10, 0, 1, 0)], 3, 0, 0, 11, 4)
def fm_96 : fx_M := ([(0, 0, 0, 2, 0), (1, 0, 1, 0, 0), (2, 9, 0, 444, 50), (5, 4, 0, 24, 0), (24, 2, 0, 32767, 4294967295), (25, 10, 0, 1, 0)], 3, 0, 0, 12, 4)
def fm_97 : fx_M := ([(0, 0, 0, 2, 0), (1, 0, 1, 0, 0), (2, 0, 2, 0, 0), (3, 9, 0, 207, 98), (6, 4, 1, 11, 0), (9, 2, 0, 32768, 0), (10, 10, 0, 2, 0)], 3, 0, 0, 11, 3)
def fm_98 : fx_M := ([(0, 0, 0, 2, 0), (1, 0, 1, 0, 0), (2, 9, 0, 124, 48), (5, 4, 0, 41, 0), (41, 2, 0, 32768, 0), (42, 10, 0, 2, 0)], 3, 0, 0, 11, 3)
def fm_99 : fx_M := ([(0, 0, 0, 2, 0), (1, 0, 1, 0, 0), (2, 0, 2, 0, 0), (3, 9, 0, 477, 100), (6, 4, 1, 11, 0), (9, 2, 0, 32768, 0), (10, 10, 0, 2, 0)], 3, 0, 0, 12, 3)
def fm_100 : fx_M := ([(0, 0, 0, 2, 0), (1, 0, 1, 0, 0), (2, 9, 0, 444, 50), (5, 4, 0, 49, 0), (49, 2, 0, 32768, 0), (50, 10, 0, 2, 0)], 3, 0, 0, 12, 3)
def fm_101 : fx_M := ([(0, 0, 0, 2, 0), (1, 0, 1, 0, 0), (2, 9, 0, 214, 102), (5, 4, 1, 10, 0), (8, 2, 0, 32767, 4294967295), (9, 10, 0, 1, 0)], 2, 0, 0, 11, 3)
def fm_102 : fx_M := ([(0, 0, 0, 2, 0), (1, 0, 1, 0, 0), (2, 9, 0, 124, 48), (5, 4, 0, 25, 0), (25, 2, 0, 32768, 0), (26, 10, 0, 2, 0)], 2, 0, 0, 11, 2)
def fm_103 : fx_M := ([(0, 0, 0, 2, 0), (1, 0, 1, 0, 0), (2, 9, 0, 444, 50), (5, 4, 0, 20, 0), (20, 2, 0, 32767, 4294967295), (21, 10, 0, 1, 0)], 2, 0, 0, 12, 3)
def fm_104 : fx_M := ([(0, 0, 0, 2, 0), (1, 1, 40, 9, 4), (4, 0, 0, 2, 0), (5, 1, 26, 9, 2), (8, 9, 0, 217, 105), (11, 10, 0, 2, 0)], 1, 0, 0, 11, 1)
def fm_105 : fx_M := ([(0, 0, 0, 2, 0), (1, 1, 20, 0, 1), (4, 4, 1, 9, 0), (7, 2, 0, 32768, 0), (8, 10, 0, 2, 0)], 2, 0, 0, 2, 2)
def fm_106 : fx_M := ([(0, 0, 0, 2, 0), (1, 1, 401, 10, 53), (4, 4, 1, 9, 0), (7, 2, 0, 32768, 0), (8, 10, 0, 2, 0)], 1, 0, 0, 12, 1)
def fm_107 : fx_M := ([(0, 0, 0, 2, 0), (1, 1, 40, 9, 4), (4, 0, 0, 2, 0), (5, 1, 26, 9, 2), (8, 9, 0, 221, 108), (11, 10, 0, 2, 0)], 1, 0, 0, 11, 1)
def fm_108 : fx_M := ([(0, 0, 0, 2, 0), (1, 1, 24, 0, 2), (4, 4, 1, 9, 0), (7, 2, 0, 32768, 0), (8, 10, 0, 2, 0)], 2, 0, 0, 2, 2)
def fm_109 : fx_M := ([(0, 0, 0, 2, 0), (1, 1, 404, 10, 54), (4, 4, 1, 9, 0), (7, 2, 0, 32768, 0), (8, 10, 0, 2, 0)], 1, 0, 0, 12, 1)
def fm_110 : fx_M := ([(0, 0, 0, 2, 0), (1, 0, 1, 0, 0), (2, 9, 0, 124, 48), (5, 4, 0, 15, 0), (15, 2, 0, 32767, 4294967295), (16, 10, 0, 1, 0)], 3, 0, 0, 11, 7)
def fm_111 : fx_M := ([(0, 0, 0, 2, 0), (1, 0, 1, 0, 0), (2, 9, 0, 444, 50), (5, 4, 0, 17, 0), (17, 2, 0, 32767, 4294967295), (18, 10, 0, 1, 0)], 3, 0, 0, 12, 5)
def fm_112 : fx_M := ([(0, 0, 1, 0, 0), (1, 2, 0, 32769, 1), (2, 3, 2, 23, 0), (5, 0, 1, 0, 0), (6, 0, 0, 2, 0), (7, 1, 19, 9, 1), (10, 1, 121, 3, 12), (13, 3, 4, 23, 0), (23, 2, 0, 32767, 4294967295), (24, 10, 0, 1, 0)], 3, 0, 0, 11, 5)
def fm_113 : fx_M := ([(0, 0, 1, 0, 0), (1, 2, 0, 32769, 1), (2, 2, 1, 32775, 7), (4, 9, 2, 394, 51), (7, 4, 0, 27, 0), (10, 0, 1, 0, 0), (11, 0, 0, 2, 0), (12, 9, 0, 391, 26), (15, 3, 4, 27, 0), (27, 2, 0, 32767, 4294967295), (28, 10, 0, 1, 0)], 3, 0, 0, 12, 5)
def fm_114 : fx_M := ([(0, 0, 1, 0, 0), (1, 2, 0, 32769, 1), (2, 3, 2, 11, 0), (5, 0, 1, 0, 0), (6, 2, 1, 32775, 7), (8, 3, 5, 13, 0), (11, 2, 0, 32767, 4294967295), (12, 10, 0, 1, 0), (13, 2, 0, 32768, 0), (14, 11, 2, 0, 0), (15, 2, 0, 32769, 1), (16, 11, 3, 0, 0), (17, 0, 3, 0, 0), (18, 2, 0, 32769, 1), (19, 0, 0, 2, 0), (20, 1, 19, 9, 1), (23, 1, 121, 3, 12), (26, 12, 8, 0, 0), (27, 3, 3, 56, 0), (56, 0, 2, 0, 0), (57, 10, 0, 1, 0)], 2, 0, 0, 11, 4)
def fm_115 : fx_M := ([(0, 0, 1, 0, 0), (1, 2, 0, 32769, 1), (2, 2, 1, 32775, 7), (4, 9, 2, 394, 51), (7, 4, 1, 12, 0), (10, 2, 0, 32767, 4294967295), (11, 10, 0, 1, 0), (12, 2, 0, 32768, 0), (13, 11, 2, 0, 0), (14, 2, 0, 32768, 0), (15, 11, 3, 0, 0), (16, 0, 3, 0, 0), (17, 0, 0, 2, 0), (18, 9, 0, 459, 76), (21, 3, 4, 49, 0), (24, 0, 3, 0, 0), (25, 9, 2, 435, 116), (28, 0, 1, 0, 0), (29, 3, 1, 43, 0), (43, 7, 3, 1, 0), (46, 5, 0, 16, 0), (49, 0, 2, 0, 0), (50, 10, 0, 1, 0)], 2, 0, 0, 12, 4)
def fm_116 : fx_M := ([(0, 2, 0, 32768, 0), (1, 11, 1, 0, 0), (2, 0, 0, 0, 0), (3, 11, 2, 0, 0), (4, 0, 2, 0, 0), (5, 4, 0, 20, 0), (20, 0, 1, 0, 0), (21, 10, 0, 1, 0)], 1, 0, 0, 0, 3)
def fm_117 : fx_M := ([(0, 0, 0, 2, 0), (1, 2, 0, 32768, 0), (2, 14, 73, 9, 88), (5, 0, 0, 2, 0), (6, 0, 1, 0, 0), (7, 9, 0, 214, 102), (10, 4, 0, 21, 0), (21, 2, 0, 32767, 4294967295), (22, 10, 0, 1, 0)], 3, 0, 0, 11, 6)
def fm_118 : fx_M := ([(0, 0, 0, 2, 0), (1, 2, 0, 32768, 0), (2, 14, 410, 10, 456), (5, 0, 0, 2, 0), (6, 0, 1, 0, 0), (7, 9, 0, 444, 50), (10, 4, 0, 45, 0), (45, 2, 0, 32767, 4294967295), (46, 10, 0, 1, 0)], 3, 0, 0, 12, 5)
def fm_119 : fx_M := ([(0, 0, 0, 2, 0), (1, 1, 33, 9, 3), (4, 0, 0, 2, 0), (5, 1, 19, 9, 1), (8, 0, 0, 2, 0), (9, 1, 26, 9, 2), (12, 9, 0, 128, 62), (15, 0, 0, 2, 0), (16, 1, 26, 9, 2), (19, 9, 0, 255, 120), (22, 11, 1, 0, 0), (23, 2, 0, 32768, 0), (24, 11, 2, 0, 0), (25, 2, 0, 32768, 0), (26, 11, 3, 0, 0), (27, 0, 3, 0, 0), (28, 2, 1, 32775, 7), (30, 3, 3, 59, 0), (33, 0, 1, 0, 0), (34, 4, 0, 59, 0), (59, 0, 2, 0, 0), (60, 10, 0, 1, 0)], 1, 0, 0, 11, 4)
def fm_120 : fx_M := ([(0, 2, 0, 32768, 0), (1, 11, 1, 0, 0), (2, 2, 0, 32768, 0), (3, 11, 2, 0, 0), (4, 0, 2, 0, 0), (5, 2, 1, 32775, 7), (7, 3, 3, 36, 0), (10, 0, 1, 0, 0), (11, 0, 0, 2, 0), (12, 1, 15, 6, 1), (15, 0, 2, 0, 0), (16, 6, 0, 0, 0), (17, 2, 0, 32767, 4294967295), (18, 3, 1, 25, 0), (21, 2, 0, 32768, 0), (22, 5, 0, 28, 0), (28, 12, 6, 0, 0), (29, 11, 1, 0, 0), (30, 7, 2, 1, 0), (33, 5, 0, 4, 0), (36, 0, 1, 0, 0), (37, 10, 0, 1, 0)], 1, 0, 0, 8, 3)
def fm_121 : fx_M := ([(0, 2, 0, 32768, 0), (1, 11, 1, 0, 0), (2, 2, 0, 32768, 0), (3, 11, 2, 0, 0), (4, 2, 0, 32768, 0), (5, 11, 3, 0, 0), (6, 0, 3, 0, 0), (7, 0, 0, 2, 0), (8, 9, 0, 391, 26), (11, 3, 3, 38, 0), (38, 2, 0, 32768, 0), (39, 11, 3, 0, 0), (40, 0, 3, 0, 0), (41, 0, 0, 2, 0), (42, 9, 0, 391, 26), (45, 3, 3, 112, 0), (112, 0, 2, 0, 0), (113, 10, 0, 1, 0)], 1, 0, 0, 12, 5)
def fm_122 : fx_M := ([(0, 0, 0, 2, 0), (1, 0, 1, 0, 0), (2, 9, 0, 124, 48), (5, 4, 0, 15, 0), (15, 2, 0, 32767, 4294967295), (16, 10, 0, 1, 0)], 3, 0, 0, 11, 8)
def fm_123 : fx_M := ([(0, 0, 0, 2, 0), (1, 0, 1, 0, 0), (2, 9, 0, 444, 50), (5, 4, 0, 17, 0), (17, 2, 0, 32767, 4294967295), (18, 10, 0, 1, 0)], 3, 0, 0, 12, 7)
def fm_124 : fx_M := ([(0, 2, 0, 32767, 4294967295), (1, 11, 2, 0, 0), (2, 2, 0, 32767, 4294967295), (3, 11, 3, 0, 0), (4, 2, 0, 32767, 4294967295), (5, 11, 4, 1, 0), (7, 2, 0, 32768, 0), (8, 11, 5, 1, 0), (10, 0, 5, 1, 0), (12, 0, 0, 2, 0), (13, 1, 19, 9, 1), (16, 1, 121, 3, 12), (19, 3, 3, 94, 0), (94, 0, 1, 0, 0), (95, 20, 127, 0, 4), (120, 0, 2, 0, 0), (121, 10, 0, 1, 0), (122, 0, 3, 0, 0), (123, 10, 0, 1, 0), (124, 0, 4, 1, 0), (126, 10, 0, 1, 0), (127, 2, 0, 32767, 4294967295), (128, 10, 0, 1, 0)], 2, 0, 0, 11, 8)
def fm_125 : fx_M := ([(0, 0, 1, 0, 0), (1, 2, 0, 32768, 0), (2, 2, 0, 32770, 2), (3, 9, 2, 394, 51), (6, 4, 1, 11, 0), (9, 2, 0, 32767, 4294967295), (10, 10, 0, 1, 0), (11, 2, 0, 32767, 4294967295), (12, 11, 2, 0, 0), (13, 2, 0, 32768, 0), (14, 11, 3, 0, 0), (15, 2, 0, 32768, 0), (16, 11, 4, 1, 0), (18, 0, 4, 1, 0), (20, 2, 1, 32817, 49), (22, 3, 3, 108, 0), (25, 0, 4, 1, 0), (27, 2, 1, 32775, 7), (29, 12, 3, 0, 0), (30, 0, 4, 1, 0), (32, 2, 1, 32775, 7), (34, 12, 4, 0, 0), (35, 3, 3, 102, 0), (38, 0, 0, 2, 0), (39, 0, 4, 1, 0), (41, 2, 1, 32775, 7), (43, 12, 3, 0, 0), (44, 0, 4, 1, 0), (46, 2, 1, 32775, 7), (48, 12, 4, 0, 0), (49, 9, 0, 477, 100), (52, 4, 1, 58, 0), (55, 5, 0, 102, 0), (102, 7, 4, 1, 0), (105, 5, 0, 18, 0), (108, 0, 2, 0, 0), (109, 4, 3, 116, 0), (112, 2, 0, 32767, 4294967295), (113, 5, 0, 140, 0), (140, 10, 0, 1, 0)], 2, 0, 0, 12, 6)
def fm_126 : fx_M := ([(0, 0, 0, 2, 0), (1, 1, 33, 9, 3), (4, 0, 0, 2, 0), (5, 1, 19, 9, 1), (8, 0, 0, 2, 0), (9, 1, 26, 9, 2), (12, 9, 0, 128, 62), (15, 2, 0, 32768, 0), (16, 11, 1, 0, 0), (17, 0, 1, 0, 0), (18, 2, 1, 32828, 60), (20, 3, 4, 41, 0), (23, 0, 0, 2, 0), (24, 1, 33, 9, 3), (27, 9, 0, 188, 85), (30, 4, 1, 35, 0), (33, 0, 1, 0, 0), (34, 10, 0, 1, 0)], 1, 0, 0, 11, 2)
def fm_127 : fx_M := ([(0, 0, 0, 2, 0), (1, 9, 0, 501, 128), (4, 2, 0, 32768, 0), (5, 11, 1, 0, 0), (6, 0, 1, 0, 0), (7, 2, 1, 32828, 60), (9, 3, 4, 25, 0), (12, 0, 0, 2, 0), (13, 9, 0, 441, 90), (16, 4, 5, 25, 0), (25, 0, 0, 2, 0), (26, 9, 0, 495, 129), (29, 0, 1, 0, 0), (30, 2, 1, 32828, 60), (32, 3, 4, 39, 0), (35, 0, 1, 0, 0), (36, 5, 0, 40, 0), (40, 10, 0, 1, 0)], 1, 0, 0, 12, 2)
def fm_128 : fx_M := ([(0, 2, 0, 32768, 0), (1, 11, 1, 0, 0), (2, 0, 1, 0, 0), (3, 2, 1, 32785, 17), (5, 3, 3, 26, 0), (8, 0, 0, 2, 0), (9, 1, 116, 10, 58), (12, 0, 1, 0, 0), (13, 0, 0, 2, 0), (14, 1, 101, 10, 50), (17, 0, 1, 0, 0), (18, 6, 0, 0, 0), (19, 8, 0, 0, 0), (20, 7, 1, 1, 0), (23, 5, 0, 2, 0), (26, 10, 1, 0, 0)], 1, 0, 0, 12, 2)
def fm_129 : fx_M := ([(0, 2, 0, 32768, 0), (1, 11, 1, 0, 0), (2, 0, 1, 0, 0), (3, 2, 1, 32785, 17), (5, 3, 3, 26, 0), (8, 0, 0, 2, 0), (9, 1, 101, 10, 50), (12, 0, 1, 0, 0), (13, 0, 0, 2, 0), (14, 1, 116, 10, 58), (17, 0, 1, 0, 0), (18, 6, 0, 0, 0), (19, 8, 0, 0, 0), (20, 7, 1, 1, 0), (23, 5, 0, 2, 0), (26, 10, 1, 0, 0)], 1, 0, 0, 12, 2)
def fm_130 : fx_M := ([(0, 0, 0, 2, 0), (1, 0, 1, 0, 0), (2, 9, 0, 124, 48), (5, 4, 0, 17, 0), (17, 2, 0, 32767, 4294967295), (18, 10, 0, 1, 0)], 3, 0, 0, 11, 4)
def fm_131 : fx_M := ([(0, 0, 0, 2, 0), (1, 0, 1, 0, 0), (2, 9, 0, 444, 50), (5, 4, 0, 15, 0), (15, 2, 0, 32767, 4294967295), (16, 10, 0, 1, 0)], 3, 0, 0, 12, 5)
def fm_132 : fx_M := ([(0, 0, 1, 0, 0), (1, 2, 1, 32828, 60), (3, 9, 2, 200, 92), (6, 4, 1, 11, 0), (9, 2, 0, 32767, 4294967295), (10, 10, 0, 1, 0), (11, 0, 0, 2, 0), (12, 1, 33, 9, 3), (15, 0, 0, 2, 0), (16, 1, 19, 9, 1), (19, 0, 0, 2, 0), (20, 1, 26, 9, 2), (23, 9, 0, 128, 62), (26, 0, 0, 2, 0), (27, 1, 33, 9, 3), (30, 0, 1, 0, 0), (31, 9, 0, 273, 135), (34, 0, 0, 2, 0), (35, 1, 33, 9, 3), (38, 1, 194, 8, 0), (41, 9, 0, 176, 72), (44, 10, 0, 1, 0)], 2, 0, 0, 11, 2)
def fm_133 : fx_M := ([(0, 0, 1, 0, 0), (1, 9, 2, 498, 134), (4, 4, 1, 9, 0), (7, 2, 0, 32767, 4294967295), (8, 10, 0, 1, 0), (9, 0, 0, 2, 0), (10, 9, 0, 501, 128), (13, 0, 0, 2, 0), (14, 0, 1, 0, 0), (15, 9, 0, 504, 136), (18, 10, 0, 1, 0)], 2, 0, 0, 12, 2)
def fm_134 : fx_M := ([(0, 0, 0, 0, 0), (1, 4, 2, 14, 0), (4, 0, 0, 0, 0), (5, 2, 1, 32828, 60), (7, 3, 4, 14, 0), (10, 2, 0, 32769, 1), (11, 5, 0, 15, 0), (14, 2, 0, 32768, 0), (15, 10, 0, 2, 0)], 1, 0, 0, 0, 1)
def fm_135 : fx_M := ([(0, 2, 0, 32768, 0), (1, 11, 2, 0, 0), (2, 0, 2, 0, 0), (3, 0, 1, 0, 0), (4, 3, 3, 24, 0), (7, 0, 2, 0, 0), (8, 2, 1, 32828, 60), (10, 3, 3, 24, 0), (13, 0, 0, 2, 0), (14, 9, 0, 79, 85), (17, 15, 1, 0, 0), (18, 7, 2, 1, 0), (21, 5, 0, 2, 0), (24, 10, 1, 0, 0)], 2, 0, 0, 10, 3)
def fm_136 : fx_M := ([(0, 2, 0, 32768, 0), (1, 11, 2, 0, 0), (2, 0, 2, 0, 0), (3, 0, 1, 0, 0), (4, 3, 3, 18, 0), (7, 0, 0, 2, 0), (8, 9, 0, 441, 90), (11, 11, 3, 0, 0), (12, 7, 2, 1, 0), (15, 5, 0, 2, 0), (18, 2, 0, 32768, 0), (19, 11, 2, 0, 0), (20, 0, 2, 0, 0), (21, 0, 0, 2, 0), (22, 9, 0, 391, 26), (25, 3, 3, 48, 0), (48, 0, 0, 2, 0), (49, 9, 0, 462, 75), (52, 11, 2, 0, 0), (53, 0, 0, 2, 0), (54, 9, 0, 495, 129), (57, 0, 2, 0, 0), (58, 10, 0, 1, 0)], 2, 0, 0, 12, 4)
def fm_137 : fx_M := ([(0, 0, 0, 2, 0), (1, 1, 19, 9, 1), (4, 1, 121, 3, 12), (7, 4, 1, 12, 0), (10, 2, 0, 32767, 4294967295), (11, 10, 0, 1, 0)], 1, 0, 0, 11, 2)
def fm_138 : fx_M := ([(0, 0, 0, 2, 0), (1, 9, 0, 391, 26), (4, 4, 1, 9, 0), (7, 2, 0, 32767, 4294967295), (8, 10, 0, 1, 0)], 1, 0, 0, 12, 4)
def fm_139 : fx_M := ([(0, 0, 1, 0, 0), (1, 2, 1, 32828, 60), (3, 9, 2, 200, 92), (6, 4, 1, 11, 0), (9, 2, 0, 32767, 4294967295), (10, 10, 0, 1, 0), (11, 0, 0, 2, 0), (12, 1, 33, 9, 3), (15, 0, 0, 2, 0), (16, 1, 19, 9, 1), (19, 0, 0, 2, 0), (20, 1, 26, 9, 2), (23, 9, 0, 128, 62), (26, 2, 0, 32768, 0), (27, 11, 2, 0, 0), (28, 2, 0, 32768, 0), (29, 11, 3, 0, 0), (30, 0, 3, 0, 0), (31, 0, 1, 0, 0), (32, 3, 3, 54, 0), (35, 0, 2, 0, 0), (36, 0, 0, 2, 0), (37, 1, 33, 9, 3), (40, 9, 0, 188, 85), (43, 9, 2, 227, 141), (46, 12, 0, 0, 0), (47, 11, 2, 0, 0), (48, 7, 3, 1, 0), (51, 5, 0, 30, 0), (54, 0, 2, 0, 0), (55, 10, 0, 1, 0)], 2, 0, 0, 11, 4)
def fm_140 : fx_M := ([(0, 0, 1, 0, 0), (1, 9, 2, 498, 134), (4, 4, 1, 9, 0), (7, 2, 0, 32767, 4294967295), (8, 10, 0, 1, 0), (9, 0, 0, 2, 0), (10, 9, 0, 501, 128), (13, 2, 0, 32768, 0), (14, 11, 2, 0, 0), (15, 2, 0, 32768, 0), (16, 11, 3, 0, 0), (17, 0, 3, 0, 0), (18, 0, 1, 0, 0), (19, 3, 3, 35, 0), (22, 0, 2, 0, 0), (23, 0, 0, 2, 0), (24, 9, 0, 441, 90), (27, 12, 0, 0, 0), (28, 11, 2, 0, 0), (29, 7, 3, 1, 0), (32, 5, 0, 17, 0), (35, 0, 0, 2, 0), (36, 9, 0, 495, 129), (39, 0, 2, 0, 0), (40, 10, 0, 1, 0)], 2, 0, 0, 12, 4)
def fm_141 : fx_M := ([(0, 0, 0, 0, 0), (1, 0, 0, 0, 0), (2, 2, 0, 32769, 1), (3, 12, 10, 0, 0), (4, 2, 4, 265, 1431655765), (7, 12, 5, 0, 0), (8, 12, 1, 0, 0), (9, 11, 0, 0, 0), (10, 0, 0, 0, 0), (11, 2, 4, 266, 858993459), (14, 12, 5, 0, 0), (15, 0, 0, 0, 0), (16, 2, 0, 32770, 2), (17, 12, 10, 0, 0), (18, 2, 4, 266, 858993459), (21, 12, 5, 0, 0), (22, 12, 0, 0, 0), (23, 11, 0, 0, 0), (24, 0, 0, 0, 0), (25, 0, 0, 0, 0), (26, 2, 0, 32772, 4), (27, 12, 10, 0, 0), (28, 12, 0, 0, 0), (29, 2, 4, 267, 252645135), (32, 12, 5, 0, 0), (33, 11, 0, 0, 0), (34, 0, 0, 0, 0), (35, 0, 0, 0, 0), (36, 2, 1, 32776, 8), (38, 12, 10, 0, 0), (39, 12, 0, 0, 0), (40, 11, 0, 0, 0), (41, 0, 0, 0, 0), (42, 0, 0, 0, 0), (43, 2, 1, 32784, 16), (45, 12, 10, 0, 0), (46, 12, 0, 0, 0), (47, 11, 0, 0, 0), (48, 0, 0, 0, 0), (49, 2, 1, 32831, 63), (51, 12, 5, 0, 0), (52, 10, 0, 1, 0)], 1, 0, 0, 0, 1)
def fm_142 : fx_M := ([(0, 0, 0, 2, 0), (1, 0, 1, 0, 0), (2, 9, 0, 124, 48), (5, 4, 0, 26, 0), (26, 2, 0, 32767, 4294967295), (27, 10, 0, 1, 0)], 4, 0, 0, 11, 4)
def fm_143 : fx_M := ([(0, 0, 0, 2, 0), (1, 0, 1, 0, 0), (2, 9, 0, 444, 50), (5, 4, 0, 25, 0), (25, 2, 0, 32767, 4294967295), (26, 10, 0, 1, 0)], 4, 0, 0, 12, 7)
def fm_144 : fx_M := ([(0, 0, 0, 2, 0), (1, 1, 33, 9, 3), (4, 0, 0, 2, 0), (5, 1, 19, 9, 1), (8, 0, 0, 2, 0), (9, 1, 26, 9, 2), (12, 9, 0, 128, 62), (15, 2, 0, 32767, 4294967295), (16, 11, 1, 0, 0), (17, 2, 0, 32767, 4294967295), (18, 11, 2, 0, 0), (19, 2, 0, 32768, 0), (20, 11, 3, 0, 0), (21, 0, 3, 0, 0), (22, 0, 0, 2, 0), (23, 1, 19, 9, 1), (26, 9, 0, 261, 59), (29, 3, 3, 87, 0), (32, 0, 0, 2, 0), (33, 1, 26, 9, 2), (36, 0, 3, 0, 0), (37, 9, 0, 173, 60), (40, 2, 0, 32767, 4294967295), (41, 3, 1, 81, 0), (44, 0, 0, 2, 0), (45, 1, 33, 9, 3), (48, 0, 3, 0, 0), (49, 0, 0, 2, 0), (50, 1, 26, 9, 2), (53, 1, 150, 6, 3), (56, 9, 0, 153, 66), (59, 0, 2, 0, 0), (60, 3, 5, 81, 0), (63, 0, 3, 0, 0), (64, 11, 1, 0, 0), (65, 0, 0, 2, 0), (66, 1, 33, 9, 3), (69, 0, 3, 0, 0), (70, 0, 0, 2, 0), (71, 1, 26, 9, 2), (74, 1, 150, 6, 3), (77, 9, 0, 153, 66), (80, 11, 2, 0, 0), (81, 7, 3, 1, 0), (84, 5, 0, 21, 0), (87, 0, 1, 0, 0), (88, 10, 0, 1, 0)], 1, 0, 0, 11, 4)
def fm_145 : fx_M := ([(0, 2, 0, 32767, 4294967295), (1, 11, 1, 0, 0), (2, 2, 0, 32768, 0), (3, 11, 2, 0, 0), (4, 0, 2, 0, 0), (5, 0, 0, 2, 0), (6, 9, 0, 398, 58), (9, 3, 3, 45, 0), (12, 0, 0, 2, 0), (13, 0, 2, 0, 0), (14, 9, 0, 456, 61), (17, 4, 3, 39, 0), (20, 0, 1, 0, 0), (21, 4, 2, 37, 0), (24, 0, 0, 2, 0), (25, 0, 2, 0, 0), (26, 9, 0, 426, 70), (29, 0, 0, 2, 0), (30, 0, 1, 0, 0), (31, 9, 0, 426, 70), (34, 3, 5, 39, 0), (37, 0, 2, 0, 0), (38, 11, 1, 0, 0), (39, 7, 2, 1, 0), (42, 5, 0, 4, 0), (45, 0, 1, 0, 0), (46, 10, 0, 1, 0)], 1, 0, 0, 12, 3)
def fm_146 : fx_M := ([(0, 0, 1, 0, 0), (1, 2, 0, 32769, 1), (2, 3, 2, 17, 0), (5, 0, 1, 0, 0), (6, 2, 0, 32771, 3), (7, 3, 4, 17, 0), (10, 0, 2, 0, 0), (11, 9, 2, 224, 148), (14, 4, 1, 19, 0), (17, 2, 0, 32767, 4294967295), (18, 10, 0, 1, 0), (19, 0, 0, 2, 0), (20, 1, 33, 9, 3), (23, 0, 0, 2, 0), (24, 1, 19, 9, 1), (27, 0, 0, 2, 0), (28, 1, 26, 9, 2), (31, 9, 0, 128, 62), (34, 0, 0, 2, 0), (35, 2, 0, 32768, 0), (36, 0, 1, 0, 0), (37, 2, 0, 32767, 4294967295), (38, 2, 1, 32838, 70), (40, 9, 0, 286, 149), (43, 11, 3, 0, 0), (44, 0, 2, 0, 0), (45, 4, 1, 52, 0), (48, 0, 3, 0, 0), (49, 5, 0, 56, 0), (52, 0, 0, 2, 0), (53, 1, 86, 9, 15), (56, 10, 0, 1, 0)], 3, 0, 0, 11, 4)
def fm_147 : fx_M := ([(0, 0, 1, 0, 0), (1, 2, 0, 32769, 1), (2, 2, 0, 32771, 3), (3, 9, 2, 394, 51), (6, 4, 0, 18, 0), (9, 0, 2, 0, 0), (10, 2, 0, 32768, 0), (11, 2, 0, 32769, 1), (12, 9, 2, 394, 51), (15, 4, 1, 20, 0), (18, 2, 0, 32767, 4294967295), (19, 10, 0, 1, 0), (20, 2, 0, 32768, 0), (21, 11, 3, 0, 0), (22, 0, 3, 0, 0), (23, 2, 1, 32778, 10), (25, 0, 1, 0, 0), (26, 9, 2, 513, 152), (29, 3, 3, 50, 0), (32, 0, 0, 2, 0), (33, 1, 125, 10, 61), (36, 0, 3, 0, 0), (37, 0, 0, 2, 0), (38, 0, 1, 0, 0), (39, 0, 3, 0, 0), (40, 9, 0, 516, 153), (43, 8, 0, 0, 0), (44, 7, 3, 1, 0), (47, 5, 0, 22, 0), (50, 2, 0, 32768, 0), (51, 11, 3, 0, 0), (52, 0, 1, 0, 0), (53, 2, 0, 32769, 1), (54, 12, 1, 0, 0), (55, 11, 4, 1, 0), (57, 0, 4, 1, 0), (59, 4, 2, 177, 0), (62, 2, 0, 32768, 0), (63, 11, 5, 1, 0), (65, 0, 5, 1, 0), (67, 2, 1, 32778, 10), (69, 0, 4, 1, 0), (71, 9, 2, 513, 152), (74, 3, 3, 171, 0), (77, 2, 0, 32768, 0), (78, 11, 3, 0, 0), (79, 2, 0, 32769, 1), (80, 11, 6, 1, 0), (82, 0, 6, 1, 0), (84, 2, 1, 32777, 9), (86, 3, 4, 146, 0), (89, 0, 0, 2, 0), (90, 1, 125, 10, 61), (93, 2, 1, 32778, 10), (95, 0, 5, 1, 0), (97, 12, 2, 0, 0), (98, 0, 6, 1, 0), (100, 12, 0, 0, 0), (101, 6, 0, 0, 0), (102, 0, 0, 2, 0), (103, 1, 125, 10, 61), (106, 2, 1, 32778, 10), (108, 0, 5, 1, 0), (110, 12, 2, 0, 0), (111, 0, 3, 0, 0), (112, 12, 0, 0, 0), (113, 6, 0, 0, 0), (114, 12, 1, 0, 0), (115, 11, 7, 1, 0), (117, 0, 4, 1, 0), (119, 2, 0, 32770, 2), (120, 12, 4, 0, 0), (121, 4, 1, 132, 0), (124, 0, 7, 1, 0), (126, 4, 5, 140, 0), (132, 0, 7, 1, 0), (134, 4, 3, 140, 0), (140, 7, 6, 1, 0), (143, 5, 0, 82, 0), (146, 0, 0, 2, 0), (147, 1, 125, 10, 61), (150, 0, 5, 1, 0), (152, 0, 0, 2, 0), (153, 1, 125, 10, 61), (156, 2, 1, 32778, 10), (158, 0, 5, 1, 0), (160, 12, 2, 0, 0), (161, 0, 3, 0, 0), (162, 12, 0, 0, 0), (163, 6, 0, 0, 0), (164, 8, 0, 0, 0), (165, 7, 5, 1, 0), (168, 5, 0, 65, 0), (171, 7, 4, 4294967295, 0), (174, 5, 0, 57, 0), (177, 0, 2, 0, 0), (178, 4, 1, 190, 0), (181, 0, 0, 2, 0), (182, 1, 125, 10, 61), (185, 2, 0, 32768, 0), (186, 6, 0, 0, 0), (187, 5, 0, 191, 0), (190, 0, 3, 0, 0), (191, 10, 0, 1, 0)], 3, 0, 0, 12, 8)
def fm_148 : fx_M := ([(0, 0, 0, 0, 0), (1, 4, 0, 9, 0), (4, 0, 0, 0, 0), (5, 2, 0, 32769, 1), (6, 3, 1, 13, 0), (9, 2, 0, 32769, 1), (10, 5, 0, 14, 0), (13, 2, 0, 32768, 0), (14, 10, 0, 2, 0)], 1, 0, 0, 0, 1)
def fm_149 : fx_M := ([(0, 0, 1, 0, 0), (1, 0, 2, 0, 0), (2, 3, 3, 10, 0), (5, 0, 1, 0, 0), (6, 2, 0, 32771, 3), (7, 3, 2, 21, 0), (10, 0, 0, 2, 0), (11, 1, 33, 9, 3), (14, 1, 194, 8, 0), (17, 9, 0, 176, 72), (20, 10, 0, 1, 0), (21, 0, 1, 0, 0), (22, 2, 0, 32770, 2), (23, 12, 4, 0, 0), (24, 4, 1, 31, 0), (27, 2, 0, 32769, 1), (28, 5, 0, 32, 0), (31, 2, 0, 32768, 0), (32, 11, 5, 1, 0), (34, 0, 0, 2, 0), (35, 1, 33, 9, 3), (38, 0, 1, 0, 0), (39, 9, 0, 280, 150), (42, 2, 0, 32767, 4294967295), (43, 11, 6, 1, 0), (45, 2, 0, 32768, 0), (46, 11, 7, 1, 0), (48, 0, 7, 1, 0), (50, 2, 1, 32777, 9), (52, 3, 4, 204, 0), (55, 0, 3, 0, 0), (56, 0, 4, 1, 0), (58, 3, 3, 204, 0), (61, 0, 0, 2, 0), (62, 1, 33, 9, 3), (65, 0, 1, 0, 0), (66, 9, 0, 290, 151), (69, 0, 0, 2, 0), (70, 1, 33, 9, 3), (73, 1, 194, 8, 0), (76, 0, 0, 2, 0), (77, 1, 26, 9, 2), (80, 1, 150, 6, 3), (83, 0, 1, 0, 0), (84, 12, 0, 0, 0), (85, 14, 150, 6, 24), (88, 0, 0, 2, 0), (89, 1, 33, 9, 3), (92, 1, 194, 8, 0), (95, 0, 7, 1, 0), (97, 14, 204, 6, 16), (100, 0, 0, 2, 0), (101, 1, 33, 9, 3), (104, 9, 0, 188, 85), (107, 15, 1, 0, 0), (108, 0, 0, 2, 0), (109, 0, 1, 0, 0), (110, 2, 0, 32769, 1), (111, 12, 0, 0, 0), (112, 0, 2, 0, 0), (113, 0, 3, 0, 0), (114, 0, 4, 1, 0), (116, 9, 0, 286, 149), (119, 11, 8, 1, 0), (121, 0, 6, 1, 0), (123, 2, 0, 32767, 4294967295), (124, 3, 0, 149, 0), (127, 0, 5, 1, 0), (129, 4, 0, 142, 0), (132, 0, 8, 1, 0), (134, 0, 6, 1, 0), (136, 3, 5, 163, 0), (142, 0, 8, 1, 0), (144, 0, 6, 1, 0), (146, 3, 3, 163, 0), (149, 0, 8, 1, 0), (151, 11, 6, 1, 0), (153, 0, 1, 0, 0), (154, 4, 1, 163, 0), (157, 0, 0, 2, 0), (158, 0, 7, 1, 0), (160, 14, 86, 9, 120), (163, 0, 5, 1, 0), (165, 4, 0, 177, 0), (168, 0, 3, 0, 0), (169, 0, 6, 1, 0), (171, 29, 293, 0, 0), (174, 5, 0, 178, 0), (177, 0, 3, 0, 0), (178, 11, 3, 0, 0), (179, 0, 5, 1, 0), (181, 4, 0, 189, 0), (184, 0, 4, 1, 0), (186, 5, 0, 196, 0), (189, 0, 4, 1, 0), (191, 0, 6, 1, 0), (193, 29, 296, 1, 0), (196, 11, 4, 1, 0), (198, 7, 7, 1, 0), (201, 5, 0, 48, 0), (204, 0, 6, 1, 0), (206, 10, 0, 1, 0)], 5, 0, 0, 11, 9)
def fm_150 : fx_M := ([(0, 0, 1, 0, 0), (1, 4, 2, 30, 0), (4, 0, 1, 0, 0), (5, 2, 0, 32771, 3), (6, 3, 3, 30, 0), (9, 0, 0, 2, 0), (10, 1, 12, 8, 0), (13, 1, 90, 6, 0), (16, 2, 0, 32768, 0), (17, 0, 0, 2, 0), (18, 1, 31, 8, 5), (21, 0, 1, 0, 0), (22, 2, 1, 32775, 7), (24, 12, 2, 0, 0), (25, 2, 1, 32775, 7), (27, 23, 96, 0, 0), (30, 10, 1, 0, 0)], 2, 0, 0, 10, 2)
def fm_151 : fx_M := ([(0, 0, 1, 0, 0), (1, 4, 2, 30, 0), (4, 0, 1, 0, 0), (5, 2, 0, 32771, 3), (6, 3, 3, 30, 0), (9, 0, 0, 2, 0), (10, 1, 31, 8, 5), (13, 0, 1, 0, 0), (14, 2, 1, 32775, 7), (16, 12, 2, 0, 0), (17, 0, 0, 2, 0), (18, 1, 12, 8, 0), (21, 1, 90, 6, 0), (24, 2, 0, 32768, 0), (25, 2, 1, 32775, 7), (27, 23, 96, 0, 0), (30, 10, 1, 0, 0)], 2, 0, 0, 10, 2)
def fm_152 : fx_M := ([(0, 2, 0, 32769, 1), (1, 11, 2, 0, 0), (2, 2, 0, 32768, 0), (3, 11, 3, 0, 0), (4, 0, 3, 0, 0), (5, 0, 1, 0, 0), (6, 3, 3, 19, 0), (9, 0, 2, 0, 0), (10, 0, 0, 0, 0), (11, 12, 2, 0, 0), (12, 11, 2, 0, 0), (13, 7, 3, 1, 0), (16, 5, 0, 4, 0), (19, 0, 2, 0, 0), (20, 10, 0, 1, 0)], 2, 0, 0, 0, 4)
def fm_153 : fx_M := ([(0, 0, 0, 2, 0), (1, 9, 0, 501, 128), (4, 2, 0, 32768, 0), (5, 11, 3, 0, 0), (6, 2, 0, 32768, 0), (7, 11, 4, 1, 0), (9, 0, 4, 1, 0), (11, 0, 1, 0, 0), (12, 3, 3, 49, 0), (15, 0, 0, 2, 0), (16, 1, 101, 10, 50), (19, 2, 1, 32782, 14), (21, 0, 2, 0, 0), (22, 2, 1, 32778, 10), (24, 0, 1, 0, 0), (25, 2, 0, 32769, 1), (26, 12, 1, 0, 0), (27, 0, 4, 1, 0), (29, 12, 1, 0, 0), (30, 9, 2, 513, 152), (33, 12, 3, 0, 0), (34, 2, 1, 32778, 10), (36, 12, 4, 0, 0), (37, 8, 0, 0, 0), (38, 0, 0, 2, 0), (39, 9, 0, 441, 90), (42, 11, 3, 0, 0), (43, 7, 4, 1, 0), (46, 5, 0, 9, 0), (49, 0, 0, 2, 0), (50, 2, 0, 32768, 0), (51, 9, 0, 504, 136), (54, 10, 0, 1, 0)], 3, 0, 0, 12, 5)
def fm_154 : fx_M := ([(0, 0, 2, 0, 0), (1, 2, 0, 32769, 1), (2, 3, 2, 11, 0), (5, 0, 2, 0, 0), (6, 2, 1, 32788, 20), (8, 3, 5, 13, 0), (11, 2, 0, 32767, 4294967295), (12, 10, 0, 1, 0), (13, 2, 0, 32768, 0), (14, 11, 3, 0, 0), (15, 0, 3, 0, 0), (16, 2, 1, 32777, 9), (18, 3, 4, 49, 0), (21, 0, 0, 2, 0), (22, 0, 3, 0, 0), (23, 0, 2, 0, 0), (24, 9, 0, 299, 156), (27, 0, 0, 2, 0), (28, 1, 33, 9, 3), (31, 1, 194, 8, 0), (34, 9, 0, 176, 72), (37, 0, 1, 0, 0), (38, 3, 2, 43, 0), (41, 0, 3, 0, 0), (42, 10, 0, 1, 0), (43, 7, 3, 1, 0), (46, 5, 0, 15, 0), (49, 2, 0, 32767, 4294967295), (50, 10, 0, 1, 0)], 3, 0, 0, 11, 4)
def fm_155 : fx_M := ([(0, 0, 2, 0, 0), (1, 2, 0, 32769, 1), (2, 2, 1, 32788, 20), (4, 9, 2, 394, 51), (7, 4, 1, 12, 0), (10, 2, 0, 32767, 4294967295), (11, 10, 0, 1, 0), (12, 2, 0, 32768, 0), (13, 11, 3, 0, 0), (14, 0, 3, 0, 0), (15, 2, 1, 32777, 9), (17, 3, 4, 49, 0), (20, 0, 0, 2, 0), (21, 9, 0, 501, 128), (24, 0, 0, 2, 0), (25, 1, 101, 10, 50), (28, 2, 1, 32782, 14), (30, 0, 3, 0, 0), (31, 8, 0, 0, 0), (32, 0, 0, 2, 0), (33, 0, 2, 0, 0), (34, 9, 0, 504, 136), (37, 0, 1, 0, 0), (38, 3, 2, 43, 0), (41, 0, 3, 0, 0), (42, 10, 0, 1, 0), (43, 7, 3, 1, 0), (46, 5, 0, 14, 0), (49, 2, 0, 32767, 4294967295), (50, 10, 0, 1, 0)], 3, 0, 0, 12, 4)
def fm_156 : fx_M := ([(0, 0, 0, 2, 0), (1, 1, 33, 9, 3), (4, 0, 0, 2, 0), (5, 1, 19, 9, 1), (8, 0, 0, 2, 0), (9, 1, 26, 9, 2), (12, 9, 0, 128, 62), (15, 0, 0, 2, 0), (16, 1, 33, 9, 3), (19, 1, 194, 8, 0), (22, 0, 1, 0, 0), (23, 14, 204, 6, 16), (26, 2, 0, 32768, 0), (27, 11, 3, 0, 0), (28, 0, 3, 0, 0), (29, 0, 2, 0, 0), (30, 3, 3, 47, 0), (33, 0, 0, 2, 0), (34, 1, 33, 9, 3), (37, 9, 0, 188, 85), (40, 15, 1, 0, 0), (41, 7, 3, 1, 0), (44, 5, 0, 28, 0), (47, 10, 1, 0, 0)], 3, 0, 0, 11, 4)
def fm_157 : fx_M := ([(0, 0, 1, 0, 0), (1, 2, 1, 32788, 20), (3, 9, 2, 200, 92), (6, 4, 1, 11, 0), (9, 2, 0, 32767, 4294967295), (10, 10, 0, 1, 0), (11, 2, 0, 32767, 4294967295), (12, 11, 2, 0, 0), (13, 2, 0, 32768, 0), (14, 11, 3, 0, 0), (15, 2, 0, 32768, 0), (16, 11, 4, 1, 0), (18, 0, 4, 1, 0), (20, 2, 1, 32777, 9), (22, 3, 4, 71, 0), (25, 0, 0, 2, 0), (26, 0, 4, 1, 0), (28, 0, 1, 0, 0), (29, 9, 0, 299, 156), (32, 0, 0, 2, 0), (33, 1, 19, 9, 1), (36, 0, 0, 2, 0), (37, 1, 33, 9, 3), (40, 1, 194, 8, 0), (43, 9, 0, 180, 79), (46, 11, 5, 1, 0), (48, 0, 2, 0, 0), (49, 2, 0, 32767, 4294967295), (50, 3, 0, 59, 0), (53, 0, 5, 1, 0), (55, 0, 3, 0, 0), (56, 3, 3, 65, 0), (59, 0, 4, 1, 0), (61, 11, 2, 0, 0), (62, 0, 5, 1, 0), (64, 11, 3, 0, 0), (65, 7, 4, 1, 0), (68, 5, 0, 18, 0), (71, 0, 2, 0, 0), (72, 10, 0, 1, 0)], 2, 0, 0, 11, 6)
def fm_158 : fx_M := ([(0, 0, 1, 0, 0), (1, 2, 0, 32768, 0), (2, 2, 1, 32788, 20), (4, 9, 2, 394, 51), (7, 4, 1, 12, 0), (10, 2, 0, 32767, 4294967295), (11, 10, 0, 1, 0), (12, 2, 0, 32768, 0), (13, 11, 2, 0, 0), (14, 2, 0, 32769, 1), (15, 11, 3, 0, 0), (16, 0, 3, 0, 0), (17, 2, 1, 32777, 9), (19, 3, 4, 45, 0), (22, 0, 0, 2, 0), (23, 0, 3, 0, 0), (24, 0, 1, 0, 0), (25, 9, 0, 519, 159), (28, 0, 0, 2, 0), (29, 0, 2, 0, 0), (30, 0, 1, 0, 0), (31, 9, 0, 519, 159), (34, 3, 3, 39, 0), (39, 7, 3, 1, 0), (42, 5, 0, 16, 0), (45, 0, 2, 0, 0), (46, 10, 0, 1, 0)], 2, 0, 0, 12, 4)
def fm_159 : fx_M := ([(0, 0, 0, 2, 0), (1, 9, 0, 501, 128), (4, 0, 0, 2, 0), (5, 1, 101, 10, 50), (8, 2, 1, 32782, 14), (10, 0, 1, 0, 0), (11, 8, 0, 0, 0), (12, 2, 0, 32768, 0), (13, 11, 3, 0, 0), (14, 2, 0, 32768, 0), (15, 11, 4, 1, 0), (17, 0, 4, 1, 0), (19, 0, 2, 0, 0), (20, 3, 3, 34, 0), (23, 0, 0, 2, 0), (24, 9, 0, 441, 90), (27, 11, 3, 0, 0), (28, 7, 4, 1, 0), (31, 5, 0, 17, 0), (34, 0, 0, 2, 0), (35, 9, 0, 465, 81), (38, 11, 4, 1, 0), (40, 0, 0, 2, 0), (41, 9, 0, 495, 129), (44, 0, 4, 1, 0), (46, 10, 0, 1, 0)], 3, 0, 0, 12, 5)
def fm_160 : fx_M := ([(0, 0, 1, 0, 0), (1, 2, 0, 32772, 4), (2, 9, 2, 200, 92), (5, 4, 0, 28, 0), (8, 0, 1, 0, 0), (9, 0, 0, 2, 0), (10, 1, 19, 9, 1), (13, 1, 121, 3, 12), (16, 12, 2, 0, 0), (17, 2, 0, 32772, 4), (18, 3, 4, 28, 0), (21, 0, 2, 0, 0), (22, 9, 2, 224, 148), (25, 4, 1, 30, 0), (28, 2, 0, 32767, 4294967295), (29, 10, 0, 1, 0), (30, 2, 1, 32868, 100), (32, 0, 0, 2, 0), (33, 1, 19, 9, 1), (36, 1, 302, 3, 13), (39, 12, 1, 0, 0), (40, 11, 3, 0, 0), (41, 0, 3, 0, 0), (42, 2, 1, 32868, 100), (44, 9, 2, 305, 162), (47, 11, 4, 1, 0), (49, 0, 2, 0, 0), (50, 4, 1, 57, 0), (53, 0, 3, 0, 0), (54, 5, 0, 59, 0), (57, 2, 1, 32868, 100), (59, 0, 4, 1, 0), (61, 2, 0, 32769, 1), (62, 29, 293, 0, 0), (65, 12, 3, 0, 0), (66, 0, 1, 0, 0), (67, 0, 0, 2, 0), (68, 1, 19, 9, 1), (71, 1, 121, 3, 12), (74, 12, 2, 0, 0), (75, 9, 2, 308, 163), (78, 10, 0, 1, 0)], 3, 0, 0, 11, 5)
def fm_161 : fx_M := ([(0, 0, 1, 0, 0), (1, 2, 0, 32768, 0), (2, 2, 0, 32772, 4), (3, 9, 2, 394, 51), (6, 4, 0, 28, 0), (9, 0, 1, 0, 0), (10, 0, 0, 2, 0), (11, 9, 0, 391, 26), (14, 12, 2, 0, 0), (15, 2, 0, 32772, 4), (16, 3, 4, 28, 0), (19, 0, 2, 0, 0), (20, 2, 0, 32768, 0), (21, 2, 0, 32769, 1), (22, 9, 2, 394, 51), (25, 4, 1, 30, 0), (28, 2, 0, 32767, 4294967295), (29, 10, 0, 1, 0), (30, 2, 1, 32868, 100), (32, 0, 0, 2, 0), (33, 1, 39, 10, 17), (36, 0, 0, 2, 0), (37, 1, 283, 10, 37), (40, 6, 0, 0, 0), (41, 12, 1, 0, 0), (42, 0, 1, 0, 0), (43, 0, 0, 2, 0), (44, 9, 0, 391, 26), (47, 12, 2, 0, 0), (48, 9, 2, 513, 152), (51, 11, 3, 0, 0), (52, 2, 1, 32868, 100), (54, 0, 1, 0, 0), (55, 0, 0, 2, 0), (56, 9, 0, 391, 26), (59, 12, 2, 0, 0), (60, 9, 2, 513, 152), (63, 11, 4, 1, 0), (65, 0, 2, 0, 0), (66, 4, 1, 73, 0), (69, 0, 3, 0, 0), (70, 5, 0, 75, 0), (73, 0, 4, 1, 0), (75, 0, 4, 1, 0), (77, 0, 3, 0, 0), (78, 9, 2, 522, 164), (81, 12, 3, 0, 0), (82, 10, 0, 1, 0)], 3, 0, 0, 12, 5)
def fm_162 : fx_M := ([(0, 2, 0, 32768, 0), (1, 11, 2, 0, 0), (2, 0, 2, 0, 0), (3, 2, 1, 32868, 100), (5, 3, 3, 26, 0), (8, 0, 0, 0, 0), (9, 4, 0, 26, 0), (12, 0, 1, 0, 0), (13, 0, 0, 0, 0), (14, 12, 4, 0, 0), (15, 11, 3, 0, 0), (16, 0, 0, 0, 0), (17, 11, 1, 0, 0), (18, 0, 3, 0, 0), (19, 11, 0, 0, 0), (20, 7, 2, 1, 0), (23, 5, 0, 2, 0), (26, 0, 1, 0, 0), (27, 10, 0, 1, 0)], 2, 0, 0, 0, 4)
def fm_163 : fx_M := ([(0, 2, 0, 32769, 1), (1, 11, 2, 0, 0), (2, 2, 0, 32768, 0), (3, 11, 3, 0, 0), (4, 0, 3, 0, 0), (5, 0, 1, 0, 0), (6, 3, 3, 24, 0), (24, 0, 2, 0, 0), (25, 10, 0, 1, 0)], 2, 0, 0, 0, 4)
def fm_164 : fx_M := ([(0, 0, 0, 0, 0), (1, 11, 2, 0, 0), (2, 0, 1, 0, 0), (3, 11, 3, 0, 0), (4, 0, 3, 0, 0), (5, 4, 5, 21, 0), (8, 0, 2, 0, 0), (9, 0, 3, 0, 0), (10, 12, 4, 0, 0), (11, 11, 4, 1, 0), (13, 0, 3, 0, 0), (14, 11, 2, 0, 0), (15, 0, 4, 1, 0), (17, 11, 3, 0, 0), (18, 5, 0, 4, 0), (21, 0, 2, 0, 0), (22, 10, 0, 1, 0)], 2, 0, 0, 0, 5)
def fm_165 : fx_M := ([(0, 0, 0, 2, 0), (1, 1, 33, 9, 3), (4, 0, 0, 2, 0), (5, 1, 19, 9, 1), (8, 0, 0, 2, 0), (9, 1, 26, 9, 2), (12, 9, 0, 128, 62), (15, 0, 0, 2, 0), (16, 1, 33, 9, 3), (19, 9, 0, 188, 85), (22, 15, 1, 0, 0), (23, 2, 0, 32768, 0), (24, 11, 2, 0, 0), (25, 2, 0, 32768, 0), (26, 11, 3, 0, 0), (27, 2, 0, 32768, 0), (28, 11, 4, 1, 0), (30, 0, 4, 1, 0), (32, 0, 0, 2, 0), (33, 1, 19, 9, 1), (36, 1, 121, 3, 12), (39, 3, 3, 106, 0), (106, 0, 1, 0, 0), (107, 20, 154, 0, 5), (132, 0, 2, 0, 0), (133, 10, 0, 1, 0), (134, 0, 3, 0, 0), (135, 10, 0, 1, 0), (136, 2, 0, 32769, 1), (137, 0, 0, 2, 0), (138, 1, 19, 9, 1), (141, 1, 121, 3, 12), (144, 12, 8, 0, 0), (145, 2, 0, 32769, 1), (146, 12, 1, 0, 0), (147, 0, 2, 0, 0), (148, 0, 3, 0, 0), (149, 12, 6, 0, 0), (150, 2, 0, 32767, 4294967295), (151, 12, 7, 0, 0), (152, 12, 5, 0, 0), (153, 10, 0, 1, 0), (154, 2, 0, 32767, 4294967295), (155, 10, 0, 1, 0)], 2, 0, 0, 11, 6)
def fm_166 : fx_M := ([(0, 0, 1, 0, 0), (1, 2, 0, 32768, 0), (2, 2, 0, 32770, 2), (3, 9, 2, 394, 51), (6, 4, 1, 11, 0), (9, 2, 0, 32767, 4294967295), (10, 10, 0, 1, 0), (11, 0, 0, 2, 0), (12, 9, 0, 501, 128), (15, 0, 0, 2, 0), (16, 2, 0, 32769, 1), (17, 9, 0, 504, 136), (20, 11, 2, 0, 0), (21, 2, 0, 32768, 0), (22, 11, 3, 0, 0), (23, 2, 0, 32768, 0), (24, 11, 4, 1, 0), (26, 0, 4, 1, 0), (28, 0, 0, 2, 0), (29, 9, 0, 391, 26), (32, 3, 3, 103, 0), (103, 0, 3, 0, 0), (104, 10, 0, 1, 0)], 2, 0, 0, 12, 6)
def fm_167 : fx_M := ([(0, 2, 0, 32767, 4294967295), (1, 11, 1, 0, 0), (2, 2, 0, 32768, 0), (3, 11, 2, 0, 0), (4, 2, 0, 32768, 0), (5, 11, 3, 0, 0), (6, 0, 3, 0, 0), (7, 0, 0, 2, 0), (8, 1, 19, 9, 1), (11, 1, 121, 3, 12), (14, 3, 3, 87, 0), (87, 0, 1, 0, 0), (88, 10, 0, 1, 0)], 1, 0, 0, 11, 5)
def fm_168 : fx_M := ([(0, 2, 0, 32767, 4294967295), (1, 11, 1, 0, 0), (2, 2, 0, 32768, 0), (3, 11, 2, 0, 0), (4, 2, 0, 32768, 0), (5, 11, 3, 0, 0), (6, 0, 3, 0, 0), (7, 0, 0, 2, 0), (8, 9, 0, 391, 26), (11, 3, 3, 58, 0), (58, 0, 1, 0, 0), (59, 10, 0, 1, 0)], 1, 0, 0, 12, 5)
def fm_169 : fx_M := ([(0, 0, 1, 0, 0), (1, 4, 2, 30, 0), (4, 0, 1, 0, 0), (5, 0, 0, 2, 0), (6, 1, 73, 9, 11), (9, 3, 3, 30, 0), (30, 2, 0, 32767, 4294967295), (31, 10, 0, 1, 0)], 2, 0, 0, 11, 2)
def fm_170 : fx_M := ([(0, 0, 1, 0, 0), (1, 2, 0, 32768, 0), (2, 0, 0, 2, 0), (3, 1, 410, 10, 57), (6, 2, 0, 32769, 1), (7, 12, 1, 0, 0), (8, 9, 2, 394, 51), (11, 4, 0, 23, 0), (23, 2, 0, 32767, 4294967295), (24, 10, 0, 1, 0)], 2, 0, 0, 12, 2)
def fm_171 : fx_M := ([(0, 0, 1, 0, 0), (1, 2, 1, 32774, 6), (3, 9, 2, 200, 92), (6, 4, 0, 26, 0), (9, 0, 0, 2, 0), (10, 0, 2, 0, 0), (11, 9, 0, 124, 48), (14, 4, 0, 26, 0), (26, 2, 0, 32767, 4294967295), (27, 10, 0, 1, 0)], 5, 0, 0, 11, 5)
def fm_172 : fx_M := ([(0, 0, 1, 0, 0), (1, 2, 0, 32768, 0), (2, 2, 1, 32774, 6), (4, 9, 2, 394, 51), (7, 4, 0, 34, 0), (10, 0, 0, 2, 0), (11, 0, 2, 0, 0), (12, 9, 0, 444, 50), (15, 4, 0, 34, 0), (34, 2, 0, 32767, 4294967295), (35, 10, 0, 1, 0)], 5, 0, 0, 12, 5)
def fm_173 : fx_M := ([(0, 0, 0, 2, 0), (1, 1, 56, 9, 6), (4, 0, 1, 0, 0), (5, 0, 0, 2, 0), (6, 1, 77, 9, 12), (9, 9, 0, 315, 174), (12, 10, 0, 2, 0)], 2, 0, 0, 11, 2)
def fm_174 : fx_M := ([(0, 0, 1, 0, 0), (1, 4, 2, 22, 0), (4, 0, 1, 0, 0), (5, 0, 0, 2, 0), (6, 1, 31, 2, 6), (9, 3, 3, 22, 0), (22, 2, 0, 32768, 0), (23, 10, 0, 2, 0)], 3, 0, 0, 4, 3)
def fm_175 : fx_M := ([(0, 0, 1, 0, 0), (1, 2, 0, 32768, 0), (2, 0, 0, 2, 0), (3, 1, 407, 10, 69), (6, 2, 0, 32769, 1), (7, 12, 1, 0, 0), (8, 9, 2, 394, 51), (11, 4, 0, 23, 0), (23, 2, 0, 32768, 0), (24, 10, 0, 2, 0)], 2, 0, 0, 12, 2)
def fm_176 : fx_M := ([(0, 0, 1, 0, 0), (1, 2, 2, 33768, 1000), (4, 9, 2, 200, 92), (7, 4, 0, 22, 0), (10, 0, 0, 2, 0), (11, 1, 77, 9, 12), (14, 0, 1, 0, 0), (15, 12, 0, 0, 0), (16, 2, 4, 317, 100000), (19, 3, 5, 24, 0), (22, 2, 0, 32767, 4294967295), (23, 10, 0, 1, 0), (24, 0, 0, 2, 0), (25, 15, 0, 0, 0), (26, 1, 77, 9, 12), (29, 0, 1, 0, 0), (30, 12, 0, 0, 0), (31, 14, 77, 9, 96), (34, 0, 0, 2, 0), (35, 1, 77, 9, 12), (38, 10, 0, 1, 0)], 2, 0, 0, 11, 2)
def fm_177 : fx_M := ([(0, 0, 1, 0, 0), (1, 2, 0, 32768, 0), (2, 2, 2, 33768, 1000), (5, 9, 2, 394, 51), (8, 4, 0, 23, 0), (11, 0, 0, 2, 0), (12, 1, 525, 10, 70), (15, 0, 1, 0, 0), (16, 12, 0, 0, 0), (17, 2, 4, 528, 100000), (20, 3, 5, 25, 0), (23, 2, 0, 32767, 4294967295), (24, 10, 0, 1, 0), (25, 0, 0, 2, 0), (26, 15, 0, 0, 0), (27, 1, 525, 10, 70), (30, 0, 1, 0, 0), (31, 12, 0, 0, 0), (32, 14, 525, 10, 560), (35, 0, 0, 2, 0), (36, 1, 525, 10, 70), (39, 10, 0, 1, 0)], 2, 0, 0, 12, 2)
def fm_178 : fx_M := ([(0, 0, 0, 2, 0), (1, 0, 1, 0, 0), (2, 9, 0, 318, 179), (5, 10, 0, 1, 0)], 2, 0, 0, 11, 2)
def fm_179 : fx_M := ([(0, 0, 0, 2, 0), (1, 1, 56, 9, 6), (4, 0, 1, 0, 0), (5, 9, 0, 321, 180), (8, 11, 2, 0, 0), (9, 2, 0, 32768, 0), (10, 11, 3, 0, 0), (11, 2, 0, 32768, 0), (12, 11, 4, 1, 0), (14, 0, 4, 1, 0), (16, 2, 1, 32777, 9), (18, 3, 4, 49, 0), (21, 0, 3, 0, 0), (22, 0, 0, 2, 0), (23, 0, 4, 1, 0), (25, 0, 1, 0, 0), (26, 0, 2, 0, 0), (27, 9, 0, 324, 181), (30, 4, 0, 40, 0), (33, 2, 0, 32769, 1), (34, 0, 4, 1, 0), (36, 12, 8, 0, 0), (37, 5, 0, 41, 0), (41, 12, 6, 0, 0), (42, 11, 3, 0, 0), (43, 7, 4, 1, 0), (46, 5, 0, 14, 0), (49, 0, 3, 0, 0), (50, 10, 0, 1, 0)], 2, 0, 0, 11, 5)
def fm_180 : fx_M := ([(0, 2, 0, 32767, 4294967295), (1, 11, 2, 0, 0), (2, 2, 0, 32768, 0), (3, 11, 3, 0, 0), (4, 0, 3, 0, 0), (5, 0, 0, 2, 0), (6, 1, 31, 2, 6), (9, 3, 3, 42, 0), (42, 0, 2, 0, 0), (43, 10, 0, 1, 0)], 2, 0, 0, 4, 4)
def fm_181 : fx_M := ([(0, 0, 0, 2, 0), (1, 1, 33, 9, 3), (4, 0, 0, 2, 0), (5, 1, 19, 9, 1), (8, 0, 0, 2, 0), (9, 1, 26, 9, 2), (12, 9, 0, 128, 62), (15, 0, 0, 2, 0), (16, 1, 33, 9, 3), (19, 1, 194, 8, 0), (22, 0, 1, 0, 0), (23, 14, 204, 6, 16), (26, 2, 0, 32768, 0), (27, 11, 4, 1, 0), (29, 0, 4, 1, 0), (31, 0, 3, 0, 0), (32, 3, 4, 83, 0), (83, 2, 0, 32769, 1), (84, 10, 0, 2, 0)], 4, 0, 0, 11, 5)
def fm_182 : fx_M := ([(0, 2, 0, 32768, 0), (1, 11, 2, 0, 0), (2, 2, 0, 32768, 0), (3, 11, 3, 0, 0), (4, 0, 3, 0, 0), (5, 2, 1, 32777, 9), (7, 3, 4, 31, 0), (10, 0, 0, 2, 0), (11, 0, 3, 0, 0), (12, 0, 1, 0, 0), (13, 9, 0, 532, 183), (16, 4, 0, 25, 0), (19, 0, 2, 0, 0), (20, 2, 0, 32769, 1), (21, 0, 3, 0, 0), (22, 12, 8, 0, 0), (23, 12, 6, 0, 0), (24, 11, 2, 0, 0), (25, 7, 3, 1, 0), (28, 5, 0, 4, 0), (31, 0, 2, 0, 0), (32, 10, 0, 1, 0)], 2, 0, 0, 12, 4)
def fm_183 : fx_M := ([(0, 2, 0, 32768, 0), (1, 11, 3, 0, 0), (2, 0, 3, 0, 0), (3, 0, 0, 2, 0), (4, 1, 407, 10, 69), (7, 3, 3, 94, 0), (94, 2, 0, 32769, 1), (95, 10, 0, 2, 0)], 3, 0, 0, 12, 5)
def fm_184 : fx_M := ([(0, 0, 1, 0, 0), (1, 2, 1, 32774, 6), (3, 9, 2, 200, 92), (6, 4, 0, 16, 0), (9, 0, 2, 0, 0), (10, 9, 2, 224, 148), (13, 4, 1, 18, 0), (16, 2, 0, 32767, 4294967295), (17, 10, 0, 1, 0), (18, 0, 0, 2, 0), (19, 0, 3, 0, 0), (20, 9, 0, 318, 179), (23, 11, 4, 1, 0), (25, 0, 4, 1, 0), (27, 4, 0, 40, 0), (30, 0, 0, 2, 0), (31, 1, 19, 9, 1), (34, 1, 121, 3, 12), (37, 4, 1, 42, 0), (40, 2, 0, 32767, 4294967295), (41, 10, 0, 1, 0)], 4, 0, 0, 11, 9)
def fm_185 : fx_M := ([(0, 0, 0, 2, 0), (1, 0, 3, 0, 0), (2, 9, 0, 535, 182), (5, 11, 4, 1, 0), (7, 0, 1, 0, 0), (8, 2, 0, 32768, 0), (9, 2, 1, 32774, 6), (11, 9, 2, 394, 51), (14, 4, 0, 31, 0), (17, 0, 2, 0, 0), (18, 2, 0, 32768, 0), (19, 2, 0, 32769, 1), (20, 9, 2, 394, 51), (23, 4, 0, 31, 0), (26, 0, 4, 1, 0), (28, 4, 1, 33, 0), (31, 2, 0, 32767, 4294967295), (32, 10, 0, 1, 0), (33, 2, 0, 32767, 4294967295), (34, 11, 5, 1, 0), (36, 2, 0, 32768, 0), (37, 11, 6, 1, 0), (39, 2, 0, 32768, 0), (40, 11, 7, 1, 0), (42, 0, 7, 1, 0), (44, 0, 0, 2, 0), (45, 9, 0, 391, 26), (48, 3, 3, 91, 0), (91, 0, 5, 1, 0), (93, 4, 3, 100, 0), (96, 2, 0, 32767, 4294967295), (97, 5, 0, 111, 0), (111, 10, 0, 1, 0)], 4, 0, 0, 12, 9)
def fm_186 : fx_M := ([(0, 0, 1, 0, 0), (1, 4, 2, 9, 0), (4, 0, 1, 0, 0), (5, 2, 0, 32771, 3), (6, 3, 2, 11, 0), (9, 2, 0, 32767, 4294967295), (10, 10, 0, 1, 0), (11, 0, 0, 2, 0), (12, 1, 49, 9, 5), (15, 0, 1, 0, 0), (16, 0, 0, 2, 0), (17, 1, 26, 9, 2), (20, 9, 0, 350, 84), (23, 0, 0, 2, 0), (24, 1, 26, 9, 2), (27, 1, 150, 6, 3), (30, 10, 0, 1, 0)], 2, 0, 0, 11, 2)
def fm_187 : fx_M := ([(0, 0, 1, 0, 0), (1, 2, 0, 32768, 0), (2, 2, 0, 32770, 2), (3, 9, 2, 394, 51), (6, 4, 1, 11, 0), (9, 2, 0, 32767, 4294967295), (10, 10, 0, 1, 0), (11, 2, 0, 32768, 0), (12, 11, 2, 0, 0), (13, 0, 2, 0, 0), (14, 2, 1, 32785, 17), (16, 3, 3, 42, 0), (19, 0, 0, 2, 0), (20, 1, 149, 10, 71), (23, 2, 1, 32785, 17), (25, 0, 1, 0, 0), (26, 12, 2, 0, 0), (27, 0, 2, 0, 0), (28, 12, 0, 0, 0), (29, 0, 0, 2, 0), (30, 1, 101, 10, 50), (33, 0, 2, 0, 0), (34, 6, 0, 0, 0), (35, 8, 0, 0, 0), (36, 7, 2, 1, 0), (39, 5, 0, 13, 0), (42, 0, 0, 2, 0), (43, 1, 152, 10, 72), (46, 0, 1, 0, 0), (47, 2, 0, 32769, 1), (48, 8, 1, 0, 0), (49, 0, 0, 2, 0), (50, 1, 101, 10, 50), (53, 2, 1, 32783, 15), (55, 6, 0, 0, 0), (56, 10, 0, 1, 0)], 2, 0, 0, 12, 3)
def fm_188 : fx_M := ([(0, 0, 0, 2, 0), (1, 1, 49, 9, 5), (4, 0, 1, 0, 0), (5, 0, 0, 2, 0), (6, 1, 26, 9, 2), (9, 9, 0, 354, 189), (12, 4, 1, 17, 0), (15, 2, 0, 32767, 4294967295), (16, 10, 0, 1, 0)], 2, 0, 0, 11, 2)
def fm_189 : fx_M := ([(0, 0, 1, 0, 0), (1, 4, 2, 21, 0), (4, 0, 1, 0, 0), (5, 0, 0, 2, 0), (6, 1, 15, 5, 0), (9, 3, 3, 21, 0), (12, 0, 0, 2, 0), (13, 1, 25, 5, 2), (16, 0, 1, 0, 0), (17, 6, 1, 0, 0), (18, 4, 1, 23, 0), (21, 2, 0, 32768, 0), (22, 10, 0, 2, 0)], 3, 0, 0, 7, 4)
def fm_190 : fx_M := ([(0, 0, 1, 0, 0), (1, 2, 0, 32768, 0), (2, 2, 0, 32770, 2), (3, 9, 2, 394, 51), (6, 4, 0, 18, 0), (9, 0, 0, 2, 0), (10, 1, 152, 10, 72), (13, 0, 1, 0, 0), (14, 6, 1, 0, 0), (15, 4, 1, 20, 0), (18, 2, 0, 32767, 4294967295), (19, 10, 0, 1, 0)], 2, 0, 0, 12, 3)
def fm_191 : fx_M := ([(0, 0, 1, 0, 0), (1, 20, 195, 0, 6), (72, 0, 0, 2, 0), (73, 1, 19, 9, 1), (76, 1, 121, 3, 12), (79, 10, 0, 1, 0), (80, 0, 0, 2, 0), (81, 1, 19, 9, 1), (84, 1, 157, 3, 11), (87, 10, 0, 1, 0), (88, 0, 0, 2, 0), (89, 1, 19, 9, 1), (92, 1, 358, 3, 9), (95, 10, 0, 1, 0), (96, 0, 0, 2, 0), (97, 1, 19, 9, 1), (100, 1, 361, 3, 10), (103, 10, 0, 1, 0), (104, 0, 0, 2, 0), (105, 1, 26, 9, 2), (108, 1, 204, 6, 2), (111, 10, 0, 1, 0), (112, 0, 0, 2, 0), (113, 1, 26, 9, 2), (116, 1, 150, 6, 3), (119, 10, 0, 1, 0), (120, 0, 0, 2, 0), (121, 1, 26, 9, 2), (124, 1, 364, 6, 4), (127, 10, 0, 1, 0), (128, 0, 0, 2, 0), (129, 1, 40, 9, 4), (132, 1, 367, 0, 1), (135, 10, 0, 1, 0), (136, 0, 0, 2, 0), (137, 1, 40, 9, 4), (140, 1, 370, 0, 2), (143, 10, 0, 1, 0), (144, 0, 0, 2, 0), (145, 1, 56, 9, 6), (148, 1, 373, 2, 6), (151, 10, 0, 1, 0), (152, 0, 0, 2, 0), (153, 1, 77, 9, 12), (156, 10, 0, 1, 0), (157, 0, 0, 2, 0), (158, 1, 10, 9, 0), (161, 1, 93, 4, 0), (164, 1, 97, 7, 3), (167, 10, 0, 1, 0), (168, 0, 0, 2, 0), (169, 1, 19, 9, 1), (172, 1, 376, 3, 7), (175, 1, 380, 1, 3), (178, 0, 0, 2, 0), (179, 1, 19, 9, 1), (182, 1, 385, 3, 8), (185, 1, 380, 1, 3), (188, 12, 0, 0, 0), (189, 10, 0, 1, 0), (190, 0, 0, 2, 0), (191, 1, 73, 9, 11), (194, 10, 0, 1, 0), (195, 2, 0, 32767, 4294967295), (196, 10, 0, 1, 0)], 2, 0, 0, 11, 2)
def fm_192 : fx_M := ([(0, 0, 1, 0, 0), (1, 20, 171, 0, 7), (72, 0, 0, 2, 0), (73, 9, 0, 391, 26), (76, 10, 0, 1, 0), (77, 0, 0, 2, 0), (78, 1, 30, 10, 14), (81, 0, 0, 2, 0), (82, 1, 283, 10, 37), (85, 6, 0, 0, 0), (86, 10, 0, 1, 0), (87, 0, 0, 2, 0), (88, 1, 20, 10, 11), (91, 0, 0, 2, 0), (92, 1, 283, 10, 37), (95, 6, 0, 0, 0), (96, 10, 0, 1, 0), (97, 0, 0, 2, 0), (98, 1, 24, 10, 12), (101, 0, 0, 2, 0), (102, 1, 283, 10, 37), (105, 6, 0, 0, 0), (106, 10, 0, 1, 0), (107, 0, 0, 2, 0), (108, 1, 101, 10, 50), (111, 2, 1, 32782, 14), (113, 6, 0, 0, 0), (114, 10, 0, 1, 0), (115, 0, 0, 2, 0), (116, 1, 101, 10, 50), (119, 2, 1, 32783, 15), (121, 6, 0, 0, 0), (122, 10, 0, 1, 0), (123, 0, 0, 2, 0), (124, 1, 101, 10, 50), (127, 2, 1, 32784, 16), (129, 6, 0, 0, 0), (130, 10, 0, 1, 0), (131, 0, 0, 2, 0), (132, 1, 401, 10, 53), (135, 10, 0, 1, 0), (136, 0, 0, 2, 0), (137, 1, 404, 10, 54), (140, 10, 0, 1, 0), (141, 0, 0, 2, 0), (142, 1, 407, 10, 69), (145, 10, 0, 1, 0), (146, 0, 0, 2, 0), (147, 1, 525, 10, 70), (150, 10, 0, 1, 0), (151, 0, 0, 2, 0), (152, 1, 280, 10, 2), (155, 10, 0, 1, 0), (156, 0, 0, 2, 0), (157, 1, 36, 10, 16), (160, 0, 0, 2, 0), (161, 1, 283, 10, 37), (164, 6, 0, 0, 0), (165, 10, 0, 1, 0), (166, 0, 0, 2, 0), (167, 1, 410, 10, 57), (170, 10, 0, 1, 0), (171, 2, 0, 32767, 4294967295), (172, 10, 0, 1, 0)], 2, 0, 0, 12, 2)
def fx_mtl : List (List fx_M) := [[fm_0, fm_1, fm_2, fm_3, fm_4, fm_5, fm_6, fm_7, fm_8, fm_9, fm_10, fm_11, fm_12, fm_13, fm_14, fm_15], [fm_16, fm_17, fm_18, fm_19, fm_20, fm_21, fm_22, fm_23, fm_24, fm_25, fm_26, fm_27, fm_28, fm_29, fm_30, fm_31], [fm_32, fm_33, fm_34, fm_35, fm_36, fm_37, fm_38, fm_39, fm_40, fm_41, fm_42, fm_43, fm_44, fm_45, fm_46, fm_47], [fm_48, fm_49, fm_50, fm_51, fm_52, fm_53, fm_54, fm_55, fm_56, fm_57, fm_58, fm_59, fm_60, fm_61, fm_62, fm_63], [fm_64, fm_65, fm_66, fm_67, fm_68, fm_69, fm_70, fm_71, fm_72, fm_73, fm_74, fm_75, fm_76, fm_77, fm_78, fm_79], [fm_80, fm_81, fm_82, fm_83, fm_84, fm_85, fm_86, fm_87, fm_88, fm_89, fm_90, fm_91, fm_92, fm_93, fm_94, fm_95], [fm_96, fm_97, fm_98, fm_99, fm_100, fm_101, fm_102, fm_103, fm_104, fm_105, fm_106, fm_107, fm_108, fm_109, fm_110, fm_111], [fm_112, fm_113, fm_114, fm_115, fm_116, fm_117, fm_118, fm_119, fm_120, fm_121, fm_122, fm_123, fm_124, fm_125, fm_126, fm_127], [fm_128, fm_129, fm_130, fm_131, fm_132, fm_133, fm_134, fm_135, fm_136, fm_137, fm_138, fm_139, fm_140, fm_141, fm_142, fm_143], [fm_144, fm_145, fm_146, fm_147, fm_148, fm_149, fm_150, fm_151, fm_152, fm_153, fm_154, fm_155, fm_156, fm_157, fm_158, fm_159], [fm_160, fm_161, fm_162, fm_163, fm_164, fm_165, fm_166, fm_167, fm_168, fm_169, fm_170, fm_171, fm_172, fm_173, fm_174, fm_175], [fm_176, fm_177, fm_178, fm_179, fm_180, fm_181, fm_182, fm_183, fm_184, fm_185, fm_186, fm_187, fm_188, fm_189, fm_190, fm_191], [fm_192]]
noncomputable def fx_mt (c : Nat) : Option fx_M := match fx_nth fx_mtl (Nat.div c 16) with
  | none => none
  | some r => fx_nth r (Nat.mod c 16)
def fx_swl : List (List Nat) := [[228, 291, 314, 327, 350, 383, 416, 449, 462, 475, 488, 511, 544, 577, 600, 613, 626, 659, 692, 715, 748, 761, 794, 817, 830, 863, 886, 899, 922, 965, 978, 1011, 1044, 1067, 1100, 1123, 1136, 1159, 1228, 1251, 1274, 1297, 1340, 1363, 1386], [28, 33], [40, 49], [40, 46], [120, 122, 124], [132, 134, 136], [72, 80, 88, 96, 104, 112, 120, 128, 136, 144, 152, 157, 168, 190], [72, 77, 87, 97, 107, 115, 123, 131, 136, 141, 146, 151, 156, 166]]
noncomputable def fx_swt (c : Nat) : List Nat := match fx_nth fx_swl c with
  | none => []
  | some r => r
def fx_cdl : List (List fx_V) := [[fz, fc 0, fc 0], [fz, fz, fc 0, fc 0], [fz, fz, fz, fz, fz, fz, fc 0], [fz, fz, fz, fz, fz, fz, fz, fz, fz, fc 0, fc 0, fc 0, fc 0, fc 0, fc 0, fc 0, fc 0, fc 0], [fz, fz, fc 0, fc 0], [fc 0, fz, fz], [fz, fz, fc 0, fc 0, fc 0], [fz, fz, fc 0, fc 0, fc 0, fc 0, fc 0, fl 0], [fz, fz, fz, fz, fz, fz, fz, fz, fz, fz, fz], [fz, fz, fz, fz, fz, fz, fz, fz, fz, fz, fz, fc 0, fc 0, fc 0, fc 0, fc 0], [fz, fz, fc 0, fc 0, fc 0, fc 0, fc 0, fc 0, fc 0, fc 0, fl 0, fz, fz, fz, fz, fz, fz, fz, fz, fz, fz, fz, fz, fz, fz, fz, fz, fz, fz, fz, fz, fz, fz, fz, fz, fz, fz, fc 0, fc 0, fc 0, fc 0, fc 0, fc 0, fc 0, fc 0, fc 0, fc 0, fc 0, fc 0, fc 0, fz, fz, fz, fc 0, fc 0, fz, fz, fc 0, fz, fz, fz, fz, fz, fz, fz, fz, fz, fz, fz, fc 0, fc 0, fz, fz]]
def fw_new : List fx_I := [(0, 16, 7, 9, 0), (3, 15, 0, 0, 0), (4, 9, 1, 9, 0), (7, 11, 1, 2, 0), (8, 16, 10, 10, 0), (11, 15, 0, 0, 0), (12, 9, 1, 12, 23), (15, 11, 2, 2, 0), (16, 2, 0, 32768, 0), (17, 11, 3, 0, 0), (18, 28, 0, 0, 0)]
def fw_0 : List fx_I := [(18, 0, 3, 0, 0), (19, 0, 0, 2, 0), (20, 18, 0, 0, 0), (21, 2, 1, 32774, 6), (23, 12, 1, 0, 0), (24, 3, 4, 1415, 0), (27, 0, 0, 2, 0), (28, 0, 3, 0, 0), (29, 6, 0, 0, 0), (30, 2, 1, 32831, 63), (32, 12, 5, 0, 0), (33, 20, 1409, 0, 0), (228, 0, 1, 2, 0), (229, 0, 0, 2, 0), (230, 0, 3, 0, 0), (231, 2, 0, 32769, 1), (232, 12, 0, 0, 0), (233, 6, 0, 0, 0), (234, 0, 0, 2, 0), (235, 0, 3, 0, 0), (236, 2, 0, 32770, 2), (237, 12, 0, 0, 0), (238, 6, 0, 0, 0), (239, 0, 0, 2, 0), (240, 0, 3, 0, 0), (241, 2, 0, 32771, 3), (242, 12, 0, 0, 0), (243, 6, 0, 0, 0), (244, 0, 0, 2, 0), (245, 0, 3, 0, 0), (246, 2, 0, 32772, 4), (247, 12, 0, 0, 0), (248, 6, 0, 0, 0), (249, 0, 0, 2, 0), (250, 0, 3, 0, 0), (251, 2, 0, 32773, 5), (252, 12, 0, 0, 0), (253, 6, 0, 0, 0), (254, 9, 0, 13, 27), (257, 0, 2, 2, 0), (258, 0, 0, 2, 0), (259, 0, 3, 0, 0), (260, 2, 0, 32769, 1), (261, 12, 0, 0, 0), (262, 6, 0, 0, 0), (263, 0, 0, 2, 0), (264, 0, 3, 0, 0), (265, 2, 0, 32770, 2), (266, 12, 0, 0, 0), (267, 6, 0, 0, 0), (268, 0, 0, 2, 0), (269, 0, 3, 0, 0), (270, 2, 0, 32771, 3), (271, 12, 0, 0, 0), (272, 6, 0, 0, 0), (273, 0, 0, 2, 0), (274, 0, 3, 0, 0), (275, 2, 0, 32772, 4), (276, 12, 0, 0, 0), (277, 6, 0, 0, 0), (278, 0, 0, 2, 0), (279, 0, 3, 0, 0), (280, 2, 0, 32773, 5), (281, 12, 0, 0, 0), (282, 6, 0, 0, 0), (283, 9, 0, 17, 29), (286, 3, 0, 1409, 0), (1409, 7, 3, 6, 0), (1412, 5, 0, 18, 0), (1415, 2, 0, 32769, 1), (1416, 10, 0, 2, 0)]
def fw_1 : List fx_I := [(18, 0, 3, 0, 0), (19, 0, 0, 2, 0), (20, 18, 0, 0, 0), (21, 2, 1, 32774, 6), (23, 12, 1, 0, 0), (24, 3, 4, 1415, 0), (27, 0, 0, 2, 0), (28, 0, 3, 0, 0), (29, 6, 0, 0, 0), (30, 2, 1, 32831, 63), (32, 12, 5, 0, 0), (33, 20, 1409, 0, 0), (291, 0, 1, 2, 0), (292, 0, 0, 2, 0), (293, 0, 3, 0, 0), (294, 2, 0, 32769, 1), (295, 12, 0, 0, 0), (296, 6, 0, 0, 0), (297, 9, 0, 18, 30), (300, 0, 2, 2, 0), (301, 0, 0, 2, 0), (302, 0, 3, 0, 0), (303, 2, 0, 32769, 1), (304, 12, 0, 0, 0), (305, 6, 0, 0, 0), (306, 9, 0, 22, 31), (309, 3, 0, 1409, 0), (1409, 7, 3, 6, 0), (1412, 5, 0, 18, 0), (1415, 2, 0, 32769, 1), (1416, 10, 0, 2, 0)]
def fw_2 : List fx_I := [(18, 0, 3, 0, 0), (19, 0, 0, 2, 0), (20, 18, 0, 0, 0), (21, 2, 1, 32774, 6), (23, 12, 1, 0, 0), (24, 3, 4, 1415, 0), (27, 0, 0, 2, 0), (28, 0, 3, 0, 0), (29, 6, 0, 0, 0), (30, 2, 1, 32831, 63), (32, 12, 5, 0, 0), (33, 20, 1409, 0, 0), (314, 0, 1, 2, 0), (315, 9, 0, 23, 32), (318, 0, 2, 2, 0), (319, 9, 0, 27, 41), (322, 3, 0, 1409, 0), (1409, 7, 3, 6, 0), (1412, 5, 0, 18, 0), (1415, 2, 0, 32769, 1), (1416, 10, 0, 2, 0)]
def fw_3 : List fx_I := [(18, 0, 3, 0, 0), (19, 0, 0, 2, 0), (20, 18, 0, 0, 0), (21, 2, 1, 32774, 6), (23, 12, 1, 0, 0), (24, 3, 4, 1415, 0), (27, 0, 0, 2, 0), (28, 0, 3, 0, 0), (29, 6, 0, 0, 0), (30, 2, 1, 32831, 63), (32, 12, 5, 0, 0), (33, 20, 1409, 0, 0), (327, 0, 1, 2, 0), (328, 0, 0, 2, 0), (329, 0, 3, 0, 0), (330, 2, 0, 32769, 1), (331, 12, 0, 0, 0), (332, 6, 0, 0, 0), (333, 9, 0, 28, 45), (336, 0, 2, 2, 0), (337, 0, 0, 2, 0), (338, 0, 3, 0, 0), (339, 2, 0, 32769, 1), (340, 12, 0, 0, 0), (341, 6, 0, 0, 0), (342, 9, 0, 31, 46), (345, 3, 0, 1409, 0), (1409, 7, 3, 6, 0), (1412, 5, 0, 18, 0), (1415, 2, 0, 32769, 1), (1416, 10, 0, 2, 0)]
def fw_4 : List fx_I := [(18, 0, 3, 0, 0), (19, 0, 0, 2, 0), (20, 18, 0, 0, 0), (21, 2, 1, 32774, 6), (23, 12, 1, 0, 0), (24, 3, 4, 1415, 0), (27, 0, 0, 2, 0), (28, 0, 3, 0, 0), (29, 6, 0, 0, 0), (30, 2, 1, 32831, 63), (32, 12, 5, 0, 0), (33, 20, 1409, 0, 0), (350, 0, 1, 2, 0), (351, 0, 0, 2, 0), (352, 0, 3, 0, 0), (353, 2, 0, 32769, 1), (354, 12, 0, 0, 0), (355, 6, 0, 0, 0), (356, 0, 0, 2, 0), (357, 0, 3, 0, 0), (358, 2, 0, 32770, 2), (359, 12, 0, 0, 0), (360, 6, 0, 0, 0), (361, 9, 0, 32, 47), (364, 0, 2, 2, 0), (365, 0, 0, 2, 0), (366, 0, 3, 0, 0), (367, 2, 0, 32769, 1), (368, 12, 0, 0, 0), (369, 6, 0, 0, 0), (370, 0, 0, 2, 0), (371, 0, 3, 0, 0), (372, 2, 0, 32770, 2), (373, 12, 0, 0, 0), (374, 6, 0, 0, 0), (375, 9, 0, 36, 49), (378, 3, 0, 1409, 0), (1409, 7, 3, 6, 0), (1412, 5, 0, 18, 0), (1415, 2, 0, 32769, 1), (1416, 10, 0, 2, 0)]
def fw_5 : List fx_I := [(18, 0, 3, 0, 0), (19, 0, 0, 2, 0), (20, 18, 0, 0, 0), (21, 2, 1, 32774, 6), (23, 12, 1, 0, 0), (24, 3, 4, 1415, 0), (27, 0, 0, 2, 0), (28, 0, 3, 0, 0), (29, 6, 0, 0, 0), (30, 2, 1, 32831, 63), (32, 12, 5, 0, 0), (33, 20, 1409, 0, 0), (383, 0, 1, 2, 0), (384, 0, 0, 2, 0), (385, 0, 3, 0, 0), (386, 2, 0, 32769, 1), (387, 12, 0, 0, 0), (388, 6, 0, 0, 0), (389, 0, 0, 2, 0), (390, 0, 3, 0, 0), (391, 2, 0, 32770, 2), (392, 12, 0, 0, 0), (393, 6, 0, 0, 0), (394, 9, 0, 37, 52), (397, 0, 2, 2, 0), (398, 0, 0, 2, 0), (399, 0, 3, 0, 0), (400, 2, 0, 32769, 1), (401, 12, 0, 0, 0), (402, 6, 0, 0, 0), (403, 0, 0, 2, 0), (404, 0, 3, 0, 0), (405, 2, 0, 32770, 2), (406, 12, 0, 0, 0), (407, 6, 0, 0, 0), (408, 9, 0, 40, 53), (411, 3, 0, 1409, 0), (1409, 7, 3, 6, 0), (1412, 5, 0, 18, 0), (1415, 2, 0, 32769, 1), (1416, 10, 0, 2, 0)]
def fw_6 : List fx_I := [(18, 0, 3, 0, 0), (19, 0, 0, 2, 0), (20, 18, 0, 0, 0), (21, 2, 1, 32774, 6), (23, 12, 1, 0, 0), (24, 3, 4, 1415, 0), (27, 0, 0, 2, 0), (28, 0, 3, 0, 0), (29, 6, 0, 0, 0), (30, 2, 1, 32831, 63), (32, 12, 5, 0, 0), (33, 20, 1409, 0, 0), (416, 0, 1, 2, 0), (417, 0, 0, 2, 0), (418, 0, 3, 0, 0), (419, 2, 0, 32769, 1), (420, 12, 0, 0, 0), (421, 6, 0, 0, 0), (422, 0, 0, 2, 0), (423, 0, 3, 0, 0), (424, 2, 0, 32770, 2), (425, 12, 0, 0, 0), (426, 6, 0, 0, 0), (427, 9, 0, 41, 54), (430, 0, 2, 2, 0), (431, 0, 0, 2, 0), (432, 0, 3, 0, 0), (433, 2, 0, 32769, 1), (434, 12, 0, 0, 0), (435, 6, 0, 0, 0), (436, 0, 0, 2, 0), (437, 0, 3, 0, 0), (438, 2, 0, 32770, 2), (439, 12, 0, 0, 0), (440, 6, 0, 0, 0), (441, 9, 0, 44, 56), (444, 3, 0, 1409, 0), (1409, 7, 3, 6, 0), (1412, 5, 0, 18, 0), (1415, 2, 0, 32769, 1), (1416, 10, 0, 2, 0)]
def fw_7 : List fx_I := [(18, 0, 3, 0, 0), (19, 0, 0, 2, 0), (20, 18, 0, 0, 0), (21, 2, 1, 32774, 6), (23, 12, 1, 0, 0), (24, 3, 4, 1415, 0), (27, 0, 0, 2, 0), (28, 0, 3, 0, 0), (29, 6, 0, 0, 0), (30, 2, 1, 32831, 63), (32, 12, 5, 0, 0), (33, 20, 1409, 0, 0), (449, 0, 1, 2, 0), (450, 9, 0, 45, 71), (453, 0, 2, 2, 0), (454, 9, 0, 48, 74), (457, 3, 0, 1409, 0), (1409, 7, 3, 6, 0), (1412, 5, 0, 18, 0), (1415, 2, 0, 32769, 1), (1416, 10, 0, 2, 0)]
def fw_8 : List fx_I := [(18, 0, 3, 0, 0), (19, 0, 0, 2, 0), (20, 18, 0, 0, 0), (21, 2, 1, 32774, 6), (23, 12, 1, 0, 0), (24, 3, 4, 1415, 0), (27, 0, 0, 2, 0), (28, 0, 3, 0, 0), (29, 6, 0, 0, 0), (30, 2, 1, 32831, 63), (32, 12, 5, 0, 0), (33, 20, 1409, 0, 0), (462, 0, 1, 2, 0), (463, 9, 0, 49, 78), (466, 0, 2, 2, 0), (467, 9, 0, 52, 80), (470, 3, 0, 1409, 0), (1409, 7, 3, 6, 0), (1412, 5, 0, 18, 0), (1415, 2, 0, 32769, 1), (1416, 10, 0, 2, 0)]
def fw_9 : List fx_I := [(18, 0, 3, 0, 0), (19, 0, 0, 2, 0), (20, 18, 0, 0, 0), (21, 2, 1, 32774, 6), (23, 12, 1, 0, 0), (24, 3, 4, 1415, 0), (27, 0, 0, 2, 0), (28, 0, 3, 0, 0), (29, 6, 0, 0, 0), (30, 2, 1, 32831, 63), (32, 12, 5, 0, 0), (33, 20, 1409, 0, 0), (475, 0, 1, 2, 0), (476, 9, 0, 53, 82), (479, 0, 2, 2, 0), (480, 9, 0, 56, 87), (483, 3, 0, 1409, 0), (1409, 7, 3, 6, 0), (1412, 5, 0, 18, 0), (1415, 2, 0, 32769, 1), (1416, 10, 0, 2, 0)]
def fw_10 : List fx_I := [(18, 0, 3, 0, 0), (19, 0, 0, 2, 0), (20, 18, 0, 0, 0), (21, 2, 1, 32774, 6), (23, 12, 1, 0, 0), (24, 3, 4, 1415, 0), (27, 0, 0, 2, 0), (28, 0, 3, 0, 0), (29, 6, 0, 0, 0), (30, 2, 1, 32831, 63), (32, 12, 5, 0, 0), (33, 20, 1409, 0, 0), (488, 0, 1, 2, 0), (489, 0, 0, 2, 0), (490, 0, 3, 0, 0), (491, 2, 0, 32769, 1), (492, 12, 0, 0, 0), (493, 6, 0, 0, 0), (494, 9, 0, 57, 91), (497, 0, 2, 2, 0), (498, 0, 0, 2, 0), (499, 0, 3, 0, 0), (500, 2, 0, 32769, 1), (501, 12, 0, 0, 0), (502, 6, 0, 0, 0), (503, 9, 0, 60, 93), (506, 3, 0, 1409, 0), (1409, 7, 3, 6, 0), (1412, 5, 0, 18, 0), (1415, 2, 0, 32769, 1), (1416, 10, 0, 2, 0)]
def fw_11 : List fx_I := [(18, 0, 3, 0, 0), (19, 0, 0, 2, 0), (20, 18, 0, 0, 0), (21, 2, 1, 32774, 6), (23, 12, 1, 0, 0), (24, 3, 4, 1415, 0), (27, 0, 0, 2, 0), (28, 0, 3, 0, 0), (29, 6, 0, 0, 0), (30, 2, 1, 32831, 63), (32, 12, 5, 0, 0), (33, 20, 1409, 0, 0), (511, 0, 1, 2, 0), (512, 0, 0, 2, 0), (513, 0, 3, 0, 0), (514, 2, 0, 32769, 1), (515, 12, 0, 0, 0), (516, 6, 0, 0, 0), (517, 0, 0, 2, 0), (518, 0, 3, 0, 0), (519, 2, 0, 32770, 2), (520, 12, 0, 0, 0), (521, 6, 0, 0, 0), (522, 9, 0, 61, 95), (525, 0, 2, 2, 0), (526, 0, 0, 2, 0), (527, 0, 3, 0, 0), (528, 2, 0, 32769, 1), (529, 12, 0, 0, 0), (530, 6, 0, 0, 0), (531, 0, 0, 2, 0), (532, 0, 3, 0, 0), (533, 2, 0, 32770, 2), (534, 12, 0, 0, 0), (535, 6, 0, 0, 0), (536, 9, 0, 64, 96), (539, 3, 0, 1409, 0), (1409, 7, 3, 6, 0), (1412, 5, 0, 18, 0), (1415, 2, 0, 32769, 1), (1416, 10, 0, 2, 0)]
def fw_12 : List fx_I := [(18, 0, 3, 0, 0), (19, 0, 0, 2, 0), (20, 18, 0, 0, 0), (21, 2, 1, 32774, 6), (23, 12, 1, 0, 0), (24, 3, 4, 1415, 0), (27, 0, 0, 2, 0), (28, 0, 3, 0, 0), (29, 6, 0, 0, 0), (30, 2, 1, 32831, 63), (32, 12, 5, 0, 0), (33, 20, 1409, 0, 0), (544, 0, 1, 2, 0), (545, 0, 0, 2, 0), (546, 0, 3, 0, 0), (547, 2, 0, 32769, 1), (548, 12, 0, 0, 0), (549, 6, 0, 0, 0), (550, 0, 0, 2, 0), (551, 0, 3, 0, 0), (552, 2, 0, 32770, 2), (553, 12, 0, 0, 0), (554, 6, 0, 0, 0), (555, 9, 0, 65, 97), (558, 0, 2, 2, 0), (559, 0, 0, 2, 0), (560, 0, 3, 0, 0), (561, 2, 0, 32769, 1), (562, 12, 0, 0, 0), (563, 6, 0, 0, 0), (564, 0, 0, 2, 0), (565, 0, 3, 0, 0), (566, 2, 0, 32770, 2), (567, 12, 0, 0, 0), (568, 6, 0, 0, 0), (569, 9, 0, 69, 99), (572, 3, 0, 1409, 0), (1409, 7, 3, 6, 0), (1412, 5, 0, 18, 0), (1415, 2, 0, 32769, 1), (1416, 10, 0, 2, 0)]
def fw_13 : List fx_I := [(18, 0, 3, 0, 0), (19, 0, 0, 2, 0), (20, 18, 0, 0, 0), (21, 2, 1, 32774, 6), (23, 12, 1, 0, 0), (24, 3, 4, 1415, 0), (27, 0, 0, 2, 0), (28, 0, 3, 0, 0), (29, 6, 0, 0, 0), (30, 2, 1, 32831, 63), (32, 12, 5, 0, 0), (33, 20, 1409, 0, 0), (577, 0, 1, 2, 0), (578, 0, 0, 2, 0), (579, 0, 3, 0, 0), (580, 2, 0, 32769, 1), (581, 12, 0, 0, 0), (582, 6, 0, 0, 0), (583, 9, 0, 70, 101), (586, 0, 2, 2, 0), (587, 0, 0, 2, 0), (588, 0, 3, 0, 0), (589, 2, 0, 32769, 1), (590, 12, 0, 0, 0), (591, 6, 0, 0, 0), (592, 9, 0, 73, 103), (595, 3, 0, 1409, 0), (1409, 7, 3, 6, 0), (1412, 5, 0, 18, 0), (1415, 2, 0, 32769, 1), (1416, 10, 0, 2, 0)]
def fw_14 : List fx_I := [(18, 0, 3, 0, 0), (19, 0, 0, 2, 0), (20, 18, 0, 0, 0), (21, 2, 1, 32774, 6), (23, 12, 1, 0, 0), (24, 3, 4, 1415, 0), (27, 0, 0, 2, 0), (28, 0, 3, 0, 0), (29, 6, 0, 0, 0), (30, 2, 1, 32831, 63), (32, 12, 5, 0, 0), (33, 20, 1409, 0, 0), (600, 0, 1, 2, 0), (601, 9, 0, 74, 104), (604, 0, 2, 2, 0), (605, 9, 0, 78, 106), (608, 3, 0, 1409, 0), (1409, 7, 3, 6, 0), (1412, 5, 0, 18, 0), (1415, 2, 0, 32769, 1), (1416, 10, 0, 2, 0)]
def fw_15 : List fx_I := [(18, 0, 3, 0, 0), (19, 0, 0, 2, 0), (20, 18, 0, 0, 0), (21, 2, 1, 32774, 6), (23, 12, 1, 0, 0), (24, 3, 4, 1415, 0), (27, 0, 0, 2, 0), (28, 0, 3, 0, 0), (29, 6, 0, 0, 0), (30, 2, 1, 32831, 63), (32, 12, 5, 0, 0), (33, 20, 1409, 0, 0), (613, 0, 1, 2, 0), (614, 9, 0, 79, 107), (617, 0, 2, 2, 0), (618, 9, 0, 82, 109), (621, 3, 0, 1409, 0), (1409, 7, 3, 6, 0), (1412, 5, 0, 18, 0), (1415, 2, 0, 32769, 1), (1416, 10, 0, 2, 0)]
def fw_16 : List fx_I := [(18, 0, 3, 0, 0), (19, 0, 0, 2, 0), (20, 18, 0, 0, 0), (21, 2, 1, 32774, 6), (23, 12, 1, 0, 0), (24, 3, 4, 1415, 0), (27, 0, 0, 2, 0), (28, 0, 3, 0, 0), (29, 6, 0, 0, 0), (30, 2, 1, 32831, 63), (32, 12, 5, 0, 0), (33, 20, 1409, 0, 0), (626, 0, 1, 2, 0), (627, 0, 0, 2, 0), (628, 0, 3, 0, 0), (629, 2, 0, 32769, 1), (630, 12, 0, 0, 0), (631, 6, 0, 0, 0), (632, 0, 0, 2, 0), (633, 0, 3, 0, 0), (634, 2, 0, 32770, 2), (635, 12, 0, 0, 0), (636, 6, 0, 0, 0), (637, 9, 0, 83, 110), (640, 0, 2, 2, 0), (641, 0, 0, 2, 0), (642, 0, 3, 0, 0), (643, 2, 0, 32769, 1), (644, 12, 0, 0, 0), (645, 6, 0, 0, 0), (646, 0, 0, 2, 0), (647, 0, 3, 0, 0), (648, 2, 0, 32770, 2), (649, 12, 0, 0, 0), (650, 6, 0, 0, 0), (651, 9, 0, 86, 111), (654, 3, 0, 1409, 0), (1409, 7, 3, 6, 0), (1412, 5, 0, 18, 0), (1415, 2, 0, 32769, 1), (1416, 10, 0, 2, 0)]
def fw_17 : List fx_I := [(18, 0, 3, 0, 0), (19, 0, 0, 2, 0), (20, 18, 0, 0, 0), (21, 2, 1, 32774, 6), (23, 12, 1, 0, 0), (24, 3, 4, 1415, 0), (27, 0, 0, 2, 0), (28, 0, 3, 0, 0), (29, 6, 0, 0, 0), (30, 2, 1, 32831, 63), (32, 12, 5, 0, 0), (33, 20, 1409, 0, 0), (659, 0, 1, 2, 0), (660, 0, 0, 2, 0), (661, 0, 3, 0, 0), (662, 2, 0, 32769, 1), (663, 12, 0, 0, 0), (664, 6, 0, 0, 0), (665, 0, 0, 2, 0), (666, 0, 3, 0, 0), (667, 2, 0, 32770, 2), (668, 12, 0, 0, 0), (669, 6, 0, 0, 0), (670, 9, 0, 87, 112), (673, 0, 2, 2, 0), (674, 0, 0, 2, 0), (675, 0, 3, 0, 0), (676, 2, 0, 32769, 1), (677, 12, 0, 0, 0), (678, 6, 0, 0, 0), (679, 0, 0, 2, 0), (680, 0, 3, 0, 0), (681, 2, 0, 32770, 2), (682, 12, 0, 0, 0), (683, 6, 0, 0, 0), (684, 9, 0, 90, 113), (687, 3, 0, 1409, 0), (1409, 7, 3, 6, 0), (1412, 5, 0, 18, 0), (1415, 2, 0, 32769, 1), (1416, 10, 0, 2, 0)]
def fw_18 : List fx_I := [(18, 0, 3, 0, 0), (19, 0, 0, 2, 0), (20, 18, 0, 0, 0), (21, 2, 1, 32774, 6), (23, 12, 1, 0, 0), (24, 3, 4, 1415, 0), (27, 0, 0, 2, 0), (28, 0, 3, 0, 0), (29, 6, 0, 0, 0), (30, 2, 1, 32831, 63), (32, 12, 5, 0, 0), (33, 20, 1409, 0, 0), (692, 0, 1, 2, 0), (693, 0, 0, 2, 0), (694, 0, 3, 0, 0), (695, 2, 0, 32769, 1), (696, 12, 0, 0, 0), (697, 6, 0, 0, 0), (698, 9, 0, 91, 114), (701, 0, 2, 2, 0), (702, 0, 0, 2, 0), (703, 0, 3, 0, 0), (704, 2, 0, 32769, 1), (705, 12, 0, 0, 0), (706, 6, 0, 0, 0), (707, 9, 0, 94, 115), (710, 3, 0, 1409, 0), (1409, 7, 3, 6, 0), (1412, 5, 0, 18, 0), (1415, 2, 0, 32769, 1), (1416, 10, 0, 2, 0)]
def fw_19 : List fx_I := [(18, 0, 3, 0, 0), (19, 0, 0, 2, 0), (20, 18, 0, 0, 0), (21, 2, 1, 32774, 6), (23, 12, 1, 0, 0), (24, 3, 4, 1415, 0), (27, 0, 0, 2, 0), (28, 0, 3, 0, 0), (29, 6, 0, 0, 0), (30, 2, 1, 32831, 63), (32, 12, 5, 0, 0), (33, 20, 1409, 0, 0), (715, 0, 1, 2, 0), (716, 0, 0, 2, 0), (717, 0, 3, 0, 0), (718, 2, 0, 32769, 1), (719, 12, 0, 0, 0), (720, 6, 0, 0, 0), (721, 0, 0, 2, 0), (722, 0, 3, 0, 0), (723, 2, 0, 32770, 2), (724, 12, 0, 0, 0), (725, 6, 0, 0, 0), (726, 9, 0, 95, 117), (729, 0, 2, 2, 0), (730, 0, 0, 2, 0), (731, 0, 3, 0, 0), (732, 2, 0, 32769, 1), (733, 12, 0, 0, 0), (734, 6, 0, 0, 0), (735, 0, 0, 2, 0), (736, 0, 3, 0, 0), (737, 2, 0, 32770, 2), (738, 12, 0, 0, 0), (739, 6, 0, 0, 0), (740, 9, 0, 98, 118), (743, 3, 0, 1409, 0), (1409, 7, 3, 6, 0), (1412, 5, 0, 18, 0), (1415, 2, 0, 32769, 1), (1416, 10, 0, 2, 0)]
def fw_20 : List fx_I := [(18, 0, 3, 0, 0), (19, 0, 0, 2, 0), (20, 18, 0, 0, 0), (21, 2, 1, 32774, 6), (23, 12, 1, 0, 0), (24, 3, 4, 1415, 0), (27, 0, 0, 2, 0), (28, 0, 3, 0, 0), (29, 6, 0, 0, 0), (30, 2, 1, 32831, 63), (32, 12, 5, 0, 0), (33, 20, 1409, 0, 0), (748, 0, 1, 2, 0), (749, 9, 0, 99, 119), (752, 0, 2, 2, 0), (753, 9, 0, 102, 121), (756, 3, 0, 1409, 0), (1409, 7, 3, 6, 0), (1412, 5, 0, 18, 0), (1415, 2, 0, 32769, 1), (1416, 10, 0, 2, 0)]
def fw_21 : List fx_I := [(18, 0, 3, 0, 0), (19, 0, 0, 2, 0), (20, 18, 0, 0, 0), (21, 2, 1, 32774, 6), (23, 12, 1, 0, 0), (24, 3, 4, 1415, 0), (27, 0, 0, 2, 0), (28, 0, 3, 0, 0), (29, 6, 0, 0, 0), (30, 2, 1, 32831, 63), (32, 12, 5, 0, 0), (33, 20, 1409, 0, 0), (761, 0, 1, 2, 0), (762, 0, 0, 2, 0), (763, 0, 3, 0, 0), (764, 2, 0, 32769, 1), (765, 12, 0, 0, 0), (766, 6, 0, 0, 0), (767, 0, 0, 2, 0), (768, 0, 3, 0, 0), (769, 2, 0, 32770, 2), (770, 12, 0, 0, 0), (771, 6, 0, 0, 0), (772, 9, 0, 103, 122), (775, 0, 2, 2, 0), (776, 0, 0, 2, 0), (777, 0, 3, 0, 0), (778, 2, 0, 32769, 1), (779, 12, 0, 0, 0), (780, 6, 0, 0, 0), (781, 0, 0, 2, 0), (782, 0, 3, 0, 0), (783, 2, 0, 32770, 2), (784, 12, 0, 0, 0), (785, 6, 0, 0, 0), (786, 9, 0, 106, 123), (789, 3, 0, 1409, 0), (1409, 7, 3, 6, 0), (1412, 5, 0, 18, 0), (1415, 2, 0, 32769, 1), (1416, 10, 0, 2, 0)]
def fw_22 : List fx_I := [(18, 0, 3, 0, 0), (19, 0, 0, 2, 0), (20, 18, 0, 0, 0), (21, 2, 1, 32774, 6), (23, 12, 1, 0, 0), (24, 3, 4, 1415, 0), (27, 0, 0, 2, 0), (28, 0, 3, 0, 0), (29, 6, 0, 0, 0), (30, 2, 1, 32831, 63), (32, 12, 5, 0, 0), (33, 20, 1409, 0, 0), (794, 0, 1, 2, 0), (795, 0, 0, 2, 0), (796, 0, 3, 0, 0), (797, 2, 0, 32769, 1), (798, 12, 0, 0, 0), (799, 6, 0, 0, 0), (800, 9, 0, 107, 124), (803, 0, 2, 2, 0), (804, 0, 0, 2, 0), (805, 0, 3, 0, 0), (806, 2, 0, 32769, 1), (807, 12, 0, 0, 0), (808, 6, 0, 0, 0), (809, 9, 0, 110, 125), (812, 3, 0, 1409, 0), (1409, 7, 3, 6, 0), (1412, 5, 0, 18, 0), (1415, 2, 0, 32769, 1), (1416, 10, 0, 2, 0)]
def fw_23 : List fx_I := [(18, 0, 3, 0, 0), (19, 0, 0, 2, 0), (20, 18, 0, 0, 0), (21, 2, 1, 32774, 6), (23, 12, 1, 0, 0), (24, 3, 4, 1415, 0), (27, 0, 0, 2, 0), (28, 0, 3, 0, 0), (29, 6, 0, 0, 0), (30, 2, 1, 32831, 63), (32, 12, 5, 0, 0), (33, 20, 1409, 0, 0), (817, 0, 1, 2, 0), (818, 9, 0, 111, 126), (821, 0, 2, 2, 0), (822, 9, 0, 114, 127), (825, 3, 0, 1409, 0), (1409, 7, 3, 6, 0), (1412, 5, 0, 18, 0), (1415, 2, 0, 32769, 1), (1416, 10, 0, 2, 0)]
def fw_24 : List fx_I := [(18, 0, 3, 0, 0), (19, 0, 0, 2, 0), (20, 18, 0, 0, 0), (21, 2, 1, 32774, 6), (23, 12, 1, 0, 0), (24, 3, 4, 1415, 0), (27, 0, 0, 2, 0), (28, 0, 3, 0, 0), (29, 6, 0, 0, 0), (30, 2, 1, 32831, 63), (32, 12, 5, 0, 0), (33, 20, 1409, 0, 0), (830, 0, 1, 2, 0), (831, 0, 0, 2, 0), (832, 0, 3, 0, 0), (833, 2, 0, 32769, 1), (834, 12, 0, 0, 0), (835, 6, 0, 0, 0), (836, 0, 0, 2, 0), (837, 0, 3, 0, 0), (838, 2, 0, 32770, 2), (839, 12, 0, 0, 0), (840, 6, 0, 0, 0), (841, 9, 0, 115, 130), (844, 0, 2, 2, 0), (845, 0, 0, 2, 0), (846, 0, 3, 0, 0), (847, 2, 0, 32769, 1), (848, 12, 0, 0, 0), (849, 6, 0, 0, 0), (850, 0, 0, 2, 0), (851, 0, 3, 0, 0), (852, 2, 0, 32770, 2), (853, 12, 0, 0, 0), (854, 6, 0, 0, 0), (855, 9, 0, 118, 131), (858, 3, 0, 1409, 0), (1409, 7, 3, 6, 0), (1412, 5, 0, 18, 0), (1415, 2, 0, 32769, 1), (1416, 10, 0, 2, 0)]
def fw_25 : List fx_I := [(18, 0, 3, 0, 0), (19, 0, 0, 2, 0), (20, 18, 0, 0, 0), (21, 2, 1, 32774, 6), (23, 12, 1, 0, 0), (24, 3, 4, 1415, 0), (27, 0, 0, 2, 0), (28, 0, 3, 0, 0), (29, 6, 0, 0, 0), (30, 2, 1, 32831, 63), (32, 12, 5, 0, 0), (33, 20, 1409, 0, 0), (863, 0, 1, 2, 0), (864, 0, 0, 2, 0), (865, 0, 3, 0, 0), (866, 2, 0, 32769, 1), (867, 12, 0, 0, 0), (868, 6, 0, 0, 0), (869, 9, 0, 119, 132), (872, 0, 2, 2, 0), (873, 0, 0, 2, 0), (874, 0, 3, 0, 0), (875, 2, 0, 32769, 1), (876, 12, 0, 0, 0), (877, 6, 0, 0, 0), (878, 9, 0, 122, 133), (881, 3, 0, 1409, 0), (1409, 7, 3, 6, 0), (1412, 5, 0, 18, 0), (1415, 2, 0, 32769, 1), (1416, 10, 0, 2, 0)]
def fw_26 : List fx_I := [(18, 0, 3, 0, 0), (19, 0, 0, 2, 0), (20, 18, 0, 0, 0), (21, 2, 1, 32774, 6), (23, 12, 1, 0, 0), (24, 3, 4, 1415, 0), (27, 0, 0, 2, 0), (28, 0, 3, 0, 0), (29, 6, 0, 0, 0), (30, 2, 1, 32831, 63), (32, 12, 5, 0, 0), (33, 20, 1409, 0, 0), (886, 0, 1, 2, 0), (887, 9, 0, 123, 137), (890, 0, 2, 2, 0), (891, 9, 0, 126, 138), (894, 3, 0, 1409, 0), (1409, 7, 3, 6, 0), (1412, 5, 0, 18, 0), (1415, 2, 0, 32769, 1), (1416, 10, 0, 2, 0)]
def fw_27 : List fx_I := [(18, 0, 3, 0, 0), (19, 0, 0, 2, 0), (20, 18, 0, 0, 0), (21, 2, 1, 32774, 6), (23, 12, 1, 0, 0), (24, 3, 4, 1415, 0), (27, 0, 0, 2, 0), (28, 0, 3, 0, 0), (29, 6, 0, 0, 0), (30, 2, 1, 32831, 63), (32, 12, 5, 0, 0), (33, 20, 1409, 0, 0), (899, 0, 1, 2, 0), (900, 0, 0, 2, 0), (901, 0, 3, 0, 0), (902, 2, 0, 32769, 1), (903, 12, 0, 0, 0), (904, 6, 0, 0, 0), (905, 9, 0, 127, 139), (908, 0, 2, 2, 0), (909, 0, 0, 2, 0), (910, 0, 3, 0, 0), (911, 2, 0, 32769, 1), (912, 12, 0, 0, 0), (913, 6, 0, 0, 0), (914, 9, 0, 130, 140), (917, 3, 0, 1409, 0), (1409, 7, 3, 6, 0), (1412, 5, 0, 18, 0), (1415, 2, 0, 32769, 1), (1416, 10, 0, 2, 0)]
def fw_28 : List fx_I := [(18, 0, 3, 0, 0), (19, 0, 0, 2, 0), (20, 18, 0, 0, 0), (21, 2, 1, 32774, 6), (23, 12, 1, 0, 0), (24, 3, 4, 1415, 0), (27, 0, 0, 2, 0), (28, 0, 3, 0, 0), (29, 6, 0, 0, 0), (30, 2, 1, 32831, 63), (32, 12, 5, 0, 0), (33, 20, 1409, 0, 0), (922, 0, 1, 2, 0), (923, 0, 0, 2, 0), (924, 0, 3, 0, 0), (925, 2, 0, 32769, 1), (926, 12, 0, 0, 0), (927, 6, 0, 0, 0), (928, 0, 0, 2, 0), (929, 0, 3, 0, 0), (930, 2, 0, 32770, 2), (931, 12, 0, 0, 0), (932, 6, 0, 0, 0), (933, 0, 0, 2, 0), (934, 0, 3, 0, 0), (935, 2, 0, 32771, 3), (936, 12, 0, 0, 0), (937, 6, 0, 0, 0), (938, 9, 0, 131, 142), (941, 0, 2, 2, 0), (942, 0, 0, 2, 0), (943, 0, 3, 0, 0), (944, 2, 0, 32769, 1), (945, 12, 0, 0, 0), (946, 6, 0, 0, 0), (947, 0, 0, 2, 0), (948, 0, 3, 0, 0), (949, 2, 0, 32770, 2), (950, 12, 0, 0, 0), (951, 6, 0, 0, 0), (952, 0, 0, 2, 0), (953, 0, 3, 0, 0), (954, 2, 0, 32771, 3), (955, 12, 0, 0, 0), (956, 6, 0, 0, 0), (957, 9, 0, 135, 143), (960, 3, 0, 1409, 0), (1409, 7, 3, 6, 0), (1412, 5, 0, 18, 0), (1415, 2, 0, 32769, 1), (1416, 10, 0, 2, 0)]
def fw_29 : List fx_I := [(18, 0, 3, 0, 0), (19, 0, 0, 2, 0), (20, 18, 0, 0, 0), (21, 2, 1, 32774, 6), (23, 12, 1, 0, 0), (24, 3, 4, 1415, 0), (27, 0, 0, 2, 0), (28, 0, 3, 0, 0), (29, 6, 0, 0, 0), (30, 2, 1, 32831, 63), (32, 12, 5, 0, 0), (33, 20, 1409, 0, 0), (965, 0, 1, 2, 0), (966, 9, 0, 136, 144), (969, 0, 2, 2, 0), (970, 9, 0, 139, 145), (973, 3, 0, 1409, 0), (1409, 7, 3, 6, 0), (1412, 5, 0, 18, 0), (1415, 2, 0, 32769, 1), (1416, 10, 0, 2, 0)]
def fw_30 : List fx_I := [(18, 0, 3, 0, 0), (19, 0, 0, 2, 0), (20, 18, 0, 0, 0), (21, 2, 1, 32774, 6), (23, 12, 1, 0, 0), (24, 3, 4, 1415, 0), (27, 0, 0, 2, 0), (28, 0, 3, 0, 0), (29, 6, 0, 0, 0), (30, 2, 1, 32831, 63), (32, 12, 5, 0, 0), (33, 20, 1409, 0, 0), (978, 0, 1, 2, 0), (979, 0, 0, 2, 0), (980, 0, 3, 0, 0), (981, 2, 0, 32769, 1), (982, 12, 0, 0, 0), (983, 6, 0, 0, 0), (984, 0, 0, 2, 0), (985, 0, 3, 0, 0), (986, 2, 0, 32770, 2), (987, 12, 0, 0, 0), (988, 6, 0, 0, 0), (989, 9, 0, 140, 146), (992, 0, 2, 2, 0), (993, 0, 0, 2, 0), (994, 0, 3, 0, 0), (995, 2, 0, 32769, 1), (996, 12, 0, 0, 0), (997, 6, 0, 0, 0), (998, 0, 0, 2, 0), (999, 0, 3, 0, 0), (1000, 2, 0, 32770, 2), (1001, 12, 0, 0, 0), (1002, 6, 0, 0, 0), (1003, 9, 0, 143, 147), (1006, 3, 0, 1409, 0), (1409, 7, 3, 6, 0), (1412, 5, 0, 18, 0), (1415, 2, 0, 32769, 1), (1416, 10, 0, 2, 0)]
def fw_31 : List fx_I := [(18, 0, 3, 0, 0), (19, 0, 0, 2, 0), (20, 18, 0, 0, 0), (21, 2, 1, 32774, 6), (23, 12, 1, 0, 0), (24, 3, 4, 1415, 0), (27, 0, 0, 2, 0), (28, 0, 3, 0, 0), (29, 6, 0, 0, 0), (30, 2, 1, 32831, 63), (32, 12, 5, 0, 0), (33, 20, 1409, 0, 0), (1011, 0, 1, 2, 0), (1012, 0, 0, 2, 0), (1013, 0, 3, 0, 0), (1014, 2, 0, 32769, 1), (1015, 12, 0, 0, 0), (1016, 6, 0, 0, 0), (1017, 0, 0, 2, 0), (1018, 0, 3, 0, 0), (1019, 2, 0, 32770, 2), (1020, 12, 0, 0, 0), (1021, 6, 0, 0, 0), (1022, 9, 0, 144, 154), (1025, 0, 2, 2, 0), (1026, 0, 0, 2, 0), (1027, 0, 3, 0, 0), (1028, 2, 0, 32769, 1), (1029, 12, 0, 0, 0), (1030, 6, 0, 0, 0), (1031, 0, 0, 2, 0), (1032, 0, 3, 0, 0), (1033, 2, 0, 32770, 2), (1034, 12, 0, 0, 0), (1035, 6, 0, 0, 0), (1036, 9, 0, 147, 155), (1039, 3, 0, 1409, 0), (1409, 7, 3, 6, 0), (1412, 5, 0, 18, 0), (1415, 2, 0, 32769, 1), (1416, 10, 0, 2, 0)]
def fw_32 : List fx_I := [(18, 0, 3, 0, 0), (19, 0, 0, 2, 0), (20, 18, 0, 0, 0), (21, 2, 1, 32774, 6), (23, 12, 1, 0, 0), (24, 3, 4, 1415, 0), (27, 0, 0, 2, 0), (28, 0, 3, 0, 0), (29, 6, 0, 0, 0), (30, 2, 1, 32831, 63), (32, 12, 5, 0, 0), (33, 20, 1409, 0, 0), (1044, 0, 1, 2, 0), (1045, 0, 0, 2, 0), (1046, 0, 3, 0, 0), (1047, 2, 0, 32769, 1), (1048, 12, 0, 0, 0), (1049, 6, 0, 0, 0), (1050, 9, 0, 148, 157), (1053, 0, 2, 2, 0), (1054, 0, 0, 2, 0), (1055, 0, 3, 0, 0), (1056, 2, 0, 32769, 1), (1057, 12, 0, 0, 0), (1058, 6, 0, 0, 0), (1059, 9, 0, 151, 158), (1062, 3, 0, 1409, 0), (1409, 7, 3, 6, 0), (1412, 5, 0, 18, 0), (1415, 2, 0, 32769, 1), (1416, 10, 0, 2, 0)]
def fw_33 : List fx_I := [(18, 0, 3, 0, 0), (19, 0, 0, 2, 0), (20, 18, 0, 0, 0), (21, 2, 1, 32774, 6), (23, 12, 1, 0, 0), (24, 3, 4, 1415, 0), (27, 0, 0, 2, 0), (28, 0, 3, 0, 0), (29, 6, 0, 0, 0), (30, 2, 1, 32831, 63), (32, 12, 5, 0, 0), (33, 20, 1409, 0, 0), (1067, 0, 1, 2, 0), (1068, 0, 0, 2, 0), (1069, 0, 3, 0, 0), (1070, 2, 0, 32769, 1), (1071, 12, 0, 0, 0), (1072, 6, 0, 0, 0), (1073, 0, 0, 2, 0), (1074, 0, 3, 0, 0), (1075, 2, 0, 32770, 2), (1076, 12, 0, 0, 0), (1077, 6, 0, 0, 0), (1078, 9, 0, 152, 160), (1081, 0, 2, 2, 0), (1082, 0, 0, 2, 0), (1083, 0, 3, 0, 0), (1084, 2, 0, 32769, 1), (1085, 12, 0, 0, 0), (1086, 6, 0, 0, 0), (1087, 0, 0, 2, 0), (1088, 0, 3, 0, 0), (1089, 2, 0, 32770, 2), (1090, 12, 0, 0, 0), (1091, 6, 0, 0, 0), (1092, 9, 0, 155, 161), (1095, 3, 0, 1409, 0), (1409, 7, 3, 6, 0), (1412, 5, 0, 18, 0), (1415, 2, 0, 32769, 1), (1416, 10, 0, 2, 0)]
def fw_34 : List fx_I := [(18, 0, 3, 0, 0), (19, 0, 0, 2, 0), (20, 18, 0, 0, 0), (21, 2, 1, 32774, 6), (23, 12, 1, 0, 0), (24, 3, 4, 1415, 0), (27, 0, 0, 2, 0), (28, 0, 3, 0, 0), (29, 6, 0, 0, 0), (30, 2, 1, 32831, 63), (32, 12, 5, 0, 0), (33, 20, 1409, 0, 0), (1100, 0, 1, 2, 0), (1101, 0, 0, 2, 0), (1102, 0, 3, 0, 0), (1103, 2, 0, 32769, 1), (1104, 12, 0, 0, 0), (1105, 6, 0, 0, 0), (1106, 9, 0, 156, 165), (1109, 0, 2, 2, 0), (1110, 0, 0, 2, 0), (1111, 0, 3, 0, 0), (1112, 2, 0, 32769, 1), (1113, 12, 0, 0, 0), (1114, 6, 0, 0, 0), (1115, 9, 0, 159, 166), (1118, 3, 0, 1409, 0), (1409, 7, 3, 6, 0), (1412, 5, 0, 18, 0), (1415, 2, 0, 32769, 1), (1416, 10, 0, 2, 0)]
def fw_35 : List fx_I := [(18, 0, 3, 0, 0), (19, 0, 0, 2, 0), (20, 18, 0, 0, 0), (21, 2, 1, 32774, 6), (23, 12, 1, 0, 0), (24, 3, 4, 1415, 0), (27, 0, 0, 2, 0), (28, 0, 3, 0, 0), (29, 6, 0, 0, 0), (30, 2, 1, 32831, 63), (32, 12, 5, 0, 0), (33, 20, 1409, 0, 0), (1123, 0, 1, 2, 0), (1124, 9, 0, 160, 167), (1127, 0, 2, 2, 0), (1128, 9, 0, 163, 168), (1131, 3, 0, 1409, 0), (1409, 7, 3, 6, 0), (1412, 5, 0, 18, 0), (1415, 2, 0, 32769, 1), (1416, 10, 0, 2, 0)]
def fw_36 : List fx_I := [(18, 0, 3, 0, 0), (19, 0, 0, 2, 0), (20, 18, 0, 0, 0), (21, 2, 1, 32774, 6), (23, 12, 1, 0, 0), (24, 3, 4, 1415, 0), (27, 0, 0, 2, 0), (28, 0, 3, 0, 0), (29, 6, 0, 0, 0), (30, 2, 1, 32831, 63), (32, 12, 5, 0, 0), (33, 20, 1409, 0, 0), (1136, 0, 1, 2, 0), (1137, 0, 0, 2, 0), (1138, 0, 3, 0, 0), (1139, 2, 0, 32769, 1), (1140, 12, 0, 0, 0), (1141, 6, 0, 0, 0), (1142, 9, 0, 164, 169), (1145, 0, 2, 2, 0), (1146, 0, 0, 2, 0), (1147, 0, 3, 0, 0), (1148, 2, 0, 32769, 1), (1149, 12, 0, 0, 0), (1150, 6, 0, 0, 0), (1151, 9, 0, 167, 170), (1154, 3, 0, 1409, 0), (1409, 7, 3, 6, 0), (1412, 5, 0, 18, 0), (1415, 2, 0, 32769, 1), (1416, 10, 0, 2, 0)]
def fw_37 : List fx_I := [(18, 0, 3, 0, 0), (19, 0, 0, 2, 0), (20, 18, 0, 0, 0), (21, 2, 1, 32774, 6), (23, 12, 1, 0, 0), (24, 3, 4, 1415, 0), (27, 0, 0, 2, 0), (28, 0, 3, 0, 0), (29, 6, 0, 0, 0), (30, 2, 1, 32831, 63), (32, 12, 5, 0, 0), (33, 20, 1409, 0, 0), (1159, 0, 1, 2, 0), (1160, 0, 0, 2, 0), (1161, 0, 3, 0, 0), (1162, 2, 0, 32769, 1), (1163, 12, 0, 0, 0), (1164, 6, 0, 0, 0), (1165, 0, 0, 2, 0), (1166, 0, 3, 0, 0), (1167, 2, 0, 32770, 2), (1168, 12, 0, 0, 0), (1169, 6, 0, 0, 0), (1170, 0, 0, 2, 0), (1171, 0, 3, 0, 0), (1172, 2, 0, 32771, 3), (1173, 12, 0, 0, 0), (1174, 6, 0, 0, 0), (1175, 0, 0, 2, 0), (1176, 0, 3, 0, 0), (1177, 2, 0, 32772, 4), (1178, 12, 0, 0, 0), (1179, 6, 0, 0, 0), (1180, 4, 0, 1187, 0), (1183, 2, 0, 32769, 1), (1184, 5, 0, 1188, 0), (1187, 2, 0, 32768, 0), (1188, 9, 0, 168, 171), (1191, 0, 2, 2, 0), (1192, 0, 0, 2, 0), (1193, 0, 3, 0, 0), (1194, 2, 0, 32769, 1), (1195, 12, 0, 0, 0), (1196, 6, 0, 0, 0), (1197, 0, 0, 2, 0), (1198, 0, 3, 0, 0), (1199, 2, 0, 32770, 2), (1200, 12, 0, 0, 0), (1201, 6, 0, 0, 0), (1202, 0, 0, 2, 0), (1203, 0, 3, 0, 0), (1204, 2, 0, 32771, 3), (1205, 12, 0, 0, 0), (1206, 6, 0, 0, 0), (1207, 0, 0, 2, 0), (1208, 0, 3, 0, 0), (1209, 2, 0, 32772, 4), (1210, 12, 0, 0, 0), (1211, 6, 0, 0, 0), (1212, 4, 0, 1219, 0), (1215, 2, 0, 32769, 1), (1216, 5, 0, 1220, 0), (1219, 2, 0, 32768, 0), (1220, 9, 0, 172, 172), (1223, 3, 0, 1409, 0), (1409, 7, 3, 6, 0), (1412, 5, 0, 18, 0), (1415, 2, 0, 32769, 1), (1416, 10, 0, 2, 0)]
def fw_38 : List fx_I := [(18, 0, 3, 0, 0), (19, 0, 0, 2, 0), (20, 18, 0, 0, 0), (21, 2, 1, 32774, 6), (23, 12, 1, 0, 0), (24, 3, 4, 1415, 0), (27, 0, 0, 2, 0), (28, 0, 3, 0, 0), (29, 6, 0, 0, 0), (30, 2, 1, 32831, 63), (32, 12, 5, 0, 0), (33, 20, 1409, 0, 0), (1228, 0, 1, 2, 0), (1229, 0, 0, 2, 0), (1230, 0, 3, 0, 0), (1231, 2, 0, 32769, 1), (1232, 12, 0, 0, 0), (1233, 6, 0, 0, 0), (1234, 9, 0, 173, 173), (1237, 0, 2, 2, 0), (1238, 0, 0, 2, 0), (1239, 0, 3, 0, 0), (1240, 2, 0, 32769, 1), (1241, 12, 0, 0, 0), (1242, 6, 0, 0, 0), (1243, 9, 0, 177, 175), (1246, 3, 0, 1409, 0), (1409, 7, 3, 6, 0), (1412, 5, 0, 18, 0), (1415, 2, 0, 32769, 1), (1416, 10, 0, 2, 0)]
def fw_39 : List fx_I := [(18, 0, 3, 0, 0), (19, 0, 0, 2, 0), (20, 18, 0, 0, 0), (21, 2, 1, 32774, 6), (23, 12, 1, 0, 0), (24, 3, 4, 1415, 0), (27, 0, 0, 2, 0), (28, 0, 3, 0, 0), (29, 6, 0, 0, 0), (30, 2, 1, 32831, 63), (32, 12, 5, 0, 0), (33, 20, 1409, 0, 0), (1251, 0, 1, 2, 0), (1252, 0, 0, 2, 0), (1253, 0, 3, 0, 0), (1254, 2, 0, 32769, 1), (1255, 12, 0, 0, 0), (1256, 6, 0, 0, 0), (1257, 9, 0, 178, 176), (1260, 0, 2, 2, 0), (1261, 0, 0, 2, 0), (1262, 0, 3, 0, 0), (1263, 2, 0, 32769, 1), (1264, 12, 0, 0, 0), (1265, 6, 0, 0, 0), (1266, 9, 0, 181, 177), (1269, 3, 0, 1409, 0), (1409, 7, 3, 6, 0), (1412, 5, 0, 18, 0), (1415, 2, 0, 32769, 1), (1416, 10, 0, 2, 0)]
def fw_40 : List fx_I := [(18, 0, 3, 0, 0), (19, 0, 0, 2, 0), (20, 18, 0, 0, 0), (21, 2, 1, 32774, 6), (23, 12, 1, 0, 0), (24, 3, 4, 1415, 0), (27, 0, 0, 2, 0), (28, 0, 3, 0, 0), (29, 6, 0, 0, 0), (30, 2, 1, 32831, 63), (32, 12, 5, 0, 0), (33, 20, 1409, 0, 0), (1274, 0, 1, 2, 0), (1275, 0, 0, 2, 0), (1276, 0, 3, 0, 0), (1277, 2, 0, 32769, 1), (1278, 12, 0, 0, 0), (1279, 6, 0, 0, 0), (1280, 9, 0, 182, 178), (1283, 0, 2, 2, 0), (1284, 0, 0, 2, 0), (1285, 0, 3, 0, 0), (1286, 2, 0, 32769, 1), (1287, 12, 0, 0, 0), (1288, 6, 0, 0, 0), (1289, 9, 0, 185, 182), (1292, 3, 0, 1409, 0), (1409, 7, 3, 6, 0), (1412, 5, 0, 18, 0), (1415, 2, 0, 32769, 1), (1416, 10, 0, 2, 0)]
def fw_41 : List fx_I := [(18, 0, 3, 0, 0), (19, 0, 0, 2, 0), (20, 18, 0, 0, 0), (21, 2, 1, 32774, 6), (23, 12, 1, 0, 0), (24, 3, 4, 1415, 0), (27, 0, 0, 2, 0), (28, 0, 3, 0, 0), (29, 6, 0, 0, 0), (30, 2, 1, 32831, 63), (32, 12, 5, 0, 0), (33, 20, 1409, 0, 0), (1297, 0, 1, 2, 0), (1298, 0, 0, 2, 0), (1299, 0, 3, 0, 0), (1300, 2, 0, 32769, 1), (1301, 12, 0, 0, 0), (1302, 6, 0, 0, 0), (1303, 0, 0, 2, 0), (1304, 0, 3, 0, 0), (1305, 2, 0, 32770, 2), (1306, 12, 0, 0, 0), (1307, 6, 0, 0, 0), (1308, 0, 0, 2, 0), (1309, 0, 3, 0, 0), (1310, 2, 0, 32771, 3), (1311, 12, 0, 0, 0), (1312, 6, 0, 0, 0), (1313, 9, 0, 186, 184), (1316, 0, 2, 2, 0), (1317, 0, 0, 2, 0), (1318, 0, 3, 0, 0), (1319, 2, 0, 32769, 1), (1320, 12, 0, 0, 0), (1321, 6, 0, 0, 0), (1322, 0, 0, 2, 0), (1323, 0, 3, 0, 0), (1324, 2, 0, 32770, 2), (1325, 12, 0, 0, 0), (1326, 6, 0, 0, 0), (1327, 0, 0, 2, 0), (1328, 0, 3, 0, 0), (1329, 2, 0, 32771, 3), (1330, 12, 0, 0, 0), (1331, 6, 0, 0, 0), (1332, 9, 0, 189, 185), (1335, 3, 0, 1409, 0), (1409, 7, 3, 6, 0), (1412, 5, 0, 18, 0), (1415, 2, 0, 32769, 1), (1416, 10, 0, 2, 0)]
def fw_42 : List fx_I := [(18, 0, 3, 0, 0), (19, 0, 0, 2, 0), (20, 18, 0, 0, 0), (21, 2, 1, 32774, 6), (23, 12, 1, 0, 0), (24, 3, 4, 1415, 0), (27, 0, 0, 2, 0), (28, 0, 3, 0, 0), (29, 6, 0, 0, 0), (30, 2, 1, 32831, 63), (32, 12, 5, 0, 0), (33, 20, 1409, 0, 0), (1340, 0, 1, 2, 0), (1341, 0, 0, 2, 0), (1342, 0, 3, 0, 0), (1343, 2, 0, 32769, 1), (1344, 12, 0, 0, 0), (1345, 6, 0, 0, 0), (1346, 9, 0, 190, 186), (1349, 0, 2, 2, 0), (1350, 0, 0, 2, 0), (1351, 0, 3, 0, 0), (1352, 2, 0, 32769, 1), (1353, 12, 0, 0, 0), (1354, 6, 0, 0, 0), (1355, 9, 0, 193, 187), (1358, 3, 0, 1409, 0), (1409, 7, 3, 6, 0), (1412, 5, 0, 18, 0), (1415, 2, 0, 32769, 1), (1416, 10, 0, 2, 0)]
def fw_43 : List fx_I := [(18, 0, 3, 0, 0), (19, 0, 0, 2, 0), (20, 18, 0, 0, 0), (21, 2, 1, 32774, 6), (23, 12, 1, 0, 0), (24, 3, 4, 1415, 0), (27, 0, 0, 2, 0), (28, 0, 3, 0, 0), (29, 6, 0, 0, 0), (30, 2, 1, 32831, 63), (32, 12, 5, 0, 0), (33, 20, 1409, 0, 0), (1363, 0, 1, 2, 0), (1364, 0, 0, 2, 0), (1365, 0, 3, 0, 0), (1366, 2, 0, 32769, 1), (1367, 12, 0, 0, 0), (1368, 6, 0, 0, 0), (1369, 9, 0, 194, 188), (1372, 0, 2, 2, 0), (1373, 0, 0, 2, 0), (1374, 0, 3, 0, 0), (1375, 2, 0, 32769, 1), (1376, 12, 0, 0, 0), (1377, 6, 0, 0, 0), (1378, 9, 0, 197, 190), (1381, 3, 0, 1409, 0), (1409, 7, 3, 6, 0), (1412, 5, 0, 18, 0), (1415, 2, 0, 32769, 1), (1416, 10, 0, 2, 0)]
def fw_44 : List fx_I := [(18, 0, 3, 0, 0), (19, 0, 0, 2, 0), (20, 18, 0, 0, 0), (21, 2, 1, 32774, 6), (23, 12, 1, 0, 0), (24, 3, 4, 1415, 0), (27, 0, 0, 2, 0), (28, 0, 3, 0, 0), (29, 6, 0, 0, 0), (30, 2, 1, 32831, 63), (32, 12, 5, 0, 0), (33, 20, 1409, 0, 0), (1386, 0, 1, 2, 0), (1387, 0, 0, 2, 0), (1388, 0, 3, 0, 0), (1389, 2, 0, 32769, 1), (1390, 12, 0, 0, 0), (1391, 6, 0, 0, 0), (1392, 9, 0, 198, 191), (1395, 0, 2, 2, 0), (1396, 0, 0, 2, 0), (1397, 0, 3, 0, 0), (1398, 2, 0, 32769, 1), (1399, 12, 0, 0, 0), (1400, 6, 0, 0, 0), (1401, 9, 0, 201, 192), (1404, 3, 0, 1409, 0), (1409, 7, 3, 6, 0), (1412, 5, 0, 18, 0), (1415, 2, 0, 32769, 1), (1416, 10, 0, 2, 0)]
def fw_45 : List fx_I := [(18, 0, 3, 0, 0), (19, 0, 0, 2, 0), (20, 18, 0, 0, 0), (21, 2, 1, 32774, 6), (23, 12, 1, 0, 0), (24, 3, 4, 1415, 0), (27, 0, 0, 2, 0), (28, 0, 3, 0, 0), (29, 6, 0, 0, 0), (30, 2, 1, 32831, 63), (32, 12, 5, 0, 0), (33, 20, 1409, 0, 0), (1409, 7, 3, 6, 0), (1412, 5, 0, 18, 0), (1415, 2, 0, 32769, 1), (1416, 10, 0, 2, 0)]
def fw_short : List fx_I := [(18, 0, 3, 0, 0), (19, 0, 0, 2, 0), (20, 18, 0, 0, 0), (21, 2, 1, 32774, 6), (23, 12, 1, 0, 0), (24, 3, 4, 1415, 0), (1415, 2, 0, 32769, 1), (1416, 10, 0, 2, 0)]
def fx_h0 : fx_H := (114, [[.inr (.inl (9, [fr 1, fr 19, fr 33, fr 36, fr 49, fr 53, fr 56, fr 63, fr 64, fr 65, fr 66, fc 0, fc 0, fc 0, fc 4294967295, fc 4294967295])), .inr (.inl (4, [fr 2, fr 5, fc 0, fc 4294967295])), .inr (.inl (7, [fr 3, fr 4, fc 0, fc 0, fc 0, fc 0, fc 0, fl 0])), .inr (.inr (1, 1600, [])), .inr (.inr (3, 24, [(0, fl 158529), (1, fl 79), (2, fl 45611816222), (3, fl 267223), (4, fl 189450486), (5, fl 4797), (6, fl 47), (7, fl 247547), (8, fl 6559778), (9, fl 10935548), (10, fl 411), (11, fl 91904), (12, fl 423), (13, fl 1111), (14, fl 10631), (15, fl 118913), (16, fl 279252), (17, fl 31735670), (18, fl 38446238), (19, fl 10502220), (20, fl 279847), (21, fl 388708), (22, fl 13550), (23, fl 51270206)])), .inr (.inl (3, [fr 6, fr 7, fr 8, fr 9, fr 10, fr 11, fr 12, fr 13, fr 16, fc 4, fc 4, fc 0, fc 0, fc 0, fc 1, fc 0, fc 0, fc 0])), .inr (.inr (3, 4, [])), .inr (.inr (0, 4, [])), .inr (.inr (3, 7, [])), .inr (.inr (0, 7, [])), .inr (.inr (0, 7, [])), .inr (.inr (0, 7, [])), .inr (.inr (0, 7, [(0, fc 4294967295), (1, fc 4294967295), (2, fc 4294967295), (3, fc 4294967295), (4, fc 4294967295), (5, fc 4294967295), (6, fc 4294967295)])), .inr (.inl (1, [fr 14, fr 15, fc 1, fc 0])), .inr (.inr (0, 320, [])), .inr (.inr (0, 40, []))],
  [.inr (.inl (1, [fr 17, fr 18, fc 1, fc 0])), .inr (.inr (0, 320, [(0, fc 37)])), .inr (.inr (0, 40, [])), .inr (.inl (3, [fr 20, fr 21, fr 22, fr 23, fr 24, fr 25, fr 26, fr 27, fr 30, fc 4, fc 4, fc 0, fc 0, fc 0, fc 1, fc 0, fc 0, fc 0])), .inr (.inr (3, 4, [])), .inr (.inr (0, 4, [])), .inr (.inr (3, 7, [])), .inr (.inr (0, 7, [])), .inr (.inr (0, 7, [])), .inr (.inr (0, 7, [])), .inr (.inr (0, 7, [(0, fc 4294967295), (1, fc 4294967295), (2, fc 4294967295), (3, fc 4294967295), (4, fc 4294967295), (5, fc 4294967295), (6, fc 4294967295)])), .inr (.inl (1, [fr 28, fr 29, fc 1, fc 0])), .inr (.inr (0, 320, [])), .inr (.inr (0, 40, [])), .inr (.inl (1, [fr 31, fr 32, fc 1, fc 0])), .inr (.inr (0, 320, [(0, fc 37)]))],
  [.inr (.inr (0, 40, [])), .inr (.inl (6, [fr 34, fr 35, fc 0, fc 0, fc 0])), .inr (.inr (0, 7, [])), .inr (.inr (0, 7, [(0, fc 4294967295), (1, fc 4294967295), (2, fc 4294967295), (3, fc 4294967295), (4, fc 4294967295), (5, fc 4294967295), (6, fc 4294967295)])), .inr (.inl (8, [fr 37, fr 40, fr 41, fr 42, fr 43, fr 44, fr 45, fr 46, fr 47, fr 48, fz])), .inr (.inl (6, [fr 38, fr 39, fc 0, fc 0, fc 0])), .inr (.inr (0, 7, [])), .inr (.inr (0, 7, [])), .inr (.inr (0, 7, [])), .inr (.inr (0, 7, [])), .inr (.inr (0, 7, [])), .inr (.inr (0, 7, [])), .inr (.inr (0, 21, [])), .inr (.inr (0, 9, [])), .inr (.inr (0, 9, [])), .inr (.inr (0, 1024, []))],
  [.inr (.inr (0, 1024, [])), .inr (.inl (0, [fr 50, fc 0, fc 0])), .inr (.inl (5, [fc 41, fr 51, fr 52])), .inr (.inr (0, 697, [])), .inr (.inr (2, 41, [])), .inr (.inl (5, [fc 3, fr 54, fr 55])), .inr (.inr (0, 51, [])), .inr (.inr (2, 3, [])), .inr (.inl (2, [fr 57, fr 58, fr 59, fr 60, fr 61, fr 62, fc 0])), .inr (.inr (0, 30, [])), .inr (.inr (0, 30, [])), .inr (.inr (0, 30, [])), .inr (.inr (2, 30, [])), .inr (.inr (0, 30, [])), .inr (.inr (0, 30, [])), .inr (.inr (0, 7, []))],
  [.inr (.inr (0, 7, [])), .inr (.inr (0, 10, [])), .inr (.inr (0, 70, [])), .inr (.inl (10, [fr 68, fr 69, fc 0, fc 0, fc 0, fc 4294967295, fc 0, fc 0, fc 0, fc 0, fl 0, fr 70, fr 71, fr 72, fr 73, fr 74, fr 75, fr 76, fr 77, fr 78, fr 79, fr 80, fr 81, fr 82, fr 83, fr 84, fr 85, fr 86, fr 87, fr 88, fr 89, fr 90, fr 91, fr 92, fr 93, fr 94, fr 95, fc 0, fc 0, fc 0, fc 0, fc 0, fc 0, fc 0, fc 0, fc 0, fc 0, fc 0, fc 0, fc 0, fr 96, fr 97, fr 98, fc 0, fc 0, fr 99, fr 100, fc 0, fr 101, fr 102, fr 103, fr 104, fr 105, fr 106, fr 107, fr 108, fr 109, fr 110, fr 111, fc 0, fc 0, fr 112, fr 113])), .inr (.inr (1, 1620, [])), .inr (.inr (1, 1600, [])), .inr (.inr (0, 2, [(0, fc 4)])), .inr (.inr (0, 2, [(0, fc 4)])), .inr (.inr (0, 2, [])), .inr (.inr (0, 2, [])), .inr (.inr (0, 2, [])), .inr (.inr (0, 2, [])), .inr (.inr (0, 2, [])), .inr (.inr (0, 2, [(0, fc 1)])), .inr (.inr (0, 2, [])), .inr (.inr (0, 8, []))],
  [.inr (.inr (0, 14, [])), .inr (.inr (0, 14, [])), .inr (.inr (0, 14, [])), .inr (.inr (0, 14, [])), .inr (.inr (0, 4, [])), .inr (.inr (0, 4, [])), .inr (.inr (2, 4, [])), .inr (.inr (2, 2, [])), .inr (.inr (2, 2, [])), .inr (.inr (3, 8, [])), .inr (.inr (3, 14, [])), .inr (.inr (0, 1120, [])), .inr (.inr (0, 1120, [])), .inr (.inr (0, 90, [])), .inr (.inr (0, 90, [])), .inr (.inr (0, 60, []))],
  [.inr (.inr (0, 17, [(7, fc 4294967295), (8, fc 4294967295), (9, fc 4294967295), (10, fc 4294967295), (11, fc 4294967295), (12, fc 4294967295), (13, fc 4294967295)])), .inr (.inr (0, 7, [])), .inr (.inr (0, 697, [])), .inr (.inr (0, 7, [])), .inr (.inr (0, 7, [])), .inr (.inr (0, 17, [])), .inr (.inr (0, 7, [])), .inr (.inr (0, 7, [])), .inr (.inr (0, 1000, [])), .inr (.inr (0, 30, [])), .inr (.inr (0, 30, [])), .inr (.inr (0, 30, [])), .inr (.inr (0, 30, [])), .inr (.inr (0, 30, [])), .inr (.inr (0, 30, [])), .inr (.inr (0, 10, []))],
  [.inr (.inr (0, 51, [])), .inr (.inr (2, 3, []))]])
end
section
noncomputable def fx_z (z : Int32) : Nat := (z.toInt + 2147483648).toNat
theorem fx_z_lt (z w : Int32) : z < w ↔ fx_z z < fx_z w := by
  have h1 := z.le_toInt
  have h2 := w.le_toInt
  rw [Int32.lt_iff_toInt_lt]
  unfold fx_z
  omega
theorem fx_z_le (z w : Int32) : z ≤ w ↔ fx_z z ≤ fx_z w := by
  have h1 := z.le_toInt
  have h2 := w.le_toInt
  rw [Int32.le_iff_toInt_le]
  unfold fx_z
  omega
theorem fx_z_eq (z w : Int32) : z = w ↔ fx_z z = fx_z w := by
  have h1 := z.le_toInt
  have h2 := w.le_toInt
  rw [← Int32.toInt_inj]
  unfold fx_z
  omega
theorem fx_z_max (z : Int32) : fx_z z < 4294967296 := by
  have h1 := z.toInt_lt
  unfold fx_z
  omega
theorem fx_o_mod (n : Nat) : Int32.ofNat (n % 4294967296) = Int32.ofNat n := by
  apply Int32.toBitVec_inj.1
  simp only [Int32.toBitVec_ofNat']
  apply BitVec.eq_of_toNat_eq
  simp [BitVec.toNat_ofNat]
theorem fx_z_of (n : Nat) : fx_z (Int32.ofNat n) = fx_b n := by
  unfold fx_z fx_b
  rw [← fx_o_mod n]
  have hb : n % 4294967296 < 4294967296 := Nat.mod_lt _ (by decide)
  show _ = (n + 2147483648) % 4294967296
  generalize hm : n % 4294967296 = m at hb ⊢
  have e : (n + 2147483648) % 4294967296 = (m + 2147483648) % 4294967296 := by omega
  rw [e, Int32.toInt_ofNat']
  have hs : (Int32.size : Int) = 4294967296 := rfl
  simp only [Int.bmod, hs]
  omega
theorem fx_b_b (n : Nat) (h : n < 4294967296) : fx_b (fx_b n) = n := by
  show (((n + 2147483648) % 4294967296) + 2147483648) % 4294967296 = n
  omega
theorem fx_of_z (z : Int32) : Int32.ofNat (fx_b (fx_z z)) = z := by
  rw [fx_z_eq, fx_z_of, fx_b_b _ (fx_z_max z)]
theorem fx_o_add (x y : Nat) : Int32.ofNat (Nat.mod (Nat.add x y) 4294967296) = Int32.ofNat x + Int32.ofNat y := by
  show Int32.ofNat ((x + y) % 4294967296) = _
  rw [fx_o_mod, Int32.ofNat_add]
theorem fx_o_mul (x y : Nat) : Int32.ofNat (Nat.mod (Nat.mul x y) 4294967296) = Int32.ofNat x * Int32.ofNat y := by
  show Int32.ofNat ((x * y) % 4294967296) = _
  rw [fx_o_mod, Int32.ofNat_mul]
theorem fx_o_sub (x y : Nat) : Int32.ofNat ((x + (4294967296 - y % 4294967296)) % 4294967296) = Int32.ofNat x - Int32.ofNat y := by
  rw [fx_o_mod, Int32.ofNat_add]
  have e : Int32.ofNat (4294967296 - y % 4294967296) = - Int32.ofNat y := by
    rw [← fx_o_mod y]
    have hb : y % 4294967296 < 4294967296 := Nat.mod_lt _ (by decide)
    generalize y % 4294967296 = m at hb
    have e2 : Int32.ofNat (4294967296 - m) + Int32.ofNat m = 0 := by
      rw [← Int32.ofNat_add, show 4294967296 - m + m = 4294967296 by omega]
      decide
    have e3 := congrArg (fun t => t - Int32.ofNat m) e2
    simp only [Int32.add_sub_cancel, Int32.zero_sub] at e3
    exact e3
  rw [e, Int32.sub_eq_add_neg]
theorem fx_o_neg (n : Nat) : Int32.ofNat ((4294967296 - n % 4294967296) % 4294967296) = - Int32.ofNat n := by
  have h := fx_o_sub 0 n
  rw [Nat.zero_add] at h
  rw [h]
  simp
theorem fx_o_and (x y : Nat) : Int32.ofNat (Nat.land x y) = Int32.ofNat x &&& Int32.ofNat y := by
  apply Int32.toBitVec_inj.1
  simp [Int32.toBitVec_ofNat', Int32.toBitVec_and]
theorem fx_o_or (x y : Nat) : Int32.ofNat (Nat.lor x y) = Int32.ofNat x ||| Int32.ofNat y := by
  apply Int32.toBitVec_inj.1
  simp [Int32.toBitVec_ofNat', Int32.toBitVec_or]
theorem fx_o_xor (x y : Nat) : Int32.ofNat (Nat.xor x y) = Int32.ofNat x ^^^ Int32.ofNat y := by
  apply Int32.toBitVec_inj.1
  simp [Int32.toBitVec_ofNat', Int32.toBitVec_xor]
theorem fx_o_int {n : Nat} (h : n < 2147483648) : (Int32.ofNat n).toInt = (n : Int) := nI_toInt h
theorem fx_o_div {x y : Nat} (hx : x < 2147483648) (hy : y < 2147483648) : Int32.ofNat (x / y) = Int32.ofNat x / Int32.ofNat y := by
  have hq : x / y < 2147483648 := Nat.lt_of_le_of_lt (Nat.div_le_self x y) hx
  apply Int32.toInt_inj.1
  rw [Int32.toInt_div, fx_o_int hx, fx_o_int hy, fx_o_int hq, ← Int.ofNat_tdiv]
  generalize x / y = q at hq
  have hs : ((2 ^ 32 : Nat) : Int) = 4294967296 := rfl
  simp only [Int.bmod, hs]
  omega
theorem fx_o_ne {y : Nat} (hy : y < 2147483648) (h0 : 0 < y) : ¬ Int32.ofNat y = 0 := fun q => by
  have := congrArg Int32.toInt q
  rw [fx_o_int hy] at this
  simp at this
  omega
theorem fx_o_rem {x y : Nat} (hx : x < 2147483648) (hy : y < 2147483648) : Int32.ofNat (x % y) = Int32.ofNat x - Int32.ofNat x / Int32.ofNat y * Int32.ofNat y := by
  rw [← fx_o_div hx hy, ← Int32.ofNat_mul]
  have e : x = x % y + x / y * y := by rw [Nat.mul_comm]; exact (Nat.mod_add_div x y).symm
  have e2 : Int32.ofNat x = Int32.ofNat (x % y) + Int32.ofNat (x / y * y) := by rw [← Int32.ofNat_add, ← e]
  rw [e2, Int32.add_sub_cancel]
theorem fx_o_31 : ∀ y, y < 32 → Int32.ofNat y &&& 31 = Int32.ofNat y := by decide +kernel
theorem fx_o_32 : ∀ y, y < 32 → (BitVec.ofNat 32 y).smod 32 = BitVec.ofNat 32 y := by decide +kernel
theorem fx_o_shl {x y : Nat} (hy : y < 32) : Int32.ofNat (Nat.shiftLeft x y % 4294967296) = Int32.ofNat x <<< (Int32.ofNat y &&& 31) := by
  rw [fx_o_mod, fx_o_31 y hy]
  apply Int32.toBitVec_inj.1
  rw [Int32.toBitVec_shiftLeft]
  simp only [Int32.toBitVec_ofNat']
  rw [fx_o_32 y hy]
  apply BitVec.eq_of_toNat_eq
  have e : y % 4294967296 = y := by omega
  simp [BitVec.toNat_ofNat, e, Nat.shiftLeft_eq, Nat.mul_mod]
theorem fx_o_shr {x y : Nat} (hx : x < 2147483648) (hy : y < 32) : Int32.ofNat (Nat.shiftRight x y) = Int32.ofNat x >>> (Int32.ofNat y &&& 31) := by
  rw [fx_o_31 y hy]
  apply Int32.toBitVec_inj.1
  rw [Int32.toBitVec_shiftRight]
  simp only [Int32.toBitVec_ofNat']
  rw [fx_o_32 y hy, BitVec.sshiftRight_eq', BitVec.sshiftRight_eq_of_msb_false]
  · apply BitVec.eq_of_toNat_eq
    have e : y % 4294967296 = y := by omega
    have e2 : x % 4294967296 = x := by omega
    have e3 : x >>> y < 4294967296 := Nat.lt_of_le_of_lt (Nat.shiftRight_le x y) (by omega)
    simp [BitVec.toNat_ofNat, e, e2]
    exact e3
  · simp [BitVec.msb_eq_decide]
    omega
theorem fx_o_ushr {x y : Nat} (hx : x < 4294967296) (hy : y < 32) : ((Int32.ofNat x).toUInt32 >>> ((Int32.ofNat y).toUInt32 &&& Int32.toUInt32 31)).toInt32 = Int32.ofNat (Nat.shiftRight x y) := by
  have h1 : ∀ y, y < 32 → ((Int32.ofNat y).toUInt32 &&& Int32.toUInt32 31) = UInt32.ofNat y := by decide +kernel
  rw [h1 y hy]
  apply Int32.toBitVec_inj.1
  rw [Int32.toBitVec_ofNat']
  show ((Int32.ofNat x).toUInt32 >>> UInt32.ofNat y).toBitVec = _
  rw [UInt32.toBitVec_shiftRight]
  apply BitVec.eq_of_toNat_eq
  have e : y % 4294967296 % 32 = y := by omega
  have e2 : x % 4294967296 = x := by omega
  have e3 : x >>> y < 4294967296 := Nat.lt_of_le_of_lt (Nat.shiftRight_le x y) (by omega)
  show ((Int32.ofNat x).toBitVec >>> ((UInt32.ofNat y).toBitVec % 32)).toNat = _
  rw [Int32.toBitVec_ofNat']
  simp [BitVec.toNat_ofNat, e, e2]
  exact (Nat.mod_eq_of_lt e3).symm
theorem fl_mod (n : Nat) : Int64.ofNat (n % 18446744073709551616) = Int64.ofNat n := by
  apply Int64.toBitVec_inj.1
  simp only [Int64.toBitVec_ofNat']
  apply BitVec.eq_of_toNat_eq
  simp [BitVec.toNat_ofNat]
theorem fl_add (x y : Nat) : Int64.ofNat ((x + y) % 18446744073709551616) = Int64.ofNat x + Int64.ofNat y := by
  rw [fl_mod, Int64.ofNat_add]
theorem fl_mul (x y : Nat) : Int64.ofNat (x * y % 18446744073709551616) = Int64.ofNat x * Int64.ofNat y := by
  rw [fl_mod, Int64.ofNat_mul]
theorem fl_sub (x y : Nat) : Int64.ofNat ((x + (18446744073709551616 - y % 18446744073709551616)) % 18446744073709551616) = Int64.ofNat x - Int64.ofNat y := by
  rw [fl_mod, Int64.ofNat_add]
  have e : Int64.ofNat (18446744073709551616 - y % 18446744073709551616) = - Int64.ofNat y := by
    rw [← fl_mod y]
    have hb : y % 18446744073709551616 < 18446744073709551616 := Nat.mod_lt _ (by decide)
    generalize y % 18446744073709551616 = m at hb
    have e2 : Int64.ofNat (18446744073709551616 - m) + Int64.ofNat m = 0 := by
      rw [← Int64.ofNat_add, show 18446744073709551616 - m + m = 18446744073709551616 by omega]
      decide
    have e3 := congrArg (fun t => t - Int64.ofNat m) e2
    simp only [Int64.add_sub_cancel, Int64.zero_sub] at e3
    exact e3
  rw [e, Int64.sub_eq_add_neg]
theorem fx_o_i2l {n : Nat} (h : n < 2147483648) : (Int32.ofNat n).toInt64 = Int64.ofNat n := by
  apply Int64.toInt_inj.1
  rw [Int32.toInt_toInt64, fx_o_int h, Int64.toInt_ofNat']
  have hs : (Int64.size : Int) = 18446744073709551616 := rfl
  simp only [Int.bmod, hs]
  omega
theorem fx_o_i2b {n : Nat} (h : n < 128) : (Int32.ofNat n).toInt8.toInt32 = Int32.ofNat n := by
  have key : ∀ n, n < 128 → (Int32.ofNat n).toInt8.toInt32 = Int32.ofNat n := by decide +kernel
  exact key n h
theorem fx_o_i2c {n : Nat} (h : n < 65536) : ((Int32.ofNat n).toUInt32 % 65536).toInt32 = Int32.ofNat n := by
  apply Int32.toBitVec_inj.1
  rw [Int32.toBitVec_ofNat']
  show ((Int32.ofNat n).toUInt32 % 65536).toBitVec = _
  rw [UInt32.toBitVec_mod]
  apply BitVec.eq_of_toNat_eq
  show ((Int32.ofNat n).toBitVec % (65536 : UInt32).toBitVec).toNat = _
  rw [Int32.toBitVec_ofNat']
  simp [BitVec.toNat_ofNat]
  omega
theorem fx_o_nc {n : Nat} (h : n < 65536) : narrow .char (.int (Int32.ofNat n)) = .int (Int32.ofNat n) := by
  show Value.int (Int32.ofNat n).toUInt32.toUInt16.toUInt32.toInt32 = _
  congr 1
  apply Int32.toBitVec_inj.1
  rw [Int32.toBitVec_ofNat']
  apply BitVec.eq_of_toNat_eq
  show ((Int32.ofNat n).toUInt32.toUInt16.toUInt32).toNat = _
  rw [UInt16.toNat_toUInt32, UInt32.toNat_toUInt16]
  show (Int32.ofNat n).toBitVec.toNat % _ = _
  rw [Int32.toBitVec_ofNat']
  simp [BitVec.toNat_ofNat]
  omega
end
section
theorem fx_num_eq (n : Nat) (k : Nat → Bool) : fx_num n k = k n := by cases n <;> rfl
theorem fx_if_t {α : Type} (x y : α) : fx_if true x y = x := rfl
theorem fx_if_f {α : Type} (x y : α) : fx_if false x y = y := rfl
theorem fx_beq {a b : Nat} (h : Nat.beq a b = true) : a = b := Nat.eq_of_beq_eq_true h
theorem fx_bnq {a b : Nat} (h : Nat.beq a b = false) : a ≠ b := Nat.ne_of_beq_eq_false h
theorem fx_ble {a b : Nat} (h : Nat.ble a b = true) : a ≤ b := Nat.le_of_ble_eq_true h
theorem fx_blt {a b : Nat} (h : Nat.blt a b = true) : a < b := Nat.le_of_ble_eq_true h
theorem fx_nle {a b : Nat} (h : Nat.ble a b = false) : b < a := by
  rcases Nat.lt_or_ge b a with q | q
  · exact q
  · rw [Nat.ble_eq_true_of_le q] at h; cases h
theorem fx_nlt {a b : Nat} (h : Nat.blt a b = false) : b ≤ a := Nat.le_of_lt_succ (fx_nle h)
theorem fx_and {a b : Bool} (h : (a && b) = true) : a = true ∧ b = true := by simpa using h
theorem fx_or {a b : Bool} (h : (a || b) = true) : a = true ∨ b = true := by simpa using h
theorem fx_nth_eq {α : Type} (l : List α) : ∀ n, fx_nth l n = l[n]? := by
  induction l with
  | nil => intro n; rfl
  | cons a l ih =>
    intro n
    cases n with
    | zero => rfl
    | succ n => rw [List.getElem?_cons_succ, ← ih n]; rfl
theorem fx_put_ok {α : Type} {a : α} : ∀ {l : List α} {n : Nat} {k : List α → Bool}, fx_put a l n k = true → n < l.length ∧ k (l.set n a) = true := by
  intro l
  induction l with
  | nil => intro n k h; cases h
  | cons b l ih =>
    intro n k h
    cases n with
    | zero => exact ⟨Nat.succ_pos _, h⟩
    | succ n =>
      obtain ⟨h1, h2⟩ := ih (k := fun t => k (b :: t)) h
      exact ⟨Nat.succ_lt_succ h1, h2⟩
theorem fx_snoc_eq {α : Type} (a : α) : ∀ (l : List α) (k : List α → Bool), fx_snoc a l k = k (l ++ [a]) := by
  intro l
  induction l with
  | nil => intro k; rfl
  | cons b l ih => intro k; exact ih (fun t => k (b :: t))
theorem fx_hget_eq (n : Nat) (rows : List (List fx_C)) (k : Nat) : fx_hget (n, rows) k = (rows[k / 16]?).bind (fun r => r[k % 16]?) := by
  unfold fx_hget
  rw [fx_nth_eq]
  show (match rows[k / 16]? with | none => none | some r => fx_nth r (k % 16)) = _
  cases rows[k / 16]? with
  | none => rfl
  | some r => exact fx_nth_eq r _
theorem fx_hset_ok {h : fx_H} {k : Nat} {c : fx_C} {kk : fx_H → Bool} (e : fx_hset h k c kk = true) : ∃ h', kk h' = true ∧ h'.1 = h.1 ∧ (∃ c0, fx_hget h k = some c0) ∧ fx_hget h' k = some c ∧ ∀ i, i ≠ k → fx_hget h' i = fx_hget h i := by
  obtain ⟨n, rows⟩ := h
  unfold fx_hset at e
  simp only at e
  cases hr : fx_nth rows (Nat.div k 16) with
  | none => rw [hr] at e; cases e
  | some r =>
    rw [hr] at e
    simp only at e
    obtain ⟨h1, h2⟩ := fx_put_ok e
    obtain ⟨h3, h4⟩ := fx_put_ok h2
    rw [fx_nth_eq] at hr
    have hr' : rows[k / 16]? = some r := hr
    have h1' : k % 16 < r.length := h1
    have h3 : k / 16 < rows.length := h3
    refine ⟨_, h4, rfl, ?_, ?_, ?_⟩
    · rw [fx_hget_eq, hr']
      exact ⟨_, List.getElem?_eq_getElem h1'⟩
    · rw [fx_hget_eq]
      show ((rows.set (k / 16) (r.set (k % 16) c))[k / 16]?).bind _ = _
      rw [List.getElem?_set_self h3]
      exact List.getElem?_set_self h1'
    · intro i hi
      rw [fx_hget_eq, fx_hget_eq]
      show ((rows.set (k / 16) (r.set (k % 16) c))[i / 16]?).bind _ = _
      by_cases hq : i / 16 = k / 16
      · rw [hq, List.getElem?_set_self h3, hr']
        show (r.set (k % 16) c)[i % 16]? = r[i % 16]?
        rw [List.getElem?_set_ne]
        intro hm
        apply hi
        rw [← Nat.div_add_mod i 16, ← Nat.div_add_mod k 16, hq, hm]
      · rw [List.getElem?_set_ne (Ne.symm hq)]
theorem fx_hnew_ok {h : fx_H} {c : fx_C} {kk : fx_H → Bool} (e : fx_hnew h c kk = true) : ∃ h', kk h' = true ∧ h'.1 = h.1 + 1 ∧ h.1 < 1000000 ∧ fx_hget h' h.1 = some c ∧ ∀ i, i ≠ h.1 → fx_hget h' i = fx_hget h i := by
  obtain ⟨n, rows⟩ := h
  unfold fx_hnew at e
  simp only at e
  obtain ⟨e0, e⟩ := fx_and e
  have hn := fx_blt e0
  cases hm : Nat.beq (Nat.mod n 16) 0 with
  | true =>
    rw [hm, fx_if_t] at e
    obtain ⟨e1, e⟩ := fx_and e
    have hl : rows.length = n / 16 := fx_beq e1
    have hm0 : n % 16 = 0 := fx_beq hm
    rw [fx_snoc_eq, fx_num_eq] at e
    refine ⟨_, e, rfl, hn, ?_, ?_⟩
    · rw [fx_hget_eq]
      show ((rows ++ [[c]])[n / 16]?).bind _ = _
      rw [← hl, List.getElem?_append_right (Nat.le_refl _), Nat.sub_self]
      show ([c] : List fx_C)[n % 16]? = _
      rw [hm0]; rfl
    · intro i hi
      have hi : i ≠ n := hi
      rw [fx_hget_eq, fx_hget_eq]
      by_cases hq : i / 16 < rows.length
      · rw [List.getElem?_append_left hq]
      · rw [List.getElem?_append_right (by omega), List.getElem?_eq_none (by omega : rows.length ≤ i / 16)]
        by_cases hz : i / 16 = rows.length
        · rw [hz, Nat.sub_self]
          show ([c] : List fx_C)[i % 16]? = none
          have : i % 16 ≠ 0 := by omega
          obtain ⟨m, hm2⟩ := Nat.exists_eq_succ_of_ne_zero this
          rw [hm2]; rfl
        · have : ∃ m, i / 16 - rows.length = m + 1 := ⟨i / 16 - rows.length - 1, by omega⟩
          obtain ⟨m, hm2⟩ := this
          rw [hm2]; rfl
  | false =>
    rw [hm, fx_if_f] at e
    cases hr : fx_nth rows (Nat.div n 16) with
    | none => rw [hr] at e; cases e
    | some r =>
      rw [hr] at e
      simp only at e
      obtain ⟨e1, e⟩ := fx_and e
      have hl : r.length = n % 16 := fx_beq e1
      rw [fx_snoc_eq] at e
      obtain ⟨h3, e⟩ := fx_put_ok e
      rw [fx_num_eq] at e
      rw [fx_nth_eq] at hr
      have hr' : rows[n / 16]? = some r := hr
      have h3 : n / 16 < rows.length := h3
      refine ⟨_, e, rfl, hn, ?_, ?_⟩
      · rw [fx_hget_eq]
        show ((rows.set (n / 16) (r ++ [c]))[n / 16]?).bind _ = _
        rw [List.getElem?_set_self h3]
        show (r ++ [c])[n % 16]? = _
        rw [← hl, List.getElem?_append_right (Nat.le_refl _), Nat.sub_self]; rfl
      · intro i hi
        have hi : i ≠ n := hi
        rw [fx_hget_eq, fx_hget_eq]
        show ((rows.set (n / 16) (r ++ [c]))[i / 16]?).bind _ = _
        by_cases hq : i / 16 = n / 16
        · rw [hq, List.getElem?_set_self h3, hr']
          show (r ++ [c])[i % 16]? = r[i % 16]?
          by_cases hz : i % 16 < r.length
          · rw [List.getElem?_append_left hz]
          · have hne : i % 16 ≠ n % 16 := fun q => hi (by rw [← Nat.div_add_mod i 16, ← Nat.div_add_mod n 16, hq, q])
            rw [List.getElem?_append_right (by omega), List.getElem?_eq_none (by omega : r.length ≤ i % 16)]
            obtain ⟨m, hm2⟩ : ∃ m, i % 16 - r.length = m + 1 := ⟨i % 16 - r.length - 1, by omega⟩
            rw [hm2]; rfl
        · rw [List.getElem?_set_ne (Ne.symm hq)]
theorem fx_drop_eq (i : Nat) : ∀ (l : fx_L) (k : fx_L → Bool), fx_drop l i k = k (l.filter (fun q => !(Nat.beq q.1 i || (Nat.beq (q.1 + 1) i && Nat.beq (fx_cat q.2) 2)))) := by
  intro l
  induction l with
  | nil => intro k; rfl
  | cons q l ih =>
    intro k
    have e := ih (fun t => fx_if (Nat.beq q.1 i || (Nat.beq (q.1 + 1) i && Nat.beq (fx_cat q.2) 2)) (k t) (k (q :: t)))
    refine Eq.trans e ?_
    cases hc : (Nat.beq q.1 i || (Nat.beq (q.1 + 1) i && Nat.beq (fx_cat q.2) 2)) with
    | true => rw [fx_if_t, List.filter_cons_of_neg (by simp [hc])]
    | false => rw [fx_if_f, List.filter_cons_of_pos (by simp [hc])]
theorem fx_drop2_eq (i : Nat) : ∀ (l : fx_L) (k : fx_L → Bool), fx_drop2 l i k = k (l.filter (fun q => !(Nat.beq q.1 i || (Nat.beq q.1 (i + 1) || (Nat.beq (q.1 + 1) i && Nat.beq (fx_cat q.2) 2))))) := by
  intro l
  induction l with
  | nil => intro k; rfl
  | cons q l ih =>
    intro k
    have e := ih (fun t => fx_if (Nat.beq q.1 i || (Nat.beq q.1 (i + 1) || (Nat.beq (q.1 + 1) i && Nat.beq (fx_cat q.2) 2))) (k t) (k (q :: t)))
    refine Eq.trans e ?_
    cases hc : (Nat.beq q.1 i || (Nat.beq q.1 (i + 1) || (Nat.beq (q.1 + 1) i && Nat.beq (fx_cat q.2) 2))) with
    | true => rw [fx_if_t, List.filter_cons_of_neg (by simp [hc])]
    | false => rw [fx_if_f, List.filter_cons_of_pos (by simp [hc])]
theorem fx_without_eq {α : Type} (i : Nat) : ∀ (l : List (Nat × α)) (k : List (Nat × α) → Bool), fx_without l i k = k (l.filter (fun q => !(Nat.beq q.1 i))) := by
  intro l
  induction l with
  | nil => intro k; rfl
  | cons q l ih =>
    intro k
    cases hc : Nat.beq q.1 i with
    | true =>
      have e : fx_without (q :: l) i k = fx_without l i k := by
        show fx_if (Nat.beq q.1 i) (fx_without l i k) (fx_without l i (fun t => k (q :: t))) = _
        rw [hc, fx_if_t]
      rw [e, ih, List.filter_cons_of_neg (by simp [hc])]
    | false =>
      have e : fx_without (q :: l) i k = fx_without l i (fun t => k (q :: t)) := by
        show fx_if (Nat.beq q.1 i) (fx_without l i k) (fx_without l i (fun t => k (q :: t))) = _
        rw [hc, fx_if_f]
      rw [e, ih, List.filter_cons_of_pos (by simp [hc])]
theorem fx_look_nil {α : Type} (i : Nat) : fx_look ([] : List (Nat × α)) i = none := rfl
theorem fx_look_cons {α : Type} (q : Nat × α) (l : List (Nat × α)) (i : Nat) : fx_look (q :: l) i = fx_if (Nat.beq q.1 i) (some q.2) (fx_look l i) := rfl
theorem fx_look_hit {α : Type} (n : Nat) (v : α) (l : List (Nat × α)) : fx_look ((n, v) :: l) n = some v := by
  rw [fx_look_cons, Nat.beq_refl, fx_if_t]
theorem fx_look_miss {α : Type} {n i : Nat} (v : α) (l : List (Nat × α)) (h : n ≠ i) : fx_look ((n, v) :: l) i = fx_look l i := by
  rw [fx_look_cons]
  cases hc : Nat.beq n i with
  | true => exact absurd (fx_beq hc) h
  | false => rfl
theorem fx_look_out {α : Type} (i n : Nat) (h : i ≠ n) : ∀ l : List (Nat × α), fx_look (l.filter (fun q => !(Nat.beq q.1 n))) i = fx_look l i := by
  intro l
  induction l with
  | nil => rfl
  | cons q l ih =>
    cases hc : Nat.beq q.1 n with
    | true =>
      rw [List.filter_cons_of_neg (by simp [hc]), ih, show q = (q.1, q.2) from rfl, fx_look_miss]
      rw [fx_beq hc]; exact Ne.symm h
    | false =>
      rw [List.filter_cons_of_pos (by simp [hc]), fx_look_cons, fx_look_cons, ih]
theorem fx_look_gone {α : Type} (n : Nat) : ∀ l : List (Nat × α), fx_look (l.filter (fun q => !(Nat.beq q.1 n))) n = none := by
  intro l
  induction l with
  | nil => rfl
  | cons q l ih =>
    cases hc : Nat.beq q.1 n with
    | true => rw [List.filter_cons_of_neg (by simp [hc]), ih]
    | false => rw [List.filter_cons_of_pos (by simp [hc]), show q = (q.1, q.2) from rfl, fx_look_miss _ _ (fx_bnq hc), ih]
theorem fx_split_ok : ∀ (n : Nat) (acc stk as st : List fx_V), Nat.rec (motive := fun _ => List fx_V → List fx_V → Option (List fx_V × List fx_V)) (fun acc st => some (acc, st)) (fun _ ih acc st => match st with
    | [] => none
    | v :: st => ih (v :: acc) st) n acc stk = some (as, st) → ∃ bs, bs.length = n ∧ as = bs ++ acc ∧ stk = bs.reverse ++ st := by
  intro n
  induction n with
  | zero =>
    intro acc stk as st h
    cases h
    exact ⟨[], rfl, rfl, rfl⟩
  | succ n ih =>
    intro acc stk as st h
    cases stk with
    | nil => cases h
    | cons v stk =>
      obtain ⟨bs, h1, h2, h3⟩ := ih (v :: acc) stk as st h
      exact ⟨bs ++ [v], by simp [h1], by simp [h2], by simp [h3]⟩
theorem fx_to_ok {cod : List fx_I} {t : Nat} {q : fx_I} {r : List fx_I} : fx_to cod t = q :: r → q.1 = t ∧ ∀ x ∈ (q :: r), x ∈ cod := by
  induction cod with
  | nil => intro h; cases h
  | cons p cod ih =>
    intro h
    have h : fx_if (Nat.beq p.1 t) (p :: cod) (fx_to cod t) = q :: r := h
    cases hc : Nat.beq p.1 t with
    | true =>
      rw [hc, fx_if_t] at h
      cases h
      exact ⟨fx_beq hc, fun x hx => hx⟩
    | false =>
      rw [hc, fx_if_f] at h
      obtain ⟨h1, h2⟩ := ih h
      exact ⟨h1, fun x hx => List.mem_cons_of_mem _ (h2 x hx)⟩
theorem fx_nx_ok {go : List fx_I → Bool} {pc len : Nat} {tl : List fx_I} (h : fx_nx go pc len tl = true) : ∃ r t, tl = r :: t ∧ r.1 = pc + len ∧ go tl = true := by
  unfold fx_nx at h
  cases tl with
  | nil => cases h
  | cons r t =>
    obtain ⟨h1, h2⟩ := fx_and h
    exact ⟨r, t, rfl, fx_beq h1, h2⟩
end
section
abbrev fx_X : Type := (Nat → Int32) × (Nat × (Nat → Value))
def fx_ad (X : fx_X) (k : Nat) : Value := if k < 1000000 then .ref (X.2.1 + k) else X.2.2 (k - 1000000)
theorem fx_ad_lt {X : fx_X} {k : Nat} (h : k < 1000000) : fx_ad X k = .ref (X.2.1 + k) := by unfold fx_ad; rw [if_pos h]
def fx_rv (X : fx_X) (v : fx_V) (w : Value) : Prop := match v with
  | .inl n => w = .int (Int32.ofNat n)
  | .inr (.inl 0) => ∃ z, w = .int z
  | .inr (.inl (i + 1)) => w = .int (X.1 (i + 1))
  | .inr (.inr (.inl none)) => w = .null
  | .inr (.inr (.inl (some k))) => w = fx_ad X k
  | .inr (.inr (.inr n)) => w = .long (Int64.ofNat n)
def fx_rl (X : fx_X) : List fx_V → List Value → Prop
  | [], [] => True
  | v :: vs, w :: ws => fx_rv X v w ∧ fx_rl X vs ws
  | _, _ => False
def fx_rn (X : fx_X) : fx_L → List (Nat × Value) → Prop
  | [], [] => True
  | v :: vs, w :: ws => (v.1 = w.1 ∧ fx_rv X v.2 w.2) ∧ fx_rn X vs ws
  | _, _ => False
def fx_rj (X : fx_X) (j : fx_J) : Prop := ∀ (i : Nat) (q : Nat × Nat), j[i]? = some q → q.1 ≤ fx_z (X.1 i) ∧ fx_z (X.1 i) ≤ q.2
theorem fx_iv_ok {X : fx_X} {j : fx_J} (h : fx_rj X j) (i : Nat) : (fx_iv j i).1 ≤ fx_z (X.1 i) ∧ fx_z (X.1 i) ≤ (fx_iv j i).2 := by
  unfold fx_iv
  rw [fx_nth_eq]
  cases hj : j[i]? with
  | none => exact ⟨Nat.zero_le _, Nat.le_of_lt_succ (fx_z_max _)⟩
  | some q => exact h i q hj
theorem fx_rl_cons {X : fx_X} {v : fx_V} {vs : List fx_V} {ws : List Value} (h : fx_rl X (v :: vs) ws) : ∃ w ws', ws = w :: ws' ∧ fx_rv X v w ∧ fx_rl X vs ws' := by
  cases ws with
  | nil => exact False.elim h
  | cons w ws => exact ⟨w, ws, rfl, h.1, h.2⟩
theorem fx_rl_nil {X : fx_X} {ws : List Value} (h : fx_rl X [] ws) : ws = [] := by
  cases ws with
  | nil => rfl
  | cons w ws => exact False.elim h
theorem fx_rl_app {X : fx_X} : ∀ {a b : List fx_V} {ws : List Value}, fx_rl X (a ++ b) ws → ∃ w1 w2, ws = w1 ++ w2 ∧ fx_rl X a w1 ∧ fx_rl X b w2 := by
  intro a
  induction a with
  | nil => intro b ws h; exact ⟨[], ws, rfl, trivial, h⟩
  | cons v a ih =>
    intro b ws h
    obtain ⟨w, ws', e, h1, h2⟩ := fx_rl_cons (vs := a ++ b) h
    obtain ⟨w1, w2, e2, h3, h4⟩ := ih h2
    exact ⟨w :: w1, w2, by rw [e, e2]; rfl, ⟨h1, h3⟩, h4⟩
theorem fx_rl_join {X : fx_X} : ∀ {a : List fx_V} {w1 : List Value}, fx_rl X a w1 → ∀ {b : List fx_V} {w2 : List Value}, fx_rl X b w2 → fx_rl X (a ++ b) (w1 ++ w2) := by
  intro a
  induction a with
  | nil => intro w1 h b w2 h2; rw [fx_rl_nil h]; exact h2
  | cons v a ih =>
    intro w1 h b w2 h2
    obtain ⟨w, ws', e, h3, h4⟩ := fx_rl_cons h
    subst e
    exact ⟨h3, ih h4 h2⟩
theorem fx_rl_rev {X : fx_X} : ∀ {a : List fx_V} {w : List Value}, fx_rl X a w → fx_rl X a.reverse w.reverse := by
  intro a
  induction a with
  | nil => intro w h; rw [fx_rl_nil h]; trivial
  | cons v a ih =>
    intro w h
    obtain ⟨x, ws', e, h3, h4⟩ := fx_rl_cons h
    subst e
    rw [List.reverse_cons, List.reverse_cons]
    exact fx_rl_join (ih h4) ⟨h3, trivial⟩
theorem fx_rl_len {X : fx_X} : ∀ {a : List fx_V} {w : List Value}, fx_rl X a w → w.length = a.length := by
  intro a
  induction a with
  | nil => intro w h; rw [fx_rl_nil h]; rfl
  | cons v a ih =>
    intro w h
    obtain ⟨x, ws', e, h3, h4⟩ := fx_rl_cons h
    subst e
    simp [ih h4]
theorem fx_rl_get {X : fx_X} : ∀ {a : List fx_V} {w : List Value}, fx_rl X a w → ∀ {k : Nat} {v : fx_V}, a[k]? = some v → ∃ x, w[k]? = some x ∧ fx_rv X v x := by
  intro a
  induction a with
  | nil => intro w h k v hk; simp at hk
  | cons u a ih =>
    intro w h k v hk
    obtain ⟨x, ws', e, h3, h4⟩ := fx_rl_cons h
    subst e
    cases k with
    | zero =>
      rw [List.getElem?_cons_zero] at hk
      cases hk
      exact ⟨x, rfl, h3⟩
    | succ k =>
      rw [List.getElem?_cons_succ] at hk
      rw [List.getElem?_cons_succ]
      exact ih h4 hk
theorem fx_rl_set {X : fx_X} {v : fx_V} {x : Value} (hv : fx_rv X v x) : ∀ {a : List fx_V} {w : List Value}, fx_rl X a w → ∀ (k : Nat), fx_rl X (a.set k v) (w.set k x) := by
  intro a
  induction a with
  | nil => intro w h k; rw [fx_rl_nil h]; exact trivial
  | cons u a ih =>
    intro w h k
    obtain ⟨y, ws', e, h3, h4⟩ := fx_rl_cons h
    subst e
    cases k with
    | zero => exact ⟨hv, h4⟩
    | succ k => exact ⟨h3, ih h4 k⟩
theorem fx_rn_cons {X : fx_X} {v : Nat × fx_V} {vs : fx_L} {ws : List (Nat × Value)} (h : fx_rn X (v :: vs) ws) : ∃ w ws', ws = w :: ws' ∧ v.1 = w.1 ∧ fx_rv X v.2 w.2 ∧ fx_rn X vs ws' := by
  cases ws with
  | nil => exact False.elim h
  | cons w ws => exact ⟨w, ws, rfl, h.1.1, h.1.2, h.2⟩
theorem fx_rn_nil {X : fx_X} {ws : List (Nat × Value)} (h : fx_rn X [] ws) : ws = [] := by
  cases ws with
  | nil => rfl
  | cons w ws => exact False.elim h
theorem fx_rn_look {X : fx_X} : ∀ {l : fx_L} {lv : List (Nat × Value)}, fx_rn X l lv → ∀ {i : Nat} {v : fx_V}, fx_look l i = some v → ∃ (k : Nat) (x : Value), lv[k]? = some (i, x) ∧ fx_rv X v x := by
  intro l
  induction l with
  | nil => intro lv h i v hv; cases hv
  | cons q l ih =>
    intro lv h i v hv
    obtain ⟨w, ws', e, h1, h2, h3⟩ := fx_rn_cons h
    subst e
    rw [fx_look_cons] at hv
    cases hc : Nat.beq q.1 i with
    | true =>
      rw [hc, fx_if_t] at hv
      cases hv
      refine ⟨0, w.2, ?_, h2⟩
      rw [List.getElem?_cons_zero, ← fx_beq hc, h1]
    | false =>
      rw [hc, fx_if_f] at hv
      obtain ⟨k, x, h4, h5⟩ := ih h3 hv
      exact ⟨k + 1, x, by rw [List.getElem?_cons_succ]; exact h4, h5⟩
theorem fx_cat_ok {X : fx_X} {v : fx_V} {w : Value} (hr : ∀ k, v = fr k → (fx_ad X k).category = 1) (h : fx_rv X v w) : w.category = fx_cat v := by
  rcases v with n | i | r | n
  · have h : w = _ := h
    rw [h]; rfl
  · cases i with
    | zero => obtain ⟨z, h⟩ := h; rw [h]; rfl
    | succ i =>
      have h : w = _ := h
      rw [h]; rfl
  · cases r with
    | none =>
      have h : w = _ := h
      rw [h]; rfl
    | some k =>
      have h : w = _ := h
      rw [h, hr k rfl]; rfl
  · have h : w = _ := h
    rw [h]; rfl
/-- references outside are references, or null -/
def fx_xo (X : fx_X) : Prop := ∀ k, (fx_ad X k).category = 1 ∧ (fx_ad X k = .null ∨ ∃ a, fx_ad X k = .ref a)
theorem fx_cat_of {X : fx_X} (hX : fx_xo X) {v : fx_V} {w : Value} (h : fx_rv X v w) : w.category = fx_cat v := fx_cat_ok (fun k _ => (hX k).1) h
theorem fx_rn_filter {X : fx_X} (hX : fx_xo X) (f : Nat → Nat → Bool) : ∀ {l : fx_L} {lv : List (Nat × Value)}, fx_rn X l lv → fx_rn X (l.filter (fun q => f q.1 (fx_cat q.2))) (lv.filter (fun q => f q.1 q.2.category)) := by
  intro l
  induction l with
  | nil => intro lv h; rw [fx_rn_nil h]; trivial
  | cons q l ih =>
    intro lv h
    obtain ⟨w, ws', e, h1, h2, h3⟩ := fx_rn_cons h
    subst e
    have hc := fx_cat_of hX h2
    cases hf : f q.1 (fx_cat q.2) with
    | true =>
      rw [List.filter_cons_of_pos (p := fun q : Nat × fx_V => f q.1 (fx_cat q.2)) hf, List.filter_cons_of_pos (p := fun q : Nat × Value => f q.1 q.2.category) (by show f w.1 w.2.category = true; rw [hc, ← h1]; exact hf)]
      exact ⟨⟨h1, h2⟩, ih h3⟩
    | false =>
      rw [List.filter_cons_of_neg (p := fun q : Nat × fx_V => f q.1 (fx_cat q.2)) (by show ¬ f q.1 (fx_cat q.2) = true; rw [hf]; simp), List.filter_cons_of_neg (p := fun q : Nat × Value => f q.1 q.2.category) (by show ¬ f w.1 w.2.category = true; rw [hc, ← h1, hf]; simp)]
      exact ih h3
/-- an int, by its picture -/
theorem fx_rv_int {X : fx_X} {v : fx_V} {w : Value} (h : fx_rv X v w) (hi : fx_int v = true) : ∃ z, w = .int z := by
  rcases v with n | i | r | n
  · exact ⟨_, h⟩
  · cases i with
    | zero => exact h
    | succ i => exact ⟨_, h⟩
  · cases hi
  · cases hi
theorem fx_nz_ok {X : fx_X} {j : fx_J} (hj : fx_rj X j) {v : fx_V} {w : Value} (h : fx_rv X v w) {k : fx_V → Bool} (e : fx_nz j v k = true) : ∃ v', k v' = true ∧ fx_rv X v' w ∧ (fx_int v = true → fx_int v' = true) := by
  rcases v with n | i | r | n
  · exact ⟨_, e, h, fun q => q⟩
  · cases i with
    | zero => exact ⟨_, e, h, fun q => q⟩
    | succ i =>
      have e : fx_if (Nat.beq (fx_iv j (i + 1)).1 (fx_iv j (i + 1)).2) (fx_num (fx_b (fx_iv j (i + 1)).1) (fun n => k (fc n))) (k (fv (i + 1))) = true := e
      cases hc : Nat.beq (fx_iv j (i + 1)).1 (fx_iv j (i + 1)).2 with
      | true =>
        rw [hc, fx_if_t, fx_num_eq] at e
        refine ⟨_, e, ?_, fun _ => rfl⟩
        have hq := fx_iv_ok hj (i + 1)
        have he := fx_beq hc
        have hz : (fx_iv j (i + 1)).1 = fx_z (X.1 (i + 1)) := by omega
        show w = .int (Int32.ofNat (fx_b (fx_iv j (i + 1)).1))
        rw [hz, fx_of_z]
        exact h
      | false =>
        rw [hc, fx_if_f] at e
        exact ⟨_, e, h, fun q => q⟩
  · exact ⟨_, e, h, fun q => q⟩
  · exact ⟨_, e, h, fun q => q⟩
theorem fx_val_eq (v : fx_V) (k : fx_V → Bool) : fx_val v k = k v := by
  rcases v with n | i | r | n
  · exact fx_num_eq n (fun n => k (fc n))
  · rfl
  · rfl
  · exact fx_num_eq n (fun n => k (fl n))
theorem fx_rj_put {X : fx_X} {j : fx_J} (hj : fx_rj X j) {i lo hi : Nat} (h : lo ≤ fx_z (X.1 i) ∧ fx_z (X.1 i) ≤ hi) : fx_rj X (j.set i (lo, hi)) := by
  intro n q hq
  by_cases hn : n = i
  · subst hn
    by_cases hl : n < j.length
    · rw [List.getElem?_set_self hl] at hq
      cases hq
      exact h
    · rw [List.set_eq_of_length_le (by omega)] at hq
      exact hj n q hq
  · rw [List.getElem?_set_ne (Ne.symm hn)] at hq
    exact hj n q hq
theorem fx_with_ok {X : fx_X} {j : fx_J} (hj : fx_rj X j) {i lo hi : Nat} (h : lo ≤ fx_z (X.1 i) ∧ fx_z (X.1 i) ≤ hi) {k : fx_J → Bool} (e : fx_with j i lo hi k = true) : ∃ j', k j' = true ∧ fx_rj X j' := by
  unfold fx_with at e
  rw [Nat.ble_eq_true_of_le (Nat.le_trans h.1 h.2), fx_if_t, fx_num_eq, fx_num_eq] at e
  obtain ⟨-, e⟩ := fx_put_ok e
  exact ⟨_, e, fx_rj_put hj h⟩
theorem fx_con_lt (o : Nat) {x y : Nat} (h : x < y) : fx_con o x y = fx_con o 0 1 := by
  unfold fx_con
  have h1 : Nat.beq x y = false := by
    cases hb : Nat.beq x y with
    | true => exact absurd (fx_beq hb) (by omega)
    | false => rfl
  have h2 : Nat.blt x y = true := Nat.ble_eq_true_of_le h
  have h3 : Nat.ble y x = false := by
    cases hb : Nat.ble y x with
    | true => exact absurd (fx_ble hb) (by omega)
    | false => rfl
  have h4 : Nat.blt y x = false := by
    cases hb : Nat.blt y x with
    | true => exact absurd (fx_blt hb) (by omega)
    | false => rfl
  have h5 : Nat.ble x y = true := Nat.ble_eq_true_of_le (by omega)
  rw [h1, h2, h3, h4, h5]
  rfl
theorem fx_con_gt (o : Nat) {x y : Nat} (h : y < x) : fx_con o x y = fx_con o 1 0 := by
  unfold fx_con
  have h1 : Nat.beq x y = false := by
    cases hb : Nat.beq x y with
    | true => exact absurd (fx_beq hb) (by omega)
    | false => rfl
  have h2 : Nat.blt x y = false := by
    cases hb : Nat.blt x y with
    | true => exact absurd (fx_blt hb) (by omega)
    | false => rfl
  have h3 : Nat.ble y x = true := Nat.ble_eq_true_of_le (by omega)
  have h4 : Nat.blt y x = true := Nat.ble_eq_true_of_le h
  have h5 : Nat.ble x y = false := by
    cases hb : Nat.ble x y with
    | true => exact absurd (fx_ble hb) (by omega)
    | false => rfl
  rw [h1, h2, h3, h4, h5]
  rfl
theorem fx_con_eq (o x : Nat) : fx_con o x x = fx_con o 0 0 := by
  unfold fx_con
  have h2 : Nat.blt x x = false := by
    cases hb : Nat.blt x x with
    | true => exact absurd (fx_blt hb) (by omega)
    | false => rfl
  rw [Nat.beq_refl, h2, Nat.ble_eq_true_of_le (Nat.le_refl x)]
  rfl
theorem fx_cut_ok {X : fx_X} {j : fx_J} (hj : fx_rj X j) {o i y : Nat} {k : Bool → fx_J → Bool} (e : fx_cut o j i y k = true) : ∃ j', k (fx_con o (fx_z (X.1 i)) y) j' = true ∧ fx_rj X j' := by
  unfold fx_cut at e
  have hq := fx_iv_ok hj i
  cases h1 : Nat.blt (fx_iv j i).2 y with
  | true =>
    rw [h1, fx_if_t] at e
    have := fx_blt h1
    exact ⟨j, by rw [fx_con_lt o (by omega)]; exact e, hj⟩
  | false =>
    rw [h1, fx_if_f] at e
    cases h2 : Nat.blt y (fx_iv j i).1 with
    | true =>
      rw [h2, fx_if_t] at e
      have := fx_blt h2
      exact ⟨j, by rw [fx_con_gt o (by omega)]; exact e, hj⟩
    | false =>
      rw [h2, fx_if_f] at e
      obtain ⟨e1, e⟩ := fx_and e
      obtain ⟨e2, e3⟩ := fx_and e
      rcases Nat.lt_trichotomy (fx_z (X.1 i)) y with h | h | h
      · rcases fx_or e1 with e1 | e1
        · have := fx_beq e1
          omega
        · obtain ⟨j', h3, h4⟩ := fx_with_ok hj ⟨hq.1, by omega⟩ e1
          exact ⟨j', by rw [fx_con_lt o h]; exact h3, h4⟩
      · obtain ⟨j', h3, h4⟩ := fx_with_ok hj ⟨by omega, by omega⟩ e2
        exact ⟨j', by rw [h, fx_con_eq]; exact h3, h4⟩
      · obtain ⟨j', h3, h4⟩ := fx_with_ok hj ⟨by omega, hq.2⟩ e3
        exact ⟨j', by rw [fx_con_gt o h]; exact h3, h4⟩
theorem fx_con_swap {o : Nat} (ho : o < 6) (x y : Nat) : fx_con (fx_swap o) y x = fx_con o x y := by
  have key : ∀ o, o < 6 → (fx_con (fx_swap o) 0 1 = fx_con o 1 0 ∧ fx_con (fx_swap o) 1 0 = fx_con o 0 1 ∧ fx_con (fx_swap o) 0 0 = fx_con o 0 0) := by decide +kernel
  rcases Nat.lt_trichotomy x y with h | h | h
  · rw [fx_con_gt _ h, fx_con_lt _ h, (key o ho).2.1]
  · rw [h, fx_con_eq, (key o ho).2.2, fx_con_eq o y]
  · rw [fx_con_lt _ h, fx_con_gt _ h, (key o ho).1]
theorem fx_cmp_ok {X : fx_X} {j : fx_J} (hj : fx_rj X j) {o : Nat} (ho : o < 6) {x y : fx_V} {w u : Value} (hx : fx_rv X x w) (hy : fx_rv X y u) {k : Bool → fx_J → Bool} (e : fx_cmp o j x y k = true) : ∃ (a b : Int32) (j' : fx_J), w = .int a ∧ u = .int b ∧ k (fx_con o (fx_z a) (fx_z b)) j' = true ∧ fx_rj X j' := by
  rcases x with a | i | r | n
  · rcases y with b | i2 | r2 | n2
    · refine ⟨_, _, j, hx, hy, ?_, hj⟩
      rw [fx_z_of, fx_z_of]
      exact e
    · cases i2 with
      | zero => cases e
      | succ i2 =>
        obtain ⟨j', h1, h2⟩ := fx_cut_ok (o := fx_swap o) hj e
        refine ⟨_, _, j', hx, hy, ?_, h2⟩
        rw [fx_con_swap ho, ← fx_z_of] at h1
        exact h1
    · cases e
    · cases e
  · cases i with
    | zero =>
      rcases y with b | i2 | r2 | n2 <;> cases e
    | succ i =>
      rcases y with b | i2 | r2 | n2
      · obtain ⟨j', h1, h2⟩ := fx_cut_ok (o := o) hj e
        refine ⟨_, _, j', hx, hy, ?_, h2⟩
        rw [← fx_z_of] at h1
        exact h1
      · cases i2 with
        | zero => cases e
        | succ i2 =>
          obtain ⟨e1, e2⟩ := fx_and e
          have := fx_beq e1
          subst this
          refine ⟨_, _, j, hx, hy, ?_, hj⟩
          rw [fx_con_eq]
          exact e2
      · cases e
      · cases e
  · rcases y with b | i2 | r2 | n2 <;> cases e
  · rcases y with b | i2 | r2 | n2 <;> cases e
theorem fx_few_ok {X : fx_X} {j : fx_J} (hj : fx_rj X j) {v : fx_V} {i lo n : Nat} (h : fx_few j v = some (i, lo, n)) : lo ≤ fx_z (X.1 i) ∧ fx_z (X.1 i) ≤ lo + n := by
  rcases v with a | i0 | r | m
  · cases h
  · cases i0 with
    | zero => cases h
    | succ i0 =>
      have h : fx_if (Nat.ble ((fx_iv j (i0 + 1)).2 - (fx_iv j (i0 + 1)).1) 20) (some (i0 + 1, (fx_iv j (i0 + 1)).1, (fx_iv j (i0 + 1)).2 - (fx_iv j (i0 + 1)).1)) none = some (i, lo, n) := h
      cases hc : Nat.ble ((fx_iv j (i0 + 1)).2 - (fx_iv j (i0 + 1)).1) 20 with
      | true =>
        rw [hc, fx_if_t] at h
        have hq := fx_iv_ok hj (i0 + 1)
        cases h
        omega
      | false =>
        rw [hc, fx_if_f] at h
        cases h
  · cases h
  · cases h
theorem fx_each_ok {X : fx_X} {j : fx_J} (hj : fx_rj X j) {i lo : Nat} {k : fx_J → Bool} : ∀ {n : Nat}, fx_each j i lo n k = true → lo ≤ fx_z (X.1 i) → fx_z (X.1 i) ≤ lo + n → ∃ j', k j' = true ∧ fx_rj X j' := by
  intro n
  induction n with
  | zero => intro e h1 h2; exact fx_with_ok hj ⟨h1, h2⟩ e
  | succ n ih =>
    intro e h1 h2
    obtain ⟨e1, e2⟩ := fx_and (a := fx_with j i (lo + (n + 1)) (lo + (n + 1)) k) (b := fx_each j i lo n k) e
    by_cases h : fx_z (X.1 i) = lo + (n + 1)
    · exact fx_with_ok hj ⟨by omega, by omega⟩ e1
    · exact ih e2 h1 (by omega)
end
section
def fx_op (o : Nat) (a b : Int32) : Int32 := match o with
  | 0 => a + b
  | 1 => a - b
  | 2 => a * b
  | 3 => a / b
  | 4 => a - a / b * b
  | 5 => a &&& b
  | 6 => a ||| b
  | 7 => a ^^^ b
  | 8 => a <<< (b &&& 31)
  | 9 => a >>> (b &&& 31)
  | _ => (a.toUInt32 >>> (b.toUInt32 &&& Int32.toUInt32 31)).toInt32
theorem fx_bin_ok {o x y n : Nat} (h : fx_bin o x y = some n) : o < 11 ∧ Int32.ofNat n = fx_op o (Int32.ofNat x) (Int32.ofNat y) ∧ (o = 3 ∨ o = 4 → ¬ Int32.ofNat y = 0) := by
  rcases o with _ | _ | _ | _ | _ | _ | _ | _ | _ | _ | _ | o
  · cases h; exact ⟨by decide, fx_o_add x y, by omega⟩
  · cases h; exact ⟨by decide, fx_o_sub x y, by omega⟩
  · cases h; exact ⟨by decide, fx_o_mul x y, by omega⟩
  · have h : fx_if (Nat.blt x 2147483648 && (Nat.blt y 2147483648 && Nat.blt 0 y)) (some (x / y)) none = some n := h
    cases hc : (Nat.blt x 2147483648 && (Nat.blt y 2147483648 && Nat.blt 0 y)) with
    | false => rw [hc, fx_if_f] at h; cases h
    | true =>
      rw [hc, fx_if_t] at h
      cases h
      obtain ⟨h1, h2⟩ := fx_and hc
      obtain ⟨h2, h3⟩ := fx_and h2
      exact ⟨by decide, fx_o_div (fx_blt h1) (fx_blt h2), fun _ => fx_o_ne (fx_blt h2) (fx_blt h3)⟩
  · have h : fx_if (Nat.blt x 2147483648 && (Nat.blt y 2147483648 && Nat.blt 0 y)) (some (x % y)) none = some n := h
    cases hc : (Nat.blt x 2147483648 && (Nat.blt y 2147483648 && Nat.blt 0 y)) with
    | false => rw [hc, fx_if_f] at h; cases h
    | true =>
      rw [hc, fx_if_t] at h
      cases h
      obtain ⟨h1, h2⟩ := fx_and hc
      obtain ⟨h2, h3⟩ := fx_and h2
      exact ⟨by decide, fx_o_rem (fx_blt h1) (fx_blt h2), fun _ => fx_o_ne (fx_blt h2) (fx_blt h3)⟩
  · cases h; exact ⟨by decide, fx_o_and x y, by omega⟩
  · cases h; exact ⟨by decide, fx_o_or x y, by omega⟩
  · cases h; exact ⟨by decide, fx_o_xor x y, by omega⟩
  · have h : fx_if (Nat.blt y 32) (some (Nat.shiftLeft x y % 4294967296)) none = some n := h
    cases hc : Nat.blt y 32 with
    | false => rw [hc, fx_if_f] at h; cases h
    | true =>
      rw [hc, fx_if_t] at h
      cases h
      exact ⟨by decide, fx_o_shl (fx_blt hc), by omega⟩
  · have h : fx_if (Nat.blt x 2147483648 && Nat.blt y 32) (some (Nat.shiftRight x y)) none = some n := h
    cases hc : (Nat.blt x 2147483648 && Nat.blt y 32) with
    | false => rw [hc, fx_if_f] at h; cases h
    | true =>
      rw [hc, fx_if_t] at h
      cases h
      obtain ⟨h1, h2⟩ := fx_and hc
      exact ⟨by decide, fx_o_shr (fx_blt h1) (fx_blt h2), by omega⟩
  · have h : fx_if (Nat.blt x 4294967296 && Nat.blt y 32) (some (Nat.shiftRight x y)) none = some n := h
    cases hc : (Nat.blt x 4294967296 && Nat.blt y 32) with
    | false => rw [hc, fx_if_f] at h; cases h
    | true =>
      rw [hc, fx_if_t] at h
      cases h
      obtain ⟨h1, h2⟩ := fx_and hc
      exact ⟨by decide, (fx_o_ushr (fx_blt h1) (fx_blt h2)).symm, by omega⟩
  · cases h
theorem fx_rv_var {X : fx_X} {i : Nat} {w : Value} (h : fx_rv X (fv i) w) : ∃ z, w = .int z := by
  cases i with
  | zero => exact h
  | succ i => exact ⟨_, h⟩
theorem fx_z0 : Int32.ofNat 0 = 0 := rfl
theorem fx_bis_ok {X : fx_X} (h7 : X.1 7 = X.1 1 &&& 63) {o : Nat} (ho : o < 11) {x y w : fx_V} {u t : Value} (hx : fx_rv X x u) (hy : fx_rv X y t) (h : fx_bis o x y = some w) : ∃ a b, u = .int a ∧ t = .int b ∧ fx_rv X w (.int (fx_op o a b)) ∧ (o = 3 ∨ o = 4 → ¬ b = 0) := by
  rcases x with n | i | r | n
  · rcases y with n2 | i2 | r2 | n2
    · have h : (match fx_bin o n n2 with | some n => some (fc n) | none => none) = some w := h
      cases hb : fx_bin o n n2 with
      | none => rw [hb] at h; cases h
      | some m =>
        rw [hb] at h
        cases h
        obtain ⟨-, h1, h2⟩ := fx_bin_ok hb
        exact ⟨_, _, hx, hy, by show Value.int _ = .int _; rw [h1], h2⟩
    · have h : fx_if (Nat.beq o 0 && Nat.beq n 0) (some (fv i2)) (fx_if (Nat.beq o 2 && Nat.beq n 0) (some (fc 0)) (fx_if (Nat.beq o 3 || Nat.beq o 4) none (some (fv 0)))) = some w := h
      obtain ⟨z, hz⟩ := fx_rv_var hy
      cases h1 : (Nat.beq o 0 && Nat.beq n 0) with
      | true =>
        rw [h1, fx_if_t] at h
        cases h
        obtain ⟨e1, e2⟩ := fx_and h1
        have e1 := fx_beq e1
        have e2 := fx_beq e2
        subst e1; subst e2
        refine ⟨_, z, hx, hz, ?_, by omega⟩
        show fx_rv X (fv i2) (.int (Int32.ofNat 0 + z))
        rw [fx_z0, Int32.zero_add, ← hz]
        exact hy
      | false =>
        rw [h1, fx_if_f] at h
        cases h2 : (Nat.beq o 2 && Nat.beq n 0) with
        | true =>
          rw [h2, fx_if_t] at h
          cases h
          obtain ⟨e1, e2⟩ := fx_and h2
          have e1 := fx_beq e1
          have e2 := fx_beq e2
          subst e1; subst e2
          refine ⟨_, z, hx, hz, ?_, by omega⟩
          show Value.int (Int32.ofNat 0 * z) = .int (Int32.ofNat 0)
          rw [fx_z0, Int32.zero_mul]
        | false =>
          rw [h2, fx_if_f] at h
          cases h3 : (Nat.beq o 3 || Nat.beq o 4) with
          | true => rw [h3, fx_if_t] at h; cases h
          | false =>
            rw [h3, fx_if_f] at h
            cases h
            refine ⟨_, z, hx, hz, ⟨_, rfl⟩, fun q => ?_⟩
            rcases q with q | q <;> subst q <;> cases h3
    · cases h
    · cases h
  · rcases y with n2 | i2 | r2 | n2
    · have h : fx_if (Nat.beq o 0 && Nat.beq n2 0) (some (fv i)) (fx_if (Nat.beq o 2 && Nat.beq n2 0) (some (fc 0)) (fx_if (Nat.beq o 5 && (Nat.beq n2 63 && Nat.beq i 1)) (some (fv 7)) (fx_if ((Nat.beq o 3 || Nat.beq o 4) && (Nat.beq (n2 % 4294967296) 0)) none (some (fv 0))))) = some w := h
      obtain ⟨z, hz⟩ := fx_rv_var hx
      cases h1 : (Nat.beq o 0 && Nat.beq n2 0) with
      | true =>
        rw [h1, fx_if_t] at h
        cases h
        obtain ⟨e1, e2⟩ := fx_and h1
        have e1 := fx_beq e1
        have e2 := fx_beq e2
        subst e1; subst e2
        refine ⟨z, _, hz, hy, ?_, by omega⟩
        show fx_rv X (fv i) (.int (z + Int32.ofNat 0))
        rw [fx_z0, Int32.add_zero, ← hz]
        exact hx
      | false =>
        rw [h1, fx_if_f] at h
        cases h2 : (Nat.beq o 2 && Nat.beq n2 0) with
        | true =>
          rw [h2, fx_if_t] at h
          cases h
          obtain ⟨e1, e2⟩ := fx_and h2
          have e1 := fx_beq e1
          have e2 := fx_beq e2
          subst e1; subst e2
          refine ⟨z, _, hz, hy, ?_, by omega⟩
          show Value.int (z * Int32.ofNat 0) = .int (Int32.ofNat 0)
          rw [fx_z0, Int32.mul_zero]
        | false =>
          rw [h2, fx_if_f] at h
          cases h3 : (Nat.beq o 5 && (Nat.beq n2 63 && Nat.beq i 1)) with
          | true =>
            rw [h3, fx_if_t] at h
            cases h
            obtain ⟨e1, e2⟩ := fx_and h3
            obtain ⟨e2, e3⟩ := fx_and e2
            have e1 := fx_beq e1
            have e2 := fx_beq e2
            have e3 := fx_beq e3
            subst e1; subst e2; subst e3
            have hx : u = .int (X.1 1) := hx
            refine ⟨X.1 1, _, hx, hy, ?_, by omega⟩
            show Value.int (X.1 1 &&& Int32.ofNat 63) = .int (X.1 7)
            rw [h7]
            rfl
          | false =>
            rw [h3, fx_if_f] at h
            cases h4 : ((Nat.beq o 3 || Nat.beq o 4) && (Nat.beq (n2 % 4294967296) 0)) with
            | true => rw [h4, fx_if_t] at h; cases h
            | false =>
              rw [h4, fx_if_f] at h
              cases h
              refine ⟨z, _, hz, hy, ⟨_, rfl⟩, fun q hq => ?_⟩
              have e : Nat.beq (n2 % 4294967296) 0 = false := by
                rcases q with q | q <;> subst q <;> simpa using h4
              have e2 := fx_bnq e
              rw [← fx_o_mod] at hq
              have hb : n2 % 4294967296 < 4294967296 := Nat.mod_lt _ (by decide)
              have h9 := congrArg fx_z hq
              rw [show (0 : Int32) = Int32.ofNat 0 from rfl, fx_z_of, fx_z_of] at h9
              have h9 : (n2 % 4294967296 + 2147483648) % 4294967296 = 2147483648 := h9
              omega
    · have h : fx_if (Nat.beq o 3 || Nat.beq o 4) none (some (fv 0)) = some w := h
      obtain ⟨z, hz⟩ := fx_rv_var hx
      obtain ⟨z2, hz2⟩ := fx_rv_var hy
      cases h3 : (Nat.beq o 3 || Nat.beq o 4) with
      | true => rw [h3, fx_if_t] at h; cases h
      | false =>
        rw [h3, fx_if_f] at h
        cases h
        refine ⟨z, z2, hz, hz2, ⟨_, rfl⟩, fun q => ?_⟩
        rcases q with q | q <;> subst q <;> cases h3
    · cases h
    · cases h
  · rcases y with n2 | i2 | r2 | n2 <;> cases h
  · rcases y with n2 | i2 | r2 | n2 <;> cases h
/-- arrays -/
theorem fx_aget_def (ty : Nat) (u : List (Nat × fx_V)) (n : Nat) : fx_aget ty u n = (match fx_look u n with
  | some v => v
  | none => fx_dft ty) := rfl
theorem fx_veq_ok {X : fx_X} {x y : fx_V} (h : fx_veq x y = true) : x = y := by
  rcases x with a | a | a | a <;> rcases y with b | b | b | b
  · have := fx_beq (show Nat.beq a b = true from h); rw [this]
  · cases h
  · cases h
  · cases h
  · cases a <;> cases h
  · cases a with
    | zero => cases h
    | succ a =>
      cases b with
      | zero => cases h
      | succ b => have := fx_beq (show Nat.beq a b = true from h); rw [this]
  · cases a <;> cases h
  · cases a <;> cases h
  · cases a <;> cases h
  · cases a <;> cases h
  · cases a with
    | none =>
      cases b with
      | none => rfl
      | some b => cases h
    | some a =>
      cases b with
      | none => cases h
      | some b => have := fx_beq (show Nat.beq a b = true from h); rw [this]
  · cases a <;> cases h
  · cases h
  · cases h
  · cases h
  · have := fx_beq (show Nat.beq a b = true from h); rw [this]
theorem fx_aset_ok {ty : Nat} {u : List (Nat × fx_V)} {n : Nat} {v : fx_V} {k : List (Nat × fx_V) → Bool} (e : fx_aset ty u n v k = true) : ∃ u', k u' = true ∧ fx_aget ty u' n = v ∧ ∀ i, i ≠ n → fx_aget ty u' i = fx_aget ty u i := by
  unfold fx_aset at e
  cases h1 : fx_veq v (fx_aget ty u n) with
  | true =>
    rw [h1, fx_if_t] at e
    exact ⟨u, e, (fx_veq_ok (X := (fun _ => 0, 0, fun _ => .null)) h1).symm, fun _ _ => rfl⟩
  | false =>
    rw [h1, fx_if_f, fx_without_eq] at e
    cases h2 : fx_veq v (fx_dft ty) with
    | true =>
      rw [h2, fx_if_t] at e
      refine ⟨_, e, ?_, fun i hi => ?_⟩
      · rw [fx_aget_def, fx_look_gone]
        exact (fx_veq_ok (X := (fun _ => 0, 0, fun _ => .null)) h2).symm
      · rw [fx_aget_def, fx_aget_def, fx_look_out i n hi]
    | false =>
      rw [h2, fx_if_f] at e
      refine ⟨_, e, ?_, fun i hi => ?_⟩
      · rw [fx_aget_def, fx_look_hit]
      · rw [fx_aget_def, fx_aget_def, fx_look_miss _ _ (Ne.symm hi), fx_look_out i n hi]
theorem fx_copy_ok {s d : List (Nat × fx_V)} {sp dp : Nat} : ∀ {n : Nat} {k : List (Nat × fx_V) → Bool}, fx_copy s d sp dp n k = true → ∃ u, k u = true ∧ ∀ i, fx_aget 0 u i = if dp ≤ i ∧ i < dp + n then fx_aget 0 s (sp + (i - dp)) else fx_aget 0 d i := by
  intro n
  induction n with
  | zero =>
    intro k e
    exact ⟨d, e, fun i => by rw [if_neg (by omega)]⟩
  | succ n ih =>
    intro k e
    obtain ⟨u, e1, h1⟩ := ih (k := fun u => fx_aset 0 u (dp + n) (fx_aget 0 s (sp + n)) k) e
    obtain ⟨u', e2, h2, h3⟩ := fx_aset_ok e1
    refine ⟨u', e2, fun i => ?_⟩
    by_cases hi : i = dp + n
    · subst hi
      rw [h2, if_pos (by omega), show dp + n - dp = n by omega]
    · rw [h3 i hi, h1 i]
      by_cases hc : dp ≤ i ∧ i < dp + n
      · rw [if_pos hc, if_pos (by omega)]
      · rw [if_neg hc, if_neg (by omega)]
end
section
/-- the words that stay -/
def fx_tb : List Cond := lw_tbl.filter goodWord
theorem fx_tbi {w : Cond} (h1 : w ∈ lw_tbl) (h2 : goodWord w = true) : w ∈ fx_tb := List.mem_filter.mpr ⟨h1, h2⟩
abbrev fx_cl : List vw_C := [(RX0, TX0, 3), (RX1, TX1, 4), (RX2, TX2, 7), (RX3, TX3, 18), (RX4, TX4, 4), (RX5, TX5, 3), (RX6, TX6, 5), (RX7, TX7, 8), (RX8, TX8, 11), (RX9, TX9, 16), (RX10, TX10, 73)]
def fx_ty (t : Nat) : FieldType := match t with
  | 0 => .int
  | 1 => .byte
  | 2 => .boolean
  | _ => .long
def fx_i0 (a b : Nat) : Instr × Nat := match b with
  | 0 => (.iload_n (Fin.ofNat 4 a), 1)
  | 1 => (.iload a, 2)
  | 2 => (.aload_n (Fin.ofNat 4 a), 1)
  | 3 => (.aload a, 2)
  | 4 => (.lload_n (Fin.ofNat 4 a), 1)
  | _ => (.lload a, 2)
def fx_i11 (a b : Nat) : Instr × Nat := match b with
  | 0 => (.istore_n (Fin.ofNat 4 a), 1)
  | 1 => (.istore a, 2)
  | 2 => (.astore_n (Fin.ofNat 4 a), 1)
  | 3 => (.astore a, 2)
  | 4 => (.lstore_n (Fin.ofNat 4 a), 1)
  | _ => (.lstore a, 2)
def fx_i2 (a b c : Nat) : Instr × Nat := match a with
  | 0 => (.iconst (Int32.ofNat c).toInt, 1)
  | 1 => (.bipush (Int32.ofNat c).toInt, 2)
  | 2 => (.sipush (Int32.ofNat c).toInt, 3)
  | 3 => (.ldc b, 2)
  | 4 => (.ldc_w b, 3)
  | 5 => (.lconst (Fin.ofNat 2 c), 1)
  | 6 => (.ldc2_w b, 3)
  | _ => (.aconst_null, 1)
def fx_cc (a : Nat) : Jvm.ClassFile.Cond := match a with
  | 0 => .eq
  | 1 => .ne
  | 2 => .lt
  | 3 => .ge
  | 4 => .gt
  | _ => .le
def fx_bop (o : Nat) : Instr := match o with
  | 0 => .iadd
  | 1 => .isub
  | 2 => .imul
  | 3 => .idiv
  | 4 => .irem
  | 5 => .iand
  | 6 => .ior
  | 7 => .ixor
  | 8 => .ishl
  | 9 => .ishr
  | _ => .iushr
def fx_uop (o : Nat) : Instr := match o with
  | 0 => .ineg
  | 1 => .i2b
  | 2 => .i2c
  | _ => .i2l
def fx_lop (o : Nat) : Instr := match o with
  | 0 => .ladd
  | 1 => .lsub
  | _ => .lmul
def fx_sop (o : Nat) : Instr := match o with
  | 0 => .dup
  | 1 => .pop
  | 2 => .dup2
  | 3 => .dup_x1
  | _ => .dup_x2
def fx_aop (o : Nat) : Instr := match o with
  | 0 => .iaload
  | 1 => .baload
  | _ => .laload
def fx_asp (o : Nat) : Instr := match o with
  | 0 => .iastore
  | 1 => .bastore
  | _ => .lastore
def fx_at (o : Nat) : ArrayType := match o with
  | 0 => .int
  | 1 => .byte
  | 2 => .boolean
  | _ => .long
def fx_rop (o : Nat) : Instr := match o with
  | 0 => .ireturn
  | 1 => .return_
  | _ => .lreturn
def fx_cop (a b : Nat) : Instr := match a with
  | 0 => .invokevirtual b
  | 1 => .invokespecial b
  | 2 => .invokestatic b
  | 3 => .invokespecial b
  | _ => .invokestatic b
noncomputable def fx_tl (c : Nat) : List Nat := fx_swt c
noncomputable def fx_ins (pc kd a b c : Nat) : Instr × Nat := match kd with
  | 0 => fx_i0 a b
  | 1 => (.getfield a, 3)
  | 2 => fx_i2 a b c
  | 3 => (.if_icmp (fx_cc a) ((b : Int) - (pc : Int)), 3)
  | 4 => (.ifCond (fx_cc a) ((b : Int) - (pc : Int)), 3)
  | 5 => (.goto ((b : Int) - (pc : Int)), 3)
  | 6 => (fx_aop a, 1)
  | 7 => (.iinc a (Int32.ofNat b).toInt, 3)
  | 8 => (fx_asp a, 1)
  | 9 => (fx_cop a b, 3)
  | 10 => (fx_rop a, 1)
  | 11 => fx_i11 a b
  | 12 => (fx_bop a, 1)
  | 13 => (fx_uop a, 1)
  | 14 => (.putfield a, 3)
  | 15 => (fx_sop a, 1)
  | 16 => (.new a, 3)
  | 17 => (.newarray (fx_at a), 2)
  | 18 => (.arraylength, 1)
  | 19 => (match a with
    | 0 => .ifnull ((b : Int) - (pc : Int))
    | _ => .ifnonnull ((b : Int) - (pc : Int)), 3)
  | 20 => (.tableswitch ((a : Int) - (pc : Int)) b ((b : Int) + (fx_swt c).length - 1) ((fx_swt c).map (fun (t : Nat) => (t : Int) - (pc : Int))).toArray, 13 + (3 - pc % 4) + 4 * (fx_swt c).length)
  | 21 => (.lookupswitch ((a : Int) - (pc : Int)) ((fx_swt c).mapIdx (fun i (t : Nat) => ((b : Int) + i, (t : Int) - (pc : Int)))).toArray, 9 + (3 - pc % 4) + 8 * (fx_swt c).length)
  | 22 => (.invokespecial a, 3)
  | 23 => (.invokestatic a, 3)
  | 24 => (fx_lop a, 1)
  | 25 => (.getfield a, 3)
  | 26 => (.getstatic a, 3)
  | 29 => (.invokestatic a, 3)
  | _ => (.ldc a, 2)
/-- the methods by number: name, bytes, slots, type -/
abbrev fx_S : Type := MethodName × (ByteArray × (Nat × Option FieldType))
abbrev fx_nst : List (String × (Nat × (MethodName × String))) := [("FaceSenate", 9, yX4_init, "FaceSenate"), ("FaceSenate$Plan", 36, yX1_init, "FaceSenate"), ("FaceSenate", 25, yX6_init, "FaceSenate"), ("FaceSenate", 32, yX8_init, "FaceSenate"), ("FaceSenate$Trial", 11, yX6_init, "FaceSenate"), ("FaceSenate", 39, yX0_init, "FaceSenate"), ("FaceSenate", 55, yX2_init, "FaceSenate"), ("FaceSenate$Trial", 132, yX9_within, "FaceSenate")]
abbrev fx_lit : String := "hall by district mood member for at look light tooth of draw or and not face near beside bright stoic news step row column "
/-- a field by its number, as an instruction of own names it -/
def fx_fo (own : String) (a ci k : Nat) : Prop := ∃ (C : String) (T : u_T) (N : Nat), fx_cl[ci]? = some (C, T, N) ∧ k < N ∧ Cond.fieldLink own a (T k).1 (T k).2.1 (T k).2.2.1 ∈ fx_tb
def fx_tag (t : Nat) (ty : FieldType) : Prop := (t = 0 ∧ ty = .int) ∨ (t = 2 ∧ ty = .boolean) ∨ (t = 3 ∧ ty = .long) ∨ (t = 4 ∧ ((∃ n, ty = .object n) ∨ ∃ n, ty = .array n))
def fx_pf (own : String) (ini : Bool) (ci k t : Nat) : Prop := ∃ (C : String) (T : u_T) (N : Nat) (ty : FieldType), fx_cl[ci]? = some (C, T, N) ∧ k < N ∧ parseFieldDescriptor (T k).2.2.1 = some ty ∧ fx_tag t ty ∧ ((T k).2.2.2 = true → ini = true ∧ (T k).1 = own)
def fx_kw (own : String) (a b c : Nat) : Prop := (a = 1 → (Int8.ofInt (Int32.ofNat c).toInt).toInt32 = Int32.ofNat c) ∧ (a = 2 → (Int16.ofInt (Int32.ofNat c).toInt).toInt32 = Int32.ofNat c) ∧ (a = 3 ∨ a = 4 → Cond.constant own b (Int32.ofNat c) ∈ fx_tb) ∧ (a = 5 → c < 2) ∧ (a = 6 → Cond.constantLong own b (Int64.ofNat c) ∈ fx_tb)
/-- a call of the method number c -/
def fx_ca (ms : Nat → Option fx_S) (mt : Nat → Option fx_M) (own : String) (a b c : Nat) : Prop := ∃ (y : MethodName) (cc : ByteArray) (nL : Nat) (rt : Option FieldType) (M : fx_M), ms c = some (y, cc, nL, rt) ∧ mt c = some M ∧
  (a = 0 → Cond.methodLink own b y ∈ fx_tb ∧ Cond.instanceMethod y ∈ fx_tb ∧ Cond.selects y.cls y y ∈ fx_tb ∧ ((∃ ci T N, M.2.2.2.2.1 = ci + 2 ∧ M.2.2.2.2.1 ≠ 99 ∧ fx_cl[ci]? = some (y.cls, T, N)) ∨ (M.2.2.2.2.1 = 99 ∧ y.cls = "java/lang/String"))) ∧
  (a = 1 → Cond.methodLink own b y ∈ fx_tb ∧ Cond.instanceMethod y ∈ fx_tb ∧ y.name = "<init>" ∧ rt = none ∧ M.2.2.2.2.1 = 1) ∧
  (a = 2 → Cond.methodLink own b y ∈ fx_tb ∧ Cond.static y ∈ fx_tb ∧ M.2.2.2.2.1 = 0) ∧
  (a = 3 → (own, b, y, "FaceSenate") ∈ fx_nst ∧ Cond.instanceMethod y ∈ fx_tb ∧ y.name = "<init>" ∧ rt = none ∧ M.2.2.2.2.1 = 1) ∧
  (a = 4 → (own, b, y, "FaceSenate") ∈ fx_nst ∧ Cond.static y ∈ fx_tb ∧ M.2.2.2.2.1 = 0)
def fx_rk (b : Nat) (rt : Option FieldType) : Prop := (b = 0 ∧ rt = none) ∨ (b = 1 ∧ rt = some .int) ∨ (b = 2 ∧ rt = some .boolean) ∨ (b = 3 ∧ rt = some .long) ∨ (b = 4 ∧ rt = some .char) ∨ (b = 5 ∧ rt = some .byte)
def fx_an (ms : Nat → Option fx_S) (mt : Nat → Option fx_M) (own : String) (ini : Bool) (rt : Option FieldType) (nL kd a b c : Nat) : Prop :=
  (kd = 0 ∨ kd = 11 → b = 0 ∨ b = 2 ∨ b = 4 → a < 4) ∧ (kd = 1 → fx_fo own a b c) ∧ (kd = 2 → fx_kw own a b c) ∧ (kd = 9 → fx_ca ms mt own a b c) ∧
  (kd = 10 → fx_rk b rt ∧ (a = 0 ∨ (a = 1 ∧ b = 0) ∨ (a = 2 ∧ b = 3))) ∧ (kd = 12 → a < 11) ∧ (kd = 13 → a < 4) ∧ (kd = 14 → fx_fo own a b (c / 8) ∧ fx_pf own ini b (c / 8) (c % 8)) ∧
  (kd = 16 → ∃ C T N, fx_cl[b]? = some (C, T, N) ∧ Cond.classLink own a C ∈ fx_tb) ∧ (kd = 20 ∨ kd = 21 → b < 2147483648 ∧ b + (fx_swt c).length < 2147483648 ∧ 0 < (fx_swt c).length) ∧
  (kd = 22 → Cond.methodLink own a Lib.objectInit ∈ fx_tb) ∧ (kd = 23 → Cond.methodLink own a arraycopyName ∈ fx_tb) ∧ (kd = 24 → a < 3) ∧
  (kd = 25 → (b = 0 → Cond.fieldLink own a "java/lang/String" "value" "[B" ∈ fx_tb) ∧ (b = 1 → Cond.fieldLink own a "java/lang/String" "coder" "B" ∈ fx_tb)) ∧
  (kd = 26 → (b = 0 → Cond.fieldLink own a "java/lang/String" "COMPACT_STRINGS" "Z" ∈ fx_tb) ∧ (b = 1 → Cond.fieldLink own a "jdk/internal/util/Preconditions" "SIOOBE_FORMATTER" "Ljava/util/function/BiFunction;" ∈ fx_tb)) ∧
  (kd = 27 → own = "FaceSenate$Tape" ∧ a = 39) ∧ (kd = 11 → a + 1 < nL ∨ (a < nL ∧ b < 4)) ∧ (kd = 21 → (fx_swt c).length = 2) ∧ (kd = 29 → (b = 0 → Cond.methodLink own a Lib.Math.max.name ∈ fx_tb) ∧ (b = 1 → Cond.methodLink own a Lib.Math.min.name ∈ fx_tb))
abbrev fx_Y : Type := va_G × ((Nat → ClassId) × (Heap × Heap))
def fx_rc (X : fx_X) (Y : fx_Y) (c : fx_C) (a : Nat) (H : Heap) : Prop := match c with
  | .inl _ => H[a]? = Y.2.2.2[a]?
  | .inr (.inl (ci, fs)) => ∃ (q : vw_C) (vs : List Value), fx_cl[ci]? = some q ∧ vs.length = q.2.2 ∧ fx_rl X fs vs ∧ t_OB a (Y.1.1 ci) q.2.2 (Y.1.2 ci) H (vp_V vs)
  | .inr (.inr (ty, n, u)) => ∃ f : Nat → Value, H[a]? = some (arrV (Y.2.1 ty) n f) ∧ n < 2147483648 ∧ ty < 4 ∧ ∀ i, fx_rv X (fx_aget ty u i) (f i)
def fx_rh (X : fx_X) (Y : fx_Y) (h : fx_H) (H : Heap) : Prop := H.size = X.2.1 + h.1 ∧ (∀ (k : Nat) (c : fx_C), fx_hget h k = some c → k < h.1 ∧ k < 1000000 ∧ fx_rc X Y c (X.2.1 + k) H) ∧ ∀ q : Nat, q < X.2.1 → H[q]? = Y.2.2.1[q]?
/-- what lies outside: the script, a text and its bytes, a static that is passed on -/
abbrev fx_B : Type := Nat × (Nat × ((Nat → Int32) × (Nat × Nat)))
def fx_cx (X : fx_X) (Y : fx_Y) (B : fx_B) (U : State) : Prop :=
  (∀ (ci : Nat) (q : vw_C), fx_cl[ci]? = some q → u_Kn U q.1 q.2.1 q.2.2 (Y.1.1 ci) (Y.1.2 ci)) ∧
  (∀ t, t < 4 → ArrOfT U (Y.2.1 t) (fx_ty t) ∧ U.vm.findClass ("[" ++ (fx_ty t).toString) = some (Y.2.1 t)) ∧
  (∀ q ∈ fx_nst, va_Nw (.methodLinkNest q.1 q.2.1 q.2.2.1 q.2.2.2) U) ∧
  vk_R "FaceSenate$Tape" 39 fx_lit B.2.2.2.1 U ∧
  va_Z "java/lang/String" "COMPACT_STRINGS" "Z" (.int 1) (fun q => X.2.1 ≤ q) U Y.2.2.1 ∧
  va_Z "jdk/internal/util/Preconditions" "SIOOBE_FORMATTER" "Ljava/util/function/BiFunction;" (fx_ad X 1000003) (fun q => X.2.1 ≤ q) U Y.2.2.1 ∧
  va_O "java/lang/String" B.2.2.2.1 (fun q => X.2.1 ≤ q) U Y.2.2.1 ∧
  va_OF "java/lang/String" "value" "[B" (.ref B.2.2.2.2) B.2.2.2.1 (fun q => X.2.1 ≤ q) U Y.2.2.1 ∧
  va_OF "java/lang/String" "coder" "B" (.int 0) B.2.2.2.1 (fun q => X.2.1 ≤ q) U Y.2.2.1 ∧
  va_T .byte B.2.2.2.2 123 (fun j => .int (Int32.ofNat (fx_txt.getD j 0))) (fun q => X.2.1 ≤ q) U Y.2.2.1 ∧
  va_X B.1 B.2.1 B.2.2.1 U Y.2.2.1
/-- what holds of the numbers for good -/
def fx_xx (X : fx_X) (B : fx_B) : Prop := fx_xo X ∧ X.1 7 = X.1 1 &&& 63 ∧ (∀ n, n < 6 → X.1 (n + 1) = B.2.2.1 n) ∧ X.1 8 = Int32.ofNat B.2.1 ∧ B.2.1 ≤ 6 ∧ fx_ad X 1000000 = .ref B.1 ∧ fx_ad X 1000001 = .ref B.2.2.2.1 ∧ fx_ad X 1000002 = .ref B.2.2.2.2 ∧ B.1 < X.2.1
theorem fx_cx.moved {X : fx_X} {Y : fx_Y} {B : fx_B} {u U : State} (hW : u.WarmedH U.vm) (h : fx_cx X Y B u) : fx_cx X Y B U := by
  have hvm : u.vm.Alike U.vm := hW.alike
  obtain ⟨h1, h2, h3, h4, h5, h6, h7, h8, h9, h10, h11⟩ := h
  exact ⟨fun ci q hq => u_Kn_moved hvm (h1 ci q hq), fun t ht => ⟨arrOfT_moved hvm (h2 t ht).1, by rw [hvm.findClass]; exact (h2 t ht).2⟩, fun q hq => va_Nw.warmM hW (h3 q hq), vk_R.warm hW h4, va_Z.moved hvm h5, va_Z.moved hvm h6, va_O.moved hvm h7, va_OF.moved hvm h8, va_OF.moved hvm h9, va_T.moved hvm h10, va_X.moved hvm h11⟩
def fx_rets (rt : Option FieldType) (cc : ByteArray) (pc : Nat) (w : Option Value) : Prop := (w = none ∧ rt = none ∧ decode cc pc = .ok (.return_, 1)) ∨ (∃ (z : Int32) (ty : FieldType), w = some (.int z) ∧ rt = some ty ∧ narrow ty (.int z) = .int z ∧ decode cc pc = .ok (.ireturn, 1)) ∨ (∃ z : Int64, w = some (.long z) ∧ rt = some .long ∧ decode cc pc = .ok (.lreturn, 1))
def fx_ro (X : fx_X) (v : Option fx_V) (w : Option Value) : Prop := match v, w with
  | none, none => True
  | some v, some w => fx_rv X v w
  | _, _ => False
def fx_fs (X : fx_X) (Y : fx_Y) (B : fx_B) (ms : Nat → Option fx_S) (mt : Nat → Option fx_M) (p : Program) (s : State) (m : MethodId) (args : Array Value) (meth : Method) (c : Code) (cc : ByteArray) (nL : Nat) (own : String) (ini : Bool) (rt : Option FieldType) (cod : List fx_I) : Prop :=
  p.tables.exec = Jvm.exec ∧ c.code = cc ∧ c.maxLocals = nL ∧ s.vm.findClass own = some m.cls ∧ (∀ w ∈ fx_tb, w.before args s = true) ∧ meth.locks = false ∧ (ini = true → meth.name = "<init>") ∧ meth.sig.returnType = rt ∧ fx_cx X Y B s ∧ X.2.1 ≤ s.heap.size ∧
  ∀ pc kd a b d, (pc, kd, a, b, d) ∈ cod → kd ≠ 28 → decode cc pc = .ok (fx_ins pc kd a b d) ∧ fx_an ms mt own ini rt nL kd a b d
def fx_pc (l : List fx_I) : Nat := match l with
  | [] => 0
  | q :: _ => q.1
/-- frames, room, what is held -/
def fx_rm (R : Room) (d mc ms : Nat) : Prop := d ≤ R.frames ∧ 60 * d ≤ R.locals ∧ mc ≤ R.cells ∧ ms ≤ R.slots
def fx_ls (X : fx_X) (locs : List Loc) : Prop := ∀ q ∈ locs, X.2.1 ≤ q.base
def fx_st (X : fx_X) (Y : fx_Y) (nL : Nat) (loc : fx_L) (stk : List fx_V) (h : fx_H) (j : fx_J) (H : Heap) (locs : List Loc) (ls : Array Slot) (st : List Value) : Prop := (∃ lv, lv_has ls nL lv ∧ fx_rn X loc lv) ∧ fx_rl X stk st ∧ fx_rh X Y h H ∧ fx_rj X j ∧ fx_ls X locs
end
section
noncomputable def fx_cd (c : Nat) : Option (List fx_V) := fx_nth fx_cdl c
def fx_dv (v : fx_V) : Value := match v with
  | .inl _ => .int 0
  | .inr (.inr (.inr _)) => .long 0
  | _ => .null
def fx_isd (v : fx_V) : Bool := match v with
  | .inl n => Nat.beq n 0
  | .inr (.inr (.inr n)) => Nat.beq n 0
  | .inr (.inr (.inl none)) => true
  | _ => false
theorem fx_isd_ok {X : fx_X} : ∀ {fs : List fx_V}, fs.all fx_isd = true → fx_rl X fs (fs.map fx_dv) := by
  intro fs
  induction fs with
  | nil => intro _; trivial
  | cons v fs ih =>
    intro hh
    rw [List.all_cons] at hh
    obtain ⟨h1, h2⟩ := fx_and hh
    refine ⟨?_, ih h2⟩
    rcases v with n | i | r | n
    · have := fx_beq h1
      subst this
      rfl
    · cases h1
    · cases r with
      | none => rfl
      | some k => cases h1
    · have := fx_beq h1
      subst this
      rfl
def fx_kf (C : String) (T : u_T) (N : Nat) (fs : List fx_V) : Prop := (∀ w ∈ u_ws C T N, w ∈ fx_tb) ∧ (∃ ty : Nat → FieldType, (∀ k, k < N → parseFieldDescriptor (T k).2.2.1 = some (ty k)) ∧ ∀ j, j < N → defaultValue (ty j) = vp_V (fs.map fx_dv) j) ∧ (∀ a, a < N → ∀ b, b < N → a ≠ b → (T a).2.1 ≠ (T b).2.1) ∧ Cond.instantiable C N ∈ fx_tb ∧ Cond.initialized C ∈ fx_tb ∧ fs.length = N ∧ fs.all fx_isd = true
theorem fk_in0 : ∀ w ∈ u_ws RX0 TX0 3, w ∈ lw_tbl := by decide +kernel
theorem fk_ii0 : Cond.instantiable RX0 3 ∈ lw_tbl ∧ Cond.initialized RX0 ∈ lw_tbl := by decide +kernel
abbrev fk_d0 : List fx_V := [fz, fc 0, fc 0]
theorem fk_v0 : ∀ j, j < 3 → defaultValue (tyX0 j) = vp_V (fk_d0.map fx_dv) j := by decide +kernel
theorem fk_g0 : ∀ w ∈ u_ws RX0 TX0 3, goodWord w = true := by decide +kernel
theorem fk_0 : fx_kf RX0 TX0 3 fk_d0 := ⟨fun w hw => fx_tbi (fk_in0 w hw) (fk_g0 w hw), ⟨tyX0, tyX0_ok, fk_v0⟩, nmX0, fx_tbi fk_ii0.1 rfl, fx_tbi fk_ii0.2 rfl, rfl, by decide +kernel⟩
theorem fk_in1 : ∀ w ∈ u_ws RX1 TX1 4, w ∈ lw_tbl := by decide +kernel
theorem fk_ii1 : Cond.instantiable RX1 4 ∈ lw_tbl ∧ Cond.initialized RX1 ∈ lw_tbl := by decide +kernel
abbrev fk_d1 : List fx_V := [fz, fz, fc 0, fc 0]
theorem fk_v1 : ∀ j, j < 4 → defaultValue (tyX1 j) = vp_V (fk_d1.map fx_dv) j := by decide +kernel
theorem fk_g1 : ∀ w ∈ u_ws RX1 TX1 4, goodWord w = true := by decide +kernel
theorem fk_1 : fx_kf RX1 TX1 4 fk_d1 := ⟨fun w hw => fx_tbi (fk_in1 w hw) (fk_g1 w hw), ⟨tyX1, tyX1_ok, fk_v1⟩, nmX1, fx_tbi fk_ii1.1 rfl, fx_tbi fk_ii1.2 rfl, rfl, by decide +kernel⟩
theorem fk_in2 : ∀ w ∈ u_ws RX2 TX2 7, w ∈ lw_tbl := by decide +kernel
theorem fk_ii2 : Cond.instantiable RX2 7 ∈ lw_tbl ∧ Cond.initialized RX2 ∈ lw_tbl := by decide +kernel
abbrev fk_d2 : List fx_V := [fz, fz, fz, fz, fz, fz, fc 0]
theorem fk_v2 : ∀ j, j < 7 → defaultValue (tyX2 j) = vp_V (fk_d2.map fx_dv) j := by decide +kernel
theorem fk_g2 : ∀ w ∈ u_ws RX2 TX2 7, goodWord w = true := by decide +kernel
theorem fk_2 : fx_kf RX2 TX2 7 fk_d2 := ⟨fun w hw => fx_tbi (fk_in2 w hw) (fk_g2 w hw), ⟨tyX2, tyX2_ok, fk_v2⟩, nmX2, fx_tbi fk_ii2.1 rfl, fx_tbi fk_ii2.2 rfl, rfl, by decide +kernel⟩
theorem fk_in3 : ∀ w ∈ u_ws RX3 TX3 18, w ∈ lw_tbl := by decide +kernel
theorem fk_ii3 : Cond.instantiable RX3 18 ∈ lw_tbl ∧ Cond.initialized RX3 ∈ lw_tbl := by decide +kernel
abbrev fk_d3 : List fx_V := [fz, fz, fz, fz, fz, fz, fz, fz, fz, fc 0, fc 0, fc 0, fc 0, fc 0, fc 0, fc 0, fc 0, fc 0]
theorem fk_v3 : ∀ j, j < 18 → defaultValue (tyX3 j) = vp_V (fk_d3.map fx_dv) j := by decide +kernel
theorem fk_g3 : ∀ w ∈ u_ws RX3 TX3 18, goodWord w = true := by decide +kernel
theorem fk_3 : fx_kf RX3 TX3 18 fk_d3 := ⟨fun w hw => fx_tbi (fk_in3 w hw) (fk_g3 w hw), ⟨tyX3, tyX3_ok, fk_v3⟩, nmX3, fx_tbi fk_ii3.1 rfl, fx_tbi fk_ii3.2 rfl, rfl, by decide +kernel⟩
theorem fk_in4 : ∀ w ∈ u_ws RX4 TX4 4, w ∈ lw_tbl := by decide +kernel
theorem fk_ii4 : Cond.instantiable RX4 4 ∈ lw_tbl ∧ Cond.initialized RX4 ∈ lw_tbl := by decide +kernel
abbrev fk_d4 : List fx_V := [fz, fz, fc 0, fc 0]
theorem fk_v4 : ∀ j, j < 4 → defaultValue (tyX4 j) = vp_V (fk_d4.map fx_dv) j := by decide +kernel
theorem fk_g4 : ∀ w ∈ u_ws RX4 TX4 4, goodWord w = true := by decide +kernel
theorem fk_4 : fx_kf RX4 TX4 4 fk_d4 := ⟨fun w hw => fx_tbi (fk_in4 w hw) (fk_g4 w hw), ⟨tyX4, tyX4_ok, fk_v4⟩, nmX4, fx_tbi fk_ii4.1 rfl, fx_tbi fk_ii4.2 rfl, rfl, by decide +kernel⟩
theorem fk_in5 : ∀ w ∈ u_ws RX5 TX5 3, w ∈ lw_tbl := by decide +kernel
theorem fk_ii5 : Cond.instantiable RX5 3 ∈ lw_tbl ∧ Cond.initialized RX5 ∈ lw_tbl := by decide +kernel
abbrev fk_d5 : List fx_V := [fc 0, fz, fz]
theorem fk_v5 : ∀ j, j < 3 → defaultValue (tyX5 j) = vp_V (fk_d5.map fx_dv) j := by decide +kernel
theorem fk_g5 : ∀ w ∈ u_ws RX5 TX5 3, goodWord w = true := by decide +kernel
theorem fk_5 : fx_kf RX5 TX5 3 fk_d5 := ⟨fun w hw => fx_tbi (fk_in5 w hw) (fk_g5 w hw), ⟨tyX5, tyX5_ok, fk_v5⟩, nmX5, fx_tbi fk_ii5.1 rfl, fx_tbi fk_ii5.2 rfl, rfl, by decide +kernel⟩
theorem fk_in6 : ∀ w ∈ u_ws RX6 TX6 5, w ∈ lw_tbl := by decide +kernel
theorem fk_ii6 : Cond.instantiable RX6 5 ∈ lw_tbl ∧ Cond.initialized RX6 ∈ lw_tbl := by decide +kernel
abbrev fk_d6 : List fx_V := [fz, fz, fc 0, fc 0, fc 0]
theorem fk_v6 : ∀ j, j < 5 → defaultValue (tyX6 j) = vp_V (fk_d6.map fx_dv) j := by decide +kernel
theorem fk_g6 : ∀ w ∈ u_ws RX6 TX6 5, goodWord w = true := by decide +kernel
theorem fk_6 : fx_kf RX6 TX6 5 fk_d6 := ⟨fun w hw => fx_tbi (fk_in6 w hw) (fk_g6 w hw), ⟨tyX6, tyX6_ok, fk_v6⟩, nmX6, fx_tbi fk_ii6.1 rfl, fx_tbi fk_ii6.2 rfl, rfl, by decide +kernel⟩
theorem fk_in7 : ∀ w ∈ u_ws RX7 TX7 8, w ∈ lw_tbl := by decide +kernel
theorem fk_ii7 : Cond.instantiable RX7 8 ∈ lw_tbl ∧ Cond.initialized RX7 ∈ lw_tbl := by decide +kernel
abbrev fk_d7 : List fx_V := [fz, fz, fc 0, fc 0, fc 0, fc 0, fc 0, fl 0]
theorem fk_v7 : ∀ j, j < 8 → defaultValue (tyX7 j) = vp_V (fk_d7.map fx_dv) j := by decide +kernel
theorem fk_g7 : ∀ w ∈ u_ws RX7 TX7 8, goodWord w = true := by decide +kernel
theorem fk_7 : fx_kf RX7 TX7 8 fk_d7 := ⟨fun w hw => fx_tbi (fk_in7 w hw) (fk_g7 w hw), ⟨tyX7, tyX7_ok, fk_v7⟩, nmX7, fx_tbi fk_ii7.1 rfl, fx_tbi fk_ii7.2 rfl, rfl, by decide +kernel⟩
theorem fk_in8 : ∀ w ∈ u_ws RX8 TX8 11, w ∈ lw_tbl := by decide +kernel
theorem fk_ii8 : Cond.instantiable RX8 11 ∈ lw_tbl ∧ Cond.initialized RX8 ∈ lw_tbl := by decide +kernel
abbrev fk_d8 : List fx_V := [fz, fz, fz, fz, fz, fz, fz, fz, fz, fz, fz]
theorem fk_v8 : ∀ j, j < 11 → defaultValue (tyX8 j) = vp_V (fk_d8.map fx_dv) j := by decide +kernel
theorem fk_g8 : ∀ w ∈ u_ws RX8 TX8 11, goodWord w = true := by decide +kernel
theorem fk_8 : fx_kf RX8 TX8 11 fk_d8 := ⟨fun w hw => fx_tbi (fk_in8 w hw) (fk_g8 w hw), ⟨tyX8, tyX8_ok, fk_v8⟩, nmX8, fx_tbi fk_ii8.1 rfl, fx_tbi fk_ii8.2 rfl, rfl, by decide +kernel⟩
theorem fk_in9 : ∀ w ∈ u_ws RX9 TX9 16, w ∈ lw_tbl := by decide +kernel
theorem fk_ii9 : Cond.instantiable RX9 16 ∈ lw_tbl ∧ Cond.initialized RX9 ∈ lw_tbl := by decide +kernel
abbrev fk_d9 : List fx_V := [fz, fz, fz, fz, fz, fz, fz, fz, fz, fz, fz, fc 0, fc 0, fc 0, fc 0, fc 0]
theorem fk_v9 : ∀ j, j < 16 → defaultValue (tyX9 j) = vp_V (fk_d9.map fx_dv) j := by decide +kernel
theorem fk_g9 : ∀ w ∈ u_ws RX9 TX9 16, goodWord w = true := by decide +kernel
theorem fk_9 : fx_kf RX9 TX9 16 fk_d9 := ⟨fun w hw => fx_tbi (fk_in9 w hw) (fk_g9 w hw), ⟨tyX9, tyX9_ok, fk_v9⟩, nmX9, fx_tbi fk_ii9.1 rfl, fx_tbi fk_ii9.2 rfl, rfl, by decide +kernel⟩
theorem fk_in10 : ∀ w ∈ u_ws RX10 TX10 73, w ∈ lw_tbl := by decide +kernel
theorem fk_ii10 : Cond.instantiable RX10 73 ∈ lw_tbl ∧ Cond.initialized RX10 ∈ lw_tbl := by decide +kernel
abbrev fk_d10 : List fx_V := [fz, fz, fc 0, fc 0, fc 0, fc 0, fc 0, fc 0, fc 0, fc 0, fl 0, fz, fz, fz, fz, fz, fz, fz, fz, fz, fz, fz, fz, fz, fz, fz, fz, fz, fz, fz, fz, fz, fz, fz, fz, fz, fz, fc 0, fc 0, fc 0, fc 0, fc 0, fc 0, fc 0, fc 0, fc 0, fc 0, fc 0, fc 0, fc 0, fz, fz, fz, fc 0, fc 0, fz, fz, fc 0, fz, fz, fz, fz, fz, fz, fz, fz, fz, fz, fz, fc 0, fc 0, fz, fz]
theorem fk_v10 : ∀ j, j < 73 → defaultValue (tyX10 j) = vp_V (fk_d10.map fx_dv) j := by decide +kernel
theorem fk_g10 : ∀ w ∈ u_ws RX10 TX10 73, goodWord w = true := by decide +kernel
theorem fk_10 : fx_kf RX10 TX10 73 fk_d10 := ⟨fun w hw => fx_tbi (fk_in10 w hw) (fk_g10 w hw), ⟨tyX10, tyX10_ok, fk_v10⟩, nmX10, fx_tbi fk_ii10.1 rfl, fx_tbi fk_ii10.2 rfl, rfl, by decide +kernel⟩
theorem fx_clok {ci : Nat} {C : String} {T : u_T} {N : Nat} (hh : fx_cl[ci]? = some (C, T, N)) : ∃ fs, fx_cdl[ci]? = some fs ∧ fx_kf C T N fs := by
  rcases ci with _ | _ | _ | _ | _ | _ | _ | _ | _ | _ | _ | ci
  · cases hh; exact ⟨fk_d0, rfl, fk_0⟩
  · cases hh; exact ⟨fk_d1, rfl, fk_1⟩
  · cases hh; exact ⟨fk_d2, rfl, fk_2⟩
  · cases hh; exact ⟨fk_d3, rfl, fk_3⟩
  · cases hh; exact ⟨fk_d4, rfl, fk_4⟩
  · cases hh; exact ⟨fk_d5, rfl, fk_5⟩
  · cases hh; exact ⟨fk_d6, rfl, fk_6⟩
  · cases hh; exact ⟨fk_d7, rfl, fk_7⟩
  · cases hh; exact ⟨fk_d8, rfl, fk_8⟩
  · cases hh; exact ⟨fk_d9, rfl, fk_9⟩
  · cases hh; exact ⟨fk_d10, rfl, fk_10⟩
  · rw [List.getElem?_eq_none (by simp)] at hh
    cases hh
end
section
section FXA
variable {l : Launch} {X : fx_X} {Y : fx_Y} {B : fx_B} {mst : Nat → Option fx_S} {mt : Nat → Option fx_M} {p : Program} {e : Env} {R : Room} {s : State} {m : MethodId} {args : Array Value} {below : List Frame} {meth : Method} {c : Code} {Q : State → Prop} {cc : ByteArray} {nL : Nat} {own : String} {ini : Bool} {rt : Option FieldType} {cod : List fx_I} {mc msl : Nat}
variable {go : fx_O} {pc a b d ce sl : Nat} {tl : List fx_I} {loc : fx_L} {stk : List fx_V} {h : fx_H} {j : fx_J} {H : Heap} {locs : List Loc} {ls : Array Slot} {st : List Value}
def fx_gok (l : Launch) (X : fx_X) (Y : fx_Y) (p : Program) (e : Env) (R : Room) (s : State) (m : MethodId) (args : Array Value) (below : List Frame) (meth : Method) (c : Code) (Q : State → Prop) (nL : Nat) (cod : List fx_I) (mc msl : Nat) (go : fx_O) : Prop :=
  (∀ loc stk ce sl h j, go [] loc stk ce sl h j = false) ∧ ∀ at_ loc stk ce sl h j, go at_ loc stk ce sl h j = true → (∀ q ∈ at_, q ∈ cod) → ∀ H locs ls st, fx_st X Y nL loc stk h j H locs ls st → ce ≤ mc → sl ≤ msl → W p l e R s m args below meth c H locs ce sl Q (F0 m (fx_pc at_) ls st)
theorem fx_nxt (hgo : fx_gok l X Y p e R s m args below meth c Q nL cod mc msl go) (htl : ∀ q ∈ tl, q ∈ cod) {len : Nat} (ee : fx_nx (fun t => go t loc stk ce sl h j) pc len tl = true) (hs : fx_st X Y nL loc stk h j H locs ls st) (hce : ce ≤ mc) (hsl : sl ≤ msl) : W p l e R s m args below meth c H locs ce sl Q (F0 m (pc + len) ls st) := by
  obtain ⟨r, t, rfl, h1, h2⟩ := fx_nx_ok ee
  have K := hgo.2 _ _ _ _ _ _ _ h2 htl H locs ls st hs hce hsl
  rw [show fx_pc (r :: t) = pc + len from h1] at K
  exact K
theorem fx_jmp (hgo : fx_gok l X Y p e R s m args below meth c Q nL cod mc msl go) {t : Nat} (ee : go (fx_to cod t) loc stk ce sl h j = true) (hs : fx_st X Y nL loc stk h j H locs ls st) (hce : ce ≤ mc) (hsl : sl ≤ msl) : W p l e R s m args below meth c H locs ce sl Q (F0 m t ls st) := by
  cases ht : fx_to cod t with
  | nil => rw [ht, hgo.1] at ee; cases ee
  | cons q r =>
    obtain ⟨h1, h2⟩ := fx_to_ok ht
    rw [ht] at ee
    have K := hgo.2 _ _ _ _ _ _ _ ee h2 H locs ls st hs hce hsl
    rw [show fx_pc (q :: r) = t from h1] at K
    exact K
theorem fx_fin4 {a : Nat} (h : a < 4) : ((Fin.ofNat 4 a : Fin 4) : Nat) = a := Nat.mod_eq_of_lt h
theorem fx_six {b : Nat} (h : b < 6) : b = 0 ∨ b = 1 ∨ b = 2 ∨ b = 3 ∨ b = 4 ∨ b = 5 := by omega
theorem fx_form_int {b : Nat} {v : fx_V} (h : fx_form b v = true) (hb : b = 0 ∨ b = 1) : fx_int v = true := by
  rcases v with n | i | r | n
  · rfl
  · rfl
  · rcases hb with rfl | rfl <;> cases h
  · rcases hb with rfl | rfl <;> cases h
theorem fx_form_ref {X : fx_X} (hX : fx_xo X) {b : Nat} {v : fx_V} {w : Value} (h : fx_form b v = true) (hb : b = 2 ∨ b = 3) (hr : fx_rv X v w) : w = .null ∨ ∃ a, w = .ref a := by
  rcases v with n | i | r | n
  · rcases hb with rfl | rfl <;> cases h
  · rcases hb with rfl | rfl <;> cases h
  · cases r with
    | none => exact Or.inl hr
    | some k =>
      have hr : w = fx_ad X k := hr
      rw [hr]
      exact (hX k).2
  · rcases hb with rfl | rfl <;> cases h
theorem fx_form_long {X : fx_X} {b : Nat} {v : fx_V} {w : Value} (h : fx_form b v = true) (hb : b = 4 ∨ b = 5) (hr : fx_rv X v w) : ∃ z, w = .long z := by
  rcases v with n | i | r | n
  · rcases hb with rfl | rfl <;> cases h
  · rcases hb with rfl | rfl <;> cases h
  · rcases hb with rfl | rfl <;> cases h
  · exact ⟨_, hr⟩
theorem fx_s0 (F : fx_fs X Y B mst mt p s m args meth c cc nL own ini rt cod) (hX : fx_xo X) (hgo : fx_gok l X Y p e R s m args below meth c Q nL cod mc msl go) (hin : (pc, 0, a, b, d) ∈ cod) (htl : ∀ q ∈ tl, q ∈ cod) (ee : fx_k0 go pc a b tl loc stk ce sl h j = true) (hs : fx_st X Y nL loc stk h j H locs ls st) (hce : ce ≤ mc) (hsl : sl ≤ msl) : W p l e R s m args below meth c H locs ce sl Q (F0 m pc ls st) := by
  obtain ⟨hx, hb, -, -, -, -, -, -, -, -, hcod⟩ := F
  obtain ⟨hd, ha⟩ := hcod _ _ _ _ _ hin (by decide)
  have ha := ha.1 (Or.inl rfl)
  obtain ⟨⟨lv, hlv, hrn⟩, hst, hrh, hrj, hls⟩ := hs
  unfold fx_k0 at ee
  cases hv : fx_look loc a with
  | none => rw [hv] at ee; cases ee
  | some v =>
    rw [hv] at ee
    simp only at ee
    obtain ⟨e1, e2⟩ := fx_and ee
    obtain ⟨ef, eb⟩ := fx_and e1
    obtain ⟨k, x, hk, hrv⟩ := fx_rn_look hrn hv
    obtain ⟨v', e3, hrv', -⟩ := fx_nz_ok hrj hrv e2
    have hl := lv_at hlv k hk
    have K := fx_nxt hgo htl e3 (H := H) (locs := locs) (ls := ls) (st := x :: st) ⟨⟨lv, hlv, hrn⟩, ⟨hrv', hst⟩, hrh, hrj, hls⟩ hce hsl
    rcases fx_six (fx_blt eb) with rfl | rfl | rfl | rfl | rfl | rfl
    · obtain ⟨z, rfl⟩ := fx_rv_int hrv (fx_form_int ef (Or.inl rfl))
      exact lv_iload_n hx hb hd (fx_fin4 (ha (by omega))) hl K
    · obtain ⟨z, rfl⟩ := fx_rv_int hrv (fx_form_int ef (Or.inr rfl))
      exact lv_iload hx hb hd hl K
    · rcases fx_form_ref hX ef (Or.inl rfl) hrv with rfl | ⟨q, rfl⟩
      · exact lv_aload_nN hx hb hd (fx_fin4 (ha (by omega))) hl K
      · exact lv_aload_n hx hb hd (fx_fin4 (ha (by omega))) hl K
    · rcases fx_form_ref hX ef (Or.inr rfl) hrv with rfl | ⟨q, rfl⟩
      · exact lv_aloadN hx hb hd hl K
      · exact lv_aload hx hb hd hl K
    · obtain ⟨z, rfl⟩ := fx_form_long ef (Or.inl rfl) hrv
      exact lv_lload_n hx hb hd (fx_fin4 (ha (by omega))) hl K
    · obtain ⟨z, rfl⟩ := fx_form_long ef (Or.inr rfl) hrv
      exact lv_lload hx hb hd hl K
theorem fx_beqd (a b : Nat) : Nat.beq a b = (a == b) := by
  rw [Bool.eq_iff_iff]
  simp [Nat.beq_eq]
/-- a store into a slot of one -/
theorem fx_rn_store1 {X : fx_X} (hX : fx_xo X) {loc : fx_L} {lv : List (Nat × Value)} (hrn : fx_rn X loc lv) {a : Nat} {v : fx_V} {x : Value} (hrv : fx_rv X v x) : fx_rn X ((a, v) :: loc.filter (fun q => !(Nat.beq q.1 a || (Nat.beq (q.1 + 1) a && Nat.beq (fx_cat q.2) 2)))) ((a, x) :: lv.filter (fun q => !(q.1 == a) && !(q.1 + 1 == a && q.2.category == 2))) := by
  refine ⟨⟨rfl, hrv⟩, ?_⟩
  have h1 := fx_rn_filter hX (fun i k => !(i == a) && !(i + 1 == a && k == 2)) hrn
  have e : (fun q : Nat × fx_V => !(Nat.beq q.1 a || (Nat.beq (q.1 + 1) a && Nat.beq (fx_cat q.2) 2))) = (fun q : Nat × fx_V => !(q.1 == a) && !(q.1 + 1 == a && fx_cat q.2 == 2)) := by
    funext q
    rw [Bool.not_or]
    simp only [fx_beqd]
  rw [e]
  exact h1
theorem fx_rn_store2 {X : fx_X} (hX : fx_xo X) {loc : fx_L} {lv : List (Nat × Value)} (hrn : fx_rn X loc lv) {a : Nat} {v : fx_V} {x : Value} (hrv : fx_rv X v x) : fx_rn X ((a, v) :: loc.filter (fun q => !(Nat.beq q.1 a || (Nat.beq q.1 (a + 1) || (Nat.beq (q.1 + 1) a && Nat.beq (fx_cat q.2) 2))))) ((a, x) :: lv.filter (fun q => !(q.1 == a) && (!(q.1 == a + 1) && !(q.1 + 1 == a && q.2.category == 2)))) := by
  refine ⟨⟨rfl, hrv⟩, ?_⟩
  have h1 := fx_rn_filter hX (fun i k => !(i == a) && (!(i == a + 1) && !(i + 1 == a && k == 2))) hrn
  have e : (fun q : Nat × fx_V => !(Nat.beq q.1 a || (Nat.beq q.1 (a + 1) || (Nat.beq (q.1 + 1) a && Nat.beq (fx_cat q.2) 2)))) = (fun q : Nat × fx_V => !(q.1 == a) && (!(q.1 == a + 1) && !(q.1 + 1 == a && fx_cat q.2 == 2))) := by
    funext q
    rw [Bool.not_or, Bool.not_or]
    simp only [fx_beqd]
  rw [e]
  exact h1
theorem fx_store_ok {loc : fx_L} {a : Nat} {v : fx_V} {k : fx_L → Bool} (ee : fx_store loc a v k = true) : (fx_cat v = 1 ∧ k ((a, v) :: loc.filter (fun q => !(Nat.beq q.1 a || (Nat.beq (q.1 + 1) a && Nat.beq (fx_cat q.2) 2)))) = true) ∨ (fx_cat v = 2 ∧ k ((a, v) :: loc.filter (fun q => !(Nat.beq q.1 a || (Nat.beq q.1 (a + 1) || (Nat.beq (q.1 + 1) a && Nat.beq (fx_cat q.2) 2))))) = true) := by
  rcases v with n | i | r | n
  · have ee : fx_drop loc a (fun t => k ((a, fc n) :: t)) = true := ee
    rw [fx_drop_eq] at ee
    exact Or.inl ⟨rfl, ee⟩
  · have ee : fx_drop loc a (fun t => k ((a, fv i) :: t)) = true := ee
    rw [fx_drop_eq] at ee
    exact Or.inl ⟨rfl, ee⟩
  · have ee : fx_drop loc a (fun t => k ((a, .inr (.inr (.inl r))) :: t)) = true := ee
    rw [fx_drop_eq] at ee
    exact Or.inl ⟨rfl, ee⟩
  · have ee : fx_drop2 loc a (fun t => k ((a, fl n) :: t)) = true := ee
    rw [fx_drop2_eq] at ee
    exact Or.inr ⟨rfl, ee⟩
theorem fx_s11 (F : fx_fs X Y B mst mt p s m args meth c cc nL own ini rt cod) (hX : fx_xo X) (hgo : fx_gok l X Y p e R s m args below meth c Q nL cod mc msl go) (hin : (pc, 11, a, b, d) ∈ cod) (htl : ∀ q ∈ tl, q ∈ cod) (ee : fx_k11 go pc a b tl loc stk ce sl h j = true) (hs : fx_st X Y nL loc stk h j H locs ls st) (hce : ce ≤ mc) (hsl : sl ≤ msl) : W p l e R s m args below meth c H locs ce sl Q (F0 m pc ls st) := by
  obtain ⟨hx, hb, -, -, -, -, -, -, -, -, hcod⟩ := F
  obtain ⟨hd, ha⟩ := hcod _ _ _ _ _ hin (by decide)
  have hn := ha.2.2.2.2.2.2.2.2.2.2.2.2.2.2.2.2.1 rfl
  have ha := ha.1 (Or.inr rfl)
  obtain ⟨⟨lv, hlv, hrn⟩, hst, hrh, hrj, hls⟩ := hs
  cases stk with
  | nil => cases ee
  | cons v stk =>
    obtain ⟨x, st, rfl, hrv, hst⟩ := fx_rl_cons hst
    have ee : ((fx_form b v && Nat.blt b 6) && fx_store loc a v (fun loc => fx_nx (fun t => go t loc stk ce sl h j) pc (fx_odd b) tl)) = true := ee
    obtain ⟨e1, e2⟩ := fx_and ee
    obtain ⟨ef, eb⟩ := fx_and e1
    have hcat := fx_cat_of hX hrv
    have K1 : ∀ ls' : Array Slot, fx_cat v = 1 → lv_has ls' nL ((a, x) :: lv.filter (fun q => !(q.1 == a) && !(q.1 + 1 == a && q.2.category == 2))) → W p l e R s m args below meth c H locs ce sl Q (F0 m (pc + fx_odd b) ls' st) := by
      intro ls' hc hl'
      rcases fx_store_ok e2 with ⟨-, e3⟩ | ⟨hc2, -⟩
      · exact fx_nxt hgo htl e3 ⟨⟨_, hl', fx_rn_store1 hX hrn hrv⟩, hst, hrh, hrj, hls⟩ hce hsl
      · omega
    have K2 : ∀ ls' : Array Slot, fx_cat v = 2 → lv_has ls' nL ((a, x) :: lv.filter (fun q => !(q.1 == a) && (!(q.1 == a + 1) && !(q.1 + 1 == a && q.2.category == 2)))) → W p l e R s m args below meth c H locs ce sl Q (F0 m (pc + fx_odd b) ls' st) := by
      intro ls' hc hl'
      rcases fx_store_ok e2 with ⟨hc2, -⟩ | ⟨-, e3⟩
      · omega
      · exact fx_nxt hgo htl e3 ⟨⟨_, hl', fx_rn_store2 hX hrn hrv⟩, hst, hrh, hrj, hls⟩ hce hsl
    rcases fx_six (fx_blt eb) with rfl | rfl | rfl | rfl | rfl | rfl
    · obtain ⟨z, rfl⟩ := fx_rv_int hrv (fx_form_int ef (Or.inl rfl))
      exact lv_istore_n hx hb hd (fx_fin4 (ha (by omega))) hlv (by omega) rfl (fun ls' hl' => K1 ls' hcat.symm hl')
    · obtain ⟨z, rfl⟩ := fx_rv_int hrv (fx_form_int ef (Or.inr rfl))
      exact lv_istore hx hb hd hlv (by omega) rfl (fun ls' hl' => K1 ls' hcat.symm hl')
    · rcases fx_form_ref hX ef (Or.inl rfl) hrv with rfl | ⟨q, rfl⟩
      · exact lv_astore_nN hx hb hd (fx_fin4 (ha (by omega))) hlv (by omega) rfl (fun ls' hl' => K1 ls' hcat.symm hl')
      · exact lv_astore_n hx hb hd (fx_fin4 (ha (by omega))) hlv (by omega) rfl (fun ls' hl' => K1 ls' hcat.symm hl')
    · rcases fx_form_ref hX ef (Or.inr rfl) hrv with rfl | ⟨q, rfl⟩
      · exact lv_astoreN hx hb hd hlv (by omega) rfl (fun ls' hl' => K1 ls' hcat.symm hl')
      · exact lv_astore hx hb hd hlv (by omega) rfl (fun ls' hl' => K1 ls' hcat.symm hl')
    · obtain ⟨z, rfl⟩ := fx_form_long ef (Or.inl rfl) hrv
      exact lv_lstore_n hx hb hd (fx_fin4 (ha (by omega))) hlv (by omega) rfl (fun ls' hl' => K2 ls' hcat.symm hl')
    · obtain ⟨z, rfl⟩ := fx_form_long ef (Or.inr rfl) hrv
      exact lv_lstore hx hb hd hlv (by omega) rfl (fun ls' hl' => K2 ls' hcat.symm hl')
end FXA
end
section
section FXB
variable {l : Launch} {X : fx_X} {Y : fx_Y} {B : fx_B} {mst : Nat → Option fx_S} {mt : Nat → Option fx_M} {p : Program} {e : Env} {R : Room} {s : State} {m : MethodId} {args : Array Value} {below : List Frame} {meth : Method} {c : Code} {Q : State → Prop} {cc : ByteArray} {nL : Nat} {own : String} {ini : Bool} {rt : Option FieldType} {cod : List fx_I} {mc msl : Nat}
variable {go : fx_O} {pc a b d ce sl : Nat} {tl : List fx_I} {loc : fx_L} {stk : List fx_V} {h : fx_H} {j : fx_J} {H : Heap} {locs : List Loc} {ls : Array Slot} {st : List Value}
theorem fx_vaK (hc : fx_cx X Y B s) : va_K Y.1 fx_cl [] s := ⟨hc.1, fun k q hk => by simp at hk⟩
/-- an object of the picture, for the kit's rows -/
theorem fx_obj (hrh : fx_rh X Y h H) {r ci : Nat} {fs : List fx_V} (hg : fx_hget h r = some (.inr (.inl (ci, fs)))) : ∃ (C : String) (T : u_T) (N : Nat) (vs : List Value), fx_cl[ci]? = some (C, T, N) ∧ vs.length = N ∧ fx_rl X fs vs ∧ fx_ad X r = .ref (X.2.1 + r) ∧ va_P Y.1 fx_cl [(X.2.1 + r, .inr (ci, vs))] H ∧ r < h.1 := by
  obtain ⟨h1, h2, ⟨C, T, N⟩, vs, h3, h4, h5, h6⟩ := hrh.2.1 r _ hg
  refine ⟨C, T, N, vs, h3, h4, h5, fx_ad_lt h2, ?_, h1⟩
  intro k q hk
  cases k with
  | zero => cases hk; exact ⟨_, h3, h6⟩
  | succ k => simp at hk
theorem fx_s1 (F : fx_fs X Y B mst mt p s m args meth c cc nL own ini rt cod) (hgo : fx_gok l X Y p e R s m args below meth c Q nL cod mc msl go) (hin : (pc, 1, a, b, d) ∈ cod) (htl : ∀ q ∈ tl, q ∈ cod) (ee : fx_k1 go pc b d tl loc stk ce sl h j = true) (hs : fx_st X Y nL loc stk h j H locs ls st) (hce : ce ≤ mc) (hsl : sl ≤ msl) : W p l e R s m args below meth c H locs ce sl Q (F0 m pc ls st) := by
  obtain ⟨hx, hb, -, hown, hts, -, -, -, hcx, -, hcod⟩ := F
  obtain ⟨hd, ha⟩ := hcod _ _ _ _ _ hin (by decide)
  obtain ⟨C, T, N, hcl, hk, hlink⟩ := ha.2.1 rfl
  obtain ⟨hl0, hst, hrh, hrj, hls⟩ := hs
  rcases stk with _ | ⟨v, stk⟩
  · cases ee
  rcases v with n | i | (_ | r) | n
  · cases ee
  · cases ee
  · cases ee
  · obtain ⟨x, st, rfl, hrv, hst⟩ := fx_rl_cons hst
    cases hg : fx_hget h r with
    | none => simp [fx_k1, hg] at ee
    | some q =>
      rcases q with u | ⟨ci, fs⟩ | u
      · simp [fx_k1, hg] at ee
      · obtain ⟨C', T', N', vs, h1, h2, h3, h4, h5, -⟩ := fx_obj hrh hg
        cases hf : fx_nth fs d with
        | none => simp [fx_k1, hg, hf] at ee
        | some v =>
          simp only [fx_k1, hg, hf] at ee
          obtain ⟨e1, e2⟩ := fx_and ee
          have e1 := fx_beq e1
          subst e1
          have e3 : (C', T', N') = (C, T, N) := Option.some.inj (h1.symm.trans hcl)
          cases e3
          rw [fx_nth_eq] at hf
          obtain ⟨w, hw, hrw⟩ := fx_rl_get h3 hf
          have hrv : x = fx_ad X r := hrv
          rw [hrv, h4]
          obtain ⟨fs0, -, hkf⟩ := fx_clok hcl
          exact va_get (D := Y.1) (cl := fx_cl) (tys := []) (ci := ci) (C := C) (T := T) (N := N) (Ts := fx_tb) (v := w) hx hb hts hkf.1 hown (fx_vaK hcx) h5 0 rfl hcl d hk (hts _ hlink) (fun _ h9 => h9) hw hd (fx_nxt hgo htl e2 ⟨hl0, ⟨hrw, hst⟩, hrh, hrj, hls⟩ hce hsl)
      · simp [fx_k1, hg] at ee
  · cases ee
theorem fx_clen0 : fx_clen 0 = 1 ∧ fx_clen 1 = 2 ∧ fx_clen 2 = 3 ∧ fx_clen 3 = 2 ∧ fx_clen 4 = 3 ∧ fx_clen 5 = 1 ∧ fx_clen 6 = 3 ∧ fx_clen 7 = 1 := ⟨rfl, rfl, rfl, rfl, rfl, rfl, rfl, rfl⟩
theorem fx_s2 (F : fx_fs X Y B mst mt p s m args meth c cc nL own ini rt cod) (hgo : fx_gok l X Y p e R s m args below meth c Q nL cod mc msl go) (hin : (pc, 2, a, b, d) ∈ cod) (htl : ∀ q ∈ tl, q ∈ cod) (ee : (Nat.blt a 8 && fx_nx (fun t => go t loc (fx_cst a d :: stk) ce sl h j) pc (fx_clen a) tl) = true) (hs : fx_st X Y nL loc stk h j H locs ls st) (hce : ce ≤ mc) (hsl : sl ≤ msl) : W p l e R s m args below meth c H locs ce sl Q (F0 m pc ls st) := by
  obtain ⟨hx, hb, -, hown, hts, -, -, -, -, -, hcod⟩ := F
  obtain ⟨hd, ha⟩ := hcod _ _ _ _ _ hin (by decide)
  have ha := ha.2.2.1 rfl
  obtain ⟨hl0, hst, hrh, hrj, hls⟩ := hs
  obtain ⟨e1, e2⟩ := fx_and ee
  have hlt := fx_blt e1
  have K : ∀ w, fx_rv X (fx_cst a d) w → W p l e R s m args below meth c H locs ce sl Q (F0 m (pc + fx_clen a) ls (w :: st)) := fun w hw => fx_nxt hgo htl e2 ⟨hl0, ⟨hw, hst⟩, hrh, hrj, hls⟩ hce hsl
  rcases (by omega : a = 0 ∨ a = 1 ∨ a = 2 ∨ a = 3 ∨ a = 4 ∨ a = 5 ∨ a = 6 ∨ a = 7) with rfl | rfl | rfl | rfl | rfl | rfl | rfl | rfl
  · exact lv_iconst (v := Int32.ofNat d) hx hb hd (Int32.ofInt_toInt _) (K (.int (Int32.ofNat d)) rfl)
  · exact lv_bipush (v := Int32.ofNat d) hx hb hd (ha.1 rfl) (K (.int (Int32.ofNat d)) rfl)
  · exact lv_sipush (v := Int32.ofNat d) hx hb hd (ha.2.1 rfl) (K (.int (Int32.ofNat d)) rfl)
  · exact lv_ldc hx hb hown (hts _ (ha.2.2.1 (Or.inl rfl))) hd (K (.int (Int32.ofNat d)) rfl)
  · exact lv_ldcw hx hb hown (hts _ (ha.2.2.1 (Or.inr rfl))) hd (K (.int (Int32.ofNat d)) rfl)
  · exact lv_lconst (v := Int64.ofNat d) hx hb hd (by rw [show ((Fin.ofNat 2 d : Fin 2) : Nat) = d from Nat.mod_eq_of_lt (ha.2.2.2.1 rfl)]) (K (.long (Int64.ofNat d)) rfl)
  · exact lv_ldc2 hx hb hown (hts _ (ha.2.2.2.2 rfl)) hd (K (.long (Int64.ofNat d)) rfl)
  · exact lv_null hx hb hd (K .null rfl)
/-- the conditions, by what they say -/
theorem fx_con_ok (x y : Int32) : (fx_con 0 (fx_z x) (fx_z y) = decide (x = y)) ∧ (fx_con 1 (fx_z x) (fx_z y) = decide (¬ x = y)) ∧ (fx_con 2 (fx_z x) (fx_z y) = decide (x < y)) ∧ (fx_con 3 (fx_z x) (fx_z y) = decide (y ≤ x)) ∧ (fx_con 4 (fx_z x) (fx_z y) = decide (y < x)) ∧ (fx_con 5 (fx_z x) (fx_z y) = decide (x ≤ y)) := by
  have b1 : Nat.beq (fx_z x) (fx_z y) = decide (x = y) := by
    rw [Bool.eq_iff_iff, decide_eq_true_iff, fx_z_eq]
    exact ⟨fx_beq, fun q => by rw [q]; exact Nat.beq_refl _⟩
  have b2 : ∀ u v : Int32, Nat.blt (fx_z u) (fx_z v) = decide (u < v) := fun u v => by
    rw [Bool.eq_iff_iff, decide_eq_true_iff, fx_z_lt]
    exact ⟨fx_blt, fun q => Nat.ble_eq_true_of_le q⟩
  have b3 : ∀ u v : Int32, Nat.ble (fx_z u) (fx_z v) = decide (u ≤ v) := fun u v => by
    rw [Bool.eq_iff_iff, decide_eq_true_iff, fx_z_le]
    exact ⟨fx_ble, fun q => Nat.ble_eq_true_of_le q⟩
  refine ⟨b1, ?_, b2 x y, b3 y x, b2 y x, b3 x y⟩
  show (!Nat.beq (fx_z x) (fx_z y)) = _
  rw [b1]
  simp
theorem fx_off (pc b : Nat) : (pc : Int) + ((b : Int) - (pc : Int)) = (b : Int) := by omega
theorem fx_s3 (F : fx_fs X Y B mst mt p s m args meth c cc nL own ini rt cod) (hgo : fx_gok l X Y p e R s m args below meth c Q nL cod mc msl go) (hin : (pc, 3, a, b, d) ∈ cod) (htl : ∀ q ∈ tl, q ∈ cod) (ee : fx_k3 go cod pc a b tl loc stk ce sl h j = true) (hs : fx_st X Y nL loc stk h j H locs ls st) (hce : ce ≤ mc) (hsl : sl ≤ msl) : W p l e R s m args below meth c H locs ce sl Q (F0 m pc ls st) := by
  obtain ⟨hx, hb, -, hown, hts, -, -, -, -, -, hcod⟩ := F
  obtain ⟨hd, -⟩ := hcod _ _ _ _ _ hin (by decide)
  obtain ⟨hl0, hst, hrh, hrj, hls⟩ := hs
  rcases stk with _ | ⟨y, _ | ⟨x, stk⟩⟩
  · cases ee
  · cases ee
  obtain ⟨wy, st1, rfl, hry, hst1⟩ := fx_rl_cons hst
  obtain ⟨wx, st, rfl, hrx, hst2⟩ := fx_rl_cons hst1
  simp only [fx_k3] at ee
  obtain ⟨y', e1, hry', -⟩ := fx_nz_ok hrj hry ee
  obtain ⟨x', e2, hrx', -⟩ := fx_nz_ok hrj hrx e1
  obtain ⟨e3, e4⟩ := fx_and e2
  have ho := fx_blt e3
  obtain ⟨u, v, j', rfl, rfl, e5, hj'⟩ := fx_cmp_ok hrj ho hrx' hry' e4
  have KT : fx_con a (fx_z u) (fx_z v) = true → W p l e R s m args below meth c H locs ce sl Q (F0 m b ls st) := fun q => by
    rw [q, fx_if_t] at e5
    exact fx_jmp hgo e5 ⟨hl0, hst2, hrh, hj', hls⟩ hce hsl
  have KF : fx_con a (fx_z u) (fx_z v) = false → W p l e R s m args below meth c H locs ce sl Q (F0 m (pc + 3) ls st) := fun q => by
    rw [q, fx_if_f] at e5
    exact fx_nxt hgo htl e5 ⟨hl0, hst2, hrh, hj', hls⟩ hce hsl
  obtain ⟨c0, c1, c2, c3, c4, c5⟩ := fx_con_ok u v
  rcases (by omega : a = 0 ∨ a = 1 ∨ a = 2 ∨ a = 3 ∨ a = 4 ∨ a = 5) with rfl | rfl | rfl | rfl | rfl | rfl
  · exact lv_icmp_eq hx hb hd (fx_off pc b) (fun q => KT (by rw [c0]; exact decide_eq_true q)) (fun q => KF (by rw [c0]; exact decide_eq_false q))
  · exact lv_icmp_ne hx hb hd (fx_off pc b) (fun q => KT (by rw [c1]; exact decide_eq_true q)) (fun q => KF (by rw [c1]; exact decide_eq_false (fun q2 => q2 q)))
  · exact lv_icmp_lt hx hb hd (fx_off pc b) (fun q => KT (by rw [c2]; exact decide_eq_true q)) (fun q => KF (by rw [c2]; exact decide_eq_false q))
  · exact lv_icmp_ge hx hb hd (fx_off pc b) (fun q => KT (by rw [c3]; exact decide_eq_true q)) (fun q => KF (by rw [c3]; exact decide_eq_false q))
  · exact lv_icmp_gt hx hb hd (fx_off pc b) (fun q => KT (by rw [c4]; exact decide_eq_true q)) (fun q => KF (by rw [c4]; exact decide_eq_false q))
  · exact lv_icmp_le hx hb hd (fx_off pc b) (fun q => KT (by rw [c5]; exact decide_eq_true q)) (fun q => KF (by rw [c5]; exact decide_eq_false q))
theorem fx_s4 (F : fx_fs X Y B mst mt p s m args meth c cc nL own ini rt cod) (hgo : fx_gok l X Y p e R s m args below meth c Q nL cod mc msl go) (hin : (pc, 4, a, b, d) ∈ cod) (htl : ∀ q ∈ tl, q ∈ cod) (ee : fx_k4 go cod pc a b tl loc stk ce sl h j = true) (hs : fx_st X Y nL loc stk h j H locs ls st) (hce : ce ≤ mc) (hsl : sl ≤ msl) : W p l e R s m args below meth c H locs ce sl Q (F0 m pc ls st) := by
  obtain ⟨hx, hb, -, hown, hts, -, -, -, -, -, hcod⟩ := F
  obtain ⟨hd, -⟩ := hcod _ _ _ _ _ hin (by decide)
  obtain ⟨hl0, hst, hrh, hrj, hls⟩ := hs
  rcases stk with _ | ⟨x, stk⟩
  · cases ee
  obtain ⟨wx, st, rfl, hrx, hst2⟩ := fx_rl_cons hst
  simp only [fx_k4] at ee
  obtain ⟨x', e2, hrx', -⟩ := fx_nz_ok hrj hrx ee
  obtain ⟨e3, e4⟩ := fx_and e2
  have ho := fx_blt e3
  obtain ⟨u, v, j', rfl, hv, e5, hj'⟩ := fx_cmp_ok hrj ho hrx' (y := fc 0) (u := .int 0) rfl e4
  cases hv
  have KT : fx_con a (fx_z u) (fx_z 0) = true → W p l e R s m args below meth c H locs ce sl Q (F0 m b ls st) := fun q => by
    rw [q, fx_if_t] at e5
    exact fx_jmp hgo e5 ⟨hl0, hst2, hrh, hj', hls⟩ hce hsl
  have KF : fx_con a (fx_z u) (fx_z 0) = false → W p l e R s m args below meth c H locs ce sl Q (F0 m (pc + 3) ls st) := fun q => by
    rw [q, fx_if_f] at e5
    exact fx_nxt hgo htl e5 ⟨hl0, hst2, hrh, hj', hls⟩ hce hsl
  obtain ⟨c0, c1, c2, c3, c4, c5⟩ := fx_con_ok u 0
  rcases (by omega : a = 0 ∨ a = 1 ∨ a = 2 ∨ a = 3 ∨ a = 4 ∨ a = 5) with rfl | rfl | rfl | rfl | rfl | rfl
  · exact lv_if_eq hx hb hd (fx_off pc b) (fun q => KT (by rw [c0]; exact decide_eq_true q)) (fun q => KF (by rw [c0]; exact decide_eq_false q))
  · exact lv_if_ne hx hb hd (fx_off pc b) (fun q => KT (by rw [c1]; exact decide_eq_true q)) (fun q => KF (by rw [c1]; exact decide_eq_false (fun q2 => q2 q)))
  · exact lv_if_lt hx hb hd (fx_off pc b) (fun q => KT (by rw [c2]; exact decide_eq_true q)) (fun q => KF (by rw [c2]; exact decide_eq_false q))
  · exact lv_if_ge hx hb hd (fx_off pc b) (fun q => KT (by rw [c3]; exact decide_eq_true q)) (fun q => KF (by rw [c3]; exact decide_eq_false q))
  · exact lv_if_gt hx hb hd (fx_off pc b) (fun q => KT (by rw [c4]; exact decide_eq_true q)) (fun q => KF (by rw [c4]; exact decide_eq_false q))
  · exact lv_if_le hx hb hd (fx_off pc b) (fun q => KT (by rw [c5]; exact decide_eq_true q)) (fun q => KF (by rw [c5]; exact decide_eq_false q))
theorem fx_s5 (F : fx_fs X Y B mst mt p s m args meth c cc nL own ini rt cod) (hgo : fx_gok l X Y p e R s m args below meth c Q nL cod mc msl go) (hin : (pc, 5, a, b, d) ∈ cod) (ee : go (fx_to cod b) loc stk ce sl h j = true) (hs : fx_st X Y nL loc stk h j H locs ls st) (hce : ce ≤ mc) (hsl : sl ≤ msl) : W p l e R s m args below meth c H locs ce sl Q (F0 m pc ls st) := by
  obtain ⟨hx, hb, -, hown, hts, -, -, -, -, -, hcod⟩ := F
  obtain ⟨hd, -⟩ := hcod _ _ _ _ _ hin (by decide)
  exact lv_goto hx hb hd (fx_off pc b) (fx_jmp hgo ee hs hce hsl)
/-- the same place again, with what is known besides -/
theorem fx_again (hgo : fx_gok l X Y p e R s m args below meth c Q nL cod mc msl go) {q : fx_I} (hq : q ∈ cod) (htl : ∀ q ∈ tl, q ∈ cod) {v : fx_V} {i lo n : Nat} (hf : fx_few j v = some (i, lo, n)) (ee : fx_each j i lo n (fun j => go (q :: tl) loc stk ce sl h j) = true) (hs : fx_st X Y nL loc stk h j H locs ls st) (hce : ce ≤ mc) (hsl : sl ≤ msl) : W p l e R s m args below meth c H locs ce sl Q (F0 m q.1 ls st) := by
  obtain ⟨hl0, hst, hrh, hrj, hls⟩ := hs
  obtain ⟨h1, h2⟩ := fx_few_ok hrj hf
  obtain ⟨j', e1, hj'⟩ := fx_each_ok hrj ee h1 h2
  exact hgo.2 _ _ _ _ _ _ _ e1 (fun x hx => by
    rcases List.mem_cons.mp hx with rfl | hx
    · exact hq
    · exact htl x hx) H locs ls st ⟨hl0, hst, hrh, hj', hls⟩ hce hsl
theorem fx_s7 (F : fx_fs X Y B mst mt p s m args meth c cc nL own ini rt cod) (hX : fx_xo X) (h7 : X.1 7 = X.1 1 &&& 63) (hgo : fx_gok l X Y p e R s m args below meth c Q nL cod mc msl go) (hin : (pc, 7, a, b, d) ∈ cod) (htl : ∀ q ∈ tl, q ∈ cod) (ee : fx_k7 go pc a b tl loc stk ce sl h j = true) (hs : fx_st X Y nL loc stk h j H locs ls st) (hce : ce ≤ mc) (hsl : sl ≤ msl) : W p l e R s m args below meth c H locs ce sl Q (F0 m pc ls st) := by
  obtain ⟨hx, hb, -, hown, hts, -, -, -, -, -, hcod⟩ := F
  obtain ⟨hd, -⟩ := hcod _ _ _ _ _ hin (by decide)
  obtain ⟨⟨lv, hlv, hrn⟩, hst, hrh, hrj, hls⟩ := hs
  unfold fx_k7 at ee
  cases hv : fx_look loc a with
  | none => rw [hv] at ee; cases ee
  | some v =>
    rw [hv] at ee
    simp only at ee
    obtain ⟨k, x, hk, hrv⟩ := fx_rn_look hrn hv
    obtain ⟨v', e3, hrv', -⟩ := fx_nz_ok hrj hrv ee
    cases hw : fx_bis 0 v' (fc b) with
    | none => rw [hw] at e3; cases e3
    | some w =>
      rw [hw] at e3
      simp only at e3
      rw [fx_val_eq] at e3
      obtain ⟨z, z2, rfl, h2, hrw, -⟩ := fx_bis_ok h7 (by decide) hrv' (y := fc b) (t := .int (Int32.ofNat b)) rfl hw
      cases h2
      have hl := lv_at hlv k hk
      have hnL : a < nL := by rw [← hlv.1]; exact lv_lt hl
      refine lv_iinc (v := z + Int32.ofNat b) hx hb hd hlv hk (by rw [Int32.ofInt_toInt]) hnL rfl (fun ls' hl' => ?_)
      rcases fx_store_ok e3 with ⟨-, e4⟩ | ⟨hc, -⟩
      · exact fx_nxt hgo htl e4 ⟨⟨_, hl', fx_rn_store1 hX hrn hrw⟩, hst, hrh, hrj, hls⟩ hce hsl
      · rw [← fx_cat_of hX hrw] at hc
        cases hc
theorem fx_wbin {H : Heap} (hx : p.tables.exec = Jvm.exec) (hb : c.code = cc) {o : Nat} (ho : o < 11) {u v : Int32} {rest : List Value} (hd : decode cc pc = .ok (fx_bop o, 1)) (hne : o = 3 ∨ o = 4 → ¬ v = 0) (K : W p l e R s m args below meth c H locs ce sl Q (F0 m (pc + 1) ls (.int (fx_op o u v) :: rest))) : W p l e R s m args below meth c H locs ce sl Q (F0 m pc ls (.int v :: .int u :: rest)) := by
  rcases (by omega : o = 0 ∨ o = 1 ∨ o = 2 ∨ o = 3 ∨ o = 4 ∨ o = 5 ∨ o = 6 ∨ o = 7 ∨ o = 8 ∨ o = 9 ∨ o = 10) with rfl | rfl | rfl | rfl | rfl | rfl | rfl | rfl | rfl | rfl | rfl
  · exact lv_iadd hx hb hd K
  · exact lv_isub hx hb hd K
  · exact lv_imul hx hb hd K
  · exact lv_idiv hx hb hd (hne (by omega)) K
  · exact lv_irem hx hb hd (hne (by omega)) K
  · exact lv_iand hx hb hd K
  · exact lv_ior hx hb hd K
  · exact lv_ixor hx hb hd K
  · exact lv_ishl hx hb hd K
  · exact lv_ishr hx hb hd K
  · exact lv_iushr hx hb hd rfl K
theorem fx_s12 (F : fx_fs X Y B mst mt p s m args meth c cc nL own ini rt cod) (h7 : X.1 7 = X.1 1 &&& 63) (hgo : fx_gok l X Y p e R s m args below meth c Q nL cod mc msl go) (hin : (pc, 12, a, b, d) ∈ cod) (htl : ∀ q ∈ tl, q ∈ cod) (ee : fx_k12 go (pc, 12, a, b, d) pc a tl loc stk ce sl h j = true) (hs : fx_st X Y nL loc stk h j H locs ls st) (hce : ce ≤ mc) (hsl : sl ≤ msl) : W p l e R s m args below meth c H locs ce sl Q (F0 m pc ls st) := by
  obtain ⟨hx, hb, -, hown, hts, -, -, -, -, -, hcod⟩ := F
  obtain ⟨hd, ha⟩ := hcod _ _ _ _ _ hin (by decide)
  have ho := ha.2.2.2.2.2.1 rfl
  have hs0 := hs
  obtain ⟨hl0, hst, hrh, hrj, hls⟩ := hs
  rcases stk with _ | ⟨y, _ | ⟨x, stk⟩⟩
  · cases ee
  · cases ee
  obtain ⟨wy, st1, rfl, hry, hst1⟩ := fx_rl_cons hst
  obtain ⟨wx, st, rfl, hrx, hst2⟩ := fx_rl_cons hst1
  simp only [fx_k12] at ee
  obtain ⟨y', e1, hry', -⟩ := fx_nz_ok hrj hry ee
  obtain ⟨x', e2, hrx', -⟩ := fx_nz_ok hrj hrx e1
  cases hw : fx_bis a x' y' with
  | none => rw [hw] at e2; cases e2
  | some w =>
    rw [hw] at e2
    simp only at e2
    obtain ⟨u, v, rfl, rfl, hrw, hne⟩ := fx_bis_ok h7 ho hrx' hry' hw
    cases ht : fx_top w with
    | true =>
      rw [ht, fx_if_t] at e2
      cases hfx : fx_few j x' with
      | some q =>
        obtain ⟨i, lo, n⟩ := q
        rw [hfx] at e2
        exact fx_again hgo hin htl hfx e2 hs0 hce hsl
      | none =>
        rw [hfx] at e2
        simp only at e2
        cases hfy : fx_few j y' with
        | some q =>
          obtain ⟨i, lo, n⟩ := q
          rw [hfy] at e2
          exact fx_again hgo hin htl hfy e2 hs0 hce hsl
        | none =>
          rw [hfy] at e2
          exact fx_wbin hx hb ho hd hne (fx_nxt hgo htl e2 ⟨hl0, ⟨hrw, hst2⟩, hrh, hrj, hls⟩ hce hsl)
    | false =>
      rw [ht, fx_if_f, fx_val_eq] at e2
      exact fx_wbin hx hb ho hd hne (fx_nxt hgo htl e2 ⟨hl0, ⟨hrw, hst2⟩, hrh, hrj, hls⟩ hce hsl)
end FXB
end
section
section FXC
variable {l : Launch} {X : fx_X} {Y : fx_Y} {B : fx_B} {mst : Nat → Option fx_S} {mt : Nat → Option fx_M} {p : Program} {e : Env} {R : Room} {s : State} {m : MethodId} {args : Array Value} {below : List Frame} {meth : Method} {c : Code} {Q : State → Prop} {cc : ByteArray} {nL : Nat} {own : String} {ini : Bool} {rt : Option FieldType} {cod : List fx_I} {mc msl : Nat}
variable {go : fx_O} {pc a b d ce sl : Nat} {tl : List fx_I} {loc : fx_L} {stk : List fx_V} {h h' : fx_H} {j : fx_J} {H H1 : Heap} {locs : List Loc} {ls : Array Slot} {st : List Value}
theorem fx_rc.kept {cl : fx_C} {q : Nat} (hh : fx_rc X Y cl q H) (hq : H1[q]? = H[q]?) : fx_rc X Y cl q H1 := by
  rcases cl with u | ⟨ci, fs⟩ | ⟨ty, n, u⟩
  · exact hq.trans hh
  · obtain ⟨r, vs, h1, h2, h3, h4⟩ := hh
    exact ⟨r, vs, h1, h2, h3, h4.kept hq⟩
  · obtain ⟨f, h1, h2⟩ := hh
    exact ⟨f, hq.trans h1, h2⟩
theorem fx_rh_set (hrh : fx_rh X Y h H) {r : Nat} {c0 cl : fx_C} (e1 : h'.1 = h.1) (e2 : fx_hget h r = some c0) (e3 : fx_hget h' r = some cl) (e4 : ∀ i, i ≠ r → fx_hget h' i = fx_hget h i) (z : H1.size = H.size) (oq : ∀ q : Nat, q ≠ X.2.1 + r → H1[q]? = H[q]?) (hc : fx_rc X Y cl (X.2.1 + r) H1) : fx_rh X Y h' H1 := by
  obtain ⟨g1, g2, g3⟩ := hrh
  refine ⟨by rw [z, g1, e1], fun k x hk => ?_, fun q hq => ?_⟩
  · by_cases hkr : k = r
    · subst hkr
      rw [e3] at hk
      cases hk
      obtain ⟨b1, b2, -⟩ := g2 k _ e2
      exact ⟨by rw [e1]; exact b1, b2, hc⟩
    · rw [e4 k hkr] at hk
      obtain ⟨b1, b2, b3⟩ := g2 k x hk
      exact ⟨by rw [e1]; exact b1, b2, b3.kept (oq _ (by omega))⟩
  · rw [oq q (by omega)]
    exact g3 q hq
theorem fx_rh_new (hrh : fx_rh X Y h H) {cl : fx_C} (e1 : h'.1 = h.1 + 1) (e2 : h.1 < 1000000) (e3 : fx_hget h' h.1 = some cl) (e4 : ∀ i, i ≠ h.1 → fx_hget h' i = fx_hget h i) (z : H1.size = H.size + 1) (oq : ∀ q : Nat, q < H.size → H1[q]? = H[q]?) (hc : fx_rc X Y cl (X.2.1 + h.1) H1) : fx_rh X Y h' H1 := by
  obtain ⟨g1, g2, g3⟩ := hrh
  refine ⟨by rw [z, g1, e1]; omega, fun k x hk => ?_, fun q hq => ?_⟩
  · by_cases hkr : k = h.1
    · subst hkr
      rw [e3] at hk
      cases hk
      exact ⟨by omega, e2, hc⟩
    · rw [e4 k hkr] at hk
      obtain ⟨b1, b2, b3⟩ := g2 k x hk
      exact ⟨by omega, b2, b3.kept (oq _ (by omega))⟩
  · rw [oq q (by omega)]
    exact g3 q hq
theorem fx_clamp {n : Nat} (hn : n < 2147483648) : (Int32.ofNat n).toNatClampNeg = n := nI_clamp hn
theorem fx_inb {n len : Nat} (hn : n < len) (hl : len < 2147483648) : ¬ (Int32.ofNat n < 0 ∨ len ≤ (Int32.ofNat n).toNatClampNeg) := nI_in hn hl
theorem fx_arr (hrh : fx_rh X Y h H) {r ty n : Nat} {u : List (Nat × fx_V)} (hg : fx_hget h r = some (.inr (.inr (ty, n, u)))) : ∃ f : Nat → Value, H[X.2.1 + r]? = some (arrV (Y.2.1 ty) n f) ∧ n < 2147483648 ∧ ty < 4 ∧ (∀ i, fx_rv X (fx_aget ty u i) (f i)) ∧ fx_ad X r = .ref (X.2.1 + r) := by
  obtain ⟨h1, h2, f, h3, h4, h5, h6⟩ := hrh.2.1 r _ hg
  exact ⟨f, h3, h4, h5, h6, fx_ad_lt h2⟩
theorem fx_known {cA : ClassId} {n : Nat} {f : Nat → Value} : (arrV cA n f).vm ≠ .unknown := fun q => by cases q
/-- a load from an array, by the type of it -/
theorem fx_wald (hx : p.tables.exec = Jvm.exec) (hb : c.code = cc) {ty q : Nat} {cell : Cell} {n : Nat} {v : Value} {rest : List Value} (hcell : H[q]? = some cell) (harr : s.isArrayOf cell (fx_ty ty)) (hkn : cell.vm ≠ .unknown) (hty : fx_aty a ty = true) (hlt : n < cell.slots.size) (hsz : n < 2147483648) (hv : cell.slots[n]? = some v) (hd : decode cc pc = .ok (fx_aop a, 1)) (K : W p l e R s m args below meth c H locs ce sl Q (F0 m (pc + 1) ls (v :: rest))) : W p l e R s m args below meth c H locs ce sl Q (F0 m pc ls (.int (Int32.ofNat n) :: .ref q :: rest)) := by
  have hin : ¬ (Int32.ofNat n < 0 ∨ cell.slots.size ≤ (Int32.ofNat n).toNatClampNeg) := by
    rintro (h1 | h1)
    · exact nI_pos hsz h1
    · rw [fx_clamp hsz] at h1
      omega
  have hv' : cell.slots[(Int32.ofNat n).toNatClampNeg]? = some v := by rw [fx_clamp hsz]; exact hv
  rcases a with _ | _ | _ | a
  · have := fx_beq (show Nat.beq ty 0 = true from hty)
    subst this
    exact W.iald hx hb hcell harr hkn hin hv' rfl rfl hd K
  · rcases fx_or (show (Nat.beq ty 1 || Nat.beq ty 2) = true from hty) with q1 | q1
    · have := fx_beq q1
      subst this
      exact W.bald hx hb hcell harr hkn hin hv' rfl rfl hd K
    · have := fx_beq q1
      subst this
      exact W.zald hx hb hcell harr hkn hin hv' rfl rfl hd K
  · have := fx_beq (show Nat.beq ty 3 = true from hty)
    subst this
    exact W.lald hx hb hcell harr hkn hin hv' rfl rfl hd K
  · cases hty
theorem fx_s6 (F : fx_fs X Y B mst mt p s m args meth c cc nL own ini rt cod) (hXX : fx_xx X B) (hgo : fx_gok l X Y p e R s m args below meth c Q nL cod mc msl go) (hin : (pc, 6, a, b, d) ∈ cod) (htl : ∀ q ∈ tl, q ∈ cod) (ee : fx_k6 go (pc, 6, a, b, d) pc a tl loc stk ce sl h j = true) (hs : fx_st X Y nL loc stk h j H locs ls st) (hce : ce ≤ mc) (hsl : sl ≤ msl) : W p l e R s m args below meth c H locs ce sl Q (F0 m pc ls st) := by
  obtain ⟨hx, hb, -, hown, hts, -, -, -, hcx, -, hcod⟩ := F
  obtain ⟨hd, -⟩ := hcod _ _ _ _ _ hin (by decide)
  have hs0 := hs
  obtain ⟨hl0, hst, hrh, hrj, hls⟩ := hs
  rcases stk with _ | ⟨i, _ | ⟨v, stk⟩⟩
  · cases ee
  · cases ee
  rcases v with n | n | (_ | r) | n
  · cases ee
  · cases ee
  · cases ee
  · obtain ⟨wi, st1, rfl, hri, hst1⟩ := fx_rl_cons hst
    obtain ⟨wr, st2, rfl, hrr, hst2⟩ := fx_rl_cons hst1
    simp only [fx_k6] at ee
    obtain ⟨i', e1, hri', -⟩ := fx_nz_ok hrj hri ee
    rcases i' with n | n | n | n
    · have hri' : wi = .int (Int32.ofNat n) := hri'
      subst hri'
      have hrr : wr = fx_ad X r := hrr
      subst hrr
      simp only at e1
      have KK : ∀ v w, fx_rv X v w → fx_nx (fun t => go t loc (v :: stk) ce sl h j) pc 1 tl = true → W p l e R s m args below meth c H locs ce sl Q (F0 m (pc + 1) ls (w :: st2)) := fun v w hw e9 => fx_nxt hgo htl e9 ⟨hl0, ⟨hw, hst2⟩, hrh, hrj, hls⟩ hce hsl
      unfold fx_ld at e1
      cases hg : fx_hget h r with
      | none =>
        rw [hg] at e1
        simp only at e1
        cases hr : Nat.beq r 1000000 with
        | true =>
          have := fx_beq hr
          subst this
          rw [hr, fx_if_t] at e1
          obtain ⟨e2, e3⟩ := fx_and e1
          obtain ⟨e4, e5⟩ := fx_and e2
          obtain ⟨e6, e7⟩ := fx_and e3
          have ha0 := fx_beq e4
          subst ha0
          have hn6 := fx_blt e5
          have hn8 := fx_blt e6
          obtain ⟨hxo, -, hxs, h8, hL, hb0, -, -, hbl⟩ := hXX
          have hq := fx_iv_ok hrj 8
          rw [h8, fx_z_of] at hq
          have hbL : fx_b B.2.1 = B.2.1 + 2147483648 := by
            show (B.2.1 + 2147483648) % 4294967296 = _
            omega
          have hnL : n < B.2.1 := by omega
          obtain ⟨v', e8, hrv', -⟩ := fx_nz_ok (v := fv (n + 1)) (w := .int (X.1 (n + 1))) hrj rfl e7
          obtain ⟨scr, g1, g2, g3, g4, g5⟩ := hcx.2.2.2.2.2.2.2.2.2.2
          rw [hb0]
          refine fx_wald (ty := 0) (cell := scr) hx hb (by rw [hrh.2.2 _ hbl]; exact g1) g2 g3 rfl (by rw [g4]; exact hnL) (by omega) (g5 n hnL) hd (KK v' _ ?_ e8)
          rw [← hxs n hn6]
          exact hrv'
        | false =>
          rw [hr, fx_if_f] at e1
          obtain ⟨e2, e3⟩ := fx_and e1
          have := fx_beq e2
          subst this
          obtain ⟨e4, e5⟩ := fx_and e3
          have ha0 := fx_beq e4
          subst ha0
          obtain ⟨hxo, -, hxs, h8, hL, -, -, hb0, hbl⟩ := hXX
          cases hz : fx_nth fx_txt n with
          | none => rw [hz] at e5; cases e5
          | some z =>
            rw [hz] at e5
            simp only at e5
            rw [fx_nth_eq] at hz
            have hn : n < 123 := (List.getElem?_eq_some_iff.mp hz).1
            obtain ⟨cell, g1, g2, g3, g4, g5, g6, g7⟩ := hcx.2.2.2.2.2.2.2.2.2.1
            rw [hb0]
            refine fx_wald (ty := 1) (cell := cell) hx hb (by rw [hrh.2.2 _ (Nat.not_le.mp g7)]; exact g1) g2 g3 rfl (by omega) (by omega) (g6 n hn) hd (KK (fc z) _ ?_ e5)
            show Value.int _ = .int _
            rw [List.getD_eq_getElem?_getD, hz]
            rfl
      | some q =>
        rw [hg] at e1
        rcases q with u | u | ⟨ty, len, u⟩
        · cases e1
        · cases e1
        · simp only at e1
          obtain ⟨e2, e3⟩ := fx_and e1
          obtain ⟨e4, e5⟩ := fx_and e2
          have hlt := fx_blt e5
          obtain ⟨f, g1, g2, g3, g4, g5⟩ := fx_arr hrh hg
          rw [g5]
          have hrd : (arrV (Y.2.1 ty) len f).slots[n]? = some (f n) := arrV_read _ _ hlt
          have h4 := g4 n
          rw [fx_aget_def] at h4
          have K : W p l e R s m args below meth c H locs ce sl Q (F0 m (pc + 1) ls (f n :: st2)) := by
            cases hk : fx_look u n with
            | none =>
              rw [hk] at e3 h4
              exact KK _ _ h4 e3
            | some v =>
              rw [hk] at e3 h4
              simp only at e3 h4
              obtain ⟨-, e6⟩ := fx_and e3
              obtain ⟨v', e7, hrv', -⟩ := fx_nz_ok hrj h4 e6
              exact KK _ _ hrv' e7
          exact fx_wald hx hb g1 ((hcx.2.1 ty g3).1 len f) fx_known e4 (by rw [arrV_size]; exact hlt) (by omega) hrd hd K
    · simp only at e1
      cases hf : fx_few j (.inr (.inl n)) with
      | none => rw [hf] at e1; cases e1
      | some q =>
        obtain ⟨i2, lo, n2⟩ := q
        rw [hf] at e1
        exact fx_again hgo hin htl hf e1 hs0 hce hsl
    · cases e1
    · cases e1
  · cases ee
/-- a store into an array, by the type of it -/
theorem fx_wast (hx : p.tables.exec = Jvm.exec) (hb : c.code = cc) {ty q n len : Nat} {f : Nat → Value} {v : fx_V} {w : fx_V} {x : Value} {rest : List Value} (hcell : H[q]? = some (arrV (Y.2.1 ty) len f)) (harr : s.isArrayOf (arrV (Y.2.1 ty) len f) (fx_ty ty)) (hty : fx_aty a ty = true) (hlt : n < len) (hsz : len < 2147483648) (hrv : fx_rv X v x) (hn : fx_nar ty v = some w) (hd : decode cc pc = .ok (fx_asp a, 1)) (K : ∀ (H1 : Heap) (y : Value) (lc : Loc), lc.base = q → fx_rv X w y → H1[q]? = some (arrV (Y.2.1 ty) len (updV f n y)) → H1.size = H.size → (∀ z : Nat, z ≠ q → H1[z]? = H[z]?) → W p l e R s m args below meth c H1 (locs ++ [lc]) ce sl Q (F0 m (pc + 1) ls rest)) : W p l e R s m args below meth c H locs ce sl Q (F0 m pc ls (x :: .int (Int32.ofNat n) :: .ref q :: rest)) := by
  have hin : ¬ (Int32.ofNat n < 0 ∨ (arrV (Y.2.1 ty) len f).slots.size ≤ (Int32.ofNat n).toNatClampNeg) := by rw [arrV_size]; exact fx_inb hlt hsz
  have hcn : (Int32.ofNat n).toNatClampNeg = n := fx_clamp (by omega)
  rcases a with _ | _ | _ | a
  · have := fx_beq (show Nat.beq ty 0 = true from hty)
    subst this
    have hn : fx_if (fx_int v) (some v) none = some w := hn
    cases hi : fx_int v with
    | false => rw [hi, fx_if_f] at hn; cases hn
    | true =>
      rw [hi, fx_if_t] at hn
      cases hn
      obtain ⟨z, rfl⟩ := fx_rv_int hrv hi
      refine W.iast hx hb hcell harr fx_known hin rfl rfl hd (fun H1 g1 g2 g3 => K H1 (.int z) _ rfl hrv ?_ g2 g3)
      rw [g1, hcn, arrV_store]
  · rcases fx_or (show (Nat.beq ty 1 || Nat.beq ty 2) = true from hty) with q1 | q1
    · have := fx_beq q1
      subst this
      rcases v with k | k | k | k
      · have hn : fx_if (Nat.blt k 128) (some (fc k)) none = some w := hn
        cases hi : Nat.blt k 128 with
        | false => rw [hi, fx_if_f] at hn; cases hn
        | true =>
          rw [hi, fx_if_t] at hn
          cases hn
          have hrv : x = .int (Int32.ofNat k) := hrv
          subst hrv
          refine W.bast hx hb hcell harr fx_known hin rfl rfl hd (fun H1 g1 g2 g3 => K H1 (.int (Int32.ofNat k)) _ rfl rfl ?_ g2 g3)
          rw [g1, hcn, arrV_store, narrow_byte, fx_o_i2b (fx_blt hi)]
      · cases hn
        obtain ⟨z, rfl⟩ := fx_rv_var hrv
        refine W.bast hx hb hcell harr fx_known hin rfl rfl hd (fun H1 g1 g2 g3 => K H1 (.int z.toInt8.toInt32) _ rfl ⟨_, rfl⟩ ?_ g2 g3)
        rw [g1, hcn, arrV_store, narrow_byte]
      · cases hn
      · cases hn
    · have := fx_beq q1
      subst this
      rcases v with k | k | k | k
      · have hn : fx_if (Nat.blt k 2) (some (fc k)) none = some w := hn
        cases hi : Nat.blt k 2 with
        | false => rw [hi, fx_if_f] at hn; cases hn
        | true =>
          rw [hi, fx_if_t] at hn
          cases hn
          have hrv : x = .int (Int32.ofNat k) := hrv
          subst hrv
          refine W.zast hx hb hcell harr fx_known hin rfl rfl hd (fun H1 g1 g2 g3 => K H1 (.int (Int32.ofNat k)) _ rfl rfl ?_ g2 g3)
          have hk2 := fx_blt hi
          have : narrow .boolean (.int (Int32.ofNat k)) = .int (Int32.ofNat k) := by
            rcases (by omega : k = 0 ∨ k = 1) with rfl | rfl <;> rfl
          rw [g1, hcn, arrV_store, this]
      · cases hn
        obtain ⟨z, rfl⟩ := fx_rv_var hrv
        refine W.zast hx hb hcell harr fx_known hin rfl rfl hd (fun H1 g1 g2 g3 => K H1 (.int (z &&& 1)) _ rfl ⟨_, rfl⟩ ?_ g2 g3)
        rw [g1, hcn, arrV_store]
        rfl
      · cases hn
      · cases hn
  · have := fx_beq (show Nat.beq ty 3 = true from hty)
    subst this
    rcases v with k | k | k | k
    · cases hn
    · cases hn
    · cases hn
    · cases hn
      have hrv : x = .long (Int64.ofNat k) := hrv
      subst hrv
      refine W.last hx hb hcell harr fx_known hin rfl rfl hd (fun H1 g1 g2 g3 => K H1 (.long (Int64.ofNat k)) _ rfl rfl ?_ g2 g3)
      rw [g1, hcn, arrV_store]
  · cases hty
theorem fx_ls_add (hls : fx_ls X locs) {lc : Loc} {r : Nat} (hl : lc.base = X.2.1 + r) : fx_ls X (locs ++ [lc]) := by
  intro q hq
  rcases List.mem_append.mp hq with h1 | h1
  · exact hls q h1
  · rw [List.mem_singleton.mp h1, hl]
    omega
theorem fx_s8 (F : fx_fs X Y B mst mt p s m args meth c cc nL own ini rt cod) (hgo : fx_gok l X Y p e R s m args below meth c Q nL cod mc msl go) (hin : (pc, 8, a, b, d) ∈ cod) (htl : ∀ q ∈ tl, q ∈ cod) (ee : fx_k8 go (pc, 8, a, b, d) pc a tl loc stk ce sl h j = true) (hs : fx_st X Y nL loc stk h j H locs ls st) (hce : ce ≤ mc) (hsl : sl ≤ msl) : W p l e R s m args below meth c H locs ce sl Q (F0 m pc ls st) := by
  obtain ⟨hx, hb, -, hown, hts, -, -, -, hcx, -, hcod⟩ := F
  obtain ⟨hd, -⟩ := hcod _ _ _ _ _ hin (by decide)
  have hs0 := hs
  obtain ⟨hl0, hst, hrh, hrj, hls⟩ := hs
  rcases stk with _ | ⟨v, _ | ⟨i, _ | ⟨rf, stk⟩⟩⟩
  · cases ee
  · cases ee
  · cases ee
  rcases rf with n | n | (_ | r) | n
  · cases ee
  · cases ee
  · cases ee
  · obtain ⟨wv, st1, rfl, hrv, hst1⟩ := fx_rl_cons hst
    obtain ⟨wi, st2, rfl, hri, hst2⟩ := fx_rl_cons hst1
    obtain ⟨wr, st3, rfl, hrr, hst3⟩ := fx_rl_cons hst2
    simp only [fx_k8] at ee
    obtain ⟨i', e1, hri', -⟩ := fx_nz_ok hrj hri ee
    rcases i' with n | n | n | n
    · have hri' : wi = .int (Int32.ofNat n) := hri'
      subst hri'
      have hrr : wr = fx_ad X r := hrr
      subst hrr
      simp only at e1
      obtain ⟨v', e2, hrv', -⟩ := fx_nz_ok hrj hrv e1
      unfold fx_sto at e2
      cases hg : fx_hget h r with
      | none => rw [hg] at e2; cases e2
      | some q =>
        rw [hg] at e2
        rcases q with u | u | ⟨ty, len, u⟩
        · cases e2
        · cases e2
        · simp only at e2
          obtain ⟨e3, e4⟩ := fx_and e2
          obtain ⟨e5, e6⟩ := fx_and e3
          have hlt := fx_blt e6
          cases hn : fx_nar ty v' with
          | none => rw [hn] at e4; cases e4
          | some w =>
            rw [hn] at e4
            simp only at e4
            obtain ⟨u', e7, k1, k2⟩ := fx_aset_ok e4
            obtain ⟨h', e8, f1, ⟨c0, f2⟩, f3, f4⟩ := fx_hset_ok e7
            obtain ⟨f, g1, g2, g3, g4, g5⟩ := fx_arr hrh hg
            rw [g5]
            refine fx_wast (X := X) (Y := Y) hx hb g1 ((hcx.2.1 ty g3).1 len f) e5 hlt g2 hrv' hn hd (fun H1 y lc hlc hy q1 q2 q3 => ?_)
            refine fx_nxt hgo htl e8 ⟨hl0, hst3, fx_rh_set hrh f1 f2 f3 f4 q2 q3 ⟨_, q1, g2, g3, fun z => ?_⟩, hrj, fx_ls_add hls hlc⟩ hce hsl
            by_cases hz : z = n
            · subst hz
              rw [k1]
              simp only [updV, if_true]
              exact hy
            · rw [k2 z hz]
              simp only [updV, if_neg hz]
              exact g4 z
    · simp only at e1
      cases hf : fx_few j (.inr (.inl n)) with
      | none => rw [hf] at e1; cases e1
      | some q =>
        obtain ⟨i2, lo, n2⟩ := q
        rw [hf] at e1
        exact fx_again hgo hin htl hf e1 hs0 hce hsl
    · cases e1
    · cases e1
  · cases ee
end FXC
end
section
section FXD
variable {l : Launch} {X : fx_X} {Y : fx_Y} {B : fx_B} {mst : Nat → Option fx_S} {mt : Nat → Option fx_M} {p : Program} {e : Env} {R : Room} {s : State} {m : MethodId} {args : Array Value} {below : List Frame} {meth : Method} {c : Code} {Q : State → Prop} {cc : ByteArray} {nL : Nat} {own : String} {ini : Bool} {rt : Option FieldType} {cod : List fx_I} {mc msl : Nat}
variable {go : fx_O} {pc a b d ce sl dd : Nat} {tl : List fx_I} {loc : fx_L} {stk : List fx_V} {h h' : fx_H} {j : fx_J} {H H1 : Heap} {locs : List Loc} {ls : Array Slot} {st : List Value} {k : fx_K}
/-- what the end of the method gives -/
def fx_rt (l : Launch) (X : fx_X) (Y : fx_Y) (p : Program) (e : Env) (R : Room) (s : State) (m : MethodId) (args : Array Value) (below : List Frame) (meth : Method) (c : Code) (Q : State → Prop) (cc : ByteArray) (rt : Option FieldType) (mc msl : Nat) (k : fx_K) : Prop :=
  ∀ v w h j H locs ce sl pc ls, k v h j = true → fx_ro X v w → fx_rh X Y h H → fx_rj X j → fx_ls X locs → ce ≤ mc → sl ≤ msl → fx_rets rt cc pc w → W p l e R s m args below meth c H locs ce sl Q (F0 m pc ls w.toList)
theorem fx_s10 (F : fx_fs X Y B mst mt p s m args meth c cc nL own ini rt cod) (hrt : fx_rt l X Y p e R s m args below meth c Q cc rt mc msl k) (hin : (pc, 10, a, b, d) ∈ cod) (ee : fx_k10 k a b stk h j = true) (hs : fx_st X Y nL loc stk h j H locs ls st) (hce : ce ≤ mc) (hsl : sl ≤ msl) : W p l e R s m args below meth c H locs ce sl Q (F0 m pc ls st) := by
  obtain ⟨hx, hb, -, hown, hts, -, -, -, hcx, -, hcod⟩ := F
  obtain ⟨hd, ha⟩ := hcod _ _ _ _ _ hin (by decide)
  obtain ⟨hrk, hab⟩ := ha.2.2.2.2.1 rfl
  obtain ⟨hl0, hst, hrh, hrj, hls⟩ := hs
  unfold fx_k10 at ee
  cases h0 : Nat.beq a 0 with
  | true =>
    have := fx_beq h0
    subst this
    rw [h0, fx_if_t] at ee
    rcases stk with _ | ⟨v, _ | ⟨v2, stk⟩⟩
    · cases ee
    · simp only at ee
      obtain ⟨w, st1, rfl, hrv, hst1⟩ := fx_rl_cons hst
      have := fx_rl_nil hst1
      subst this
      obtain ⟨v', e1, hrv', -⟩ := fx_nz_ok hrj hrv ee
      obtain ⟨e2, e3⟩ := fx_and e1
      rcases v' with n | i | r | n
      · have hw : w = .int (Int32.ofNat n) := hrv'
        subst hw
        refine hrt (some (fc n)) (some (.int (Int32.ofNat n))) h j H locs ce sl pc ls e3 rfl hrh hrj hls hce hsl (Or.inr (Or.inl ?_))
        have e2 : (Nat.beq b 1 || ((Nat.beq b 2 && Nat.blt n 2) || ((Nat.beq b 4 && Nat.blt n 65536) || (Nat.beq b 5 && Nat.blt n 128)))) = true := e2
        rcases hrk with ⟨rfl, rfl⟩ | ⟨rfl, rfl⟩ | ⟨rfl, rfl⟩ | ⟨rfl, rfl⟩ | ⟨rfl, rfl⟩ | ⟨rfl, rfl⟩
        · cases e2
        · exact ⟨_, .int, rfl, rfl, rfl, hd⟩
        · have hn : n < 2 := by simpa using e2
          refine ⟨_, .boolean, rfl, rfl, ?_, hd⟩
          rcases (by omega : n = 0 ∨ n = 1) with rfl | rfl <;> rfl
        · cases e2
        · have hn : n < 65536 := by simpa using e2
          exact ⟨_, .char, rfl, rfl, fx_o_nc hn, hd⟩
        · have hn : n < 128 := by simpa using e2
          refine ⟨_, .byte, rfl, rfl, ?_, hd⟩
          rw [narrow_byte, fx_o_i2b hn]
      · have e2 : Nat.beq b 1 = true := e2
        have := fx_beq e2
        subst this
        obtain ⟨z, hz⟩ := fx_rv_var hrv'
        subst hz
        refine hrt (some (fv i)) (some (.int z)) h j H locs ce sl pc ls e3 hrv' hrh hrj hls hce hsl (Or.inr (Or.inl ?_))
        rcases hrk with ⟨q, rfl⟩ | ⟨q, rfl⟩ | ⟨q, rfl⟩ | ⟨q, rfl⟩ | ⟨q, rfl⟩ | ⟨q, rfl⟩
        · cases q
        · exact ⟨_, .int, rfl, rfl, rfl, hd⟩
        · cases q
        · cases q
        · cases q
        · cases q
      · cases e2
      · cases e2
    · cases ee
  | false =>
    rw [h0, fx_if_f] at ee
    cases h1 : Nat.beq a 1 with
    | true =>
      have := fx_beq h1
      subst this
      rw [h1, fx_if_t] at ee
      rcases stk with _ | ⟨v, stk⟩
      · simp only at ee
        have := fx_rl_nil hst
        subst this
        rcases hab with q | ⟨-, rfl⟩ | ⟨q, -⟩
        · cases q
        · refine hrt none none h j H locs ce sl pc ls ee trivial hrh hrj hls hce hsl (Or.inl ⟨rfl, ?_, hd⟩)
          rcases hrk with ⟨-, q⟩ | ⟨q, -⟩ | ⟨q, -⟩ | ⟨q, -⟩ | ⟨q, -⟩ | ⟨q, -⟩
          · exact q
          · cases q
          · cases q
          · cases q
          · cases q
          · cases q
        · cases q
      · cases ee
    | false =>
      rw [h1, fx_if_f] at ee
      rcases hab with q | ⟨q, -⟩ | ⟨q, hb3⟩
      · subst q; cases h0
      · subst q; cases h1
      · subst q
        subst hb3
        rcases stk with _ | ⟨v, _ | ⟨v2, stk⟩⟩
        · cases ee
        · rcases v with n | i | r | n
          · cases ee
          · cases ee
          · cases ee
          · simp only at ee
            obtain ⟨w, st1, rfl, hrv, hst1⟩ := fx_rl_cons hst
            have := fx_rl_nil hst1
            subst this
            have hw : w = .long (Int64.ofNat n) := hrv
            subst hw
            refine hrt (some (fl n)) (some (.long (Int64.ofNat n))) h j H locs ce sl pc ls ee rfl hrh hrj hls hce hsl (Or.inr (Or.inr ⟨_, rfl, ?_, hd⟩))
            rcases hrk with ⟨q, -⟩ | ⟨q, -⟩ | ⟨q, -⟩ | ⟨-, q⟩ | ⟨q, -⟩ | ⟨q, -⟩
            · cases q
            · cases q
            · cases q
            · exact q
            · cases q
            · cases q
        · rcases v with n | i | r | n <;> cases ee
theorem fx_s13 (F : fx_fs X Y B mst mt p s m args meth c cc nL own ini rt cod) (hgo : fx_gok l X Y p e R s m args below meth c Q nL cod mc msl go) (hin : (pc, 13, a, b, d) ∈ cod) (htl : ∀ q ∈ tl, q ∈ cod) (ee : fx_k13 go pc a tl loc stk ce sl h j = true) (hs : fx_st X Y nL loc stk h j H locs ls st) (hce : ce ≤ mc) (hsl : sl ≤ msl) : W p l e R s m args below meth c H locs ce sl Q (F0 m pc ls st) := by
  obtain ⟨hx, hb, -, hown, hts, -, -, -, hcx, -, hcod⟩ := F
  obtain ⟨hd, ha⟩ := hcod _ _ _ _ _ hin (by decide)
  have ho := ha.2.2.2.2.2.2.1 rfl
  obtain ⟨hl0, hst, hrh, hrj, hls⟩ := hs
  rcases stk with _ | ⟨x, stk⟩
  · cases ee
  obtain ⟨w, st1, rfl, hrv, hst1⟩ := fx_rl_cons hst
  simp only [fx_k13] at ee
  obtain ⟨x', e1, hrv', -⟩ := fx_nz_ok hrj hrv ee
  cases hu : fx_un a x' with
  | none => rw [hu] at e1; cases e1
  | some v =>
    rw [hu] at e1
    simp only at e1
    rw [fx_val_eq] at e1
    have K : ∀ w, fx_rv X v w → W p l e R s m args below meth c H locs ce sl Q (F0 m (pc + 1) ls (w :: st1)) := fun w hw => fx_nxt hgo htl e1 ⟨hl0, ⟨hw, hst1⟩, hrh, hrj, hls⟩ hce hsl
    rcases x' with n | i | r | n
    · have hw : w = .int (Int32.ofNat n) := hrv'
      subst hw
      rcases (by omega : a = 0 ∨ a = 1 ∨ a = 2 ∨ a = 3) with rfl | rfl | rfl | rfl
      · have hu : some (fc ((4294967296 - n % 4294967296) % 4294967296)) = some v := hu
        cases hu
        exact lv_ineg hx hb hd (K _ (by show Value.int _ = .int _; rw [fx_o_neg]))
      · have hu : fx_if (Nat.blt n 128) (some (fc n)) none = some v := hu
        cases hc : Nat.blt n 128 with
        | false => rw [hc, fx_if_f] at hu; cases hu
        | true =>
          rw [hc, fx_if_t] at hu
          cases hu
          exact lv_i2b hx hb hd (fx_o_i2b (fx_blt hc)) (K _ rfl)
      · have hu : fx_if (Nat.blt n 65536) (some (fc n)) none = some v := hu
        cases hc : Nat.blt n 65536 with
        | false => rw [hc, fx_if_f] at hu; cases hu
        | true =>
          rw [hc, fx_if_t] at hu
          cases hu
          exact lv_i2c hx hb hd (fx_o_i2c (fx_blt hc)) (K _ rfl)
      · have hu : fx_if (Nat.beq 3 3 && Nat.blt n 2147483648) (some (fl n)) none = some v := hu
        cases hc : Nat.blt n 2147483648 with
        | false => rw [hc] at hu; cases hu
        | true =>
          rw [hc] at hu
          cases hu
          exact lv_i2l hx hb hd (fx_o_i2l (fx_blt hc)) (K _ rfl)
    · obtain ⟨z, hz⟩ := fx_rv_var hrv'
      subst hz
      rcases (by omega : a = 0 ∨ a = 1 ∨ a = 2 ∨ a = 3) with rfl | rfl | rfl | rfl
      · cases hu
        exact lv_ineg hx hb hd (K _ ⟨_, rfl⟩)
      · cases hu
        exact lv_i2b hx hb hd rfl (K _ ⟨_, rfl⟩)
      · cases hu
        exact lv_i2c hx hb hd rfl (K _ ⟨_, rfl⟩)
      · cases hu
    · cases hu
    · cases hu
theorem fx_wput {ci f0 : Nat} {C : String} {T : u_T} {N : Nat} {vs : List Value} {q : Nat} {v : Value} {rest : List Value} (F : fx_fs X Y B mst mt p s m args meth c cc nL own ini rt cod) (hcl : fx_cl[ci]? = some (C, T, N)) (hk : f0 < N) (hlen : vs.length = N) (hob : t_OB q (Y.1.1 ci) N (Y.1.2 ci) H (vp_V vs)) (hlink : Cond.fieldLink own a (T f0).1 (T f0).2.1 (T f0).2.2.1 ∈ fx_tb) {ty : FieldType} (hp : parseFieldDescriptor (T f0).2.2.1 = some ty) (hn : narrow ty v = v) (hfit : fits ty v = true) (hfin : (T f0).2.2.2 = true → ini = true ∧ (T f0).1 = own) (hd : decode cc pc = .ok (.putfield a, 3))
    (K : ∀ (H1 : Heap) (lc : Loc), lc.base = q → t_OB q (Y.1.1 ci) N (Y.1.2 ci) H1 (vp_V (vs.set f0 v)) → H1.size = H.size → (∀ z : Nat, z ≠ q → H1[z]? = H[z]?) → W p l e R s m args below meth c H1 (locs ++ [lc]) ce sl Q (F0 m (pc + 3) ls rest)) : W p l e R s m args below meth c H locs ce sl Q (F0 m pc ls (v :: .ref q :: rest)) := by
  obtain ⟨hx, hb, -, hown, hts, -, hinit, -, hcx, -, -⟩ := F
  obtain ⟨fs0, -, hin, ⟨ty0, hty, -⟩, hnm, -⟩ := fx_clok hcl
  have hK := fx_vaK hcx
  have hap := va_apart (own := own) hts hin ty0 hty hnm hK hcl
  obtain ⟨cell, q1, q2, q3, q4⟩ := hob
  obtain ⟨hS, hfc, kC, hkC, hkind⟩ := hK.1 ci _ hcl
  obtain ⟨cf, kf, fi, f, hi, hsl⟩ := hS f0 hk
  have hlay := hts _ (hin _ (u_in_lay hk))
  unfold u_lay at hlay
  have hst := (u_facts hfc hkC (u_lays hts hin hk) hi).1
  have hl : f0 < vs.length := by omega
  have KK : ∀ H1 : Heap, H1[q]? = some (cell.setSlot f.slot v) → H1.size = H.size → (∀ z : Nat, z ≠ q → H1[z]? = H[z]?) → W p l e R s m args below meth c H1 (locs ++ [⟨q, f.slot⟩]) ce sl Q (F0 m (pc + 3) ls rest) := fun H1 g1 g2 g3 => by
    rw [hsl] at g1 ⊢
    exact K H1 _ rfl (t_OB.to (V := updV (vp_V vs) f0 v) ⟨_, g1, q2, q3, t_set q4 hap hk v⟩ (fun j _ => vp_updV_set hl v j)) g2 g3
  cases hff : (T f0).2.2.2 with
  | false =>
    rw [if_neg (by rw [hff]; decide)] at hlay
    have h6 := u_store hfc hkC hkind hlay hi hp hn hfit
    exact W.putK hx hb (f := f) ⟨hown, hts _ hlink, ⟨_, _, _, hi⟩, hst⟩ (by rw [q2]; exact h6) q1 q3 (by rw [hsl]; exact k2_hasslot (q4 f0 hk)) rfl rfl hd KK
  | true =>
    rw [if_pos hff] at hlay
    obtain ⟨hi0, hdecl⟩ := hfin hff
    have hcf : m.cls = cf := by
      obtain ⟨_, _, c', _, _, _, -, -, hf', -, -, -, hown2, -⟩ := Cond.laysFinal_spec hlay
      have e1 : c' = cf := by have := hi.symm.trans hf'; simp at this; exact this.1.symm
      rw [hdecl] at hown2
      rw [← e1]; exact Option.some.inj (hown.symm.trans hown2)
    have h6 := u_fits hfc hkC hkind (Or.inr hlay) hi hp hn hfit
    exact W.putFinK hx hb hown (hts _ hlink) hi hst hcf (hinit hi0) (by rw [q2]; exact h6) q1 q3 (by rw [hsl]; exact k2_hasslot (q4 f0 hk)) rfl rfl hd KK
theorem fx_fit_ok (hX : fx_xo X) {t : Nat} {ty : FieldType} (ht : fx_tag t ty) {v : fx_V} {w : Value} (hrv : fx_rv X v w) (hf : fx_fit t v = true) : narrow ty w = w ∧ fits ty w = true := by
  rcases ht with ⟨rfl, rfl⟩ | ⟨rfl, rfl⟩ | ⟨rfl, rfl⟩ | ⟨rfl, ht⟩
  · rcases v with n | i | r | n
    · have : w = _ := hrv
      subst this
      exact ⟨rfl, rfl⟩
    · obtain ⟨z, rfl⟩ := fx_rv_var hrv
      exact ⟨rfl, rfl⟩
    · cases hf
    · cases hf
  · rcases v with n | i | r | n
    · have hn : n < 2 := by
        have hf : (Nat.beq 2 0 || (Nat.beq 2 2 && Nat.blt n 2)) = true := hf
        simpa using hf
      have : w = _ := hrv
      subst this
      rcases (by omega : n = 0 ∨ n = 1) with rfl | rfl
      · exact ⟨rfl, rfl⟩
      · exact ⟨rfl, rfl⟩
    · cases hf
    · cases hf
    · cases hf
  · rcases v with n | i | r | n
    · cases hf
    · cases hf
    · cases hf
    · have : w = _ := hrv
      subst this
      exact ⟨rfl, rfl⟩
  · have hw : w = .null ∨ ∃ q, w = .ref q := by
      rcases v with n | i | r | n
      · cases hf
      · cases hf
      · cases r with
        | none => exact Or.inl hrv
        | some k =>
          have : w = _ := hrv
          subst this
          exact (hX k).2
      · cases hf
    rcases ht with ⟨n, rfl⟩ | ⟨n, rfl⟩ <;> rcases hw with rfl | ⟨q, rfl⟩ <;> exact ⟨rfl, rfl⟩
theorem fx_s14 (F : fx_fs X Y B mst mt p s m args meth c cc nL own ini rt cod) (hX : fx_xo X) (hgo : fx_gok l X Y p e R s m args below meth c Q nL cod mc msl go) (hin : (pc, 14, a, b, d) ∈ cod) (htl : ∀ q ∈ tl, q ∈ cod) (ee : fx_k14 go pc b d tl loc stk ce sl h j = true) (hs : fx_st X Y nL loc stk h j H locs ls st) (hce : ce ≤ mc) (hsl : sl ≤ msl) : W p l e R s m args below meth c H locs ce sl Q (F0 m pc ls st) := by
  have F0 := F
  obtain ⟨hx, hb, -, hown, hts, -, -, -, hcx, -, hcod⟩ := F
  obtain ⟨hd, ha⟩ := hcod _ _ _ _ _ hin (by decide)
  obtain ⟨⟨C, T, N, hcl, hk, hlink⟩, ⟨C2, T2, N2, ty, hcl2, -, hp, htag, hfin⟩⟩ := ha.2.2.2.2.2.2.2.1 rfl
  have e9 : (C2, T2, N2) = (C, T, N) := Option.some.inj (hcl2.symm.trans hcl)
  cases e9
  obtain ⟨hl0, hst, hrh, hrj, hls⟩ := hs
  rcases stk with _ | ⟨v, _ | ⟨rf, stk⟩⟩
  · cases ee
  · cases ee
  rcases rf with n | n | (_ | r) | n
  · cases ee
  · cases ee
  · cases ee
  · obtain ⟨wv, st1, rfl, hrv, hst1⟩ := fx_rl_cons hst
    obtain ⟨wr, st2, rfl, hrr, hst2⟩ := fx_rl_cons hst1
    have hrr : wr = fx_ad X r := hrr
    subst hrr
    cases hg : fx_hget h r with
    | none => simp [fx_k14, hg] at ee
    | some q =>
      rcases q with u | ⟨ci, fs⟩ | u
      · simp [fx_k14, hg] at ee
      · simp only [fx_k14, hg] at ee
        obtain ⟨e1, e2⟩ := fx_and ee
        obtain ⟨e3, e4⟩ := fx_and e1
        have e3 := fx_beq e3
        subst e3
        obtain ⟨e5, e6⟩ := fx_put_ok e2
        obtain ⟨h', e7, f1, ⟨c0, f2⟩, f3, f4⟩ := fx_hset_ok e6
        obtain ⟨g1, g2, ⟨C', T', N'⟩, vs, g3, g4, g5, g6⟩ := hrh.2.1 r _ hg
        have e8 : (C', T', N') = (C, T, N) := Option.some.inj (g3.symm.trans hcl)
        cases e8
        obtain ⟨hn, hfit⟩ := fx_fit_ok hX htag hrv e4
        rw [fx_ad_lt g2]
        refine fx_wput F0 hcl hk g4 g6 hlink hp hn hfit hfin hd (fun H1 lc hlc hob q2 q3 => ?_)
        exact fx_nxt hgo htl e7 ⟨hl0, hst2, fx_rh_set hrh f1 f2 f3 f4 q2 q3 ⟨_, vs.set (d / 8) wv, hcl, by rw [List.length_set]; exact g4, fx_rl_set hrv g5 (d / 8), hob⟩, hrj, fx_ls_add hls hlc⟩ hce hsl
      · simp [fx_k14, hg] at ee
  · cases ee
end FXD
end
section
section FXE
variable {l : Launch} {X : fx_X} {Y : fx_Y} {B : fx_B} {mst : Nat → Option fx_S} {mt : Nat → Option fx_M} {p : Program} {e : Env} {R : Room} {s : State} {m : MethodId} {args : Array Value} {below : List Frame} {meth : Method} {c : Code} {Q : State → Prop} {cc : ByteArray} {nL : Nat} {own : String} {ini : Bool} {rt : Option FieldType} {cod : List fx_I} {mc msl : Nat}
variable {go : fx_O} {pc a b d ce sl dd : Nat} {tl : List fx_I} {loc : fx_L} {stk : List fx_V} {h h' : fx_H} {j : fx_J} {H H1 : Heap} {locs : List Loc} {ls : Array Slot} {st : List Value} {k : fx_K}
theorem fx_s15 (F : fx_fs X Y B mst mt p s m args meth c cc nL own ini rt cod) (hX : fx_xo X) (hgo : fx_gok l X Y p e R s m args below meth c Q nL cod mc msl go) (hin : (pc, 15, a, b, d) ∈ cod) (htl : ∀ q ∈ tl, q ∈ cod) (ee : fx_k15 go pc a tl loc stk ce sl h j = true) (hs : fx_st X Y nL loc stk h j H locs ls st) (hce : ce ≤ mc) (hsl : sl ≤ msl) : W p l e R s m args below meth c H locs ce sl Q (F0 m pc ls st) := by
  obtain ⟨hx, hb, -, hown, hts, -, -, -, hcx, -, hcod⟩ := F
  obtain ⟨hd, ha⟩ := hcod _ _ _ _ _ hin (by decide)
  obtain ⟨hl0, hst, hrh, hrj, hls⟩ := hs
  unfold fx_k15 at ee
  cases hq : fx_stk a stk with
  | none => rw [hq] at ee; cases ee
  | some stk2 =>
    rw [hq] at ee
    simp only at ee
    have K : ∀ st2, fx_rl X stk2 st2 → W p l e R s m args below meth c H locs ce sl Q (F0 m (pc + 1) ls st2) := fun st2 h2 => fx_nxt hgo htl ee ⟨hl0, h2, hrh, hrj, hls⟩ hce hsl
    rcases stk with _ | ⟨v, stk⟩
    · cases hq
    obtain ⟨w, st1, rfl, hrv, hst1⟩ := fx_rl_cons hst
    have hcv := fx_cat_of hX hrv
    unfold fx_stk at hq
    simp only at hq
    cases h1 : Nat.beq (fx_cat v) 1 with
    | false => rw [h1, fx_if_f] at hq; cases hq
    | true =>
      rw [h1, fx_if_t] at hq
      have h1 := fx_beq h1
      have hcw : w.category = 1 := by rw [hcv, h1]
      rcases a with _ | _ | a
      · have hq : some (v :: v :: stk) = some stk2 := hq
        cases hq
        exact lv_dup hx hb hd hcw (K _ ⟨hrv, hrv, hst1⟩)
      · have hq : some stk = some stk2 := hq
        cases hq
        exact lv_pop hx hb hd hcw (K _ hst1)
      · rcases stk with _ | ⟨v2, stk⟩
        · cases hq
        obtain ⟨w2, st2, rfl, hrv2, hst2⟩ := fx_rl_cons hst1
        have hcv2 := fx_cat_of hX hrv2
        cases h2 : Nat.beq (fx_cat v2) 1 with
        | false =>
          rcases a with _ | _ | a
          · have hq : fx_if (Nat.beq (fx_cat v2) 1) (some (v :: v2 :: v :: v2 :: stk)) none = some stk2 := hq
            rw [h2, fx_if_f] at hq; cases hq
          · have hq : fx_if (Nat.beq (fx_cat v2) 1) (some (v :: v2 :: v :: stk)) none = some stk2 := hq
            rw [h2, fx_if_f] at hq; cases hq
          · rcases stk with _ | ⟨v3, stk⟩
            · have hq : fx_if (Nat.beq (fx_cat v2) 1) (none : Option (List fx_V)) none = some stk2 := hq
              rw [h2, fx_if_f] at hq; cases hq
            · have hq : fx_if (Nat.beq (fx_cat v2) 1) (fx_if (Nat.beq (fx_cat v3) 1 && Nat.beq (a + 4) 4) (some (v :: v2 :: v3 :: v :: stk)) none) none = some stk2 := hq
              rw [h2, fx_if_f] at hq; cases hq
        | true =>
          have h2' := fx_beq h2
          have hcw2 : w2.category = 1 := by rw [hcv2, h2']
          rcases a with _ | _ | a
          · have hq : fx_if (Nat.beq (fx_cat v2) 1) (some (v :: v2 :: v :: v2 :: stk)) none = some stk2 := hq
            rw [h2, fx_if_t] at hq
            cases hq
            exact lv_dup2_11 hx hb hd hcw hcw2 (K _ ⟨hrv, hrv2, hrv, hrv2, hst2⟩)
          · have hq : fx_if (Nat.beq (fx_cat v2) 1) (some (v :: v2 :: v :: stk)) none = some stk2 := hq
            rw [h2, fx_if_t] at hq
            cases hq
            exact lv_dup_x1 hx hb hd hcw hcw2 (K _ ⟨hrv, hrv2, hrv, hst2⟩)
          · rcases stk with _ | ⟨v3, stk⟩
            · have hq : fx_if (Nat.beq (fx_cat v2) 1) (none : Option (List fx_V)) none = some stk2 := hq
              rw [h2, fx_if_t] at hq; cases hq
            · have hq : fx_if (Nat.beq (fx_cat v2) 1) (fx_if (Nat.beq (fx_cat v3) 1 && Nat.beq (a + 4) 4) (some (v :: v2 :: v3 :: v :: stk)) none) none = some stk2 := hq
              rw [h2, fx_if_t] at hq
              obtain ⟨w3, st3, rfl, hrv3, hst3⟩ := fx_rl_cons hst2
              have hcv3 := fx_cat_of hX hrv3
              cases h3 : (Nat.beq (fx_cat v3) 1 && Nat.beq (a + 4) 4) with
              | false => rw [h3, fx_if_f] at hq; cases hq
              | true =>
                rw [h3, fx_if_t] at hq
                have hq3 := Option.some.inj hq
                obtain ⟨h4, h5⟩ := fx_and h3
                have h4 := fx_beq h4
                have h5 := fx_beq h5
                have h5 : a = 0 := by omega
                subst h5
                have hcw3 : w3.category = 1 := by rw [hcv3, h4]
                subst hq3
                exact lv_dup_x2 hx hb hd hcw hcw2 hcw3 (K _ ⟨hrv, hrv2, hrv3, hrv, hst3⟩)
theorem fx_s16 {E : fx_E} (hE : E.2.2.1 = fx_cd) (F : fx_fs X Y B mst mt p s m args meth c cc nL own ini rt cod) (hR : mc ≤ R.cells ∧ msl ≤ R.slots) (hgo : fx_gok l X Y p e R s m args below meth c Q nL cod mc msl go) (hin : (pc, 16, a, b, d) ∈ cod) (htl : ∀ q ∈ tl, q ∈ cod) (ee : fx_k16 E go pc b tl loc stk ce sl mc msl h j = true) (hs : fx_st X Y nL loc stk h j H locs ls st) : W p l e R s m args below meth c H locs ce sl Q (F0 m pc ls st) := by
  obtain ⟨hx, hb, -, hown, hts, -, -, -, hcx, -, hcod⟩ := F
  obtain ⟨hd, ha⟩ := hcod _ _ _ _ _ hin (by decide)
  obtain ⟨C, T, N, hcl, hlink⟩ := ha.2.2.2.2.2.2.2.2.1 rfl
  obtain ⟨hl0, hst, hrh, hrj, hls⟩ := hs
  obtain ⟨fs, hfs, hu, ⟨ty, hty, hdf⟩, -, hins, hini, hlen, hisd⟩ := fx_clok hcl
  have hfs' : E.2.2.1 b = some fs := by rw [hE]; show fx_nth fx_cdl b = _; rw [fx_nth_eq]; exact hfs
  simp only [fx_k16, hfs'] at ee
  obtain ⟨e1, e2⟩ := fx_and ee
  obtain ⟨e3, e4⟩ := fx_and e1
  have e3 := fx_ble e3
  have e4 := fx_ble e4
  obtain ⟨h', e5, f1, f2, f3, f4⟩ := fx_hnew_ok e2
  rw [fx_num_eq, fx_num_eq, fx_num_eq] at e5
  have hKn := hcx.1 b _ hcl
  refine W.newcK hx hb hown (hts _ hlink) (hts _ hins) (hts _ hini) rfl hd (by omega) (by rw [← hlen]; omega) hKn.2.1 (h := X.2.1 + h.1) hrh.1 (fun H1 kC hkC g1 g2 g3 => ?_)
  have hob := (u_born ty hts hu hKn hkC g1 hty).to (V' := vp_V (fs.map fx_dv)) hdf
  have K := fx_nxt hgo htl e5 (H := H1) (locs := locs) (ls := ls) (st := .ref (X.2.1 + h.1) :: st) ⟨hl0, ⟨(fx_ad_lt f2).symm, hst⟩, fx_rh_new hrh f1 f2 f3 f4 (by rw [g2, hrh.1]) (fun q hq => g3 q (by rw [← hrh.1]; exact hq)) ⟨_, _, hcl, by rw [List.length_map]; exact hlen, fx_isd_ok hisd, hob⟩, hrj, hls⟩ e3 e4
  rw [hlen] at K
  exact K
theorem fx_s17 (F : fx_fs X Y B mst mt p s m args meth c cc nL own ini rt cod) (hat : ∀ t, t < 4 → Cond.arrayClass (fx_ty t) ∈ fx_tb) (hR : mc ≤ R.cells ∧ msl ≤ R.slots) (hgo : fx_gok l X Y p e R s m args below meth c Q nL cod mc msl go) (hin : (pc, 17, a, b, d) ∈ cod) (htl : ∀ q ∈ tl, q ∈ cod) (ee : fx_k17 go pc a tl loc stk ce sl mc msl h j = true) (hs : fx_st X Y nL loc stk h j H locs ls st) : W p l e R s m args below meth c H locs ce sl Q (F0 m pc ls st) := by
  obtain ⟨hx, hb, -, hown, hts, -, -, -, hcx, -, hcod⟩ := F
  obtain ⟨hd, ha⟩ := hcod _ _ _ _ _ hin (by decide)
  obtain ⟨hl0, hst, hrh, hrj, hls⟩ := hs
  rcases stk with _ | ⟨v, stk⟩
  · cases ee
  rcases v with n | v | v | v
  · obtain ⟨w, st1, rfl, hrv, hst1⟩ := fx_rl_cons hst
    have hw : w = .int (Int32.ofNat n) := hrv
    subst hw
    simp only [fx_k17] at ee
    obtain ⟨e1, e2⟩ := fx_and ee
    obtain ⟨e3, e4⟩ := fx_and e1
    obtain ⟨e5, e6⟩ := fx_and e3
    obtain ⟨e7, e8⟩ := fx_and e4
    have hn := fx_ble e5
    have ha4 := fx_blt e6
    have e7 := fx_ble e7
    have e8 := fx_ble e8
    obtain ⟨h', e9, f1, f2, f3, f4⟩ := fx_hnew_ok e2
    rw [fx_num_eq, fx_num_eq, fx_num_eq] at e9
    have key : newarray.typeOf (fx_at a) = fx_ty a ∧ componentBytes (fx_ty a) ≤ 8 ∧ fx_rv X (fx_dft a) (defaultValue (fx_ty a)) := by
      rcases (by omega : a = 0 ∨ a = 1 ∨ a = 2 ∨ a = 3) with rfl | rfl | rfl | rfl
      · exact ⟨rfl, by decide, rfl⟩
      · exact ⟨rfl, by decide, rfl⟩
      · exact ⟨rfl, by decide, rfl⟩
      · exact ⟨rfl, by decide, rfl⟩
    obtain ⟨k1, k2, k3⟩ := key
    refine va_newaK (N := n) hx hb (by rw [k1]; exact hts _ (hat a ha4)) rfl hd rfl (nI_pos (by omega)) (fx_clamp (by omega)) ?_ (by omega) (by omega) (h := X.2.1 + h.1) hrh.1 (fun H1 cA g1 g2 g3 g4 g5 => ?_)
    · rw [k1]
      calc n * componentBytes (fx_ty a) ≤ n * 8 := Nat.mul_le_mul_left _ k2
        _ ≤ 536870912 := by omega
    · rw [k1] at g1 g5
      have hcA : cA = Y.2.1 a := Option.some.inj (g5.symm.trans (hcx.2.1 a ha4).2)
      subst hcA
      exact fx_nxt hgo htl e9 ⟨hl0, ⟨(fx_ad_lt f2).symm, hst1⟩, fx_rh_new hrh f1 f2 f3 f4 (by rw [g2, hrh.1]) (fun q hq => g3 q (by rw [← hrh.1]; exact hq)) ⟨_, g1, by omega, ha4, fun i => k3⟩, hrj, hls⟩ e7 e8
  · cases ee
  · cases ee
  · cases ee
theorem fx_s18 (F : fx_fs X Y B mst mt p s m args meth c cc nL own ini rt cod) (hXX : fx_xx X B) (hgo : fx_gok l X Y p e R s m args below meth c Q nL cod mc msl go) (hin : (pc, 18, a, b, d) ∈ cod) (htl : ∀ q ∈ tl, q ∈ cod) (ee : fx_k18 go pc tl loc stk ce sl h j = true) (hs : fx_st X Y nL loc stk h j H locs ls st) (hce : ce ≤ mc) (hsl : sl ≤ msl) : W p l e R s m args below meth c H locs ce sl Q (F0 m pc ls st) := by
  obtain ⟨hx, hb, -, hown, hts, -, -, -, hcx, -, hcod⟩ := F
  obtain ⟨hd, ha⟩ := hcod _ _ _ _ _ hin (by decide)
  obtain ⟨hl0, hst, hrh, hrj, hls⟩ := hs
  rcases stk with _ | ⟨v, stk⟩
  · cases ee
  rcases v with n | v | (_ | r) | v
  · cases ee
  · cases ee
  · cases ee
  · obtain ⟨w, st1, rfl, hrv, hst1⟩ := fx_rl_cons hst
    have hw : w = fx_ad X r := hrv
    subst hw
    cases hq : fx_len h r with
    | none => simp [fx_k18, hq] at ee
    | some v =>
      simp only [fx_k18, hq] at ee
      have K : ∀ w, fx_rv X v w → W p l e R s m args below meth c H locs ce sl Q (F0 m (pc + 1) ls (w :: st1)) := fun w hw => by
        obtain ⟨v', e1, hrv', -⟩ := fx_nz_ok hrj hw ee
        exact fx_nxt hgo htl e1 ⟨hl0, ⟨hrv', hst1⟩, hrh, hrj, hls⟩ hce hsl
      unfold fx_len at hq
      cases hg : fx_hget h r with
      | some q =>
        rw [hg] at hq
        rcases q with u | u | ⟨ty, len, u⟩
        · cases hq
        · cases hq
        · cases hq
          obtain ⟨f, g1, g2, g3, g4, g5⟩ := fx_arr hrh hg
          rw [g5]
          exact W.alen (n := Int32.ofNat len) hx hb g1 ((hcx.2.1 ty g3).1 len f) (by rw [arrV_size]) rfl rfl hd (K _ rfl)
      | none =>
        rw [hg] at hq
        simp only at hq
        obtain ⟨hxo, -, hxs, h8, hL, hb0, -, hb2, hbl⟩ := hXX
        cases hr : Nat.beq r 1000000 with
        | true =>
          have := fx_beq hr
          subst this
          rw [hr, fx_if_t] at hq
          cases hq
          obtain ⟨scr, g1, g2, g3, g4, g5⟩ := hcx.2.2.2.2.2.2.2.2.2.2
          rw [hb0]
          exact W.alen (n := Int32.ofNat B.2.1) hx hb (by rw [hrh.2.2 _ hbl]; exact g1) g2 (by rw [g4]) rfl rfl hd (K _ (by show Value.int _ = .int _; rw [h8]))
        | false =>
          rw [hr, fx_if_f] at hq
          cases hr2 : Nat.beq r 1000002 with
          | true =>
            have := fx_beq hr2
            subst this
            rw [hr2, fx_if_t] at hq
            cases hq
            obtain ⟨cell, g1, g2, g3, g4, g5, g6, g7⟩ := hcx.2.2.2.2.2.2.2.2.2.1
            rw [hb2]
            exact W.alen (n := Int32.ofNat 123) hx hb (by rw [hrh.2.2 _ (Nat.not_le.mp g7)]; exact g1) g2 g5 rfl rfl hd (K _ rfl)
          | false =>
            rw [hr2, fx_if_f] at hq
            cases hq
  · cases ee
theorem fx_s19 (F : fx_fs X Y B mst mt p s m args meth c cc nL own ini rt cod) (hgo : fx_gok l X Y p e R s m args below meth c Q nL cod mc msl go) (hin : (pc, 19, a, b, d) ∈ cod) (htl : ∀ q ∈ tl, q ∈ cod) (ee : fx_k19 go cod pc a b tl loc stk ce sl h j = true) (hs : fx_st X Y nL loc stk h j H locs ls st) (hce : ce ≤ mc) (hsl : sl ≤ msl) : W p l e R s m args below meth c H locs ce sl Q (F0 m pc ls st) := by
  obtain ⟨hx, hb, -, hown, hts, -, -, -, hcx, -, hcod⟩ := F
  obtain ⟨hd, ha⟩ := hcod _ _ _ _ _ hin (by decide)
  obtain ⟨hl0, hst, hrh, hrj, hls⟩ := hs
  rcases stk with _ | ⟨v, stk⟩
  · cases ee
  rcases v with n | v | (_ | r) | v
  · cases ee
  · cases ee
  · obtain ⟨w, st1, rfl, hrv, hst1⟩ := fx_rl_cons hst
    have hw : w = .null := hrv
    subst hw
    simp only [fx_k19] at ee
    rcases a with _ | a
    · exact lv_ifnullN hx hb hd (fx_off pc b) (fx_jmp hgo ee ⟨hl0, hst1, hrh, hrj, hls⟩ hce hsl)
    · obtain ⟨e1, e2⟩ := fx_and (a := Nat.beq (a + 1) 1) (b := fx_nx (fun t => go t loc stk ce sl h j) pc 3 tl) ee
      have := fx_beq e1
      have : a = 0 := by omega
      subst this
      exact lv_ifnonnullN hx hb hd (fx_nxt hgo htl e2 ⟨hl0, hst1, hrh, hrj, hls⟩ hce hsl)
  · obtain ⟨w, st1, rfl, hrv, hst1⟩ := fx_rl_cons hst
    have hw : w = fx_ad X r := hrv
    subst hw
    simp only [fx_k19] at ee
    obtain ⟨e0, ee⟩ := fx_and ee
    rw [fx_ad_lt (fx_blt e0)]
    rcases a with _ | _ | a
    · obtain ⟨e1, e2⟩ := fx_and (a := Nat.beq 0 0) (b := fx_nx (fun t => go t loc stk ce sl h j) pc 3 tl) ee
      exact lv_ifnull hx hb hd (fx_nxt hgo htl e2 ⟨hl0, hst1, hrh, hrj, hls⟩ hce hsl)
    · exact lv_ifnonnull hx hb hd (fx_off pc b) (fx_jmp hgo ee ⟨hl0, hst1, hrh, hrj, hls⟩ hce hsl)
    · obtain ⟨e1, e2⟩ := fx_and (a := Nat.beq (a + 2) 0) (b := fx_nx (fun t => go t loc stk ce sl h j) pc 3 tl) ee
      cases e1
  · cases ee
end FXE
end
section
section FXF
variable {l : Launch} {X : fx_X} {Y : fx_Y} {B : fx_B} {mst : Nat → Option fx_S} {mt : Nat → Option fx_M} {p : Program} {e : Env} {R : Room} {s : State} {m : MethodId} {args : Array Value} {below : List Frame} {meth : Method} {c : Code} {Q : State → Prop} {cc : ByteArray} {nL : Nat} {own : String} {ini : Bool} {rt : Option FieldType} {cod : List fx_I} {mc msl : Nat}
variable {go : fx_O} {pc a b d ce sl dd : Nat} {tl : List fx_I} {loc : fx_L} {stk : List fx_V} {h h' : fx_H} {j : fx_J} {H H1 : Heap} {locs : List Loc} {ls : Array Slot} {st : List Value} {k : fx_K}
/-- where a switch goes: keys from lo on, biased -/
def fx_tgt (ts : List Nat) (dft lo z : Nat) (t : Nat) : Prop := (lo ≤ z ∧ ts[z - lo]? = some t) ∨ ((z < lo ∨ lo + ts.length ≤ z) ∧ t = dft)
theorem fx_keys_ok (hj : fx_rj X j) {i : Nat} {g : Nat → fx_J → Bool} : ∀ {ts : List Nat} {lo : Nat}, fx_keys j i g ts lo = true → lo ≤ fx_z (X.1 i) → ∀ t, ts[fx_z (X.1 i) - lo]? = some t → ∃ j', g t j' = true ∧ fx_rj X j' := by
  intro ts
  induction ts with
  | nil => intro lo _ _ t ht; simp at ht
  | cons u ts ih =>
    intro lo ee hlo t ht
    obtain ⟨e1, e2⟩ := fx_and (a := fx_if (Nat.ble (fx_iv j i).1 lo && Nat.ble lo (fx_iv j i).2) (fx_with j i lo lo (g u)) true) (b := fx_keys j i g ts (lo + 1)) ee
    by_cases hz : fx_z (X.1 i) = lo
    · rw [hz, Nat.sub_self, List.getElem?_cons_zero] at ht
      cases ht
      have hq := fx_iv_ok hj i
      rw [hz] at hq
      rw [Nat.ble_eq_true_of_le hq.1, Nat.ble_eq_true_of_le hq.2] at e1
      exact fx_with_ok hj ⟨by omega, by omega⟩ e1
    · have e3 : fx_z (X.1 i) - lo = (fx_z (X.1 i) - (lo + 1)) + 1 := by omega
      rw [e3, List.getElem?_cons_succ] at ht
      exact ih e2 (by omega) t ht
theorem fx_sw_ok (hj : fx_rj X j) {x : fx_V} {w : Value} (hrv : fx_rv X x w) {dft lo : Nat} {ts : List Nat} {g : Nat → fx_J → Bool} (ee : fx_sw j x dft lo ts g = true) : ∃ (z : Int32) (t : Nat) (j' : fx_J), w = .int z ∧ fx_tgt ts dft lo (fx_z z) t ∧ g t j' = true ∧ fx_rj X j' := by
  rcases x with n | i | r | n
  · refine ⟨Int32.ofNat n, ?_⟩
    have ee : fx_if (Nat.ble lo (fx_b n)) (match fx_nth ts (fx_b n - lo) with
      | some t => g t j
      | none => g dft j) (g dft j) = true := ee
    cases hc : Nat.ble lo (fx_b n) with
    | false =>
      rw [hc, fx_if_f] at ee
      exact ⟨dft, j, hrv, Or.inr ⟨Or.inl (by rw [fx_z_of]; exact fx_nle hc), rfl⟩, ee, hj⟩
    | true =>
      rw [hc, fx_if_t] at ee
      have hc := fx_ble hc
      cases ht : fx_nth ts (fx_b n - lo) with
      | none =>
        rw [ht] at ee
        rw [fx_nth_eq] at ht
        have := List.getElem?_eq_none_iff.mp ht
        exact ⟨dft, j, hrv, Or.inr ⟨Or.inr (by rw [fx_z_of]; omega), rfl⟩, ee, hj⟩
      | some t =>
        rw [ht] at ee
        rw [fx_nth_eq] at ht
        exact ⟨t, j, hrv, Or.inl ⟨by rw [fx_z_of]; exact hc, by rw [fx_z_of]; exact ht⟩, ee, hj⟩
  · cases i with
    | zero => cases ee
    | succ i =>
      refine ⟨X.1 (i + 1), ?_⟩
      have ee : (fx_keys j (i + 1) g ts lo && ((Nat.beq lo 0 || fx_with j (i + 1) (fx_iv j (i + 1)).1 (fx_if (Nat.ble (fx_iv j (i + 1)).2 (lo - 1)) (fx_iv j (i + 1)).2 (lo - 1)) (g dft)) && fx_with j (i + 1) (fx_if (Nat.ble (lo + ts.length) (fx_iv j (i + 1)).1) (fx_iv j (i + 1)).1 (lo + ts.length)) (fx_iv j (i + 1)).2 (g dft))) = true := ee
      obtain ⟨e1, e2⟩ := fx_and ee
      obtain ⟨e3, e4⟩ := fx_and e2
      have hq := fx_iv_ok hj (i + 1)
      by_cases h1 : fx_z (X.1 (i + 1)) < lo
      · rcases fx_or e3 with e3 | e3
        · have := fx_beq e3
          omega
        · have hb : (fx_iv j (i + 1)).1 ≤ fx_z (X.1 (i + 1)) ∧ fx_z (X.1 (i + 1)) ≤ fx_if (Nat.ble (fx_iv j (i + 1)).2 (lo - 1)) (fx_iv j (i + 1)).2 (lo - 1) := by
            refine ⟨hq.1, ?_⟩
            cases hc : Nat.ble (fx_iv j (i + 1)).2 (lo - 1) with
            | true => rw [fx_if_t]; exact hq.2
            | false => rw [fx_if_f]; omega
          obtain ⟨j', g1, g2⟩ := fx_with_ok hj hb e3
          exact ⟨dft, j', hrv, Or.inr ⟨Or.inl h1, rfl⟩, g1, g2⟩
      · by_cases h2 : lo + ts.length ≤ fx_z (X.1 (i + 1))
        · have hb : fx_if (Nat.ble (lo + ts.length) (fx_iv j (i + 1)).1) (fx_iv j (i + 1)).1 (lo + ts.length) ≤ fx_z (X.1 (i + 1)) ∧ fx_z (X.1 (i + 1)) ≤ (fx_iv j (i + 1)).2 := by
            refine ⟨?_, hq.2⟩
            cases hc : Nat.ble (lo + ts.length) (fx_iv j (i + 1)).1 with
            | true => rw [fx_if_t]; exact hq.1
            | false => rw [fx_if_f]; omega
          obtain ⟨j', g1, g2⟩ := fx_with_ok hj hb e4
          exact ⟨dft, j', hrv, Or.inr ⟨Or.inr h2, rfl⟩, g1, g2⟩
        · have hl : fx_z (X.1 (i + 1)) - lo < ts.length := by omega
          obtain ⟨j', g1, g2⟩ := fx_keys_ok hj e1 (by omega) _ (List.getElem?_eq_getElem hl)
          exact ⟨_, j', hrv, Or.inl ⟨by omega, List.getElem?_eq_getElem hl⟩, g1, g2⟩
  · cases ee
  · cases ee
theorem fx_z_int (z : Int32) : (fx_z z : Int) = z.toInt + 2147483648 := by
  have h1 := z.le_toInt
  unfold fx_z
  omega
theorem fx_s20 {E : fx_E} (hE : E.2.1 = fx_swt) (F : fx_fs X Y B mst mt p s m args meth c cc nL own ini rt cod) {kd : Nat} (hkd : kd = 20 ∨ kd = 21) (hgo : fx_gok l X Y p e R s m args below meth c Q nL cod mc msl go) (hin : (pc, kd, a, b, d) ∈ cod) (ee : fx_k20 E go cod a b d loc stk ce sl h j = true) (hs : fx_st X Y nL loc stk h j H locs ls st) (hce : ce ≤ mc) (hsl : sl ≤ msl) : W p l e R s m args below meth c H locs ce sl Q (F0 m pc ls st) := by
  obtain ⟨hx, hb, -, hown, hts, -, -, -, hcx, -, hcod⟩ := F
  obtain ⟨hd, ha⟩ := hcod _ _ _ _ _ hin (by omega)
  obtain ⟨hb1, hb2, hb3⟩ := ha.2.2.2.2.2.2.2.2.2.1 hkd
  have hl2 := ha.2.2.2.2.2.2.2.2.2.2.2.2.2.2.2.2.2.1
  obtain ⟨hl0, hst, hrh, hrj, hls⟩ := hs
  rcases stk with _ | ⟨x, stk⟩
  · cases ee
  obtain ⟨w, st1, rfl, hrv, hst1⟩ := fx_rl_cons hst
  simp only [fx_k20] at ee
  obtain ⟨x', e1, hrv', -⟩ := fx_nz_ok hrj hrv ee
  obtain ⟨z, t, j', rfl, htg, e2, hj'⟩ := fx_sw_ok hrj hrv' e1
  rw [hE] at htg
  have K := fx_jmp hgo e2 (H := H) (locs := locs) (ls := ls) (st := st1) ⟨hl0, hst1, hrh, hj', hls⟩ hce hsl
  have hlo : fx_b b = b + 2147483648 := by
    show (b + 2147483648) % 4294967296 = _
    omega
  have hzi := fx_z_int z
  rw [hlo] at htg
  rcases hkd with rfl | rfl
  · rcases htg with ⟨h1, h2⟩ | ⟨h1, rfl⟩
    · have h3 : fx_z z - (b + 2147483648) < (fx_swt d).length := (List.getElem?_eq_some_iff.mp h2).1
      refine lv_tableIn (off := (t : Int) - (pc : Int)) hx hb hd (by omega) (by omega) ?_ (fx_off pc t) K
      have e5 : (z.toInt - (b : Int)).toNat = fx_z z - (b + 2147483648) := by omega
      rw [e5, List.getElem?_toArray, List.getElem?_map, h2]
      rfl
    · exact lv_tableOut hx hb hd (by omega) (fx_off pc t) K
  · have hl2 := hl2 rfl
    obtain ⟨t0, t1, hts2⟩ : ∃ t0 t1, fx_swt d = [t0, t1] := by
      rcases hq : fx_swt d with _ | ⟨t0, _ | ⟨t1, _ | ⟨t2, r⟩⟩⟩
      · rw [hq] at hl2; cases hl2
      · rw [hq] at hl2; cases hl2
      · exact ⟨t0, t1, rfl⟩
      · rw [hq] at hl2; simp at hl2
    have hd : decode cc pc = .ok (.lookupswitch ((a : Int) - (pc : Int)) #[((b : Int) + 0, (t0 : Int) - (pc : Int)), ((b : Int) + 1, (t1 : Int) - (pc : Int))], 9 + (3 - pc % 4) + 8 * (fx_swt d).length) := by
      rw [hd]
      simp only [fx_ins]
      rw [hts2]
      rfl
    rw [hts2] at htg
    refine lv_lookup (off := (t : Int) - (pc : Int)) hx hb hd (by simp; omega) ?_ (fx_off pc t) K
    simp only [Op.lookupswitch.offset_cons, Op.lookupswitch.offset_nil]
    rcases htg with ⟨h1, h2⟩ | ⟨h1, rfl⟩
    · have h3 : fx_z z - (b + 2147483648) < 2 := (List.getElem?_eq_some_iff.mp h2).1
      rcases (by omega : fx_z z - (b + 2147483648) = 0 ∨ fx_z z - (b + 2147483648) = 1) with h4 | h4
      · rw [h4] at h2
        cases h2
        rw [if_pos (by omega)]
      · rw [h4] at h2
        cases h2
        rw [if_neg (by omega), if_pos (by omega)]
    · have h1 : fx_z z < b + 2147483648 ∨ b + 2147483648 + 2 ≤ fx_z z := h1
      rw [if_neg (by omega), if_neg (by omega)]
theorem fx_cats_ok (hX : fx_xo X) : ∀ {stk : List fx_V} {st : List Value}, fx_rl X stk st → (st.map fun v => v.category).sum = fx_cats stk := by
  intro stk
  induction stk with
  | nil => intro st hh; rw [fx_rl_nil hh]; rfl
  | cons v stk ih =>
    intro st hh
    obtain ⟨w, st1, rfl, h1, h2⟩ := fx_rl_cons hh
    rw [List.map_cons, List.sum_cons, ih h2, fx_cat_of hX h1]
    rfl
theorem fx_s22 (F : fx_fs X Y B mst mt p s m args meth c cc nL own ini rt cod) (hX : fx_xo X) (hoi : Cond.instanceMethod Lib.objectInit ∈ fx_tb ∧ Cond.code Lib.objectInit ⟨#[0xb1]⟩ 1 none ∈ fx_tb) (hR : dd ≤ R.frames ∧ 60 * dd ≤ R.locals) (hgo : fx_gok l X Y p e R s m args below meth c Q nL cod mc msl go) (hin : (pc, 22, a, b, d) ∈ cod) (htl : ∀ q ∈ tl, q ∈ cod) (ee : fx_k22 go dd pc tl loc stk ce sl h j = true) (hs : fx_st X Y nL loc stk h j H locs ls st) (hce : ce ≤ mc) (hsl : sl ≤ msl) : W p l e R s m args below meth c H locs ce sl Q (F0 m pc ls st) := by
  obtain ⟨hx, hb, hml, hown, hts, -, -, -, hcx, -, hcod⟩ := F
  obtain ⟨hd, ha⟩ := hcod _ _ _ _ _ hin (by decide)
  have hlink := ha.2.2.2.2.2.2.2.2.2.2.1 rfl
  obtain ⟨hl0, hst, hrh, hrj, hls⟩ := hs
  rcases stk with _ | ⟨v, stk⟩
  · cases ee
  rcases v with n | v | (_ | r) | v
  · cases ee
  · cases ee
  · cases ee
  · obtain ⟨w, st1, rfl, hrv, hst1⟩ := fx_rl_cons hst
    have hw : w = fx_ad X r := hrv
    subst hw
    simp only [fx_k22] at ee
    obtain ⟨e1, e2⟩ := fx_and ee
    obtain ⟨e3, e4⟩ := fx_and e1
    obtain ⟨e5, e6⟩ := fx_and e4
    have e3 := fx_blt e3
    have e6 := fx_ble e6
    rw [fx_ad_lt (fx_blt e5)]
    have hsum := fx_cats_ok hX hst1
    obtain ⟨lv, hlv, hrn⟩ := hl0
    refine W.objInit hx hb hown (hts _ hlink) (hts _ hoi.1) (hts _ hoi.2) rfl (by rw [hml]; exact hlv.1) rfl hd (by omega) ?_ (fx_nxt hgo htl e2 ⟨⟨lv, hlv, hrn⟩, hst1, hrh, hrj, hls⟩ hce hsl)
    show 2 * 0 + (st1.map fun v => v.category).sum + 12 ≤ R.locals
    omega
  · cases ee
theorem fx_ints_ok {u : List (Nat × fx_V)} {sp : Nat} : ∀ {n : Nat}, fx_ints u sp n = true → ∀ i, i < n → fx_int (fx_aget 0 u (sp + i)) = true := by
  intro n
  induction n with
  | zero => intro _ i hi; omega
  | succ n ih =>
    intro ee i hi
    obtain ⟨e1, e2⟩ := fx_and (a := fx_int (fx_aget 0 u (sp + n))) (b := fx_ints u sp n) ee
    by_cases hn : i = n
    · subst hn; exact e1
    · exact ih e2 i (by omega)
theorem fx_s23 (F : fx_fs X Y B mst mt p s m args meth c cc nL own ini rt cod) (hX : fx_xo X) (hac : Cond.native arraycopyName ∈ fx_tb ∧ Cond.static arraycopyName ∈ fx_tb ∧ Cond.initialized "java/lang/System" ∈ fx_tb) (hR : dd ≤ R.frames ∧ 60 * dd ≤ R.locals) (hgo : fx_gok l X Y p e R s m args below meth c Q nL cod mc msl go) (hin : (pc, 23, a, b, d) ∈ cod) (htl : ∀ q ∈ tl, q ∈ cod) (ee : fx_k23 go dd pc tl loc stk ce sl h j = true) (hs : fx_st X Y nL loc stk h j H locs ls st) (hce : ce ≤ mc) (hsl : sl ≤ msl) : W p l e R s m args below meth c H locs ce sl Q (F0 m pc ls st) := by
  obtain ⟨hx, hb, hml, hown, hts, -, -, -, hcx, -, hcod⟩ := F
  obtain ⟨hd, ha⟩ := hcod _ _ _ _ _ hin (by decide)
  have hlink := ha.2.2.2.2.2.2.2.2.2.2.2.1 rfl
  obtain ⟨hl0, hst, hrh, hrj, hls⟩ := hs
  rcases stk with _ | ⟨v1, _ | ⟨v2, _ | ⟨v3, _ | ⟨v4, _ | ⟨v5, stk⟩⟩⟩⟩⟩
  · cases ee
  · rcases v1 with n | v | r | v <;> cases ee
  · rcases v1 with n | v | r | v
    · rcases v2 with dp | v | r | v <;> cases ee
    · cases ee
    · cases ee
    · cases ee
  · rcases v1 with n | v | r | v
    · rcases v2 with dp | v | r | v
      · rcases v3 with q | v | (_ | r) | v <;> cases ee
      · cases ee
      · cases ee
      · cases ee
    · cases ee
    · cases ee
    · cases ee
  · rcases v1 with n | v | r | v
    · rcases v2 with dp | v | r | v
      · rcases v3 with q | v | (_ | r) | v
        · cases ee
        · cases ee
        · cases ee
        · rcases v4 with sp | v | r4 | v <;> cases ee
        · cases ee
      · cases ee
      · cases ee
      · cases ee
    · cases ee
    · cases ee
    · cases ee
  · rcases v1 with n | v | r | v
    rotate_left
    · cases ee
    · cases ee
    · cases ee
    rcases v2 with dp | v | r | v
    rotate_left
    · cases ee
    · cases ee
    · cases ee
    rcases v3 with q | v | (_ | r) | v
    · cases ee
    · cases ee
    · cases ee
    rotate_left
    · cases ee
    rcases v4 with sp | v | r4 | v
    rotate_left
    · cases ee
    · cases ee
    · cases ee
    rcases v5 with q | v | (_ | r0) | v
    · cases ee
    · cases ee
    · cases ee
    rotate_left
    · cases ee
    obtain ⟨w1, st1, rfl, hr1, hst1⟩ := fx_rl_cons hst
    obtain ⟨w2, st2, rfl, hr2, hst2⟩ := fx_rl_cons hst1
    obtain ⟨w3, st3, rfl, hr3, hst3⟩ := fx_rl_cons hst2
    obtain ⟨w4, st4, rfl, hr4, hst4⟩ := fx_rl_cons hst3
    obtain ⟨w5, st5, rfl, hr5, hst5⟩ := fx_rl_cons hst4
    have hr1 : w1 = .int (Int32.ofNat n) := hr1
    have hr2 : w2 = .int (Int32.ofNat dp) := hr2
    have hr3 : w3 = fx_ad X r := hr3
    have hr4 : w4 = .int (Int32.ofNat sp) := hr4
    have hr5 : w5 = fx_ad X r0 := hr5
    subst hr1; subst hr2; subst hr3; subst hr4; subst hr5
    cases hg0 : fx_hget h r0 with
    | none => simp [fx_k23, hg0] at ee
    | some q0 =>
      rcases q0 with u | u | ⟨ty0, len0, u0⟩
      · simp [fx_k23, hg0] at ee
      · simp [fx_k23, hg0] at ee
      · cases ty0 with
        | succ t => simp [fx_k23, hg0] at ee
        | zero =>
          cases hg : fx_hget h r with
          | none => simp [fx_k23, hg0, hg] at ee
          | some q =>
            rcases q with u | u | ⟨ty, len, u⟩
            · simp [fx_k23, hg0, hg] at ee
            · simp [fx_k23, hg0, hg] at ee
            · cases ty with
              | succ t => simp [fx_k23, hg0, hg] at ee
              | zero =>
                simp only [fx_k23, hg0, hg] at ee
                obtain ⟨e1, e2⟩ := fx_and ee
                obtain ⟨e3, e4⟩ := fx_and e1
                obtain ⟨e5, e6⟩ := fx_and e3
                obtain ⟨e7, e8⟩ := fx_and e4
                obtain ⟨e9, e10⟩ := fx_and e8
                have e5 := fx_blt e5
                have e6 := fx_ble e6
                have e7 := fx_ble e7
                have e9 := fx_ble e9
                obtain ⟨u', e11, hu'⟩ := fx_copy_ok e2
                obtain ⟨h', e12, f1, ⟨c0, f2⟩, f3, f4⟩ := fx_hset_ok e11
                obtain ⟨fa, g1, g2, g3, g4, g5⟩ := fx_arr hrh hg0
                obtain ⟨fb, k1, k2, k3, k4, k5⟩ := fx_arr hrh hg
                rw [g5, k5]
                have hsum := fx_cats_ok hX hst5
                obtain ⟨lv, hlv, hrn⟩ := hl0
                have cn := fx_clamp (n := n) (by omega)
                have cs := fx_clamp (n := sp) (by omega)
                have cd := fx_clamp (n := dp) (by omega)
                have in_ := fx_o_int (n := n) (by omega)
                have is_ := fx_o_int (n := sp) (by omega)
                have id_ := fx_o_int (n := dp) (by omega)
                intro T hT XS
                obtain ⟨-, ks, hks, cm0, hkk0⟩ := (hcx.2.1 0 g3).1 len0 fa
                obtain ⟨vm', X', step⟩ := XS.arraycopy hx hown (hts _ hlink) (hts _ hac.1) (hts _ hac.2.1) (hts _ hac.2.2) (src := X.2.1 + r0) (dst := X.2.1 + r) (cs := arrV (Y.2.1 0) len0 fa) (cd := arrV (Y.2.1 0) len fb) (srcPos := Int32.ofNat sp) (destPos := Int32.ofNat dp) (n := Int32.ofNat n) (by rw [hT]; exact g1) (by rw [hT]; exact k1)
                  (fun _ h => by cases h) (fun _ h => by cases h) (fun h => by cases h) (fun h => by cases h) hks hks hkk0 hkk0 (by simp [refKind, fx_ty]) (nI_pos (by omega)) (nI_pos (by omega)) (nI_pos (by omega))
                  (by rw [in_, is_, arrV_size]; omega) (by rw [in_, id_, arrV_size]; omega)
                  (fun vm₁ _ i hi => by
                    rw [cn] at hi
                    have e : (arrV (Y.2.1 0) len0 fa).slots.getD ((Int32.ofNat sp).toNatClampNeg + i) .null = fa (sp + i) := by
                      rw [cs, Array.getD_eq_getD_getElem?, arrV_read _ _ (by omega)]
                      rfl
                    obtain ⟨z, hz⟩ := fx_rv_int (g4 (sp + i)) (fx_ints_ok e10 i hi)
                    rw [e, hz]
                    exact ⟨rfl, trivial⟩)
                  (g := F0 m pc ls (.int (Int32.ofNat n) :: .int (Int32.ofNat dp) :: .ref (X.2.1 + r) :: .int (Int32.ofNat sp) :: .ref (X.2.1 + r0) :: st5)) rfl (by rw [hml]; exact hlv.1) (rest := st5) rfl (by rw [hb]; exact hd) (by omega) (by
                    have hnw : nativeFrameWords "java/lang/System" "arraycopy" 5 = 7 := by decide
                    rw [hnw]
                    show 2 * 0 + _ + _ ≤ _
                    omega)
                have ec : copied (arrV (Y.2.1 0) len0 fa) (arrV (Y.2.1 0) len fb) (Int32.ofNat sp) (Int32.ofNat dp) (Int32.ofNat n) = arrV (Y.2.1 0) len (va_cpy fa fb sp dp n) := by
                  have := va_copied (fun z : Value => z) (Y.2.1 0) (Y.2.1 0) (n0 := len0) (n1 := len) (sp := sp) (dp := dp) (n := n) fa fb e7
                  show (arrV (Y.2.1 0) len fb).storeRun (Int32.ofNat dp).toNatClampNeg ((arrV (Y.2.1 0) len0 fa).stretch (Int32.ofNat sp).toNatClampNeg (Int32.ofNat n).toNatClampNeg) = _
                  rw [cn, cs, cd]
                  exact this
                rw [ec] at X' step
                have hl : X.2.1 + r < H.size := (Array.getElem?_eq_some_iff.mp k1).1
                have hheap : ((T.setVm vm').setCell (X.2.1 + r) (arrV (Y.2.1 0) len (va_cpy fa fb sp dp n))).heap = H.setIfInBounds (X.2.1 + r) (arrV (Y.2.1 0) len (va_cpy fa fb sp dp n)) := by rw [← hT]; rfl
                have oq : ∀ q : Nat, q ≠ X.2.1 + r → (H.setIfInBounds (X.2.1 + r) (arrV (Y.2.1 0) len (va_cpy fa fb sp dp n)))[q]? = H[q]? := fun q hq => by simp [Array.getElem?_setIfInBounds, Ne.symm hq]
                have K := fx_nxt hgo htl e12 (H := H.setIfInBounds (X.2.1 + r) (arrV (Y.2.1 0) len (va_cpy fa fb sp dp n))) (locs := locs ++ ((arrV (Y.2.1 0) len0 fa).stretch (Int32.ofNat sp).toNatClampNeg (Int32.ofNat n).toNatClampNeg).zipIdx.map fun q => ⟨X.2.1 + r, (Int32.ofNat dp).toNatClampNeg + q.2⟩) (ls := ls) (st := st5)
                  ⟨⟨lv, hlv, hrn⟩, hst5, fx_rh_set hrh f1 f2 f3 f4 (by simp) oq ⟨va_cpy fa fb sp dp n, by simp [Array.getElem?_setIfInBounds, hl], k2, k3, fun i => by
                    rw [hu' i]
                    unfold va_cpy
                    by_cases hi : dp ≤ i ∧ i < dp + n
                    · rw [if_pos hi, if_pos hi]; exact g4 _
                    · rw [if_neg hi, if_neg hi]; exact k4 _⟩, hrj, fun q hq => by
                    rcases List.mem_append.mp hq with h1 | h1
                    · exact hls q h1
                    · obtain ⟨z, -, hz⟩ := List.mem_map.mp h1
                      rw [← hz]
                      exact Nat.le_add_right _ _⟩ hce hsl
                obtain ⟨t, a1, b1⟩ := K _ hheap X'
                exact ⟨t, step t a1, b1⟩
theorem fx_s24 (F : fx_fs X Y B mst mt p s m args meth c cc nL own ini rt cod) (hgo : fx_gok l X Y p e R s m args below meth c Q nL cod mc msl go) (hin : (pc, 24, a, b, d) ∈ cod) (htl : ∀ q ∈ tl, q ∈ cod) (ee : fx_k24 go pc a tl loc stk ce sl h j = true) (hs : fx_st X Y nL loc stk h j H locs ls st) (hce : ce ≤ mc) (hsl : sl ≤ msl) : W p l e R s m args below meth c H locs ce sl Q (F0 m pc ls st) := by
  obtain ⟨hx, hb, hml, hown, hts, -, -, -, hcx, -, hcod⟩ := F
  obtain ⟨hd, ha⟩ := hcod _ _ _ _ _ hin (by decide)
  have ho := ha.2.2.2.2.2.2.2.2.2.2.2.2.1 rfl
  obtain ⟨hl0, hst, hrh, hrj, hls⟩ := hs
  rcases stk with _ | ⟨v1, _ | ⟨v2, stk⟩⟩
  · cases ee
  · rcases v1 with n | v | r | v <;> cases ee
  · rcases v1 with n | v | r | y
    · cases ee
    · cases ee
    · cases ee
    · rcases v2 with n | v | r | x
      · cases ee
      · cases ee
      · cases ee
      · obtain ⟨w1, st1, rfl, hr1, hst1⟩ := fx_rl_cons hst
        obtain ⟨w2, st2, rfl, hr2, hst2⟩ := fx_rl_cons hst1
        have hr1 : w1 = .long (Int64.ofNat y) := hr1
        have hr2 : w2 = .long (Int64.ofNat x) := hr2
        subst hr1; subst hr2
        cases hl : fx_lbin a x y with
        | none => simp [fx_k24, hl] at ee
        | some n =>
          simp only [fx_k24, hl] at ee
          rw [fx_num_eq] at ee
          have K := fx_nxt hgo htl ee (H := H) (locs := locs) (ls := ls) (st := .long (Int64.ofNat n) :: st2) ⟨hl0, ⟨rfl, hst2⟩, hrh, hrj, hls⟩ hce hsl
          rcases (by omega : a = 0 ∨ a = 1 ∨ a = 2) with rfl | rfl | rfl
          · cases hl
            rw [fl_add] at K
            exact lv_ladd hx hb hd K
          · cases hl
            rw [fl_sub] at K
            exact lv_lsub hx hb hd K
          · cases hl
            rw [fl_mul] at K
            exact lv_lmul hx hb hd K
theorem fx_s25 (F : fx_fs X Y B mst mt p s m args meth c cc nL own ini rt cod) (hXX : fx_xx X B) (hgo : fx_gok l X Y p e R s m args below meth c Q nL cod mc msl go) (hin : (pc, 25, a, b, d) ∈ cod) (htl : ∀ q ∈ tl, q ∈ cod) (ee : fx_k25 go pc b tl loc stk ce sl h j = true) (hs : fx_st X Y nL loc stk h j H locs ls st) (hce : ce ≤ mc) (hsl : sl ≤ msl) : W p l e R s m args below meth c H locs ce sl Q (F0 m pc ls st) := by
  obtain ⟨hx, hb, hml, hown, hts, -, -, -, hcx, -, hcod⟩ := F
  obtain ⟨hd, ha⟩ := hcod _ _ _ _ _ hin (by decide)
  have ha := ha.2.2.2.2.2.2.2.2.2.2.2.2.2.1 rfl
  obtain ⟨hl0, hst, hrh, hrj, hls⟩ := hs
  obtain ⟨hxo, -, hxs, h8, hL, hb0, hb1, hb2, hbl⟩ := hXX
  rcases stk with _ | ⟨v, stk⟩
  · cases ee
  rcases v with n | v | (_ | r) | v
  · cases ee
  · cases ee
  · cases ee
  · obtain ⟨w, st1, rfl, hrv, hst1⟩ := fx_rl_cons hst
    have hw : w = fx_ad X r := hrv
    subst hw
    simp only [fx_k25] at ee
    obtain ⟨e1, e2⟩ := fx_and ee
    have := fx_beq e1
    subst this
    rw [hb1]
    cases h0 : Nat.beq b 0 with
    | true =>
      have := fx_beq h0
      subst this
      rw [h0, fx_if_t] at e2
      obtain ⟨cf, kf, fi, f, cell, g1, g2, g3, g4, g5, g6⟩ := hcx.2.2.2.2.2.2.2.1
      exact W.getf hx hb hown (hts _ (ha.1 rfl)) g1 g2 (by rw [hrh.2.2 _ (Nat.not_le.mp g6)]; exact g3) g4 g5 rfl rfl hd (fx_nxt hgo htl e2 ⟨hl0, ⟨hb2.symm, hst1⟩, hrh, hrj, hls⟩ hce hsl)
    | false =>
      rw [h0, fx_if_f] at e2
      obtain ⟨e3, e4⟩ := fx_and e2
      have := fx_beq e3
      subst this
      obtain ⟨cf, kf, fi, f, cell, g1, g2, g3, g4, g5, g6⟩ := hcx.2.2.2.2.2.2.2.2.1
      exact W.getf hx hb hown (hts _ (ha.2 rfl)) g1 g2 (by rw [hrh.2.2 _ (Nat.not_le.mp g6)]; exact g3) g4 g5 rfl rfl hd (fx_nxt hgo htl e4 ⟨hl0, ⟨rfl, hst1⟩, hrh, hrj, hls⟩ hce hsl)
  · cases ee
theorem fx_wgs {C n d0 : String} {v : Value} {stt : List Value} (hx : p.tables.exec = Jvm.exec) (hb : c.code = cc) (hrh : fx_rh X Y h H) (hown : s.vm.findClass own = some m.cls) (hZ : va_Z C n d0 v (fun q => X.2.1 ≤ q) s Y.2.2.1) (hlink : (Cond.fieldLink own a C n d0).before args s = true) (hd : decode cc pc = .ok (.getstatic a, 3)) (K : W p l e R s m args below meth c H locs ce sl Q (F0 m (pc + 3) ls (v :: stt))) : W p l e R s m args below meth c H locs ce sl Q (F0 m pc ls stt) := by
  obtain ⟨cf, kf, fi, f, q, cell, h1, h2, h3, h4, h5, h6, h7, h8⟩ := hZ
  exact W.gets hx hb hown hlink h1 h2 h3 h4 (by rw [hrh.2.2 _ (Nat.not_le.mp h8)]; exact h5) (fun e => by rw [e] at h6; cases h6) h7 rfl hd K
theorem fx_s26 (F : fx_fs X Y B mst mt p s m args meth c cc nL own ini rt cod) (hgo : fx_gok l X Y p e R s m args below meth c Q nL cod mc msl go) (hin : (pc, 26, a, b, d) ∈ cod) (htl : ∀ q ∈ tl, q ∈ cod) (ee : fx_k26 go pc b tl loc stk ce sl h j = true) (hs : fx_st X Y nL loc stk h j H locs ls st) (hce : ce ≤ mc) (hsl : sl ≤ msl) : W p l e R s m args below meth c H locs ce sl Q (F0 m pc ls st) := by
  obtain ⟨hx, hb, hml, hown, hts, -, -, -, hcx, -, hcod⟩ := F
  obtain ⟨hd, ha⟩ := hcod _ _ _ _ _ hin (by decide)
  have ha := ha.2.2.2.2.2.2.2.2.2.2.2.2.2.2.1 rfl
  obtain ⟨hl0, hst, hrh, hrj, hls⟩ := hs
  unfold fx_k26 at ee
  cases h0 : Nat.beq b 0 with
  | true =>
    have := fx_beq h0
    subst this
    rw [h0, fx_if_t] at ee
    exact fx_wgs hx hb hrh hown hcx.2.2.2.2.1 (hts _ (ha.1 rfl)) hd (fx_nxt hgo htl ee ⟨hl0, ⟨rfl, hst⟩, hrh, hrj, hls⟩ hce hsl)
  | false =>
    rw [h0, fx_if_f] at ee
    obtain ⟨e3, e4⟩ := fx_and ee
    have := fx_beq e3
    subst this
    exact fx_wgs hx hb hrh hown hcx.2.2.2.2.2.1 (hts _ (ha.2 rfl)) hd (fx_nxt hgo htl e4 ⟨hl0, ⟨rfl, hst⟩, hrh, hrj, hls⟩ hce hsl)
theorem fx_s27 (F : fx_fs X Y B mst mt p s m args meth c cc nL own ini rt cod) (hXX : fx_xx X B) (hgo : fx_gok l X Y p e R s m args below meth c Q nL cod mc msl go) (hin : (pc, 27, a, b, d) ∈ cod) (htl : ∀ q ∈ tl, q ∈ cod) (ee : fx_nx (fun t => go t loc (fr 1000001 :: stk) ce sl h j) pc 2 tl = true) (hs : fx_st X Y nL loc stk h j H locs ls st) (hce : ce ≤ mc) (hsl : sl ≤ msl) : W p l e R s m args below meth c H locs ce sl Q (F0 m pc ls st) := by
  obtain ⟨hx, hb, hml, hown, hts, -, -, -, hcx, -, hcod⟩ := F
  obtain ⟨hd, ha⟩ := hcod _ _ _ _ _ hin (by decide)
  obtain ⟨ho, rfl⟩ := ha.2.2.2.2.2.2.2.2.2.2.2.2.2.2.2.1 rfl
  subst ho
  obtain ⟨hl0, hst, hrh, hrj, hls⟩ := hs
  obtain ⟨hxo, -, hxs, h8, hL, hb0, hb1, hb2, hbl⟩ := hXX
  exact va_ldcS hx hb hown hcx.2.2.2.1 hd (fx_nxt hgo htl ee ⟨hl0, ⟨hb1.symm, hst⟩, hrh, hrj, hls⟩ hce hsl)
theorem fx_s29 (F : fx_fs X Y B mst mt p s m args meth c cc nL own ini rt cod) (hX : fx_xo X) (hma : (Cond.static Lib.Math.max.name ∈ fx_tb ∧ Cond.code Lib.Math.max.name Lib.Math.max.code 2 (some .int) ∈ fx_tb) ∧ (Cond.static Lib.Math.min.name ∈ fx_tb ∧ Cond.code Lib.Math.min.name Lib.Math.min.code 2 (some .int) ∈ fx_tb) ∧ Cond.initialized "java/lang/Math" ∈ fx_tb) (hR : dd ≤ R.frames ∧ 60 * dd ≤ R.locals ∧ mc ≤ R.cells ∧ msl ≤ R.slots) (hgo : fx_gok l X Y p e R s m args below meth c Q nL cod mc msl go) (hin : (pc, 29, a, b, d) ∈ cod) (htl : ∀ q ∈ tl, q ∈ cod) (ee : fx_k29 go dd pc b tl loc stk ce sl h j = true) (hs : fx_st X Y nL loc stk h j H locs ls st) (hce : ce ≤ mc) (hsl : sl ≤ msl) : W p l e R s m args below meth c H locs ce sl Q (F0 m pc ls st) := by
  obtain ⟨hx, hb, hml, hown, hts, -, -, -, hcx, -, hcod⟩ := F
  obtain ⟨hd, ha⟩ := hcod _ _ _ _ _ hin (by decide)
  have ha := ha.2.2.2.2.2.2.2.2.2.2.2.2.2.2.2.2.2.2 rfl
  obtain ⟨hl0, hst, hrh, hrj, hls⟩ := hs
  rcases stk with _ | ⟨y, _ | ⟨x, stk⟩⟩
  · cases ee
  · cases ee
  obtain ⟨wy, st1, rfl, hry, hst1⟩ := fx_rl_cons hst
  obtain ⟨wx, st2, rfl, hrx, hst2⟩ := fx_rl_cons hst1
  simp only [fx_k29] at ee
  obtain ⟨y', e1, hry', -⟩ := fx_nz_ok hrj hry ee
  obtain ⟨x', e2, hrx', -⟩ := fx_nz_ok hrj hrx e1
  rcases y' with v | v | v | v
  · rcases x' with u | u | u | u
    · have hry' : wy = .int (Int32.ofNat v) := hry'
      have hrx' : wx = .int (Int32.ofNat u) := hrx'
      subst hry'; subst hrx'
      simp only at e2
      obtain ⟨e3, e4⟩ := fx_and e2
      obtain ⟨e5, e6⟩ := fx_and e3
      have e5 := fx_blt e5
      have e6 := fx_ble e6
      have hsum := fx_cats_ok hX hst2
      obtain ⟨lv, hlv, hrn⟩ := hl0
      have K : ∀ n, fx_nx (fun t => go t loc (fc n :: stk) ce sl h j) pc 3 tl = true → W p l e R s m args below meth c H locs ce sl Q (F0 m (pc + 3) ls (.int (Int32.ofNat n) :: st2)) := fun n q => fx_nxt hgo htl q ⟨⟨lv, hlv, hrn⟩, ⟨rfl, hst2⟩, hrh, hrj, hls⟩ hce hsl
      have hlt : ∀ n k : Nat, Nat.blt (fx_b n) (fx_b k) = decide (Int32.ofNat n < Int32.ofNat k) := fun n k => by
        rw [Bool.eq_iff_iff, decide_eq_true_iff, fx_z_lt, fx_z_of, fx_z_of]
        exact ⟨fx_blt, fun q => Nat.ble_eq_true_of_le q⟩
      cases h0 : Nat.beq b 0 with
      | true =>
        have := fx_beq h0
        subst this
        rw [h0, fx_if_t] at e4
        refine va_mmax hx hb (by rw [hml]; exact hlv.1.symm) hown (hts _ (ha.1 rfl)) (hts _ hma.1.1) (hts _ hma.2.2) (hts _ hma.1.2) (by omega) (by omega) (by omega) (by omega) hd ?_
        by_cases hq : Int32.ofNat u < Int32.ofNat v
        · rw [hlt, decide_eq_true hq, fx_if_t] at e4
          rw [if_pos hq]
          exact K v e4
        · rw [hlt, decide_eq_false hq, fx_if_f] at e4
          rw [if_neg hq]
          exact K u e4
      | false =>
        rw [h0, fx_if_f] at e4
        obtain ⟨e7, e8⟩ := fx_and e4
        have := fx_beq e7
        subst this
        refine va_mmin hx hb (by rw [hml]; exact hlv.1.symm) hown (hts _ (ha.2 rfl)) (hts _ hma.2.1.1) (hts _ hma.2.2) (hts _ hma.2.1.2) (by omega) (by omega) (by omega) (by omega) hd ?_
        by_cases hq : Int32.ofNat v < Int32.ofNat u
        · rw [hlt, decide_eq_true hq, fx_if_t] at e8
          rw [if_pos hq]
          exact K v e8
        · rw [hlt, decide_eq_false hq, fx_if_f] at e8
          rw [if_neg hq]
          exact K u e8
    · cases e2
    · cases e2
    · cases e2
  · cases e2
  · cases e2
  · cases e2
end FXF
end
section
abbrev fx_ws (S : fx_S) : List Cond := Cond.code S.1 S.2.1 S.2.2.1 S.2.2.2 :: fx_tb
theorem fx_goodin {S : fx_S} (hc : Cond.code S.1 S.2.1 S.2.2.1 S.2.2.2 ∈ fx_tb) : GoodIn fx_tb (fx_ws S) := fun w hw => by
  have hm : w ∈ fx_tb := by
    rcases List.mem_cons.mp hw with rfl | h1
    · exact hc
    · exact h1
  exact ⟨hm, good_of_word (List.mem_filter.mp hm).2⟩
def fx_rmx (d mc ms : Nat) : Room := { frames := d, cells := mc, slots := ms, locals := 60 * d }
def fx_mok (ms : Nat → Option fx_S) (mt : Nat → Option fx_M) (S : fx_S) (M : fx_M) : Prop := plainName S.1.cls = true ∧ Cond.code S.1 S.2.1 S.2.2.1 S.2.2.2 ∈ fx_tb ∧ Cond.initialized S.1.cls ∈ fx_tb ∧ (S.1.cls ≠ "java/lang/invoke/MethodHandle" ∧ S.1.cls ≠ "java/lang/invoke/VarHandle") ∧ S.2.2.1 ≤ 41 ∧ M.2.2.2.2.2 = S.2.2.1 ∧ (parseMethodDescriptor S.1.desc).map (fun d => d.parameters.length) = some (if M.2.2.2.2.1 = 0 then M.2.1 else M.2.1 - 1) ∧ fx_pc M.1 = 0 ∧
  ∀ pc kd a b d, (pc, kd, a, b, d) ∈ M.1 → kd ≠ 28 ∧ decode S.2.1 pc = .ok (fx_ins pc kd a b d) ∧ fx_an ms mt S.1.cls (S.1.name == "<init>") S.2.2.2 S.2.2.1 kd a b d
def fx_mall (ms : Nat → Option fx_S) (mt : Nat → Option fx_M) : Prop := ∀ c M, mt c = some M → ∃ S, ms c = some S ∧ fx_mok ms mt S M
def fx_Pc (X : fx_X) (Y : fx_Y) (B : fx_B) (as : List Value) (H : Heap) : Array Value → State → Prop := fun v U => v = as.toArray ∧ U.heap = H ∧ fx_cx X Y B U
def fx_Qc (KQ : Option Value → Heap → Prop) : Array Value → State → Outcome → State → Prop := fun _ _ o t => ∃ w, o = .returned w ∧ KQ w t.heap
def fx_met (l : Launch) (X : fx_X) (Y : fx_Y) (B : fx_B) (S : fx_S) (d mc ms : Nat) (as : List Value) (H : Heap) (KQ : Option Value → Heap → Prop) : Prop := Met l S.1 (fx_ws S) (fx_rmx d mc ms) (fx_Pc X Y B as H) (fx_Qc KQ) mc ms (fun q => X.2.1 ≤ q)
def fx_cu (l : Launch) (X : fx_X) (Y : fx_Y) (E : fx_E) (p : Program) (e : Env) (R : Room) (s : State) (m : MethodId) (args : Array Value) (below : List Frame) (meth : Method) (c : Code) (Q : State → Prop) (nL : Nat) (cod : List fx_I) (mc ms : Nat) : Prop :=
  ∀ q ∈ cod, q.2.1 = 28 → ∀ loc h j H locs ls ce sl, E.2.2.2.2 loc h j = true → fx_st X Y nL loc [] h j H locs ls [] → ce ≤ mc → sl ≤ ms → W p l e R s m args below meth c H locs ce sl Q (F0 m q.1 ls [])
def fx_snd (l : Launch) (X : fx_X) (Y : fx_Y) (B : fx_B) (mst : Nat → Option fx_S) (E : fx_E) (f : fx_G) : Prop :=
  (∀ d cod loc stk ce sl mc ms h j k, f d cod [] loc stk ce sl mc ms h j k = false) ∧
  ∀ d cod at_ loc stk ce sl mc ms h j k, f d cod at_ loc stk ce sl mc ms h j k = true → ∀ (p : Program) (e : Env) (R : Room) (s : State) (m : MethodId) (args : Array Value) (below : List Frame) (meth : Method) (c : Code) (Q : State → Prop) (cc : ByteArray) (nL : Nat) (own : String) (ini : Bool) (rt : Option FieldType),
    fx_fs X Y B mst E.1 p s m args meth c cc nL own ini rt cod → fx_rm R d mc ms → (∀ q ∈ at_, q ∈ cod) → fx_rt l X Y p e R s m args below meth c Q cc rt mc ms k → fx_cu l X Y E p e R s m args below meth c Q nL cod mc ms →
    ∀ H locs ls st, fx_st X Y nL loc stk h j H locs ls st → ce ≤ mc → sl ≤ ms → W p l e R s m args below meth c H locs ce sl Q (F0 m (fx_pc at_) ls st)
theorem fx_args_ok {X : fx_X} (hX : fx_xo X) : ∀ {as : List fx_V} {av : List Value} (i : Nat), fx_rl X as av → fx_rn X (fx_args as i) (lv_args i av) := by
  intro as
  induction as with
  | nil => intro av i h; rw [fx_rl_nil h]; trivial
  | cons v as ih =>
    intro av i h
    obtain ⟨w, av, rfl, h1, h2⟩ := fx_rl_cons h
    refine ⟨⟨rfl, h1⟩, ?_⟩
    have hc := fx_cat_of hX h1
    have e : (if w.category = 2 then i + 2 else i + 1) = i + fx_cat v := by
      rcases lv_cat w with q | q
      · rw [if_neg (by omega)]; omega
      · rw [if_pos q]; omega
    show fx_rn X (fx_args as (i + fx_cat v)) (lv_args (if w.category = 2 then i + 2 else i + 1) av)
    rw [e]
    exact ih _ h2
theorem fx_sl_len {X : fx_X} (hX : fx_xo X) : ∀ {as : List fx_V} {av : List Value}, fx_rl X as av → (lg_sl av).length = fx_cats as := by
  intro as
  induction as with
  | nil => intro av h; rw [fx_rl_nil h]; rfl
  | cons v as ih =>
    intro av h
    obtain ⟨w, av, rfl, h1, h2⟩ := fx_rl_cons h
    have hc := fx_cat_of hX h1
    have e : lg_sl (w :: av) = (if w.category = 2 then [.val w, .second] else [.val w]) ++ lg_sl av := rfl
    rw [e, List.length_append, ih h2]
    show _ = fx_cat v + fx_cats as
    rcases lv_cat w with q | q
    · rw [if_neg (by omega)]
      show 1 + _ = _
      omega
    · rw [if_pos q]
      show 2 + _ = _
      omega
theorem fx_blind {X : fx_X} {Y : fx_Y} {B : fx_B} {as : List Value} {H : Heap} : FrameBlind (fx_Pc X Y B as H) := fun a U g mk h => ⟨h.1, h.2.1, fx_cx.moved (U := U.calling g mk a) (State.WarmedH.refl U) h.2.2⟩
/-- a method's contract, by the executor -/
theorem fx_met_of {l : Launch} {X : fx_X} {Y : fx_Y} {B : fx_B} {mst : Nat → Option fx_S} {E : fx_E} {f : fx_G} (hf : fx_snd l X Y B mst E f) (hX : fx_xo X) {S : fx_S} {M : fx_M} (hM : fx_mok mst E.1 S M) {d mc ms : Nat} {as : List fx_V} {av : List Value} {h : fx_H} {j : fx_J} {k : fx_K} {H : Heap} (ee : f d M.1 M.1 (fx_args as 0) [] 0 0 mc ms h j k = true) (hra : fx_rl X as av) (hrh : fx_rh X Y h H) (hrj : fx_rj X j) (hcat : fx_cats as ≤ M.2.2.2.2.2) {KQ : Option Value → Heap → Prop} (hK : ∀ v w h' j' H', k v h' j' = true → fx_ro X v w → fx_rh X Y h' H' → fx_rj X j' → KQ w H') : fx_met l X Y B S d mc ms av H KQ := by
  obtain ⟨hpl, hcode, hini, hne, h41, hnl, hdesc, hpc, hall⟩ := hM
  refine Met.ofW (cc := S.2.1) (maxL := S.2.2.1) (ret := S.2.2.2) hpl rfl ?_
  intro p e s m args below meth c s₁ BB hml hv
  obtain ⟨rfl, hH, hcx⟩ := hv
  have hts0 := atoms_spec (ws := fx_ws S) BB.pre
  have hown : s.vm.findClass S.1.cls = some m.cls := findClass_of_methodNamed BB.named
  have hnm : meth.name = S.1.name := (name_of_methodNamed BB.named BB.method).1
  have hl := lv_entry av (n := S.2.2.1) (by rw [fx_sl_len hX hra, ← hnl]; exact hcat)
  rw [lg_entry_eq]
  generalize (lg_sl av ++ List.replicate (S.2.2.1 - (lg_sl av).length) Slot.unset).toArray = ls at hl ⊢
  have F : fx_fs X Y B mst E.1 p s m av.toArray meth c S.2.1 S.2.2.1 S.1.cls (S.1.name == "<init>") S.2.2.2 M.1 := ⟨BB.exec, BB.bytes, hml, hown, fun w hw => hts0 w (List.mem_cons_of_mem _ hw), BB.notSynchronized, fun q => by rw [hnm]; simpa using q, BB.returns, hcx, by rw [hH, hrh.1]; omega, fun pc kd a b d hin _ => (hall pc kd a b d hin).2⟩
  have K := hf.2 d M.1 M.1 (fx_args as 0) [] 0 0 mc ms h j k ee p e (fx_rmx d mc ms) s m av.toArray below meth c (MQ below (fx_Qc KQ) av.toArray s mc ms (fun q => X.2.1 ≤ q)) S.2.1 S.2.2.1 S.1.cls (S.1.name == "<init>") S.2.2.2 F ⟨Nat.le_refl _, Nat.le_refl _, Nat.le_refl _, Nat.le_refl _⟩ (fun _ hq => hq) ?_ ?_ s.heap [] ls [] ⟨⟨_, hl, fx_args_ok hX 0 hra⟩, trivial, by rw [hH]; exact hrh, hrj, fun q hq => by cases hq⟩ (Nat.zero_le _) (Nat.zero_le _)
  · rw [hpc] at K
    exact K
  · intro v w h' j' H' locs ce sl pc ls' hk hro hrh' hrj' hls hce hsl hrets
    have hb := BB.bytes
    have hx := BB.exec
    have hr := BB.returns
    have hlocks := BB.notSynchronized
    have hkq := hK v w h' j' H' hk hro hrh' hrj'
    refine W.widen (k := mc) (n := ms) hce hsl ?_
    rcases hrets with ⟨rfl, hrt, hd⟩ | ⟨z, ty, rfl, hrt, hn, hd⟩ | ⟨z, rfl, hrt, hd⟩
    · rw [hrt] at hr
      exact W.vret hx hb hr (fun t ht hW => ⟨none, rfl, by rw [ht]; exact hkq⟩) hls hd
    · rw [hrt] at hr
      exact W.zret hx hb hr hn (fun t ht hW => ⟨some (.int z), rfl, by rw [ht]; exact hkq⟩) hls hd
    · rw [hrt] at hr
      exact W.lret hx hb hr (fun t ht hW => ⟨some (.long z), rfl, by rw [ht]; exact hkq⟩) hls hd
  · intro q hq h28
    obtain ⟨pc, kd, a, b, d'⟩ := q
    exact absurd h28 (hall pc kd a b d' hq).1
/-- what a summary must be -/
def fx_sum (l : Launch) (X : fx_X) (Y : fx_Y) (B : fx_B) (mst : Nat → Option fx_S) (E : fx_E) : Prop := ∀ c S M as h v h', mst c = some S → E.1 c = some M → E.2.2.2.1 c as h = some (v, h') → ∀ av H, fx_rl X as av → fx_rh X Y h H → ∀ KQ : Option Value → Heap → Prop, (∀ w H', fx_ro X v w → fx_rh X Y h' H' → KQ w H') → fx_met l X Y B S 10 M.2.2.1 M.2.2.2.1 av H KQ
theorem fx_wcall {l : Launch} {X : fx_X} {p : Program} {e : Env} {R : Room} {s : State} {m : MethodId} {args : Array Value} {below : List Frame} {meth : Method} {c : Code} {Q : State → Prop} {H : Heap} {locs : List Loc} {ls : Array Slot} {ce sl mc ms pc : Nat} {st rest : List Value} {a0 : Array Value} {KQ : Option Value → Heap → Prop} (hls : fx_ls X locs) (hr : va_Run p l e R s m args below meth c H locs ce sl mc ms (F0 m pc ls st) rest (fx_Qc KQ a0) (fun q => X.2.1 ≤ q)) (hK : ∀ w H', KQ w H' → ∀ locs1, fx_ls X locs1 → W p l e R s m args below meth c H' locs1 (ce + mc) (sl + ms) Q (F0 m (pc + 3) ls (w.toList ++ rest))) : W p l e R s m args below meth c H locs ce sl Q (F0 m pc ls st) := by
  intro T hT XS
  obtain ⟨v, st₀, t, T', L, h0, X', hL, e1, e2, ⟨w, hw, hkq⟩, go⟩ := hr T hT XS
  cases hw
  obtain ⟨t2, a1, b1⟩ := hK v t.heap hkq (locs ++ L) (fun q hq => by
    rcases List.mem_append.mp hq with h1 | h1
    · exact hls q h1
    · exact hL q h1) T' e1 X'
  exact ⟨t2, go t2 a1, b1⟩
theorem fx_s9 {l : Launch} {X : fx_X} {Y : fx_Y} {B : fx_B} {mst : Nat → Option fx_S} {E : fx_E} {ih : fx_G} {p : Program} {e : Env} {R : Room} {s : State} {m : MethodId} {args : Array Value} {below : List Frame} {meth : Method} {c : Code} {Q : State → Prop} {cc : ByteArray} {nL : Nat} {own : String} {ini : Bool} {rt : Option FieldType} {cod : List fx_I} {mc msl : Nat} {go : fx_O} {pc a b d ce sl dd : Nat} {tl : List fx_I} {loc : fx_L} {stk : List fx_V} {h : fx_H} {j : fx_J} {H : Heap} {locs : List Loc} {ls : Array Slot} {st : List Value}
    (hf : fx_snd l X Y B mst E ih) (hXX : fx_xx X B) (hma : fx_mall mst E.1) (hsum : fx_sum l X Y B mst E) (F : fx_fs X Y B mst E.1 p s m args meth c cc nL own ini rt cod) (hR : fx_rm R dd mc msl) (hgo : fx_gok l X Y p e R s m args below meth c Q nL cod mc msl go) (hin : (pc, 9, a, b, d) ∈ cod) (htl : ∀ q ∈ tl, q ∈ cod) (ee : (Nat.blt a 5 && fx_call E ih dd (fun stk ce sl h j => fx_nx (fun t => go t loc stk ce sl h j) pc 3 tl) d stk ce sl mc msl h j) = true) (hs : fx_st X Y nL loc stk h j H locs ls st) : W p l e R s m args below meth c H locs ce sl Q (F0 m pc ls st) := by
  have hX := hXX.1
  obtain ⟨hx, hb, hml, hown, hts, -, -, -, hcx, hbs, hcod⟩ := F
  obtain ⟨hd, ha⟩ := hcod _ _ _ _ _ hin (by decide)
  obtain ⟨y, cc', nL', rt', M, hms, hmt, c0, c1, c2, c3, c4⟩ := ha.2.2.2.1 rfl
  obtain ⟨hl0, hst, hrh, hrj, hls⟩ := hs
  obtain ⟨e0, ee⟩ := fx_and ee
  have ha5 := fx_blt e0
  unfold fx_call at ee
  cases dd with
  | zero => cases ee
  | succ dd =>
    simp only [hmt] at ee
    obtain ⟨S, hS, hM⟩ := hma d M hmt
    cases hms.symm.trans hS
    obtain ⟨cod', na, mc', ms', t', nl'⟩ := M
    simp only at ee
    cases hsp : fx_split na stk with
    | none => rw [hsp] at ee; cases ee
    | some q =>
      obtain ⟨as, stk'⟩ := q
      rw [hsp] at ee
      simp only at ee
      obtain ⟨e1, e2⟩ := fx_and ee
      obtain ⟨e3, e4⟩ := fx_and e1
      obtain ⟨e5, e6⟩ := fx_and e4
      obtain ⟨e7, e8⟩ := fx_and e6
      obtain ⟨e9, e10⟩ := fx_and e8
      have e3 := fx_ble e3
      have e5 := fx_ble e5
      have e7 := fx_ble e7
      have e9 := fx_ble e9
      obtain ⟨bs, b1, b2, b3⟩ := fx_split_ok na [] stk as stk' hsp
      rw [List.append_nil] at b2
      subst b2
      subst b3
      obtain ⟨w1, w2, rfl, hw1, hw2⟩ := fx_rl_app hst
      have hra : fx_rl X as w1.reverse := by
        have := fx_rl_rev hw1
        rwa [List.reverse_reverse] at this
      generalize hav : w1.reverse = av at hra
      have hw1e : w1 = av.reverse := by rw [← hav, List.reverse_reverse]
      subst hw1e
      have hlen := fx_rl_len hra
      have hrest := fx_cats_ok hX hw2
      have hw8 : 2 * (F0 m pc ls (av.reverse ++ w2)).monitorRoom + (w2.map fun v => v.category).sum ≤ 8 := lv_room (by omega)
      obtain ⟨lv, hlv, hrn⟩ := hl0
      have h41 := hM.2.2.2.2.1
      have hdesc := hM.2.2.2.2.2.2.1
      -- what goes on behind it
      have hCont : ∀ (v : Option fx_V) (w : Option Value) (h' : fx_H) (j' : fx_J) (H' : Heap), fx_nx (fun t => go t loc (fx_ret stk' v) (ce + mc') (sl + ms') h' j') pc 3 tl = true → fx_ro X v w → fx_rh X Y h' H' → fx_rj X j' → ∀ locs1, fx_ls X locs1 → W p l e R s m args below meth c H' locs1 (ce + mc') (sl + ms') Q (F0 m (pc + 3) ls (w.toList ++ w2)) := by
        intro v w h' j' H' ek hro hrh' hrj' locs1 hls1
        refine fx_nxt hgo htl ek ⟨⟨lv, hlv, hrn⟩, ?_, hrh', hrj', hls1⟩ e5 e7
        cases v with
        | none =>
          cases w with
          | none => exact hw2
          | some w => exact False.elim hro
        | some v =>
          cases w with
          | none => exact False.elim hro
          | some w => exact ⟨hro, hw2⟩
      -- the contract
      obtain ⟨dm, KQ, hdm, hmet, hKQ⟩ : ∃ (dm : Nat) (KQ : Option Value → Heap → Prop), dm ≤ dd ∧ fx_met l X Y B (y, cc', nL', rt') dm mc' ms' av H KQ ∧ ∀ w H', KQ w H' → ∀ locs1, fx_ls X locs1 → W p l e R s m args below meth c H' locs1 (ce + mc') (sl + ms') Q (F0 m (pc + 3) ls (w.toList ++ w2)) := by
        cases hsm : fx_if (Nat.ble 10 dd) (E.2.2.2.1 d as h) none with
        | some q =>
          obtain ⟨v, h'⟩ := q
          rw [hsm] at e2
          simp only at e2
          rw [fx_num_eq, fx_num_eq] at e2
          cases h10 : Nat.ble 10 dd with
          | false => rw [h10, fx_if_f] at hsm; cases hsm
          | true =>
            rw [h10, fx_if_t] at hsm
            refine ⟨10, fun w H' => ∀ locs1, fx_ls X locs1 → W p l e R s m args below meth c H' locs1 (ce + mc') (sl + ms') Q (F0 m (pc + 3) ls (w.toList ++ w2)), fx_ble h10, hsum d _ _ as h v h' hms hmt hsm av H hra hrh _ (fun w H' hro hrh' => ?_), fun _ _ q => q⟩
            exact hCont v w h' j H' e2 hro hrh' hrj
        | none =>
          rw [hsm] at e2
          simp only at e2
          refine ⟨dd, fun w H' => ∀ locs1, fx_ls X locs1 → W p l e R s m args below meth c H' locs1 (ce + mc') (sl + ms') Q (F0 m (pc + 3) ls (w.toList ++ w2)), Nat.le_refl _, ?_, fun _ _ q => q⟩
          refine fx_met_of hf hX hM e2 hra hrh hrj e9 (fun v w h' j' H' hk hro hrh' hrj' => ?_)
          rw [fx_num_eq, fx_num_eq] at hk
          exact hCont v w h' j' H' hk hro hrh' hrj'
      obtain ⟨r1, r2, r3, r4⟩ := hR
      have hroom : (fx_rmx dm mc' ms').frames + 1 ≤ R.frames ∧ 8 + (nL' + 11) + (fx_rmx dm mc' ms').locals ≤ R.locals := by
        refine ⟨?_, ?_⟩
        · show dm + 1 ≤ R.frames
          omega
        · show 8 + (nL' + 11) + 60 * dm ≤ R.locals
          have : nL' ≤ 41 := h41
          omega
      have hGood := fx_goodin hM.2.1
      have hfit : ce + mc' ≤ R.cells ∧ sl + ms' ≤ R.slots := ⟨by omega, by omega⟩
      have hPS : ∀ U : State, U.heap = H → s.WarmedH U.vm → fx_Pc X Y B av H av.toArray U := fun U hU hW => ⟨rfl, hU, hcx.moved hW⟩
      have CF : CallFix p m c cc nL s args fx_tb own := ⟨hx, hb, hml, hown, hts⟩
      have hini : (Cond.initialized y.cls).before args s = true := hts _ hM.2.2.1
      have hne := hM.2.2.2.1
      have hdg : decode cc pc = .ok (fx_cop a b, 3) := hd
      rcases (by omega : a = 0 ∨ a = 1 ∨ a = 2 ∨ a = 3 ∨ a = 4) with rfl | rfl | rfl | rfl | rfl
      · obtain ⟨q1, q2, q3, q4⟩ := c0 rfl
        -- the first value
        have hrc : ∃ (r : Nat) (as' : List fx_V) (bA : Nat), as = fr r :: as' ∧ fx_ad X r = .ref bA ∧ ∃ cell : Cell, H[bA]? = some cell ∧ cell.vm.isStatics = false ∧ s.vm.findClass y.cls = some cell.cls := by
          have e10 : fx_rcv t' h as = true := e10
          have htn : t' ≠ 0 ∧ t' ≠ 1 := by
            rcases q4 with ⟨ci, T, N, g1, -, -⟩ | ⟨g1, -⟩
            · have g1 : t' = ci + 2 := g1
              omega
            · have g1 : t' = 99 := g1
              omega
          unfold fx_rcv at e10
          have h0 : Nat.beq t' 0 = false := by
            cases hb0 : Nat.beq t' 0 with
            | true => exact absurd (fx_beq hb0) htn.1
            | false => rfl
          have h1 : Nat.beq t' 1 = false := by
            cases hb0 : Nat.beq t' 1 with
            | true => exact absurd (fx_beq hb0) htn.2
            | false => rfl
          rw [h0, fx_if_f] at e10
          rcases as with _ | ⟨v, as'⟩
          · cases e10
          rcases v with n | n | (_ | r) | n
          · cases e10
          · cases e10
          · cases e10
          · simp only at e10
            rw [h1, fx_if_f] at e10
            rcases q4 with ⟨ci, T, N, g1, g2, g3⟩ | ⟨g1, g2⟩
            · have g1 : t' = ci + 2 := g1
              have g2 : t' ≠ 99 := g2
              have h99 : Nat.beq t' 99 = false := by
                cases hb0 : Nat.beq t' 99 with
                | true => exact absurd (fx_beq hb0) g2
                | false => rfl
              rw [h99, fx_if_f] at e10
              cases hg : fx_hget h r with
              | none => rw [hg] at e10; cases e10
              | some q =>
                rw [hg] at e10
                rcases q with u | ⟨ci', fs⟩ | u
                · cases e10
                · simp only at e10
                  have := fx_beq e10
                  have : ci' = ci := by omega
                  subst this
                  obtain ⟨C, T2, N2, vs, k1, k2, k3, k4, k5, k6⟩ := fx_obj hrh hg
                  have e8 : (C, T2, N2) = (y.cls, T, N) := Option.some.inj (k1.symm.trans g3)
                  cases e8
                  exact ⟨r, as', X.2.1 + r, rfl, k4, va_recv (fx_vaK hcx) k5 (ci := ci') (q0 := 0) k1 rfl⟩
                · cases e10
            · have g1 : t' = 99 := g1
              rw [show Nat.beq t' 99 = true by rw [g1]; rfl, fx_if_t] at e10
              have := fx_beq e10
              subst this
              obtain ⟨-, -, -, -, -, -, hb1, -, -⟩ := hXX
              obtain ⟨cell, k1, k2, k3, k4⟩ := hcx.2.2.2.2.2.2.1
              have hlt : B.2.2.2.1 < X.2.1 := Nat.not_le.mp k4
              exact ⟨1000001, as', B.2.2.2.1, rfl, hb1, cell, by rw [hrh.2.2 _ hlt]; exact k1, k2, by rw [g2]; exact k3⟩
          · cases e10
        obtain ⟨r, as', bA, rfl, hbA, hcell⟩ := hrc
        obtain ⟨x0, As, rfl, hx0, hAs⟩ := fx_rl_cons hra
        have hx0 : x0 = fx_ad X r := hx0
        rw [hbA] at hx0
        subst hx0
        have hn : As.length = na - 1 := by
          simp only [List.length_cons] at hlen b1
          omega
        have htn : t' ≠ 0 := by
          rcases q4 with ⟨ci, T, N, g1, -, -⟩ | ⟨g1, -⟩
          · have g1 : t' = ci + 2 := g1
            omega
          · have g1 : t' = 99 := g1
            omega
        have hdesc : (parseMethodDescriptor y.desc).map (fun d => d.parameters.length) = some (na - 1) := by
          have := hdesc
          rw [if_neg htn] at this
          exact this
        have hrun := va_runV (e := e) (below := below) (meth := meth) (locs := locs) (cells := ce) (slots := sl) CF hmet ⟨callB_of (na - 1) hts hGood rfl rfl rfl hini (hts _ q1) ⟨hne.1, hne.2, hdesc⟩ hroom, hts _ q2, hts _ q3⟩ (b := bA) (As := As) ⟨fx_blind, hcell, hPS⟩ (g := F0 m pc ls ((Value.ref bA :: As).reverse ++ w2)) rfl hn hlv.1 (rest := w2) (by rw [List.reverse_cons, List.append_assoc]; rfl) hw8 hdg hfit
        exact fx_wcall hls hrun hKQ
      · obtain ⟨q1, q2, q3, q4, q5⟩ := c1 rfl
        have q4 : rt' = none := q4
        subst q4
        have q5 : t' = 1 := q5
        subst q5
        have hdesc : (parseMethodDescriptor y.desc).map (fun d => d.parameters.length) = some (na - 1) := hdesc
        have hrc : ∃ (r : Nat) (as' : List fx_V), as = fr r :: as' ∧ fx_ad X r = .ref (X.2.1 + r) := by
          have e10 : fx_rcv 1 h as = true := e10
          rcases as with _ | ⟨v, as'⟩
          · cases e10
          rcases v with n | n | (_ | r) | n
          · cases e10
          · cases e10
          · cases e10
          · cases hg : fx_hget h r with
            | none => simp [fx_rcv, hg, fx_if] at e10
            | some q =>
              obtain ⟨-, k2, -⟩ := hrh.2.1 r q hg
              exact ⟨r, as', rfl, fx_ad_lt k2⟩
          · cases e10
        obtain ⟨r, as', rfl, hbA⟩ := hrc
        obtain ⟨x0, As, rfl, hx0, hAs⟩ := fx_rl_cons hra
        have hx0 : x0 = fx_ad X r := hx0
        rw [hbA] at hx0
        subst hx0
        have hn : As.length = na - 1 := by
          simp only [List.length_cons] at hlen b1
          omega
        have hrun := va_runI (e := e) (below := below) (meth := meth) (locs := locs) (cells := ce) (slots := sl) CF hmet ⟨callB_of (na - 1) hts hGood rfl rfl rfl hini (hts _ q1) ⟨hne.1, hne.2, hdesc⟩ hroom, q3, hts _ q2⟩ (b := X.2.1 + r) (As := As) ⟨fx_blind, hPS⟩ (g := F0 m pc ls ((Value.ref (X.2.1 + r) :: As).reverse ++ w2)) rfl hn hlv.1 (rest := w2) (by rw [List.reverse_cons, List.append_assoc]; rfl) hw8 hdg hfit
        exact fx_wcall hls hrun hKQ
      · obtain ⟨q1, q2, q5⟩ := c2 rfl
        have q5 : t' = 0 := q5
        subst q5
        have hdesc : (parseMethodDescriptor y.desc).map (fun d => d.parameters.length) = some na := hdesc
        have hn : av.length = na := by omega
        have hrun := va_runS (e := e) (below := below) (meth := meth) (locs := locs) (cells := ce) (slots := sl) CF hmet ⟨callB_of na hts hGood rfl rfl rfl hini (hts _ q1) ⟨hne.1, hne.2, hdesc⟩ hroom, hts _ q2⟩ (As := av) ⟨fx_blind, hPS⟩ (g := F0 m pc ls (av.reverse ++ w2)) rfl hn hlv.1 (rest := w2) rfl hw8 hdg hfit
        exact fx_wcall hls hrun hKQ
      · obtain ⟨q1, q2, q3, q4, q5⟩ := c3 rfl
        have q4 : rt' = none := q4
        subst q4
        have q5 : t' = 1 := q5
        subst q5
        have hdesc : (parseMethodDescriptor y.desc).map (fun d => d.parameters.length) = some (na - 1) := hdesc
        have hnw := hcx.2.2.1 _ q1
        have hrc : ∃ (r : Nat) (as' : List fx_V), as = fr r :: as' ∧ fx_ad X r = .ref (X.2.1 + r) := by
          have e10 : fx_rcv 1 h as = true := e10
          rcases as with _ | ⟨v, as'⟩
          · cases e10
          rcases v with n | n | (_ | r) | n
          · cases e10
          · cases e10
          · cases e10
          · cases hg : fx_hget h r with
            | none => simp [fx_rcv, hg, fx_if] at e10
            | some q =>
              obtain ⟨-, k2, -⟩ := hrh.2.1 r q hg
              exact ⟨r, as', rfl, fx_ad_lt k2⟩
          · cases e10
        obtain ⟨r, as', rfl, hbA⟩ := hrc
        obtain ⟨x0, As, rfl, hx0, hAs⟩ := fx_rl_cons hra
        have hx0 : x0 = fx_ad X r := hx0
        rw [hbA] at hx0
        subst hx0
        have hn : As.length = na - 1 := by
          simp only [List.length_cons] at hlen b1
          omega
        have hrun := va_runIN (e := e) (below := below) (meth := meth) (locs := locs) (cells := ce) (slots := sl) CF hmet ⟨va_cnB (na - 1) hts hGood rfl rfl rfl hnw hini ⟨hne.1, hne.2, hdesc⟩ hroom, q3, hts _ q2⟩ (b := X.2.1 + r) (As := As) ⟨fx_blind, hPS⟩ (g := F0 m pc ls ((Value.ref (X.2.1 + r) :: As).reverse ++ w2)) rfl hn hlv.1 (rest := w2) (by rw [List.reverse_cons, List.append_assoc]; rfl) hw8 hdg hfit
        exact fx_wcall hls hrun hKQ
      · obtain ⟨q1, q2, q5⟩ := c4 rfl
        have q5 : t' = 0 := q5
        subst q5
        have hnw := hcx.2.2.1 _ q1
        have hdesc : (parseMethodDescriptor y.desc).map (fun d => d.parameters.length) = some na := hdesc
        have hn : av.length = na := by omega
        have hrun := va_runSN (e := e) (below := below) (meth := meth) (locs := locs) (cells := ce) (slots := sl) CF hmet ⟨va_cnB na hts hGood rfl rfl rfl hnw hini ⟨hne.1, hne.2, hdesc⟩ hroom, hts _ q2, trivial⟩ (As := av) ⟨fx_blind, hPS⟩ (g := F0 m pc ls (av.reverse ++ w2)) rfl hn hlv.1 (rest := w2) rfl hw8 hdg hfit
        exact fx_wcall hls hrun hKQ
end
section
/-- words that every run takes -/
def fx_wd : Prop := (∀ t, t < 4 → Cond.arrayClass (fx_ty t) ∈ fx_tb) ∧ (Cond.instanceMethod Lib.objectInit ∈ fx_tb ∧ Cond.code Lib.objectInit ⟨#[0xb1]⟩ 1 none ∈ fx_tb) ∧ (Cond.native arraycopyName ∈ fx_tb ∧ Cond.static arraycopyName ∈ fx_tb ∧ Cond.initialized "java/lang/System" ∈ fx_tb) ∧ ((Cond.static Lib.Math.max.name ∈ fx_tb ∧ Cond.code Lib.Math.max.name Lib.Math.max.code 2 (some .int) ∈ fx_tb) ∧ (Cond.static Lib.Math.min.name ∈ fx_tb ∧ Cond.code Lib.Math.min.name Lib.Math.min.code 2 (some .int) ∈ fx_tb) ∧ Cond.initialized "java/lang/Math" ∈ fx_tb)
set_option maxHeartbeats 4000000 in
theorem fx_step_ok {l : Launch} {X : fx_X} {Y : fx_Y} {B : fx_B} {mst : Nat → Option fx_S} {E : fx_E} {ih : fx_G} (hf : fx_snd l X Y B mst E ih) (hXX : fx_xx X B) (hma : fx_mall mst E.1) (hsum : fx_sum l X Y B mst E) (hE1 : E.2.1 = fx_swt) (hE2 : E.2.2.1 = fx_cd) (hwd : fx_wd) : fx_snd l X Y B mst E (fx_step E ih) := by
  refine ⟨fun d cod loc stk ce sl mc ms h j k => rfl, ?_⟩
  intro d cod at_ loc stk ce sl mc ms h j k ee p e R s m args below meth c Q cc nL own ini rt F hR hsub hrt hcu H locs ls st hs hce hsl
  obtain ⟨hX, h7, -⟩ := id hXX
  obtain ⟨w1, w2, w3, w4⟩ := hwd
  rcases at_ with _ | ⟨⟨pc, kd, a, b, c0⟩, tl⟩
  · cases ee
  have hin : (pc, kd, a, b, c0) ∈ cod := hsub _ List.mem_cons_self
  have htl : ∀ q ∈ tl, q ∈ cod := fun q hq => hsub q (List.mem_cons_of_mem _ hq)
  have hgo : fx_gok l X Y p e R s m args below meth c Q nL cod mc ms (fun t loc stk ce sl h j => ih d cod t loc stk ce sl mc ms h j k) := ⟨fun loc stk ce sl h j => hf.1 _ _ _ _ _ _ _ _ _ _ _, fun at_ loc stk ce sl h j e9 hs9 H locs ls st hst h1 h2 => hf.2 _ _ _ _ _ _ _ _ _ _ _ _ e9 p e R s m args below meth c Q cc nL own ini rt F hR hs9 hrt hcu H locs ls st hst h1 h2⟩
  have ee : fx_one E ih (fun t loc stk ce sl h j => ih d cod t loc stk ce sl mc ms h j k) d cod pc kd a b c0 tl loc stk ce sl mc ms h j k = true := ee
  show W p l e R s m args below meth c H locs ce sl Q (F0 m pc ls st)
  generalize (fun t loc stk ce sl h j => ih d cod t loc stk ce sl mc ms h j k : fx_O) = go at hgo ee
  rcases Nat.lt_or_ge kd 30 with hk | hk
  · rcases (by omega : kd = 0 ∨ kd = 1 ∨ kd = 2 ∨ kd = 3 ∨ kd = 4 ∨ kd = 5 ∨ kd = 6 ∨ kd = 7 ∨ kd = 8 ∨ kd = 9 ∨ kd = 10 ∨ kd = 11 ∨ kd = 12 ∨ kd = 13 ∨ kd = 14 ∨ kd = 15 ∨ kd = 16 ∨ kd = 17 ∨ kd = 18 ∨ kd = 19 ∨ kd = 20 ∨ kd = 21 ∨ kd = 22 ∨ kd = 23 ∨ kd = 24 ∨ kd = 25 ∨ kd = 26 ∨ kd = 27 ∨ kd = 28 ∨ kd = 29) with rfl | rfl | rfl | rfl | rfl | rfl | rfl | rfl | rfl | rfl | rfl | rfl | rfl | rfl | rfl | rfl | rfl | rfl | rfl | rfl | rfl | rfl | rfl | rfl | rfl | rfl | rfl | rfl | rfl | rfl
    · exact fx_s0 F hX hgo hin htl ee hs hce hsl
    · exact fx_s1 F hgo hin htl ee hs hce hsl
    · exact fx_s2 F hgo hin htl ee hs hce hsl
    · exact fx_s3 F hgo hin htl ee hs hce hsl
    · exact fx_s4 F hgo hin htl ee hs hce hsl
    · exact fx_s5 F hgo hin ee hs hce hsl
    · exact fx_s6 F hXX hgo hin htl ee hs hce hsl
    · exact fx_s7 F hX h7 hgo hin htl ee hs hce hsl
    · exact fx_s8 F hgo hin htl ee hs hce hsl
    · exact fx_s9 hf hXX hma hsum F hR hgo hin htl ee hs
    · exact fx_s10 F hrt hin ee hs hce hsl
    · exact fx_s11 F hX hgo hin htl ee hs hce hsl
    · exact fx_s12 F h7 hgo hin htl ee hs hce hsl
    · exact fx_s13 F hgo hin htl ee hs hce hsl
    · exact fx_s14 F hX hgo hin htl ee hs hce hsl
    · exact fx_s15 F hX hgo hin htl ee hs hce hsl
    · exact fx_s16 hE2 F ⟨hR.2.2.1, hR.2.2.2⟩ hgo hin htl ee hs
    · exact fx_s17 F w1 ⟨hR.2.2.1, hR.2.2.2⟩ hgo hin htl ee hs
    · exact fx_s18 F hXX hgo hin htl ee hs hce hsl
    · exact fx_s19 F hgo hin htl ee hs hce hsl
    · exact fx_s20 hE1 F (Or.inl rfl) hgo hin ee hs hce hsl
    · exact fx_s20 hE1 F (Or.inr rfl) hgo hin ee hs hce hsl
    · exact fx_s22 F hX w2 ⟨hR.1, hR.2.1⟩ hgo hin htl ee hs hce hsl
    · exact fx_s23 F hX w3 ⟨hR.1, hR.2.1⟩ hgo hin htl ee hs hce hsl
    · exact fx_s24 F hgo hin htl ee hs hce hsl
    · exact fx_s25 F hXX hgo hin htl ee hs hce hsl
    · exact fx_s26 F hgo hin htl ee hs hce hsl
    · exact fx_s27 F hXX hgo hin htl ee hs hce hsl
    · have ee : fx_k28 E loc stk h j = true := ee
      obtain ⟨hl0, hst, hrh, hrj, hls⟩ := hs
      rcases stk with _ | ⟨v, stk⟩
      · have := fx_rl_nil hst
        subst this
        exact hcu _ hin rfl loc h j H locs ls ce sl ee ⟨hl0, hst, hrh, hrj, hls⟩ hce hsl
      · cases ee
    · exact fx_s29 F hX w4 hR hgo hin htl ee hs hce hsl
  · obtain ⟨q, rfl⟩ : ∃ q, kd = q + 30 := ⟨kd - 30, by omega⟩
    have ee : false = true := ee
    cases ee
theorem fx_go_ok {l : Launch} {X : fx_X} {Y : fx_Y} {B : fx_B} {mst : Nat → Option fx_S} {E : fx_E} (hXX : fx_xx X B) (hma : fx_mall mst E.1) (hsum : fx_sum l X Y B mst E) (hE1 : E.2.1 = fx_swt) (hE2 : E.2.2.1 = fx_cd) (hwd : fx_wd) : ∀ n, fx_snd l X Y B mst E (fx_go E n) := by
  intro n
  induction n with
  | zero => exact ⟨fun d cod loc stk ce sl mc ms h j k => rfl, fun d cod at_ loc stk ce sl mc ms h j k ee => by cases ee⟩
  | succ n ih => exact fx_step_ok ih hXX hma hsum hE1 hE2 hwd
end
section
def fx_cls : List String := ["FaceSenate$Acts", "FaceSenate$Formula", "FaceSenate$Looks", "FaceSenate$Plan", "FaceSenate$Reader", "FaceSenate$Shelf", "FaceSenate$Sitting", "FaceSenate$Tape", "FaceSenate$Trial", "FaceSenate", "FaceSenateModel", "java/lang/String", "java/lang/StringLatin1", "jdk/internal/util/Preconditions", "java/lang/Math", "java/lang/Integer", "java/util/Arrays", "FaceSenateLaw"]
noncomputable def fx_cn (o : Nat) : String := match fx_nth fx_cls o with
  | some n => n
  | none => ""
def fx_ft : List (Nat × (Nat × (Nat × (Nat × Nat)))) := [(0, 14, 0, 0, 498), (0, 20, 0, 1, 499), (0, 24, 0, 2, 501), (1, 9, 1, 0, 247), (1, 15, 1, 1, 248), (1, 18, 1, 2, 249), (1, 22, 1, 3, 250), (2, 9, 2, 0, 518), (2, 15, 2, 1, 519), (2, 18, 2, 2, 520), (2, 21, 2, 3, 521), (2, 25, 2, 4, 522), (2, 28, 2, 5, 523), (2, 31, 2, 6, 524), (3, 9, 3, 0, 278), (3, 15, 3, 1, 280), (3, 19, 3, 2, 283), (3, 22, 3, 3, 285), (3, 25, 3, 4, 288), (3, 28, 3, 5, 291), (3, 31, 3, 6, 295), (3, 37, 3, 7, 298), (3, 41, 3, 8, 302), (3, 44, 3, 9, 306), (3, 48, 3, 10, 310), (3, 51, 3, 11, 313), (3, 54, 3, 12, 316), (3, 57, 3, 13, 320), (3, 60, 3, 14, 324), (3, 63, 3, 15, 327), (3, 66, 3, 16, 330), (3, 70, 3, 17, 332), (4, 12, 4, 0, 371), (4, 21, 4, 1, 373), (4, 25, 4, 2, 375), (4, 29, 4, 3, 377), (4, 38, 7, 4, 209), (5, 15, 5, 0, 487), (5, 21, 5, 1, 488), (5, 25, 5, 2, 489), (5, 29, 6, 0, 397), (5, 40, 6, 1, 402), (5, 43, 6, 2, 406), (5, 46, 6, 3, 410), (5, 49, 6, 4, 414), (6, 9, 6, 0, 396), (6, 15, 6, 1, 401), (6, 18, 6, 2, 405), (6, 22, 6, 3, 409), (6, 25, 6, 4, 413), (6, 28, 3, 4, 289), (6, 37, 3, 6, 296), (6, 38, 3, 15, 328), (7, 9, 7, 0, 203), (7, 15, 7, 1, 204), (7, 19, 7, 2, 205), (7, 23, 7, 3, 206), (7, 26, 7, 4, 208), (7, 29, 7, 5, 210), (7, 32, 7, 6, 212), (7, 35, 7, 7, 214), (8, 12, 8, 0, 436), (8, 18, 8, 1, 438), (8, 22, 8, 2, 440), (8, 25, 8, 3, 441), (8, 28, 8, 4, 442), (8, 31, 8, 5, 443), (8, 34, 8, 6, 444), (8, 37, 8, 7, 445), (8, 40, 8, 8, 446), (8, 43, 8, 9, 447), (8, 46, 8, 10, 448), (8, 57, 3, 9, 307), (8, 68, 6, 1, 403), (8, 83, 3, 12, 319), (8, 90, 6, 0, 400), (8, 102, 6, 3, 412), (8, 144, 3, 8, 304), (9, 10, 9, 0, 548), (9, 19, 9, 1, 549), (9, 26, 9, 2, 550), (9, 33, 9, 3, 551), (9, 40, 9, 4, 552), (9, 49, 9, 5, 553), (9, 56, 9, 6, 554), (9, 60, 9, 7, 555), (9, 64, 9, 8, 556), (9, 67, 9, 9, 557), (9, 70, 9, 10, 558), (9, 73, 9, 11, 559), (9, 77, 9, 12, 560), (9, 80, 9, 13, 561), (9, 83, 9, 14, 562), (9, 86, 9, 15, 563), (9, 93, 4, 0, 372), (9, 97, 7, 3, 207), (9, 108, 4, 2, 376), (9, 111, 4, 3, 378), (9, 112, 4, 1, 374), (9, 121, 3, 12, 317), (9, 150, 6, 3, 411), (9, 157, 3, 11, 315), (9, 194, 8, 0, 437), (9, 204, 6, 2, 408), (9, 302, 3, 13, 323), (9, 358, 3, 9, 309), (9, 361, 3, 10, 312), (9, 364, 6, 4, 416), (9, 367, 0, 1, 500), (9, 370, 0, 2, 502), (9, 373, 2, 6, 525), (9, 376, 3, 7, 301), (9, 380, 1, 3, 252), (9, 385, 3, 8, 305), (10, 7, 10, 0, 1254), (10, 13, 10, 1, 1255), (10, 16, 10, 5, 1259), (10, 20, 10, 11, 1265), (10, 24, 10, 12, 1266), (10, 27, 10, 13, 1267), (10, 30, 10, 14, 1268), (10, 33, 10, 15, 1269), (10, 36, 10, 16, 1270), (10, 39, 10, 17, 1271), (10, 42, 10, 18, 1272), (10, 45, 10, 19, 1273), (10, 48, 10, 20, 1274), (10, 51, 10, 21, 1275), (10, 54, 10, 22, 1276), (10, 57, 10, 23, 1277), (10, 60, 10, 24, 1278), (10, 63, 10, 25, 1279), (10, 66, 10, 26, 1280), (10, 69, 10, 27, 1281), (10, 73, 10, 28, 1282), (10, 76, 10, 29, 1283), (10, 79, 10, 30, 1284), (10, 83, 10, 31, 1285), (10, 86, 10, 32, 1286), (10, 89, 10, 33, 1287), (10, 92, 10, 34, 1288), (10, 95, 10, 35, 1289), (10, 98, 10, 36, 1290), (10, 101, 10, 50, 1304), (10, 104, 10, 51, 1305), (10, 107, 10, 52, 1306), (10, 110, 10, 55, 1309), (10, 113, 10, 56, 1310), (10, 116, 10, 58, 1312), (10, 119, 10, 59, 1313), (10, 122, 10, 60, 1314), (10, 125, 10, 61, 1315), (10, 128, 10, 62, 1316), (10, 131, 10, 63, 1317), (10, 134, 10, 64, 1318), (10, 137, 10, 65, 1319), (10, 140, 10, 66, 1320), (10, 143, 10, 67, 1321), (10, 146, 10, 68, 1322), (10, 149, 10, 71, 1325), (10, 152, 10, 72, 1326), (10, 161, 10, 3, 1257), (10, 164, 10, 4, 1258), (10, 215, 10, 7, 1261), (10, 218, 10, 6, 1260), (10, 225, 10, 8, 1262), (10, 274, 10, 38, 1292), (10, 277, 10, 39, 1293), (10, 280, 10, 2, 1256), (10, 283, 10, 37, 1291), (10, 401, 10, 53, 1307), (10, 404, 10, 54, 1308), (10, 407, 10, 69, 1323), (10, 410, 10, 57, 1311), (10, 525, 10, 70, 1324)]
def fx_ct : List (Nat × (Nat × (Nat × Nat))) := [(9, 317, 100000, 1182), (10, 528, 100000, 1933), (15, 265, 1431655765, 873), (15, 266, 858993459, 874), (15, 267, 252645135, 875)]
def fx_lt : List (Nat × (Nat × (Nat × Nat))) := [(7, 79, 27, 201), (7, 81, 97, 202)]
def fx_kt : List (Nat × (Nat × (Nat × (Nat × Nat)))) := [(0, 0, 30, 84, 925), (0, 1, 11, 20, 480), (1, 2, 25, 68, 845), (3, 0, 73, 13, 263), (3, 0, 82, 15, 270), (3, 0, 83, 16, 274), (3, 2, 76, 14, 267), (3, 3, 36, 12, 0), (4, 0, 32, 13, 617), (4, 0, 35, 34, 618), (4, 1, 11, 2, 145), (4, 1, 20, 11, 237), (6, 0, 41, 73, 902), (7, 0, 41, 3, 150), (7, 0, 46, 5, 160), (7, 0, 54, 35, 622), (7, 0, 57, 36, 626), (7, 2, 50, 10, 198), (8, 0, 50, 63, 817), (8, 0, 54, 64, 821), (8, 0, 71, 65, 826), (8, 0, 79, 85, 1091), (8, 0, 126, 67, 841), (8, 2, 147, 14, 788), (8, 3, 11, 17, 0), (8, 4, 132, 69, 0), (9, 0, 89, 22, 541), (9, 0, 102, 28, 601), (9, 0, 105, 33, 613), (9, 0, 113, 37, 784), (9, 0, 116, 38, 789), (9, 0, 119, 39, 793), (9, 0, 120, 40, 797), (9, 0, 124, 48, 809), (9, 0, 128, 62, 813), (9, 0, 153, 66, 837), (9, 0, 170, 55, 881), (9, 0, 173, 60, 890), (9, 0, 176, 72, 898), (9, 0, 180, 79, 907), (9, 0, 184, 83, 916), (9, 0, 188, 85, 929), (9, 0, 191, 86, 942), (9, 0, 197, 63, 946), (9, 0, 207, 98, 962), (9, 0, 214, 102, 966), (9, 0, 217, 105, 982), (9, 0, 221, 108, 994), (9, 0, 255, 120, 1046), (9, 0, 261, 59, 885), (9, 0, 273, 135, 1087), (9, 0, 280, 150, 1108), (9, 0, 286, 149, 1128), (9, 0, 290, 151, 1132), (9, 0, 299, 156, 1140), (9, 0, 315, 174, 1174), (9, 0, 318, 179, 1187), (9, 0, 321, 180, 1191), (9, 0, 324, 181, 1200), (9, 0, 350, 84, 1226), (9, 0, 354, 189, 1231), (9, 1, 18, 11, 389), (9, 1, 46, 20, 511), (9, 2, 200, 92, 951), (9, 2, 224, 148, 1002), (9, 2, 227, 141, 1009), (9, 2, 305, 162, 1152), (9, 2, 308, 163, 1155), (9, 3, 9, 1, 0), (9, 3, 25, 17, 0), (9, 3, 32, 18, 0), (9, 3, 39, 19, 0), (9, 3, 55, 21, 0), (10, 0, 155, 24, 1242), (10, 0, 158, 25, 1246), (10, 0, 221, 43, 1482), (10, 0, 253, 44, 1522), (10, 0, 257, 42, 1478), (10, 0, 391, 26, 1250), (10, 0, 398, 58, 1701), (10, 0, 426, 70, 1663), (10, 0, 432, 77, 1656), (10, 0, 441, 90, 1745), (10, 0, 444, 50, 1638), (10, 0, 453, 57, 1697), (10, 0, 456, 61, 1705), (10, 0, 459, 76, 1717), (10, 0, 462, 75, 1713), (10, 0, 465, 81, 1725), (10, 0, 468, 88, 1737), (10, 0, 471, 89, 1741), (10, 0, 477, 100, 1768), (10, 0, 495, 129, 1843), (10, 0, 501, 128, 1835), (10, 0, 504, 136, 1839), (10, 0, 516, 153, 1898), (10, 0, 519, 159, 1910), (10, 0, 532, 183, 1938), (10, 0, 535, 182, 1950), (10, 2, 394, 51, 1642), (10, 2, 435, 116, 1690), (10, 2, 474, 94, 1757), (10, 2, 498, 134, 1832), (10, 2, 513, 152, 1895), (10, 2, 522, 164, 1918), (11, 0, 335, 4, 154), (11, 0, 492, 6, 164), (11, 2, 495, 7, 168), (11, 2, 1059, 9, 176), (12, 2, 9, 8, 171), (17, 0, 13, 27, 597), (17, 0, 17, 29, 1967), (17, 0, 18, 30, 605), (17, 0, 22, 31, 1971), (17, 0, 23, 32, 609), (17, 0, 27, 41, 1474), (17, 0, 28, 45, 801), (17, 0, 31, 46, 1630), (17, 0, 32, 47, 805), (17, 0, 36, 49, 1634), (17, 0, 37, 52, 856), (17, 0, 40, 53, 1678), (17, 0, 41, 54, 877), (17, 0, 44, 56, 1693), (17, 0, 45, 71, 894), (17, 0, 48, 74, 1709), (17, 0, 49, 78, 903), (17, 0, 52, 80, 1721), (17, 0, 53, 82, 912), (17, 0, 56, 87, 1733), (17, 0, 57, 91, 947), (17, 0, 60, 93, 1753), (17, 0, 61, 95, 954), (17, 0, 64, 96, 1760), (17, 0, 65, 97, 958), (17, 0, 69, 99, 1764), (17, 0, 70, 101, 974), (17, 0, 73, 103, 1776), (17, 0, 74, 104, 978), (17, 0, 78, 106, 1780), (17, 0, 79, 107, 990), (17, 0, 82, 109, 1788), (17, 0, 83, 110, 998), (17, 0, 86, 111, 1792), (17, 0, 87, 112, 1005), (17, 0, 90, 113, 1800), (17, 0, 91, 114, 1015), (17, 0, 94, 115, 1808), (17, 0, 95, 117, 1019), (17, 0, 98, 118, 1816), (17, 0, 99, 119, 1042), (17, 0, 102, 121, 1824), (17, 0, 103, 122, 1054), (17, 0, 106, 123, 1847), (17, 0, 107, 124, 1063), (17, 0, 110, 125, 1855), (17, 0, 111, 126, 1075), (17, 0, 114, 127, 1859), (17, 0, 115, 130, 1079), (17, 0, 118, 131, 1863), (17, 0, 119, 132, 1083), (17, 0, 122, 133, 1828), (17, 0, 123, 137, 1092), (17, 0, 126, 138, 1867), (17, 0, 127, 139, 1100), (17, 0, 130, 140, 1875), (17, 0, 131, 142, 1104), (17, 0, 135, 143, 1879), (17, 0, 136, 144, 1071), (17, 0, 139, 145, 1729), (17, 0, 140, 146, 1124), (17, 0, 143, 147, 1891), (17, 0, 144, 154, 1136), (17, 0, 147, 155, 1902), (17, 0, 148, 157, 1144), (17, 0, 151, 158, 1906), (17, 0, 152, 160, 1148), (17, 0, 155, 161, 1914), (17, 0, 156, 165, 1116), (17, 0, 159, 166, 1883), (17, 0, 160, 167, 1120), (17, 0, 163, 168, 1887), (17, 0, 164, 169, 1158), (17, 0, 167, 170, 1812), (17, 0, 168, 171, 1162), (17, 0, 172, 172, 1921), (17, 0, 173, 173, 1170), (17, 0, 177, 175, 1925), (17, 0, 178, 176, 1178), (17, 0, 181, 177, 1929), (17, 0, 182, 178, 1183), (17, 0, 185, 182, 1934), (17, 0, 186, 184, 1208), (17, 0, 189, 185, 1946), (17, 0, 190, 186, 1222), (17, 0, 193, 187, 1955), (17, 0, 194, 188, 1227), (17, 0, 197, 190, 1959), (17, 0, 198, 191, 1232), (17, 0, 201, 192, 1963), (17, 1, 9, 0, 131), (17, 1, 12, 23, 1238)]
def fx_nt : List (Nat × (Nat × (Nat × Nat))) := [(0, 9, 5, 478), (3, 34, 1, 241), (4, 9, 7, 143), (4, 18, 3, 235), (8, 9, 6, 434), (9, 7, 4, 137), (9, 16, 3, 388), (9, 23, 6, 390), (9, 30, 8, 428), (9, 37, 0, 472), (9, 44, 5, 510), (9, 53, 2, 512), (17, 7, 9, 129), (17, 10, 10, 1236)]
def fx_ot : List (Nat × (Nat × Nat)) := [(0, 3, 477), (1, 3, 246), (2, 3, 517), (3, 3, 240), (4, 3, 142), (5, 3, 483), (6, 3, 395), (7, 3, 148), (8, 3, 433), (9, 1, 134), (10, 1, 1241)]
def fx_at9 : List (Nat × (Nat × Nat)) := [(5, 34, 924), (6, 31, 545), (8, 96, 941)]
def fx_xt : List (Nat × (Nat × (Nat × Nat))) := [(11, 9, 0, 1975), (11, 15, 1, 1976)]
def fx_zt : List (Nat × (Nat × (Nat × Nat))) := [(11, 38, 0, 158), (11, 1053, 1, 174)]
def fx_mx : List (Nat × (Nat × (Nat × Nat))) := [(3, 87, 1, 889), (5, 9, 0, 484), (8, 62, 0, 825), (8, 93, 1, 940), (9, 293, 0, 855), (9, 296, 1, 854)]
def fx_msl : List (List fx_S) := [[(⟨"FaceSenate", "<init>", "()V"⟩, prog_1_method_1_code, 1, none), (⟨"FaceSenate$Reader", "<init>", "()V"⟩, prog_6_method_1_code, 1, none), (⟨"FaceSenate$Tape", "<init>", "()V"⟩, prog_9_method_1_code, 6, none), (⟨"java/lang/String", "length", "()I"⟩, prog_16_method_54_code, 1, some .int), (⟨"java/lang/String", "coder", "()B"⟩, prog_16_method_152_code, 1, some .byte), (⟨"java/lang/String", "charAt", "(I)C"⟩, prog_16_method_56_code, 2, some .char), (⟨"java/lang/String", "isLatin1", "()Z"⟩, prog_16_method_154_code, 1, some .boolean), (⟨"java/lang/StringLatin1", "charAt", "([BI)C"⟩, prog_17_method_2_code, 2, some .char), (⟨"java/lang/String", "checkIndex", "(II)V"⟩, prog_16_method_155_code, 2, none), (⟨"jdk/internal/util/Preconditions", "checkIndex", "(IILjava/util/function/BiFunction;)I"⟩, prog_21_method_11_code, 3, some .int), (⟨"FaceSenate$Tape", "codeWith", "(JI)J"⟩, prog_9_method_10_code, 3, some .long), (⟨"FaceSenate$Plan", "<init>", "()V"⟩, prog_5_method_1_code, 1, none), (⟨"FaceSenate$Formula", "<init>", "()V"⟩, prog_3_method_1_code, 1, none), (⟨"FaceSenate$Plan", "clear", "()V"⟩, prog_5_method_2_code, 1, none), (⟨"java/util/Arrays", "fill", "([II)V"⟩, prog_20_method_103_code, 4, none), (⟨"FaceSenate$Formula", "clear", "()V"⟩, prog_3_method_2_code, 1, none)], [(⟨"FaceSenate$Formula", "add", "(I)V"⟩, prog_3_method_3_code, 2, none), (⟨"FaceSenate$Sitting", "<init>", "()V"⟩, prog_8_method_1_code, 1, none), (⟨"FaceSenate$Trial", "<init>", "()V"⟩, prog_10_method_1_code, 1, none), (⟨"FaceSenate$Acts", "<init>", "()V"⟩, prog_2_method_1_code, 1, none), (⟨"FaceSenate$Shelf", "<init>", "(I)V"⟩, prog_7_method_1_code, 2, none), (⟨"FaceSenate$Looks", "<init>", "()V"⟩, prog_4_method_1_code, 1, none), (⟨"FaceSenate$Sitting", "begin", "(LFaceSenate$Plan;)V"⟩, prog_8_method_2_code, 2, none), (⟨"FaceSenateModel", "<init>", "()V"⟩, prog_12_method_1_code, 1, none), (⟨"FaceSenateModel", "clearBank", "()V"⟩, prog_12_method_16_code, 1, none), (⟨"FaceSenateModel", "startAnew", "()V"⟩, prog_12_method_52_code, 2, none), (⟨"FaceSenateModel", "many", "()I"⟩, prog_12_method_47_code, 1, some .int), (⟨"FaceSenate", "feed", "(IIIII)I"⟩, prog_1_method_2_code, 7, some .int), (⟨"FaceSenate$Tape", "add", "(I)V"⟩, prog_9_method_2_code, 3, none), (⟨"FaceSenateModel", "feed", "(IIIII)I"⟩, prog_12_method_125_code, 8, some .int), (⟨"FaceSenate", "end", "(I)I"⟩, prog_1_method_3_code, 2, some .int), (⟨"FaceSenateModel", "end", "(I)I"⟩, prog_12_method_126_code, 2, some .int)], [(⟨"FaceSenate", "senate", "()I"⟩, prog_1_method_4_code, 2, some .int), (⟨"FaceSenate$Reader", "read", "()V"⟩, prog_6_method_2_code, 3, none), (⟨"FaceSenate$Tape", "toFirst", "()V"⟩, prog_9_method_3_code, 1, none), (⟨"FaceSenate$Tape", "toNext", "()V"⟩, prog_9_method_4_code, 2, none), (⟨"FaceSenate$Tape", "isAt", "(I)Z"⟩, prog_9_method_7_code, 2, some .boolean), (⟨"FaceSenate$Trial", "forgetLight", "()V"⟩, prog_10_method_12_code, 1, none), (⟨"FaceSenate$Acts", "clear", "()V"⟩, prog_2_method_2_code, 1, none), (⟨"FaceSenate$Shelf", "clear", "()V"⟩, prog_7_method_2_code, 2, none), (⟨"FaceSenate$Looks", "clear", "()V"⟩, prog_4_method_2_code, 1, none), (⟨"FaceSenateModel", "senate", "()I"⟩, prog_12_method_17_code, 2, some .int), (⟨"FaceSenateModel", "goOn", "()V"⟩, prog_12_method_9_code, 3, none), (⟨"FaceSenateModel", "sign", "(I)I"⟩, prog_12_method_2_code, 2, some .int), (⟨"FaceSenateModel", "isGood", "()Z"⟩, prog_12_method_6_code, 1, some .boolean), (⟨"FaceSenate", "fault", "(I)I"⟩, prog_1_method_5_code, 2, some .int), (⟨"FaceSenateModel", "fault", "(I)I"⟩, prog_12_method_40_code, 2, some .int), (⟨"FaceSenate", "member", "(II)I"⟩, prog_1_method_6_code, 3, some .int)], [(⟨"FaceSenate", "isMember", "(I)Z"⟩, prog_1_method_62_code, 2, some .boolean), (⟨"FaceSenateModel", "member", "(II)I"⟩, prog_12_method_62_code, 3, some .int), (⟨"FaceSenateModel", "isMember", "(I)Z"⟩, prog_12_method_49_code, 2, some .boolean), (⟨"FaceSenateModel", "isIn", "(III)Z"⟩, prog_12_method_41_code, 3, some .boolean), (⟨"FaceSenate", "district", "(II)I"⟩, prog_1_method_7_code, 3, some .int), (⟨"FaceSenateModel", "district", "(II)I"⟩, prog_12_method_66_code, 3, some .int), (⟨"FaceSenate", "seat", "(II)I"⟩, prog_1_method_8_code, 3, some .int), (⟨"FaceSenate", "isSeat", "(I)Z"⟩, prog_1_method_64_code, 2, some .boolean), (⟨"FaceSenateModel", "seat", "(II)I"⟩, prog_12_method_67_code, 3, some .int), (⟨"FaceSenateModel", "isSeat", "(I)Z"⟩, prog_12_method_50_code, 2, some .boolean), (⟨"FaceSenateModel", "seats", "()I"⟩, prog_12_method_48_code, 1, some .int), (⟨"FaceSenate$Plan", "seatCount", "()I"⟩, prog_5_method_3_code, 1, some .int), (⟨"FaceSenate$Sitting", "sitterOn", "(I)I"⟩, prog_8_method_6_code, 3, some .int), (⟨"FaceSenateModel", "whoSits", "(I)I"⟩, prog_12_method_53_code, 3, some .int), (⟨"FaceSenate$Trial", "begin", "(LFaceSenate$Plan;LFaceSenate$Sitting;)V"⟩, prog_10_method_2_code, 3, none), (⟨"FaceSenate$Sitting", "take", "(LFaceSenate$Sitting;)V"⟩, prog_8_method_3_code, 2, none)], [(⟨"FaceSenate$Trial", "arrange", "()V"⟩, prog_10_method_3_code, 5, none), (⟨"FaceSenate$Trial", "areBeside", "(II)Z"⟩, prog_10_method_4_code, 3, some .boolean), (⟨"FaceSenate$Trial", "brightAt", "(II)I"⟩, prog_10_method_11_code, 5, some .int), (⟨"FaceSenate$Formula", "worth", "([I)I"⟩, prog_3_method_4_code, 5, some .int), (⟨"FaceSenate$Formula", "operand", "(I[I)I"⟩, prog_3_method_5_code, 2, some .int), (⟨"FaceSenate", "within", "(II)I"⟩, prog_1_method_68_code, 2, some .int), (⟨"FaceSenateModel", "brightAt", "(I)I"⟩, prog_12_method_58_code, 2, some .int), (⟨"FaceSenate", "report", "()I"⟩, prog_1_method_9_code, 1, some .int), (⟨"FaceSenate$Sitting", "together", "()I"⟩, prog_8_method_4_code, 1, some .int), (⟨"FaceSenate$Sitting", "facesOf", "(I)I"⟩, prog_8_method_5_code, 4, some .int), (⟨"FaceSenateModel", "report", "()I"⟩, prog_12_method_69_code, 1, some .int), (⟨"FaceSenateModel", "reportNow", "()I"⟩, prog_12_method_68_code, 1, some .int), (⟨"FaceSenateModel", "everybody", "()I"⟩, prog_12_method_57_code, 1, some .int), (⟨"FaceSenateModel", "facesOf", "(I)I"⟩, prog_12_method_56_code, 4, some .int), (⟨"FaceSenate", "off", "()I"⟩, prog_1_method_10_code, 1, some .int), (⟨"FaceSenate$Plan", "offOfAll", "(LFaceSenate$Sitting;)I"⟩, prog_5_method_6_code, 4, some .int)], [(⟨"FaceSenateModel", "off", "()I"⟩, prog_12_method_70_code, 1, some .int), (⟨"FaceSenateModel", "allOff", "()I"⟩, prog_12_method_65_code, 3, some .int), (⟨"FaceSenate", "step", "()I"⟩, prog_1_method_11_code, 2, some .int), (⟨"FaceSenate$Acts", "keep", "(LFaceSenate$Sitting;)V"⟩, prog_2_method_3_code, 2, none), (⟨"FaceSenate$Shelf", "put", "(ILFaceSenate$Sitting;)V"⟩, prog_7_method_3_code, 4, none), (⟨"FaceSenate$Trial", "pass", "()I"⟩, prog_10_method_8_code, 3, some .int), (⟨"FaceSenate$Trial", "wince", "()I"⟩, prog_10_method_10_code, 3, some .int), (⟨"FaceSenateModel", "step", "()I"⟩, prog_12_method_74_code, 1, some .int), (⟨"FaceSenateModel", "keepAct", "()V"⟩, prog_12_method_72_code, 2, none), (⟨"FaceSenateModel", "goInEarnest", "()I"⟩, prog_12_method_61_code, 4, some .int), (⟨"FaceSenateModel", "goStep", "()I"⟩, prog_12_method_60_code, 3, some .int), (⟨"FaceSenate", "news", "(I)I"⟩, prog_1_method_12_code, 3, some .int), (⟨"FaceSenate", "isWithin", "(II)Z"⟩, prog_1_method_67_code, 2, some .boolean), (⟨"FaceSenateModel", "news", "(I)I"⟩, prog_12_method_75_code, 3, some .int), (⟨"FaceSenateModel", "isFace", "(I)Z"⟩, prog_12_method_51_code, 1, some .boolean), (⟨"FaceSenate", "sit", "(II)I"⟩, prog_1_method_13_code, 4, some .int)], [(⟨"FaceSenateModel", "sit", "(II)I"⟩, prog_12_method_76_code, 4, some .int), (⟨"FaceSenate", "change", "(II)Z"⟩, prog_1_method_14_code, 3, some .boolean), (⟨"FaceSenate", "canChange", "(II)Z"⟩, prog_1_method_65_code, 3, some .boolean), (⟨"FaceSenateModel", "change", "(II)Z"⟩, prog_12_method_79_code, 3, some .boolean), (⟨"FaceSenateModel", "canChange", "(II)Z"⟩, prog_12_method_77_code, 3, some .boolean), (⟨"FaceSenate", "unseat", "(I)I"⟩, prog_1_method_15_code, 3, some .int), (⟨"FaceSenate", "isSeated", "(I)Z"⟩, prog_1_method_63_code, 2, some .boolean), (⟨"FaceSenateModel", "unseat", "(I)I"⟩, prog_12_method_80_code, 3, some .int), (⟨"FaceSenate", "undo", "()Z"⟩, prog_1_method_16_code, 1, some .boolean), (⟨"FaceSenate$Acts", "takeBack", "(LFaceSenate$Sitting;)Z"⟩, prog_2_method_4_code, 2, some .boolean), (⟨"FaceSenateModel", "undo", "()Z"⟩, prog_12_method_81_code, 1, some .boolean), (⟨"FaceSenate", "redo", "()Z"⟩, prog_1_method_17_code, 1, some .boolean), (⟨"FaceSenate$Acts", "doAgain", "(LFaceSenate$Sitting;)Z"⟩, prog_2_method_5_code, 2, some .boolean), (⟨"FaceSenateModel", "redo", "()Z"⟩, prog_12_method_82_code, 1, some .boolean), (⟨"FaceSenate", "stand", "(II)I"⟩, prog_1_method_18_code, 7, some .int), (⟨"FaceSenateModel", "stand", "(II)I"⟩, prog_12_method_84_code, 5, some .int)], [(⟨"FaceSenate", "sample", "(II)I"⟩, prog_1_method_19_code, 5, some .int), (⟨"FaceSenateModel", "sample", "(II)I"⟩, prog_12_method_86_code, 5, some .int), (⟨"FaceSenate", "samples", "(I)I"⟩, prog_1_method_20_code, 4, some .int), (⟨"FaceSenateModel", "samples", "(I)I"⟩, prog_12_method_87_code, 4, some .int), (⟨"FaceSenateModel", "bitsOf", "(I)I"⟩, prog_12_method_43_code, 3, some .int), (⟨"FaceSenate", "chain", "(II)I"⟩, prog_1_method_22_code, 6, some .int), (⟨"FaceSenateModel", "chain", "(II)I"⟩, prog_12_method_90_code, 5, some .int), (⟨"FaceSenate", "groups", "()I"⟩, prog_1_method_26_code, 4, some .int), (⟨"FaceSenate$Sitting", "seated", "()I"⟩, prog_8_method_7_code, 3, some .int), (⟨"FaceSenateModel", "groups", "()I"⟩, prog_12_method_91_code, 5, some .int), (⟨"FaceSenate", "place", "(II)I"⟩, prog_1_method_28_code, 8, some .int), (⟨"FaceSenateModel", "place", "(II)I"⟩, prog_12_method_98_code, 7, some .int), (⟨"FaceSenate", "move", "(I)I"⟩, prog_1_method_30_code, 8, some .int), (⟨"FaceSenateModel", "move", "(I)I"⟩, prog_12_method_99_code, 6, some .int), (⟨"FaceSenate", "settled", "()I"⟩, prog_1_method_33_code, 2, some .int), (⟨"FaceSenateModel", "settled", "()I"⟩, prog_12_method_100_code, 2, some .int)], [(⟨"FaceSenateModel", "keepNow", "()V"⟩, prog_12_method_92_code, 2, none), (⟨"FaceSenateModel", "bringBack", "()V"⟩, prog_12_method_93_code, 2, none), (⟨"FaceSenate", "will", "(II)I"⟩, prog_1_method_34_code, 4, some .int), (⟨"FaceSenateModel", "will", "(II)I"⟩, prog_12_method_101_code, 5, some .int), (⟨"FaceSenate", "ahead", "(I)I"⟩, prog_1_method_35_code, 2, some .int), (⟨"FaceSenateModel", "ahead", "(I)I"⟩, prog_12_method_96_code, 2, some .int), (⟨"FaceSenateModel", "isAhead", "(I)Z"⟩, prog_12_method_94_code, 1, some .boolean), (⟨"FaceSenate$Trial", "passAll", "(I)V"⟩, prog_10_method_7_code, 3, none), (⟨"FaceSenateModel", "reportBehind", "(I)I"⟩, prog_12_method_95_code, 4, some .int), (⟨"FaceSenate", "alike", "()I"⟩, prog_1_method_36_code, 2, some .int), (⟨"FaceSenateModel", "alike", "()I"⟩, prog_12_method_103_code, 4, some .int), (⟨"FaceSenate", "unrest", "(I)I"⟩, prog_1_method_37_code, 4, some .int), (⟨"FaceSenateModel", "unrest", "(I)I"⟩, prog_12_method_104_code, 4, some .int), (⟨"java/lang/Integer", "bitCount", "(I)I"⟩, prog_14_method_49_code, 1, some .int), (⟨"FaceSenate", "sways", "(III)I"⟩, prog_1_method_38_code, 4, some .int), (⟨"FaceSenateModel", "sways", "(III)I"⟩, prog_12_method_105_code, 7, some .int)], [(⟨"FaceSenate", "brightest", "()I"⟩, prog_1_method_32_code, 4, some .int), (⟨"FaceSenateModel", "brightest", "()I"⟩, prog_12_method_71_code, 3, some .int), (⟨"FaceSenate", "parties", "(II)I"⟩, prog_1_method_41_code, 4, some .int), (⟨"FaceSenateModel", "parties", "(II)I"⟩, prog_12_method_109_code, 8, some .int), (⟨"FaceSenate", "isPart", "(I)Z"⟩, prog_1_method_66_code, 1, some .boolean), (⟨"FaceSenate", "turn", "(IIII)I"⟩, prog_1_method_42_code, 9, some .int), (⟨"FaceSenate$Trial", "keepFaces", "(I)V"⟩, prog_10_method_14_code, 2, none), (⟨"FaceSenate$Trial", "takeKept", "(I)V"⟩, prog_10_method_15_code, 2, none), (⟨"FaceSenateModel", "power", "(II)I"⟩, prog_12_method_46_code, 4, some .int), (⟨"FaceSenateModel", "reportByTurns", "(II)I"⟩, prog_12_method_108_code, 5, some .int), (⟨"FaceSenate", "least", "(II)I"⟩, prog_1_method_43_code, 4, some .int), (⟨"FaceSenateModel", "least", "(II)I"⟩, prog_12_method_110_code, 4, some .int), (⟨"FaceSenate", "goOnWith", "(II)V"⟩, prog_1_method_45_code, 4, none), (⟨"FaceSenate", "best", "(I)I"⟩, prog_1_method_44_code, 6, some .int), (⟨"FaceSenateModel", "best", "(I)I"⟩, prog_12_method_112_code, 4, some .int), (⟨"FaceSenateModel", "offBehind", "(II)I"⟩, prog_12_method_111_code, 5, some .int)], [(⟨"FaceSenate", "odds", "(II)I"⟩, prog_1_method_46_code, 5, some .int), (⟨"FaceSenateModel", "odds", "(II)I"⟩, prog_12_method_113_code, 5, some .int), (⟨"FaceSenate", "commonDivisor", "(II)I"⟩, prog_1_method_47_code, 4, some .int), (⟨"FaceSenate", "power", "(II)I"⟩, prog_1_method_48_code, 4, some .int), (⟨"FaceSenateModel", "divisor", "(II)I"⟩, prog_12_method_45_code, 5, some .int), (⟨"FaceSenate", "moved", "(I)I"⟩, prog_1_method_39_code, 6, some .int), (⟨"FaceSenateModel", "moved", "(I)I"⟩, prog_12_method_106_code, 6, some .int), (⟨"FaceSenate", "key", "()I"⟩, prog_1_method_40_code, 5, some .int), (⟨"FaceSenateModel", "key", "()I"⟩, prog_12_method_107_code, 5, some .int), (⟨"FaceSenate", "lies", "(I)I"⟩, prog_1_method_49_code, 2, some .int), (⟨"FaceSenateModel", "lies", "(I)I"⟩, prog_12_method_88_code, 2, some .int), (⟨"FaceSenate", "looks", "(IIIZ)I"⟩, prog_1_method_50_code, 5, some .int), (⟨"FaceSenateModel", "looks", "(IIIZ)I"⟩, prog_12_method_114_code, 5, some .int), (⟨"FaceSenate", "untell", "(I)Z"⟩, prog_1_method_51_code, 2, some .boolean), (⟨"FaceSenate$Looks", "takeBack", "(II)Z"⟩, prog_4_method_4_code, 3, some .boolean), (⟨"FaceSenateModel", "untell", "(I)Z"⟩, prog_12_method_115_code, 2, some .boolean)], [(⟨"FaceSenate", "later", "(I)I"⟩, prog_1_method_52_code, 2, some .int), (⟨"FaceSenateModel", "later", "(I)I"⟩, prog_12_method_116_code, 2, some .int), (⟨"FaceSenate", "fits", "(I)I"⟩, prog_1_method_53_code, 2, some .int), (⟨"FaceSenate", "fittingNews", "(I)I"⟩, prog_1_method_54_code, 5, some .int), (⟨"FaceSenate$Looks", "deepest", "(I)I"⟩, prog_4_method_6_code, 4, some .int), (⟨"FaceSenate", "allAreSo", "(III)Z"⟩, prog_1_method_55_code, 5, some .boolean), (⟨"FaceSenateModel", "fits", "(I)I"⟩, prog_12_method_119_code, 4, some .int), (⟨"FaceSenateModel", "doesFit", "(II)Z"⟩, prog_12_method_118_code, 5, some .boolean), (⟨"FaceSenate", "ask", "(III)I"⟩, prog_1_method_56_code, 9, some .int), (⟨"FaceSenateModel", "ask", "(III)I"⟩, prog_12_method_121_code, 9, some .int), (⟨"FaceSenate", "image", "(I)I"⟩, prog_1_method_59_code, 2, some .int), (⟨"FaceSenateModel", "image", "(I)I"⟩, prog_12_method_122_code, 3, some .int), (⟨"FaceSenate", "back", "(I)I"⟩, prog_1_method_60_code, 2, some .int), (⟨"FaceSenate$Shelf", "give", "(ILFaceSenate$Sitting;)Z"⟩, prog_7_method_4_code, 4, some .boolean), (⟨"FaceSenateModel", "back", "(I)I"⟩, prog_12_method_123_code, 3, some .int), (⟨"FaceSenate", "about", "(I)I"⟩, prog_1_method_61_code, 2, some .int)], [(⟨"FaceSenateModel", "about", "(I)I"⟩, prog_12_method_124_code, 2, some .int)]]
noncomputable def fx_mst (c : Nat) : Option fx_S := match fx_nth fx_msl (Nat.div c 16) with
  | none => none
  | some r => fx_nth r (Nat.mod c 16)
def fx_mol : List (List (Nat × (Nat × (Nat × (Nat × Nat))))) := [[(9, 133, 132, 0, 109), (4, 141, 140, 0, 110), (7, 147, 146, 0, 111), (11, 153, 151, 152, 112), (11, 157, 155, 156, 112), (11, 163, 161, 162, 112), (11, 167, 165, 166, 112), (12, 170, 169, 0, 113), (11, 173, 172, 0, 112), (13, 178, 177, 0, 114), (7, 200, 199, 0, 111), (3, 239, 238, 0, 116), (1, 245, 244, 0, 117), (3, 266, 264, 265, 116), (16, 269, 268, 0, 118), (1, 273, 271, 272, 117)], [(1, 277, 275, 276, 117), (6, 394, 393, 0, 119), (8, 432, 431, 0, 120), (0, 476, 475, 0, 121), (5, 482, 481, 0, 122), (2, 516, 515, 0, 124), (6, 544, 542, 543, 119), (10, 1240, 1239, 0, 126), (10, 1245, 1244, 41, 126), (10, 1249, 1248, 42, 126), (10, 1253, 1252, 43, 126), (9, 600, 598, 599, 109), (7, 604, 602, 603, 111), (10, 1970, 1968, 1969, 126), (9, 608, 606, 607, 109), (10, 1974, 1972, 1973, 126)], [(9, 612, 610, 611, 109), (4, 616, 614, 615, 110), (7, 621, 619, 620, 111), (7, 625, 623, 624, 111), (7, 629, 628, 0, 111), (8, 787, 785, 786, 120), (0, 792, 790, 791, 121), (5, 796, 794, 795, 122), (2, 800, 798, 799, 124), (10, 1477, 1475, 1476, 126), (10, 1481, 1480, 44, 126), (10, 1485, 1484, 45, 126), (10, 1525, 1524, 46, 126), (9, 804, 802, 803, 109), (10, 1633, 1631, 1632, 126), (9, 808, 806, 807, 109)], [(9, 812, 811, 22, 109), (10, 1637, 1635, 1636, 126), (10, 1641, 1640, 73, 126), (10, 1644, 1643, 0, 126), (9, 859, 857, 858, 109), (10, 1681, 1679, 1680, 126), (9, 880, 878, 879, 109), (9, 884, 883, 24, 109), (10, 1696, 1694, 1695, 126), (10, 1700, 1699, 82, 126), (10, 1704, 1703, 83, 126), (3, 888, 886, 887, 116), (6, 893, 891, 892, 119), (10, 1708, 1707, 84, 126), (8, 816, 814, 815, 120), (6, 820, 818, 819, 119)], [(8, 824, 822, 823, 120), (8, 829, 828, 23, 120), (8, 840, 838, 839, 120), (1, 844, 842, 843, 117), (1, 847, 846, 0, 117), (9, 853, 852, 0, 109), (10, 1666, 1665, 77, 126), (9, 897, 895, 896, 109), (6, 901, 899, 900, 119), (6, 836, 834, 835, 119), (10, 1712, 1710, 1711, 126), (10, 1716, 1715, 85, 126), (10, 1720, 1719, 86, 126), (10, 1659, 1658, 76, 126), (9, 906, 904, 905, 109), (3, 910, 908, 909, 116)], [(10, 1724, 1722, 1723, 126), (10, 1728, 1727, 87, 126), (9, 915, 913, 914, 109), (0, 919, 917, 918, 121), (5, 928, 926, 927, 122), (8, 932, 930, 931, 120), (8, 945, 943, 944, 120), (10, 1736, 1734, 1735, 126), (10, 1740, 1739, 88, 126), (10, 1744, 1743, 89, 126), (10, 1748, 1747, 90, 126), (9, 950, 948, 949, 109), (9, 953, 952, 0, 109), (10, 1756, 1754, 1755, 126), (10, 1759, 1758, 0, 126), (9, 957, 955, 956, 109)], [(10, 1763, 1761, 1762, 126), (9, 961, 959, 960, 109), (9, 965, 964, 26, 109), (10, 1767, 1765, 1766, 126), (10, 1771, 1770, 92, 126), (9, 977, 975, 976, 109), (9, 969, 968, 27, 109), (10, 1779, 1777, 1778, 126), (9, 981, 979, 980, 109), (0, 985, 983, 984, 121), (10, 1783, 1781, 1782, 126), (9, 993, 991, 992, 109), (0, 997, 995, 996, 121), (10, 1791, 1789, 1790, 126), (9, 1001, 999, 1000, 109), (10, 1795, 1793, 1794, 126)], [(9, 1008, 1006, 1007, 109), (10, 1803, 1801, 1802, 126), (9, 1018, 1016, 1017, 109), (10, 1811, 1809, 1810, 126), (10, 1692, 1691, 0, 126), (9, 1022, 1020, 1021, 109), (10, 1819, 1817, 1818, 126), (9, 1045, 1043, 1044, 109), (6, 1049, 1047, 1048, 119), (10, 1827, 1825, 1826, 126), (9, 1057, 1055, 1056, 109), (10, 1850, 1848, 1849, 126), (9, 1066, 1064, 1065, 109), (10, 1858, 1856, 1857, 126), (9, 1078, 1076, 1077, 109), (10, 1862, 1860, 1861, 126)], [(10, 1838, 1837, 98, 126), (10, 1846, 1845, 100, 126), (9, 1082, 1080, 1081, 109), (10, 1866, 1864, 1865, 126), (9, 1086, 1084, 1085, 109), (10, 1831, 1829, 1830, 126), (10, 1834, 1833, 0, 126), (8, 1090, 1088, 1089, 120), (10, 1842, 1841, 99, 126), (9, 1095, 1093, 1094, 109), (10, 1870, 1868, 1869, 126), (9, 1103, 1101, 1102, 109), (10, 1878, 1876, 1877, 126), (15, 872, 871, 0, 128), (9, 1107, 1105, 1106, 109), (10, 1882, 1880, 1881, 126)], [(9, 1074, 1072, 1073, 109), (10, 1732, 1730, 1731, 126), (9, 1127, 1125, 1126, 109), (10, 1894, 1892, 1893, 126), (9, 1004, 1003, 0, 109), (9, 1131, 1130, 34, 109), (8, 1111, 1109, 1110, 120), (8, 1135, 1133, 1134, 120), (10, 1897, 1896, 0, 126), (10, 1901, 1900, 103, 126), (9, 1139, 1137, 1138, 109), (10, 1905, 1903, 1904, 126), (9, 1143, 1142, 35, 109), (9, 1147, 1145, 1146, 109), (10, 1909, 1907, 1908, 126), (10, 1913, 1912, 104, 126)], [(9, 1151, 1149, 1150, 109), (10, 1917, 1915, 1916, 126), (9, 1154, 1153, 0, 109), (9, 1157, 1156, 0, 109), (10, 1920, 1919, 0, 126), (9, 1119, 1117, 1118, 109), (10, 1886, 1884, 1885, 126), (9, 1123, 1121, 1122, 109), (10, 1890, 1888, 1889, 126), (9, 1161, 1159, 1160, 109), (10, 1815, 1813, 1814, 126), (9, 1165, 1163, 1164, 109), (10, 1924, 1922, 1923, 126), (9, 1173, 1171, 1172, 109), (2, 1177, 1175, 1176, 124), (10, 1928, 1926, 1927, 126)], [(9, 1181, 1179, 1180, 109), (10, 1932, 1930, 1931, 126), (9, 1186, 1184, 1185, 109), (9, 1190, 1189, 36, 109), (2, 1194, 1192, 1193, 124), (9, 1203, 1202, 38, 109), (10, 1937, 1935, 1936, 126), (10, 1941, 1940, 105, 126), (9, 1211, 1209, 1210, 109), (10, 1949, 1947, 1948, 126), (9, 1225, 1223, 1224, 109), (10, 1958, 1956, 1957, 126), (9, 1230, 1228, 1229, 109), (5, 989, 987, 988, 122), (10, 1962, 1960, 1961, 126), (9, 1235, 1233, 1234, 109)], [(10, 1966, 1964, 1965, 126)]]
noncomputable def fx_mo (c : Nat) : Option (Nat × (Nat × (Nat × (Nat × Nat)))) := match fx_nth fx_mol (Nat.div c 16) with
  | none => none
  | some r => fx_nth r (Nat.mod c 16)
end
section
noncomputable def fx_wq (n : Nat) (w : Cond) : Bool := match fx_nth lw_tbl n with
  | some u => decide (u = w) && goodWord u
  | none => false
theorem fx_wq_ok {n : Nat} {w : Cond} (h : fx_wq n w = true) : w ∈ fx_tb := by
  unfold fx_wq at h
  cases hn : fx_nth lw_tbl n with
  | none => rw [hn] at h; cases h
  | some u =>
    rw [hn] at h
    obtain ⟨h1, h2⟩ := fx_and h
    have := of_decide_eq_true h1
    subst this
    rw [fx_nth_eq] at hn
    exact fx_tbi (List.mem_of_getElem? hn) h2
noncomputable def fx_has {α : Type} (l : List α) (f : α → Bool) : Bool := List.rec (motive := fun _ => Bool) false (fun a _ ih => f a || ih) l
theorem fx_has_ok {α : Type} {f : α → Bool} : ∀ {l : List α}, fx_has l f = true → ∃ a ∈ l, f a = true := by
  intro l
  induction l with
  | nil => intro h; cases h
  | cons a l ih =>
    intro h
    rcases fx_or (a := f a) (b := fx_has l f) h with h | h
    · exact ⟨a, List.mem_cons_self, h⟩
    · obtain ⟨b, h1, h2⟩ := ih h
      exact ⟨b, List.mem_cons_of_mem _ h1, h2⟩
theorem fx_all_ok {α : Type} {f : α → Bool} : ∀ {l : List α}, fx_all l f = true → ∀ a ∈ l, f a = true := by
  intro l
  induction l with
  | nil => intro _ a ha; cases ha
  | cons b l ih =>
    intro h a ha
    obtain ⟨h1, h2⟩ := fx_and (a := f b) (b := fx_all l f) h
    rcases List.mem_cons.mp ha with rfl | ha
    · exact h1
    · exact ih h2 a ha
-- the tables of words
noncomputable def fx_ftB (q : Nat × (Nat × (Nat × (Nat × Nat)))) : Bool := match fx_nth fx_cl q.2.2.1 with
  | none => false
  | some (_, T, N) => Nat.blt q.2.2.2.1 N && fx_wq q.2.2.2.2 (Cond.fieldLink (fx_cn q.1) q.2.1 (T q.2.2.2.1).1 (T q.2.2.2.1).2.1 (T q.2.2.2.1).2.2.1)
set_option maxRecDepth 100000 in
theorem fx_ft_all : fx_all fx_ft fx_ftB = true := by decide +kernel
theorem fx_ft_ok {o idx ci k : Nat} (h : fx_has fx_ft (fun q => Nat.beq q.1 o && (Nat.beq q.2.1 idx && (Nat.beq q.2.2.1 ci && Nat.beq q.2.2.2.1 k))) = true) : fx_fo (fx_cn o) idx ci k := by
  obtain ⟨⟨o', i', c', k', n'⟩, h1, h2⟩ := fx_has_ok h
  obtain ⟨e1, h2⟩ := fx_and h2
  obtain ⟨e2, h2⟩ := fx_and h2
  obtain ⟨e3, e4⟩ := fx_and h2
  have e1 := fx_beq e1
  have e2 := fx_beq e2
  have e3 := fx_beq e3
  have e4 := fx_beq e4
  simp only at e1 e2 e3 e4
  subst e1; subst e2; subst e3; subst e4
  have h3 := fx_all_ok fx_ft_all _ h1
  unfold fx_ftB at h3
  cases hc : fx_nth fx_cl c' with
  | none => simp only [hc] at h3; cases h3
  | some q =>
    obtain ⟨C, T, N⟩ := q
    simp only [hc] at h3
    obtain ⟨h4, h5⟩ := fx_and h3
    rw [fx_nth_eq] at hc
    exact ⟨C, T, N, hc, fx_blt h4, fx_wq_ok h5⟩
noncomputable def fx_ctB (q : Nat × (Nat × (Nat × Nat))) : Bool := fx_wq q.2.2.2 (Cond.constant (fx_cn q.1) q.2.1 (Int32.ofNat q.2.2.1))
set_option maxRecDepth 100000 in
theorem fx_ct_all : fx_all fx_ct fx_ctB = true := by decide +kernel
noncomputable def fx_ltB (q : Nat × (Nat × (Nat × Nat))) : Bool := fx_wq q.2.2.2 (Cond.constantLong (fx_cn q.1) q.2.1 (Int64.ofNat q.2.2.1))
set_option maxRecDepth 100000 in
theorem fx_lt_all : fx_all fx_lt fx_ltB = true := by decide +kernel
theorem fx_eq3 {l : List (Nat × (Nat × (Nat × Nat)))} {a b c : Nat} (h : fx_has l (fun q => Nat.beq q.1 a && (Nat.beq q.2.1 b && Nat.beq q.2.2.1 c)) = true) : ∃ n, (a, b, c, n) ∈ l := by
  obtain ⟨⟨o', i', c', n'⟩, h1, h2⟩ := fx_has_ok h
  obtain ⟨e1, h2⟩ := fx_and h2
  obtain ⟨e2, e3⟩ := fx_and h2
  have e1 := fx_beq e1
  have e2 := fx_beq e2
  have e3 := fx_beq e3
  simp only at e1 e2 e3
  subst e1; subst e2; subst e3
  exact ⟨n', h1⟩
theorem fx_eq2 {l : List (Nat × (Nat × Nat))} {a b : Nat} (h : fx_has l (fun q => Nat.beq q.1 a && Nat.beq q.2.1 b) = true) : ∃ n, (a, b, n) ∈ l := by
  obtain ⟨⟨o', i', n'⟩, h1, h2⟩ := fx_has_ok h
  obtain ⟨e1, e2⟩ := fx_and h2
  have e1 := fx_beq e1
  have e2 := fx_beq e2
  simp only at e1 e2
  subst e1; subst e2
  exact ⟨n', h1⟩
noncomputable def fx_ntB (q : Nat × (Nat × (Nat × Nat))) : Bool := match fx_nth fx_cl q.2.2.1 with
  | none => false
  | some (C, _, _) => fx_wq q.2.2.2 (Cond.classLink (fx_cn q.1) q.2.1 C)
set_option maxRecDepth 100000 in
theorem fx_nt_all : fx_all fx_nt fx_ntB = true := by decide +kernel
noncomputable def fx_otB (q : Nat × (Nat × Nat)) : Bool := fx_wq q.2.2 (Cond.methodLink (fx_cn q.1) q.2.1 Lib.objectInit)
set_option maxRecDepth 100000 in
theorem fx_ot_all : fx_all fx_ot fx_otB = true := by decide +kernel
noncomputable def fx_atB (q : Nat × (Nat × Nat)) : Bool := fx_wq q.2.2 (Cond.methodLink (fx_cn q.1) q.2.1 arraycopyName)
set_option maxRecDepth 100000 in
theorem fx_at_all : fx_all fx_at9 fx_atB = true := by decide +kernel
noncomputable def fx_xtB (q : Nat × (Nat × (Nat × Nat))) : Bool := fx_wq q.2.2.2 (fx_if (Nat.beq q.2.2.1 0) (Cond.fieldLink (fx_cn q.1) q.2.1 "java/lang/String" "value" "[B") (Cond.fieldLink (fx_cn q.1) q.2.1 "java/lang/String" "coder" "B"))
set_option maxRecDepth 100000 in
theorem fx_xt_all : fx_all fx_xt fx_xtB = true := by decide +kernel
noncomputable def fx_ztB (q : Nat × (Nat × (Nat × Nat))) : Bool := fx_wq q.2.2.2 (fx_if (Nat.beq q.2.2.1 0) (Cond.fieldLink (fx_cn q.1) q.2.1 "java/lang/String" "COMPACT_STRINGS" "Z") (Cond.fieldLink (fx_cn q.1) q.2.1 "jdk/internal/util/Preconditions" "SIOOBE_FORMATTER" "Ljava/util/function/BiFunction;"))
set_option maxRecDepth 100000 in
theorem fx_zt_all : fx_all fx_zt fx_ztB = true := by decide +kernel
noncomputable def fx_mxB (q : Nat × (Nat × (Nat × Nat))) : Bool := fx_wq q.2.2.2 (fx_if (Nat.beq q.2.2.1 0) (Cond.methodLink (fx_cn q.1) q.2.1 Lib.Math.max.name) (Cond.methodLink (fx_cn q.1) q.2.1 Lib.Math.min.name))
set_option maxRecDepth 100000 in
theorem fx_mx_all : fx_all fx_mx fx_mxB = true := by decide +kernel
-- calls
noncomputable def fx_tcB (t : Nat) (y : MethodName) : Bool := fx_if (Nat.beq t 99) (decide (y.cls = "java/lang/String")) (Nat.ble 2 t && (match fx_nth fx_cl (t - 2) with
  | some (C, _, _) => decide (C = y.cls)
  | none => false))
noncomputable def fx_ktB (q : Nat × (Nat × (Nat × (Nat × Nat)))) : Bool := match fx_mst q.2.2.2.1 with
  | none => false
  | some (y, _, _, rt) => match fx_mt q.2.2.2.1 with
    | none => false
    | some M => match fx_mo q.2.2.2.1 with
      | none => false
      | some (_, _, p2, p3, _) =>
        fx_if (Nat.beq q.2.1 0) ((fx_wq q.2.2.2.2 (Cond.methodLink (fx_cn q.1) q.2.2.1 y) && fx_wq p2 (Cond.instanceMethod y)) && (fx_wq p3 (Cond.selects y.cls y y) && fx_tcB M.2.2.2.2.1 y))
        (fx_if (Nat.beq q.2.1 1) ((fx_wq q.2.2.2.2 (Cond.methodLink (fx_cn q.1) q.2.2.1 y) && fx_wq p2 (Cond.instanceMethod y)) && (decide (y.name = "<init>") && (decide (rt = none) && Nat.beq M.2.2.2.2.1 1)))
        (fx_if (Nat.beq q.2.1 2) ((fx_wq q.2.2.2.2 (Cond.methodLink (fx_cn q.1) q.2.2.1 y) && fx_wq p2 (Cond.static y)) && Nat.beq M.2.2.2.2.1 0)
        (fx_if (Nat.beq q.2.1 3) ((decide ((fx_cn q.1, q.2.2.1, y, "FaceSenate") ∈ fx_nst) && fx_wq p2 (Cond.instanceMethod y)) && (decide (y.name = "<init>") && (decide (rt = none) && Nat.beq M.2.2.2.2.1 1)))
        (Nat.beq q.2.1 4 && ((decide ((fx_cn q.1, q.2.2.1, y, "FaceSenate") ∈ fx_nst) && fx_wq p2 (Cond.static y)) && Nat.beq M.2.2.2.2.1 0)))))
set_option maxRecDepth 100000 in
theorem fx_kt_all : fx_all fx_kt fx_ktB = true := by decide +kernel
end
section
noncomputable def fx_pfB (own : String) (ini : Bool) (ci k t : Nat) : Bool := match fx_nth fx_cl ci with
  | none => false
  | some (_, T, N) => (Nat.blt k N && (match parseFieldDescriptor (T k).2.2.1 with
    | some .int => Nat.beq t 0
    | some .boolean => Nat.beq t 2
    | some .long => Nat.beq t 3
    | some (.object _) => Nat.beq t 4
    | some (.array _) => Nat.beq t 4
    | _ => false)) && (!(T k).2.2.2 || (ini && decide ((T k).1 = own)))
theorem fx_pfB_ok {own : String} {ini : Bool} {ci k t : Nat} (h : fx_pfB own ini ci k t = true) : fx_pf own ini ci k t := by
  unfold fx_pfB at h
  cases hc : fx_nth fx_cl ci with
  | none => simp only [hc] at h; cases h
  | some q =>
    obtain ⟨C, T, N⟩ := q
    simp only [hc] at h
    obtain ⟨h1, h2⟩ := fx_and h
    obtain ⟨h3, h4⟩ := fx_and h1
    rw [fx_nth_eq] at hc
    have hfin : (T k).2.2.2 = true → ini = true ∧ (T k).1 = own := fun q => by
      rw [q] at h2
      obtain ⟨g1, g2⟩ := fx_and (a := ini) (b := decide ((T k).1 = own)) h2
      exact ⟨g1, of_decide_eq_true g2⟩
    cases hp : parseFieldDescriptor (T k).2.2.1 with
    | none => rw [hp] at h4; cases h4
    | some ty =>
      rw [hp] at h4
      refine ⟨C, T, N, ty, hc, fx_blt h3, hp, ?_, hfin⟩
      cases ty with
      | int => exact Or.inl ⟨fx_beq h4, rfl⟩
      | boolean => exact Or.inr (Or.inl ⟨fx_beq h4, rfl⟩)
      | long => exact Or.inr (Or.inr (Or.inl ⟨fx_beq h4, rfl⟩))
      | object n => exact Or.inr (Or.inr (Or.inr ⟨fx_beq h4, Or.inl ⟨n, rfl⟩⟩))
      | array n => exact Or.inr (Or.inr (Or.inr ⟨fx_beq h4, Or.inr ⟨n, rfl⟩⟩))
      | _ => cases h4
noncomputable def fx_rkB (b : Nat) (rt : Option FieldType) : Bool := match rt with
  | none => Nat.beq b 0
  | some .int => Nat.beq b 1
  | some .boolean => Nat.beq b 2
  | some .long => Nat.beq b 3
  | some .char => Nat.beq b 4
  | some .byte => Nat.beq b 5
  | _ => false
theorem fx_rkB_ok {b : Nat} {rt : Option FieldType} (h : fx_rkB b rt = true) : fx_rk b rt := by
  rcases rt with _ | ty
  · exact Or.inl ⟨fx_beq h, rfl⟩
  · cases ty with
    | int => exact Or.inr (Or.inl ⟨fx_beq h, rfl⟩)
    | boolean => exact Or.inr (Or.inr (Or.inl ⟨fx_beq h, rfl⟩))
    | long => exact Or.inr (Or.inr (Or.inr (Or.inl ⟨fx_beq h, rfl⟩)))
    | char => exact Or.inr (Or.inr (Or.inr (Or.inr (Or.inl ⟨fx_beq h, rfl⟩))))
    | byte => exact Or.inr (Or.inr (Or.inr (Or.inr (Or.inr ⟨fx_beq h, rfl⟩))))
    | _ => cases h
theorem fx_kt_ok {o a b c : Nat} (h : fx_has fx_kt (fun q => Nat.beq q.1 o && (Nat.beq q.2.1 a && (Nat.beq q.2.2.1 b && Nat.beq q.2.2.2.1 c))) = true) : fx_ca fx_mst fx_mt (fx_cn o) a b c := by
  obtain ⟨⟨o', a', b', c', n'⟩, h1, h2⟩ := fx_has_ok h
  obtain ⟨e1, h2⟩ := fx_and h2
  obtain ⟨e2, h2⟩ := fx_and h2
  obtain ⟨e3, e4⟩ := fx_and h2
  have e1 := fx_beq e1
  have e2 := fx_beq e2
  have e3 := fx_beq e3
  have e4 := fx_beq e4
  simp only at e1 e2 e3 e4
  subst e1; subst e2; subst e3; subst e4
  have h3 := fx_all_ok fx_kt_all _ h1
  unfold fx_ktB at h3
  simp only at h3
  cases hs : fx_mst c' with
  | none => rw [hs] at h3; cases h3
  | some S =>
    obtain ⟨y, cc, nL, rt⟩ := S
    rw [hs] at h3
    simp only at h3
    cases hm : fx_mt c' with
    | none => rw [hm] at h3; cases h3
    | some M =>
      rw [hm] at h3
      simp only at h3
      cases ho : fx_mo c' with
      | none => rw [ho] at h3; cases h3
      | some O =>
        obtain ⟨p0, p1, p2, p3, p4⟩ := O
        rw [ho] at h3
        simp only at h3
        refine ⟨y, cc, nL, rt, M, hs, hm, ?_, ?_, ?_, ?_, ?_⟩
        · intro q
          subst q
          obtain ⟨g1, g2⟩ := fx_and (a := fx_wq n' (Cond.methodLink (fx_cn o') b' y) && fx_wq p2 (Cond.instanceMethod y)) (b := fx_wq p3 (Cond.selects y.cls y y) && fx_tcB M.2.2.2.2.1 y) h3
          obtain ⟨g3, g4⟩ := fx_and g1
          obtain ⟨g5, g6⟩ := fx_and g2
          refine ⟨fx_wq_ok g3, fx_wq_ok g4, fx_wq_ok g5, ?_⟩
          unfold fx_tcB at g6
          cases h9 : Nat.beq M.2.2.2.2.1 99 with
          | true =>
            rw [h9, fx_if_t] at g6
            exact Or.inr ⟨fx_beq h9, of_decide_eq_true g6⟩
          | false =>
            rw [h9, fx_if_f] at g6
            obtain ⟨g7, g8⟩ := fx_and g6
            cases hc : fx_nth fx_cl (M.2.2.2.2.1 - 2) with
            | none => rw [hc] at g8; cases g8
            | some Q =>
              obtain ⟨C, T, N⟩ := Q
              rw [hc] at g8
              have := of_decide_eq_true g8
              subst this
              rw [fx_nth_eq] at hc
              have g7 := fx_ble g7
              exact Or.inl ⟨M.2.2.2.2.1 - 2, T, N, by omega, fx_bnq h9, hc⟩
        · intro q
          subst q
          obtain ⟨g1, g2⟩ := fx_and (a := fx_wq n' (Cond.methodLink (fx_cn o') b' y) && fx_wq p2 (Cond.instanceMethod y)) (b := decide (y.name = "<init>") && (decide (rt = none) && Nat.beq M.2.2.2.2.1 1)) h3
          obtain ⟨g3, g4⟩ := fx_and g1
          obtain ⟨g5, g6⟩ := fx_and g2
          obtain ⟨g7, g8⟩ := fx_and g6
          exact ⟨fx_wq_ok g3, fx_wq_ok g4, of_decide_eq_true g5, of_decide_eq_true g7, fx_beq g8⟩
        · intro q
          subst q
          obtain ⟨g1, g2⟩ := fx_and (a := fx_wq n' (Cond.methodLink (fx_cn o') b' y) && fx_wq p2 (Cond.static y)) (b := Nat.beq M.2.2.2.2.1 0) h3
          obtain ⟨g3, g4⟩ := fx_and g1
          exact ⟨fx_wq_ok g3, fx_wq_ok g4, fx_beq g2⟩
        · intro q
          subst q
          obtain ⟨g1, g2⟩ := fx_and (a := decide ((fx_cn o', b', y, "FaceSenate") ∈ fx_nst) && fx_wq p2 (Cond.instanceMethod y)) (b := decide (y.name = "<init>") && (decide (rt = none) && Nat.beq M.2.2.2.2.1 1)) h3
          obtain ⟨g3, g4⟩ := fx_and g1
          obtain ⟨g5, g6⟩ := fx_and g2
          obtain ⟨g7, g8⟩ := fx_and g6
          exact ⟨of_decide_eq_true g3, fx_wq_ok g4, of_decide_eq_true g5, of_decide_eq_true g7, fx_beq g8⟩
        · intro q
          subst q
          obtain ⟨g1, g2⟩ := fx_and (a := decide ((fx_cn o', b', y, "FaceSenate") ∈ fx_nst) && fx_wq p2 (Cond.static y)) (b := Nat.beq M.2.2.2.2.1 0) h3
          obtain ⟨g3, g4⟩ := fx_and g1
          exact ⟨of_decide_eq_true g3, fx_wq_ok g4, fx_beq g2⟩
noncomputable def fx_kwB (o a b c : Nat) : Bool := fx_if (Nat.beq a 1) (decide ((Int8.ofInt (Int32.ofNat c).toInt).toInt32 = Int32.ofNat c)) (fx_if (Nat.beq a 2) (decide ((Int16.ofInt (Int32.ofNat c).toInt).toInt32 = Int32.ofNat c)) (fx_if (Nat.beq a 3 || Nat.beq a 4) (fx_has fx_ct (fun q => Nat.beq q.1 o && (Nat.beq q.2.1 b && Nat.beq q.2.2.1 c))) (fx_if (Nat.beq a 5) (Nat.blt c 2) (fx_if (Nat.beq a 6) (fx_has fx_lt (fun q => Nat.beq q.1 o && (Nat.beq q.2.1 b && Nat.beq q.2.2.1 c))) true))))
theorem fx_kwB_ok {o a b c : Nat} (h : fx_kwB o a b c = true) : fx_kw (fx_cn o) a b c := by
  refine ⟨fun q => ?_, fun q => ?_, fun q => ?_, fun q => ?_, fun q => ?_⟩
  · subst q; exact of_decide_eq_true h
  · subst q; exact of_decide_eq_true h
  · have h : fx_has fx_ct (fun q => Nat.beq q.1 o && (Nat.beq q.2.1 b && Nat.beq q.2.2.1 c)) = true := by
      rcases q with q | q <;> subst q <;> exact h
    obtain ⟨n, hn⟩ := fx_eq3 h
    exact fx_wq_ok (fx_all_ok fx_ct_all _ hn)
  · subst q; exact fx_blt h
  · subst q
    obtain ⟨n, hn⟩ := fx_eq3 (show fx_has fx_lt (fun q => Nat.beq q.1 o && (Nat.beq q.2.1 b && Nat.beq q.2.2.1 c)) = true from h)
    exact fx_wq_ok (fx_all_ok fx_lt_all _ hn)
noncomputable def fx_anB (o : Nat) (ini : Bool) (rt : Option FieldType) (nL kd a b c : Nat) : Bool :=
  fx_if (Nat.beq kd 0) ((!(Nat.beq b 0 || (Nat.beq b 2 || Nat.beq b 4))) || Nat.blt a 4)
  (fx_if (Nat.beq kd 11) (((!(Nat.beq b 0 || (Nat.beq b 2 || Nat.beq b 4))) || Nat.blt a 4) && (Nat.blt (a + 1) nL || (Nat.blt a nL && Nat.blt b 4)))
  (fx_if (Nat.beq kd 1) (fx_has fx_ft (fun q => Nat.beq q.1 o && (Nat.beq q.2.1 a && (Nat.beq q.2.2.1 b && Nat.beq q.2.2.2.1 c))))
  (fx_if (Nat.beq kd 2) (fx_kwB o a b c)
  (fx_if (Nat.beq kd 9) (fx_has fx_kt (fun q => Nat.beq q.1 o && (Nat.beq q.2.1 a && (Nat.beq q.2.2.1 b && Nat.beq q.2.2.2.1 c))))
  (fx_if (Nat.beq kd 10) (fx_rkB b rt && (Nat.beq a 0 || ((Nat.beq a 1 && Nat.beq b 0) || (Nat.beq a 2 && Nat.beq b 3))))
  (fx_if (Nat.beq kd 12) (Nat.blt a 11)
  (fx_if (Nat.beq kd 13) (Nat.blt a 4)
  (fx_if (Nat.beq kd 14) (fx_has fx_ft (fun q => Nat.beq q.1 o && (Nat.beq q.2.1 a && (Nat.beq q.2.2.1 b && Nat.beq q.2.2.2.1 (c / 8)))) && fx_pfB (fx_cn o) ini b (c / 8) (c % 8))
  (fx_if (Nat.beq kd 16) (fx_has fx_nt (fun q => Nat.beq q.1 o && (Nat.beq q.2.1 a && Nat.beq q.2.2.1 b)))
  (fx_if (Nat.beq kd 20 || Nat.beq kd 21) ((Nat.blt b 2147483648 && (Nat.blt (b + (fx_swt c).length) 2147483648 && Nat.blt 0 (fx_swt c).length)) && (Nat.beq kd 20 || Nat.beq (fx_swt c).length 2))
  (fx_if (Nat.beq kd 22) (fx_has fx_ot (fun q => Nat.beq q.1 o && Nat.beq q.2.1 a))
  (fx_if (Nat.beq kd 23) (fx_has fx_at9 (fun q => Nat.beq q.1 o && Nat.beq q.2.1 a))
  (fx_if (Nat.beq kd 24) (Nat.blt a 3)
  (fx_if (Nat.beq kd 25) (fx_has fx_xt (fun q => Nat.beq q.1 o && (Nat.beq q.2.1 a && Nat.beq q.2.2.1 b)))
  (fx_if (Nat.beq kd 26) (fx_has fx_zt (fun q => Nat.beq q.1 o && (Nat.beq q.2.1 a && Nat.beq q.2.2.1 b)))
  (fx_if (Nat.beq kd 27) (Nat.beq o 7 && Nat.beq a 39) (fx_if (Nat.beq kd 29) (fx_has fx_mx (fun q => Nat.beq q.1 o && (Nat.beq q.2.1 a && Nat.beq q.2.2.1 b))) (Nat.blt kd 28))))))))))))))))))
theorem fx_ld4 {a b : Nat} (h : ((!(Nat.beq b 0 || (Nat.beq b 2 || Nat.beq b 4))) || Nat.blt a 4) = true) : b = 0 ∨ b = 2 ∨ b = 4 → a < 4 := by
  intro q
  rcases fx_or h with h | h
  · rcases q with q | q | q <;> subst q <;> cases h
  · exact fx_blt h
theorem fx_anB_ok {o : Nat} {ini : Bool} {rt : Option FieldType} {nL kd a b c : Nat} (h : fx_anB o ini rt nL kd a b c = true) : kd ≠ 28 ∧ fx_an fx_mst fx_mt (fx_cn o) ini rt nL kd a b c := by
  by_cases hk : kd < 28 ∨ kd = 29
  · refine ⟨by omega, ?_⟩
    refine ⟨?_, ?_, ?_, ?_, ?_, ?_, ?_, ?_, ?_, ?_, ?_, ?_, ?_, ?_, ?_, ?_, ?_, ?_, ?_⟩
    · rintro (q | q)
      · subst q; exact fx_ld4 h
      · subst q; exact fx_ld4 (fx_and (a := ((!(Nat.beq b 0 || (Nat.beq b 2 || Nat.beq b 4))) || Nat.blt a 4)) h).1
    · intro q; subst q; exact fx_ft_ok h
    · intro q; subst q; exact fx_kwB_ok h
    · intro q; subst q; exact fx_kt_ok h
    · intro q
      subst q
      obtain ⟨h1, h2⟩ := fx_and (a := fx_rkB b rt) (b := (Nat.beq a 0 || ((Nat.beq a 1 && Nat.beq b 0) || (Nat.beq a 2 && Nat.beq b 3)))) h
      refine ⟨fx_rkB_ok h1, ?_⟩
      rcases fx_or h2 with h3 | h3
      · exact Or.inl (fx_beq h3)
      · rcases fx_or h3 with h3 | h3
        · obtain ⟨g1, g2⟩ := fx_and h3
          exact Or.inr (Or.inl ⟨fx_beq g1, fx_beq g2⟩)
        · obtain ⟨g1, g2⟩ := fx_and h3
          exact Or.inr (Or.inr ⟨fx_beq g1, fx_beq g2⟩)
    · intro q; subst q; exact fx_blt h
    · intro q; subst q; exact fx_blt h
    · intro q
      subst q
      obtain ⟨h1, h2⟩ := fx_and (a := fx_has fx_ft (fun q => Nat.beq q.1 o && (Nat.beq q.2.1 a && (Nat.beq q.2.2.1 b && Nat.beq q.2.2.2.1 (c / 8))))) (b := fx_pfB (fx_cn o) ini b (c / 8) (c % 8)) h
      exact ⟨fx_ft_ok h1, fx_pfB_ok h2⟩
    · intro q
      subst q
      obtain ⟨n, hn⟩ := fx_eq3 (show fx_has fx_nt (fun q => Nat.beq q.1 o && (Nat.beq q.2.1 a && Nat.beq q.2.2.1 b)) = true from h)
      have h3 := fx_all_ok fx_nt_all _ hn
      unfold fx_ntB at h3
      simp only at h3
      cases hc : fx_nth fx_cl b with
      | none => rw [hc] at h3; cases h3
      | some Q =>
        obtain ⟨C, T, N⟩ := Q
        rw [hc] at h3
        rw [fx_nth_eq] at hc
        exact ⟨C, T, N, hc, fx_wq_ok h3⟩
    · intro q
      have h : ((Nat.blt b 2147483648 && (Nat.blt (b + (fx_swt c).length) 2147483648 && Nat.blt 0 (fx_swt c).length)) && (Nat.beq kd 20 || Nat.beq (fx_swt c).length 2)) = true := by
        rcases q with q | q <;> subst q <;> exact h
      obtain ⟨h1, -⟩ := fx_and h
      obtain ⟨h1, h2⟩ := fx_and h1
      obtain ⟨h2, h3⟩ := fx_and h2
      exact ⟨fx_blt h1, fx_blt h2, fx_blt h3⟩
    · intro q
      subst q
      obtain ⟨n, hn⟩ := fx_eq2 (show fx_has fx_ot (fun q => Nat.beq q.1 o && Nat.beq q.2.1 a) = true from h)
      exact fx_wq_ok (fx_all_ok fx_ot_all _ hn)
    · intro q
      subst q
      obtain ⟨n, hn⟩ := fx_eq2 (show fx_has fx_at9 (fun q => Nat.beq q.1 o && Nat.beq q.2.1 a) = true from h)
      exact fx_wq_ok (fx_all_ok fx_at_all _ hn)
    · intro q; subst q; exact fx_blt h
    · intro q
      subst q
      obtain ⟨n, hn⟩ := fx_eq3 (show fx_has fx_xt (fun q => Nat.beq q.1 o && (Nat.beq q.2.1 a && Nat.beq q.2.2.1 b)) = true from h)
      have h3 := fx_wq_ok (fx_all_ok fx_xt_all _ hn)
      refine ⟨fun q => ?_, fun q => ?_⟩
      · subst q; exact h3
      · subst q; exact h3
    · intro q
      subst q
      obtain ⟨n, hn⟩ := fx_eq3 (show fx_has fx_zt (fun q => Nat.beq q.1 o && (Nat.beq q.2.1 a && Nat.beq q.2.2.1 b)) = true from h)
      have h3 := fx_wq_ok (fx_all_ok fx_zt_all _ hn)
      refine ⟨fun q => ?_, fun q => ?_⟩
      · subst q; exact h3
      · subst q; exact h3
    · intro q
      subst q
      obtain ⟨h1, h2⟩ := fx_and (a := Nat.beq o 7) (b := Nat.beq a 39) h
      have h1 := fx_beq h1
      subst h1
      exact ⟨rfl, fx_beq h2⟩
    · intro q
      subst q
      obtain ⟨-, h2⟩ := fx_and (a := ((!(Nat.beq b 0 || (Nat.beq b 2 || Nat.beq b 4))) || Nat.blt a 4)) (b := (Nat.blt (a + 1) nL || (Nat.blt a nL && Nat.blt b 4))) h
      rcases fx_or h2 with h3 | h3
      · exact Or.inl (fx_blt h3)
      · obtain ⟨g1, g2⟩ := fx_and h3
        exact Or.inr ⟨fx_blt g1, fx_blt g2⟩
    · intro q
      subst q
      obtain ⟨-, h2⟩ := fx_and (a := (Nat.blt b 2147483648 && (Nat.blt (b + (fx_swt c).length) 2147483648 && Nat.blt 0 (fx_swt c).length))) (b := (Nat.beq 21 20 || Nat.beq (fx_swt c).length 2)) h
      rcases fx_or h2 with h3 | h3
      · cases h3
      · exact fx_beq h3
    · intro q
      subst q
      obtain ⟨n, hn⟩ := fx_eq3 (show fx_has fx_mx (fun q => Nat.beq q.1 o && (Nat.beq q.2.1 a && Nat.beq q.2.2.1 b)) = true from h)
      have h3 := fx_wq_ok (fx_all_ok fx_mx_all _ hn)
      refine ⟨fun q => ?_, fun q => ?_⟩
      · subst q; exact h3
      · subst q; exact h3
  · rcases (if hq : kd = 28 then Or.inl hq else Or.inr ⟨kd - 30, by omega⟩ : kd = 28 ∨ ∃ q, kd = q + 30) with rfl | ⟨q, rfl⟩
    · have h : Nat.blt 28 28 = true := h
      have := fx_blt h
      omega
    · have h : Nat.blt (q + 30) 28 = true := h
      have := fx_blt h
      omega
noncomputable def fx_codB (o : Nat) (ini : Bool) (rt : Option FieldType) (nL : Nat) (cc : ByteArray) (cod : List fx_I) : Bool := fx_all cod (fun q => decide (decode cc q.1 = .ok (fx_ins q.1 q.2.1 q.2.2.1 q.2.2.2.1 q.2.2.2.2)) && fx_anB o ini rt nL q.2.1 q.2.2.1 q.2.2.2.1 q.2.2.2.2)
theorem fx_codB_ok {o : Nat} {ini : Bool} {rt : Option FieldType} {nL : Nat} {cc : ByteArray} {cod : List fx_I} (h : fx_codB o ini rt nL cc cod = true) : ∀ pc kd a b d, (pc, kd, a, b, d) ∈ cod → kd ≠ 28 ∧ decode cc pc = .ok (fx_ins pc kd a b d) ∧ fx_an fx_mst fx_mt (fx_cn o) ini rt nL kd a b d := by
  intro pc kd a b d hin
  obtain ⟨h1, h2⟩ := fx_and (fx_all_ok h _ hin)
  obtain ⟨h3, h4⟩ := fx_anB_ok h2
  exact ⟨h3, of_decide_eq_true h1, h4⟩
noncomputable def fx_mokB (c : Nat) : Bool := match fx_mt c with
  | none => true
  | some M => match fx_mst c with
    | none => false
    | some (y, cc, nL, rt) => match fx_mo c with
      | none => false
      | some (o, p1, _, _, p4) => (decide (fx_cn o = y.cls) && (plainName y.cls && (fx_wq p1 (Cond.code y cc nL rt) && fx_wq p4 (Cond.initialized y.cls)))) && ((decide (y.cls ≠ "java/lang/invoke/MethodHandle") && (decide (y.cls ≠ "java/lang/invoke/VarHandle") && (Nat.ble nL 41 && Nat.beq M.2.2.2.2.2 nL))) && ((decide ((parseMethodDescriptor y.desc).map (fun d => d.parameters.length) = some (if M.2.2.2.2.1 = 0 then M.2.1 else M.2.1 - 1)) && Nat.beq (fx_pc M.1) 0) && fx_codB o (y.name == "<init>") rt nL cc M.1))
theorem fx_mokB_ok {c : Nat} (h : fx_mokB c = true) {M : fx_M} (hm : fx_mt c = some M) : ∃ S, fx_mst c = some S ∧ fx_mok fx_mst fx_mt S M := by
  unfold fx_mokB at h
  rw [hm] at h
  simp only at h
  cases hs : fx_mst c with
  | none => rw [hs] at h; cases h
  | some S =>
    obtain ⟨y, cc, nL, rt⟩ := S
    rw [hs] at h
    simp only at h
    cases ho : fx_mo c with
    | none => rw [ho] at h; cases h
    | some O =>
      obtain ⟨o, p1, p2, p3, p4⟩ := O
      rw [ho] at h
      simp only at h
      obtain ⟨h1, h2⟩ := fx_and h
      obtain ⟨a1, h1⟩ := fx_and h1
      obtain ⟨a2, h1⟩ := fx_and h1
      obtain ⟨a3, a4⟩ := fx_and h1
      obtain ⟨h3, h4⟩ := fx_and h2
      obtain ⟨a5, h3⟩ := fx_and h3
      obtain ⟨a6, h3⟩ := fx_and h3
      obtain ⟨a7, a8⟩ := fx_and h3
      obtain ⟨h5, a9⟩ := fx_and h4
      obtain ⟨a10, a11⟩ := fx_and h5
      have e := of_decide_eq_true a1
      refine ⟨(y, cc, nL, rt), rfl, a2, fx_wq_ok a3, fx_wq_ok a4, ⟨of_decide_eq_true a5, of_decide_eq_true a6⟩, fx_ble a7, fx_beq a8, of_decide_eq_true a10, fx_beq a11, ?_⟩
      have := fx_codB_ok a9
      rw [e] at this
      exact this
end
section
set_option maxRecDepth 100000 in
theorem fx_c0 : fx_mokB 0 = true := by decide +kernel
set_option maxRecDepth 100000 in
theorem fx_c1 : fx_mokB 1 = true := by decide +kernel
set_option maxRecDepth 100000 in
theorem fx_c2 : fx_mokB 2 = true := by decide +kernel
set_option maxRecDepth 100000 in
theorem fx_c3 : fx_mokB 3 = true := by decide +kernel
set_option maxRecDepth 100000 in
theorem fx_c4 : fx_mokB 4 = true := by decide +kernel
set_option maxRecDepth 100000 in
theorem fx_c5 : fx_mokB 5 = true := by decide +kernel
set_option maxRecDepth 100000 in
theorem fx_c6 : fx_mokB 6 = true := by decide +kernel
set_option maxRecDepth 100000 in
theorem fx_c7 : fx_mokB 7 = true := by decide +kernel
set_option maxRecDepth 100000 in
theorem fx_c8 : fx_mokB 8 = true := by decide +kernel
set_option maxRecDepth 100000 in
theorem fx_c9 : fx_mokB 9 = true := by decide +kernel
set_option maxRecDepth 100000 in
theorem fx_c10 : fx_mokB 10 = true := by decide +kernel
set_option maxRecDepth 100000 in
theorem fx_c11 : fx_mokB 11 = true := by decide +kernel
set_option maxRecDepth 100000 in
theorem fx_c12 : fx_mokB 12 = true := by decide +kernel
set_option maxRecDepth 100000 in
theorem fx_c13 : fx_mokB 13 = true := by decide +kernel
set_option maxRecDepth 100000 in
theorem fx_c14 : fx_mokB 14 = true := by decide +kernel
set_option maxRecDepth 100000 in
theorem fx_c15 : fx_mokB 15 = true := by decide +kernel
theorem fx_ck0 : ∀ c, c < 16 → fx_mokB (0 + c) = true := by
  intro c hc
  rcases (by omega : c = 0 ∨ c = 1 ∨ c = 2 ∨ c = 3 ∨ c = 4 ∨ c = 5 ∨ c = 6 ∨ c = 7 ∨ c = 8 ∨ c = 9 ∨ c = 10 ∨ c = 11 ∨ c = 12 ∨ c = 13 ∨ c = 14 ∨ c = 15) with rfl | rfl | rfl | rfl | rfl | rfl | rfl | rfl | rfl | rfl | rfl | rfl | rfl | rfl | rfl | rfl
  · exact fx_c0
  · exact fx_c1
  · exact fx_c2
  · exact fx_c3
  · exact fx_c4
  · exact fx_c5
  · exact fx_c6
  · exact fx_c7
  · exact fx_c8
  · exact fx_c9
  · exact fx_c10
  · exact fx_c11
  · exact fx_c12
  · exact fx_c13
  · exact fx_c14
  · exact fx_c15
end
section
set_option maxRecDepth 100000 in
theorem fx_c16 : fx_mokB 16 = true := by decide +kernel
set_option maxRecDepth 100000 in
theorem fx_c17 : fx_mokB 17 = true := by decide +kernel
set_option maxRecDepth 100000 in
theorem fx_c18 : fx_mokB 18 = true := by decide +kernel
set_option maxRecDepth 100000 in
theorem fx_c19 : fx_mokB 19 = true := by decide +kernel
set_option maxRecDepth 100000 in
theorem fx_c20 : fx_mokB 20 = true := by decide +kernel
set_option maxRecDepth 100000 in
theorem fx_c21 : fx_mokB 21 = true := by decide +kernel
set_option maxRecDepth 100000 in
theorem fx_c22 : fx_mokB 22 = true := by decide +kernel
set_option maxRecDepth 100000 in
theorem fx_c23 : fx_mokB 23 = true := by decide +kernel
set_option maxRecDepth 100000 in
theorem fx_c24 : fx_mokB 24 = true := by decide +kernel
set_option maxRecDepth 100000 in
theorem fx_c25 : fx_mokB 25 = true := by decide +kernel
set_option maxRecDepth 100000 in
theorem fx_c26 : fx_mokB 26 = true := by decide +kernel
set_option maxRecDepth 100000 in
theorem fx_c27 : fx_mokB 27 = true := by decide +kernel
set_option maxRecDepth 100000 in
theorem fx_c28 : fx_mokB 28 = true := by decide +kernel
set_option maxRecDepth 100000 in
theorem fx_c29 : fx_mokB 29 = true := by decide +kernel
set_option maxRecDepth 100000 in
theorem fx_c30 : fx_mokB 30 = true := by decide +kernel
set_option maxRecDepth 100000 in
theorem fx_c31 : fx_mokB 31 = true := by decide +kernel
theorem fx_ck1 : ∀ c, c < 16 → fx_mokB (16 + c) = true := by
  intro c hc
  rcases (by omega : c = 0 ∨ c = 1 ∨ c = 2 ∨ c = 3 ∨ c = 4 ∨ c = 5 ∨ c = 6 ∨ c = 7 ∨ c = 8 ∨ c = 9 ∨ c = 10 ∨ c = 11 ∨ c = 12 ∨ c = 13 ∨ c = 14 ∨ c = 15) with rfl | rfl | rfl | rfl | rfl | rfl | rfl | rfl | rfl | rfl | rfl | rfl | rfl | rfl | rfl | rfl
  · exact fx_c16
  · exact fx_c17
  · exact fx_c18
  · exact fx_c19
  · exact fx_c20
  · exact fx_c21
  · exact fx_c22
  · exact fx_c23
  · exact fx_c24
  · exact fx_c25
  · exact fx_c26
  · exact fx_c27
  · exact fx_c28
  · exact fx_c29
  · exact fx_c30
  · exact fx_c31
end
section
set_option maxRecDepth 100000 in
theorem fx_c32 : fx_mokB 32 = true := by decide +kernel
set_option maxRecDepth 100000 in
theorem fx_c33 : fx_mokB 33 = true := by decide +kernel
set_option maxRecDepth 100000 in
theorem fx_c34 : fx_mokB 34 = true := by decide +kernel
set_option maxRecDepth 100000 in
theorem fx_c35 : fx_mokB 35 = true := by decide +kernel
set_option maxRecDepth 100000 in
theorem fx_c36 : fx_mokB 36 = true := by decide +kernel
set_option maxRecDepth 100000 in
theorem fx_c37 : fx_mokB 37 = true := by decide +kernel
set_option maxRecDepth 100000 in
theorem fx_c38 : fx_mokB 38 = true := by decide +kernel
set_option maxRecDepth 100000 in
theorem fx_c39 : fx_mokB 39 = true := by decide +kernel
set_option maxRecDepth 100000 in
theorem fx_c40 : fx_mokB 40 = true := by decide +kernel
set_option maxRecDepth 100000 in
theorem fx_c41 : fx_mokB 41 = true := by decide +kernel
set_option maxRecDepth 100000 in
theorem fx_c42 : fx_mokB 42 = true := by decide +kernel
set_option maxRecDepth 100000 in
theorem fx_c43 : fx_mokB 43 = true := by decide +kernel
set_option maxRecDepth 100000 in
theorem fx_c44 : fx_mokB 44 = true := by decide +kernel
set_option maxRecDepth 100000 in
theorem fx_c45 : fx_mokB 45 = true := by decide +kernel
set_option maxRecDepth 100000 in
theorem fx_c46 : fx_mokB 46 = true := by decide +kernel
set_option maxRecDepth 100000 in
theorem fx_c47 : fx_mokB 47 = true := by decide +kernel
set_option maxRecDepth 100000 in
theorem fx_c48 : fx_mokB 48 = true := by decide +kernel
set_option maxRecDepth 100000 in
theorem fx_c49 : fx_mokB 49 = true := by decide +kernel
set_option maxRecDepth 100000 in
theorem fx_c50 : fx_mokB 50 = true := by decide +kernel
set_option maxRecDepth 100000 in
theorem fx_c51 : fx_mokB 51 = true := by decide +kernel
set_option maxRecDepth 100000 in
theorem fx_c52 : fx_mokB 52 = true := by decide +kernel
set_option maxRecDepth 100000 in
theorem fx_c53 : fx_mokB 53 = true := by decide +kernel
set_option maxRecDepth 100000 in
theorem fx_c54 : fx_mokB 54 = true := by decide +kernel
set_option maxRecDepth 100000 in
theorem fx_c55 : fx_mokB 55 = true := by decide +kernel
set_option maxRecDepth 100000 in
theorem fx_c56 : fx_mokB 56 = true := by decide +kernel
set_option maxRecDepth 100000 in
theorem fx_c57 : fx_mokB 57 = true := by decide +kernel
set_option maxRecDepth 100000 in
theorem fx_c58 : fx_mokB 58 = true := by decide +kernel
set_option maxRecDepth 100000 in
theorem fx_c59 : fx_mokB 59 = true := by decide +kernel
set_option maxRecDepth 100000 in
theorem fx_c60 : fx_mokB 60 = true := by decide +kernel
set_option maxRecDepth 100000 in
theorem fx_c61 : fx_mokB 61 = true := by decide +kernel
set_option maxRecDepth 100000 in
theorem fx_c62 : fx_mokB 62 = true := by decide +kernel
set_option maxRecDepth 100000 in
theorem fx_c63 : fx_mokB 63 = true := by decide +kernel
theorem fx_ck2 : ∀ c, c < 16 → fx_mokB (32 + c) = true := by
  intro c hc
  rcases (by omega : c = 0 ∨ c = 1 ∨ c = 2 ∨ c = 3 ∨ c = 4 ∨ c = 5 ∨ c = 6 ∨ c = 7 ∨ c = 8 ∨ c = 9 ∨ c = 10 ∨ c = 11 ∨ c = 12 ∨ c = 13 ∨ c = 14 ∨ c = 15) with rfl | rfl | rfl | rfl | rfl | rfl | rfl | rfl | rfl | rfl | rfl | rfl | rfl | rfl | rfl | rfl
  · exact fx_c32
  · exact fx_c33
  · exact fx_c34
  · exact fx_c35
  · exact fx_c36
  · exact fx_c37
  · exact fx_c38
  · exact fx_c39
  · exact fx_c40
  · exact fx_c41
  · exact fx_c42
  · exact fx_c43
  · exact fx_c44
  · exact fx_c45
  · exact fx_c46
  · exact fx_c47
theorem fx_ck3 : ∀ c, c < 16 → fx_mokB (48 + c) = true := by
  intro c hc
  rcases (by omega : c = 0 ∨ c = 1 ∨ c = 2 ∨ c = 3 ∨ c = 4 ∨ c = 5 ∨ c = 6 ∨ c = 7 ∨ c = 8 ∨ c = 9 ∨ c = 10 ∨ c = 11 ∨ c = 12 ∨ c = 13 ∨ c = 14 ∨ c = 15) with rfl | rfl | rfl | rfl | rfl | rfl | rfl | rfl | rfl | rfl | rfl | rfl | rfl | rfl | rfl | rfl
  · exact fx_c48
  · exact fx_c49
  · exact fx_c50
  · exact fx_c51
  · exact fx_c52
  · exact fx_c53
  · exact fx_c54
  · exact fx_c55
  · exact fx_c56
  · exact fx_c57
  · exact fx_c58
  · exact fx_c59
  · exact fx_c60
  · exact fx_c61
  · exact fx_c62
  · exact fx_c63
end
section
set_option maxRecDepth 100000 in
theorem fx_c64 : fx_mokB 64 = true := by decide +kernel
set_option maxRecDepth 100000 in
theorem fx_c65 : fx_mokB 65 = true := by decide +kernel
set_option maxRecDepth 100000 in
theorem fx_c66 : fx_mokB 66 = true := by decide +kernel
set_option maxRecDepth 100000 in
theorem fx_c67 : fx_mokB 67 = true := by decide +kernel
set_option maxRecDepth 100000 in
theorem fx_c68 : fx_mokB 68 = true := by decide +kernel
set_option maxRecDepth 100000 in
theorem fx_c69 : fx_mokB 69 = true := by decide +kernel
set_option maxRecDepth 100000 in
theorem fx_c70 : fx_mokB 70 = true := by decide +kernel
set_option maxRecDepth 100000 in
theorem fx_c71 : fx_mokB 71 = true := by decide +kernel
set_option maxRecDepth 100000 in
theorem fx_c72 : fx_mokB 72 = true := by decide +kernel
set_option maxRecDepth 100000 in
theorem fx_c73 : fx_mokB 73 = true := by decide +kernel
set_option maxRecDepth 100000 in
theorem fx_c74 : fx_mokB 74 = true := by decide +kernel
set_option maxRecDepth 100000 in
theorem fx_c75 : fx_mokB 75 = true := by decide +kernel
set_option maxRecDepth 100000 in
theorem fx_c76 : fx_mokB 76 = true := by decide +kernel
set_option maxRecDepth 100000 in
theorem fx_c77 : fx_mokB 77 = true := by decide +kernel
set_option maxRecDepth 100000 in
theorem fx_c78 : fx_mokB 78 = true := by decide +kernel
set_option maxRecDepth 100000 in
theorem fx_c79 : fx_mokB 79 = true := by decide +kernel
set_option maxRecDepth 100000 in
theorem fx_c80 : fx_mokB 80 = true := by decide +kernel
set_option maxRecDepth 100000 in
theorem fx_c81 : fx_mokB 81 = true := by decide +kernel
set_option maxRecDepth 100000 in
theorem fx_c82 : fx_mokB 82 = true := by decide +kernel
set_option maxRecDepth 100000 in
theorem fx_c83 : fx_mokB 83 = true := by decide +kernel
set_option maxRecDepth 100000 in
theorem fx_c84 : fx_mokB 84 = true := by decide +kernel
set_option maxRecDepth 100000 in
theorem fx_c85 : fx_mokB 85 = true := by decide +kernel
set_option maxRecDepth 100000 in
theorem fx_c86 : fx_mokB 86 = true := by decide +kernel
set_option maxRecDepth 100000 in
theorem fx_c87 : fx_mokB 87 = true := by decide +kernel
set_option maxRecDepth 100000 in
theorem fx_c88 : fx_mokB 88 = true := by decide +kernel
set_option maxRecDepth 100000 in
theorem fx_c89 : fx_mokB 89 = true := by decide +kernel
set_option maxRecDepth 100000 in
theorem fx_c90 : fx_mokB 90 = true := by decide +kernel
set_option maxRecDepth 100000 in
theorem fx_c91 : fx_mokB 91 = true := by decide +kernel
set_option maxRecDepth 100000 in
theorem fx_c92 : fx_mokB 92 = true := by decide +kernel
set_option maxRecDepth 100000 in
theorem fx_c93 : fx_mokB 93 = true := by decide +kernel
set_option maxRecDepth 100000 in
theorem fx_c94 : fx_mokB 94 = true := by decide +kernel
set_option maxRecDepth 100000 in
theorem fx_c95 : fx_mokB 95 = true := by decide +kernel
set_option maxRecDepth 100000 in
theorem fx_c96 : fx_mokB 96 = true := by decide +kernel
set_option maxRecDepth 100000 in
theorem fx_c97 : fx_mokB 97 = true := by decide +kernel
set_option maxRecDepth 100000 in
theorem fx_c98 : fx_mokB 98 = true := by decide +kernel
set_option maxRecDepth 100000 in
theorem fx_c99 : fx_mokB 99 = true := by decide +kernel
set_option maxRecDepth 100000 in
theorem fx_c100 : fx_mokB 100 = true := by decide +kernel
set_option maxRecDepth 100000 in
theorem fx_c101 : fx_mokB 101 = true := by decide +kernel
set_option maxRecDepth 100000 in
theorem fx_c102 : fx_mokB 102 = true := by decide +kernel
set_option maxRecDepth 100000 in
theorem fx_c103 : fx_mokB 103 = true := by decide +kernel
set_option maxRecDepth 100000 in
theorem fx_c104 : fx_mokB 104 = true := by decide +kernel
set_option maxRecDepth 100000 in
theorem fx_c105 : fx_mokB 105 = true := by decide +kernel
set_option maxRecDepth 100000 in
theorem fx_c106 : fx_mokB 106 = true := by decide +kernel
set_option maxRecDepth 100000 in
theorem fx_c107 : fx_mokB 107 = true := by decide +kernel
set_option maxRecDepth 100000 in
theorem fx_c108 : fx_mokB 108 = true := by decide +kernel
set_option maxRecDepth 100000 in
theorem fx_c109 : fx_mokB 109 = true := by decide +kernel
set_option maxRecDepth 100000 in
theorem fx_c110 : fx_mokB 110 = true := by decide +kernel
set_option maxRecDepth 100000 in
theorem fx_c111 : fx_mokB 111 = true := by decide +kernel
theorem fx_ck4 : ∀ c, c < 16 → fx_mokB (64 + c) = true := by
  intro c hc
  rcases (by omega : c = 0 ∨ c = 1 ∨ c = 2 ∨ c = 3 ∨ c = 4 ∨ c = 5 ∨ c = 6 ∨ c = 7 ∨ c = 8 ∨ c = 9 ∨ c = 10 ∨ c = 11 ∨ c = 12 ∨ c = 13 ∨ c = 14 ∨ c = 15) with rfl | rfl | rfl | rfl | rfl | rfl | rfl | rfl | rfl | rfl | rfl | rfl | rfl | rfl | rfl | rfl
  · exact fx_c64
  · exact fx_c65
  · exact fx_c66
  · exact fx_c67
  · exact fx_c68
  · exact fx_c69
  · exact fx_c70
  · exact fx_c71
  · exact fx_c72
  · exact fx_c73
  · exact fx_c74
  · exact fx_c75
  · exact fx_c76
  · exact fx_c77
  · exact fx_c78
  · exact fx_c79
theorem fx_ck5 : ∀ c, c < 16 → fx_mokB (80 + c) = true := by
  intro c hc
  rcases (by omega : c = 0 ∨ c = 1 ∨ c = 2 ∨ c = 3 ∨ c = 4 ∨ c = 5 ∨ c = 6 ∨ c = 7 ∨ c = 8 ∨ c = 9 ∨ c = 10 ∨ c = 11 ∨ c = 12 ∨ c = 13 ∨ c = 14 ∨ c = 15) with rfl | rfl | rfl | rfl | rfl | rfl | rfl | rfl | rfl | rfl | rfl | rfl | rfl | rfl | rfl | rfl
  · exact fx_c80
  · exact fx_c81
  · exact fx_c82
  · exact fx_c83
  · exact fx_c84
  · exact fx_c85
  · exact fx_c86
  · exact fx_c87
  · exact fx_c88
  · exact fx_c89
  · exact fx_c90
  · exact fx_c91
  · exact fx_c92
  · exact fx_c93
  · exact fx_c94
  · exact fx_c95
theorem fx_ck6 : ∀ c, c < 16 → fx_mokB (96 + c) = true := by
  intro c hc
  rcases (by omega : c = 0 ∨ c = 1 ∨ c = 2 ∨ c = 3 ∨ c = 4 ∨ c = 5 ∨ c = 6 ∨ c = 7 ∨ c = 8 ∨ c = 9 ∨ c = 10 ∨ c = 11 ∨ c = 12 ∨ c = 13 ∨ c = 14 ∨ c = 15) with rfl | rfl | rfl | rfl | rfl | rfl | rfl | rfl | rfl | rfl | rfl | rfl | rfl | rfl | rfl | rfl
  · exact fx_c96
  · exact fx_c97
  · exact fx_c98
  · exact fx_c99
  · exact fx_c100
  · exact fx_c101
  · exact fx_c102
  · exact fx_c103
  · exact fx_c104
  · exact fx_c105
  · exact fx_c106
  · exact fx_c107
  · exact fx_c108
  · exact fx_c109
  · exact fx_c110
  · exact fx_c111
end
section
set_option maxRecDepth 100000 in
theorem fx_c112 : fx_mokB 112 = true := by decide +kernel
set_option maxRecDepth 100000 in
theorem fx_c113 : fx_mokB 113 = true := by decide +kernel
set_option maxRecDepth 100000 in
theorem fx_c114 : fx_mokB 114 = true := by decide +kernel
set_option maxRecDepth 100000 in
theorem fx_c115 : fx_mokB 115 = true := by decide +kernel
set_option maxRecDepth 100000 in
theorem fx_c116 : fx_mokB 116 = true := by decide +kernel
set_option maxRecDepth 100000 in
theorem fx_c117 : fx_mokB 117 = true := by decide +kernel
set_option maxRecDepth 100000 in
theorem fx_c118 : fx_mokB 118 = true := by decide +kernel
set_option maxRecDepth 100000 in
theorem fx_c119 : fx_mokB 119 = true := by decide +kernel
set_option maxRecDepth 100000 in
theorem fx_c120 : fx_mokB 120 = true := by decide +kernel
set_option maxRecDepth 100000 in
theorem fx_c121 : fx_mokB 121 = true := by decide +kernel
set_option maxRecDepth 100000 in
theorem fx_c122 : fx_mokB 122 = true := by decide +kernel
set_option maxRecDepth 100000 in
theorem fx_c123 : fx_mokB 123 = true := by decide +kernel
set_option maxRecDepth 100000 in
theorem fx_c124 : fx_mokB 124 = true := by decide +kernel
set_option maxRecDepth 100000 in
theorem fx_c125 : fx_mokB 125 = true := by decide +kernel
set_option maxRecDepth 100000 in
theorem fx_c126 : fx_mokB 126 = true := by decide +kernel
set_option maxRecDepth 100000 in
theorem fx_c127 : fx_mokB 127 = true := by decide +kernel
set_option maxRecDepth 100000 in
theorem fx_c128 : fx_mokB 128 = true := by decide +kernel
set_option maxRecDepth 100000 in
theorem fx_c129 : fx_mokB 129 = true := by decide +kernel
set_option maxRecDepth 100000 in
theorem fx_c130 : fx_mokB 130 = true := by decide +kernel
set_option maxRecDepth 100000 in
theorem fx_c131 : fx_mokB 131 = true := by decide +kernel
set_option maxRecDepth 100000 in
theorem fx_c132 : fx_mokB 132 = true := by decide +kernel
set_option maxRecDepth 100000 in
theorem fx_c133 : fx_mokB 133 = true := by decide +kernel
set_option maxRecDepth 100000 in
theorem fx_c134 : fx_mokB 134 = true := by decide +kernel
set_option maxRecDepth 100000 in
theorem fx_c135 : fx_mokB 135 = true := by decide +kernel
set_option maxRecDepth 100000 in
theorem fx_c136 : fx_mokB 136 = true := by decide +kernel
set_option maxRecDepth 100000 in
theorem fx_c137 : fx_mokB 137 = true := by decide +kernel
set_option maxRecDepth 100000 in
theorem fx_c138 : fx_mokB 138 = true := by decide +kernel
set_option maxRecDepth 100000 in
theorem fx_c139 : fx_mokB 139 = true := by decide +kernel
set_option maxRecDepth 100000 in
theorem fx_c140 : fx_mokB 140 = true := by decide +kernel
set_option maxRecDepth 100000 in
theorem fx_c141 : fx_mokB 141 = true := by decide +kernel
set_option maxRecDepth 100000 in
theorem fx_c142 : fx_mokB 142 = true := by decide +kernel
set_option maxRecDepth 100000 in
theorem fx_c143 : fx_mokB 143 = true := by decide +kernel
set_option maxRecDepth 100000 in
theorem fx_c144 : fx_mokB 144 = true := by decide +kernel
set_option maxRecDepth 100000 in
theorem fx_c145 : fx_mokB 145 = true := by decide +kernel
set_option maxRecDepth 100000 in
theorem fx_c146 : fx_mokB 146 = true := by decide +kernel
set_option maxRecDepth 100000 in
theorem fx_c147 : fx_mokB 147 = true := by decide +kernel
set_option maxRecDepth 100000 in
theorem fx_c148 : fx_mokB 148 = true := by decide +kernel
set_option maxRecDepth 100000 in
theorem fx_c149 : fx_mokB 149 = true := by decide +kernel
set_option maxRecDepth 100000 in
theorem fx_c150 : fx_mokB 150 = true := by decide +kernel
set_option maxRecDepth 100000 in
theorem fx_c151 : fx_mokB 151 = true := by decide +kernel
set_option maxRecDepth 100000 in
theorem fx_c152 : fx_mokB 152 = true := by decide +kernel
set_option maxRecDepth 100000 in
theorem fx_c153 : fx_mokB 153 = true := by decide +kernel
set_option maxRecDepth 100000 in
theorem fx_c154 : fx_mokB 154 = true := by decide +kernel
set_option maxRecDepth 100000 in
theorem fx_c155 : fx_mokB 155 = true := by decide +kernel
set_option maxRecDepth 100000 in
theorem fx_c156 : fx_mokB 156 = true := by decide +kernel
set_option maxRecDepth 100000 in
theorem fx_c157 : fx_mokB 157 = true := by decide +kernel
set_option maxRecDepth 100000 in
theorem fx_c158 : fx_mokB 158 = true := by decide +kernel
set_option maxRecDepth 100000 in
theorem fx_c159 : fx_mokB 159 = true := by decide +kernel
theorem fx_ck7 : ∀ c, c < 16 → fx_mokB (112 + c) = true := by
  intro c hc
  rcases (by omega : c = 0 ∨ c = 1 ∨ c = 2 ∨ c = 3 ∨ c = 4 ∨ c = 5 ∨ c = 6 ∨ c = 7 ∨ c = 8 ∨ c = 9 ∨ c = 10 ∨ c = 11 ∨ c = 12 ∨ c = 13 ∨ c = 14 ∨ c = 15) with rfl | rfl | rfl | rfl | rfl | rfl | rfl | rfl | rfl | rfl | rfl | rfl | rfl | rfl | rfl | rfl
  · exact fx_c112
  · exact fx_c113
  · exact fx_c114
  · exact fx_c115
  · exact fx_c116
  · exact fx_c117
  · exact fx_c118
  · exact fx_c119
  · exact fx_c120
  · exact fx_c121
  · exact fx_c122
  · exact fx_c123
  · exact fx_c124
  · exact fx_c125
  · exact fx_c126
  · exact fx_c127
theorem fx_ck8 : ∀ c, c < 16 → fx_mokB (128 + c) = true := by
  intro c hc
  rcases (by omega : c = 0 ∨ c = 1 ∨ c = 2 ∨ c = 3 ∨ c = 4 ∨ c = 5 ∨ c = 6 ∨ c = 7 ∨ c = 8 ∨ c = 9 ∨ c = 10 ∨ c = 11 ∨ c = 12 ∨ c = 13 ∨ c = 14 ∨ c = 15) with rfl | rfl | rfl | rfl | rfl | rfl | rfl | rfl | rfl | rfl | rfl | rfl | rfl | rfl | rfl | rfl
  · exact fx_c128
  · exact fx_c129
  · exact fx_c130
  · exact fx_c131
  · exact fx_c132
  · exact fx_c133
  · exact fx_c134
  · exact fx_c135
  · exact fx_c136
  · exact fx_c137
  · exact fx_c138
  · exact fx_c139
  · exact fx_c140
  · exact fx_c141
  · exact fx_c142
  · exact fx_c143
theorem fx_ck9 : ∀ c, c < 16 → fx_mokB (144 + c) = true := by
  intro c hc
  rcases (by omega : c = 0 ∨ c = 1 ∨ c = 2 ∨ c = 3 ∨ c = 4 ∨ c = 5 ∨ c = 6 ∨ c = 7 ∨ c = 8 ∨ c = 9 ∨ c = 10 ∨ c = 11 ∨ c = 12 ∨ c = 13 ∨ c = 14 ∨ c = 15) with rfl | rfl | rfl | rfl | rfl | rfl | rfl | rfl | rfl | rfl | rfl | rfl | rfl | rfl | rfl | rfl
  · exact fx_c144
  · exact fx_c145
  · exact fx_c146
  · exact fx_c147
  · exact fx_c148
  · exact fx_c149
  · exact fx_c150
  · exact fx_c151
  · exact fx_c152
  · exact fx_c153
  · exact fx_c154
  · exact fx_c155
  · exact fx_c156
  · exact fx_c157
  · exact fx_c158
  · exact fx_c159
end
section
set_option maxRecDepth 100000 in
theorem fx_c160 : fx_mokB 160 = true := by decide +kernel
set_option maxRecDepth 100000 in
theorem fx_c161 : fx_mokB 161 = true := by decide +kernel
set_option maxRecDepth 100000 in
theorem fx_c162 : fx_mokB 162 = true := by decide +kernel
set_option maxRecDepth 100000 in
theorem fx_c163 : fx_mokB 163 = true := by decide +kernel
set_option maxRecDepth 100000 in
theorem fx_c164 : fx_mokB 164 = true := by decide +kernel
set_option maxRecDepth 100000 in
theorem fx_c165 : fx_mokB 165 = true := by decide +kernel
set_option maxRecDepth 100000 in
theorem fx_c166 : fx_mokB 166 = true := by decide +kernel
set_option maxRecDepth 100000 in
theorem fx_c167 : fx_mokB 167 = true := by decide +kernel
set_option maxRecDepth 100000 in
theorem fx_c168 : fx_mokB 168 = true := by decide +kernel
set_option maxRecDepth 100000 in
theorem fx_c169 : fx_mokB 169 = true := by decide +kernel
set_option maxRecDepth 100000 in
theorem fx_c170 : fx_mokB 170 = true := by decide +kernel
set_option maxRecDepth 100000 in
theorem fx_c171 : fx_mokB 171 = true := by decide +kernel
set_option maxRecDepth 100000 in
theorem fx_c172 : fx_mokB 172 = true := by decide +kernel
set_option maxRecDepth 100000 in
theorem fx_c173 : fx_mokB 173 = true := by decide +kernel
set_option maxRecDepth 100000 in
theorem fx_c174 : fx_mokB 174 = true := by decide +kernel
set_option maxRecDepth 100000 in
theorem fx_c175 : fx_mokB 175 = true := by decide +kernel
set_option maxRecDepth 100000 in
theorem fx_c176 : fx_mokB 176 = true := by decide +kernel
set_option maxRecDepth 100000 in
theorem fx_c177 : fx_mokB 177 = true := by decide +kernel
set_option maxRecDepth 100000 in
theorem fx_c178 : fx_mokB 178 = true := by decide +kernel
set_option maxRecDepth 100000 in
theorem fx_c179 : fx_mokB 179 = true := by decide +kernel
set_option maxRecDepth 100000 in
theorem fx_c180 : fx_mokB 180 = true := by decide +kernel
set_option maxRecDepth 100000 in
theorem fx_c181 : fx_mokB 181 = true := by decide +kernel
set_option maxRecDepth 100000 in
theorem fx_c182 : fx_mokB 182 = true := by decide +kernel
set_option maxRecDepth 100000 in
theorem fx_c183 : fx_mokB 183 = true := by decide +kernel
set_option maxRecDepth 100000 in
theorem fx_c184 : fx_mokB 184 = true := by decide +kernel
set_option maxRecDepth 100000 in
theorem fx_c185 : fx_mokB 185 = true := by decide +kernel
set_option maxRecDepth 100000 in
theorem fx_c186 : fx_mokB 186 = true := by decide +kernel
set_option maxRecDepth 100000 in
theorem fx_c187 : fx_mokB 187 = true := by decide +kernel
set_option maxRecDepth 100000 in
theorem fx_c188 : fx_mokB 188 = true := by decide +kernel
set_option maxRecDepth 100000 in
theorem fx_c189 : fx_mokB 189 = true := by decide +kernel
set_option maxRecDepth 100000 in
theorem fx_c190 : fx_mokB 190 = true := by decide +kernel
set_option maxRecDepth 100000 in
theorem fx_c191 : fx_mokB 191 = true := by decide +kernel
set_option maxRecDepth 100000 in
theorem fx_c192 : fx_mokB 192 = true := by decide +kernel
set_option maxRecDepth 100000 in
theorem fx_c193 : fx_mokB 193 = true := by decide +kernel
set_option maxRecDepth 100000 in
theorem fx_c194 : fx_mokB 194 = true := by decide +kernel
set_option maxRecDepth 100000 in
theorem fx_c195 : fx_mokB 195 = true := by decide +kernel
set_option maxRecDepth 100000 in
theorem fx_c196 : fx_mokB 196 = true := by decide +kernel
set_option maxRecDepth 100000 in
theorem fx_c197 : fx_mokB 197 = true := by decide +kernel
set_option maxRecDepth 100000 in
theorem fx_c198 : fx_mokB 198 = true := by decide +kernel
set_option maxRecDepth 100000 in
theorem fx_c199 : fx_mokB 199 = true := by decide +kernel
set_option maxRecDepth 100000 in
theorem fx_c200 : fx_mokB 200 = true := by decide +kernel
set_option maxRecDepth 100000 in
theorem fx_c201 : fx_mokB 201 = true := by decide +kernel
set_option maxRecDepth 100000 in
theorem fx_c202 : fx_mokB 202 = true := by decide +kernel
set_option maxRecDepth 100000 in
theorem fx_c203 : fx_mokB 203 = true := by decide +kernel
set_option maxRecDepth 100000 in
theorem fx_c204 : fx_mokB 204 = true := by decide +kernel
set_option maxRecDepth 100000 in
theorem fx_c205 : fx_mokB 205 = true := by decide +kernel
set_option maxRecDepth 100000 in
theorem fx_c206 : fx_mokB 206 = true := by decide +kernel
set_option maxRecDepth 100000 in
theorem fx_c207 : fx_mokB 207 = true := by decide +kernel
theorem fx_ck10 : ∀ c, c < 16 → fx_mokB (160 + c) = true := by
  intro c hc
  rcases (by omega : c = 0 ∨ c = 1 ∨ c = 2 ∨ c = 3 ∨ c = 4 ∨ c = 5 ∨ c = 6 ∨ c = 7 ∨ c = 8 ∨ c = 9 ∨ c = 10 ∨ c = 11 ∨ c = 12 ∨ c = 13 ∨ c = 14 ∨ c = 15) with rfl | rfl | rfl | rfl | rfl | rfl | rfl | rfl | rfl | rfl | rfl | rfl | rfl | rfl | rfl | rfl
  · exact fx_c160
  · exact fx_c161
  · exact fx_c162
  · exact fx_c163
  · exact fx_c164
  · exact fx_c165
  · exact fx_c166
  · exact fx_c167
  · exact fx_c168
  · exact fx_c169
  · exact fx_c170
  · exact fx_c171
  · exact fx_c172
  · exact fx_c173
  · exact fx_c174
  · exact fx_c175
theorem fx_ck11 : ∀ c, c < 16 → fx_mokB (176 + c) = true := by
  intro c hc
  rcases (by omega : c = 0 ∨ c = 1 ∨ c = 2 ∨ c = 3 ∨ c = 4 ∨ c = 5 ∨ c = 6 ∨ c = 7 ∨ c = 8 ∨ c = 9 ∨ c = 10 ∨ c = 11 ∨ c = 12 ∨ c = 13 ∨ c = 14 ∨ c = 15) with rfl | rfl | rfl | rfl | rfl | rfl | rfl | rfl | rfl | rfl | rfl | rfl | rfl | rfl | rfl | rfl
  · exact fx_c176
  · exact fx_c177
  · exact fx_c178
  · exact fx_c179
  · exact fx_c180
  · exact fx_c181
  · exact fx_c182
  · exact fx_c183
  · exact fx_c184
  · exact fx_c185
  · exact fx_c186
  · exact fx_c187
  · exact fx_c188
  · exact fx_c189
  · exact fx_c190
  · exact fx_c191
theorem fx_ck12 : ∀ c, c < 16 → fx_mokB (192 + c) = true := by
  intro c hc
  rcases (by omega : c = 0 ∨ c = 1 ∨ c = 2 ∨ c = 3 ∨ c = 4 ∨ c = 5 ∨ c = 6 ∨ c = 7 ∨ c = 8 ∨ c = 9 ∨ c = 10 ∨ c = 11 ∨ c = 12 ∨ c = 13 ∨ c = 14 ∨ c = 15) with rfl | rfl | rfl | rfl | rfl | rfl | rfl | rfl | rfl | rfl | rfl | rfl | rfl | rfl | rfl | rfl
  · exact fx_c192
  · exact fx_c193
  · exact fx_c194
  · exact fx_c195
  · exact fx_c196
  · exact fx_c197
  · exact fx_c198
  · exact fx_c199
  · exact fx_c200
  · exact fx_c201
  · exact fx_c202
  · exact fx_c203
  · exact fx_c204
  · exact fx_c205
  · exact fx_c206
  · exact fx_c207
end
section
theorem fx_mt_lt {c : Nat} {M : fx_M} (h : fx_mt c = some M) : c < 208 := by
  rcases Nat.lt_or_ge c 208 with q | q
  · exact q
  · exfalso
    unfold fx_mt at h
    rw [fx_nth_eq] at h
    have h1 : fx_mtl.length = 13 := rfl
    have h2 : fx_mtl[Nat.div c 16]? = none := List.getElem?_eq_none (by
      rw [h1]
      show 13 ≤ c / 16
      omega)
    rw [h2] at h
    cases h
theorem fx_mall_ok : fx_mall fx_mst fx_mt := by
  intro c M hm
  have hc := fx_mt_lt hm
  have key : fx_mokB c = true := by
    rcases (by omega : c / 16 = 0 ∨ c / 16 = 1 ∨ c / 16 = 2 ∨ c / 16 = 3 ∨ c / 16 = 4 ∨ c / 16 = 5 ∨ c / 16 = 6 ∨ c / 16 = 7 ∨ c / 16 = 8 ∨ c / 16 = 9 ∨ c / 16 = 10 ∨ c / 16 = 11 ∨ c / 16 = 12) with q | q | q | q | q | q | q | q | q | q | q | q | q
    · have := fx_ck0 (c - 0) (by omega)
      rwa [show 0 + (c - 0) = c by omega] at this
    · have := fx_ck1 (c - 16) (by omega)
      rwa [show 16 + (c - 16) = c by omega] at this
    · have := fx_ck2 (c - 32) (by omega)
      rwa [show 32 + (c - 32) = c by omega] at this
    · have := fx_ck3 (c - 48) (by omega)
      rwa [show 48 + (c - 48) = c by omega] at this
    · have := fx_ck4 (c - 64) (by omega)
      rwa [show 64 + (c - 64) = c by omega] at this
    · have := fx_ck5 (c - 80) (by omega)
      rwa [show 80 + (c - 80) = c by omega] at this
    · have := fx_ck6 (c - 96) (by omega)
      rwa [show 96 + (c - 96) = c by omega] at this
    · have := fx_ck7 (c - 112) (by omega)
      rwa [show 112 + (c - 112) = c by omega] at this
    · have := fx_ck8 (c - 128) (by omega)
      rwa [show 128 + (c - 128) = c by omega] at this
    · have := fx_ck9 (c - 144) (by omega)
      rwa [show 144 + (c - 144) = c by omega] at this
    · have := fx_ck10 (c - 160) (by omega)
      rwa [show 160 + (c - 160) = c by omega] at this
    · have := fx_ck11 (c - 176) (by omega)
      rwa [show 176 + (c - 176) = c by omega] at this
    · have := fx_ck12 (c - 192) (by omega)
      rwa [show 192 + (c - 192) = c by omega] at this
  exact fx_mokB_ok key hm
set_option maxRecDepth 100000 in
theorem fx_wd_b : (fx_wq 262 (Cond.arrayClass (fx_ty 0)) && (fx_wq 233 (Cond.arrayClass (fx_ty 1)) && (fx_wq 497 (Cond.arrayClass (fx_ty 2)) && fx_wq 234 (Cond.arrayClass (fx_ty 3))))) = true ∧ (fx_wq 135 (Cond.instanceMethod Lib.objectInit) && fx_wq 136 (Cond.code Lib.objectInit ⟨#[0xb1]⟩ 1 none)) = true ∧ (fx_wq 547 (Cond.native arraycopyName) && (fx_wq 546 (Cond.static arraycopyName) && fx_wq 125 (Cond.initialized "java/lang/System"))) = true ∧ (fx_wq 485 (Cond.static Lib.Math.max.name) && (fx_wq 486 (Cond.code Lib.Math.max.name Lib.Math.max.code 2 (some .int)) && (fx_wq 662 (Cond.static Lib.Math.min.name) && (fx_wq 663 (Cond.code Lib.Math.min.name Lib.Math.min.code 2 (some .int)) && fx_wq 123 (Cond.initialized "java/lang/Math"))))) = true := by decide +kernel
theorem fx_wd_ok : fx_wd := by
  obtain ⟨h1, h2, h3, h4⟩ := fx_wd_b
  obtain ⟨a0, h1⟩ := fx_and h1
  obtain ⟨a1, h1⟩ := fx_and h1
  obtain ⟨a2, a3⟩ := fx_and h1
  obtain ⟨b0, b1⟩ := fx_and h2
  obtain ⟨c0, h3⟩ := fx_and h3
  obtain ⟨c1, c2⟩ := fx_and h3
  obtain ⟨d0, h4⟩ := fx_and h4
  obtain ⟨d1, h4⟩ := fx_and h4
  obtain ⟨d2, h4⟩ := fx_and h4
  obtain ⟨d3, d4⟩ := fx_and h4
  refine ⟨fun t ht => ?_, ⟨fx_wq_ok b0, fx_wq_ok b1⟩, ⟨fx_wq_ok c0, fx_wq_ok c1, fx_wq_ok c2⟩, ⟨fx_wq_ok d0, fx_wq_ok d1⟩, ⟨fx_wq_ok d2, fx_wq_ok d3⟩, fx_wq_ok d4⟩
  rcases (by omega : t = 0 ∨ t = 1 ∨ t = 2 ∨ t = 3) with rfl | rfl | rfl | rfl
  · exact fx_wq_ok a0
  · exact fx_wq_ok a1
  · exact fx_wq_ok a2
  · exact fx_wq_ok a3
end
section
def fx_g0 : fx_H := (114, [[.inr (.inl (9, [fr 1, fr 19, fr 33, fr 36, fr 49, fr 53, fr 56, fr 63, fr 64, fr 65, fr 66, fc 0, fc 0, fc 0, fc 4294967295, fc 4294967295])), .inr (.inl (4, [fr 2, fr 5, fc 0, fc 4294967295])), .inr (.inl (7, [fr 3, fr 4, fc 0, fc 0, fc 0, fc 0, fc 0, fl 0])), .inr (.inr (1, 1600, [])), .inr (.inr (3, 24, [(23, fl 51270206), (22, fl 13550), (21, fl 388708), (20, fl 279847), (19, fl 10502220), (18, fl 38446238), (17, fl 31735670), (16, fl 279252), (15, fl 118913), (14, fl 10631), (13, fl 1111), (12, fl 423), (11, fl 91904), (10, fl 411), (9, fl 10935548), (8, fl 6559778), (7, fl 247547), (6, fl 47), (5, fl 4797), (4, fl 189450486), (3, fl 267223), (2, fl 45611816222), (1, fl 79), (0, fl 158529)])), .inr (.inl (3, [fr 6, fr 7, fr 8, fr 9, fr 10, fr 11, fr 12, fr 13, fr 16, fc 4, fc 4, fc 0, fc 0, fc 0, fc 1, fc 0, fc 0, fc 0])), .inr (.inr (3, 4, [])), .inr (.inr (0, 4, [])), .inr (.inr (3, 7, [])), .inr (.inr (0, 7, [])), .inr (.inr (0, 7, [])), .inr (.inr (0, 7, [])), .inr (.inr (0, 7, [(6, fc 4294967295), (5, fc 4294967295), (4, fc 4294967295), (3, fc 4294967295), (2, fc 4294967295), (1, fc 4294967295), (0, fc 4294967295)])), .inr (.inl (1, [fr 14, fr 15, fc 1, fc 0])), .inr (.inr (0, 320, [])), .inr (.inr (0, 40, []))],
  [.inr (.inl (1, [fr 17, fr 18, fc 1, fc 0])), .inr (.inr (0, 320, [(0, fc 37)])), .inr (.inr (0, 40, [])), .inr (.inl (3, [fr 20, fr 21, fr 22, fr 23, fr 24, fr 25, fr 26, fr 27, fr 30, fc 4, fc 4, fc 0, fc 0, fc 0, fc 1, fc 0, fc 0, fc 0])), .inr (.inr (3, 4, [])), .inr (.inr (0, 4, [])), .inr (.inr (3, 7, [])), .inr (.inr (0, 7, [])), .inr (.inr (0, 7, [])), .inr (.inr (0, 7, [])), .inr (.inr (0, 7, [(6, fc 4294967295), (5, fc 4294967295), (4, fc 4294967295), (3, fc 4294967295), (2, fc 4294967295), (1, fc 4294967295), (0, fc 4294967295)])), .inr (.inl (1, [fr 28, fr 29, fc 1, fc 0])), .inr (.inr (0, 320, [])), .inr (.inr (0, 40, [])), .inr (.inl (1, [fr 31, fr 32, fc 1, fc 0])), .inr (.inr (0, 320, [(0, fc 37)]))],
  [.inr (.inr (0, 40, [])), .inr (.inl (6, [fr 34, fr 35, fc 0, fc 0, fc 0])), .inr (.inr (0, 7, [])), .inr (.inr (0, 7, [(6, fc 4294967295), (5, fc 4294967295), (4, fc 4294967295), (3, fc 4294967295), (2, fc 4294967295), (1, fc 4294967295), (0, fc 4294967295)])), .inr (.inl (8, [fr 37, fr 40, fr 41, fr 42, fr 43, fr 44, fr 45, fr 46, fr 47, fr 48, fz])), .inr (.inl (6, [fr 38, fr 39, fc 0, fc 0, fc 0])), .inr (.inr (0, 7, [])), .inr (.inr (0, 7, [])), .inr (.inr (0, 7, [])), .inr (.inr (0, 7, [])), .inr (.inr (0, 7, [])), .inr (.inr (0, 7, [])), .inr (.inr (0, 21, [])), .inr (.inr (0, 9, [])), .inr (.inr (0, 9, [])), .inr (.inr (0, 1024, []))],
  [.inr (.inr (0, 1024, [])), .inr (.inl (0, [fr 50, fc 0, fc 0])), .inr (.inl (5, [fc 41, fr 51, fr 52])), .inr (.inr (0, 697, [])), .inr (.inr (2, 41, [])), .inr (.inl (5, [fc 3, fr 54, fr 55])), .inr (.inr (0, 51, [])), .inr (.inr (2, 3, [])), .inr (.inl (2, [fr 57, fr 58, fr 59, fr 60, fr 61, fr 62, fc 0])), .inr (.inr (0, 30, [])), .inr (.inr (0, 30, [])), .inr (.inr (0, 30, [])), .inr (.inr (2, 30, [])), .inr (.inr (0, 30, [])), .inr (.inr (0, 30, [])), .inr (.inr (0, 7, []))],
  [.inr (.inr (0, 7, [])), .inr (.inr (0, 10, [])), .inr (.inr (0, 70, [])), .inr (.inl (10, [fr 68, fr 69, fc 0, fc 0, fc 0, fc 4294967295, fc 0, fc 0, fc 0, fc 0, fl 0, fr 70, fr 71, fr 72, fr 73, fr 74, fr 75, fr 76, fr 77, fr 78, fr 79, fr 80, fr 81, fr 82, fr 83, fr 84, fr 85, fr 86, fr 87, fr 88, fr 89, fr 90, fr 91, fr 92, fr 93, fr 94, fr 95, fc 0, fc 0, fc 0, fc 0, fc 0, fc 0, fc 0, fc 0, fc 0, fc 0, fc 0, fc 0, fc 0, fr 96, fr 97, fr 98, fc 0, fc 0, fr 99, fr 100, fc 0, fr 101, fr 102, fr 103, fr 104, fr 105, fr 106, fr 107, fr 108, fr 109, fr 110, fr 111, fc 0, fc 0, fr 112, fr 113])), .inr (.inr (1, 1620, [])), .inr (.inr (1, 1600, [])), .inr (.inr (0, 2, [(0, fc 4)])), .inr (.inr (0, 2, [(0, fc 4)])), .inr (.inr (0, 2, [])), .inr (.inr (0, 2, [])), .inr (.inr (0, 2, [])), .inr (.inr (0, 2, [])), .inr (.inr (0, 2, [])), .inr (.inr (0, 2, [(0, fc 1)])), .inr (.inr (0, 2, [])), .inr (.inr (0, 8, []))],
  [.inr (.inr (0, 14, [])), .inr (.inr (0, 14, [])), .inr (.inr (0, 14, [])), .inr (.inr (0, 14, [])), .inr (.inr (0, 4, [])), .inr (.inr (0, 4, [])), .inr (.inr (2, 4, [])), .inr (.inr (2, 2, [])), .inr (.inr (2, 2, [])), .inr (.inr (3, 8, [])), .inr (.inr (3, 14, [])), .inr (.inr (0, 1120, [])), .inr (.inr (0, 1120, [])), .inr (.inr (0, 90, [])), .inr (.inr (0, 90, [])), .inr (.inr (0, 60, []))],
  [.inr (.inr (0, 17, [(13, fc 4294967295), (12, fc 4294967295), (11, fc 4294967295), (10, fc 4294967295), (9, fc 4294967295), (8, fc 4294967295), (7, fc 4294967295)])), .inr (.inr (0, 7, [])), .inr (.inr (0, 697, [])), .inr (.inr (0, 7, [])), .inr (.inr (0, 7, [])), .inr (.inr (0, 17, [])), .inr (.inr (0, 7, [])), .inr (.inr (0, 7, [])), .inr (.inr (0, 1000, [])), .inr (.inr (0, 30, [])), .inr (.inr (0, 30, [])), .inr (.inr (0, 30, [])), .inr (.inr (0, 30, [])), .inr (.inr (0, 30, [])), .inr (.inr (0, 30, [])), .inr (.inr (0, 10, []))],
  [.inr (.inr (0, 51, [])), .inr (.inr (2, 3, []))]])
def fx_l0 : fx_L := [(3, fc 0), (2, fr 67), (1, fr 0), (0, fr 1000000)]
def fx_jf : fx_J := [(0, 4294967295), (0, 4294967295), (0, 4294967295), (0, 4294967295), (0, 4294967295), (0, 4294967295), (0, 4294967295), (0, 4294967295), (0, 4294967295)]
def fx_jo (a b : Nat) : fx_J := [(0, 4294967295), (0, 4294967295), (0, 4294967295), (0, 4294967295), (0, 4294967295), (0, 4294967295), (0, 4294967295), (a, b), (2147483654, 2147483654)]
def fx_jl : fx_J := [(0, 4294967295), (0, 4294967295), (0, 4294967295), (0, 4294967295), (0, 4294967295), (0, 4294967295), (0, 4294967295), (0, 4294967295), (2147483648, 2147483653)]
noncomputable def fx_ev (S : fx_Z) (kc : fx_L → fx_H → fx_J → Bool) : fx_E := (fx_mt, fx_swt, fx_cd, S, kc)
noncomputable def fx_s0z : fx_Z := fun _ _ _ => none
noncomputable def fx_kt1 (v : Option fx_V) : Bool := match v with
  | some (.inl n) => Nat.beq n 1
  | _ => false
noncomputable def fx_vq (x y : fx_V) : Bool := match x, y with
  | .inl a, .inl b => Nat.beq a b
  | .inr (.inl a), .inr (.inl b) => Nat.beq a b
  | .inr (.inr (.inl none)), .inr (.inr (.inl none)) => true
  | .inr (.inr (.inl (some a))), .inr (.inr (.inl (some b))) => Nat.beq a b
  | .inr (.inr (.inr a)), .inr (.inr (.inr b)) => Nat.beq a b
  | _, _ => false
theorem fx_vq_ok {x y : fx_V} (h : fx_vq x y = true) : x = y := by
  rcases x with a | a | a | a <;> rcases y with b | b | b | b
  · have := fx_beq (show Nat.beq a b = true from h); rw [this]
  · cases h
  · cases h
  · cases h
  · cases h
  · have := fx_beq (show Nat.beq a b = true from h); rw [this]
  · cases h
  · cases h
  · cases a <;> cases h
  · cases a <;> cases h
  · cases a with
    | none =>
      cases b with
      | none => rfl
      | some b => cases h
    | some a =>
      cases b with
      | none => cases h
      | some b => have := fx_beq (show Nat.beq a b = true from h); rw [this]
  · cases a <;> cases h
  · cases h
  · cases h
  · cases h
  · have := fx_beq (show Nat.beq a b = true from h); rw [this]
noncomputable def fx_lq {α : Type} (f : α → α → Bool) (l : List α) : List α → Bool := List.rec (motive := fun _ => List α → Bool) (fun m => match m with
    | [] => true
    | _ :: _ => false) (fun a _ ih m => match m with
    | [] => false
    | b :: m => f a b && ih m) l
theorem fx_lq_ok {α : Type} {f : α → α → Bool} (hf : ∀ a b, f a b = true → a = b) : ∀ {l m : List α}, fx_lq f l m = true → l = m := by
  intro l
  induction l with
  | nil =>
    intro m h
    cases m with
    | nil => rfl
    | cons b m => cases h
  | cons a l ih =>
    intro m h
    cases m with
    | nil => cases h
    | cons b m =>
      obtain ⟨h1, h2⟩ := fx_and (a := f a b) (b := fx_lq f l m) h
      rw [hf a b h1, ih h2]
noncomputable def fx_nq (a b : Nat × fx_V) : Bool := Nat.beq a.1 b.1 && fx_vq a.2 b.2
theorem fx_nq_ok (a b : Nat × fx_V) (h : fx_nq a b = true) : a = b := by
  obtain ⟨h1, h2⟩ := fx_and h
  exact Prod.ext (fx_beq h1) (fx_vq_ok h2)
noncomputable def fx_cq (x y : fx_C) : Bool := match x, y with
  | .inl _, .inl _ => true
  | .inr (.inl (a, f)), .inr (.inl (b, g)) => Nat.beq a b && fx_lq fx_vq f g
  | .inr (.inr (a, n, f)), .inr (.inr (b, k, g)) => Nat.beq a b && (Nat.beq n k && fx_lq fx_nq f g)
  | _, _ => false
theorem fx_cq_ok (x y : fx_C) (h : fx_cq x y = true) : x = y := by
  rcases x with a | ⟨a, f⟩ | ⟨a, n, f⟩ <;> rcases y with b | ⟨b, g⟩ | ⟨b, k, g⟩
  · rfl
  · cases h
  · cases h
  · cases h
  · obtain ⟨h1, h2⟩ := fx_and (a := Nat.beq a b) (b := fx_lq fx_vq f g) h
    rw [fx_beq h1, fx_lq_ok (fun _ _ => fx_vq_ok) h2]
  · cases h
  · cases h
  · cases h
  · obtain ⟨h1, h2⟩ := fx_and (a := Nat.beq a b) (b := (Nat.beq n k && fx_lq fx_nq f g)) h
    obtain ⟨h2, h3⟩ := fx_and h2
    rw [fx_beq h1, fx_beq h2, fx_lq_ok fx_nq_ok h3]
noncomputable def fx_hq (x y : fx_H) : Bool := Nat.beq x.1 y.1 && fx_lq (fx_lq fx_cq) x.2 y.2
theorem fx_hq_ok {x y : fx_H} (h : fx_hq x y = true) : x = y := by
  obtain ⟨h1, h2⟩ := fx_and h
  exact Prod.ext (fx_beq h1) (fx_lq_ok (fun _ _ => fx_lq_ok fx_cq_ok) h2)
noncomputable def fx_kc1 : fx_L → fx_H → fx_J → Bool := fun loc h _ => fx_lq fx_nq loc fx_l0 && fx_hq h fx_g0
set_option maxRecDepth 100000 in
theorem fx_run_new : fx_go (fx_ev fx_s0z fx_kc1) 20000 20 fw_new fw_new [(0, fr 1000000)] [] 0 0 1000 100000 (0, []) fx_jf (fun _ _ _ => false) = true := by decide +kernel
/-- from the head of the loop on -/
abbrev fx_run (S : fx_Z) (n : Nat) (w : List fx_I) (j : fx_J) : Prop := fx_go (fx_ev S (fun _ _ _ => false)) n 20 w w fx_l0 [] 1000 100000 600000 7302250 fx_g0 j (fun v _ _ => fx_kt1 v) = true
set_option maxRecDepth 100000 in
theorem fx_run_short : fx_run fx_s0z 1000 fw_short fx_jl := by decide +kernel
set_option maxRecDepth 100000 in
theorem fx_run_45 : fx_run fx_s0z 1000 fw_45 (fx_jo 2147483693 2147483711) := by decide +kernel
end
section
set_option maxRecDepth 100000 in
theorem fx_run_0 : fx_run fx_s0z 20000 fw_0 (fx_jo 2147483648 2147483648) := by decide +kernel
set_option maxRecDepth 100000 in
theorem fx_run_1 : fx_run fx_s0z 20000 fw_1 (fx_jo 2147483649 2147483649) := by decide +kernel
set_option maxRecDepth 100000 in
theorem fx_run_2 : fx_run fx_s0z 20000 fw_2 (fx_jo 2147483650 2147483650) := by decide +kernel
set_option maxRecDepth 100000 in
theorem fx_run_3 : fx_run fx_s0z 20000 fw_3 (fx_jo 2147483651 2147483651) := by decide +kernel
set_option maxRecDepth 100000 in
theorem fx_run_4 : fx_run fx_s0z 20000 fw_4 (fx_jo 2147483652 2147483652) := by decide +kernel
set_option maxRecDepth 100000 in
theorem fx_run_5 : fx_run fx_s0z 20000 fw_5 (fx_jo 2147483653 2147483653) := by decide +kernel
set_option maxRecDepth 100000 in
theorem fx_run_6 : fx_run fx_s0z 20000 fw_6 (fx_jo 2147483654 2147483654) := by decide +kernel
set_option maxRecDepth 100000 in
theorem fx_run_7 : fx_run fx_s0z 20000 fw_7 (fx_jo 2147483655 2147483655) := by decide +kernel
set_option maxRecDepth 100000 in
theorem fx_run_8 : fx_run fx_s0z 20000 fw_8 (fx_jo 2147483656 2147483656) := by decide +kernel
set_option maxRecDepth 100000 in
theorem fx_run_9 : fx_run fx_s0z 20000 fw_9 (fx_jo 2147483657 2147483657) := by decide +kernel
set_option maxRecDepth 100000 in
theorem fx_run_10 : fx_run fx_s0z 20000 fw_10 (fx_jo 2147483658 2147483658) := by decide +kernel
set_option maxRecDepth 100000 in
theorem fx_run_11 : fx_run fx_s0z 20000 fw_11 (fx_jo 2147483659 2147483659) := by decide +kernel
set_option maxRecDepth 100000 in
theorem fx_run_12 : fx_run fx_s0z 20000 fw_12 (fx_jo 2147483660 2147483660) := by decide +kernel
set_option maxRecDepth 100000 in
theorem fx_run_13 : fx_run fx_s0z 20000 fw_13 (fx_jo 2147483661 2147483661) := by decide +kernel
set_option maxRecDepth 100000 in
theorem fx_run_14 : fx_run fx_s0z 20000 fw_14 (fx_jo 2147483662 2147483662) := by decide +kernel
set_option maxRecDepth 100000 in
theorem fx_run_15 : fx_run fx_s0z 20000 fw_15 (fx_jo 2147483663 2147483663) := by decide +kernel
set_option maxRecDepth 100000 in
theorem fx_run_16 : fx_run fx_s0z 20000 fw_16 (fx_jo 2147483664 2147483664) := by decide +kernel
set_option maxRecDepth 100000 in
theorem fx_run_17 : fx_run fx_s0z 20000 fw_17 (fx_jo 2147483665 2147483665) := by decide +kernel
set_option maxRecDepth 100000 in
theorem fx_run_18 : fx_run fx_s0z 20000 fw_18 (fx_jo 2147483666 2147483666) := by decide +kernel
set_option maxRecDepth 100000 in
theorem fx_run_19 : fx_run fx_s0z 20000 fw_19 (fx_jo 2147483667 2147483667) := by decide +kernel
set_option maxRecDepth 100000 in
theorem fx_run_20 : fx_run fx_s0z 20000 fw_20 (fx_jo 2147483668 2147483668) := by decide +kernel
set_option maxRecDepth 100000 in
theorem fx_run_21 : fx_run fx_s0z 20000 fw_21 (fx_jo 2147483669 2147483669) := by decide +kernel
set_option maxRecDepth 100000 in
theorem fx_run_22 : fx_run fx_s0z 20000 fw_22 (fx_jo 2147483670 2147483670) := by decide +kernel
set_option maxRecDepth 100000 in
theorem fx_run_23 : fx_run fx_s0z 20000 fw_23 (fx_jo 2147483671 2147483671) := by decide +kernel
set_option maxRecDepth 100000 in
theorem fx_run_24 : fx_run fx_s0z 20000 fw_24 (fx_jo 2147483672 2147483672) := by decide +kernel
set_option maxRecDepth 100000 in
theorem fx_run_26 : fx_run fx_s0z 20000 fw_26 (fx_jo 2147483674 2147483674) := by decide +kernel
set_option maxRecDepth 100000 in
theorem fx_run_28 : fx_run fx_s0z 20000 fw_28 (fx_jo 2147483676 2147483676) := by decide +kernel
set_option maxRecDepth 100000 in
theorem fx_run_29 : fx_run fx_s0z 20000 fw_29 (fx_jo 2147483677 2147483677) := by decide +kernel
set_option maxRecDepth 100000 in
theorem fx_run_33 : fx_run fx_s0z 20000 fw_33 (fx_jo 2147483681 2147483681) := by decide +kernel
set_option maxRecDepth 100000 in
theorem fx_run_34 : fx_run fx_s0z 20000 fw_34 (fx_jo 2147483682 2147483682) := by decide +kernel
set_option maxRecDepth 100000 in
theorem fx_run_35 : fx_run fx_s0z 20000 fw_35 (fx_jo 2147483683 2147483683) := by decide +kernel
set_option maxRecDepth 100000 in
theorem fx_run_36 : fx_run fx_s0z 20000 fw_36 (fx_jo 2147483684 2147483684) := by decide +kernel
set_option maxRecDepth 100000 in
theorem fx_run_37 : fx_run fx_s0z 20000 fw_37 (fx_jo 2147483685 2147483685) := by decide +kernel
set_option maxRecDepth 100000 in
theorem fx_run_38 : fx_run fx_s0z 20000 fw_38 (fx_jo 2147483686 2147483686) := by decide +kernel
set_option maxRecDepth 100000 in
theorem fx_run_39 : fx_run fx_s0z 20000 fw_39 (fx_jo 2147483687 2147483687) := by decide +kernel
set_option maxRecDepth 100000 in
theorem fx_run_40 : fx_run fx_s0z 20000 fw_40 (fx_jo 2147483688 2147483688) := by decide +kernel
set_option maxRecDepth 100000 in
theorem fx_run_42 : fx_run fx_s0z 20000 fw_42 (fx_jo 2147483690 2147483690) := by decide +kernel
set_option maxRecDepth 100000 in
theorem fx_run_43 : fx_run fx_s0z 20000 fw_43 (fx_jo 2147483691 2147483691) := by decide +kernel
set_option maxRecDepth 100000 in
theorem fx_run_44 : fx_run fx_s0z 20000 fw_44 (fx_jo 2147483692 2147483692) := by decide +kernel
end
section
-- ===== end of PART A; then your names; then what follows =====
/-! THE CLAIM OUT OF ONE WALK OF THE LAW'S BODY. Your part is whole_start (and what it stands on); all else here is the same for every law, but numbers. -/
def R_law : String := "FaceSenateLaw"
def lw_P (b : Addr) (xs : List Int32) (args : Array Value) (s : State) : Prop := args = #[.ref b] ∧ s.IntsAt b xs ∧ xs.length ≤ 6 ∧ (Jvm.Cond.and given_1 narrow_1).before args s = true
def lw_Q (_ : Array Value) (s : State) (o : Outcome) (t : State) : Prop := o = .returned (some (.int 1)) ∧ Framed s o t [] 600000 7302250
def lw_Z (below : List Frame) (a : Array Value) (s : State) : State → Prop := fun t => ∃ o, t.status = .running ∧ Ended t below o ∧ lw_Q a s o t
/-- the law's own end, with 1 on the stack, nothing written that was there before, its room as the claim has it -/
theorem lw_ret {p : Program} {l : Launch} {e : Env} {s : State} {m : MethodId} {below : List Frame} {meth : Method} {c : Code} {b : Nat} (hx : p.tables.exec = Jvm.exec) (hb : c.code = code) (hr : meth.sig.returnType = ret) (hlocks : meth.locks = false) {pc : Nat} {H : Heap} {ls : Array Slot} (hdg : decode code pc = .ok (.ireturn, 1)) : W p l e room_1 s m #[Value.ref b] below meth c H [] 600000 7302250 (lw_Z below #[Value.ref b] s) (F0 m pc ls [.int 1]) := by
  intro T hT X
  obtain ⟨fs, hret, hrun, hended, hW, hframe⟩ := X.leave (v := some (.int 1)) (hlocks := hlocks) (fun h => by rw [hr] at h; cases h)
  have hmeth' : T.vm.method? m = some meth := X.method'
  refine ⟨T.setFrames fs, ?_, .returned (some (.int 1)), hrun, hended, rfl, ⟨_, rfl⟩, hW, hframe⟩
  jvm_step X.here [X.here.top, hx, hb, hdg, hmeth', hr, ret, narrow_b1]
  (try refine ⟨rfl, ?_⟩); (try refine ⟨rfl, ?_⟩)
  first | (intro acts; rw [hret _ acts rfl rfl rfl]) | rw [hret _ _ rfl rfl rfl]
  exact Steps.refl _
/-- what holds at the law's entry: the machine, the code, the tables' words (any of lw_tbl by 'hts w (by decide +kernel)'), the script of L ints xs at the cell b, what the Statement gives of the start (any of its parts by flat_of_before) -/
def lw_At (p : Program) (s : State) (m : MethodId) (meth : Method) (c : Code) (b L : Nat) (xs : Nat → Int32) : Prop :=
  p.tables.exec = Jvm.exec ∧ c.code = code ∧ meth.sig.returnType = ret ∧ c.maxLocals = 4 ∧ s.vm.findClass R_law = some m.cls ∧ (∀ w ∈ lw_tbl, w.before #[Value.ref b] s = true) ∧ va_X b L xs s s.heap ∧ b < s.heap.size ∧ meth.locks = false ∧ (Jvm.Cond.and given_1 narrow_1).before #[Value.ref b] s = true
end
section
theorem fx_law_new : fx_codB 17 false (some .boolean) 4 code (fw_new.filter (fun q => !Nat.beq q.2.1 28)) = true := by decide +kernel
theorem fx_law_short : fx_codB 17 false (some .boolean) 4 code fw_short = true := by decide +kernel
theorem fx_nst_in : ∀ q ∈ fx_nst, Cond.methodLinkNest q.1 q.2.1 q.2.2.1 q.2.2.2 ∈ lw_tbl := by decide +kernel
theorem fx_str_in : Cond.stringRef "FaceSenate$Tape" 39 fx_lit ∈ lw_tbl := by decide +kernel
theorem fx_sts_in : Cond.laysStatic "java/lang/String" "COMPACT_STRINGS" "Z" ∈ lw_tbl ∧ Cond.initialized "java/lang/String" ∈ lw_tbl ∧ Cond.laysStatic "jdk/internal/util/Preconditions" "SIOOBE_FORMATTER" "Ljava/util/function/BiFunction;" ∈ lw_tbl ∧ Cond.initialized "jdk/internal/util/Preconditions" ∈ lw_tbl := by decide +kernel
abbrev fx_tm : Term := Term.string "FaceSenate$Tape" 39
abbrev fx_tv : Term := Term.field fx_tm "java/lang/String" "value" "[B"
set_option maxRecDepth 100000 in
theorem fx_nar_in : Cond.exactly fx_tm "java/lang/String" ∈ flatC (Jvm.Cond.and given_1 narrow_1) ∧ Cond.eq (.field fx_tm "java/lang/String" "coder" "B") (.int 0) ∈ flatC (Jvm.Cond.and given_1 narrow_1) ∧ Cond.arrayOf fx_tv .byte ∈ flatC (Jvm.Cond.and given_1 narrow_1) ∧ Cond.eq (.length fx_tv) (.int (Int32.ofNat 123)) ∈ flatC (Jvm.Cond.and given_1 narrow_1) ∧ Cond.eq (.static "java/lang/String" "COMPACT_STRINGS" "Z") (.int 1) ∈ flatC (Jvm.Cond.and given_1 narrow_1) ∧ Cond.isRef (.static "jdk/internal/util/Preconditions" "SIOOBE_FORMATTER" "Ljava/util/function/BiFunction;") ∈ flatC (Jvm.Cond.and given_1 narrow_1) := by decide +kernel
set_option maxRecDepth 100000 in
theorem fx_nar_el : ∀ j, j < 123 → Cond.eq (.elem fx_tv (.int (Int32.ofNat j))) (.int (Int32.ofNat (fx_txt.getD j 0))) ∈ flatC (Jvm.Cond.and given_1 narrow_1) := by decide +kernel
end
section
theorem fx_tbs {b : Nat} {s : State} (hts : ∀ w ∈ lw_tbl, w.before #[Value.ref b] s = true) : ∀ w ∈ fx_tb, w.before #[Value.ref b] s = true := fun w hw => hts w (List.mem_filter.mp hw).1
theorem fx_txt_map (j : Nat) : (fx_txt.map Int32.ofNat).getD j 0 = Int32.ofNat (fx_txt.getD j 0) := by
  rw [List.getD_eq_getElem?_getD, List.getD_eq_getElem?_getD, List.getElem?_map]
  cases fx_txt[j]? <;> rfl
/-- what the law's start gives -/
theorem fx_enter {s : State} {b L : Nat} {xs : Nat → Int32} (hts : ∀ w ∈ lw_tbl, w.before #[Value.ref b] s = true) (hX : va_X b L xs s s.heap) (hbl : b < s.heap.size) (hL : L ≤ 6) (hgv : (Jvm.Cond.and given_1 narrow_1).before #[Value.ref b] s = true) : ∃ (X : fx_X) (Y : fx_Y) (B : fx_B), fx_xx X B ∧ fx_cx X Y B s ∧ X.2.1 = s.heap.size ∧ Y.2.2.1 = s.heap ∧ B.1 = b ∧ B.2.1 = L := by
  have hs := flat_of_before _ hgv
  have htb := fx_tbs hts
  have hno : ∀ q : Nat, q < s.heap.size → ¬ (fun q : Nat => s.heap.size ≤ q) q := fun q h1 h2 => Nat.not_le.mpr h1 h2
  have hK : ∀ ci : Nat, ∃ q : ClassId × (Nat → Nat), ∀ r : vw_C, fx_cl[ci]? = some r → u_Kn s r.1 r.2.1 r.2.2 q.1 q.2 := by
    intro ci
    cases hc : fx_cl[ci]? with
    | none => exact ⟨(0, fun _ => 0), fun r hr => by cases hr⟩
    | some r =>
      obtain ⟨C, T, N⟩ := r
      obtain ⟨fs, -, hu, -, -, hins, -⟩ := fx_clok hc
      obtain ⟨cC, iS, h⟩ := u_known (n := N) htb hu (htb _ hins)
      exact ⟨(cC, iS), fun r hr => by cases hr; exact h⟩
  obtain ⟨D, hD⟩ := Classical.axiomOfChoice hK
  have hA : ∀ t : Nat, ∃ cA : ClassId, t < 4 → ArrOfT s cA (fx_ty t) ∧ s.vm.findClass ("[" ++ (fx_ty t).toString) = some cA := by
    intro t
    by_cases ht : t < 4
    · obtain ⟨cA, kA, comp, h1, h2, h3⟩ := Cond.arrayClass_spec (htb _ (fx_wd_ok.1 t ht))
      exact ⟨cA, fun _ => ⟨fun n z => ⟨fun k h => (by cases h), kA, h2, comp, h3⟩, h1⟩⟩
    · exact ⟨0, fun h => absurd h ht⟩
  obtain ⟨cy, hcy⟩ := Classical.axiomOfChoice hA
  obtain ⟨n1, n2, n3, n4, n5, n6⟩ := fx_nar_in
  obtain ⟨adK, adV, hS, hev⟩ := vk_Sof (args := #[Value.ref b]) (s := s) (N := 1) (tm := fun _ => fx_tm) (len := [123]) (byt := [fx_txt.map Int32.ofNat]) (A := fun q => s.heap.size ≤ q)
    (fun i hi => by obtain rfl : i = 0 := by omega
                    decide) (fun i hi => hs _ n1) (fun i hi => hs _ n2) (fun i hi => hs _ n3)
    (fun i hi => by obtain rfl : i = 0 := by omega
                    exact hs _ n4)
    (fun i hi j hj => by
      obtain rfl : i = 0 := by omega
      have h1 := hs _ (fx_nar_el j hj)
      show (Cond.eq (.elem fx_tv (.int (Int32.ofNat j))) (.int ((fx_txt.map Int32.ofNat).getD j 0))).before _ s = true
      rw [fx_txt_map]
      exact h1) (fun i j hi hj hij => absurd (by omega : i = j) hij) hno
  obtain ⟨k1, k2, k3, k4⟩ := hS.1 0 (by decide)
  have k4 : va_T .byte (adV 0) 123 (fun j => .int (Int32.ofNat (fx_txt.getD j 0))) (fun q => s.heap.size ≤ q) s s.heap := by
    have e : (fun j : Nat => Value.int (Int32.ofNat (fx_txt.getD j 0))) = (fun j : Nat => Value.int ((fx_txt.map Int32.ofNat).getD j 0)) := by
      funext j
      rw [fx_txt_map]
    rw [e]
    exact k4
  obtain ⟨s1, s2, s3, s4⟩ := fx_sts_in
  have hz1 := va_Zof (A := fun q => s.heap.size ≤ q) (hts _ s1) (hts _ s2) (va_eqi (hs _ n5)) hno
  have hz2 := va_Zqof (A := fun q => s.heap.size ≤ q) (hts _ s3) (hts _ s4) (hs _ n6) hno
  obtain ⟨v3, hv3, hz3⟩ : ∃ v3 : Value, (v3 = .null ∨ ∃ t, v3 = .ref t) ∧ va_Z "jdk/internal/util/Preconditions" "SIOOBE_FORMATTER" "Ljava/util/function/BiFunction;" v3 (fun q => s.heap.size ≤ q) s s.heap := by
    rcases hz2 with h | ⟨t, h⟩
    · exact ⟨_, Or.inl rfl, h⟩
    · exact ⟨_, Or.inr ⟨t, rfl⟩, h⟩
  refine ⟨(fun i => if i = 7 then xs 0 &&& 63 else if i = 8 then Int32.ofNat L else xs (i - 1), s.heap.size, fun k => if k = 0 then .ref b else if k = 1 then .ref (adK 0) else if k = 2 then .ref (adV 0) else if k = 3 then v3 else .null), ((fun ci => (D ci).1, fun ci => (D ci).2), cy, s.heap, s.heap), (b, L, xs, adK 0, adV 0), ?_, ?_, rfl, rfl, rfl, rfl⟩
  · refine ⟨fun k => ?_, rfl, fun n hn => ?_, rfl, hL, rfl, rfl, rfl, hbl⟩
    · unfold fx_ad
      by_cases hk : k < 1000000
      · rw [if_pos hk]
        exact ⟨rfl, Or.inr ⟨_, rfl⟩⟩
      · rw [if_neg hk]
        simp only
        split
        · exact ⟨rfl, Or.inr ⟨_, rfl⟩⟩
        · split
          · exact ⟨rfl, Or.inr ⟨_, rfl⟩⟩
          · split
            · exact ⟨rfl, Or.inr ⟨_, rfl⟩⟩
            · split
              · rcases hv3 with rfl | ⟨t, rfl⟩
                · exact ⟨rfl, Or.inl rfl⟩
                · exact ⟨rfl, Or.inr ⟨_, rfl⟩⟩
              · exact ⟨rfl, Or.inl rfl⟩
    · show (if n + 1 = 7 then _ else if n + 1 = 8 then _ else xs (n + 1 - 1)) = xs n
      rw [if_neg (by omega), if_neg (by omega)]
      rfl
  · exact ⟨fun ci q hq => hD ci q hq, fun t ht => hcy t ht, fun q hq => va_Nw.of rfl (hts _ (fx_nst_in q hq)), vk_R.of (hts _ fx_str_in) (hev 0 (by decide)), hz1, hz3, k1, k3, k2, k4, hX⟩
/-- no int but those below 64 -/
theorem fx_and63 (x : Int32) : ∃ n, n < 64 ∧ x &&& 63 = Int32.ofNat n := by
  refine ⟨(x &&& 63).toBitVec.toNat, ?_, ?_⟩
  · rw [Int32.toBitVec_and]
    show (x.toBitVec.toNat &&& 63) < 64
    exact Nat.lt_succ_of_le Nat.and_le_right
  · apply Int32.toBitVec_inj.1
    rw [Int32.toBitVec_ofNat']
    apply BitVec.eq_of_toNat_eq
    rw [BitVec.toNat_ofNat]
    exact (Nat.mod_eq_of_lt (x &&& 63).toBitVec.isLt).symm
theorem fx_bsm {n : Nat} (h : n < 2147483648) : fx_b n = n + 2147483648 := by
  show (n + 2147483648) % 4294967296 = _
  omega
/-- intervals: whatever the script is; its length and what is called told -/
theorem fx_rj9 {X : fx_X} {q7 q8 : Nat × Nat} (h7 : q7.1 ≤ fx_z (X.1 7) ∧ fx_z (X.1 7) ≤ q7.2) (h8 : q8.1 ≤ fx_z (X.1 8) ∧ fx_z (X.1 8) ≤ q8.2) : fx_rj X [(0, 4294967295), (0, 4294967295), (0, 4294967295), (0, 4294967295), (0, 4294967295), (0, 4294967295), (0, 4294967295), q7, q8] := by
  have hf : ∀ i, (0 : Nat) ≤ fx_z (X.1 i) ∧ fx_z (X.1 i) ≤ 4294967295 := fun i => ⟨Nat.zero_le _, Nat.le_of_lt_succ (fx_z_max _)⟩
  intro i q hq
  rcases i with _ | _ | _ | _ | _ | _ | _ | _ | _ | i
  · cases hq; exact hf _
  · cases hq; exact hf _
  · cases hq; exact hf _
  · cases hq; exact hf _
  · cases hq; exact hf _
  · cases hq; exact hf _
  · cases hq; exact hf _
  · cases hq; exact h7
  · cases hq; exact h8
  · simp at hq
section FXS
variable {p : Program} {e : Env} {s : State} {m : MethodId} {below : List Frame} {meth : Method} {c : Code} {l : Launch} {b L : Nat} {xs : Nat → Int32} {X : fx_X} {Y : fx_Y} {B : fx_B}
theorem fx_lawfs {w : List fx_I} (C0 : lw_At p s m meth c b L xs) (hcx : fx_cx X Y B s) (hbase : X.2.1 = s.heap.size) (hw : ∀ pc kd a b' d, (pc, kd, a, b', d) ∈ w → kd ≠ 28 → decode code pc = .ok (fx_ins pc kd a b' d) ∧ fx_an fx_mst fx_mt (fx_cn 17) false (some .boolean) 4 kd a b' d) : fx_fs X Y B fx_mst fx_mt p s m #[Value.ref b] meth c code 4 R_law false (some .boolean) w := by
  obtain ⟨hx, hb, hr, hml, hown, hts, hX, hbl, hlocks, hgv⟩ := C0
  exact ⟨hx, hb, hml, hown, fx_tbs hts, hlocks, (fun q => by cases q), hr, hcx, (by rw [hbase]; exact Nat.le_refl _), hw⟩
theorem fx_lawrt (C0 : lw_At p s m meth c b L xs) (hbase : X.2.1 = s.heap.size) {mc ms : Nat} (hmc : mc ≤ 600000) (hms : ms ≤ 7302250) : fx_rt l X Y p e room_1 s m #[Value.ref b] below meth c (lw_Z below #[Value.ref b] s) code (some .boolean) mc ms (fun v _ _ => fx_kt1 v) := by
  obtain ⟨hx, hb, hr, hml, hown, hts, hX, hbl, hlocks, hgv⟩ := C0
  intro v w h j H locs ce sl pc ls hk hro hrh hrj hls hce hsl hrets
  rcases v with _ | v
  · cases hk
  rcases v with n | n | n | n
  · have hn := fx_beq (show Nat.beq n 1 = true from hk)
    subst hn
    rcases w with _ | w
    · exact False.elim hro
    have hw : w = .int (Int32.ofNat 1) := hro
    subst hw
    rcases hrets with ⟨q, -⟩ | ⟨z, ty, q, -, -, hd⟩ | ⟨z, q, -⟩
    · cases q
    · refine va_forget (fun q hq => by rw [← hbase]; exact hls q hq) ?_
      refine W.widen (k := 600000) (n := 7302250) (by omega) (by omega) ?_
      exact lw_ret hx hb hr hlocks hd
    · cases q
  · cases hk
  · cases hk
  · cases hk
theorem fx_stage2 (C0 : lw_At p s m meth c b L xs) (hXX : fx_xx X B) (hcx : fx_cx X Y B s) (hbase : X.2.1 = s.heap.size) {S : fx_Z} (hsum : fx_sum l X Y B fx_mst (fx_ev S (fun _ _ _ => false))) {w : List fx_I} (hw : fx_codB 17 false (some .boolean) 4 code w = true) {n : Nat} {j j0 : fx_J} (run : fx_run S n w j) (hpc : fx_pc w = 18) (hrj : fx_rj X j) {H : Heap} {locs : List Loc} {ls : Array Slot} (hs : fx_st X Y 4 fx_l0 [] fx_g0 j0 H locs ls []) {ce sl : Nat} (hce : ce ≤ 1000) (hsl : sl ≤ 100000) : W p l e room_1 s m #[Value.ref b] below meth c H locs ce sl (lw_Z below #[Value.ref b] s) (F0 m 18 ls []) := by
  refine W.widen (k := 1000) (n := 100000) hce hsl ?_
  have hcd := fx_codB_ok hw
  have K := (fx_go_ok (E := fx_ev S (fun _ _ _ => false)) hXX fx_mall_ok hsum rfl rfl fx_wd_ok n).2 20 w w fx_l0 [] 1000 100000 600000 7302250 fx_g0 j _ run p e room_1 s m #[Value.ref b] below meth c (lw_Z below #[Value.ref b] s) code 4 R_law false (some .boolean) (fx_lawfs C0 hcx hbase (fun pc kd a b' d hin _ => (hcd pc kd a b' d hin).2)) ⟨Nat.le_of_ble_eq_true rfl, Nat.le_of_ble_eq_true rfl, Nat.le_of_ble_eq_true rfl, Nat.le_of_ble_eq_true rfl⟩ (fun _ h => h) (fx_lawrt C0 hbase (Nat.le_refl _) (Nat.le_refl _)) (fun q hq h28 => by
    obtain ⟨pc, kd, a, b', d⟩ := q
    exact absurd h28 (hcd pc kd a b' d hq).1) H locs ls [] ⟨hs.1, hs.2.1, hs.2.2.1, hrj, hs.2.2.2.2⟩ (Nat.le_of_ble_eq_true rfl) (Nat.le_of_ble_eq_true rfl)
  rw [hpc] at K
  exact K
end FXS
end
section
abbrev fx_sm : Type := Nat × (List fx_V × (fx_H × (Option fx_V × fx_H)))
noncomputable def fx_vm (t v : fx_V) : Bool := match t with
  | .inr (.inl 0) => fx_int v
  | _ => fx_vq t v
theorem fx_vm_ok {X : fx_X} {t v : fx_V} {w : Value} (h : fx_vm t v = true) (hr : fx_rv X v w) : fx_rv X t w := by
  rcases t with n | i | r | n
  · rw [fx_vq_ok (show fx_vq (.inl n) v = true from h)]; exact hr
  · cases i with
    | zero => exact fx_rv_int hr h
    | succ i => rw [fx_vq_ok (show fx_vq (.inr (.inl (i + 1))) v = true from h)]; exact hr
  · rw [fx_vq_ok (show fx_vq (.inr (.inr (.inl r))) v = true from h)]; exact hr
  · rw [fx_vq_ok (show fx_vq (.inr (.inr (.inr n))) v = true from h)]; exact hr
theorem fx_lm_ok {X : fx_X} : ∀ {t v : List fx_V} {w : List Value}, fx_lq fx_vm t v = true → fx_rl X v w → fx_rl X t w := by
  intro t
  induction t with
  | nil =>
    intro v w h hr
    cases v with
    | nil => exact hr
    | cons b v => cases h
  | cons a t ih =>
    intro v w h hr
    cases v with
    | nil => cases h
    | cons b v =>
      obtain ⟨h1, h2⟩ := fx_and (a := fx_vm a b) (b := fx_lq fx_vm t v) h
      obtain ⟨x, w, rfl, h3, h4⟩ := fx_rl_cons hr
      exact ⟨fx_vm_ok h1 h3, ih h2 h4⟩
noncomputable def fx_nm (a b : Nat × fx_V) : Bool := Nat.beq a.1 b.1 && fx_vm a.2 b.2
theorem fx_am_ok {X : fx_X} {ty : Nat} {i : Nat} {w : Value} : ∀ {t v : List (Nat × fx_V)}, fx_lq fx_nm t v = true → fx_rv X (fx_aget ty v i) w → fx_rv X (fx_aget ty t i) w := by
  intro t
  induction t with
  | nil =>
    intro v h hr
    cases v with
    | nil => exact hr
    | cons b v => cases h
  | cons a t ih =>
    intro v h hr
    cases v with
    | nil => cases h
    | cons b v =>
      obtain ⟨h1, h2⟩ := fx_and (a := fx_nm a b) (b := fx_lq fx_nm t v) h
      obtain ⟨h3, h4⟩ := fx_and h1
      have h3 := fx_beq h3
      rw [fx_aget_def, fx_look_cons] at hr ⊢
      rw [h3]
      cases hc : Nat.beq b.1 i with
      | true =>
        rw [hc, fx_if_t] at hr
        rw [fx_if_t]
        exact fx_vm_ok h4 hr
      | false =>
        rw [hc, fx_if_f] at hr
        rw [fx_if_f]
        exact ih h2 hr
noncomputable def fx_cm (t c : fx_C) : Bool := match t, c with
  | .inl _, _ => true
  | .inr (.inl (a, f)), .inr (.inl (b, g)) => Nat.beq a b && fx_lq fx_vm f g
  | .inr (.inr (a, n, f)), .inr (.inr (b, k, g)) => Nat.beq a b && (Nat.beq n k && fx_lq fx_nm f g)
  | _, _ => false
theorem fx_cm_ok {X : fx_X} {Y : fx_Y} {H : Heap} {t c : fx_C} {a : Nat} (h : fx_cm t c = true) (hr : fx_rc X Y c a H) : fx_rc X (Y.1, Y.2.1, Y.2.2.1, H) t a H := by
  rcases t with u | ⟨ci, f⟩ | ⟨ty, n, f⟩
  · rfl
  · rcases c with u | ⟨cj, g⟩ | ⟨tz, k, g⟩
    · cases h
    · obtain ⟨h1, h2⟩ := fx_and (a := Nat.beq ci cj) (b := fx_lq fx_vm f g) h
      have := fx_beq h1
      subst this
      obtain ⟨q, vs, g1, g2, g3, g4⟩ := hr
      exact ⟨q, vs, g1, g2, fx_lm_ok h2 g3, g4⟩
    · cases h
  · rcases c with u | ⟨cj, g⟩ | ⟨tz, k, g⟩
    · cases h
    · cases h
    · obtain ⟨h1, h2⟩ := fx_and (a := Nat.beq ty tz) (b := (Nat.beq n k && fx_lq fx_nm f g)) h
      obtain ⟨h2, h3⟩ := fx_and h2
      have h1 := fx_beq h1
      have h2 := fx_beq h2
      subst h1; subst h2
      obtain ⟨fa, g1, g2, g3, g4⟩ := hr
      exact ⟨fa, g1, g2, g3, fun i => fx_am_ok h3 (g4 i)⟩
theorem fx_lq_get {α : Type} {f : α → α → Bool} : ∀ {t m : List α}, fx_lq f t m = true → t.length = m.length ∧ ∀ (k : Nat) (a : α), t[k]? = some a → ∃ b, m[k]? = some b ∧ f a b = true := by
  intro t
  induction t with
  | nil =>
    intro m h
    cases m with
    | nil => exact ⟨rfl, fun k a hk => by simp at hk⟩
    | cons b m => cases h
  | cons c t ih =>
    intro m h
    cases m with
    | nil => cases h
    | cons b m =>
      obtain ⟨h1, h2⟩ := fx_and (a := f c b) (b := fx_lq f t m) h
      obtain ⟨h3, h4⟩ := ih h2
      refine ⟨by simp [h3], fun k a hk => ?_⟩
      cases k with
      | zero =>
        rw [List.getElem?_cons_zero] at hk
        cases hk
        exact ⟨b, rfl, h1⟩
      | succ k =>
        rw [List.getElem?_cons_succ] at hk
        rw [List.getElem?_cons_succ]
        exact h4 k a hk
noncomputable def fx_hm (t h : fx_H) : Bool := Nat.beq t.1 h.1 && fx_lq (fx_lq fx_cm) t.2 h.2
theorem fx_hm_get {t h : fx_H} (hh : fx_hm t h = true) : t.1 = h.1 ∧ ∀ k c, fx_hget t k = some c → ∃ c', fx_hget h k = some c' ∧ fx_cm c c' = true := by
  obtain ⟨h1, h2⟩ := fx_and hh
  refine ⟨fx_beq h1, fun k c hk => ?_⟩
  obtain ⟨n, rt⟩ := t
  obtain ⟨n', rh⟩ := h
  rw [fx_hget_eq] at hk ⊢
  obtain ⟨-, h3⟩ := fx_lq_get h2
  cases hr : rt[k / 16]? with
  | none => rw [hr] at hk; cases hk
  | some r =>
    rw [hr] at hk
    obtain ⟨r', h4, h5⟩ := h3 _ _ hr
    obtain ⟨-, h6⟩ := fx_lq_get h5
    obtain ⟨c', h7, h8⟩ := h6 _ _ hk
    exact ⟨c', by show (rh[k / 16]?).bind _ = _; rw [h4]; exact h7, h8⟩
/-- the cells behind: those of the picture, the others as they were -/
noncomputable def fx_oc {β : Type} (t c : fx_C) (k : fx_C → β) : β := match t with
  | .inl _ => k c
  | .inr x => k (.inr x)
noncomputable def fx_or1 {β : Type} (t : List fx_C) : List fx_C → (List fx_C → Option β) → Option β := List.rec (motive := fun _ => List fx_C → (List fx_C → Option β) → Option β) (fun m k => match m with
    | [] => k []
    | _ :: _ => none) (fun a _ ih m k => match m with
    | [] => none
    | b :: m => fx_oc a b (fun c => ih m (fun r => k (c :: r)))) t
noncomputable def fx_or2 {β : Type} (t : List (List fx_C)) : List (List fx_C) → (List (List fx_C) → Option β) → Option β := List.rec (motive := fun _ => List (List fx_C) → (List (List fx_C) → Option β) → Option β) (fun m k => match m with
    | [] => k []
    | _ :: _ => none) (fun a _ ih m k => match m with
    | [] => none
    | b :: m => fx_or1 a b (fun c => ih m (fun r => k (c :: r)))) t
def fx_oq (t c d : fx_C) : Prop := (t = .inl () ∧ d = c) ∨ (t ≠ .inl () ∧ d = t)
theorem fx_or1_ok {β : Type} {v : β} : ∀ {t m : List fx_C} {k : List fx_C → Option β}, fx_or1 t m k = some v → ∃ r, k r = some v ∧ r.length = t.length ∧ ∀ (i : Nat) (a : fx_C), r[i]? = some a → ∃ x y, t[i]? = some x ∧ m[i]? = some y ∧ fx_oq x y a := by
  intro t
  induction t with
  | nil =>
    intro m k h
    cases m with
    | nil => exact ⟨[], h, rfl, fun i a hi => by simp at hi⟩
    | cons b m => cases h
  | cons c t ih =>
    intro m k h
    cases m with
    | nil => cases h
    | cons b m =>
      have h : fx_oc c b (fun c => fx_or1 t m (fun r => k (c :: r))) = some v := h
      obtain ⟨d, hd, hq⟩ : ∃ d, fx_or1 t m (fun r => k (d :: r)) = some v ∧ fx_oq c b d := by
        rcases c with u | x
        · exact ⟨b, h, Or.inl ⟨rfl, rfl⟩⟩
        · exact ⟨.inr x, h, Or.inr ⟨fun q => (by cases q), rfl⟩⟩
      obtain ⟨r, h1, h2, h3⟩ := ih hd
      refine ⟨d :: r, h1, by simp [h2], fun i a hi => ?_⟩
      cases i with
      | zero =>
        rw [List.getElem?_cons_zero] at hi
        cases hi
        exact ⟨c, b, rfl, rfl, hq⟩
      | succ i =>
        rw [List.getElem?_cons_succ] at hi
        rw [List.getElem?_cons_succ, List.getElem?_cons_succ]
        exact h3 i a hi
theorem fx_or2_ok {β : Type} {v : β} : ∀ {t m : List (List fx_C)} {k : List (List fx_C) → Option β}, fx_or2 t m k = some v → ∃ r, k r = some v ∧ ∀ (i : Nat) (a : List fx_C), r[i]? = some a → ∃ x y, t[i]? = some x ∧ m[i]? = some y ∧ ∀ (j : Nat) (c : fx_C), a[j]? = some c → ∃ p q, x[j]? = some p ∧ y[j]? = some q ∧ fx_oq p q c := by
  intro t
  induction t with
  | nil =>
    intro m k h
    cases m with
    | nil => exact ⟨[], h, fun i a hi => by simp at hi⟩
    | cons b m => cases h
  | cons c t ih =>
    intro m k h
    cases m with
    | nil => cases h
    | cons b m =>
      have h : fx_or1 c b (fun c => fx_or2 t m (fun r => k (c :: r))) = some v := h
      obtain ⟨d, hd, -, hq⟩ := fx_or1_ok h
      obtain ⟨r, h1, h3⟩ := ih hd
      refine ⟨d :: r, h1, fun i a hi => ?_⟩
      cases i with
      | zero =>
        rw [List.getElem?_cons_zero] at hi
        cases hi
        exact ⟨c, b, rfl, rfl, fun j x hx => hq j x hx⟩
      | succ i =>
        rw [List.getElem?_cons_succ] at hi
        rw [List.getElem?_cons_succ, List.getElem?_cons_succ]
        exact h3 i a hi
noncomputable def fx_use (q : fx_sm) (c : Nat) (as : List fx_V) (h : fx_H) (d : Option (Option fx_V × fx_H)) : Option (Option fx_V × fx_H) := fx_if (Nat.beq q.1 c && (fx_lq fx_vm q.2.1 as && (fx_hm q.2.2.1 h && Nat.beq q.2.2.2.2.1 q.2.2.1.1))) (match h with
  | (n, rows) => fx_or2 q.2.2.2.2.2 rows (fun r => some (q.2.2.2.1, (n, r)))) d
noncomputable def fx_tab (l : List fx_sm) : fx_Z := fun c as h => List.rec (motive := fun _ => Option (Option fx_V × fx_H)) none (fun q _ ih => fx_use q c as h ih) l
noncomputable def fx_ovq (x y : Option fx_V) : Bool := match x, y with
  | none, none => true
  | some a, some b => fx_vq a b
  | _, _ => false
theorem fx_ovq_ok {x y : Option fx_V} (h : fx_ovq x y = true) : x = y := by
  rcases x with _ | a <;> rcases y with _ | b
  · rfl
  · cases h
  · cases h
  · rw [fx_vq_ok h]
/-- the run that a summary stands on -/
def fx_smr (q : fx_sm) : Prop := ∃ (M : fx_M) (n : Nat), fx_mt q.1 = some M ∧ fx_cats q.2.1 ≤ M.2.2.2.2.2 ∧ fx_go (fx_ev fx_s0z (fun _ _ _ => false)) n 10 M.1 M.1 (fx_args q.2.1 0) [] 0 0 M.2.2.1 M.2.2.2.1 q.2.2.1 [] (fun v h _ => fx_ovq v q.2.2.2.1 && fx_hq h q.2.2.2.2) = true
theorem fx_sum0 {l : Launch} {X : fx_X} {Y : fx_Y} {B : fx_B} {kc : fx_L → fx_H → fx_J → Bool} : fx_sum l X Y B fx_mst (fx_ev fx_s0z kc) := fun c S M as h v h' _ _ hs => by cases hs
theorem fx_sum_tab {l : Launch} {X : fx_X} {Y : fx_Y} {B : fx_B} (hXX : fx_xx X B) {kc : fx_L → fx_H → fx_J → Bool} : ∀ {t : List fx_sm}, (∀ q ∈ t, fx_smr q) → fx_sum l X Y B fx_mst (fx_ev (fx_tab t) kc) := by
  intro t ht c S M as h v h' hS hM hs av H hra hrh KQ hKQ
  have hs : fx_tab t c as h = some (v, h') := hs
  have hM : fx_mt c = some M := hM
  induction t with
  | nil => cases hs
  | cons q t ih =>
    have hs2 : fx_use q c as h (fx_tab t c as h) = some (v, h') := hs
    unfold fx_use at hs2
    cases hc : (Nat.beq q.1 c && (fx_lq fx_vm q.2.1 as && (fx_hm q.2.2.1 h && Nat.beq q.2.2.2.2.1 q.2.2.1.1))) with
    | false =>
      rw [hc, fx_if_f] at hs2
      exact ih (fun x hx => ht x (List.mem_cons_of_mem _ hx)) hM hs2 hs2
    | true =>
      rw [hc, fx_if_t] at hs2
      obtain ⟨e1, e2⟩ := fx_and hc
      obtain ⟨e3, e4⟩ := fx_and e2
      obtain ⟨e5, e6⟩ := fx_and e4
      obtain ⟨c0, as0, h0, v1, h1⟩ := q
      have e1b : c0 = c := fx_beq e1
      have e6b : h1.1 = h0.1 := fx_beq e6
      simp only at e3 e5 hs2
      subst e1b
      obtain ⟨n, rows⟩ := h
      obtain ⟨rr, hk, hov⟩ := fx_or2_ok hs2
      have hk := Option.some.inj hk
      cases hk
      obtain ⟨M', fuel, hM', hcat, hrun⟩ := ht _ List.mem_cons_self
      simp only at hM' hcat hrun
      cases hM.symm.trans hM'
      obtain ⟨S', hS', hmok⟩ := fx_mall_ok c0 M hM
      cases hS.symm.trans hS'
      obtain ⟨g1, g2⟩ := fx_hm_get e5
      have g1 : h0.1 = n := g1
      have hrh0 : fx_rh X (Y.1, Y.2.1, Y.2.2.1, H) h0 H := by
        refine ⟨by rw [g1]; exact hrh.1, fun k x hx => ?_, hrh.2.2⟩
        obtain ⟨x', g3, g4⟩ := g2 k x hx
        obtain ⟨b1, b2, b3⟩ := hrh.2.1 k x' g3
        exact ⟨by rw [g1]; exact b1, b2, fx_cm_ok g4 b3⟩
      have hmet := fx_met_of (l := l) (B := B) (mst := fx_mst) (E := fx_ev fx_s0z (fun _ _ _ => false)) (fx_go_ok (Y := (Y.1, Y.2.1, Y.2.2.1, H)) hXX fx_mall_ok fx_sum0 rfl rfl fx_wd_ok fuel) hXX.1 hmok hrun (fx_lm_ok e3 hra) hrh0 (fun i q hq => by simp at hq) hcat (KQ := KQ) (fun v2 w h2 j2 H2 hk hro hrh2 _ => by
        obtain ⟨k1, k2⟩ := fx_and hk
        have k1 := fx_ovq_ok k1
        have k2 := fx_hq_ok k2
        subst k1; subst k2
        refine hKQ w H2 hro ⟨?_, fun k x hx => ?_, hrh2.2.2⟩
        · show H2.size = X.2.1 + n
          rw [hrh2.1, ← g1, ← e6b]
        · rw [fx_hget_eq] at hx
          cases hr : rr[k / 16]? with
          | none => rw [hr] at hx; cases hx
          | some r =>
            rw [hr] at hx
            obtain ⟨x1, y1, f1, f2, f3⟩ := hov _ _ hr
            obtain ⟨p1, q1, f4, f5, f6⟩ := f3 _ _ hx
            have hg2 : fx_hget h2 k = some p1 := by
              obtain ⟨n2, rows2⟩ := h2
              rw [fx_hget_eq]
              show (rows2[k / 16]?).bind _ = _
              rw [show rows2[k / 16]? = some x1 from f1]
              exact f4
            have hgh : fx_hget (n, rows) k = some q1 := by
              rw [fx_hget_eq, show rows[k / 16]? = some y1 from f2]
              exact f5
            obtain ⟨b1, b2, b3⟩ := hrh2.2.1 k p1 hg2
            obtain ⟨d1, d2, d3⟩ := hrh.2.1 k q1 hgh
            refine ⟨d1, d2, ?_⟩
            rcases f6 with ⟨rfl, rfl⟩ | ⟨hne, rfl⟩
            · exact d3.kept b3
            · rcases x with u | ⟨ci, fs⟩ | ⟨ty, n9, u9⟩
              · exact absurd rfl hne
              · exact b3
              · exact b3)
      exact hmet
end
section
def fx_q0 : fx_sm := (62, [fr 36, fr 19, fr 33], (114, [[.inl (), .inl (), .inl (), .inl (), .inl (), .inl (), .inl (), .inl (), .inl (), .inl (), .inl (), .inl (), .inl (), .inl (), .inl (), .inl ()],
  [.inl (), .inl (), .inl (), .inr (.inl (3, [fr 20, fr 21, fr 22, fr 23, fr 24, fr 25, fr 26, fr 27, fr 30, fc 4, fc 4, fc 0, fc 0, fc 0, fc 1, fc 0, fc 0, fc 0])), .inl (), .inl (), .inl (), .inl (), .inl (), .inl (), .inl (), .inl (), .inl (), .inl (), .inl (), .inl ()],
  [.inl (), .inr (.inl (6, [fr 34, fr 35, fc 0, fc 0, fc 0])), .inr (.inr (0, 7, [])), .inr (.inr (0, 7, [(6, fc 4294967295), (5, fc 4294967295), (4, fc 4294967295), (3, fc 4294967295), (2, fc 4294967295), (1, fc 4294967295), (0, fc 4294967295)])), .inr (.inl (8, [fr 37, fr 40, fr 41, fr 42, fr 43, fr 44, fr 45, fr 46, fr 47, fr 48, fr 19])), .inr (.inl (6, [fr 38, fr 39, fv 0, fv 0, fv 0])), .inr (.inr (0, 7, [])), .inr (.inr (0, 7, [(6, fc 4294967295), (5, fc 4294967295), (4, fc 4294967295), (3, fc 4294967295), (2, fc 4294967295), (1, fc 4294967295), (0, fc 4294967295)])), .inr (.inr (0, 7, [])), .inr (.inr (0, 7, [])), .inr (.inr (0, 7, [])), .inl (), .inl (), .inl (), .inl (), .inl ()],
  [.inl (), .inl (), .inl (), .inl (), .inl (), .inl (), .inl (), .inl (), .inl (), .inl (), .inl (), .inl (), .inl (), .inl (), .inl (), .inl ()],
  [.inl (), .inl (), .inl (), .inl (), .inl (), .inl (), .inl (), .inl (), .inl (), .inl (), .inl (), .inl (), .inl (), .inl (), .inl (), .inl ()],
  [.inl (), .inl (), .inl (), .inl (), .inl (), .inl (), .inl (), .inl (), .inl (), .inl (), .inl (), .inl (), .inl (), .inl (), .inl (), .inl ()],
  [.inl (), .inl (), .inl (), .inl (), .inl (), .inl (), .inl (), .inl (), .inl (), .inl (), .inl (), .inl (), .inl (), .inl (), .inl (), .inl ()],
  [.inl (), .inl ()]]), none, (114, [[.inl (), .inl (), .inl (), .inl (), .inl (), .inl (), .inl (), .inl (), .inl (), .inl (), .inl (), .inl (), .inl (), .inl (), .inl (), .inl ()],
  [.inl (), .inl (), .inl (), .inr (.inl (3, [fr 20, fr 21, fr 22, fr 23, fr 24, fr 25, fr 26, fr 27, fr 30, fc 4, fc 4, fc 0, fc 0, fc 0, fc 1, fc 0, fc 0, fc 0])), .inl (), .inl (), .inl (), .inl (), .inl (), .inl (), .inl (), .inl (), .inl (), .inl (), .inl (), .inl ()],
  [.inl (), .inr (.inl (6, [fr 34, fr 35, fc 0, fc 0, fc 0])), .inr (.inr (0, 7, [])), .inr (.inr (0, 7, [(6, fc 4294967295), (5, fc 4294967295), (4, fc 4294967295), (3, fc 4294967295), (2, fc 4294967295), (1, fc 4294967295), (0, fc 4294967295)])), .inr (.inl (8, [fr 37, fr 40, fr 41, fr 42, fr 43, fr 44, fr 45, fr 46, fr 47, fr 48, fr 19])), .inr (.inl (6, [fr 38, fr 39, fc 0, fc 0, fc 0])), .inr (.inr (0, 7, [])), .inr (.inr (0, 7, [(6, fc 4294967295), (5, fc 4294967295), (4, fc 4294967295), (3, fc 4294967295), (2, fc 4294967295), (1, fc 4294967295), (0, fc 4294967295)])), .inr (.inr (0, 7, [])), .inr (.inr (0, 7, [])), .inr (.inr (0, 7, [])), .inl (), .inl (), .inl (), .inl (), .inl ()],
  [.inl (), .inl (), .inl (), .inl (), .inl (), .inl (), .inl (), .inl (), .inl (), .inl (), .inl (), .inl (), .inl (), .inl (), .inl (), .inl ()],
  [.inl (), .inl (), .inl (), .inl (), .inl (), .inl (), .inl (), .inl (), .inl (), .inl (), .inl (), .inl (), .inl (), .inl (), .inl (), .inl ()],
  [.inl (), .inl (), .inl (), .inl (), .inl (), .inl (), .inl (), .inl (), .inl (), .inl (), .inl (), .inl (), .inl (), .inl (), .inl (), .inl ()],
  [.inl (), .inl (), .inl (), .inl (), .inl (), .inl (), .inl (), .inl (), .inl (), .inl (), .inl (), .inl (), .inl (), .inl (), .inl (), .inl ()],
  [.inl (), .inl ()]]))
set_option maxRecDepth 100000 in
theorem fx_qb0 : fx_go (fx_ev fx_s0z (fun _ _ _ => false)) 10000 10 fm_62.1 fm_62.1 (fx_args fx_q0.2.1 0) [] 0 0 fm_62.2.2.1 fm_62.2.2.2.1 fx_q0.2.2.1 [] (fun v h _ => fx_ovq v fx_q0.2.2.2.1 && fx_hq h fx_q0.2.2.2.2) = true := by decide +kernel
theorem fx_qr0 : fx_smr fx_q0 := ⟨fm_62, 10000, rfl, Nat.le_of_ble_eq_true rfl, fx_qb0⟩
def fx_q1 : fx_sm := (85, [fr 36], (114, [[.inl (), .inl (), .inl (), .inl (), .inl (), .inl (), .inl (), .inl (), .inl (), .inl (), .inl (), .inl (), .inl (), .inl (), .inl (), .inl ()],
  [.inl (), .inl (), .inl (), .inr (.inl (3, [fr 20, fr 21, fr 22, fr 23, fr 24, fr 25, fr 26, fr 27, fr 30, fc 4, fc 4, fc 0, fc 0, fc 0, fc 1, fc 0, fc 0, fc 0])), .inl (), .inl (), .inl (), .inl (), .inl (), .inl (), .inl (), .inl (), .inl (), .inl (), .inl (), .inl ()],
  [.inl (), .inl (), .inl (), .inl (), .inr (.inl (8, [fr 37, fr 40, fr 41, fr 42, fr 43, fr 44, fr 45, fr 46, fr 47, fr 48, fr 19])), .inr (.inl (6, [fr 38, fr 39, fv 0, fv 0, fv 0])), .inr (.inr (0, 7, [])), .inl (), .inl (), .inl (), .inl (), .inr (.inr (0, 7, [])), .inl (), .inl (), .inl (), .inl ()],
  [.inl (), .inl (), .inl (), .inl (), .inl (), .inl (), .inl (), .inl (), .inl (), .inl (), .inl (), .inl (), .inl (), .inl (), .inl (), .inl ()],
  [.inl (), .inl (), .inl (), .inl (), .inl (), .inl (), .inl (), .inl (), .inl (), .inl (), .inl (), .inl (), .inl (), .inl (), .inl (), .inl ()],
  [.inl (), .inl (), .inl (), .inl (), .inl (), .inl (), .inl (), .inl (), .inl (), .inl (), .inl (), .inl (), .inl (), .inl (), .inl (), .inl ()],
  [.inl (), .inl (), .inl (), .inl (), .inl (), .inl (), .inl (), .inl (), .inl (), .inl (), .inl (), .inl (), .inl (), .inl (), .inl (), .inl ()],
  [.inl (), .inl ()]]), some (fc 0), (114, [[.inl (), .inl (), .inl (), .inl (), .inl (), .inl (), .inl (), .inl (), .inl (), .inl (), .inl (), .inl (), .inl (), .inl (), .inl (), .inl ()],
  [.inl (), .inl (), .inl (), .inr (.inl (3, [fr 20, fr 21, fr 22, fr 23, fr 24, fr 25, fr 26, fr 27, fr 30, fc 4, fc 4, fc 0, fc 0, fc 0, fc 1, fc 0, fc 0, fc 0])), .inl (), .inl (), .inl (), .inl (), .inl (), .inl (), .inl (), .inl (), .inl (), .inl (), .inl (), .inl ()],
  [.inl (), .inl (), .inl (), .inl (), .inr (.inl (8, [fr 37, fr 40, fr 41, fr 42, fr 43, fr 44, fr 45, fr 46, fr 47, fr 48, fr 19])), .inr (.inl (6, [fr 38, fr 39, fv 0, fv 0, fv 0])), .inr (.inr (0, 7, [])), .inl (), .inl (), .inl (), .inl (), .inr (.inr (0, 7, [])), .inl (), .inl (), .inl (), .inl ()],
  [.inl (), .inl (), .inl (), .inl (), .inl (), .inl (), .inl (), .inl (), .inl (), .inl (), .inl (), .inl (), .inl (), .inl (), .inl (), .inl ()],
  [.inl (), .inl (), .inl (), .inl (), .inl (), .inl (), .inl (), .inl (), .inl (), .inl (), .inl (), .inl (), .inl (), .inl (), .inl (), .inl ()],
  [.inl (), .inl (), .inl (), .inl (), .inl (), .inl (), .inl (), .inl (), .inl (), .inl (), .inl (), .inl (), .inl (), .inl (), .inl (), .inl ()],
  [.inl (), .inl (), .inl (), .inl (), .inl (), .inl (), .inl (), .inl (), .inl (), .inl (), .inl (), .inl (), .inl (), .inl (), .inl (), .inl ()],
  [.inl (), .inl ()]]))
set_option maxRecDepth 100000 in
theorem fx_qb1 : fx_go (fx_ev fx_s0z (fun _ _ _ => false)) 10000 10 fm_85.1 fm_85.1 (fx_args fx_q1.2.1 0) [] 0 0 fm_85.2.2.1 fm_85.2.2.2.1 fx_q1.2.2.1 [] (fun v h _ => fx_ovq v fx_q1.2.2.2.1 && fx_hq h fx_q1.2.2.2.2) = true := by decide +kernel
theorem fx_qr1 : fx_smr fx_q1 := ⟨fm_85, 10000, rfl, Nat.le_of_ble_eq_true rfl, fx_qb1⟩
def fx_q2 : fx_sm := (72, [fr 37], (114, [[.inl (), .inl (), .inl (), .inl (), .inl (), .inl (), .inl (), .inl (), .inl (), .inl (), .inl (), .inl (), .inl (), .inl (), .inl (), .inl ()],
  [.inl (), .inl (), .inl (), .inl (), .inl (), .inl (), .inl (), .inl (), .inl (), .inl (), .inl (), .inl (), .inl (), .inl (), .inl (), .inl ()],
  [.inl (), .inl (), .inl (), .inl (), .inl (), .inr (.inl (6, [fr 38, fr 39, fv 0, fv 0, fv 0])), .inr (.inr (0, 7, [])), .inl (), .inl (), .inl (), .inl (), .inl (), .inl (), .inl (), .inl (), .inl ()],
  [.inl (), .inl (), .inl (), .inl (), .inl (), .inl (), .inl (), .inl (), .inl (), .inl (), .inl (), .inl (), .inl (), .inl (), .inl (), .inl ()],
  [.inl (), .inl (), .inl (), .inl (), .inl (), .inl (), .inl (), .inl (), .inl (), .inl (), .inl (), .inl (), .inl (), .inl (), .inl (), .inl ()],
  [.inl (), .inl (), .inl (), .inl (), .inl (), .inl (), .inl (), .inl (), .inl (), .inl (), .inl (), .inl (), .inl (), .inl (), .inl (), .inl ()],
  [.inl (), .inl (), .inl (), .inl (), .inl (), .inl (), .inl (), .inl (), .inl (), .inl (), .inl (), .inl (), .inl (), .inl (), .inl (), .inl ()],
  [.inl (), .inl ()]]), some (fc 0), (114, [[.inl (), .inl (), .inl (), .inl (), .inl (), .inl (), .inl (), .inl (), .inl (), .inl (), .inl (), .inl (), .inl (), .inl (), .inl (), .inl ()],
  [.inl (), .inl (), .inl (), .inl (), .inl (), .inl (), .inl (), .inl (), .inl (), .inl (), .inl (), .inl (), .inl (), .inl (), .inl (), .inl ()],
  [.inl (), .inl (), .inl (), .inl (), .inl (), .inr (.inl (6, [fr 38, fr 39, fv 0, fv 0, fv 0])), .inr (.inr (0, 7, [])), .inl (), .inl (), .inl (), .inl (), .inl (), .inl (), .inl (), .inl (), .inl ()],
  [.inl (), .inl (), .inl (), .inl (), .inl (), .inl (), .inl (), .inl (), .inl (), .inl (), .inl (), .inl (), .inl (), .inl (), .inl (), .inl ()],
  [.inl (), .inl (), .inl (), .inl (), .inl (), .inl (), .inl (), .inl (), .inl (), .inl (), .inl (), .inl (), .inl (), .inl (), .inl (), .inl ()],
  [.inl (), .inl (), .inl (), .inl (), .inl (), .inl (), .inl (), .inl (), .inl (), .inl (), .inl (), .inl (), .inl (), .inl (), .inl (), .inl ()],
  [.inl (), .inl (), .inl (), .inl (), .inl (), .inl (), .inl (), .inl (), .inl (), .inl (), .inl (), .inl (), .inl (), .inl (), .inl (), .inl ()],
  [.inl (), .inl ()]]))
set_option maxRecDepth 100000 in
theorem fx_qb2 : fx_go (fx_ev fx_s0z (fun _ _ _ => false)) 10000 10 fm_72.1 fm_72.1 (fx_args fx_q2.2.1 0) [] 0 0 fm_72.2.2.1 fm_72.2.2.2.1 fx_q2.2.2.1 [] (fun v h _ => fx_ovq v fx_q2.2.2.2.1 && fx_hq h fx_q2.2.2.2.2) = true := by decide +kernel
theorem fx_qr2 : fx_smr fx_q2 := ⟨fm_72, 10000, rfl, Nat.le_of_ble_eq_true rfl, fx_qb2⟩
def fx_q3 : fx_sm := (90, [fr 67], (114, [[.inl (), .inl (), .inl (), .inl (), .inl (), .inl (), .inl (), .inl (), .inl (), .inl (), .inl (), .inl (), .inl (), .inl (), .inl (), .inl ()],
  [.inl (), .inl (), .inl (), .inl (), .inl (), .inl (), .inl (), .inl (), .inl (), .inl (), .inl (), .inl (), .inl (), .inl (), .inl (), .inl ()],
  [.inl (), .inl (), .inl (), .inl (), .inl (), .inl (), .inl (), .inl (), .inl (), .inl (), .inl (), .inl (), .inl (), .inl (), .inl (), .inl ()],
  [.inl (), .inl (), .inl (), .inl (), .inl (), .inl (), .inl (), .inl (), .inl (), .inl (), .inl (), .inl (), .inl (), .inl (), .inl (), .inl ()],
  [.inl (), .inl (), .inl (), .inr (.inl (10, [fr 68, fr 69, fc 0, fc 0, fc 0, fc 4294967295, fc 0, fc 0, fc 0, fc 0, fl 0, fr 70, fr 71, fr 72, fr 73, fr 74, fr 75, fr 76, fr 77, fr 78, fr 79, fr 80, fr 81, fr 82, fr 83, fr 84, fr 85, fr 86, fr 87, fr 88, fr 89, fr 90, fr 91, fr 92, fr 93, fr 94, fr 95, fc 0, fc 0, fc 0, fc 0, fc 0, fc 0, fc 0, fc 0, fc 0, fc 0, fc 0, fc 0, fc 0, fr 96, fr 97, fr 98, fc 0, fc 0, fr 99, fr 100, fc 0, fr 101, fr 102, fr 103, fr 104, fr 105, fr 106, fr 107, fr 108, fr 109, fr 110, fr 111, fc 0, fc 0, fr 112, fr 113])), .inl (), .inl (), .inl (), .inl (), .inl (), .inl (), .inr (.inr (0, 2, [])), .inl (), .inl (), .inl (), .inl (), .inl ()],
  [.inl (), .inl (), .inl (), .inl (), .inl (), .inl (), .inl (), .inl (), .inl (), .inl (), .inl (), .inl (), .inl (), .inl (), .inl (), .inl ()],
  [.inr (.inr (0, 17, [(15, fv 0), (13, fc 4294967295), (12, fc 4294967295), (11, fc 4294967295), (10, fc 4294967295), (9, fc 4294967295), (8, fc 4294967295), (7, fc 4294967295)])), .inl (), .inl (), .inl (), .inl (), .inl (), .inl (), .inl (), .inl (), .inl (), .inl (), .inl (), .inl (), .inl (), .inl (), .inl ()],
  [.inl (), .inl ()]]), some (fc 0), (114, [[.inl (), .inl (), .inl (), .inl (), .inl (), .inl (), .inl (), .inl (), .inl (), .inl (), .inl (), .inl (), .inl (), .inl (), .inl (), .inl ()],
  [.inl (), .inl (), .inl (), .inl (), .inl (), .inl (), .inl (), .inl (), .inl (), .inl (), .inl (), .inl (), .inl (), .inl (), .inl (), .inl ()],
  [.inl (), .inl (), .inl (), .inl (), .inl (), .inl (), .inl (), .inl (), .inl (), .inl (), .inl (), .inl (), .inl (), .inl (), .inl (), .inl ()],
  [.inl (), .inl (), .inl (), .inl (), .inl (), .inl (), .inl (), .inl (), .inl (), .inl (), .inl (), .inl (), .inl (), .inl (), .inl (), .inl ()],
  [.inl (), .inl (), .inl (), .inr (.inl (10, [fr 68, fr 69, fc 0, fc 0, fc 0, fc 4294967295, fc 0, fc 0, fc 0, fc 0, fl 0, fr 70, fr 71, fr 72, fr 73, fr 74, fr 75, fr 76, fr 77, fr 78, fr 79, fr 80, fr 81, fr 82, fr 83, fr 84, fr 85, fr 86, fr 87, fr 88, fr 89, fr 90, fr 91, fr 92, fr 93, fr 94, fr 95, fc 0, fc 0, fc 0, fc 0, fc 0, fc 0, fc 0, fc 0, fc 0, fc 0, fc 0, fc 0, fc 0, fr 96, fr 97, fr 98, fc 0, fc 0, fr 99, fr 100, fc 0, fr 101, fr 102, fr 103, fr 104, fr 105, fr 106, fr 107, fr 108, fr 109, fr 110, fr 111, fc 0, fc 0, fr 112, fr 113])), .inl (), .inl (), .inl (), .inl (), .inl (), .inl (), .inr (.inr (0, 2, [])), .inl (), .inl (), .inl (), .inl (), .inl ()],
  [.inl (), .inl (), .inl (), .inl (), .inl (), .inl (), .inl (), .inl (), .inl (), .inl (), .inl (), .inl (), .inl (), .inl (), .inl (), .inl ()],
  [.inr (.inr (0, 17, [(15, fv 0), (13, fc 4294967295), (12, fc 4294967295), (11, fc 4294967295), (10, fc 4294967295), (9, fc 4294967295), (8, fc 4294967295), (7, fc 4294967295)])), .inl (), .inl (), .inl (), .inl (), .inl (), .inl (), .inl (), .inl (), .inl (), .inl (), .inl (), .inl (), .inl (), .inl (), .inl ()],
  [.inl (), .inl ()]]))
set_option maxRecDepth 100000 in
theorem fx_qb3 : fx_go (fx_ev fx_s0z (fun _ _ _ => false)) 10000 10 fm_90.1 fm_90.1 (fx_args fx_q3.2.1 0) [] 0 0 fm_90.2.2.1 fm_90.2.2.2.1 fx_q3.2.2.1 [] (fun v h _ => fx_ovq v fx_q3.2.2.2.1 && fx_hq h fx_q3.2.2.2.2) = true := by decide +kernel
theorem fx_qr3 : fx_smr fx_q3 := ⟨fm_90, 10000, rfl, Nat.le_of_ble_eq_true rfl, fx_qb3⟩
def fx_q4 : fx_sm := (90, [fr 67], (114, [[.inl (), .inl (), .inl (), .inl (), .inl (), .inl (), .inl (), .inl (), .inl (), .inl (), .inl (), .inl (), .inl (), .inl (), .inl (), .inl ()],
  [.inl (), .inl (), .inl (), .inl (), .inl (), .inl (), .inl (), .inl (), .inl (), .inl (), .inl (), .inl (), .inl (), .inl (), .inl (), .inl ()],
  [.inl (), .inl (), .inl (), .inl (), .inl (), .inl (), .inl (), .inl (), .inl (), .inl (), .inl (), .inl (), .inl (), .inl (), .inl (), .inl ()],
  [.inl (), .inl (), .inl (), .inl (), .inl (), .inl (), .inl (), .inl (), .inl (), .inl (), .inl (), .inl (), .inl (), .inl (), .inl (), .inl ()],
  [.inl (), .inl (), .inl (), .inr (.inl (10, [fr 68, fr 69, fc 0, fc 0, fc 0, fc 4294967295, fc 0, fc 0, fc 0, fc 0, fl 0, fr 70, fr 71, fr 72, fr 73, fr 74, fr 75, fr 76, fr 77, fr 78, fr 79, fr 80, fr 81, fr 82, fr 83, fr 84, fr 85, fr 86, fr 87, fr 88, fr 89, fr 90, fr 91, fr 92, fr 93, fr 94, fr 95, fc 0, fc 0, fc 0, fc 0, fc 0, fc 0, fc 0, fc 0, fc 0, fc 0, fc 0, fc 0, fc 0, fr 96, fr 97, fr 98, fc 0, fc 0, fr 99, fr 100, fc 0, fr 101, fr 102, fr 103, fr 104, fr 105, fr 106, fr 107, fr 108, fr 109, fr 110, fr 111, fc 0, fc 0, fr 112, fr 113])), .inl (), .inl (), .inl (), .inl (), .inl (), .inl (), .inr (.inr (0, 2, [])), .inl (), .inl (), .inl (), .inl (), .inl ()],
  [.inl (), .inl (), .inl (), .inl (), .inl (), .inl (), .inl (), .inl (), .inl (), .inl (), .inl (), .inl (), .inl (), .inl (), .inl (), .inl ()],
  [.inr (.inr (0, 17, [(15, fv 0), (14, fv 0), (13, fc 4294967295), (12, fc 4294967295), (11, fc 4294967295), (10, fc 4294967295), (9, fc 4294967295), (8, fc 4294967295), (7, fc 4294967295)])), .inl (), .inl (), .inl (), .inl (), .inl (), .inl (), .inl (), .inl (), .inl (), .inl (), .inl (), .inl (), .inl (), .inl (), .inl ()],
  [.inl (), .inl ()]]), some (fc 0), (114, [[.inl (), .inl (), .inl (), .inl (), .inl (), .inl (), .inl (), .inl (), .inl (), .inl (), .inl (), .inl (), .inl (), .inl (), .inl (), .inl ()],
  [.inl (), .inl (), .inl (), .inl (), .inl (), .inl (), .inl (), .inl (), .inl (), .inl (), .inl (), .inl (), .inl (), .inl (), .inl (), .inl ()],
  [.inl (), .inl (), .inl (), .inl (), .inl (), .inl (), .inl (), .inl (), .inl (), .inl (), .inl (), .inl (), .inl (), .inl (), .inl (), .inl ()],
  [.inl (), .inl (), .inl (), .inl (), .inl (), .inl (), .inl (), .inl (), .inl (), .inl (), .inl (), .inl (), .inl (), .inl (), .inl (), .inl ()],
  [.inl (), .inl (), .inl (), .inr (.inl (10, [fr 68, fr 69, fc 0, fc 0, fc 0, fc 4294967295, fc 0, fc 0, fc 0, fc 0, fl 0, fr 70, fr 71, fr 72, fr 73, fr 74, fr 75, fr 76, fr 77, fr 78, fr 79, fr 80, fr 81, fr 82, fr 83, fr 84, fr 85, fr 86, fr 87, fr 88, fr 89, fr 90, fr 91, fr 92, fr 93, fr 94, fr 95, fc 0, fc 0, fc 0, fc 0, fc 0, fc 0, fc 0, fc 0, fc 0, fc 0, fc 0, fc 0, fc 0, fr 96, fr 97, fr 98, fc 0, fc 0, fr 99, fr 100, fc 0, fr 101, fr 102, fr 103, fr 104, fr 105, fr 106, fr 107, fr 108, fr 109, fr 110, fr 111, fc 0, fc 0, fr 112, fr 113])), .inl (), .inl (), .inl (), .inl (), .inl (), .inl (), .inr (.inr (0, 2, [])), .inl (), .inl (), .inl (), .inl (), .inl ()],
  [.inl (), .inl (), .inl (), .inl (), .inl (), .inl (), .inl (), .inl (), .inl (), .inl (), .inl (), .inl (), .inl (), .inl (), .inl (), .inl ()],
  [.inr (.inr (0, 17, [(15, fv 0), (14, fv 0), (13, fc 4294967295), (12, fc 4294967295), (11, fc 4294967295), (10, fc 4294967295), (9, fc 4294967295), (8, fc 4294967295), (7, fc 4294967295)])), .inl (), .inl (), .inl (), .inl (), .inl (), .inl (), .inl (), .inl (), .inl (), .inl (), .inl (), .inl (), .inl (), .inl (), .inl ()],
  [.inl (), .inl ()]]))
set_option maxRecDepth 100000 in
theorem fx_qb4 : fx_go (fx_ev fx_s0z (fun _ _ _ => false)) 10000 10 fm_90.1 fm_90.1 (fx_args fx_q4.2.1 0) [] 0 0 fm_90.2.2.1 fm_90.2.2.2.1 fx_q4.2.2.1 [] (fun v h _ => fx_ovq v fx_q4.2.2.2.1 && fx_hq h fx_q4.2.2.2.2) = true := by decide +kernel
theorem fx_qr4 : fx_smr fx_q4 := ⟨fm_90, 10000, rfl, Nat.le_of_ble_eq_true rfl, fx_qb4⟩
def fx_q5 : fx_sm := (128, [fr 67], (114, [[.inl (), .inl (), .inl (), .inl (), .inl (), .inl (), .inl (), .inl (), .inl (), .inl (), .inl (), .inl (), .inl (), .inl (), .inl (), .inl ()],
  [.inl (), .inl (), .inl (), .inl (), .inl (), .inl (), .inl (), .inl (), .inl (), .inl (), .inl (), .inl (), .inl (), .inl (), .inl (), .inl ()],
  [.inl (), .inl (), .inl (), .inl (), .inl (), .inl (), .inl (), .inl (), .inl (), .inl (), .inl (), .inl (), .inl (), .inl (), .inl (), .inl ()],
  [.inl (), .inl (), .inl (), .inl (), .inl (), .inl (), .inl (), .inl (), .inl (), .inl (), .inl (), .inl (), .inl (), .inl (), .inl (), .inl ()],
  [.inl (), .inl (), .inl (), .inr (.inl (10, [fr 68, fr 69, fc 0, fc 0, fc 0, fc 4294967295, fc 0, fc 0, fc 0, fc 0, fl 0, fr 70, fr 71, fr 72, fr 73, fr 74, fr 75, fr 76, fr 77, fr 78, fr 79, fr 80, fr 81, fr 82, fr 83, fr 84, fr 85, fr 86, fr 87, fr 88, fr 89, fr 90, fr 91, fr 92, fr 93, fr 94, fr 95, fc 0, fc 0, fc 0, fc 0, fc 0, fc 0, fc 0, fc 0, fc 0, fc 0, fc 0, fc 0, fc 0, fr 96, fr 97, fr 98, fc 0, fc 0, fr 99, fr 100, fc 0, fr 101, fr 102, fr 103, fr 104, fr 105, fr 106, fr 107, fr 108, fr 109, fr 110, fr 111, fc 0, fc 0, fr 112, fr 113])), .inl (), .inl (), .inl (), .inl (), .inl (), .inl (), .inl (), .inl (), .inl (), .inl (), .inl (), .inl ()],
  [.inl (), .inl (), .inl (), .inl (), .inl (), .inl (), .inl (), .inl (), .inl (), .inl (), .inl (), .inl (), .inl (), .inl (), .inl (), .inl ()],
  [.inr (.inr (0, 17, [(13, fc 4294967295), (12, fc 4294967295), (11, fc 4294967295), (10, fc 4294967295), (9, fc 4294967295), (8, fc 4294967295), (7, fc 4294967295)])), .inl (), .inl (), .inl (), .inl (), .inr (.inr (0, 17, [(13, fc 4294967295), (12, fc 4294967295), (11, fc 4294967295), (10, fc 4294967295), (9, fc 4294967295), (8, fc 4294967295), (7, fc 4294967295)])), .inl (), .inl (), .inl (), .inl (), .inl (), .inl (), .inl (), .inl (), .inl (), .inl ()],
  [.inl (), .inl ()]]), none, (114, [[.inl (), .inl (), .inl (), .inl (), .inl (), .inl (), .inl (), .inl (), .inl (), .inl (), .inl (), .inl (), .inl (), .inl (), .inl (), .inl ()],
  [.inl (), .inl (), .inl (), .inl (), .inl (), .inl (), .inl (), .inl (), .inl (), .inl (), .inl (), .inl (), .inl (), .inl (), .inl (), .inl ()],
  [.inl (), .inl (), .inl (), .inl (), .inl (), .inl (), .inl (), .inl (), .inl (), .inl (), .inl (), .inl (), .inl (), .inl (), .inl (), .inl ()],
  [.inl (), .inl (), .inl (), .inl (), .inl (), .inl (), .inl (), .inl (), .inl (), .inl (), .inl (), .inl (), .inl (), .inl (), .inl (), .inl ()],
  [.inl (), .inl (), .inl (), .inr (.inl (10, [fr 68, fr 69, fc 0, fc 0, fc 0, fc 4294967295, fc 0, fc 0, fc 0, fc 0, fl 0, fr 70, fr 71, fr 72, fr 73, fr 74, fr 75, fr 76, fr 77, fr 78, fr 79, fr 80, fr 81, fr 82, fr 83, fr 84, fr 85, fr 86, fr 87, fr 88, fr 89, fr 90, fr 91, fr 92, fr 93, fr 94, fr 95, fc 0, fc 0, fc 0, fc 0, fc 0, fc 0, fc 0, fc 0, fc 0, fc 0, fc 0, fc 0, fc 0, fr 96, fr 97, fr 98, fc 0, fc 0, fr 99, fr 100, fc 0, fr 101, fr 102, fr 103, fr 104, fr 105, fr 106, fr 107, fr 108, fr 109, fr 110, fr 111, fc 0, fc 0, fr 112, fr 113])), .inl (), .inl (), .inl (), .inl (), .inl (), .inl (), .inl (), .inl (), .inl (), .inl (), .inl (), .inl ()],
  [.inl (), .inl (), .inl (), .inl (), .inl (), .inl (), .inl (), .inl (), .inl (), .inl (), .inl (), .inl (), .inl (), .inl (), .inl (), .inl ()],
  [.inr (.inr (0, 17, [(13, fc 4294967295), (12, fc 4294967295), (11, fc 4294967295), (10, fc 4294967295), (9, fc 4294967295), (8, fc 4294967295), (7, fc 4294967295)])), .inl (), .inl (), .inl (), .inl (), .inr (.inr (0, 17, [(13, fc 4294967295), (12, fc 4294967295), (11, fc 4294967295), (10, fc 4294967295), (9, fc 4294967295), (8, fc 4294967295), (7, fc 4294967295)])), .inl (), .inl (), .inl (), .inl (), .inl (), .inl (), .inl (), .inl (), .inl (), .inl ()],
  [.inl (), .inl ()]]))
set_option maxRecDepth 100000 in
theorem fx_qb5 : fx_go (fx_ev fx_s0z (fun _ _ _ => false)) 10000 10 fm_128.1 fm_128.1 (fx_args fx_q5.2.1 0) [] 0 0 fm_128.2.2.1 fm_128.2.2.2.1 fx_q5.2.2.1 [] (fun v h _ => fx_ovq v fx_q5.2.2.2.1 && fx_hq h fx_q5.2.2.2.2) = true := by decide +kernel
theorem fx_qr5 : fx_smr fx_q5 := ⟨fm_128, 10000, rfl, Nat.le_of_ble_eq_true rfl, fx_qb5⟩
def fx_q6 : fx_sm := (129, [fr 67], (114, [[.inl (), .inl (), .inl (), .inl (), .inl (), .inl (), .inl (), .inl (), .inl (), .inl (), .inl (), .inl (), .inl (), .inl (), .inl (), .inl ()],
  [.inl (), .inl (), .inl (), .inl (), .inl (), .inl (), .inl (), .inl (), .inl (), .inl (), .inl (), .inl (), .inl (), .inl (), .inl (), .inl ()],
  [.inl (), .inl (), .inl (), .inl (), .inl (), .inl (), .inl (), .inl (), .inl (), .inl (), .inl (), .inl (), .inl (), .inl (), .inl (), .inl ()],
  [.inl (), .inl (), .inl (), .inl (), .inl (), .inl (), .inl (), .inl (), .inl (), .inl (), .inl (), .inl (), .inl (), .inl (), .inl (), .inl ()],
  [.inl (), .inl (), .inl (), .inr (.inl (10, [fr 68, fr 69, fc 0, fc 0, fc 0, fc 4294967295, fc 0, fc 0, fc 0, fc 0, fl 0, fr 70, fr 71, fr 72, fr 73, fr 74, fr 75, fr 76, fr 77, fr 78, fr 79, fr 80, fr 81, fr 82, fr 83, fr 84, fr 85, fr 86, fr 87, fr 88, fr 89, fr 90, fr 91, fr 92, fr 93, fr 94, fr 95, fc 0, fc 0, fc 0, fc 0, fc 0, fc 0, fc 0, fc 0, fc 0, fc 0, fc 0, fc 0, fc 0, fr 96, fr 97, fr 98, fc 0, fc 0, fr 99, fr 100, fc 0, fr 101, fr 102, fr 103, fr 104, fr 105, fr 106, fr 107, fr 108, fr 109, fr 110, fr 111, fc 0, fc 0, fr 112, fr 113])), .inl (), .inl (), .inl (), .inl (), .inl (), .inl (), .inl (), .inl (), .inl (), .inl (), .inl (), .inl ()],
  [.inl (), .inl (), .inl (), .inl (), .inl (), .inl (), .inl (), .inl (), .inl (), .inl (), .inl (), .inl (), .inl (), .inl (), .inl (), .inl ()],
  [.inr (.inr (0, 17, [(15, fv 0), (13, fc 4294967295), (12, fc 4294967295), (11, fc 4294967295), (10, fc 4294967295), (9, fc 4294967295), (8, fc 4294967295), (7, fc 4294967295)])), .inl (), .inl (), .inl (), .inl (), .inr (.inr (0, 17, [(13, fc 4294967295), (12, fc 4294967295), (11, fc 4294967295), (10, fc 4294967295), (9, fc 4294967295), (8, fc 4294967295), (7, fc 4294967295)])), .inl (), .inl (), .inl (), .inl (), .inl (), .inl (), .inl (), .inl (), .inl (), .inl ()],
  [.inl (), .inl ()]]), none, (114, [[.inl (), .inl (), .inl (), .inl (), .inl (), .inl (), .inl (), .inl (), .inl (), .inl (), .inl (), .inl (), .inl (), .inl (), .inl (), .inl ()],
  [.inl (), .inl (), .inl (), .inl (), .inl (), .inl (), .inl (), .inl (), .inl (), .inl (), .inl (), .inl (), .inl (), .inl (), .inl (), .inl ()],
  [.inl (), .inl (), .inl (), .inl (), .inl (), .inl (), .inl (), .inl (), .inl (), .inl (), .inl (), .inl (), .inl (), .inl (), .inl (), .inl ()],
  [.inl (), .inl (), .inl (), .inl (), .inl (), .inl (), .inl (), .inl (), .inl (), .inl (), .inl (), .inl (), .inl (), .inl (), .inl (), .inl ()],
  [.inl (), .inl (), .inl (), .inr (.inl (10, [fr 68, fr 69, fc 0, fc 0, fc 0, fc 4294967295, fc 0, fc 0, fc 0, fc 0, fl 0, fr 70, fr 71, fr 72, fr 73, fr 74, fr 75, fr 76, fr 77, fr 78, fr 79, fr 80, fr 81, fr 82, fr 83, fr 84, fr 85, fr 86, fr 87, fr 88, fr 89, fr 90, fr 91, fr 92, fr 93, fr 94, fr 95, fc 0, fc 0, fc 0, fc 0, fc 0, fc 0, fc 0, fc 0, fc 0, fc 0, fc 0, fc 0, fc 0, fr 96, fr 97, fr 98, fc 0, fc 0, fr 99, fr 100, fc 0, fr 101, fr 102, fr 103, fr 104, fr 105, fr 106, fr 107, fr 108, fr 109, fr 110, fr 111, fc 0, fc 0, fr 112, fr 113])), .inl (), .inl (), .inl (), .inl (), .inl (), .inl (), .inl (), .inl (), .inl (), .inl (), .inl (), .inl ()],
  [.inl (), .inl (), .inl (), .inl (), .inl (), .inl (), .inl (), .inl (), .inl (), .inl (), .inl (), .inl (), .inl (), .inl (), .inl (), .inl ()],
  [.inr (.inr (0, 17, [(13, fc 4294967295), (12, fc 4294967295), (11, fc 4294967295), (10, fc 4294967295), (9, fc 4294967295), (8, fc 4294967295), (7, fc 4294967295)])), .inl (), .inl (), .inl (), .inl (), .inr (.inr (0, 17, [(13, fc 4294967295), (12, fc 4294967295), (11, fc 4294967295), (10, fc 4294967295), (9, fc 4294967295), (8, fc 4294967295), (7, fc 4294967295)])), .inl (), .inl (), .inl (), .inl (), .inl (), .inl (), .inl (), .inl (), .inl (), .inl ()],
  [.inl (), .inl ()]]))
set_option maxRecDepth 100000 in
theorem fx_qb6 : fx_go (fx_ev fx_s0z (fun _ _ _ => false)) 10000 10 fm_129.1 fm_129.1 (fx_args fx_q6.2.1 0) [] 0 0 fm_129.2.2.1 fm_129.2.2.2.1 fx_q6.2.2.1 [] (fun v h _ => fx_ovq v fx_q6.2.2.2.1 && fx_hq h fx_q6.2.2.2.2) = true := by decide +kernel
theorem fx_qr6 : fx_smr fx_q6 := ⟨fm_129, 10000, rfl, Nat.le_of_ble_eq_true rfl, fx_qb6⟩
def fx_q7 : fx_sm := (129, [fr 67], (114, [[.inl (), .inl (), .inl (), .inl (), .inl (), .inl (), .inl (), .inl (), .inl (), .inl (), .inl (), .inl (), .inl (), .inl (), .inl (), .inl ()],
  [.inl (), .inl (), .inl (), .inl (), .inl (), .inl (), .inl (), .inl (), .inl (), .inl (), .inl (), .inl (), .inl (), .inl (), .inl (), .inl ()],
  [.inl (), .inl (), .inl (), .inl (), .inl (), .inl (), .inl (), .inl (), .inl (), .inl (), .inl (), .inl (), .inl (), .inl (), .inl (), .inl ()],
  [.inl (), .inl (), .inl (), .inl (), .inl (), .inl (), .inl (), .inl (), .inl (), .inl (), .inl (), .inl (), .inl (), .inl (), .inl (), .inl ()],
  [.inl (), .inl (), .inl (), .inr (.inl (10, [fr 68, fr 69, fc 0, fc 0, fc 0, fc 4294967295, fc 0, fc 0, fc 0, fc 0, fl 0, fr 70, fr 71, fr 72, fr 73, fr 74, fr 75, fr 76, fr 77, fr 78, fr 79, fr 80, fr 81, fr 82, fr 83, fr 84, fr 85, fr 86, fr 87, fr 88, fr 89, fr 90, fr 91, fr 92, fr 93, fr 94, fr 95, fc 0, fc 0, fc 0, fc 0, fc 0, fc 0, fc 0, fc 0, fc 0, fc 0, fc 0, fc 0, fc 0, fr 96, fr 97, fr 98, fc 0, fc 0, fr 99, fr 100, fc 0, fr 101, fr 102, fr 103, fr 104, fr 105, fr 106, fr 107, fr 108, fr 109, fr 110, fr 111, fc 0, fc 0, fr 112, fr 113])), .inl (), .inl (), .inl (), .inl (), .inl (), .inl (), .inl (), .inl (), .inl (), .inl (), .inl (), .inl ()],
  [.inl (), .inl (), .inl (), .inl (), .inl (), .inl (), .inl (), .inl (), .inl (), .inl (), .inl (), .inl (), .inl (), .inl (), .inl (), .inl ()],
  [.inr (.inr (0, 17, [(15, fv 0), (14, fv 0), (13, fc 4294967295), (12, fc 4294967295), (11, fc 4294967295), (10, fc 4294967295), (9, fc 4294967295), (8, fc 4294967295), (7, fc 4294967295)])), .inl (), .inl (), .inl (), .inl (), .inr (.inr (0, 17, [(13, fc 4294967295), (12, fc 4294967295), (11, fc 4294967295), (10, fc 4294967295), (9, fc 4294967295), (8, fc 4294967295), (7, fc 4294967295)])), .inl (), .inl (), .inl (), .inl (), .inl (), .inl (), .inl (), .inl (), .inl (), .inl ()],
  [.inl (), .inl ()]]), none, (114, [[.inl (), .inl (), .inl (), .inl (), .inl (), .inl (), .inl (), .inl (), .inl (), .inl (), .inl (), .inl (), .inl (), .inl (), .inl (), .inl ()],
  [.inl (), .inl (), .inl (), .inl (), .inl (), .inl (), .inl (), .inl (), .inl (), .inl (), .inl (), .inl (), .inl (), .inl (), .inl (), .inl ()],
  [.inl (), .inl (), .inl (), .inl (), .inl (), .inl (), .inl (), .inl (), .inl (), .inl (), .inl (), .inl (), .inl (), .inl (), .inl (), .inl ()],
  [.inl (), .inl (), .inl (), .inl (), .inl (), .inl (), .inl (), .inl (), .inl (), .inl (), .inl (), .inl (), .inl (), .inl (), .inl (), .inl ()],
  [.inl (), .inl (), .inl (), .inr (.inl (10, [fr 68, fr 69, fc 0, fc 0, fc 0, fc 4294967295, fc 0, fc 0, fc 0, fc 0, fl 0, fr 70, fr 71, fr 72, fr 73, fr 74, fr 75, fr 76, fr 77, fr 78, fr 79, fr 80, fr 81, fr 82, fr 83, fr 84, fr 85, fr 86, fr 87, fr 88, fr 89, fr 90, fr 91, fr 92, fr 93, fr 94, fr 95, fc 0, fc 0, fc 0, fc 0, fc 0, fc 0, fc 0, fc 0, fc 0, fc 0, fc 0, fc 0, fc 0, fr 96, fr 97, fr 98, fc 0, fc 0, fr 99, fr 100, fc 0, fr 101, fr 102, fr 103, fr 104, fr 105, fr 106, fr 107, fr 108, fr 109, fr 110, fr 111, fc 0, fc 0, fr 112, fr 113])), .inl (), .inl (), .inl (), .inl (), .inl (), .inl (), .inl (), .inl (), .inl (), .inl (), .inl (), .inl ()],
  [.inl (), .inl (), .inl (), .inl (), .inl (), .inl (), .inl (), .inl (), .inl (), .inl (), .inl (), .inl (), .inl (), .inl (), .inl (), .inl ()],
  [.inr (.inr (0, 17, [(13, fc 4294967295), (12, fc 4294967295), (11, fc 4294967295), (10, fc 4294967295), (9, fc 4294967295), (8, fc 4294967295), (7, fc 4294967295)])), .inl (), .inl (), .inl (), .inl (), .inr (.inr (0, 17, [(13, fc 4294967295), (12, fc 4294967295), (11, fc 4294967295), (10, fc 4294967295), (9, fc 4294967295), (8, fc 4294967295), (7, fc 4294967295)])), .inl (), .inl (), .inl (), .inl (), .inl (), .inl (), .inl (), .inl (), .inl (), .inl ()],
  [.inl (), .inl ()]]))
set_option maxRecDepth 100000 in
theorem fx_qb7 : fx_go (fx_ev fx_s0z (fun _ _ _ => false)) 10000 10 fm_129.1 fm_129.1 (fx_args fx_q7.2.1 0) [] 0 0 fm_129.2.2.1 fm_129.2.2.2.1 fx_q7.2.2.1 [] (fun v h _ => fx_ovq v fx_q7.2.2.2.1 && fx_hq h fx_q7.2.2.2.2) = true := by decide +kernel
theorem fx_qr7 : fx_smr fx_q7 := ⟨fm_129, 10000, rfl, Nat.le_of_ble_eq_true rfl, fx_qb7⟩
def fx_q8 : fx_sm := (129, [fr 67], (114, [[.inl (), .inl (), .inl (), .inl (), .inl (), .inl (), .inl (), .inl (), .inl (), .inl (), .inl (), .inl (), .inl (), .inl (), .inl (), .inl ()],
  [.inl (), .inl (), .inl (), .inl (), .inl (), .inl (), .inl (), .inl (), .inl (), .inl (), .inl (), .inl (), .inl (), .inl (), .inl (), .inl ()],
  [.inl (), .inl (), .inl (), .inl (), .inl (), .inl (), .inl (), .inl (), .inl (), .inl (), .inl (), .inl (), .inl (), .inl (), .inl (), .inl ()],
  [.inl (), .inl (), .inl (), .inl (), .inl (), .inl (), .inl (), .inl (), .inl (), .inl (), .inl (), .inl (), .inl (), .inl (), .inl (), .inl ()],
  [.inl (), .inl (), .inl (), .inr (.inl (10, [fr 68, fr 69, fc 0, fc 0, fc 0, fc 4294967295, fc 0, fc 0, fc 0, fc 0, fl 0, fr 70, fr 71, fr 72, fr 73, fr 74, fr 75, fr 76, fr 77, fr 78, fr 79, fr 80, fr 81, fr 82, fr 83, fr 84, fr 85, fr 86, fr 87, fr 88, fr 89, fr 90, fr 91, fr 92, fr 93, fr 94, fr 95, fc 0, fc 0, fc 0, fc 0, fc 0, fc 0, fc 0, fc 0, fc 0, fc 0, fc 0, fc 0, fc 0, fr 96, fr 97, fr 98, fc 0, fc 0, fr 99, fr 100, fc 0, fr 101, fr 102, fr 103, fr 104, fr 105, fr 106, fr 107, fr 108, fr 109, fr 110, fr 111, fc 0, fc 0, fr 112, fr 113])), .inl (), .inl (), .inl (), .inl (), .inl (), .inl (), .inl (), .inl (), .inl (), .inl (), .inl (), .inl ()],
  [.inl (), .inl (), .inl (), .inl (), .inl (), .inl (), .inl (), .inl (), .inl (), .inl (), .inl (), .inl (), .inl (), .inl (), .inl (), .inl ()],
  [.inr (.inr (0, 17, [(14, fv 0), (13, fc 4294967295), (12, fc 4294967295), (11, fc 4294967295), (10, fc 4294967295), (9, fc 4294967295), (8, fc 4294967295), (7, fc 4294967295)])), .inl (), .inl (), .inl (), .inl (), .inr (.inr (0, 17, [(13, fc 4294967295), (12, fc 4294967295), (11, fc 4294967295), (10, fc 4294967295), (9, fc 4294967295), (8, fc 4294967295), (7, fc 4294967295)])), .inl (), .inl (), .inl (), .inl (), .inl (), .inl (), .inl (), .inl (), .inl (), .inl ()],
  [.inl (), .inl ()]]), none, (114, [[.inl (), .inl (), .inl (), .inl (), .inl (), .inl (), .inl (), .inl (), .inl (), .inl (), .inl (), .inl (), .inl (), .inl (), .inl (), .inl ()],
  [.inl (), .inl (), .inl (), .inl (), .inl (), .inl (), .inl (), .inl (), .inl (), .inl (), .inl (), .inl (), .inl (), .inl (), .inl (), .inl ()],
  [.inl (), .inl (), .inl (), .inl (), .inl (), .inl (), .inl (), .inl (), .inl (), .inl (), .inl (), .inl (), .inl (), .inl (), .inl (), .inl ()],
  [.inl (), .inl (), .inl (), .inl (), .inl (), .inl (), .inl (), .inl (), .inl (), .inl (), .inl (), .inl (), .inl (), .inl (), .inl (), .inl ()],
  [.inl (), .inl (), .inl (), .inr (.inl (10, [fr 68, fr 69, fc 0, fc 0, fc 0, fc 4294967295, fc 0, fc 0, fc 0, fc 0, fl 0, fr 70, fr 71, fr 72, fr 73, fr 74, fr 75, fr 76, fr 77, fr 78, fr 79, fr 80, fr 81, fr 82, fr 83, fr 84, fr 85, fr 86, fr 87, fr 88, fr 89, fr 90, fr 91, fr 92, fr 93, fr 94, fr 95, fc 0, fc 0, fc 0, fc 0, fc 0, fc 0, fc 0, fc 0, fc 0, fc 0, fc 0, fc 0, fc 0, fr 96, fr 97, fr 98, fc 0, fc 0, fr 99, fr 100, fc 0, fr 101, fr 102, fr 103, fr 104, fr 105, fr 106, fr 107, fr 108, fr 109, fr 110, fr 111, fc 0, fc 0, fr 112, fr 113])), .inl (), .inl (), .inl (), .inl (), .inl (), .inl (), .inl (), .inl (), .inl (), .inl (), .inl (), .inl ()],
  [.inl (), .inl (), .inl (), .inl (), .inl (), .inl (), .inl (), .inl (), .inl (), .inl (), .inl (), .inl (), .inl (), .inl (), .inl (), .inl ()],
  [.inr (.inr (0, 17, [(13, fc 4294967295), (12, fc 4294967295), (11, fc 4294967295), (10, fc 4294967295), (9, fc 4294967295), (8, fc 4294967295), (7, fc 4294967295)])), .inl (), .inl (), .inl (), .inl (), .inr (.inr (0, 17, [(13, fc 4294967295), (12, fc 4294967295), (11, fc 4294967295), (10, fc 4294967295), (9, fc 4294967295), (8, fc 4294967295), (7, fc 4294967295)])), .inl (), .inl (), .inl (), .inl (), .inl (), .inl (), .inl (), .inl (), .inl (), .inl ()],
  [.inl (), .inl ()]]))
set_option maxRecDepth 100000 in
theorem fx_qb8 : fx_go (fx_ev fx_s0z (fun _ _ _ => false)) 10000 10 fm_129.1 fm_129.1 (fx_args fx_q8.2.1 0) [] 0 0 fm_129.2.2.1 fm_129.2.2.2.1 fx_q8.2.2.1 [] (fun v h _ => fx_ovq v fx_q8.2.2.2.1 && fx_hq h fx_q8.2.2.2.2) = true := by decide +kernel
theorem fx_qr8 : fx_smr fx_q8 := ⟨fm_129, 10000, rfl, Nat.le_of_ble_eq_true rfl, fx_qb8⟩
def fx_q9 : fx_sm := (129, [fr 67], (114, [[.inl (), .inl (), .inl (), .inl (), .inl (), .inl (), .inl (), .inl (), .inl (), .inl (), .inl (), .inl (), .inl (), .inl (), .inl (), .inl ()],
  [.inl (), .inl (), .inl (), .inl (), .inl (), .inl (), .inl (), .inl (), .inl (), .inl (), .inl (), .inl (), .inl (), .inl (), .inl (), .inl ()],
  [.inl (), .inl (), .inl (), .inl (), .inl (), .inl (), .inl (), .inl (), .inl (), .inl (), .inl (), .inl (), .inl (), .inl (), .inl (), .inl ()],
  [.inl (), .inl (), .inl (), .inl (), .inl (), .inl (), .inl (), .inl (), .inl (), .inl (), .inl (), .inl (), .inl (), .inl (), .inl (), .inl ()],
  [.inl (), .inl (), .inl (), .inr (.inl (10, [fr 68, fr 69, fc 0, fc 0, fc 0, fc 4294967295, fc 0, fc 0, fc 0, fc 0, fl 0, fr 70, fr 71, fr 72, fr 73, fr 74, fr 75, fr 76, fr 77, fr 78, fr 79, fr 80, fr 81, fr 82, fr 83, fr 84, fr 85, fr 86, fr 87, fr 88, fr 89, fr 90, fr 91, fr 92, fr 93, fr 94, fr 95, fc 0, fc 0, fc 0, fc 0, fc 0, fc 0, fc 0, fc 0, fc 0, fc 0, fc 0, fc 0, fc 0, fr 96, fr 97, fr 98, fc 0, fc 0, fr 99, fr 100, fc 0, fr 101, fr 102, fr 103, fr 104, fr 105, fr 106, fr 107, fr 108, fr 109, fr 110, fr 111, fc 0, fc 0, fr 112, fr 113])), .inl (), .inl (), .inl (), .inl (), .inl (), .inl (), .inl (), .inl (), .inl (), .inl (), .inl (), .inl ()],
  [.inl (), .inl (), .inl (), .inl (), .inl (), .inl (), .inl (), .inl (), .inl (), .inl (), .inl (), .inl (), .inl (), .inl (), .inl (), .inl ()],
  [.inr (.inr (0, 17, [(13, fc 4294967295), (12, fc 4294967295), (11, fc 4294967295), (10, fc 4294967295), (9, fc 4294967295), (8, fc 4294967295), (7, fc 4294967295)])), .inl (), .inl (), .inl (), .inl (), .inr (.inr (0, 17, [(13, fc 4294967295), (12, fc 4294967295), (11, fc 4294967295), (10, fc 4294967295), (9, fc 4294967295), (8, fc 4294967295), (7, fc 4294967295)])), .inl (), .inl (), .inl (), .inl (), .inl (), .inl (), .inl (), .inl (), .inl (), .inl ()],
  [.inl (), .inl ()]]), none, (114, [[.inl (), .inl (), .inl (), .inl (), .inl (), .inl (), .inl (), .inl (), .inl (), .inl (), .inl (), .inl (), .inl (), .inl (), .inl (), .inl ()],
  [.inl (), .inl (), .inl (), .inl (), .inl (), .inl (), .inl (), .inl (), .inl (), .inl (), .inl (), .inl (), .inl (), .inl (), .inl (), .inl ()],
  [.inl (), .inl (), .inl (), .inl (), .inl (), .inl (), .inl (), .inl (), .inl (), .inl (), .inl (), .inl (), .inl (), .inl (), .inl (), .inl ()],
  [.inl (), .inl (), .inl (), .inl (), .inl (), .inl (), .inl (), .inl (), .inl (), .inl (), .inl (), .inl (), .inl (), .inl (), .inl (), .inl ()],
  [.inl (), .inl (), .inl (), .inr (.inl (10, [fr 68, fr 69, fc 0, fc 0, fc 0, fc 4294967295, fc 0, fc 0, fc 0, fc 0, fl 0, fr 70, fr 71, fr 72, fr 73, fr 74, fr 75, fr 76, fr 77, fr 78, fr 79, fr 80, fr 81, fr 82, fr 83, fr 84, fr 85, fr 86, fr 87, fr 88, fr 89, fr 90, fr 91, fr 92, fr 93, fr 94, fr 95, fc 0, fc 0, fc 0, fc 0, fc 0, fc 0, fc 0, fc 0, fc 0, fc 0, fc 0, fc 0, fc 0, fr 96, fr 97, fr 98, fc 0, fc 0, fr 99, fr 100, fc 0, fr 101, fr 102, fr 103, fr 104, fr 105, fr 106, fr 107, fr 108, fr 109, fr 110, fr 111, fc 0, fc 0, fr 112, fr 113])), .inl (), .inl (), .inl (), .inl (), .inl (), .inl (), .inl (), .inl (), .inl (), .inl (), .inl (), .inl ()],
  [.inl (), .inl (), .inl (), .inl (), .inl (), .inl (), .inl (), .inl (), .inl (), .inl (), .inl (), .inl (), .inl (), .inl (), .inl (), .inl ()],
  [.inr (.inr (0, 17, [(13, fc 4294967295), (12, fc 4294967295), (11, fc 4294967295), (10, fc 4294967295), (9, fc 4294967295), (8, fc 4294967295), (7, fc 4294967295)])), .inl (), .inl (), .inl (), .inl (), .inr (.inr (0, 17, [(13, fc 4294967295), (12, fc 4294967295), (11, fc 4294967295), (10, fc 4294967295), (9, fc 4294967295), (8, fc 4294967295), (7, fc 4294967295)])), .inl (), .inl (), .inl (), .inl (), .inl (), .inl (), .inl (), .inl (), .inl (), .inl ()],
  [.inl (), .inl ()]]))
set_option maxRecDepth 100000 in
theorem fx_qb9 : fx_go (fx_ev fx_s0z (fun _ _ _ => false)) 10000 10 fm_129.1 fm_129.1 (fx_args fx_q9.2.1 0) [] 0 0 fm_129.2.2.1 fm_129.2.2.2.1 fx_q9.2.2.1 [] (fun v h _ => fx_ovq v fx_q9.2.2.2.1 && fx_hq h fx_q9.2.2.2.2) = true := by decide +kernel
theorem fx_qr9 : fx_smr fx_q9 := ⟨fm_129, 10000, rfl, Nat.le_of_ble_eq_true rfl, fx_qb9⟩
def fx_q10 : fx_sm := (153, [fr 67, fc 2, fv 0], (114, [[.inl (), .inl (), .inl (), .inl (), .inl (), .inl (), .inl (), .inl (), .inl (), .inl (), .inl (), .inl (), .inl (), .inl (), .inl (), .inl ()],
  [.inl (), .inl (), .inl (), .inl (), .inl (), .inl (), .inl (), .inl (), .inl (), .inl (), .inl (), .inl (), .inl (), .inl (), .inl (), .inl ()],
  [.inl (), .inl (), .inl (), .inl (), .inl (), .inl (), .inl (), .inl (), .inl (), .inl (), .inl (), .inl (), .inl (), .inl (), .inl (), .inl ()],
  [.inl (), .inl (), .inl (), .inl (), .inl (), .inl (), .inl (), .inl (), .inl (), .inl (), .inl (), .inl (), .inl (), .inl (), .inl (), .inl ()],
  [.inl (), .inl (), .inl (), .inr (.inl (10, [fr 68, fr 69, fc 0, fc 0, fc 0, fc 4294967295, fc 0, fc 0, fc 0, fc 0, fl 0, fr 70, fr 71, fr 72, fr 73, fr 74, fr 75, fr 76, fr 77, fr 78, fr 79, fr 80, fr 81, fr 82, fr 83, fr 84, fr 85, fr 86, fr 87, fr 88, fr 89, fr 90, fr 91, fr 92, fr 93, fr 94, fr 95, fc 0, fc 0, fc 0, fc 0, fc 0, fc 0, fc 0, fc 0, fc 0, fc 0, fc 0, fc 0, fc 0, fr 96, fr 97, fr 98, fc 0, fc 0, fr 99, fr 100, fc 0, fr 101, fr 102, fr 103, fr 104, fr 105, fr 106, fr 107, fr 108, fr 109, fr 110, fr 111, fc 0, fc 0, fr 112, fr 113])), .inl (), .inl (), .inl (), .inl (), .inl (), .inl (), .inr (.inr (0, 2, [])), .inl (), .inl (), .inl (), .inl (), .inl ()],
  [.inl (), .inl (), .inl (), .inl (), .inl (), .inl (), .inl (), .inl (), .inl (), .inl (), .inl (), .inl (), .inl (), .inl (), .inl (), .inl ()],
  [.inr (.inr (0, 17, [(13, fc 4294967295), (12, fc 4294967295), (11, fc 4294967295), (10, fc 4294967295), (9, fc 4294967295), (8, fc 4294967295), (7, fc 4294967295)])), .inl (), .inl (), .inl (), .inl (), .inr (.inr (0, 17, [(13, fc 4294967295), (12, fc 4294967295), (11, fc 4294967295), (10, fc 4294967295), (9, fc 4294967295), (8, fc 4294967295), (7, fc 4294967295)])), .inl (), .inl (), .inl (), .inl (), .inl (), .inl (), .inl (), .inl (), .inl (), .inl ()],
  [.inl (), .inl ()]]), some (fc 0), (114, [[.inl (), .inl (), .inl (), .inl (), .inl (), .inl (), .inl (), .inl (), .inl (), .inl (), .inl (), .inl (), .inl (), .inl (), .inl (), .inl ()],
  [.inl (), .inl (), .inl (), .inl (), .inl (), .inl (), .inl (), .inl (), .inl (), .inl (), .inl (), .inl (), .inl (), .inl (), .inl (), .inl ()],
  [.inl (), .inl (), .inl (), .inl (), .inl (), .inl (), .inl (), .inl (), .inl (), .inl (), .inl (), .inl (), .inl (), .inl (), .inl (), .inl ()],
  [.inl (), .inl (), .inl (), .inl (), .inl (), .inl (), .inl (), .inl (), .inl (), .inl (), .inl (), .inl (), .inl (), .inl (), .inl (), .inl ()],
  [.inl (), .inl (), .inl (), .inr (.inl (10, [fr 68, fr 69, fc 0, fc 0, fc 0, fc 4294967295, fc 0, fc 0, fc 0, fc 0, fl 0, fr 70, fr 71, fr 72, fr 73, fr 74, fr 75, fr 76, fr 77, fr 78, fr 79, fr 80, fr 81, fr 82, fr 83, fr 84, fr 85, fr 86, fr 87, fr 88, fr 89, fr 90, fr 91, fr 92, fr 93, fr 94, fr 95, fc 0, fc 0, fc 0, fc 0, fc 0, fc 0, fc 0, fc 0, fc 0, fc 0, fc 0, fc 0, fc 0, fr 96, fr 97, fr 98, fc 0, fc 0, fr 99, fr 100, fc 0, fr 101, fr 102, fr 103, fr 104, fr 105, fr 106, fr 107, fr 108, fr 109, fr 110, fr 111, fc 0, fc 0, fr 112, fr 113])), .inl (), .inl (), .inl (), .inl (), .inl (), .inl (), .inr (.inr (0, 2, [])), .inl (), .inl (), .inl (), .inl (), .inl ()],
  [.inl (), .inl (), .inl (), .inl (), .inl (), .inl (), .inl (), .inl (), .inl (), .inl (), .inl (), .inl (), .inl (), .inl (), .inl (), .inl ()],
  [.inr (.inr (0, 17, [(13, fc 4294967295), (12, fc 4294967295), (11, fc 4294967295), (10, fc 4294967295), (9, fc 4294967295), (8, fc 4294967295), (7, fc 4294967295)])), .inl (), .inl (), .inl (), .inl (), .inr (.inr (0, 17, [(13, fc 4294967295), (12, fc 4294967295), (11, fc 4294967295), (10, fc 4294967295), (9, fc 4294967295), (8, fc 4294967295), (7, fc 4294967295)])), .inl (), .inl (), .inl (), .inl (), .inl (), .inl (), .inl (), .inl (), .inl (), .inl ()],
  [.inl (), .inl ()]]))
set_option maxRecDepth 100000 in
theorem fx_qb10 : fx_go (fx_ev fx_s0z (fun _ _ _ => false)) 10000 10 fm_153.1 fm_153.1 (fx_args fx_q10.2.1 0) [] 0 0 fm_153.2.2.1 fm_153.2.2.2.1 fx_q10.2.2.1 [] (fun v h _ => fx_ovq v fx_q10.2.2.2.1 && fx_hq h fx_q10.2.2.2.2) = true := by decide +kernel
theorem fx_qr10 : fx_smr fx_q10 := ⟨fm_153, 10000, rfl, Nat.le_of_ble_eq_true rfl, fx_qb10⟩
def fx_q11 : fx_sm := (153, [fr 67, fc 3, fv 0], (114, [[.inl (), .inl (), .inl (), .inl (), .inl (), .inl (), .inl (), .inl (), .inl (), .inl (), .inl (), .inl (), .inl (), .inl (), .inl (), .inl ()],
  [.inl (), .inl (), .inl (), .inl (), .inl (), .inl (), .inl (), .inl (), .inl (), .inl (), .inl (), .inl (), .inl (), .inl (), .inl (), .inl ()],
  [.inl (), .inl (), .inl (), .inl (), .inl (), .inl (), .inl (), .inl (), .inl (), .inl (), .inl (), .inl (), .inl (), .inl (), .inl (), .inl ()],
  [.inl (), .inl (), .inl (), .inl (), .inl (), .inl (), .inl (), .inl (), .inl (), .inl (), .inl (), .inl (), .inl (), .inl (), .inl (), .inl ()],
  [.inl (), .inl (), .inl (), .inr (.inl (10, [fr 68, fr 69, fc 0, fc 0, fc 0, fc 4294967295, fc 0, fc 0, fc 0, fc 0, fl 0, fr 70, fr 71, fr 72, fr 73, fr 74, fr 75, fr 76, fr 77, fr 78, fr 79, fr 80, fr 81, fr 82, fr 83, fr 84, fr 85, fr 86, fr 87, fr 88, fr 89, fr 90, fr 91, fr 92, fr 93, fr 94, fr 95, fc 0, fc 0, fc 0, fc 0, fc 0, fc 0, fc 0, fc 0, fc 0, fc 0, fc 0, fc 0, fc 0, fr 96, fr 97, fr 98, fc 0, fc 0, fr 99, fr 100, fc 0, fr 101, fr 102, fr 103, fr 104, fr 105, fr 106, fr 107, fr 108, fr 109, fr 110, fr 111, fc 0, fc 0, fr 112, fr 113])), .inl (), .inl (), .inl (), .inl (), .inl (), .inl (), .inr (.inr (0, 2, [])), .inl (), .inl (), .inl (), .inl (), .inl ()],
  [.inl (), .inl (), .inl (), .inl (), .inl (), .inl (), .inl (), .inl (), .inl (), .inl (), .inl (), .inl (), .inl (), .inl (), .inl (), .inl ()],
  [.inr (.inr (0, 17, [(13, fc 4294967295), (12, fc 4294967295), (11, fc 4294967295), (10, fc 4294967295), (9, fc 4294967295), (8, fc 4294967295), (7, fc 4294967295)])), .inl (), .inl (), .inl (), .inl (), .inr (.inr (0, 17, [(13, fc 4294967295), (12, fc 4294967295), (11, fc 4294967295), (10, fc 4294967295), (9, fc 4294967295), (8, fc 4294967295), (7, fc 4294967295)])), .inl (), .inl (), .inl (), .inl (), .inl (), .inl (), .inl (), .inl (), .inl (), .inl ()],
  [.inl (), .inl ()]]), some (fc 0), (114, [[.inl (), .inl (), .inl (), .inl (), .inl (), .inl (), .inl (), .inl (), .inl (), .inl (), .inl (), .inl (), .inl (), .inl (), .inl (), .inl ()],
  [.inl (), .inl (), .inl (), .inl (), .inl (), .inl (), .inl (), .inl (), .inl (), .inl (), .inl (), .inl (), .inl (), .inl (), .inl (), .inl ()],
  [.inl (), .inl (), .inl (), .inl (), .inl (), .inl (), .inl (), .inl (), .inl (), .inl (), .inl (), .inl (), .inl (), .inl (), .inl (), .inl ()],
  [.inl (), .inl (), .inl (), .inl (), .inl (), .inl (), .inl (), .inl (), .inl (), .inl (), .inl (), .inl (), .inl (), .inl (), .inl (), .inl ()],
  [.inl (), .inl (), .inl (), .inr (.inl (10, [fr 68, fr 69, fc 0, fc 0, fc 0, fc 4294967295, fc 0, fc 0, fc 0, fc 0, fl 0, fr 70, fr 71, fr 72, fr 73, fr 74, fr 75, fr 76, fr 77, fr 78, fr 79, fr 80, fr 81, fr 82, fr 83, fr 84, fr 85, fr 86, fr 87, fr 88, fr 89, fr 90, fr 91, fr 92, fr 93, fr 94, fr 95, fc 0, fc 0, fc 0, fc 0, fc 0, fc 0, fc 0, fc 0, fc 0, fc 0, fc 0, fc 0, fc 0, fr 96, fr 97, fr 98, fc 0, fc 0, fr 99, fr 100, fc 0, fr 101, fr 102, fr 103, fr 104, fr 105, fr 106, fr 107, fr 108, fr 109, fr 110, fr 111, fc 0, fc 0, fr 112, fr 113])), .inl (), .inl (), .inl (), .inl (), .inl (), .inl (), .inr (.inr (0, 2, [])), .inl (), .inl (), .inl (), .inl (), .inl ()],
  [.inl (), .inl (), .inl (), .inl (), .inl (), .inl (), .inl (), .inl (), .inl (), .inl (), .inl (), .inl (), .inl (), .inl (), .inl (), .inl ()],
  [.inr (.inr (0, 17, [(13, fc 4294967295), (12, fc 4294967295), (11, fc 4294967295), (10, fc 4294967295), (9, fc 4294967295), (8, fc 4294967295), (7, fc 4294967295)])), .inl (), .inl (), .inl (), .inl (), .inr (.inr (0, 17, [(13, fc 4294967295), (12, fc 4294967295), (11, fc 4294967295), (10, fc 4294967295), (9, fc 4294967295), (8, fc 4294967295), (7, fc 4294967295)])), .inl (), .inl (), .inl (), .inl (), .inl (), .inl (), .inl (), .inl (), .inl (), .inl ()],
  [.inl (), .inl ()]]))
set_option maxRecDepth 100000 in
theorem fx_qb11 : fx_go (fx_ev fx_s0z (fun _ _ _ => false)) 10000 10 fm_153.1 fm_153.1 (fx_args fx_q11.2.1 0) [] 0 0 fm_153.2.2.1 fm_153.2.2.2.1 fx_q11.2.2.1 [] (fun v h _ => fx_ovq v fx_q11.2.2.2.1 && fx_hq h fx_q11.2.2.2.2) = true := by decide +kernel
theorem fx_qr11 : fx_smr fx_q11 := ⟨fm_153, 10000, rfl, Nat.le_of_ble_eq_true rfl, fx_qb11⟩
def fx_qs : List fx_sm := [fx_q0, fx_q1, fx_q2, fx_q3, fx_q4, fx_q5, fx_q6, fx_q7, fx_q8, fx_q9, fx_q10, fx_q11]
theorem fx_qs_ok : ∀ q ∈ fx_qs, fx_smr q := by
  intro q hq
  rcases List.mem_cons.mp hq with rfl | hq
  · exact fx_qr0
  rcases List.mem_cons.mp hq with rfl | hq
  · exact fx_qr1
  rcases List.mem_cons.mp hq with rfl | hq
  · exact fx_qr2
  rcases List.mem_cons.mp hq with rfl | hq
  · exact fx_qr3
  rcases List.mem_cons.mp hq with rfl | hq
  · exact fx_qr4
  rcases List.mem_cons.mp hq with rfl | hq
  · exact fx_qr5
  rcases List.mem_cons.mp hq with rfl | hq
  · exact fx_qr6
  rcases List.mem_cons.mp hq with rfl | hq
  · exact fx_qr7
  rcases List.mem_cons.mp hq with rfl | hq
  · exact fx_qr8
  rcases List.mem_cons.mp hq with rfl | hq
  · exact fx_qr9
  rcases List.mem_cons.mp hq with rfl | hq
  · exact fx_qr10
  rcases List.mem_cons.mp hq with rfl | hq
  · exact fx_qr11
  cases hq
end
section
set_option maxRecDepth 100000 in
theorem fx_run_41 : fx_run (fx_tab fx_qs) 20000 fw_41 (fx_jo 2147483689 2147483689) := by decide +kernel
set_option maxRecDepth 100000 in
theorem fx_run_25 : fx_run (fx_tab fx_qs) 20000 fw_25 (fx_jo 2147483673 2147483673) := by decide +kernel
end
section
set_option maxRecDepth 100000 in
theorem fx_run_27 : fx_run (fx_tab fx_qs) 20000 fw_27 (fx_jo 2147483675 2147483675) := by decide +kernel
end
section
set_option maxRecDepth 100000 in
theorem fx_run_31 : fx_run (fx_tab fx_qs) 20000 fw_31 (fx_jo 2147483679 2147483679) := by decide +kernel
end
section
set_option maxRecDepth 100000 in
theorem fx_run_32 : fx_run (fx_tab fx_qs) 20000 fw_32 (fx_jo 2147483680 2147483680) := by decide +kernel
end
section
def fx_h9 : fx_H := (114, [[.inl (), .inl (), .inl (), .inl (), .inl (), .inl (), .inl (), .inl (), .inl (), .inl (), .inl (), .inl (), .inl (), .inl (), .inl (), .inl ()], [.inl (), .inl (), .inl (), .inl (), .inl (), .inl (), .inl (), .inl (), .inl (), .inl (), .inl (), .inl (), .inl (), .inl (), .inl (), .inl ()], [.inl (), .inl (), .inl (), .inl (), .inl (), .inl (), .inl (), .inl (), .inl (), .inl (), .inl (), .inl (), .inl (), .inl (), .inl (), .inl ()], [.inl (), .inl (), .inl (), .inl (), .inl (), .inl (), .inl (), .inl (), .inl (), .inl (), .inl (), .inl (), .inl (), .inl (), .inl (), .inl ()], [.inl (), .inl (), .inl (), .inl (), .inl (), .inl (), .inl (), .inl (), .inl (), .inl (), .inl (), .inl (), .inl (), .inl (), .inl (), .inl ()], [.inl (), .inl (), .inl (), .inl (), .inl (), .inl (), .inl (), .inl (), .inl (), .inl (), .inl (), .inl (), .inl (), .inl (), .inl (), .inl ()], [.inl (), .inl (), .inl (), .inl (), .inl (), .inl (), .inl (), .inl (), .inl (), .inl (), .inl (), .inl (), .inl (), .inl (), .inl (), .inl ()], [.inl (), .inl ()]])
def fx_w0 : fx_sm := (152, [fc 10, fc 0], fx_h9, some (fc 1), fx_h9)
set_option maxRecDepth 100000 in
theorem fx_wb0 : fx_go (fx_ev fx_s0z (fun _ _ _ => false)) 10000 10 fm_152.1 fm_152.1 (fx_args fx_w0.2.1 0) [] 0 0 fm_152.2.2.1 fm_152.2.2.2.1 fx_w0.2.2.1 [] (fun v h _ => fx_ovq v fx_w0.2.2.2.1 && fx_hq h fx_w0.2.2.2.2) = true := by decide +kernel
theorem fx_wr0 : fx_smr fx_w0 := ⟨fm_152, 10000, rfl, Nat.le_of_ble_eq_true rfl, fx_wb0⟩
def fx_w1 : fx_sm := (152, [fc 10, fc 1], fx_h9, some (fc 10), fx_h9)
set_option maxRecDepth 100000 in
theorem fx_wb1 : fx_go (fx_ev fx_s0z (fun _ _ _ => false)) 10000 10 fm_152.1 fm_152.1 (fx_args fx_w1.2.1 0) [] 0 0 fm_152.2.2.1 fm_152.2.2.2.1 fx_w1.2.2.1 [] (fun v h _ => fx_ovq v fx_w1.2.2.2.1 && fx_hq h fx_w1.2.2.2.2) = true := by decide +kernel
theorem fx_wr1 : fx_smr fx_w1 := ⟨fm_152, 10000, rfl, Nat.le_of_ble_eq_true rfl, fx_wb1⟩
def fx_w2 : fx_sm := (152, [fc 10, fc 2], fx_h9, some (fc 100), fx_h9)
set_option maxRecDepth 100000 in
theorem fx_wb2 : fx_go (fx_ev fx_s0z (fun _ _ _ => false)) 10000 10 fm_152.1 fm_152.1 (fx_args fx_w2.2.1 0) [] 0 0 fm_152.2.2.1 fm_152.2.2.2.1 fx_w2.2.2.1 [] (fun v h _ => fx_ovq v fx_w2.2.2.2.1 && fx_hq h fx_w2.2.2.2.2) = true := by decide +kernel
theorem fx_wr2 : fx_smr fx_w2 := ⟨fm_152, 10000, rfl, Nat.le_of_ble_eq_true rfl, fx_wb2⟩
def fx_w3 : fx_sm := (152, [fc 10, fc 3], fx_h9, some (fc 1000), fx_h9)
set_option maxRecDepth 100000 in
theorem fx_wb3 : fx_go (fx_ev fx_s0z (fun _ _ _ => false)) 10000 10 fm_152.1 fm_152.1 (fx_args fx_w3.2.1 0) [] 0 0 fm_152.2.2.1 fm_152.2.2.2.1 fx_w3.2.2.1 [] (fun v h _ => fx_ovq v fx_w3.2.2.2.1 && fx_hq h fx_w3.2.2.2.2) = true := by decide +kernel
theorem fx_wr3 : fx_smr fx_w3 := ⟨fm_152, 10000, rfl, Nat.le_of_ble_eq_true rfl, fx_wb3⟩
def fx_qt : List fx_sm := fx_w0 :: fx_w1 :: fx_w2 :: fx_w3 :: fx_qs
theorem fx_qt_ok : ∀ q ∈ fx_qt, fx_smr q := by
  intro q hq
  rcases List.mem_cons.mp hq with rfl | hq
  · exact fx_wr0
  rcases List.mem_cons.mp hq with rfl | hq
  · exact fx_wr1
  rcases List.mem_cons.mp hq with rfl | hq
  · exact fx_wr2
  rcases List.mem_cons.mp hq with rfl | hq
  · exact fx_wr3
  exact fx_qs_ok q hq
def fx_j30 (a b : Nat) : fx_J := [(0, 4294967295), (0, 4294967295), (0, 4294967295), (a, b), (0, 4294967295), (0, 4294967295), (0, 4294967295), (2147483678, 2147483678), (2147483654, 2147483654)]
set_option maxRecDepth 100000 in
theorem fx_run_30a : fx_run (fx_tab fx_qt) 80000 fw_30 (fx_j30 0 2147483648) := by decide +kernel
end
section
set_option maxRecDepth 100000 in
theorem fx_run_30b : fx_run (fx_tab fx_qt) 80000 fw_30 (fx_j30 2147483649 4294967295) := by decide +kernel
end
section
set_option maxRecDepth 100000 in
theorem fx_lw_0 : fx_codB 17 false (some .boolean) 4 code fw_0 = true := by decide +kernel
set_option maxRecDepth 100000 in
theorem fx_lw_1 : fx_codB 17 false (some .boolean) 4 code fw_1 = true := by decide +kernel
set_option maxRecDepth 100000 in
theorem fx_lw_2 : fx_codB 17 false (some .boolean) 4 code fw_2 = true := by decide +kernel
set_option maxRecDepth 100000 in
theorem fx_lw_3 : fx_codB 17 false (some .boolean) 4 code fw_3 = true := by decide +kernel
set_option maxRecDepth 100000 in
theorem fx_lw_4 : fx_codB 17 false (some .boolean) 4 code fw_4 = true := by decide +kernel
set_option maxRecDepth 100000 in
theorem fx_lw_5 : fx_codB 17 false (some .boolean) 4 code fw_5 = true := by decide +kernel
set_option maxRecDepth 100000 in
theorem fx_lw_6 : fx_codB 17 false (some .boolean) 4 code fw_6 = true := by decide +kernel
set_option maxRecDepth 100000 in
theorem fx_lw_7 : fx_codB 17 false (some .boolean) 4 code fw_7 = true := by decide +kernel
set_option maxRecDepth 100000 in
theorem fx_lw_8 : fx_codB 17 false (some .boolean) 4 code fw_8 = true := by decide +kernel
set_option maxRecDepth 100000 in
theorem fx_lw_9 : fx_codB 17 false (some .boolean) 4 code fw_9 = true := by decide +kernel
set_option maxRecDepth 100000 in
theorem fx_lw_10 : fx_codB 17 false (some .boolean) 4 code fw_10 = true := by decide +kernel
set_option maxRecDepth 100000 in
theorem fx_lw_11 : fx_codB 17 false (some .boolean) 4 code fw_11 = true := by decide +kernel
set_option maxRecDepth 100000 in
theorem fx_lw_12 : fx_codB 17 false (some .boolean) 4 code fw_12 = true := by decide +kernel
set_option maxRecDepth 100000 in
theorem fx_lw_13 : fx_codB 17 false (some .boolean) 4 code fw_13 = true := by decide +kernel
set_option maxRecDepth 100000 in
theorem fx_lw_14 : fx_codB 17 false (some .boolean) 4 code fw_14 = true := by decide +kernel
set_option maxRecDepth 100000 in
theorem fx_lw_15 : fx_codB 17 false (some .boolean) 4 code fw_15 = true := by decide +kernel
set_option maxRecDepth 100000 in
theorem fx_lw_16 : fx_codB 17 false (some .boolean) 4 code fw_16 = true := by decide +kernel
set_option maxRecDepth 100000 in
theorem fx_lw_17 : fx_codB 17 false (some .boolean) 4 code fw_17 = true := by decide +kernel
set_option maxRecDepth 100000 in
theorem fx_lw_18 : fx_codB 17 false (some .boolean) 4 code fw_18 = true := by decide +kernel
set_option maxRecDepth 100000 in
theorem fx_lw_19 : fx_codB 17 false (some .boolean) 4 code fw_19 = true := by decide +kernel
set_option maxRecDepth 100000 in
theorem fx_lw_20 : fx_codB 17 false (some .boolean) 4 code fw_20 = true := by decide +kernel
set_option maxRecDepth 100000 in
theorem fx_lw_21 : fx_codB 17 false (some .boolean) 4 code fw_21 = true := by decide +kernel
set_option maxRecDepth 100000 in
theorem fx_lw_22 : fx_codB 17 false (some .boolean) 4 code fw_22 = true := by decide +kernel
set_option maxRecDepth 100000 in
theorem fx_lw_23 : fx_codB 17 false (some .boolean) 4 code fw_23 = true := by decide +kernel
set_option maxRecDepth 100000 in
theorem fx_lw_24 : fx_codB 17 false (some .boolean) 4 code fw_24 = true := by decide +kernel
set_option maxRecDepth 100000 in
theorem fx_lw_25 : fx_codB 17 false (some .boolean) 4 code fw_25 = true := by decide +kernel
set_option maxRecDepth 100000 in
theorem fx_lw_26 : fx_codB 17 false (some .boolean) 4 code fw_26 = true := by decide +kernel
set_option maxRecDepth 100000 in
theorem fx_lw_27 : fx_codB 17 false (some .boolean) 4 code fw_27 = true := by decide +kernel
set_option maxRecDepth 100000 in
theorem fx_lw_28 : fx_codB 17 false (some .boolean) 4 code fw_28 = true := by decide +kernel
set_option maxRecDepth 100000 in
theorem fx_lw_29 : fx_codB 17 false (some .boolean) 4 code fw_29 = true := by decide +kernel
set_option maxRecDepth 100000 in
theorem fx_lw_30 : fx_codB 17 false (some .boolean) 4 code fw_30 = true := by decide +kernel
set_option maxRecDepth 100000 in
theorem fx_lw_31 : fx_codB 17 false (some .boolean) 4 code fw_31 = true := by decide +kernel
set_option maxRecDepth 100000 in
theorem fx_lw_32 : fx_codB 17 false (some .boolean) 4 code fw_32 = true := by decide +kernel
set_option maxRecDepth 100000 in
theorem fx_lw_33 : fx_codB 17 false (some .boolean) 4 code fw_33 = true := by decide +kernel
set_option maxRecDepth 100000 in
theorem fx_lw_34 : fx_codB 17 false (some .boolean) 4 code fw_34 = true := by decide +kernel
set_option maxRecDepth 100000 in
theorem fx_lw_35 : fx_codB 17 false (some .boolean) 4 code fw_35 = true := by decide +kernel
set_option maxRecDepth 100000 in
theorem fx_lw_36 : fx_codB 17 false (some .boolean) 4 code fw_36 = true := by decide +kernel
set_option maxRecDepth 100000 in
theorem fx_lw_37 : fx_codB 17 false (some .boolean) 4 code fw_37 = true := by decide +kernel
set_option maxRecDepth 100000 in
theorem fx_lw_38 : fx_codB 17 false (some .boolean) 4 code fw_38 = true := by decide +kernel
set_option maxRecDepth 100000 in
theorem fx_lw_39 : fx_codB 17 false (some .boolean) 4 code fw_39 = true := by decide +kernel
set_option maxRecDepth 100000 in
theorem fx_lw_40 : fx_codB 17 false (some .boolean) 4 code fw_40 = true := by decide +kernel
set_option maxRecDepth 100000 in
theorem fx_lw_41 : fx_codB 17 false (some .boolean) 4 code fw_41 = true := by decide +kernel
set_option maxRecDepth 100000 in
theorem fx_lw_42 : fx_codB 17 false (some .boolean) 4 code fw_42 = true := by decide +kernel
set_option maxRecDepth 100000 in
theorem fx_lw_43 : fx_codB 17 false (some .boolean) 4 code fw_43 = true := by decide +kernel
set_option maxRecDepth 100000 in
theorem fx_lw_44 : fx_codB 17 false (some .boolean) 4 code fw_44 = true := by decide +kernel
set_option maxRecDepth 100000 in
theorem fx_lw_45 : fx_codB 17 false (some .boolean) 4 code fw_45 = true := by decide +kernel
end
section
section FXT
variable {p : Program} {e : Env} {s : State} {m : MethodId} {below : List Frame} {meth : Method} {c : Code} {l : Launch} {b L : Nat} {xs : Nat → Int32} {X : fx_X} {Y : fx_Y} {B : fx_B}
theorem fx_j7 {n k : Nat} (hn : n < 64) (h : X.1 7 = Int32.ofNat n) : n + 2147483648 ≤ fx_z (X.1 7) ∧ fx_z (X.1 7) ≤ n + 2147483648 := by
  rw [h, fx_z_of, fx_bsm (by omega)]
  exact ⟨Nat.le_refl _, Nat.le_refl _⟩
theorem fx_rj30 {a b : Nat} (h3 : a ≤ fx_z (X.1 3) ∧ fx_z (X.1 3) ≤ b) (h7 : 2147483678 ≤ fx_z (X.1 7) ∧ fx_z (X.1 7) ≤ 2147483678) (h8 : 2147483654 ≤ fx_z (X.1 8) ∧ fx_z (X.1 8) ≤ 2147483654) : fx_rj X (fx_j30 a b) := by
  have hf : ∀ i, (0 : Nat) ≤ fx_z (X.1 i) ∧ fx_z (X.1 i) ≤ 4294967295 := fun i => ⟨Nat.zero_le _, Nat.le_of_lt_succ (fx_z_max _)⟩
  intro i q hq
  rcases i with _ | _ | _ | _ | _ | _ | _ | _ | _ | i
  · cases hq; exact hf _
  · cases hq; exact hf _
  · cases hq; exact hf _
  · cases hq; exact h3
  · cases hq; exact hf _
  · cases hq; exact hf _
  · cases hq; exact hf _
  · cases hq; exact h7
  · cases hq; exact h8
  · simp [fx_j30] at hq
/-- from the loop's head: the call is made, the law ends -/
theorem fx_stage (C0 : lw_At p s m meth c b L xs) (hXX : fx_xx X B) (hcx : fx_cx X Y B s) (hbase : X.2.1 = s.heap.size) (hBL : B.2.1 = L) {j0 : fx_J} {H : Heap} {locs : List Loc} {ls : Array Slot} (hs : fx_st X Y 4 fx_l0 [] fx_g0 j0 H locs ls []) {ce sl : Nat} (hce : ce ≤ 1000) (hsl : sl ≤ 100000) : W p l e room_1 s m #[Value.ref b] below meth c H locs ce sl (lw_Z below #[Value.ref b] s) (F0 m 18 ls []) := by
  obtain ⟨hxo, h7, hxs, h8, hL6, -⟩ := id hXX
  have hz8 : fx_z (X.1 8) = B.2.1 + 2147483648 := by rw [h8, fx_z_of, fx_bsm (by omega)]
  have hmax := fx_z_max (X.1 7)
  by_cases hl : B.2.1 = 6
  · have h8' : 2147483654 ≤ fx_z (X.1 8) ∧ fx_z (X.1 8) ≤ 2147483654 := by omega
    obtain ⟨n, hn, he⟩ := fx_and63 (X.1 1)
    have h7n : X.1 7 = Int32.ofNat n := by rw [h7, he]
    have hz7 : fx_z (X.1 7) = n + 2147483648 := by rw [h7n, fx_z_of, fx_bsm (by omega)]
    have h0 : fx_sum l X Y B fx_mst (fx_ev fx_s0z (fun _ _ _ => false)) := fx_sum0
    have h1 : fx_sum l X Y B fx_mst (fx_ev (fx_tab fx_qs) (fun _ _ _ => false)) := fx_sum_tab hXX fx_qs_ok
    by_cases h45 : 45 ≤ n
    · exact fx_stage2 C0 hXX hcx hbase h0 fx_lw_45 fx_run_45 rfl (fx_rj9 (q7 := (2147483693, 2147483711)) (q8 := (2147483654, 2147483654)) ⟨by omega, by omega⟩ h8') hs hce hsl
    · have hj : ∀ k, n = k → fx_rj X (fx_jo (k + 2147483648) (k + 2147483648)) := fun k q => fx_rj9 (q7 := (k + 2147483648, k + 2147483648)) (q8 := (2147483654, 2147483654)) ⟨by omega, by omega⟩ h8'
      by_cases h22 : n < 22
      · by_cases h11 : n < 11
        · by_cases h5 : n < 5
          · by_cases h2 : n < 2
            · by_cases h1 : n < 1
              · exact fx_stage2 C0 hXX hcx hbase h0 fx_lw_0 fx_run_0 rfl (hj 0 (by omega)) hs hce hsl
              · exact fx_stage2 C0 hXX hcx hbase h0 fx_lw_1 fx_run_1 rfl (hj 1 (by omega)) hs hce hsl
            · by_cases h3 : n < 3
              · exact fx_stage2 C0 hXX hcx hbase h0 fx_lw_2 fx_run_2 rfl (hj 2 (by omega)) hs hce hsl
              · by_cases h4 : n < 4
                · exact fx_stage2 C0 hXX hcx hbase h0 fx_lw_3 fx_run_3 rfl (hj 3 (by omega)) hs hce hsl
                · exact fx_stage2 C0 hXX hcx hbase h0 fx_lw_4 fx_run_4 rfl (hj 4 (by omega)) hs hce hsl
          · by_cases h8 : n < 8
            · by_cases h6 : n < 6
              · exact fx_stage2 C0 hXX hcx hbase h0 fx_lw_5 fx_run_5 rfl (hj 5 (by omega)) hs hce hsl
              · by_cases h7 : n < 7
                · exact fx_stage2 C0 hXX hcx hbase h0 fx_lw_6 fx_run_6 rfl (hj 6 (by omega)) hs hce hsl
                · exact fx_stage2 C0 hXX hcx hbase h0 fx_lw_7 fx_run_7 rfl (hj 7 (by omega)) hs hce hsl
            · by_cases h9 : n < 9
              · exact fx_stage2 C0 hXX hcx hbase h0 fx_lw_8 fx_run_8 rfl (hj 8 (by omega)) hs hce hsl
              · by_cases h10 : n < 10
                · exact fx_stage2 C0 hXX hcx hbase h0 fx_lw_9 fx_run_9 rfl (hj 9 (by omega)) hs hce hsl
                · exact fx_stage2 C0 hXX hcx hbase h0 fx_lw_10 fx_run_10 rfl (hj 10 (by omega)) hs hce hsl
        · by_cases h16 : n < 16
          · by_cases h13 : n < 13
            · by_cases h12 : n < 12
              · exact fx_stage2 C0 hXX hcx hbase h0 fx_lw_11 fx_run_11 rfl (hj 11 (by omega)) hs hce hsl
              · exact fx_stage2 C0 hXX hcx hbase h0 fx_lw_12 fx_run_12 rfl (hj 12 (by omega)) hs hce hsl
            · by_cases h14 : n < 14
              · exact fx_stage2 C0 hXX hcx hbase h0 fx_lw_13 fx_run_13 rfl (hj 13 (by omega)) hs hce hsl
              · by_cases h15 : n < 15
                · exact fx_stage2 C0 hXX hcx hbase h0 fx_lw_14 fx_run_14 rfl (hj 14 (by omega)) hs hce hsl
                · exact fx_stage2 C0 hXX hcx hbase h0 fx_lw_15 fx_run_15 rfl (hj 15 (by omega)) hs hce hsl
          · by_cases h19 : n < 19
            · by_cases h17 : n < 17
              · exact fx_stage2 C0 hXX hcx hbase h0 fx_lw_16 fx_run_16 rfl (hj 16 (by omega)) hs hce hsl
              · by_cases h18 : n < 18
                · exact fx_stage2 C0 hXX hcx hbase h0 fx_lw_17 fx_run_17 rfl (hj 17 (by omega)) hs hce hsl
                · exact fx_stage2 C0 hXX hcx hbase h0 fx_lw_18 fx_run_18 rfl (hj 18 (by omega)) hs hce hsl
            · by_cases h20 : n < 20
              · exact fx_stage2 C0 hXX hcx hbase h0 fx_lw_19 fx_run_19 rfl (hj 19 (by omega)) hs hce hsl
              · by_cases h21 : n < 21
                · exact fx_stage2 C0 hXX hcx hbase h0 fx_lw_20 fx_run_20 rfl (hj 20 (by omega)) hs hce hsl
                · exact fx_stage2 C0 hXX hcx hbase h0 fx_lw_21 fx_run_21 rfl (hj 21 (by omega)) hs hce hsl
      · by_cases h33 : n < 33
        · by_cases h27 : n < 27
          · by_cases h24 : n < 24
            · by_cases h23 : n < 23
              · exact fx_stage2 C0 hXX hcx hbase h0 fx_lw_22 fx_run_22 rfl (hj 22 (by omega)) hs hce hsl
              · exact fx_stage2 C0 hXX hcx hbase h0 fx_lw_23 fx_run_23 rfl (hj 23 (by omega)) hs hce hsl
            · by_cases h25 : n < 25
              · exact fx_stage2 C0 hXX hcx hbase h0 fx_lw_24 fx_run_24 rfl (hj 24 (by omega)) hs hce hsl
              · by_cases h26 : n < 26
                · exact fx_stage2 C0 hXX hcx hbase h1 fx_lw_25 fx_run_25 rfl (hj 25 (by omega)) hs hce hsl
                · exact fx_stage2 C0 hXX hcx hbase h0 fx_lw_26 fx_run_26 rfl (hj 26 (by omega)) hs hce hsl
          · by_cases h30 : n < 30
            · by_cases h28 : n < 28
              · exact fx_stage2 C0 hXX hcx hbase h1 fx_lw_27 fx_run_27 rfl (hj 27 (by omega)) hs hce hsl
              · by_cases h29 : n < 29
                · exact fx_stage2 C0 hXX hcx hbase h0 fx_lw_28 fx_run_28 rfl (hj 28 (by omega)) hs hce hsl
                · exact fx_stage2 C0 hXX hcx hbase h0 fx_lw_29 fx_run_29 rfl (hj 29 (by omega)) hs hce hsl
            · by_cases h31 : n < 31
              · have h2 : fx_sum l X Y B fx_mst (fx_ev (fx_tab fx_qt) (fun _ _ _ => false)) := fx_sum_tab hXX fx_qt_ok
                by_cases h3 : fx_z (X.1 3) ≤ 2147483648
                · exact fx_stage2 C0 hXX hcx hbase h2 fx_lw_30 fx_run_30a rfl (fx_rj30 ⟨Nat.zero_le _, h3⟩ ⟨by omega, by omega⟩ h8') hs hce hsl
                · exact fx_stage2 C0 hXX hcx hbase h2 fx_lw_30 fx_run_30b rfl (fx_rj30 ⟨by omega, Nat.le_of_lt_succ (fx_z_max _)⟩ ⟨by omega, by omega⟩ h8') hs hce hsl
              · by_cases h32 : n < 32
                · exact fx_stage2 C0 hXX hcx hbase h1 fx_lw_31 fx_run_31 rfl (hj 31 (by omega)) hs hce hsl
                · exact fx_stage2 C0 hXX hcx hbase h1 fx_lw_32 fx_run_32 rfl (hj 32 (by omega)) hs hce hsl
        · by_cases h39 : n < 39
          · by_cases h36 : n < 36
            · by_cases h34 : n < 34
              · exact fx_stage2 C0 hXX hcx hbase h0 fx_lw_33 fx_run_33 rfl (hj 33 (by omega)) hs hce hsl
              · by_cases h35 : n < 35
                · exact fx_stage2 C0 hXX hcx hbase h0 fx_lw_34 fx_run_34 rfl (hj 34 (by omega)) hs hce hsl
                · exact fx_stage2 C0 hXX hcx hbase h0 fx_lw_35 fx_run_35 rfl (hj 35 (by omega)) hs hce hsl
            · by_cases h37 : n < 37
              · exact fx_stage2 C0 hXX hcx hbase h0 fx_lw_36 fx_run_36 rfl (hj 36 (by omega)) hs hce hsl
              · by_cases h38 : n < 38
                · exact fx_stage2 C0 hXX hcx hbase h0 fx_lw_37 fx_run_37 rfl (hj 37 (by omega)) hs hce hsl
                · exact fx_stage2 C0 hXX hcx hbase h0 fx_lw_38 fx_run_38 rfl (hj 38 (by omega)) hs hce hsl
          · by_cases h42 : n < 42
            · by_cases h40 : n < 40
              · exact fx_stage2 C0 hXX hcx hbase h0 fx_lw_39 fx_run_39 rfl (hj 39 (by omega)) hs hce hsl
              · by_cases h41 : n < 41
                · exact fx_stage2 C0 hXX hcx hbase h0 fx_lw_40 fx_run_40 rfl (hj 40 (by omega)) hs hce hsl
                · exact fx_stage2 C0 hXX hcx hbase h1 fx_lw_41 fx_run_41 rfl (hj 41 (by omega)) hs hce hsl
            · by_cases h43 : n < 43
              · exact fx_stage2 C0 hXX hcx hbase h0 fx_lw_42 fx_run_42 rfl (hj 42 (by omega)) hs hce hsl
              · by_cases h44 : n < 44
                · exact fx_stage2 C0 hXX hcx hbase h0 fx_lw_43 fx_run_43 rfl (hj 43 (by omega)) hs hce hsl
                · exact fx_stage2 C0 hXX hcx hbase h0 fx_lw_44 fx_run_44 rfl (hj 44 (by omega)) hs hce hsl
  · exact fx_stage2 C0 hXX hcx hbase fx_sum0 fx_law_short fx_run_short rfl (fx_rj9 (q7 := (0, 4294967295)) (q8 := (2147483648, 2147483653)) ⟨by omega, by omega⟩ ⟨by omega, by omega⟩) hs hce hsl
end FXT
/-- YOUR PART: from the entry, for every script of at most 6 ints, the law comes to its end with true -/
theorem whole_start {p : Program} {e : Env} {s : State} {m : MethodId} {below : List Frame} {meth : Method} {c : Code} (l : Launch) (hflags : l.flags = flags0) {b L : Nat} {xs : Nat → Int32} (hL : L ≤ 6) (C0 : lw_At p s m meth c b L xs) : W p l e room_1 s m #[Value.ref b] below meth c s.heap [] 0 0 (lw_Z below #[Value.ref b] s) (entryFrame m ([Value.ref b] : List Value).toArray 4) := by
  obtain ⟨hx, hb, hr, hml, hown, hts, hX, hbl, hlocks, hgv⟩ := id C0
  obtain ⟨X, Y, B, hXX, hcx, hbase, hG, hBb, hBL⟩ := fx_enter hts hX hbl hL hgv
  obtain ⟨hxo, h7, hxs, h8, hL6, hb0, -⟩ := id hXX
  have hl := lv_entry ([Value.ref b]) (n := 4) (Nat.le_of_ble_eq_true rfl)
  rw [lg_entry_eq]
  generalize (lg_sl ([Value.ref b]) ++ List.replicate (4 - (lg_sl ([Value.ref b])).length) Slot.unset).toArray = ls at hl ⊢
  have hcd := fx_codB_ok fx_law_new
  have hw : ∀ pc kd a b' d, (pc, kd, a, b', d) ∈ fw_new → kd ≠ 28 → decode code pc = .ok (fx_ins pc kd a b' d) ∧ fx_an fx_mst fx_mt (fx_cn 17) false (some .boolean) 4 kd a b' d := by
    intro pc kd a b' d hin hne
    refine (hcd pc kd a b' d (List.mem_filter.mpr ⟨hin, ?_⟩)).2
    show (!Nat.beq kd 28) = true
    cases hq : Nat.beq kd 28 with
    | true => exact absurd (fx_beq hq) hne
    | false => rfl
  have hrj : fx_rj X fx_jf := fx_rj9 (q7 := (0, 4294967295)) (q8 := (0, 4294967295)) ⟨Nat.zero_le _, Nat.le_of_lt_succ (fx_z_max _)⟩ ⟨Nat.zero_le _, Nat.le_of_lt_succ (fx_z_max _)⟩
  have hrh : fx_rh X Y (0, []) s.heap := ⟨by rw [hbase]; rfl, fun k x hk => by rw [fx_hget_eq] at hk; simp at hk, fun q _ => by rw [hG]⟩
  exact (fx_go_ok (E := fx_ev fx_s0z fx_kc1) hXX fx_mall_ok fx_sum0 rfl rfl fx_wd_ok 20000).2 20 fw_new fw_new [(0, fr 1000000)] [] 0 0 1000 100000 (0, []) fx_jf (fun _ _ _ => false) fx_run_new p e room_1 s m #[Value.ref b] below meth c (lw_Z below #[Value.ref b] s) code 4 R_law false (some .boolean) (fx_lawfs C0 hcx hbase hw) ⟨Nat.le_of_ble_eq_true rfl, Nat.le_of_ble_eq_true rfl, Nat.le_of_ble_eq_true rfl, Nat.le_of_ble_eq_true rfl⟩ (fun _ h => h) (fun v w h j H locs ce sl pc ls hk => by cases hk) (fun q hq h28 loc h j H locs ls ce sl hk hst hce hsl => by
    have hq18 : q.1 = 18 := by
      have key : ∀ q ∈ fw_new, Nat.beq q.2.1 28 = true → Nat.beq q.1 18 = true := by decide +kernel
      exact fx_beq (key q hq (by rw [h28]; rfl))
    rw [hq18]
    obtain ⟨k1, k2⟩ := fx_and hk
    have k1 := fx_lq_ok fx_nq_ok k1
    have k2 := fx_hq_ok k2
    subst k1; subst k2
    exact fx_stage C0 hXX hcx hbase hBL hst hce hsl) s.heap [] ls [] ⟨⟨_, hl, ⟨⟨rfl, by show Value.ref b = fx_ad X 1000000; rw [hb0, hBb]⟩, trivial⟩⟩, trivial, hrh, hrj, fun q hq => by cases hq⟩ (Nat.zero_le _) (Nat.zero_le _)
end
section
-- ===== YOUR PART ENDS =====
set_option maxHeartbeats 4000000 in
theorem lw_walk (l : Launch) (hflags : l.flags = flags0) (b : Addr) (xs : List Int32) : MetFree l x (headSpec (Jvm.Cond.code x code maxLocals ret :: tables_1) room_1) (lw_P b xs) (fun _ _ _ _ _ => True) lw_Q := by
  refine MetFree.of_bodyS (code := code) (maxLocals := maxLocals) (ret := ret) (by decide) ?_ ?_
  · intro args s m h hn
    obtain ⟨meth, c, h1, h2, h3, h4, h5, h6, -, -⟩ := Cond.code_spec hn (atoms_spec (ws := Jvm.Cond.code x code maxLocals ret :: tables_1) h _ List.mem_cons_self)
    exact ⟨meth, c, h1, h2, h3, h4, h5, h6⟩
  · intro p e s m args below meth c s₁ B hml0 hP _
    obtain ⟨rfl, hx, hbd, hgv⟩ := hP
    obtain ⟨scr, harrAt, hlist, hof, hsmall⟩ := hx
    obtain ⟨hcb, hkn, -, -⟩ := State.arrayAt?_spec harrAt
    have hown : s.vm.findClass R_law = some m.cls := findClass_of_methodNamed B.named
    have hts0 : ∀ c ∈ (Jvm.Cond.code x code maxLocals ret :: tables_1), c.before #[Value.ref b] s = true := atoms_spec (ws := Jvm.Cond.code x code maxLocals ret :: tables_1) B.pre
    have hts : ∀ w ∈ lw_tbl, w.before #[Value.ref b] s = true := k2_hts_sels lw_privs (fun w hw => hts0 w (List.mem_cons_of_mem _ hw)) lw_privs_ok
    have hml : c.maxLocals = 4 := B.maxLocals_eq (hts0 _ List.mem_cons_self)
    have X₀ : Stand p l e room_1 s m #[Value.ref b] below meth c s₁ [] 0 0 := Stand.of_body B
    have hh0 : s₁.heap = s.heap := by rw [B.state]; rfl
    have hsz : scr.slots.size = xs.length := by rw [← Array.length_toList, hlist, List.length_map]
    have hval : ∀ j : Nat, j < xs.length → scr.slots[j]? = some (.int (xs.getD j 0)) := fun j hj => by
      rw [← Array.getElem?_toList, hlist]
      simp [hj]
    have hbl : b < s.heap.size := (Array.getElem?_eq_some_iff.mp hcb).1
    have hX : va_X b xs.length (fun j => xs.getD j 0) s s.heap := ⟨scr, hcb, hof, hkn, hsz, hval⟩
    have K : W p l e room_1 s m #[Value.ref b] below meth c s₁.heap [] 0 0 (lw_Z below #[Value.ref b] s) (entryFrame m ([Value.ref b] : List Value).toArray 4) := by
      rw [hh0]
      exact whole_start l hflags hbd ⟨B.exec, B.bytes, B.returns, hml, hown, hts, hX, hbl, B.notSynchronized, hgv⟩
    obtain ⟨t, a1, o, b1, b2, b3⟩ := K s₁ rfl X₀
    exact ⟨t, o, a1, b1, b2, b3⟩
theorem lw_pre_spec {args : Array Value} {s : State} (h : (Jvm.Cond.and given_1 narrow_1).before args s = true) (hr : rest_1_c.before args s = true) : ∃ (b : Addr) (xs : List Int32), lw_P b xs args s := by
  have hs := flat_of_before _ h
  have hq := flat_of_before _ hr
  have hc : (Cond.count 1).before args s = true := hs _ (by decide +kernel)
  have harr : (Cond.arrayOf (.arg 0) .int).before args s = true := hs _ (by decide +kernel)
  have hle : (Cond.le (.length (.arg 0)) (.int 6)).before args s = true := hs _ (by decide +kernel)
  have hlen : (Cond.isInt (.length (.arg 0))).before args s = true := hq _ (by decide +kernel)
  have hall : (Cond.all (.arg 0) (.isInt (.elem (.arg 0) (.index 0)))).before args s = true := hq _ (by decide +kernel)
  obtain ⟨b, xs, hb, hx⟩ := State.ints_of_pre rfl harr hlen hall
  have hsm : xs.length < 2 ^ 31 := hx.choose_spec.2.2.2
  have hev : (Term.length (.arg 0)).eval args s none [] s = some (.int xs.length.toInt32) := hx.length_eval hb
  have hv := Cond.le_ints hev (show (Term.int 6).eval args s none [] s = some (.int 6) from rfl)
  have hd : xs.length.toInt32 ≤ 6 := by
    simpa [Cond.before, Cond.holds, hv] using hle
  have hN : xs.length ≤ 6 := (Int32.ofNat_le_ofNat hsm (by decide)).mp (show Int32.ofNat xs.length ≤ Int32.ofNat 6 from hd)
  exact ⟨b, xs, Cond.one_arg hc (show args[0]? = some (.ref b) from hb), hx, hN, h⟩
theorem lw_comes (l : Launch) (hflags : l.flags = flags0) : Comes l x (Jvm.Cond.code x code maxLocals ret :: tables_1) room_1 (fun tb e args s => Calls_1 tb e args s ∧ rest_1 tb e args s ∧ Pre_1 tb e args s)
    (fun _ _ args s o t => lw_Q args s o t) := by
  intro p e ha hc hk s m args below hf hfit hheap happ hpre
  obtain ⟨b, xs, hP⟩ := lw_pre_spec hpre.2.2 hpre.2.1
  obtain ⟨k, o, h1, h2, h3, hQ⟩ := lw_walk l hflags b xs p e ha hc hk s m args below hf ((Spec.applies_iff_loose hf).mp happ).1 hP trivial
  exact ⟨k, o, h1, h2, h3, hQ⟩
theorem lw_frame {s t : State} {o : Outcome} {args : Array Value} (h : Framed s o t [] 600000 7302250) :
    Framed s o t (fieldLocs frame_1_writes args s ++ arrayLocs frame_1_arrays args s ++ staticLocs frame_1_statics s) 600000 7302250 := h
theorem lw_limb (L : Cond) (hL : ∀ (args : Array Value) (s t : State), L.after args s (.returned (some (.int 1))) t = true) :
    ArmFor flags0 classFile x code maxLocals ret World_1 tables_1 room_1 Calls_1 rest_1 Pre_1
      (fun tb e a s o t => postC L tb e a s o t ∧ Framed s o t (fieldLocs frame_1_writes a s ++ arrayLocs frame_1_arrays a s ++ staticLocs frame_1_statics s) 600000 7302250) := by
  intro l hflags _ _ p e ha hc hk s m args below hf hfit hheap happ hpre
  obtain ⟨k, o, h1, h2, h3, rfl, hF⟩ := lw_comes l hflags p e ha hc hk s m args below hf hfit hheap happ hpre
  exact ⟨k, _, h1, h2, h3, hL args s _, lw_frame hF⟩
theorem i_vc : Claimed_1_1 ∧ Claimed_1_2 := ⟨lw_limb limb_1_1 (fun args s t => by simp [limb_1_1, Cond.after, Cond.holds, Cond.value]), lw_limb limb_1_2 (fun args s t => Cond.after_iff.mpr (by
  first | (rw [show limb_1_2 = Cond.eq .result (.int 1) from rfl, Cond.eq_ints (x := 1) (y := 1) rfl rfl]; simp; done) | (simp [limb_1_2, Cond.value, Term.eval]; done)))⟩
end
