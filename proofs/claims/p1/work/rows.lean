section
-- ===== PART A: goes FIRST, ahead of the names: the tables' words, and 'selects' of the private methods out of them =====
/-- a private method of a class that the tables say can be made, by its rows of tables_1 -/
def lw_okq (q : MethodName × Nat) : Prop := (q.1.cls ≠ "java/lang/invoke/MethodHandle" ∧ q.1.cls ≠ "java/lang/invoke/VarHandle") ∧ Cond.instantiable q.1.cls q.2 ∈ tables_1 ∧ Cond.privateMethod q.1 ∈ tables_1 ∧ Cond.instanceMethod q.1 ∈ tables_1
theorem lw_p0 : lw_okq (⟨"FaceSenate$Tape", "isAt", "(I)Z"⟩, 8) := ⟨⟨by decide +kernel, by decide +kernel⟩, List.mem_of_getElem? (i := 36) (by decide +kernel), List.mem_of_getElem? (i := 519) (by decide +kernel), List.mem_of_getElem? (i := 520) (by decide +kernel)⟩
theorem lw_p1 : lw_okq (⟨"FaceSenate$Tape", "readWord", "()V"⟩, 8) := ⟨⟨by decide +kernel, by decide +kernel⟩, List.mem_of_getElem? (i := 36) (by decide +kernel), List.mem_of_getElem? (i := 526) (by decide +kernel), List.mem_of_getElem? (i := 527) (by decide +kernel)⟩
theorem lw_p2 : lw_okq (⟨"FaceSenate$Tape", "readNumber", "()V"⟩, 8) := ⟨⟨by decide +kernel, by decide +kernel⟩, List.mem_of_getElem? (i := 36) (by decide +kernel), List.mem_of_getElem? (i := 533) (by decide +kernel), List.mem_of_getElem? (i := 534) (by decide +kernel)⟩
theorem lw_p3 : lw_okq (⟨"FaceSenate$Reader", "line", "(Z)Z"⟩, 4) := ⟨⟨by decide +kernel, by decide +kernel⟩, List.mem_of_getElem? (i := 30) (by decide +kernel), List.mem_of_getElem? (i := 595) (by decide +kernel), List.mem_of_getElem? (i := 596) (by decide +kernel)⟩
theorem lw_p4 : lw_okq (⟨"FaceSenate$Reader", "hallLine", "()Z"⟩, 4) := ⟨⟨by decide +kernel, by decide +kernel⟩, List.mem_of_getElem? (i := 30) (by decide +kernel), List.mem_of_getElem? (i := 599) (by decide +kernel), List.mem_of_getElem? (i := 600) (by decide +kernel)⟩
theorem lw_p5 : lw_okq (⟨"FaceSenate$Reader", "isNumber", "(II)Z"⟩, 4) := ⟨⟨by decide +kernel, by decide +kernel⟩, List.mem_of_getElem? (i := 30) (by decide +kernel), List.mem_of_getElem? (i := 604) (by decide +kernel), List.mem_of_getElem? (i := 605) (by decide +kernel)⟩
theorem lw_p6 : lw_okq (⟨"FaceSenate$Reader", "refuse", "()Z"⟩, 4) := ⟨⟨by decide +kernel, by decide +kernel⟩, List.mem_of_getElem? (i := 30) (by decide +kernel), List.mem_of_getElem? (i := 608) (by decide +kernel), List.mem_of_getElem? (i := 609) (by decide +kernel)⟩
theorem lw_p7 : lw_okq (⟨"FaceSenate$Reader", "refuseBy", "(I)Z"⟩, 4) := ⟨⟨by decide +kernel, by decide +kernel⟩, List.mem_of_getElem? (i := 30) (by decide +kernel), List.mem_of_getElem? (i := 612) (by decide +kernel), List.mem_of_getElem? (i := 613) (by decide +kernel)⟩
theorem lw_p8 : lw_okq (⟨"FaceSenate$Reader", "skip", "(I)Z"⟩, 4) := ⟨⟨by decide +kernel, by decide +kernel⟩, List.mem_of_getElem? (i := 30) (by decide +kernel), List.mem_of_getElem? (i := 616) (by decide +kernel), List.mem_of_getElem? (i := 617) (by decide +kernel)⟩
theorem lw_p9 : lw_okq (⟨"FaceSenate$Reader", "districtLine", "()Z"⟩, 4) := ⟨⟨by decide +kernel, by decide +kernel⟩, List.mem_of_getElem? (i := 30) (by decide +kernel), List.mem_of_getElem? (i := 620) (by decide +kernel), List.mem_of_getElem? (i := 621) (by decide +kernel)⟩
theorem lw_p10 : lw_okq (⟨"FaceSenate$Reader", "isNewName", "([JI)Z"⟩, 4) := ⟨⟨by decide +kernel, by decide +kernel⟩, List.mem_of_getElem? (i := 30) (by decide +kernel), List.mem_of_getElem? (i := 624) (by decide +kernel), List.mem_of_getElem? (i := 625) (by decide +kernel)⟩
theorem lw_p11 : lw_okq (⟨"FaceSenate$Reader", "placeOfName", "([JI)I"⟩, 4) := ⟨⟨by decide +kernel, by decide +kernel⟩, List.mem_of_getElem? (i := 30) (by decide +kernel), List.mem_of_getElem? (i := 628) (by decide +kernel), List.mem_of_getElem? (i := 629) (by decide +kernel)⟩
theorem lw_p12 : lw_okq (⟨"FaceSenate$Reader", "memberLine", "()Z"⟩, 4) := ⟨⟨by decide +kernel, by decide +kernel⟩, List.mem_of_getElem? (i := 30) (by decide +kernel), List.mem_of_getElem? (i := 632) (by decide +kernel), List.mem_of_getElem? (i := 633) (by decide +kernel)⟩
theorem lw_p13 : lw_okq (⟨"FaceSenate$Reader", "homeOf", "(I)Z"⟩, 4) := ⟨⟨by decide +kernel, by decide +kernel⟩, List.mem_of_getElem? (i := 30) (by decide +kernel), List.mem_of_getElem? (i := 636) (by decide +kernel), List.mem_of_getElem? (i := 637) (by decide +kernel)⟩
theorem lw_p14 : lw_okq (⟨"FaceSenate$Reader", "stoicOf", "(I)Z"⟩, 4) := ⟨⟨by decide +kernel, by decide +kernel⟩, List.mem_of_getElem? (i := 30) (by decide +kernel), List.mem_of_getElem? (i := 640) (by decide +kernel), List.mem_of_getElem? (i := 641) (by decide +kernel)⟩
theorem lw_p15 : lw_okq (⟨"FaceSenate$Reader", "seatOf", "(I)Z"⟩, 4) := ⟨⟨by decide +kernel, by decide +kernel⟩, List.mem_of_getElem? (i := 30) (by decide +kernel), List.mem_of_getElem? (i := 644) (by decide +kernel), List.mem_of_getElem? (i := 645) (by decide +kernel)⟩
def lw_privs_1 : List (MethodName × Nat) := [(⟨"FaceSenate$Tape", "isAt", "(I)Z"⟩, 8), (⟨"FaceSenate$Tape", "readWord", "()V"⟩, 8), (⟨"FaceSenate$Tape", "readNumber", "()V"⟩, 8), (⟨"FaceSenate$Reader", "line", "(Z)Z"⟩, 4), (⟨"FaceSenate$Reader", "hallLine", "()Z"⟩, 4), (⟨"FaceSenate$Reader", "isNumber", "(II)Z"⟩, 4), (⟨"FaceSenate$Reader", "refuse", "()Z"⟩, 4), (⟨"FaceSenate$Reader", "refuseBy", "(I)Z"⟩, 4), (⟨"FaceSenate$Reader", "skip", "(I)Z"⟩, 4), (⟨"FaceSenate$Reader", "districtLine", "()Z"⟩, 4), (⟨"FaceSenate$Reader", "isNewName", "([JI)Z"⟩, 4), (⟨"FaceSenate$Reader", "placeOfName", "([JI)I"⟩, 4), (⟨"FaceSenate$Reader", "memberLine", "()Z"⟩, 4), (⟨"FaceSenate$Reader", "homeOf", "(I)Z"⟩, 4), (⟨"FaceSenate$Reader", "stoicOf", "(I)Z"⟩, 4), (⟨"FaceSenate$Reader", "seatOf", "(I)Z"⟩, 4)]
theorem lw_r1 : ∀ q ∈ lw_privs_1, lw_okq q := List.forall_mem_cons.mpr ⟨lw_p0, List.forall_mem_cons.mpr ⟨lw_p1, List.forall_mem_cons.mpr ⟨lw_p2, List.forall_mem_cons.mpr ⟨lw_p3, List.forall_mem_cons.mpr ⟨lw_p4, List.forall_mem_cons.mpr ⟨lw_p5, List.forall_mem_cons.mpr ⟨lw_p6, List.forall_mem_cons.mpr ⟨lw_p7, List.forall_mem_cons.mpr ⟨lw_p8, List.forall_mem_cons.mpr ⟨lw_p9, List.forall_mem_cons.mpr ⟨lw_p10, List.forall_mem_cons.mpr ⟨lw_p11, List.forall_mem_cons.mpr ⟨lw_p12, List.forall_mem_cons.mpr ⟨lw_p13, List.forall_mem_cons.mpr ⟨lw_p14, List.forall_mem_cons.mpr ⟨lw_p15, fun _ h => absurd h List.not_mem_nil⟩⟩⟩⟩⟩⟩⟩⟩⟩⟩⟩⟩⟩⟩⟩⟩
theorem lw_p16 : lw_okq (⟨"FaceSenate$Reader", "isUntold", "(LFaceSenate$Formula;)Z"⟩, 4) := ⟨⟨by decide +kernel, by decide +kernel⟩, List.mem_of_getElem? (i := 30) (by decide +kernel), List.mem_of_getElem? (i := 648) (by decide +kernel), List.mem_of_getElem? (i := 649) (by decide +kernel)⟩
theorem lw_p17 : lw_okq (⟨"FaceSenate$Reader", "level", "(LFaceSenate$Formula;II)Z"⟩, 4) := ⟨⟨by decide +kernel, by decide +kernel⟩, List.mem_of_getElem? (i := 30) (by decide +kernel), List.mem_of_getElem? (i := 653) (by decide +kernel), List.mem_of_getElem? (i := 654) (by decide +kernel)⟩
theorem lw_p18 : lw_okq (⟨"FaceSenate$Reader", "unit", "(LFaceSenate$Formula;I)Z"⟩, 4) := ⟨⟨by decide +kernel, by decide +kernel⟩, List.mem_of_getElem? (i := 30) (by decide +kernel), List.mem_of_getElem? (i := 657) (by decide +kernel), List.mem_of_getElem? (i := 658) (by decide +kernel)⟩
theorem lw_p19 : lw_okq (⟨"FaceSenate$Reader", "negation", "(LFaceSenate$Formula;I)Z"⟩, 4) := ⟨⟨by decide +kernel, by decide +kernel⟩, List.mem_of_getElem? (i := 30) (by decide +kernel), List.mem_of_getElem? (i := 662) (by decide +kernel), List.mem_of_getElem? (i := 663) (by decide +kernel)⟩
theorem lw_p20 : lw_okq (⟨"FaceSenate$Reader", "toothLine", "()Z"⟩, 4) := ⟨⟨by decide +kernel, by decide +kernel⟩, List.mem_of_getElem? (i := 30) (by decide +kernel), List.mem_of_getElem? (i := 669) (by decide +kernel), List.mem_of_getElem? (i := 670) (by decide +kernel)⟩
theorem lw_p21 : lw_okq (⟨"FaceSenate$Reader", "drawLine", "()Z"⟩, 4) := ⟨⟨by decide +kernel, by decide +kernel⟩, List.mem_of_getElem? (i := 30) (by decide +kernel), List.mem_of_getElem? (i := 673) (by decide +kernel), List.mem_of_getElem? (i := 674) (by decide +kernel)⟩
theorem lw_p22 : lw_okq (⟨"FaceSenate", "isMember", "(I)Z"⟩, 16) := ⟨⟨by decide +kernel, by decide +kernel⟩, List.mem_of_getElem? (i := 22) (by decide +kernel), List.mem_of_getElem? (i := 702) (by decide +kernel), List.mem_of_getElem? (i := 703) (by decide +kernel)⟩
theorem lw_p23 : lw_okq (⟨"FaceSenate$Trial", "areBeside", "(II)Z"⟩, 11) := ⟨⟨by decide +kernel, by decide +kernel⟩, List.mem_of_getElem? (i := 321) (by decide +kernel), List.mem_of_getElem? (i := 719) (by decide +kernel), List.mem_of_getElem? (i := 720) (by decide +kernel)⟩
theorem lw_p24 : lw_okq (⟨"FaceSenate", "isSeat", "(I)Z"⟩, 16) := ⟨⟨by decide +kernel, by decide +kernel⟩, List.mem_of_getElem? (i := 22) (by decide +kernel), List.mem_of_getElem? (i := 774) (by decide +kernel), List.mem_of_getElem? (i := 775) (by decide +kernel)⟩
theorem lw_p25 : lw_okq (⟨"FaceSenate$Trial", "nextFace", "(LFaceSenate$Plan;I)I"⟩, 11) := ⟨⟨by decide +kernel, by decide +kernel⟩, List.mem_of_getElem? (i := 321) (by decide +kernel), List.mem_of_getElem? (i := 826) (by decide +kernel), List.mem_of_getElem? (i := 827) (by decide +kernel)⟩
theorem lw_p26 : lw_okq (⟨"FaceSenate", "canChange", "(II)Z"⟩, 16) := ⟨⟨by decide +kernel, by decide +kernel⟩, List.mem_of_getElem? (i := 22) (by decide +kernel), List.mem_of_getElem? (i := 855) (by decide +kernel), List.mem_of_getElem? (i := 856) (by decide +kernel)⟩
theorem lw_p27 : lw_okq (⟨"FaceSenate", "isSeated", "(I)Z"⟩, 16) := ⟨⟨by decide +kernel, by decide +kernel⟩, List.mem_of_getElem? (i := 22) (by decide +kernel), List.mem_of_getElem? (i := 859) (by decide +kernel), List.mem_of_getElem? (i := 860) (by decide +kernel)⟩
theorem lw_p28 : lw_okq (⟨"FaceSenate", "sampleOff", "(II)I"⟩, 16) := ⟨⟨by decide +kernel, by decide +kernel⟩, List.mem_of_getElem? (i := 22) (by decide +kernel), List.mem_of_getElem? (i := 903) (by decide +kernel), List.mem_of_getElem? (i := 904) (by decide +kernel)⟩
theorem lw_p29 : lw_okq (⟨"FaceSenate", "ringOf", "(II)I"⟩, 16) := ⟨⟨by decide +kernel, by decide +kernel⟩, List.mem_of_getElem? (i := 22) (by decide +kernel), List.mem_of_getElem? (i := 916) (by decide +kernel), List.mem_of_getElem? (i := 917) (by decide +kernel)⟩
theorem lw_p30 : lw_okq (⟨"FaceSenate", "layDown", "(I)V"⟩, 16) := ⟨⟨by decide +kernel, by decide +kernel⟩, List.mem_of_getElem? (i := 22) (by decide +kernel), List.mem_of_getElem? (i := 924) (by decide +kernel), List.mem_of_getElem? (i := 925) (by decide +kernel)⟩
theorem lw_p31 : lw_okq (⟨"FaceSenate", "groupOf", "(I)I"⟩, 16) := ⟨⟨by decide +kernel, by decide +kernel⟩, List.mem_of_getElem? (i := 22) (by decide +kernel), List.mem_of_getElem? (i := 943) (by decide +kernel), List.mem_of_getElem? (i := 944) (by decide +kernel)⟩
def lw_privs_2 : List (MethodName × Nat) := [(⟨"FaceSenate$Reader", "isUntold", "(LFaceSenate$Formula;)Z"⟩, 4), (⟨"FaceSenate$Reader", "level", "(LFaceSenate$Formula;II)Z"⟩, 4), (⟨"FaceSenate$Reader", "unit", "(LFaceSenate$Formula;I)Z"⟩, 4), (⟨"FaceSenate$Reader", "negation", "(LFaceSenate$Formula;I)Z"⟩, 4), (⟨"FaceSenate$Reader", "toothLine", "()Z"⟩, 4), (⟨"FaceSenate$Reader", "drawLine", "()Z"⟩, 4), (⟨"FaceSenate", "isMember", "(I)Z"⟩, 16), (⟨"FaceSenate$Trial", "areBeside", "(II)Z"⟩, 11), (⟨"FaceSenate", "isSeat", "(I)Z"⟩, 16), (⟨"FaceSenate$Trial", "nextFace", "(LFaceSenate$Plan;I)I"⟩, 11), (⟨"FaceSenate", "canChange", "(II)Z"⟩, 16), (⟨"FaceSenate", "isSeated", "(I)Z"⟩, 16), (⟨"FaceSenate", "sampleOff", "(II)I"⟩, 16), (⟨"FaceSenate", "ringOf", "(II)I"⟩, 16), (⟨"FaceSenate", "layDown", "(I)V"⟩, 16), (⟨"FaceSenate", "groupOf", "(I)I"⟩, 16)]
theorem lw_r2 : ∀ q ∈ lw_privs_2, lw_okq q := List.forall_mem_cons.mpr ⟨lw_p16, List.forall_mem_cons.mpr ⟨lw_p17, List.forall_mem_cons.mpr ⟨lw_p18, List.forall_mem_cons.mpr ⟨lw_p19, List.forall_mem_cons.mpr ⟨lw_p20, List.forall_mem_cons.mpr ⟨lw_p21, List.forall_mem_cons.mpr ⟨lw_p22, List.forall_mem_cons.mpr ⟨lw_p23, List.forall_mem_cons.mpr ⟨lw_p24, List.forall_mem_cons.mpr ⟨lw_p25, List.forall_mem_cons.mpr ⟨lw_p26, List.forall_mem_cons.mpr ⟨lw_p27, List.forall_mem_cons.mpr ⟨lw_p28, List.forall_mem_cons.mpr ⟨lw_p29, List.forall_mem_cons.mpr ⟨lw_p30, List.forall_mem_cons.mpr ⟨lw_p31, fun _ h => absurd h List.not_mem_nil⟩⟩⟩⟩⟩⟩⟩⟩⟩⟩⟩⟩⟩⟩⟩⟩
theorem lw_p32 : lw_okq (⟨"FaceSenate", "reportSeated", "(II)I"⟩, 16) := ⟨⟨by decide +kernel, by decide +kernel⟩, List.mem_of_getElem? (i := 22) (by decide +kernel), List.mem_of_getElem? (i := 951) (by decide +kernel), List.mem_of_getElem? (i := 952) (by decide +kernel)⟩
theorem lw_p33 : lw_okq (⟨"FaceSenate", "reportChanged", "(II)I"⟩, 16) := ⟨⟨by decide +kernel, by decide +kernel⟩, List.mem_of_getElem? (i := 22) (by decide +kernel), List.mem_of_getElem? (i := 960) (by decide +kernel), List.mem_of_getElem? (i := 961) (by decide +kernel)⟩
theorem lw_p34 : lw_okq (⟨"FaceSenate", "turn", "(IIII)I"⟩, 16) := ⟨⟨by decide +kernel, by decide +kernel⟩, List.mem_of_getElem? (i := 22) (by decide +kernel), List.mem_of_getElem? (i := 1021) (by decide +kernel), List.mem_of_getElem? (i := 1022) (by decide +kernel)⟩
theorem lw_p35 : lw_okq (⟨"FaceSenate", "goOnWith", "(II)V"⟩, 16) := ⟨⟨by decide +kernel, by decide +kernel⟩, List.mem_of_getElem? (i := 22) (by decide +kernel), List.mem_of_getElem? (i := 1033) (by decide +kernel), List.mem_of_getElem? (i := 1034) (by decide +kernel)⟩
theorem lw_p36 : lw_okq (⟨"FaceSenate", "fittingNews", "(I)I"⟩, 16) := ⟨⟨by decide +kernel, by decide +kernel⟩, List.mem_of_getElem? (i := 22) (by decide +kernel), List.mem_of_getElem? (i := 1080) (by decide +kernel), List.mem_of_getElem? (i := 1081) (by decide +kernel)⟩
theorem lw_p37 : lw_okq (⟨"FaceSenate$Looks", "counts", "(II)Z"⟩, 7) := ⟨⟨by decide +kernel, by decide +kernel⟩, List.mem_of_getElem? (i := 405) (by decide +kernel), List.mem_of_getElem? (i := 1088) (by decide +kernel), List.mem_of_getElem? (i := 1089) (by decide +kernel)⟩
theorem lw_p38 : lw_okq (⟨"FaceSenate", "allAreSo", "(III)Z"⟩, 16) := ⟨⟨by decide +kernel, by decide +kernel⟩, List.mem_of_getElem? (i := 22) (by decide +kernel), List.mem_of_getElem? (i := 1093) (by decide +kernel), List.mem_of_getElem? (i := 1094) (by decide +kernel)⟩
theorem lw_p39 : lw_okq (⟨"FaceSenate", "facesThen", "(II)V"⟩, 16) := ⟨⟨by decide +kernel, by decide +kernel⟩, List.mem_of_getElem? (i := 22) (by decide +kernel), List.mem_of_getElem? (i := 1105) (by decide +kernel), List.mem_of_getElem? (i := 1106) (by decide +kernel)⟩
theorem lw_p40 : lw_okq (⟨"FaceSenate", "mostLeft", "(II)I"⟩, 16) := ⟨⟨by decide +kernel, by decide +kernel⟩, List.mem_of_getElem? (i := 22) (by decide +kernel), List.mem_of_getElem? (i := 1110) (by decide +kernel), List.mem_of_getElem? (i := 1111) (by decide +kernel)⟩
theorem lw_p41 : lw_okq (⟨"FaceSenateModel", "clearBank", "()V"⟩, 73) := ⟨⟨by decide +kernel, by decide +kernel⟩, List.mem_of_getElem? (i := 1129) (by decide +kernel), List.mem_of_getElem? (i := 1135) (by decide +kernel), List.mem_of_getElem? (i := 1136) (by decide +kernel)⟩
theorem lw_p42 : lw_okq (⟨"FaceSenateModel", "startAnew", "()V"⟩, 73) := ⟨⟨by decide +kernel, by decide +kernel⟩, List.mem_of_getElem? (i := 1129) (by decide +kernel), List.mem_of_getElem? (i := 1139) (by decide +kernel), List.mem_of_getElem? (i := 1140) (by decide +kernel)⟩
theorem lw_p43 : lw_okq (⟨"FaceSenateModel", "many", "()I"⟩, 73) := ⟨⟨by decide +kernel, by decide +kernel⟩, List.mem_of_getElem? (i := 1129) (by decide +kernel), List.mem_of_getElem? (i := 1143) (by decide +kernel), List.mem_of_getElem? (i := 1144) (by decide +kernel)⟩
theorem lw_p44 : lw_okq (⟨"FaceSenateModel", "goOn", "()V"⟩, 73) := ⟨⟨by decide +kernel, by decide +kernel⟩, List.mem_of_getElem? (i := 1129) (by decide +kernel), List.mem_of_getElem? (i := 1371) (by decide +kernel), List.mem_of_getElem? (i := 1372) (by decide +kernel)⟩
theorem lw_p45 : lw_okq (⟨"FaceSenateModel", "sign", "(I)I"⟩, 73) := ⟨⟨by decide +kernel, by decide +kernel⟩, List.mem_of_getElem? (i := 1129) (by decide +kernel), List.mem_of_getElem? (i := 1375) (by decide +kernel), List.mem_of_getElem? (i := 1376) (by decide +kernel)⟩
theorem lw_p46 : lw_okq (⟨"FaceSenateModel", "isGood", "()Z"⟩, 73) := ⟨⟨by decide +kernel, by decide +kernel⟩, List.mem_of_getElem? (i := 1129) (by decide +kernel), List.mem_of_getElem? (i := 1415) (by decide +kernel), List.mem_of_getElem? (i := 1416) (by decide +kernel)⟩
theorem lw_p47 : lw_okq (⟨"FaceSenateModel", "readLine", "()V"⟩, 73) := ⟨⟨by decide +kernel, by decide +kernel⟩, List.mem_of_getElem? (i := 1129) (by decide +kernel), List.mem_of_getElem? (i := 1419) (by decide +kernel), List.mem_of_getElem? (i := 1420) (by decide +kernel)⟩
def lw_privs_3 : List (MethodName × Nat) := [(⟨"FaceSenate", "reportSeated", "(II)I"⟩, 16), (⟨"FaceSenate", "reportChanged", "(II)I"⟩, 16), (⟨"FaceSenate", "turn", "(IIII)I"⟩, 16), (⟨"FaceSenate", "goOnWith", "(II)V"⟩, 16), (⟨"FaceSenate", "fittingNews", "(I)I"⟩, 16), (⟨"FaceSenate$Looks", "counts", "(II)Z"⟩, 7), (⟨"FaceSenate", "allAreSo", "(III)Z"⟩, 16), (⟨"FaceSenate", "facesThen", "(II)V"⟩, 16), (⟨"FaceSenate", "mostLeft", "(II)I"⟩, 16), (⟨"FaceSenateModel", "clearBank", "()V"⟩, 73), (⟨"FaceSenateModel", "startAnew", "()V"⟩, 73), (⟨"FaceSenateModel", "many", "()I"⟩, 73), (⟨"FaceSenateModel", "goOn", "()V"⟩, 73), (⟨"FaceSenateModel", "sign", "(I)I"⟩, 73), (⟨"FaceSenateModel", "isGood", "()Z"⟩, 73), (⟨"FaceSenateModel", "readLine", "()V"⟩, 73)]
theorem lw_r3 : ∀ q ∈ lw_privs_3, lw_okq q := List.forall_mem_cons.mpr ⟨lw_p32, List.forall_mem_cons.mpr ⟨lw_p33, List.forall_mem_cons.mpr ⟨lw_p34, List.forall_mem_cons.mpr ⟨lw_p35, List.forall_mem_cons.mpr ⟨lw_p36, List.forall_mem_cons.mpr ⟨lw_p37, List.forall_mem_cons.mpr ⟨lw_p38, List.forall_mem_cons.mpr ⟨lw_p39, List.forall_mem_cons.mpr ⟨lw_p40, List.forall_mem_cons.mpr ⟨lw_p41, List.forall_mem_cons.mpr ⟨lw_p42, List.forall_mem_cons.mpr ⟨lw_p43, List.forall_mem_cons.mpr ⟨lw_p44, List.forall_mem_cons.mpr ⟨lw_p45, List.forall_mem_cons.mpr ⟨lw_p46, List.forall_mem_cons.mpr ⟨lw_p47, fun _ h => absurd h List.not_mem_nil⟩⟩⟩⟩⟩⟩⟩⟩⟩⟩⟩⟩⟩⟩⟩⟩
theorem lw_p48 : lw_okq (⟨"FaceSenateModel", "isFull", "()Z"⟩, 73) := ⟨⟨by decide +kernel, by decide +kernel⟩, List.mem_of_getElem? (i := 1129) (by decide +kernel), List.mem_of_getElem? (i := 1423) (by decide +kernel), List.mem_of_getElem? (i := 1424) (by decide +kernel)⟩
theorem lw_p49 : lw_okq (⟨"FaceSenateModel", "isWord", "(J)Z"⟩, 73) := ⟨⟨by decide +kernel, by decide +kernel⟩, List.mem_of_getElem? (i := 1129) (by decide +kernel), List.mem_of_getElem? (i := 1427) (by decide +kernel), List.mem_of_getElem? (i := 1428) (by decide +kernel)⟩
theorem lw_p50 : lw_okq (⟨"FaceSenateModel", "misplaced", "()V"⟩, 73) := ⟨⟨by decide +kernel, by decide +kernel⟩, List.mem_of_getElem? (i := 1129) (by decide +kernel), List.mem_of_getElem? (i := 1431) (by decide +kernel), List.mem_of_getElem? (i := 1432) (by decide +kernel)⟩
theorem lw_p51 : lw_okq (⟨"FaceSenateModel", "fails", "(II)V"⟩, 73) := ⟨⟨by decide +kernel, by decide +kernel⟩, List.mem_of_getElem? (i := 1129) (by decide +kernel), List.mem_of_getElem? (i := 1435) (by decide +kernel), List.mem_of_getElem? (i := 1436) (by decide +kernel)⟩
theorem lw_p52 : lw_okq (⟨"FaceSenateModel", "numeral", "(II)I"⟩, 73) := ⟨⟨by decide +kernel, by decide +kernel⟩, List.mem_of_getElem? (i := 1129) (by decide +kernel), List.mem_of_getElem? (i := 1439) (by decide +kernel), List.mem_of_getElem? (i := 1440) (by decide +kernel)⟩
theorem lw_p53 : lw_okq (⟨"FaceSenateModel", "after", "(JII)I"⟩, 73) := ⟨⟨by decide +kernel, by decide +kernel⟩, List.mem_of_getElem? (i := 1129) (by decide +kernel), List.mem_of_getElem? (i := 1443) (by decide +kernel), List.mem_of_getElem? (i := 1444) (by decide +kernel)⟩
theorem lw_p54 : lw_okq (⟨"FaceSenateModel", "must", "(Z)V"⟩, 73) := ⟨⟨by decide +kernel, by decide +kernel⟩, List.mem_of_getElem? (i := 1129) (by decide +kernel), List.mem_of_getElem? (i := 1447) (by decide +kernel), List.mem_of_getElem? (i := 1448) (by decide +kernel)⟩
theorem lw_p55 : lw_okq (⟨"FaceSenateModel", "readDistrict", "()V"⟩, 73) := ⟨⟨by decide +kernel, by decide +kernel⟩, List.mem_of_getElem? (i := 1129) (by decide +kernel), List.mem_of_getElem? (i := 1451) (by decide +kernel), List.mem_of_getElem? (i := 1452) (by decide +kernel)⟩
theorem lw_p56 : lw_okq (⟨"FaceSenateModel", "districtHere", "()I"⟩, 73) := ⟨⟨by decide +kernel, by decide +kernel⟩, List.mem_of_getElem? (i := 1129) (by decide +kernel), List.mem_of_getElem? (i := 1455) (by decide +kernel), List.mem_of_getElem? (i := 1456) (by decide +kernel)⟩
theorem lw_p57 : lw_okq (⟨"FaceSenateModel", "here", "([JII)I"⟩, 73) := ⟨⟨by decide +kernel, by decide +kernel⟩, List.mem_of_getElem? (i := 1129) (by decide +kernel), List.mem_of_getElem? (i := 1459) (by decide +kernel), List.mem_of_getElem? (i := 1460) (by decide +kernel)⟩
theorem lw_p58 : lw_okq (⟨"FaceSenateModel", "fresh", "(I)J"⟩, 73) := ⟨⟨by decide +kernel, by decide +kernel⟩, List.mem_of_getElem? (i := 1129) (by decide +kernel), List.mem_of_getElem? (i := 1463) (by decide +kernel), List.mem_of_getElem? (i := 1464) (by decide +kernel)⟩
theorem lw_p59 : lw_okq (⟨"FaceSenateModel", "readMember", "()V"⟩, 73) := ⟨⟨by decide +kernel, by decide +kernel⟩, List.mem_of_getElem? (i := 1129) (by decide +kernel), List.mem_of_getElem? (i := 1467) (by decide +kernel), List.mem_of_getElem? (i := 1468) (by decide +kernel)⟩
theorem lw_p60 : lw_okq (⟨"FaceSenateModel", "known", "(I)I"⟩, 73) := ⟨⟨by decide +kernel, by decide +kernel⟩, List.mem_of_getElem? (i := 1129) (by decide +kernel), List.mem_of_getElem? (i := 1471) (by decide +kernel), List.mem_of_getElem? (i := 1472) (by decide +kernel)⟩
theorem lw_p61 : lw_okq (⟨"FaceSenateModel", "passes", "(J)Z"⟩, 73) := ⟨⟨by decide +kernel, by decide +kernel⟩, List.mem_of_getElem? (i := 1129) (by decide +kernel), List.mem_of_getElem? (i := 1475) (by decide +kernel), List.mem_of_getElem? (i := 1476) (by decide +kernel)⟩
theorem lw_p62 : lw_okq (⟨"FaceSenateModel", "readSeat", "()I"⟩, 73) := ⟨⟨by decide +kernel, by decide +kernel⟩, List.mem_of_getElem? (i := 1129) (by decide +kernel), List.mem_of_getElem? (i := 1479) (by decide +kernel), List.mem_of_getElem? (i := 1480) (by decide +kernel)⟩
theorem lw_p63 : lw_okq (⟨"FaceSenateModel", "readRule", "(I)V"⟩, 73) := ⟨⟨by decide +kernel, by decide +kernel⟩, List.mem_of_getElem? (i := 1129) (by decide +kernel), List.mem_of_getElem? (i := 1483) (by decide +kernel), List.mem_of_getElem? (i := 1484) (by decide +kernel)⟩
def lw_privs_4 : List (MethodName × Nat) := [(⟨"FaceSenateModel", "isFull", "()Z"⟩, 73), (⟨"FaceSenateModel", "isWord", "(J)Z"⟩, 73), (⟨"FaceSenateModel", "misplaced", "()V"⟩, 73), (⟨"FaceSenateModel", "fails", "(II)V"⟩, 73), (⟨"FaceSenateModel", "numeral", "(II)I"⟩, 73), (⟨"FaceSenateModel", "after", "(JII)I"⟩, 73), (⟨"FaceSenateModel", "must", "(Z)V"⟩, 73), (⟨"FaceSenateModel", "readDistrict", "()V"⟩, 73), (⟨"FaceSenateModel", "districtHere", "()I"⟩, 73), (⟨"FaceSenateModel", "here", "([JII)I"⟩, 73), (⟨"FaceSenateModel", "fresh", "(I)J"⟩, 73), (⟨"FaceSenateModel", "readMember", "()V"⟩, 73), (⟨"FaceSenateModel", "known", "(I)I"⟩, 73), (⟨"FaceSenateModel", "passes", "(J)Z"⟩, 73), (⟨"FaceSenateModel", "readSeat", "()I"⟩, 73), (⟨"FaceSenateModel", "readRule", "(I)V"⟩, 73)]
theorem lw_r4 : ∀ q ∈ lw_privs_4, lw_okq q := List.forall_mem_cons.mpr ⟨lw_p48, List.forall_mem_cons.mpr ⟨lw_p49, List.forall_mem_cons.mpr ⟨lw_p50, List.forall_mem_cons.mpr ⟨lw_p51, List.forall_mem_cons.mpr ⟨lw_p52, List.forall_mem_cons.mpr ⟨lw_p53, List.forall_mem_cons.mpr ⟨lw_p54, List.forall_mem_cons.mpr ⟨lw_p55, List.forall_mem_cons.mpr ⟨lw_p56, List.forall_mem_cons.mpr ⟨lw_p57, List.forall_mem_cons.mpr ⟨lw_p58, List.forall_mem_cons.mpr ⟨lw_p59, List.forall_mem_cons.mpr ⟨lw_p60, List.forall_mem_cons.mpr ⟨lw_p61, List.forall_mem_cons.mpr ⟨lw_p62, List.forall_mem_cons.mpr ⟨lw_p63, fun _ h => absurd h List.not_mem_nil⟩⟩⟩⟩⟩⟩⟩⟩⟩⟩⟩⟩⟩⟩⟩⟩
theorem lw_p64 : lw_okq (⟨"FaceSenateModel", "e", "()V"⟩, 73) := ⟨⟨by decide +kernel, by decide +kernel⟩, List.mem_of_getElem? (i := 1129) (by decide +kernel), List.mem_of_getElem? (i := 1487) (by decide +kernel), List.mem_of_getElem? (i := 1488) (by decide +kernel)⟩
theorem lw_p65 : lw_okq (⟨"FaceSenateModel", "pushE", "(II)V"⟩, 73) := ⟨⟨by decide +kernel, by decide +kernel⟩, List.mem_of_getElem? (i := 1129) (by decide +kernel), List.mem_of_getElem? (i := 1491) (by decide +kernel), List.mem_of_getElem? (i := 1492) (by decide +kernel)⟩
theorem lw_p66 : lw_okq (⟨"FaceSenateModel", "unit", "()Z"⟩, 73) := ⟨⟨by decide +kernel, by decide +kernel⟩, List.mem_of_getElem? (i := 1129) (by decide +kernel), List.mem_of_getElem? (i := 1495) (by decide +kernel), List.mem_of_getElem? (i := 1496) (by decide +kernel)⟩
theorem lw_p67 : lw_okq (⟨"FaceSenateModel", "isSignHere", "(I)Z"⟩, 73) := ⟨⟨by decide +kernel, by decide +kernel⟩, List.mem_of_getElem? (i := 1129) (by decide +kernel), List.mem_of_getElem? (i := 1499) (by decide +kernel), List.mem_of_getElem? (i := 1500) (by decide +kernel)⟩
theorem lw_p68 : lw_okq (⟨"FaceSenateModel", "wordHere", "()I"⟩, 73) := ⟨⟨by decide +kernel, by decide +kernel⟩, List.mem_of_getElem? (i := 1129) (by decide +kernel), List.mem_of_getElem? (i := 1503) (by decide +kernel), List.mem_of_getElem? (i := 1504) (by decide +kernel)⟩
theorem lw_p69 : lw_okq (⟨"FaceSenateModel", "emit", "(II)V"⟩, 73) := ⟨⟨by decide +kernel, by decide +kernel⟩, List.mem_of_getElem? (i := 1129) (by decide +kernel), List.mem_of_getElem? (i := 1507) (by decide +kernel), List.mem_of_getElem? (i := 1508) (by decide +kernel)⟩
theorem lw_p70 : lw_okq (⟨"FaceSenateModel", "behindUnit", "()Z"⟩, 73) := ⟨⟨by decide +kernel, by decide +kernel⟩, List.mem_of_getElem? (i := 1129) (by decide +kernel), List.mem_of_getElem? (i := 1511) (by decide +kernel), List.mem_of_getElem? (i := 1512) (by decide +kernel)⟩
theorem lw_p71 : lw_okq (⟨"FaceSenateModel", "rankHere", "()I"⟩, 73) := ⟨⟨by decide +kernel, by decide +kernel⟩, List.mem_of_getElem? (i := 1129) (by decide +kernel), List.mem_of_getElem? (i := 1515) (by decide +kernel), List.mem_of_getElem? (i := 1516) (by decide +kernel)⟩
theorem lw_p72 : lw_okq (⟨"FaceSenateModel", "isCompared", "()Z"⟩, 73) := ⟨⟨by decide +kernel, by decide +kernel⟩, List.mem_of_getElem? (i := 1129) (by decide +kernel), List.mem_of_getElem? (i := 1519) (by decide +kernel), List.mem_of_getElem? (i := 1520) (by decide +kernel)⟩
theorem lw_p73 : lw_okq (⟨"FaceSenateModel", "isMember", "(I)Z"⟩, 73) := ⟨⟨by decide +kernel, by decide +kernel⟩, List.mem_of_getElem? (i := 1129) (by decide +kernel), List.mem_of_getElem? (i := 1531) (by decide +kernel), List.mem_of_getElem? (i := 1532) (by decide +kernel)⟩
theorem lw_p74 : lw_okq (⟨"FaceSenateModel", "beside", "(I)I"⟩, 73) := ⟨⟨by decide +kernel, by decide +kernel⟩, List.mem_of_getElem? (i := 1129) (by decide +kernel), List.mem_of_getElem? (i := 1538) (by decide +kernel), List.mem_of_getElem? (i := 1539) (by decide +kernel)⟩
theorem lw_p75 : lw_okq (⟨"FaceSenateModel", "areBeside", "(II)Z"⟩, 73) := ⟨⟨by decide +kernel, by decide +kernel⟩, List.mem_of_getElem? (i := 1129) (by decide +kernel), List.mem_of_getElem? (i := 1542) (by decide +kernel), List.mem_of_getElem? (i := 1543) (by decide +kernel)⟩
theorem lw_p76 : lw_okq (⟨"FaceSenateModel", "facesOf", "(I)I"⟩, 73) := ⟨⟨by decide +kernel, by decide +kernel⟩, List.mem_of_getElem? (i := 1129) (by decide +kernel), List.mem_of_getElem? (i := 1549) (by decide +kernel), List.mem_of_getElem? (i := 1550) (by decide +kernel)⟩
theorem lw_p77 : lw_okq (⟨"FaceSenateModel", "brightAt", "(I)I"⟩, 73) := ⟨⟨by decide +kernel, by decide +kernel⟩, List.mem_of_getElem? (i := 1129) (by decide +kernel), List.mem_of_getElem? (i := 1556) (by decide +kernel), List.mem_of_getElem? (i := 1557) (by decide +kernel)⟩
theorem lw_p78 : lw_okq (⟨"FaceSenateModel", "comes", "(I)I"⟩, 73) := ⟨⟨by decide +kernel, by decide +kernel⟩, List.mem_of_getElem? (i := 1129) (by decide +kernel), List.mem_of_getElem? (i := 1560) (by decide +kernel), List.mem_of_getElem? (i := 1561) (by decide +kernel)⟩
theorem lw_p79 : lw_okq (⟨"FaceSenateModel", "asked", "(II)I"⟩, 73) := ⟨⟨by decide +kernel, by decide +kernel⟩, List.mem_of_getElem? (i := 1129) (by decide +kernel), List.mem_of_getElem? (i := 1564) (by decide +kernel), List.mem_of_getElem? (i := 1565) (by decide +kernel)⟩
def lw_privs_5 : List (MethodName × Nat) := [(⟨"FaceSenateModel", "e", "()V"⟩, 73), (⟨"FaceSenateModel", "pushE", "(II)V"⟩, 73), (⟨"FaceSenateModel", "unit", "()Z"⟩, 73), (⟨"FaceSenateModel", "isSignHere", "(I)Z"⟩, 73), (⟨"FaceSenateModel", "wordHere", "()I"⟩, 73), (⟨"FaceSenateModel", "emit", "(II)V"⟩, 73), (⟨"FaceSenateModel", "behindUnit", "()Z"⟩, 73), (⟨"FaceSenateModel", "rankHere", "()I"⟩, 73), (⟨"FaceSenateModel", "isCompared", "()Z"⟩, 73), (⟨"FaceSenateModel", "isMember", "(I)Z"⟩, 73), (⟨"FaceSenateModel", "beside", "(I)I"⟩, 73), (⟨"FaceSenateModel", "areBeside", "(II)Z"⟩, 73), (⟨"FaceSenateModel", "facesOf", "(I)I"⟩, 73), (⟨"FaceSenateModel", "brightAt", "(I)I"⟩, 73), (⟨"FaceSenateModel", "comes", "(I)I"⟩, 73), (⟨"FaceSenateModel", "asked", "(II)I"⟩, 73)]
theorem lw_r5 : ∀ q ∈ lw_privs_5, lw_okq q := List.forall_mem_cons.mpr ⟨lw_p64, List.forall_mem_cons.mpr ⟨lw_p65, List.forall_mem_cons.mpr ⟨lw_p66, List.forall_mem_cons.mpr ⟨lw_p67, List.forall_mem_cons.mpr ⟨lw_p68, List.forall_mem_cons.mpr ⟨lw_p69, List.forall_mem_cons.mpr ⟨lw_p70, List.forall_mem_cons.mpr ⟨lw_p71, List.forall_mem_cons.mpr ⟨lw_p72, List.forall_mem_cons.mpr ⟨lw_p73, List.forall_mem_cons.mpr ⟨lw_p74, List.forall_mem_cons.mpr ⟨lw_p75, List.forall_mem_cons.mpr ⟨lw_p76, List.forall_mem_cons.mpr ⟨lw_p77, List.forall_mem_cons.mpr ⟨lw_p78, List.forall_mem_cons.mpr ⟨lw_p79, fun _ h => absurd h List.not_mem_nil⟩⟩⟩⟩⟩⟩⟩⟩⟩⟩⟩⟩⟩⟩⟩⟩
theorem lw_p80 : lw_okq (⟨"FaceSenateModel", "membersOf", "(I)I"⟩, 73) := ⟨⟨by decide +kernel, by decide +kernel⟩, List.mem_of_getElem? (i := 1129) (by decide +kernel), List.mem_of_getElem? (i := 1575) (by decide +kernel), List.mem_of_getElem? (i := 1576) (by decide +kernel)⟩
theorem lw_p81 : lw_okq (⟨"FaceSenateModel", "offOf", "(I)I"⟩, 73) := ⟨⟨by decide +kernel, by decide +kernel⟩, List.mem_of_getElem? (i := 1129) (by decide +kernel), List.mem_of_getElem? (i := 1579) (by decide +kernel), List.mem_of_getElem? (i := 1580) (by decide +kernel)⟩
theorem lw_p82 : lw_okq (⟨"FaceSenateModel", "isSeat", "(I)Z"⟩, 73) := ⟨⟨by decide +kernel, by decide +kernel⟩, List.mem_of_getElem? (i := 1129) (by decide +kernel), List.mem_of_getElem? (i := 1590) (by decide +kernel), List.mem_of_getElem? (i := 1591) (by decide +kernel)⟩
theorem lw_p83 : lw_okq (⟨"FaceSenateModel", "seats", "()I"⟩, 73) := ⟨⟨by decide +kernel, by decide +kernel⟩, List.mem_of_getElem? (i := 1129) (by decide +kernel), List.mem_of_getElem? (i := 1594) (by decide +kernel), List.mem_of_getElem? (i := 1595) (by decide +kernel)⟩
theorem lw_p84 : lw_okq (⟨"FaceSenateModel", "whoSits", "(I)I"⟩, 73) := ⟨⟨by decide +kernel, by decide +kernel⟩, List.mem_of_getElem? (i := 1129) (by decide +kernel), List.mem_of_getElem? (i := 1598) (by decide +kernel), List.mem_of_getElem? (i := 1599) (by decide +kernel)⟩
theorem lw_p85 : lw_okq (⟨"FaceSenateModel", "reportNow", "()I"⟩, 73) := ⟨⟨by decide +kernel, by decide +kernel⟩, List.mem_of_getElem? (i := 1129) (by decide +kernel), List.mem_of_getElem? (i := 1606) (by decide +kernel), List.mem_of_getElem? (i := 1607) (by decide +kernel)⟩
theorem lw_p86 : lw_okq (⟨"FaceSenateModel", "everybody", "()I"⟩, 73) := ⟨⟨by decide +kernel, by decide +kernel⟩, List.mem_of_getElem? (i := 1129) (by decide +kernel), List.mem_of_getElem? (i := 1610) (by decide +kernel), List.mem_of_getElem? (i := 1611) (by decide +kernel)⟩
theorem lw_p87 : lw_okq (⟨"FaceSenateModel", "allOff", "()I"⟩, 73) := ⟨⟨by decide +kernel, by decide +kernel⟩, List.mem_of_getElem? (i := 1129) (by decide +kernel), List.mem_of_getElem? (i := 1618) (by decide +kernel), List.mem_of_getElem? (i := 1619) (by decide +kernel)⟩
theorem lw_p88 : lw_okq (⟨"FaceSenateModel", "keepAct", "()V"⟩, 73) := ⟨⟨by decide +kernel, by decide +kernel⟩, List.mem_of_getElem? (i := 1129) (by decide +kernel), List.mem_of_getElem? (i := 1630) (by decide +kernel), List.mem_of_getElem? (i := 1631) (by decide +kernel)⟩
theorem lw_p89 : lw_okq (⟨"FaceSenateModel", "goInEarnest", "()I"⟩, 73) := ⟨⟨by decide +kernel, by decide +kernel⟩, List.mem_of_getElem? (i := 1129) (by decide +kernel), List.mem_of_getElem? (i := 1634) (by decide +kernel), List.mem_of_getElem? (i := 1635) (by decide +kernel)⟩
theorem lw_p90 : lw_okq (⟨"FaceSenateModel", "goStep", "()I"⟩, 73) := ⟨⟨by decide +kernel, by decide +kernel⟩, List.mem_of_getElem? (i := 1129) (by decide +kernel), List.mem_of_getElem? (i := 1638) (by decide +kernel), List.mem_of_getElem? (i := 1639) (by decide +kernel)⟩
theorem lw_p91 : lw_okq (⟨"FaceSenateModel", "lookOf", "(I)I"⟩, 73) := ⟨⟨by decide +kernel, by decide +kernel⟩, List.mem_of_getElem? (i := 1129) (by decide +kernel), List.mem_of_getElem? (i := 1642) (by decide +kernel), List.mem_of_getElem? (i := 1643) (by decide +kernel)⟩
theorem lw_p92 : lw_okq (⟨"FaceSenateModel", "canChange", "(II)Z"⟩, 73) := ⟨⟨by decide +kernel, by decide +kernel⟩, List.mem_of_getElem? (i := 1129) (by decide +kernel), List.mem_of_getElem? (i := 1661) (by decide +kernel), List.mem_of_getElem? (i := 1662) (by decide +kernel)⟩
theorem lw_p93 : lw_okq (⟨"FaceSenateModel", "changeBoth", "(II)V"⟩, 73) := ⟨⟨by decide +kernel, by decide +kernel⟩, List.mem_of_getElem? (i := 1129) (by decide +kernel), List.mem_of_getElem? (i := 1665) (by decide +kernel), List.mem_of_getElem? (i := 1666) (by decide +kernel)⟩
theorem lw_p94 : lw_okq (⟨"FaceSenateModel", "exchange", "()V"⟩, 73) := ⟨⟨by decide +kernel, by decide +kernel⟩, List.mem_of_getElem? (i := 1129) (by decide +kernel), List.mem_of_getElem? (i := 1677) (by decide +kernel), List.mem_of_getElem? (i := 1678) (by decide +kernel)⟩
theorem lw_p95 : lw_okq (⟨"FaceSenateModel", "offWith", "(II)I"⟩, 73) := ⟨⟨by decide +kernel, by decide +kernel⟩, List.mem_of_getElem? (i := 1129) (by decide +kernel), List.mem_of_getElem? (i := 1689) (by decide +kernel), List.mem_of_getElem? (i := 1690) (by decide +kernel)⟩
def lw_privs_6 : List (MethodName × Nat) := [(⟨"FaceSenateModel", "membersOf", "(I)I"⟩, 73), (⟨"FaceSenateModel", "offOf", "(I)I"⟩, 73), (⟨"FaceSenateModel", "isSeat", "(I)Z"⟩, 73), (⟨"FaceSenateModel", "seats", "()I"⟩, 73), (⟨"FaceSenateModel", "whoSits", "(I)I"⟩, 73), (⟨"FaceSenateModel", "reportNow", "()I"⟩, 73), (⟨"FaceSenateModel", "everybody", "()I"⟩, 73), (⟨"FaceSenateModel", "allOff", "()I"⟩, 73), (⟨"FaceSenateModel", "keepAct", "()V"⟩, 73), (⟨"FaceSenateModel", "goInEarnest", "()I"⟩, 73), (⟨"FaceSenateModel", "goStep", "()I"⟩, 73), (⟨"FaceSenateModel", "lookOf", "(I)I"⟩, 73), (⟨"FaceSenateModel", "canChange", "(II)Z"⟩, 73), (⟨"FaceSenateModel", "changeBoth", "(II)V"⟩, 73), (⟨"FaceSenateModel", "exchange", "()V"⟩, 73), (⟨"FaceSenateModel", "offWith", "(II)I"⟩, 73)]
theorem lw_r6 : ∀ q ∈ lw_privs_6, lw_okq q := List.forall_mem_cons.mpr ⟨lw_p80, List.forall_mem_cons.mpr ⟨lw_p81, List.forall_mem_cons.mpr ⟨lw_p82, List.forall_mem_cons.mpr ⟨lw_p83, List.forall_mem_cons.mpr ⟨lw_p84, List.forall_mem_cons.mpr ⟨lw_p85, List.forall_mem_cons.mpr ⟨lw_p86, List.forall_mem_cons.mpr ⟨lw_p87, List.forall_mem_cons.mpr ⟨lw_p88, List.forall_mem_cons.mpr ⟨lw_p89, List.forall_mem_cons.mpr ⟨lw_p90, List.forall_mem_cons.mpr ⟨lw_p91, List.forall_mem_cons.mpr ⟨lw_p92, List.forall_mem_cons.mpr ⟨lw_p93, List.forall_mem_cons.mpr ⟨lw_p94, List.forall_mem_cons.mpr ⟨lw_p95, fun _ h => absurd h List.not_mem_nil⟩⟩⟩⟩⟩⟩⟩⟩⟩⟩⟩⟩⟩⟩⟩⟩
theorem lw_p96 : lw_okq (⟨"FaceSenateModel", "awayOf", "(I)I"⟩, 73) := ⟨⟨by decide +kernel, by decide +kernel⟩, List.mem_of_getElem? (i := 1129) (by decide +kernel), List.mem_of_getElem? (i := 1697) (by decide +kernel), List.mem_of_getElem? (i := 1698) (by decide +kernel)⟩
theorem lw_p97 : lw_okq (⟨"FaceSenateModel", "layFar", "(I)V"⟩, 73) := ⟨⟨by decide +kernel, by decide +kernel⟩, List.mem_of_getElem? (i := 1129) (by decide +kernel), List.mem_of_getElem? (i := 1713) (by decide +kernel), List.mem_of_getElem? (i := 1714) (by decide +kernel)⟩
theorem lw_p98 : lw_okq (⟨"FaceSenateModel", "keepNow", "()V"⟩, 73) := ⟨⟨by decide +kernel, by decide +kernel⟩, List.mem_of_getElem? (i := 1129) (by decide +kernel), List.mem_of_getElem? (i := 1728) (by decide +kernel), List.mem_of_getElem? (i := 1729) (by decide +kernel)⟩
theorem lw_p99 : lw_okq (⟨"FaceSenateModel", "reportBehind", "(I)I"⟩, 73) := ⟨⟨by decide +kernel, by decide +kernel⟩, List.mem_of_getElem? (i := 1129) (by decide +kernel), List.mem_of_getElem? (i := 1732) (by decide +kernel), List.mem_of_getElem? (i := 1733) (by decide +kernel)⟩
theorem lw_p100 : lw_okq (⟨"FaceSenateModel", "bringBack", "()V"⟩, 73) := ⟨⟨by decide +kernel, by decide +kernel⟩, List.mem_of_getElem? (i := 1129) (by decide +kernel), List.mem_of_getElem? (i := 1736) (by decide +kernel), List.mem_of_getElem? (i := 1737) (by decide +kernel)⟩
theorem lw_p101 : lw_okq (⟨"FaceSenateModel", "reportAt", "(II)I"⟩, 73) := ⟨⟨by decide +kernel, by decide +kernel⟩, List.mem_of_getElem? (i := 1129) (by decide +kernel), List.mem_of_getElem? (i := 1744) (by decide +kernel), List.mem_of_getElem? (i := 1745) (by decide +kernel)⟩
theorem lw_p102 : lw_okq (⟨"FaceSenateModel", "areAlike", "()Z"⟩, 73) := ⟨⟨by decide +kernel, by decide +kernel⟩, List.mem_of_getElem? (i := 1129) (by decide +kernel), List.mem_of_getElem? (i := 1764) (by decide +kernel), List.mem_of_getElem? (i := 1765) (by decide +kernel)⟩
theorem lw_p103 : lw_okq (⟨"FaceSenateModel", "reportByTurns", "(II)I"⟩, 73) := ⟨⟨by decide +kernel, by decide +kernel⟩, List.mem_of_getElem? (i := 1129) (by decide +kernel), List.mem_of_getElem? (i := 1791) (by decide +kernel), List.mem_of_getElem? (i := 1792) (by decide +kernel)⟩
theorem lw_p104 : lw_okq (⟨"FaceSenateModel", "offBehind", "(II)I"⟩, 73) := ⟨⟨by decide +kernel, by decide +kernel⟩, List.mem_of_getElem? (i := 1129) (by decide +kernel), List.mem_of_getElem? (i := 1803) (by decide +kernel), List.mem_of_getElem? (i := 1804) (by decide +kernel)⟩
theorem lw_p105 : lw_okq (⟨"FaceSenateModel", "doesFit", "(II)Z"⟩, 73) := ⟨⟨by decide +kernel, by decide +kernel⟩, List.mem_of_getElem? (i := 1129) (by decide +kernel), List.mem_of_getElem? (i := 1831) (by decide +kernel), List.mem_of_getElem? (i := 1832) (by decide +kernel)⟩
theorem lw_p106 : lw_okq (⟨"FaceSenateModel", "faceBy", "(III)I"⟩, 73) := ⟨⟨by decide +kernel, by decide +kernel⟩, List.mem_of_getElem? (i := 1129) (by decide +kernel), List.mem_of_getElem? (i := 1835) (by decide +kernel), List.mem_of_getElem? (i := 1836) (by decide +kernel)⟩
theorem lw_p107 : lw_okq (⟨"FaceSenateModel", "mostLike", "(III)I"⟩, 73) := ⟨⟨by decide +kernel, by decide +kernel⟩, List.mem_of_getElem? (i := 1129) (by decide +kernel), List.mem_of_getElem? (i := 1844) (by decide +kernel), List.mem_of_getElem? (i := 1845) (by decide +kernel)⟩
def lw_privs_7 : List (MethodName × Nat) := [(⟨"FaceSenateModel", "awayOf", "(I)I"⟩, 73), (⟨"FaceSenateModel", "layFar", "(I)V"⟩, 73), (⟨"FaceSenateModel", "keepNow", "()V"⟩, 73), (⟨"FaceSenateModel", "reportBehind", "(I)I"⟩, 73), (⟨"FaceSenateModel", "bringBack", "()V"⟩, 73), (⟨"FaceSenateModel", "reportAt", "(II)I"⟩, 73), (⟨"FaceSenateModel", "areAlike", "()Z"⟩, 73), (⟨"FaceSenateModel", "reportByTurns", "(II)I"⟩, 73), (⟨"FaceSenateModel", "offBehind", "(II)I"⟩, 73), (⟨"FaceSenateModel", "doesFit", "(II)Z"⟩, 73), (⟨"FaceSenateModel", "faceBy", "(III)I"⟩, 73), (⟨"FaceSenateModel", "mostLike", "(III)I"⟩, 73)]
theorem lw_r7 : ∀ q ∈ lw_privs_7, lw_okq q := List.forall_mem_cons.mpr ⟨lw_p96, List.forall_mem_cons.mpr ⟨lw_p97, List.forall_mem_cons.mpr ⟨lw_p98, List.forall_mem_cons.mpr ⟨lw_p99, List.forall_mem_cons.mpr ⟨lw_p100, List.forall_mem_cons.mpr ⟨lw_p101, List.forall_mem_cons.mpr ⟨lw_p102, List.forall_mem_cons.mpr ⟨lw_p103, List.forall_mem_cons.mpr ⟨lw_p104, List.forall_mem_cons.mpr ⟨lw_p105, List.forall_mem_cons.mpr ⟨lw_p106, List.forall_mem_cons.mpr ⟨lw_p107, fun _ h => absurd h List.not_mem_nil⟩⟩⟩⟩⟩⟩⟩⟩⟩⟩⟩⟩
def lw_privs : List (MethodName × Nat) := lw_privs_1 ++ (lw_privs_2 ++ (lw_privs_3 ++ (lw_privs_4 ++ (lw_privs_5 ++ (lw_privs_6 ++ (lw_privs_7))))))
def lw_tbl : List Cond := k2_sels lw_privs ++ tables_1
theorem lw_privs_ok : ∀ q ∈ lw_privs, lw_okq q := by
  show ∀ q ∈ lw_privs_1 ++ (lw_privs_2 ++ (lw_privs_3 ++ (lw_privs_4 ++ (lw_privs_5 ++ (lw_privs_6 ++ (lw_privs_7)))))), lw_okq q
  exact List.forall_mem_append.mpr ⟨lw_r1, List.forall_mem_append.mpr ⟨lw_r2, List.forall_mem_append.mpr ⟨lw_r3, List.forall_mem_append.mpr ⟨lw_r4, List.forall_mem_append.mpr ⟨lw_r5, List.forall_mem_append.mpr ⟨lw_r6, lw_r7⟩⟩⟩⟩⟩⟩
end
section
/-! ===== BEGIN words of one list among another's, by their places ===== -/
theorem goodIn_r {big : List Cond} (ws : List Cond) (ps : List Nat) (hp : ws = ps.filterMap (fun i => big[i]?)) (h : ws.all goodWord = true) : GoodIn big ws := by
  intro w hw
  have h1 := List.all_eq_true.mp h w hw
  rw [hp] at hw
  obtain ⟨i, -, hi⟩ := List.mem_filterMap.mp hw
  have hm : w ∈ big := by first | exact List.mem_of_getElem? hi | exact List.getElem?_mem hi
  exact ⟨hm, good_of_word h1⟩
theorem goodIn_app {big a b : List Cond} (ha : GoodIn big a) (hb : GoodIn big b) : GoodIn big (a ++ b) := fun w h => (List.mem_append.mp h).elim (ha w) (hb w)
theorem goodIn_ca {big a b : List Cond} {c : Cond} (ha : GoodIn big (c :: a)) (hb : GoodIn big b) : GoodIn big (c :: (a ++ b)) := fun w h => (List.mem_cons.mp h).elim (fun e => ha w (List.mem_cons.mpr (Or.inl e))) (fun h => (List.mem_append.mp h).elim (fun h => ha w (List.mem_cons.mpr (Or.inr h))) (hb w))
theorem goodIn_sub {big ws : List Cond} (hm : ∀ w ∈ ws, w ∈ big) (h : ws.all goodWord = true) : GoodIn big ws := fun w hw => ⟨hm w hw, good_of_word (List.all_eq_true.mp h w hw)⟩
/-! ===== END ===== -/

/-! ===== BEGIN printed: names, fields, word lists, decode rows ===== -/
def RX0 : String := "FaceSenate$Acts"
def TX0 : u_T := fun k => match k with
  | 0 => ("FaceSenate$Acts", "shelf", "LFaceSenate$Shelf;", true)
  | 1 => ("FaceSenate$Acts", "done", "I", false)
  | _ => ("FaceSenate$Acts", "undone", "I", false)
def tyX0 : Nat → FieldType := fun k => match k with
  | 0 => .object "FaceSenate$Shelf"
  | 1 => .int
  | _ => .int
abbrev wsX00 : List Cond := u_ws RX0 TX0 3
theorem nmX0 : ∀ a, a < 3 → ∀ b, b < 3 → a ≠ b → (TX0 a).2.1 ≠ (TX0 b).2.1 := by decide +kernel
theorem tyX0_ok : ∀ k, k < 3 → parseFieldDescriptor (TX0 k).2.2.1 = some (tyX0 k) := by decide +kernel
abbrev cX0_init : ByteArray := prog_2_method_1_code
def yX0_init : MethodName := ⟨RX0, "<init>", "()V"⟩
abbrev cX0_clear : ByteArray := prog_2_method_2_code
def yX0_clear : MethodName := ⟨RX0, "clear", "()V"⟩
abbrev cX0_keep : ByteArray := prog_2_method_3_code
def yX0_keep : MethodName := ⟨RX0, "keep", "(LFaceSenate$Sitting;)V"⟩
abbrev cX0_takeBack : ByteArray := prog_2_method_4_code
def yX0_takeBack : MethodName := ⟨RX0, "takeBack", "(LFaceSenate$Sitting;)Z"⟩
abbrev cX0_doAgain : ByteArray := prog_2_method_5_code
def yX0_doAgain : MethodName := ⟨RX0, "doAgain", "(LFaceSenate$Sitting;)Z"⟩
def RX1 : String := "FaceSenate$Formula"
def TX1 : u_T := fun k => match k with
  | 0 => ("FaceSenate$Formula", "codes", "[I", true)
  | 1 => ("FaceSenate$Formula", "stack", "[I", true)
  | 2 => ("FaceSenate$Formula", "length", "I", false)
  | _ => ("FaceSenate$Formula", "units", "I", false)
def tyX1 : Nat → FieldType := fun k => match k with
  | 0 => .array .int
  | 1 => .array .int
  | 2 => .int
  | _ => .int
abbrev wsX10 : List Cond := u_ws RX1 TX1 4
theorem nmX1 : ∀ a, a < 4 → ∀ b, b < 4 → a ≠ b → (TX1 a).2.1 ≠ (TX1 b).2.1 := by decide +kernel
theorem tyX1_ok : ∀ k, k < 4 → parseFieldDescriptor (TX1 k).2.2.1 = some (tyX1 k) := by decide +kernel
abbrev cX1_init : ByteArray := prog_3_method_1_code
def yX1_init : MethodName := ⟨RX1, "<init>", "()V"⟩
abbrev cX1_clear : ByteArray := prog_3_method_2_code
def yX1_clear : MethodName := ⟨RX1, "clear", "()V"⟩
abbrev cX1_add : ByteArray := prog_3_method_3_code
def yX1_add : MethodName := ⟨RX1, "add", "(I)V"⟩
abbrev cX1_worth : ByteArray := prog_3_method_4_code
def yX1_worth : MethodName := ⟨RX1, "worth", "([I)I"⟩
abbrev cX1_operand : ByteArray := prog_3_method_5_code
def yX1_operand : MethodName := ⟨RX1, "operand", "(I[I)I"⟩
abbrev cX1_joined : ByteArray := prog_3_method_6_code
def yX1_joined : MethodName := ⟨RX1, "joined", "(III)I"⟩
def RX2 : String := "FaceSenate$Looks"
def TX2 : u_T := fun k => match k with
  | 0 => ("FaceSenate$Looks", "steps", "[I", true)
  | 1 => ("FaceSenate$Looks", "members", "[I", true)
  | 2 => ("FaceSenate$Looks", "faces", "[I", true)
  | 3 => ("FaceSenate$Looks", "wants", "[Z", true)
  | 4 => ("FaceSenate$Looks", "toldAt", "[I", true)
  | 5 => ("FaceSenate$Looks", "untoldAt", "[I", true)
  | _ => ("FaceSenate$Looks", "count", "I", false)
def tyX2 : Nat → FieldType := fun k => match k with
  | 0 => .array .int
  | 1 => .array .int
  | 2 => .array .int
  | 3 => .array .boolean
  | 4 => .array .int
  | 5 => .array .int
  | _ => .int
abbrev wsX20 : List Cond := u_ws RX2 TX2 7
theorem nmX2 : ∀ a, a < 7 → ∀ b, b < 7 → a ≠ b → (TX2 a).2.1 ≠ (TX2 b).2.1 := by decide +kernel
theorem tyX2_ok : ∀ k, k < 7 → parseFieldDescriptor (TX2 k).2.2.1 = some (tyX2 k) := by decide +kernel
abbrev cX2_init : ByteArray := prog_4_method_1_code
def yX2_init : MethodName := ⟨RX2, "<init>", "()V"⟩
abbrev cX2_clear : ByteArray := prog_4_method_2_code
def yX2_clear : MethodName := ⟨RX2, "clear", "()V"⟩
abbrev cX2_tell : ByteArray := prog_4_method_3_code
def yX2_tell : MethodName := ⟨RX2, "tell", "(IIIZI)I"⟩
abbrev cX2_takeBack : ByteArray := prog_4_method_4_code
def yX2_takeBack : MethodName := ⟨RX2, "takeBack", "(II)Z"⟩
abbrev cX2_counts : ByteArray := prog_4_method_5_code
def yX2_counts : MethodName := ⟨RX2, "counts", "(II)Z"⟩
abbrev cX2_deepest : ByteArray := prog_4_method_6_code
def yX2_deepest : MethodName := ⟨RX2, "deepest", "(I)I"⟩
abbrev cX2_areSo : ByteArray := prog_4_method_7_code
def yX2_areSo : MethodName := ⟨RX2, "areSo", "(IILFaceSenate$Sitting;)Z"⟩
def RX3 : String := "FaceSenate$Plan"
def TX3 : u_T := fun k => match k with
  | 0 => ("FaceSenate$Plan", "districtNames", "[J", true)
  | 1 => ("FaceSenate$Plan", "moods", "[I", true)
  | 2 => ("FaceSenate$Plan", "memberNames", "[J", true)
  | 3 => ("FaceSenate$Plan", "homes", "[I", true)
  | 4 => ("FaceSenate$Plan", "faces", "[I", true)
  | 5 => ("FaceSenate$Plan", "stoics", "[I", true)
  | 6 => ("FaceSenate$Plan", "seats", "[I", true)
  | 7 => ("FaceSenate$Plan", "look", "LFaceSenate$Formula;", true)
  | 8 => ("FaceSenate$Plan", "light", "LFaceSenate$Formula;", true)
  | 9 => ("FaceSenate$Plan", "columns", "I", false)
  | 10 => ("FaceSenate$Plan", "rows", "I", false)
  | 11 => ("FaceSenate$Plan", "districts", "I", false)
  | 12 => ("FaceSenate$Plan", "members", "I", false)
  | 13 => ("FaceSenate$Plan", "tooth", "I", false)
  | 14 => ("FaceSenate$Plan", "ache", "I", false)
  | 15 => ("FaceSenate$Plan", "draw", "I", false)
  | 16 => ("FaceSenate$Plan", "toothTold", "Z", false)
  | _ => ("FaceSenate$Plan", "drawTold", "Z", false)
def tyX3 : Nat → FieldType := fun k => match k with
  | 0 => .array .long
  | 1 => .array .int
  | 2 => .array .long
  | 3 => .array .int
  | 4 => .array .int
  | 5 => .array .int
  | 6 => .array .int
  | 7 => .object "FaceSenate$Formula"
  | 8 => .object "FaceSenate$Formula"
  | 9 => .int
  | 10 => .int
  | 11 => .int
  | 12 => .int
  | 13 => .int
  | 14 => .int
  | 15 => .int
  | 16 => .boolean
  | _ => .boolean
abbrev wsX30 : List Cond := u_ws RX3 TX3 18
theorem nmX3 : ∀ a, a < 18 → ∀ b, b < 18 → a ≠ b → (TX3 a).2.1 ≠ (TX3 b).2.1 := by decide +kernel
theorem tyX3_ok : ∀ k, k < 18 → parseFieldDescriptor (TX3 k).2.2.1 = some (tyX3 k) := by decide +kernel
abbrev cX3_init : ByteArray := prog_5_method_1_code
def yX3_init : MethodName := ⟨RX3, "<init>", "()V"⟩
abbrev cX3_clear : ByteArray := prog_5_method_2_code
def yX3_clear : MethodName := ⟨RX3, "clear", "()V"⟩
abbrev cX3_seatCount : ByteArray := prog_5_method_3_code
def yX3_seatCount : MethodName := ⟨RX3, "seatCount", "()I"⟩
abbrev cX3_membersOf : ByteArray := prog_5_method_4_code
def yX3_membersOf : MethodName := ⟨RX3, "membersOf", "(I)I"⟩
abbrev cX3_offOf : ByteArray := prog_5_method_5_code
def yX3_offOf : MethodName := ⟨RX3, "offOf", "(ILFaceSenate$Sitting;)I"⟩
abbrev cX3_offOfAll : ByteArray := prog_5_method_6_code
def yX3_offOfAll : MethodName := ⟨RX3, "offOfAll", "(LFaceSenate$Sitting;)I"⟩
def RX4 : String := "FaceSenate$Reader"
def TX4 : u_T := fun k => match k with
  | 0 => ("FaceSenate$Reader", "tape", "LFaceSenate$Tape;", true)
  | 1 => ("FaceSenate$Reader", "plan", "LFaceSenate$Plan;", false)
  | 2 => ("FaceSenate$Reader", "fault", "I", false)
  | _ => ("FaceSenate$Reader", "faultPlace", "I", false)
def tyX4 : Nat → FieldType := fun k => match k with
  | 0 => .object "FaceSenate$Tape"
  | 1 => .object "FaceSenate$Plan"
  | 2 => .int
  | _ => .int
abbrev wsX40 : List Cond := u_ws RX4 TX4 4
theorem nmX4 : ∀ a, a < 4 → ∀ b, b < 4 → a ≠ b → (TX4 a).2.1 ≠ (TX4 b).2.1 := by decide +kernel
theorem tyX4_ok : ∀ k, k < 4 → parseFieldDescriptor (TX4 k).2.2.1 = some (tyX4 k) := by decide +kernel
abbrev cX4_init : ByteArray := prog_6_method_1_code
def yX4_init : MethodName := ⟨RX4, "<init>", "()V"⟩
abbrev cX4_read : ByteArray := prog_6_method_2_code
def yX4_read : MethodName := ⟨RX4, "read", "()V"⟩
abbrev cX4_line : ByteArray := prog_6_method_3_code
def yX4_line : MethodName := ⟨RX4, "line", "(Z)Z"⟩
abbrev cX4_hallLine : ByteArray := prog_6_method_4_code
def yX4_hallLine : MethodName := ⟨RX4, "hallLine", "()Z"⟩
abbrev cX4_districtLine : ByteArray := prog_6_method_5_code
def yX4_districtLine : MethodName := ⟨RX4, "districtLine", "()Z"⟩
abbrev cX4_memberLine : ByteArray := prog_6_method_6_code
def yX4_memberLine : MethodName := ⟨RX4, "memberLine", "()Z"⟩
abbrev cX4_homeOf : ByteArray := prog_6_method_7_code
def yX4_homeOf : MethodName := ⟨RX4, "homeOf", "(I)Z"⟩
abbrev cX4_stoicOf : ByteArray := prog_6_method_8_code
def yX4_stoicOf : MethodName := ⟨RX4, "stoicOf", "(I)Z"⟩
abbrev cX4_seatOf : ByteArray := prog_6_method_9_code
def yX4_seatOf : MethodName := ⟨RX4, "seatOf", "(I)Z"⟩
abbrev cX4_toothLine : ByteArray := prog_6_method_10_code
def yX4_toothLine : MethodName := ⟨RX4, "toothLine", "()Z"⟩
abbrev cX4_drawLine : ByteArray := prog_6_method_11_code
def yX4_drawLine : MethodName := ⟨RX4, "drawLine", "()Z"⟩
abbrev cX4_isUntold : ByteArray := prog_6_method_12_code
def yX4_isUntold : MethodName := ⟨RX4, "isUntold", "(LFaceSenate$Formula;)Z"⟩
abbrev cX4_level : ByteArray := prog_6_method_13_code
def yX4_level : MethodName := ⟨RX4, "level", "(LFaceSenate$Formula;II)Z"⟩
abbrev cX4_negation : ByteArray := prog_6_method_14_code
def yX4_negation : MethodName := ⟨RX4, "negation", "(LFaceSenate$Formula;I)Z"⟩
abbrev cX4_unit : ByteArray := prog_6_method_15_code
def yX4_unit : MethodName := ⟨RX4, "unit", "(LFaceSenate$Formula;I)Z"⟩
abbrev cX4_operatorOf : ByteArray := prog_6_method_16_code
def yX4_operatorOf : MethodName := ⟨RX4, "operatorOf", "(II)I"⟩
abbrev cX4_isNewName : ByteArray := prog_6_method_17_code
def yX4_isNewName : MethodName := ⟨RX4, "isNewName", "([JI)Z"⟩
abbrev cX4_placeOfName : ByteArray := prog_6_method_18_code
def yX4_placeOfName : MethodName := ⟨RX4, "placeOfName", "([JI)I"⟩
abbrev cX4_isNumber : ByteArray := prog_6_method_19_code
def yX4_isNumber : MethodName := ⟨RX4, "isNumber", "(II)Z"⟩
abbrev cX4_skip : ByteArray := prog_6_method_20_code
def yX4_skip : MethodName := ⟨RX4, "skip", "(I)Z"⟩
abbrev cX4_refuse : ByteArray := prog_6_method_21_code
def yX4_refuse : MethodName := ⟨RX4, "refuse", "()Z"⟩
abbrev cX4_refuseBy : ByteArray := prog_6_method_22_code
def yX4_refuseBy : MethodName := ⟨RX4, "refuseBy", "(I)Z"⟩
def RX5 : String := "FaceSenate$Shelf"
def TX5 : u_T := fun k => match k with
  | 0 => ("FaceSenate$Shelf", "size", "I", true)
  | 1 => ("FaceSenate$Shelf", "cells", "[I", true)
  | _ => ("FaceSenate$Shelf", "full", "[Z", true)
def tyX5 : Nat → FieldType := fun k => match k with
  | 0 => .int
  | 1 => .array .int
  | _ => .array .boolean
abbrev wsX50 : List Cond := u_ws RX5 TX5 3
theorem nmX5 : ∀ a, a < 3 → ∀ b, b < 3 → a ≠ b → (TX5 a).2.1 ≠ (TX5 b).2.1 := by decide +kernel
theorem tyX5_ok : ∀ k, k < 3 → parseFieldDescriptor (TX5 k).2.2.1 = some (tyX5 k) := by decide +kernel
abbrev cX5_init : ByteArray := prog_7_method_1_code
def yX5_init : MethodName := ⟨RX5, "<init>", "(I)V"⟩
abbrev cX5_clear : ByteArray := prog_7_method_2_code
def yX5_clear : MethodName := ⟨RX5, "clear", "()V"⟩
abbrev cX5_put : ByteArray := prog_7_method_3_code
def yX5_put : MethodName := ⟨RX5, "put", "(ILFaceSenate$Sitting;)V"⟩
abbrev cX5_give : ByteArray := prog_7_method_4_code
def yX5_give : MethodName := ⟨RX5, "give", "(ILFaceSenate$Sitting;)Z"⟩
abbrev cX5_dropFirst : ByteArray := prog_7_method_5_code
def yX5_dropFirst : MethodName := ⟨RX5, "dropFirst", "()V"⟩
def RX6 : String := "FaceSenate$Sitting"
def TX6 : u_T := fun k => match k with
  | 0 => ("FaceSenate$Sitting", "faces", "[I", true)
  | 1 => ("FaceSenate$Sitting", "seats", "[I", true)
  | 2 => ("FaceSenate$Sitting", "news", "I", false)
  | 3 => ("FaceSenate$Sitting", "step", "I", false)
  | _ => ("FaceSenate$Sitting", "seed", "I", false)
def tyX6 : Nat → FieldType := fun k => match k with
  | 0 => .array .int
  | 1 => .array .int
  | 2 => .int
  | 3 => .int
  | _ => .int
abbrev wsX60 : List Cond := u_ws RX6 TX6 5
theorem nmX6 : ∀ a, a < 5 → ∀ b, b < 5 → a ≠ b → (TX6 a).2.1 ≠ (TX6 b).2.1 := by decide +kernel
theorem tyX6_ok : ∀ k, k < 5 → parseFieldDescriptor (TX6 k).2.2.1 = some (tyX6 k) := by decide +kernel
abbrev cX6_init : ByteArray := prog_8_method_1_code
def yX6_init : MethodName := ⟨RX6, "<init>", "()V"⟩
abbrev cX6_begin : ByteArray := prog_8_method_2_code
def yX6_begin : MethodName := ⟨RX6, "begin", "(LFaceSenate$Plan;)V"⟩
abbrev cX6_take : ByteArray := prog_8_method_3_code
def yX6_take : MethodName := ⟨RX6, "take", "(LFaceSenate$Sitting;)V"⟩
abbrev cX6_together : ByteArray := prog_8_method_4_code
def yX6_together : MethodName := ⟨RX6, "together", "()I"⟩
abbrev cX6_facesOf : ByteArray := prog_8_method_5_code
def yX6_facesOf : MethodName := ⟨RX6, "facesOf", "(I)I"⟩
abbrev cX6_sitterOn : ByteArray := prog_8_method_6_code
def yX6_sitterOn : MethodName := ⟨RX6, "sitterOn", "(I)I"⟩
abbrev cX6_seated : ByteArray := prog_8_method_7_code
def yX6_seated : MethodName := ⟨RX6, "seated", "()I"⟩
abbrev cX6_swap : ByteArray := prog_8_method_8_code
def yX6_swap : MethodName := ⟨RX6, "swap", "(II)V"⟩
def RX7 : String := "FaceSenate$Tape"
def TX7 : u_T := fun k => match k with
  | 0 => ("FaceSenate$Tape", "bytes", "[B", true)
  | 1 => ("FaceSenate$Tape", "words", "[J", true)
  | 2 => ("FaceSenate$Tape", "after", "I", false)
  | 3 => ("FaceSenate$Tape", "length", "I", false)
  | 4 => ("FaceSenate$Tape", "kind", "I", false)
  | 5 => ("FaceSenate$Tape", "start", "I", false)
  | 6 => ("FaceSenate$Tape", "number", "I", false)
  | _ => ("FaceSenate$Tape", "name", "J", false)
def tyX7 : Nat → FieldType := fun k => match k with
  | 0 => .array .byte
  | 1 => .array .long
  | 2 => .int
  | 3 => .int
  | 4 => .int
  | 5 => .int
  | 6 => .int
  | _ => .long
abbrev wsX70 : List Cond := u_ws RX7 TX7 8
theorem nmX7 : ∀ a, a < 8 → ∀ b, b < 8 → a ≠ b → (TX7 a).2.1 ≠ (TX7 b).2.1 := by decide +kernel
theorem tyX7_ok : ∀ k, k < 8 → parseFieldDescriptor (TX7 k).2.2.1 = some (tyX7 k) := by decide +kernel
abbrev cX7_init : ByteArray := prog_9_method_1_code
def yX7_init : MethodName := ⟨RX7, "<init>", "()V"⟩
abbrev cX7_add : ByteArray := prog_9_method_2_code
def yX7_add : MethodName := ⟨RX7, "add", "(I)V"⟩
abbrev cX7_toFirst : ByteArray := prog_9_method_3_code
def yX7_toFirst : MethodName := ⟨RX7, "toFirst", "()V"⟩
abbrev cX7_toNext : ByteArray := prog_9_method_4_code
def yX7_toNext : MethodName := ⟨RX7, "toNext", "()V"⟩
abbrev cX7_readWord : ByteArray := prog_9_method_5_code
def yX7_readWord : MethodName := ⟨RX7, "readWord", "()V"⟩
abbrev cX7_readNumber : ByteArray := prog_9_method_6_code
def yX7_readNumber : MethodName := ⟨RX7, "readNumber", "()V"⟩
abbrev cX7_isAt : ByteArray := prog_9_method_7_code
def yX7_isAt : MethodName := ⟨RX7, "isAt", "(I)Z"⟩
abbrev cX7_isLetter : ByteArray := prog_9_method_8_code
def yX7_isLetter : MethodName := ⟨RX7, "isLetter", "(I)Z"⟩
abbrev cX7_isDigit : ByteArray := prog_9_method_9_code
def yX7_isDigit : MethodName := ⟨RX7, "isDigit", "(I)Z"⟩
abbrev cX7_codeWith : ByteArray := prog_9_method_10_code
def yX7_codeWith : MethodName := ⟨RX7, "codeWith", "(JI)J"⟩
def RX8 : String := "FaceSenate$Trial"
def TX8 : u_T := fun k => match k with
  | 0 => ("FaceSenate$Trial", "sitting", "LFaceSenate$Sitting;", true)
  | 1 => ("FaceSenate$Trial", "beside", "[I", true)
  | 2 => ("FaceSenate$Trial", "rows", "[I", true)
  | 3 => ("FaceSenate$Trial", "columns", "[I", true)
  | 4 => ("FaceSenate$Trial", "next", "[I", true)
  | 5 => ("FaceSenate$Trial", "kept", "[I", true)
  | 6 => ("FaceSenate$Trial", "seen", "[I", true)
  | 7 => ("FaceSenate$Trial", "lit", "[I", true)
  | 8 => ("FaceSenate$Trial", "litSteps", "[I", true)
  | 9 => ("FaceSenate$Trial", "litWorths", "[I", true)
  | _ => ("FaceSenate$Trial", "plan", "LFaceSenate$Plan;", false)
def tyX8 : Nat → FieldType := fun k => match k with
  | 0 => .object "FaceSenate$Sitting"
  | 1 => .array .int
  | 2 => .array .int
  | 3 => .array .int
  | 4 => .array .int
  | 5 => .array .int
  | 6 => .array .int
  | 7 => .array .int
  | 8 => .array .int
  | 9 => .array .int
  | _ => .object "FaceSenate$Plan"
abbrev wsX80 : List Cond := u_ws RX8 TX8 11
theorem nmX8 : ∀ a, a < 11 → ∀ b, b < 11 → a ≠ b → (TX8 a).2.1 ≠ (TX8 b).2.1 := by decide +kernel
theorem tyX8_ok : ∀ k, k < 11 → parseFieldDescriptor (TX8 k).2.2.1 = some (tyX8 k) := by decide +kernel
abbrev cX8_init : ByteArray := prog_10_method_1_code
def yX8_init : MethodName := ⟨RX8, "<init>", "()V"⟩
abbrev cX8_begin : ByteArray := prog_10_method_2_code
def yX8_begin : MethodName := ⟨RX8, "begin", "(LFaceSenate$Plan;LFaceSenate$Sitting;)V"⟩
abbrev cX8_arrange : ByteArray := prog_10_method_3_code
def yX8_arrange : MethodName := ⟨RX8, "arrange", "()V"⟩
abbrev cX8_areBeside : ByteArray := prog_10_method_4_code
def yX8_areBeside : MethodName := ⟨RX8, "areBeside", "(II)Z"⟩
abbrev cX8_besideOf : ByteArray := prog_10_method_5_code
def yX8_besideOf : MethodName := ⟨RX8, "besideOf", "(I)I"⟩
abbrev cX8_besideAny : ByteArray := prog_10_method_6_code
def yX8_besideAny : MethodName := ⟨RX8, "besideAny", "(I)I"⟩
abbrev cX8_passAll : ByteArray := prog_10_method_7_code
def yX8_passAll : MethodName := ⟨RX8, "passAll", "(I)V"⟩
abbrev cX8_pass : ByteArray := prog_10_method_8_code
def yX8_pass : MethodName := ⟨RX8, "pass", "()I"⟩
abbrev cX8_nextFace : ByteArray := prog_10_method_9_code
def yX8_nextFace : MethodName := ⟨RX8, "nextFace", "(LFaceSenate$Plan;I)I"⟩
abbrev cX8_wince : ByteArray := prog_10_method_10_code
def yX8_wince : MethodName := ⟨RX8, "wince", "()I"⟩
abbrev cX8_brightAt : ByteArray := prog_10_method_11_code
def yX8_brightAt : MethodName := ⟨RX8, "brightAt", "(II)I"⟩
abbrev cX8_forgetLight : ByteArray := prog_10_method_12_code
def yX8_forgetLight : MethodName := ⟨RX8, "forgetLight", "()V"⟩
abbrev cX8_allAlike : ByteArray := prog_10_method_13_code
def yX8_allAlike : MethodName := ⟨RX8, "allAlike", "()Z"⟩
abbrev cX8_keepFaces : ByteArray := prog_10_method_14_code
def yX8_keepFaces : MethodName := ⟨RX8, "keepFaces", "(I)V"⟩
abbrev cX8_takeKept : ByteArray := prog_10_method_15_code
def yX8_takeKept : MethodName := ⟨RX8, "takeKept", "(I)V"⟩
abbrev cX8_unlikeKept : ByteArray := prog_10_method_16_code
def yX8_unlikeKept : MethodName := ⟨RX8, "unlikeKept", "(I)I"⟩
def RX9 : String := "FaceSenate"
def TX9 : u_T := fun k => match k with
  | 0 => ("FaceSenate", "reader", "LFaceSenate$Reader;", true)
  | 1 => ("FaceSenate", "plan", "LFaceSenate$Plan;", false)
  | 2 => ("FaceSenate", "now", "LFaceSenate$Sitting;", true)
  | 3 => ("FaceSenate", "trial", "LFaceSenate$Trial;", true)
  | 4 => ("FaceSenate", "acts", "LFaceSenate$Acts;", true)
  | 5 => ("FaceSenate", "boxes", "LFaceSenate$Shelf;", true)
  | 6 => ("FaceSenate", "told", "LFaceSenate$Looks;", true)
  | 7 => ("FaceSenate", "lying", "[I", true)
  | 8 => ("FaceSenate", "rings", "[I", true)
  | 9 => ("FaceSenate", "tally", "[I", true)
  | 10 => ("FaceSenate", "asked", "[I", true)
  | 11 => ("FaceSenate", "lyingCount", "I", false)
  | 12 => ("FaceSenate", "time", "I", false)
  | 13 => ("FaceSenate", "faultNumber", "I", false)
  | 14 => ("FaceSenate", "faultPlace", "I", false)
  | _ => ("FaceSenate", "opening", "I", false)
def tyX9 : Nat → FieldType := fun k => match k with
  | 0 => .object "FaceSenate$Reader"
  | 1 => .object "FaceSenate$Plan"
  | 2 => .object "FaceSenate$Sitting"
  | 3 => .object "FaceSenate$Trial"
  | 4 => .object "FaceSenate$Acts"
  | 5 => .object "FaceSenate$Shelf"
  | 6 => .object "FaceSenate$Looks"
  | 7 => .array .int
  | 8 => .array .int
  | 9 => .array .int
  | 10 => .array .int
  | 11 => .int
  | 12 => .int
  | 13 => .int
  | 14 => .int
  | _ => .int
abbrev wsX90 : List Cond := u_ws RX9 TX9 16
theorem nmX9 : ∀ a, a < 16 → ∀ b, b < 16 → a ≠ b → (TX9 a).2.1 ≠ (TX9 b).2.1 := by decide +kernel
theorem tyX9_ok : ∀ k, k < 16 → parseFieldDescriptor (TX9 k).2.2.1 = some (tyX9 k) := by decide +kernel
abbrev cX9_init : ByteArray := prog_1_method_1_code
def yX9_init : MethodName := ⟨RX9, "<init>", "()V"⟩
abbrev cX9_feed : ByteArray := prog_1_method_2_code
def yX9_feed : MethodName := ⟨RX9, "feed", "(IIIII)I"⟩
abbrev cX9_end : ByteArray := prog_1_method_3_code
def yX9_end : MethodName := ⟨RX9, "end", "(I)I"⟩
abbrev cX9_senate : ByteArray := prog_1_method_4_code
def yX9_senate : MethodName := ⟨RX9, "senate", "()I"⟩
abbrev cX9_fault : ByteArray := prog_1_method_5_code
def yX9_fault : MethodName := ⟨RX9, "fault", "(I)I"⟩
abbrev cX9_member : ByteArray := prog_1_method_6_code
def yX9_member : MethodName := ⟨RX9, "member", "(II)I"⟩
abbrev cX9_district : ByteArray := prog_1_method_7_code
def yX9_district : MethodName := ⟨RX9, "district", "(II)I"⟩
abbrev cX9_seat : ByteArray := prog_1_method_8_code
def yX9_seat : MethodName := ⟨RX9, "seat", "(II)I"⟩
abbrev cX9_report : ByteArray := prog_1_method_9_code
def yX9_report : MethodName := ⟨RX9, "report", "()I"⟩
abbrev cX9_off : ByteArray := prog_1_method_10_code
def yX9_off : MethodName := ⟨RX9, "off", "()I"⟩
abbrev cX9_step : ByteArray := prog_1_method_11_code
def yX9_step : MethodName := ⟨RX9, "step", "()I"⟩
abbrev cX9_news : ByteArray := prog_1_method_12_code
def yX9_news : MethodName := ⟨RX9, "news", "(I)I"⟩
abbrev cX9_sit : ByteArray := prog_1_method_13_code
def yX9_sit : MethodName := ⟨RX9, "sit", "(II)I"⟩
abbrev cX9_change : ByteArray := prog_1_method_14_code
def yX9_change : MethodName := ⟨RX9, "change", "(II)Z"⟩
abbrev cX9_unseat : ByteArray := prog_1_method_15_code
def yX9_unseat : MethodName := ⟨RX9, "unseat", "(I)I"⟩
abbrev cX9_undo : ByteArray := prog_1_method_16_code
def yX9_undo : MethodName := ⟨RX9, "undo", "()Z"⟩
abbrev cX9_redo : ByteArray := prog_1_method_17_code
def yX9_redo : MethodName := ⟨RX9, "redo", "()Z"⟩
abbrev cX9_stand : ByteArray := prog_1_method_18_code
def yX9_stand : MethodName := ⟨RX9, "stand", "(II)I"⟩
abbrev cX9_sample : ByteArray := prog_1_method_19_code
def yX9_sample : MethodName := ⟨RX9, "sample", "(II)I"⟩
abbrev cX9_samples : ByteArray := prog_1_method_20_code
def yX9_samples : MethodName := ⟨RX9, "samples", "(I)I"⟩
abbrev cX9_sampleOff : ByteArray := prog_1_method_21_code
def yX9_sampleOff : MethodName := ⟨RX9, "sampleOff", "(II)I"⟩
abbrev cX9_chain : ByteArray := prog_1_method_22_code
def yX9_chain : MethodName := ⟨RX9, "chain", "(II)I"⟩
abbrev cX9_ringOf : ByteArray := prog_1_method_23_code
def yX9_ringOf : MethodName := ⟨RX9, "ringOf", "(II)I"⟩
abbrev cX9_layDown : ByteArray := prog_1_method_24_code
def yX9_layDown : MethodName := ⟨RX9, "layDown", "(I)V"⟩
abbrev cX9_firstOf : ByteArray := prog_1_method_25_code
def yX9_firstOf : MethodName := ⟨RX9, "firstOf", "(I)I"⟩
abbrev cX9_groups : ByteArray := prog_1_method_26_code
def yX9_groups : MethodName := ⟨RX9, "groups", "()I"⟩
abbrev cX9_groupOf : ByteArray := prog_1_method_27_code
def yX9_groupOf : MethodName := ⟨RX9, "groupOf", "(I)I"⟩
abbrev cX9_place : ByteArray := prog_1_method_28_code
def yX9_place : MethodName := ⟨RX9, "place", "(II)I"⟩
abbrev cX9_reportSeated : ByteArray := prog_1_method_29_code
def yX9_reportSeated : MethodName := ⟨RX9, "reportSeated", "(II)I"⟩
abbrev cX9_move : ByteArray := prog_1_method_30_code
def yX9_move : MethodName := ⟨RX9, "move", "(I)I"⟩
abbrev cX9_reportChanged : ByteArray := prog_1_method_31_code
def yX9_reportChanged : MethodName := ⟨RX9, "reportChanged", "(II)I"⟩
abbrev cX9_brightest : ByteArray := prog_1_method_32_code
def yX9_brightest : MethodName := ⟨RX9, "brightest", "()I"⟩
abbrev cX9_settled : ByteArray := prog_1_method_33_code
def yX9_settled : MethodName := ⟨RX9, "settled", "()I"⟩
abbrev cX9_will : ByteArray := prog_1_method_34_code
def yX9_will : MethodName := ⟨RX9, "will", "(II)I"⟩
abbrev cX9_ahead : ByteArray := prog_1_method_35_code
def yX9_ahead : MethodName := ⟨RX9, "ahead", "(I)I"⟩
abbrev cX9_alike : ByteArray := prog_1_method_36_code
def yX9_alike : MethodName := ⟨RX9, "alike", "()I"⟩
abbrev cX9_unrest : ByteArray := prog_1_method_37_code
def yX9_unrest : MethodName := ⟨RX9, "unrest", "(I)I"⟩
abbrev cX9_sways : ByteArray := prog_1_method_38_code
def yX9_sways : MethodName := ⟨RX9, "sways", "(III)I"⟩
abbrev cX9_moved : ByteArray := prog_1_method_39_code
def yX9_moved : MethodName := ⟨RX9, "moved", "(I)I"⟩
abbrev cX9_key : ByteArray := prog_1_method_40_code
def yX9_key : MethodName := ⟨RX9, "key", "()I"⟩
abbrev cX9_parties : ByteArray := prog_1_method_41_code
def yX9_parties : MethodName := ⟨RX9, "parties", "(II)I"⟩
abbrev cX9_turn : ByteArray := prog_1_method_42_code
def yX9_turn : MethodName := ⟨RX9, "turn", "(IIII)I"⟩
abbrev cX9_least : ByteArray := prog_1_method_43_code
def yX9_least : MethodName := ⟨RX9, "least", "(II)I"⟩
abbrev cX9_best : ByteArray := prog_1_method_44_code
def yX9_best : MethodName := ⟨RX9, "best", "(I)I"⟩
abbrev cX9_goOnWith : ByteArray := prog_1_method_45_code
def yX9_goOnWith : MethodName := ⟨RX9, "goOnWith", "(II)V"⟩
abbrev cX9_odds : ByteArray := prog_1_method_46_code
def yX9_odds : MethodName := ⟨RX9, "odds", "(II)I"⟩
abbrev cX9_commonDivisor : ByteArray := prog_1_method_47_code
def yX9_commonDivisor : MethodName := ⟨RX9, "commonDivisor", "(II)I"⟩
abbrev cX9_power : ByteArray := prog_1_method_48_code
def yX9_power : MethodName := ⟨RX9, "power", "(II)I"⟩
abbrev cX9_lies : ByteArray := prog_1_method_49_code
def yX9_lies : MethodName := ⟨RX9, "lies", "(I)I"⟩
abbrev cX9_looks : ByteArray := prog_1_method_50_code
def yX9_looks : MethodName := ⟨RX9, "looks", "(IIIZ)I"⟩
abbrev cX9_untell : ByteArray := prog_1_method_51_code
def yX9_untell : MethodName := ⟨RX9, "untell", "(I)Z"⟩
abbrev cX9_later : ByteArray := prog_1_method_52_code
def yX9_later : MethodName := ⟨RX9, "later", "(I)I"⟩
abbrev cX9_fits : ByteArray := prog_1_method_53_code
def yX9_fits : MethodName := ⟨RX9, "fits", "(I)I"⟩
abbrev cX9_fittingNews : ByteArray := prog_1_method_54_code
def yX9_fittingNews : MethodName := ⟨RX9, "fittingNews", "(I)I"⟩
abbrev cX9_allAreSo : ByteArray := prog_1_method_55_code
def yX9_allAreSo : MethodName := ⟨RX9, "allAreSo", "(III)Z"⟩
abbrev cX9_ask : ByteArray := prog_1_method_56_code
def yX9_ask : MethodName := ⟨RX9, "ask", "(III)I"⟩
abbrev cX9_facesThen : ByteArray := prog_1_method_57_code
def yX9_facesThen : MethodName := ⟨RX9, "facesThen", "(II)V"⟩
abbrev cX9_mostLeft : ByteArray := prog_1_method_58_code
def yX9_mostLeft : MethodName := ⟨RX9, "mostLeft", "(II)I"⟩
abbrev cX9_image : ByteArray := prog_1_method_59_code
def yX9_image : MethodName := ⟨RX9, "image", "(I)I"⟩
abbrev cX9_back : ByteArray := prog_1_method_60_code
def yX9_back : MethodName := ⟨RX9, "back", "(I)I"⟩
abbrev cX9_about : ByteArray := prog_1_method_61_code
def yX9_about : MethodName := ⟨RX9, "about", "(I)I"⟩
abbrev cX9_isMember : ByteArray := prog_1_method_62_code
def yX9_isMember : MethodName := ⟨RX9, "isMember", "(I)Z"⟩
abbrev cX9_isSeated : ByteArray := prog_1_method_63_code
def yX9_isSeated : MethodName := ⟨RX9, "isSeated", "(I)Z"⟩
abbrev cX9_isSeat : ByteArray := prog_1_method_64_code
def yX9_isSeat : MethodName := ⟨RX9, "isSeat", "(I)Z"⟩
abbrev cX9_canChange : ByteArray := prog_1_method_65_code
def yX9_canChange : MethodName := ⟨RX9, "canChange", "(II)Z"⟩
abbrev cX9_isPart : ByteArray := prog_1_method_66_code
def yX9_isPart : MethodName := ⟨RX9, "isPart", "(I)Z"⟩
abbrev cX9_isWithin : ByteArray := prog_1_method_67_code
def yX9_isWithin : MethodName := ⟨RX9, "isWithin", "(II)Z"⟩
abbrev cX9_within : ByteArray := prog_1_method_68_code
def yX9_within : MethodName := ⟨RX9, "within", "(II)I"⟩
def RX10 : String := "FaceSenateModel"
def TX10 : u_T := fun k => match k with
  | 0 => ("FaceSenateModel", "tape", "[B", true)
  | 1 => ("FaceSenateModel", "text", "[B", true)
  | 2 => ("FaceSenateModel", "taped", "I", false)
  | 3 => ("FaceSenateModel", "size", "I", false)
  | 4 => ("FaceSenateModel", "faultKind", "I", false)
  | 5 => ("FaceSenateModel", "faultPlace", "I", false)
  | 6 => ("FaceSenateModel", "at", "I", false)
  | 7 => ("FaceSenateModel", "end", "I", false)
  | 8 => ("FaceSenateModel", "token", "I", false)
  | 9 => ("FaceSenateModel", "number", "I", false)
  | 10 => ("FaceSenateModel", "name", "J", false)
  | 11 => ("FaceSenateModel", "columns", "[I", true)
  | 12 => ("FaceSenateModel", "rows", "[I", true)
  | 13 => ("FaceSenateModel", "lines", "[I", true)
  | 14 => ("FaceSenateModel", "districts", "[I", true)
  | 15 => ("FaceSenateModel", "members", "[I", true)
  | 16 => ("FaceSenateModel", "units", "[I", true)
  | 17 => ("FaceSenateModel", "tooth", "[I", true)
  | 18 => ("FaceSenateModel", "ache", "[I", true)
  | 19 => ("FaceSenateModel", "draw", "[I", true)
  | 20 => ("FaceSenateModel", "mood", "[I", true)
  | 21 => ("FaceSenateModel", "ofDistrict", "[I", true)
  | 22 => ("FaceSenateModel", "faceTold", "[I", true)
  | 23 => ("FaceSenateModel", "stoic", "[I", true)
  | 24 => ("FaceSenateModel", "seatTold", "[I", true)
  | 25 => ("FaceSenateModel", "ruleFrom", "[I", true)
  | 26 => ("FaceSenateModel", "ruleTo", "[I", true)
  | 27 => ("FaceSenateModel", "hasLook", "[Z", true)
  | 28 => ("FaceSenateModel", "hasTooth", "[Z", true)
  | 29 => ("FaceSenateModel", "isDraw", "[Z", true)
  | 30 => ("FaceSenateModel", "dName", "[J", true)
  | 31 => ("FaceSenateModel", "mName", "[J", true)
  | 32 => ("FaceSenateModel", "code", "[I", true)
  | 33 => ("FaceSenateModel", "codeNumber", "[I", true)
  | 34 => ("FaceSenateModel", "eWhat", "[I", true)
  | 35 => ("FaceSenateModel", "eSign", "[I", true)
  | 36 => ("FaceSenateModel", "pile", "[I", true)
  | 37 => ("FaceSenateModel", "bank", "I", false)
  | 38 => ("FaceSenateModel", "rb", "I", false)
  | 39 => ("FaceSenateModel", "codes", "I", false)
  | 40 => ("FaceSenateModel", "within", "I", false)
  | 41 => ("FaceSenateModel", "piled", "I", false)
  | 42 => ("FaceSenateModel", "unitsInRule", "I", false)
  | 43 => ("FaceSenateModel", "askFace", "I", false)
  | 44 => ("FaceSenateModel", "askNear", "I", false)
  | 45 => ("FaceSenateModel", "askBeside", "I", false)
  | 46 => ("FaceSenateModel", "askBright", "I", false)
  | 47 => ("FaceSenateModel", "askStoic", "I", false)
  | 48 => ("FaceSenateModel", "askNews", "I", false)
  | 49 => ("FaceSenateModel", "askSeat", "I", false)
  | 50 => ("FaceSenateModel", "all", "[I", true)
  | 51 => ("FaceSenateModel", "faces", "[I", true)
  | 52 => ("FaceSenateModel", "was", "[I", true)
  | 53 => ("FaceSenateModel", "acts", "I", false)
  | 54 => ("FaceSenateModel", "undone", "I", false)
  | 55 => ("FaceSenateModel", "far", "[I", true)
  | 56 => ("FaceSenateModel", "laidRow", "[I", true)
  | 57 => ("FaceSenateModel", "laid", "I", false)
  | 58 => ("FaceSenateModel", "kept", "[I", true)
  | 59 => ("FaceSenateModel", "faceThen", "[I", true)
  | 60 => ("FaceSenateModel", "faceElse", "[I", true)
  | 61 => ("FaceSenateModel", "byTurns", "[I", true)
  | 62 => ("FaceSenateModel", "sSteps", "[I", true)
  | 63 => ("FaceSenateModel", "sMember", "[I", true)
  | 64 => ("FaceSenateModel", "sFace", "[I", true)
  | 65 => ("FaceSenateModel", "sIs", "[I", true)
  | 66 => ("FaceSenateModel", "sTold", "[I", true)
  | 67 => ("FaceSenateModel", "sUntold", "[I", true)
  | 68 => ("FaceSenateModel", "parts", "[I", true)
  | 69 => ("FaceSenateModel", "looked", "I", false)
  | 70 => ("FaceSenateModel", "time", "I", false)
  | 71 => ("FaceSenateModel", "boxAll", "[I", true)
  | _ => ("FaceSenateModel", "isBoxed", "[Z", true)
def tyX10 : Nat → FieldType := fun k => match k with
  | 0 => .array .byte
  | 1 => .array .byte
  | 2 => .int
  | 3 => .int
  | 4 => .int
  | 5 => .int
  | 6 => .int
  | 7 => .int
  | 8 => .int
  | 9 => .int
  | 10 => .long
  | 11 => .array .int
  | 12 => .array .int
  | 13 => .array .int
  | 14 => .array .int
  | 15 => .array .int
  | 16 => .array .int
  | 17 => .array .int
  | 18 => .array .int
  | 19 => .array .int
  | 20 => .array .int
  | 21 => .array .int
  | 22 => .array .int
  | 23 => .array .int
  | 24 => .array .int
  | 25 => .array .int
  | 26 => .array .int
  | 27 => .array .boolean
  | 28 => .array .boolean
  | 29 => .array .boolean
  | 30 => .array .long
  | 31 => .array .long
  | 32 => .array .int
  | 33 => .array .int
  | 34 => .array .int
  | 35 => .array .int
  | 36 => .array .int
  | 37 => .int
  | 38 => .int
  | 39 => .int
  | 40 => .int
  | 41 => .int
  | 42 => .int
  | 43 => .int
  | 44 => .int
  | 45 => .int
  | 46 => .int
  | 47 => .int
  | 48 => .int
  | 49 => .int
  | 50 => .array .int
  | 51 => .array .int
  | 52 => .array .int
  | 53 => .int
  | 54 => .int
  | 55 => .array .int
  | 56 => .array .int
  | 57 => .int
  | 58 => .array .int
  | 59 => .array .int
  | 60 => .array .int
  | 61 => .array .int
  | 62 => .array .int
  | 63 => .array .int
  | 64 => .array .int
  | 65 => .array .int
  | 66 => .array .int
  | 67 => .array .int
  | 68 => .array .int
  | 69 => .int
  | 70 => .int
  | 71 => .array .int
  | _ => .array .boolean
abbrev wsX100 : List Cond := u_ws RX10 TX10 73
theorem nmX10 : ∀ a, a < 73 → ∀ b, b < 73 → a ≠ b → (TX10 a).2.1 ≠ (TX10 b).2.1 := by decide +kernel
theorem tyX10_ok : ∀ k, k < 73 → parseFieldDescriptor (TX10 k).2.2.1 = some (tyX10 k) := by decide +kernel
abbrev cX10_init : ByteArray := prog_12_method_1_code
def yX10_init : MethodName := ⟨RX10, "<init>", "()V"⟩
abbrev cX10_sign : ByteArray := prog_12_method_2_code
def yX10_sign : MethodName := ⟨RX10, "sign", "(I)I"⟩
abbrev cX10_isLetter : ByteArray := prog_12_method_3_code
def yX10_isLetter : MethodName := ⟨RX10, "isLetter", "(I)Z"⟩
abbrev cX10_isDigit : ByteArray := prog_12_method_4_code
def yX10_isDigit : MethodName := ⟨RX10, "isDigit", "(I)Z"⟩
abbrev cX10_fails : ByteArray := prog_12_method_5_code
def yX10_fails : MethodName := ⟨RX10, "fails", "(II)V"⟩
abbrev cX10_isGood : ByteArray := prog_12_method_6_code
def yX10_isGood : MethodName := ⟨RX10, "isGood", "()Z"⟩
abbrev cX10_isKept : ByteArray := prog_12_method_7_code
def yX10_isKept : MethodName := ⟨RX10, "isKept", "(J)Z"⟩
abbrev cX10_isSign : ByteArray := prog_12_method_8_code
def yX10_isSign : MethodName := ⟨RX10, "isSign", "(I)Z"⟩
abbrev cX10_goOn : ByteArray := prog_12_method_9_code
def yX10_goOn : MethodName := ⟨RX10, "goOn", "()V"⟩
abbrev cX10_isSignHere : ByteArray := prog_12_method_10_code
def yX10_isSignHere : MethodName := ⟨RX10, "isSignHere", "(I)Z"⟩
abbrev cX10_isWord : ByteArray := prog_12_method_11_code
def yX10_isWord : MethodName := ⟨RX10, "isWord", "(J)Z"⟩
abbrev cX10_misplaced : ByteArray := prog_12_method_12_code
def yX10_misplaced : MethodName := ⟨RX10, "misplaced", "()V"⟩
abbrev cX10_must : ByteArray := prog_12_method_13_code
def yX10_must : MethodName := ⟨RX10, "must", "(Z)V"⟩
abbrev cX10_numeral : ByteArray := prog_12_method_14_code
def yX10_numeral : MethodName := ⟨RX10, "numeral", "(II)I"⟩
abbrev cX10_after : ByteArray := prog_12_method_15_code
def yX10_after : MethodName := ⟨RX10, "after", "(JII)I"⟩
abbrev cX10_clearBank : ByteArray := prog_12_method_16_code
def yX10_clearBank : MethodName := ⟨RX10, "clearBank", "()V"⟩
abbrev cX10_senate : ByteArray := prog_12_method_17_code
def yX10_senate : MethodName := ⟨RX10, "senate", "()I"⟩
abbrev cX10_isFull : ByteArray := prog_12_method_18_code
def yX10_isFull : MethodName := ⟨RX10, "isFull", "()Z"⟩
abbrev cX10_readLine : ByteArray := prog_12_method_19_code
def yX10_readLine : MethodName := ⟨RX10, "readLine", "()V"⟩
abbrev cX10_here : ByteArray := prog_12_method_20_code
def yX10_here : MethodName := ⟨RX10, "here", "([JII)I"⟩
abbrev cX10_districtHere : ByteArray := prog_12_method_21_code
def yX10_districtHere : MethodName := ⟨RX10, "districtHere", "()I"⟩
abbrev cX10_fresh : ByteArray := prog_12_method_22_code
def yX10_fresh : MethodName := ⟨RX10, "fresh", "(I)J"⟩
abbrev cX10_known : ByteArray := prog_12_method_23_code
def yX10_known : MethodName := ⟨RX10, "known", "(I)I"⟩
abbrev cX10_passes : ByteArray := prog_12_method_24_code
def yX10_passes : MethodName := ⟨RX10, "passes", "(J)Z"⟩
abbrev cX10_readDistrict : ByteArray := prog_12_method_25_code
def yX10_readDistrict : MethodName := ⟨RX10, "readDistrict", "()V"⟩
abbrev cX10_readSeat : ByteArray := prog_12_method_26_code
def yX10_readSeat : MethodName := ⟨RX10, "readSeat", "()I"⟩
abbrev cX10_readMember : ByteArray := prog_12_method_27_code
def yX10_readMember : MethodName := ⟨RX10, "readMember", "()V"⟩
abbrev cX10_readRule : ByteArray := prog_12_method_28_code
def yX10_readRule : MethodName := ⟨RX10, "readRule", "(I)V"⟩
abbrev cX10_emit : ByteArray := prog_12_method_29_code
def yX10_emit : MethodName := ⟨RX10, "emit", "(II)V"⟩
abbrev cX10_pushE : ByteArray := prog_12_method_30_code
def yX10_pushE : MethodName := ⟨RX10, "pushE", "(II)V"⟩
abbrev cX10_e : ByteArray := prog_12_method_31_code
def yX10_e : MethodName := ⟨RX10, "e", "()V"⟩
abbrev cX10_wordHere : ByteArray := prog_12_method_32_code
def yX10_wordHere : MethodName := ⟨RX10, "wordHere", "()I"⟩
abbrev cX10_unit : ByteArray := prog_12_method_33_code
def yX10_unit : MethodName := ⟨RX10, "unit", "()Z"⟩
abbrev cX10_rankHere : ByteArray := prog_12_method_34_code
def yX10_rankHere : MethodName := ⟨RX10, "rankHere", "()I"⟩
abbrev cX10_isCompared : ByteArray := prog_12_method_35_code
def yX10_isCompared : MethodName := ⟨RX10, "isCompared", "()Z"⟩
abbrev cX10_behindUnit : ByteArray := prog_12_method_36_code
def yX10_behindUnit : MethodName := ⟨RX10, "behindUnit", "()Z"⟩
abbrev cX10_two : ByteArray := prog_12_method_37_code
def yX10_two : MethodName := ⟨RX10, "two", "(III)I"⟩
abbrev cX10_asked : ByteArray := prog_12_method_38_code
def yX10_asked : MethodName := ⟨RX10, "asked", "(II)I"⟩
abbrev cX10_comes : ByteArray := prog_12_method_39_code
def yX10_comes : MethodName := ⟨RX10, "comes", "(I)I"⟩
abbrev cX10_fault : ByteArray := prog_12_method_40_code
def yX10_fault : MethodName := ⟨RX10, "fault", "(I)I"⟩
abbrev cX10_isIn : ByteArray := prog_12_method_41_code
def yX10_isIn : MethodName := ⟨RX10, "isIn", "(III)Z"⟩
abbrev cX10_has : ByteArray := prog_12_method_42_code
def yX10_has : MethodName := ⟨RX10, "has", "(II)Z"⟩
abbrev cX10_bitsOf : ByteArray := prog_12_method_43_code
def yX10_bitsOf : MethodName := ⟨RX10, "bitsOf", "(I)I"⟩
abbrev cX10_plain : ByteArray := prog_12_method_44_code
def yX10_plain : MethodName := ⟨RX10, "plain", "(I)I"⟩
abbrev cX10_divisor : ByteArray := prog_12_method_45_code
def yX10_divisor : MethodName := ⟨RX10, "divisor", "(II)I"⟩
abbrev cX10_power : ByteArray := prog_12_method_46_code
def yX10_power : MethodName := ⟨RX10, "power", "(II)I"⟩
abbrev cX10_many : ByteArray := prog_12_method_47_code
def yX10_many : MethodName := ⟨RX10, "many", "()I"⟩
abbrev cX10_seats : ByteArray := prog_12_method_48_code
def yX10_seats : MethodName := ⟨RX10, "seats", "()I"⟩
abbrev cX10_isMember : ByteArray := prog_12_method_49_code
def yX10_isMember : MethodName := ⟨RX10, "isMember", "(I)Z"⟩
abbrev cX10_isSeat : ByteArray := prog_12_method_50_code
def yX10_isSeat : MethodName := ⟨RX10, "isSeat", "(I)Z"⟩
abbrev cX10_isFace : ByteArray := prog_12_method_51_code
def yX10_isFace : MethodName := ⟨RX10, "isFace", "(I)Z"⟩
abbrev cX10_startAnew : ByteArray := prog_12_method_52_code
def yX10_startAnew : MethodName := ⟨RX10, "startAnew", "()V"⟩
abbrev cX10_whoSits : ByteArray := prog_12_method_53_code
def yX10_whoSits : MethodName := ⟨RX10, "whoSits", "(I)I"⟩
abbrev cX10_areBeside : ByteArray := prog_12_method_54_code
def yX10_areBeside : MethodName := ⟨RX10, "areBeside", "(II)Z"⟩
abbrev cX10_beside : ByteArray := prog_12_method_55_code
def yX10_beside : MethodName := ⟨RX10, "beside", "(I)I"⟩
abbrev cX10_facesOf : ByteArray := prog_12_method_56_code
def yX10_facesOf : MethodName := ⟨RX10, "facesOf", "(I)I"⟩
abbrev cX10_everybody : ByteArray := prog_12_method_57_code
def yX10_everybody : MethodName := ⟨RX10, "everybody", "()I"⟩
abbrev cX10_brightAt : ByteArray := prog_12_method_58_code
def yX10_brightAt : MethodName := ⟨RX10, "brightAt", "(I)I"⟩
abbrev cX10_lookOf : ByteArray := prog_12_method_59_code
def yX10_lookOf : MethodName := ⟨RX10, "lookOf", "(I)I"⟩
abbrev cX10_goStep : ByteArray := prog_12_method_60_code
def yX10_goStep : MethodName := ⟨RX10, "goStep", "()I"⟩
abbrev cX10_goInEarnest : ByteArray := prog_12_method_61_code
def yX10_goInEarnest : MethodName := ⟨RX10, "goInEarnest", "()I"⟩
abbrev cX10_member : ByteArray := prog_12_method_62_code
def yX10_member : MethodName := ⟨RX10, "member", "(II)I"⟩
abbrev cX10_membersOf : ByteArray := prog_12_method_63_code
def yX10_membersOf : MethodName := ⟨RX10, "membersOf", "(I)I"⟩
abbrev cX10_offOf : ByteArray := prog_12_method_64_code
def yX10_offOf : MethodName := ⟨RX10, "offOf", "(I)I"⟩
abbrev cX10_allOff : ByteArray := prog_12_method_65_code
def yX10_allOff : MethodName := ⟨RX10, "allOff", "()I"⟩
abbrev cX10_district : ByteArray := prog_12_method_66_code
def yX10_district : MethodName := ⟨RX10, "district", "(II)I"⟩
abbrev cX10_seat : ByteArray := prog_12_method_67_code
def yX10_seat : MethodName := ⟨RX10, "seat", "(II)I"⟩
abbrev cX10_reportNow : ByteArray := prog_12_method_68_code
def yX10_reportNow : MethodName := ⟨RX10, "reportNow", "()I"⟩
abbrev cX10_report : ByteArray := prog_12_method_69_code
def yX10_report : MethodName := ⟨RX10, "report", "()I"⟩
abbrev cX10_off : ByteArray := prog_12_method_70_code
def yX10_off : MethodName := ⟨RX10, "off", "()I"⟩
abbrev cX10_brightest : ByteArray := prog_12_method_71_code
def yX10_brightest : MethodName := ⟨RX10, "brightest", "()I"⟩
abbrev cX10_keepAct : ByteArray := prog_12_method_72_code
def yX10_keepAct : MethodName := ⟨RX10, "keepAct", "()V"⟩
abbrev cX10_exchange : ByteArray := prog_12_method_73_code
def yX10_exchange : MethodName := ⟨RX10, "exchange", "()V"⟩
abbrev cX10_step : ByteArray := prog_12_method_74_code
def yX10_step : MethodName := ⟨RX10, "step", "()I"⟩
abbrev cX10_news : ByteArray := prog_12_method_75_code
def yX10_news : MethodName := ⟨RX10, "news", "(I)I"⟩
abbrev cX10_sit : ByteArray := prog_12_method_76_code
def yX10_sit : MethodName := ⟨RX10, "sit", "(II)I"⟩
abbrev cX10_canChange : ByteArray := prog_12_method_77_code
def yX10_canChange : MethodName := ⟨RX10, "canChange", "(II)Z"⟩
abbrev cX10_changeBoth : ByteArray := prog_12_method_78_code
def yX10_changeBoth : MethodName := ⟨RX10, "changeBoth", "(II)V"⟩
abbrev cX10_change : ByteArray := prog_12_method_79_code
def yX10_change : MethodName := ⟨RX10, "change", "(II)Z"⟩
abbrev cX10_unseat : ByteArray := prog_12_method_80_code
def yX10_unseat : MethodName := ⟨RX10, "unseat", "(I)I"⟩
abbrev cX10_undo : ByteArray := prog_12_method_81_code
def yX10_undo : MethodName := ⟨RX10, "undo", "()Z"⟩
abbrev cX10_redo : ByteArray := prog_12_method_82_code
def yX10_redo : MethodName := ⟨RX10, "redo", "()Z"⟩
abbrev cX10_offWith : ByteArray := prog_12_method_83_code
def yX10_offWith : MethodName := ⟨RX10, "offWith", "(II)I"⟩
abbrev cX10_stand : ByteArray := prog_12_method_84_code
def yX10_stand : MethodName := ⟨RX10, "stand", "(II)I"⟩
abbrev cX10_awayOf : ByteArray := prog_12_method_85_code
def yX10_awayOf : MethodName := ⟨RX10, "awayOf", "(I)I"⟩
abbrev cX10_sample : ByteArray := prog_12_method_86_code
def yX10_sample : MethodName := ⟨RX10, "sample", "(II)I"⟩
abbrev cX10_samples : ByteArray := prog_12_method_87_code
def yX10_samples : MethodName := ⟨RX10, "samples", "(I)I"⟩
abbrev cX10_lies : ByteArray := prog_12_method_88_code
def yX10_lies : MethodName := ⟨RX10, "lies", "(I)I"⟩
abbrev cX10_layFar : ByteArray := prog_12_method_89_code
def yX10_layFar : MethodName := ⟨RX10, "layFar", "(I)V"⟩
abbrev cX10_chain : ByteArray := prog_12_method_90_code
def yX10_chain : MethodName := ⟨RX10, "chain", "(II)I"⟩
abbrev cX10_groups : ByteArray := prog_12_method_91_code
def yX10_groups : MethodName := ⟨RX10, "groups", "()I"⟩
abbrev cX10_keepNow : ByteArray := prog_12_method_92_code
def yX10_keepNow : MethodName := ⟨RX10, "keepNow", "()V"⟩
abbrev cX10_bringBack : ByteArray := prog_12_method_93_code
def yX10_bringBack : MethodName := ⟨RX10, "bringBack", "()V"⟩
abbrev cX10_isAhead : ByteArray := prog_12_method_94_code
def yX10_isAhead : MethodName := ⟨RX10, "isAhead", "(I)Z"⟩
abbrev cX10_reportBehind : ByteArray := prog_12_method_95_code
def yX10_reportBehind : MethodName := ⟨RX10, "reportBehind", "(I)I"⟩
abbrev cX10_ahead : ByteArray := prog_12_method_96_code
def yX10_ahead : MethodName := ⟨RX10, "ahead", "(I)I"⟩
abbrev cX10_reportAt : ByteArray := prog_12_method_97_code
def yX10_reportAt : MethodName := ⟨RX10, "reportAt", "(II)I"⟩
abbrev cX10_place : ByteArray := prog_12_method_98_code
def yX10_place : MethodName := ⟨RX10, "place", "(II)I"⟩
abbrev cX10_move : ByteArray := prog_12_method_99_code
def yX10_move : MethodName := ⟨RX10, "move", "(I)I"⟩
abbrev cX10_settled : ByteArray := prog_12_method_100_code
def yX10_settled : MethodName := ⟨RX10, "settled", "()I"⟩
abbrev cX10_will : ByteArray := prog_12_method_101_code
def yX10_will : MethodName := ⟨RX10, "will", "(II)I"⟩
abbrev cX10_areAlike : ByteArray := prog_12_method_102_code
def yX10_areAlike : MethodName := ⟨RX10, "areAlike", "()Z"⟩
abbrev cX10_alike : ByteArray := prog_12_method_103_code
def yX10_alike : MethodName := ⟨RX10, "alike", "()I"⟩
abbrev cX10_unrest : ByteArray := prog_12_method_104_code
def yX10_unrest : MethodName := ⟨RX10, "unrest", "(I)I"⟩
abbrev cX10_sways : ByteArray := prog_12_method_105_code
def yX10_sways : MethodName := ⟨RX10, "sways", "(III)I"⟩
abbrev cX10_moved : ByteArray := prog_12_method_106_code
def yX10_moved : MethodName := ⟨RX10, "moved", "(I)I"⟩
abbrev cX10_key : ByteArray := prog_12_method_107_code
def yX10_key : MethodName := ⟨RX10, "key", "()I"⟩
abbrev cX10_reportByTurns : ByteArray := prog_12_method_108_code
def yX10_reportByTurns : MethodName := ⟨RX10, "reportByTurns", "(II)I"⟩
abbrev cX10_parties : ByteArray := prog_12_method_109_code
def yX10_parties : MethodName := ⟨RX10, "parties", "(II)I"⟩
abbrev cX10_least : ByteArray := prog_12_method_110_code
def yX10_least : MethodName := ⟨RX10, "least", "(II)I"⟩
abbrev cX10_offBehind : ByteArray := prog_12_method_111_code
def yX10_offBehind : MethodName := ⟨RX10, "offBehind", "(II)I"⟩
abbrev cX10_best : ByteArray := prog_12_method_112_code
def yX10_best : MethodName := ⟨RX10, "best", "(I)I"⟩
abbrev cX10_odds : ByteArray := prog_12_method_113_code
def yX10_odds : MethodName := ⟨RX10, "odds", "(II)I"⟩
abbrev cX10_looks : ByteArray := prog_12_method_114_code
def yX10_looks : MethodName := ⟨RX10, "looks", "(IIIZ)I"⟩
abbrev cX10_untell : ByteArray := prog_12_method_115_code
def yX10_untell : MethodName := ⟨RX10, "untell", "(I)Z"⟩
abbrev cX10_later : ByteArray := prog_12_method_116_code
def yX10_later : MethodName := ⟨RX10, "later", "(I)I"⟩
abbrev cX10_faceBy : ByteArray := prog_12_method_117_code
def yX10_faceBy : MethodName := ⟨RX10, "faceBy", "(III)I"⟩
abbrev cX10_doesFit : ByteArray := prog_12_method_118_code
def yX10_doesFit : MethodName := ⟨RX10, "doesFit", "(II)Z"⟩
abbrev cX10_fits : ByteArray := prog_12_method_119_code
def yX10_fits : MethodName := ⟨RX10, "fits", "(I)I"⟩
abbrev cX10_mostLike : ByteArray := prog_12_method_120_code
def yX10_mostLike : MethodName := ⟨RX10, "mostLike", "(III)I"⟩
abbrev cX10_ask : ByteArray := prog_12_method_121_code
def yX10_ask : MethodName := ⟨RX10, "ask", "(III)I"⟩
abbrev cX10_image : ByteArray := prog_12_method_122_code
def yX10_image : MethodName := ⟨RX10, "image", "(I)I"⟩
abbrev cX10_back : ByteArray := prog_12_method_123_code
def yX10_back : MethodName := ⟨RX10, "back", "(I)I"⟩
abbrev cX10_about : ByteArray := prog_12_method_124_code
def yX10_about : MethodName := ⟨RX10, "about", "(I)I"⟩
abbrev cX10_feed : ByteArray := prog_12_method_125_code
def yX10_feed : MethodName := ⟨RX10, "feed", "(IIIII)I"⟩
abbrev cX10_end : ByteArray := prog_12_method_126_code
def yX10_end : MethodName := ⟨RX10, "end", "(I)I"⟩
def RJx145de : String := "java/io/Serializable"
def TJx145de : u_T := fun k => match k with
  | _ => ("", "", "", false)
def tyJx145de : Nat → FieldType := fun k => match k with
  | _ => .int
abbrev wsJx145de0 : List Cond := u_ws RJx145de TJx145de 0
theorem nmJx145de : ∀ a, a < 0 → ∀ b, b < 0 → a ≠ b → (TJx145de a).2.1 ≠ (TJx145de b).2.1 := by decide +kernel
theorem tyJx145de_ok : ∀ k, k < 0 → parseFieldDescriptor (TJx145de k).2.2.1 = some (tyJx145de k) := by decide +kernel
def RJx9f9b0 : String := "java/lang/CharSequence"
def TJx9f9b0 : u_T := fun k => match k with
  | _ => ("", "", "", false)
def tyJx9f9b0 : Nat → FieldType := fun k => match k with
  | _ => .int
abbrev wsJx9f9b00 : List Cond := u_ws RJx9f9b0 TJx9f9b0 0
theorem nmJx9f9b0 : ∀ a, a < 0 → ∀ b, b < 0 → a ≠ b → (TJx9f9b0 a).2.1 ≠ (TJx9f9b0 b).2.1 := by decide +kernel
theorem tyJx9f9b0_ok : ∀ k, k < 0 → parseFieldDescriptor (TJx9f9b0 k).2.2.1 = some (tyJx9f9b0 k) := by decide +kernel
def RJ11 : String := "java/lang/Character"
def TJ11 : u_T := fun k => match k with
  | _ => ("", "", "", false)
def tyJ11 : Nat → FieldType := fun k => match k with
  | _ => .int
abbrev wsJ110 : List Cond := u_ws RJ11 TJ11 0
theorem nmJ11 : ∀ a, a < 0 → ∀ b, b < 0 → a ≠ b → (TJ11 a).2.1 ≠ (TJ11 b).2.1 := by decide +kernel
theorem tyJ11_ok : ∀ k, k < 0 → parseFieldDescriptor (TJ11 k).2.2.1 = some (tyJ11 k) := by decide +kernel
abbrev cJ11_isValidCodePoint_9a6ad : ByteArray := prog_13_method_11_code
def yJ11_isValidCodePoint_9a6ad : MethodName := ⟨RJ11, "isValidCodePoint", "(I)Z"⟩
abbrev cJ11_highSurrogate_5068e : ByteArray := prog_13_method_28_code
def yJ11_highSurrogate_5068e : MethodName := ⟨RJ11, "highSurrogate", "(I)C"⟩
abbrev cJ11_lowSurrogate_5068e : ByteArray := prog_13_method_29_code
def yJ11_lowSurrogate_5068e : MethodName := ⟨RJ11, "lowSurrogate", "(I)C"⟩
def RJxb160c : String := "java/lang/Comparable"
def TJxb160c : u_T := fun k => match k with
  | _ => ("", "", "", false)
def tyJxb160c : Nat → FieldType := fun k => match k with
  | _ => .int
abbrev wsJxb160c0 : List Cond := u_ws RJxb160c TJxb160c 0
theorem nmJxb160c : ∀ a, a < 0 → ∀ b, b < 0 → a ≠ b → (TJxb160c a).2.1 ≠ (TJxb160c b).2.1 := by decide +kernel
theorem tyJxb160c_ok : ∀ k, k < 0 → parseFieldDescriptor (TJxb160c k).2.2.1 = some (tyJxb160c k) := by decide +kernel
def RJ6 : String := "java/lang/Integer"
def TJ6 : u_T := fun k => match k with
  | _ => ("", "", "", false)
def tyJ6 : Nat → FieldType := fun k => match k with
  | _ => .int
abbrev wsJ60 : List Cond := u_ws RJ6 TJ6 0
theorem nmJ6 : ∀ a, a < 0 → ∀ b, b < 0 → a ≠ b → (TJ6 a).2.1 ≠ (TJ6 b).2.1 := by decide +kernel
theorem tyJ6_ok : ∀ k, k < 0 → parseFieldDescriptor (TJ6 k).2.2.1 = some (tyJ6 k) := by decide +kernel
abbrev cJ6_bitCount_0f7a4 : ByteArray := prog_14_method_49_code
def yJ6_bitCount_0f7a4 : MethodName := ⟨RJ6, "bitCount", "(I)I"⟩
def RJ9 : String := "java/lang/Math"
def TJ9 : u_T := fun k => match k with
  | _ => ("", "", "", false)
def tyJ9 : Nat → FieldType := fun k => match k with
  | _ => .int
abbrev wsJ90 : List Cond := u_ws RJ9 TJ9 0
theorem nmJ9 : ∀ a, a < 0 → ∀ b, b < 0 → a ≠ b → (TJ9 a).2.1 ≠ (TJ9 b).2.1 := by decide +kernel
theorem tyJ9_ok : ∀ k, k < 0 → parseFieldDescriptor (TJ9 k).2.2.1 = some (tyJ9 k) := by decide +kernel
abbrev cJ9_abs_0f7a4 : ByteArray := prog_15_method_59_code
def yJ9_abs_0f7a4 : MethodName := ⟨RJ9, "abs", "(I)I"⟩
abbrev cJ9_max_7cf53 : ByteArray := prog_15_method_65_code
def yJ9_max_7cf53 : MethodName := ⟨RJ9, "max", "(II)I"⟩
abbrev cJ9_min_7cf53 : ByteArray := prog_15_method_69_code
def yJ9_min_7cf53 : MethodName := ⟨RJ9, "min", "(II)I"⟩
def RJ0 : String := "java/lang/String"
def TJ0 : u_T := fun k => match k with
  | _ => ("", "", "", false)
def tyJ0 : Nat → FieldType := fun k => match k with
  | _ => .int
abbrev wsJ00 : List Cond := u_ws RJ0 TJ0 0
theorem nmJ0 : ∀ a, a < 0 → ∀ b, b < 0 → a ≠ b → (TJ0 a).2.1 ≠ (TJ0 b).2.1 := by decide +kernel
theorem tyJ0_ok : ∀ k, k < 0 → parseFieldDescriptor (TJ0 k).2.2.1 = some (tyJ0 k) := by decide +kernel
abbrev cJ0_length_8abf5 : ByteArray := prog_16_method_54_code
def yJ0_length_8abf5 : MethodName := ⟨RJ0, "length", "()I"⟩
abbrev cJ0_charAt_5068e : ByteArray := prog_16_method_56_code
def yJ0_charAt_5068e : MethodName := ⟨RJ0, "charAt", "(I)C"⟩
abbrev cJ0_indexOf_0f7a4 : ByteArray := prog_16_method_79_code
def yJ0_indexOf_0f7a4 : MethodName := ⟨RJ0, "indexOf", "(I)I"⟩
abbrev cJ0_indexOf_7cf53 : ByteArray := prog_16_method_80_code
def yJ0_indexOf_7cf53 : MethodName := ⟨RJ0, "indexOf", "(II)I"⟩
abbrev cJ0_coder_7d493 : ByteArray := prog_16_method_152_code
def yJ0_coder_7d493 : MethodName := ⟨RJ0, "coder", "()B"⟩
abbrev cJ0_isLatin1_aae02 : ByteArray := prog_16_method_154_code
def yJ0_isLatin1_aae02 : MethodName := ⟨RJ0, "isLatin1", "()Z"⟩
abbrev cJ0_checkIndex_df160 : ByteArray := prog_16_method_155_code
def yJ0_checkIndex_df160 : MethodName := ⟨RJ0, "checkIndex", "(II)V"⟩
abbrev cJ0_checkBoundsBeginEnd_23922 : ByteArray := prog_16_method_158_code
def yJ0_checkBoundsBeginEnd_23922 : MethodName := ⟨RJ0, "checkBoundsBeginEnd", "(III)V"⟩
def RJ1 : String := "java/lang/StringLatin1"
def TJ1 : u_T := fun k => match k with
  | _ => ("", "", "", false)
def tyJ1 : Nat → FieldType := fun k => match k with
  | _ => .int
abbrev wsJ10 : List Cond := u_ws RJ1 TJ1 0
theorem nmJ1 : ∀ a, a < 0 → ∀ b, b < 0 → a ≠ b → (TJ1 a).2.1 ≠ (TJ1 b).2.1 := by decide +kernel
theorem tyJ1_ok : ∀ k, k < 0 → parseFieldDescriptor (TJ1 k).2.2.1 = some (tyJ1 k) := by decide +kernel
abbrev cJ1_charAt_3b067 : ByteArray := prog_17_method_2_code
def yJ1_charAt_3b067 : MethodName := ⟨RJ1, "charAt", "([BI)C"⟩
abbrev cJ1_canEncode_9a6ad : ByteArray := prog_17_method_4_code
def yJ1_canEncode_9a6ad : MethodName := ⟨RJ1, "canEncode", "(I)Z"⟩
abbrev cJ1_indexOf_4cfef : ByteArray := prog_17_method_22_code
def yJ1_indexOf_4cfef : MethodName := ⟨RJ1, "indexOf", "([BIII)I"⟩
abbrev cJ1_indexOfChar_4cfef : ByteArray := prog_17_method_23_code
def yJ1_indexOfChar_4cfef : MethodName := ⟨RJ1, "indexOfChar", "([BIII)I"⟩
def RJ2 : String := "java/lang/StringUTF16"
def TJ2 : u_T := fun k => match k with
  | _ => ("", "", "", false)
def tyJ2 : Nat → FieldType := fun k => match k with
  | _ => .int
abbrev wsJ20 : List Cond := u_ws RJ2 TJ2 0
theorem nmJ2 : ∀ a, a < 0 → ∀ b, b < 0 → a ≠ b → (TJ2 a).2.1 ≠ (TJ2 b).2.1 := by decide +kernel
theorem tyJ2_ok : ∀ k, k < 0 → parseFieldDescriptor (TJ2 k).2.2.1 = some (tyJ2 k) := by decide +kernel
abbrev cJ2_getChar_3b067 : ByteArray := prog_18_method_5_code
def yJ2_getChar_3b067 : MethodName := ⟨RJ2, "getChar", "([BI)C"⟩
abbrev cJ2_length_9d52b : ByteArray := prog_18_method_6_code
def yJ2_length_9d52b : MethodName := ⟨RJ2, "length", "([B)I"⟩
abbrev cJ2_indexOf_4cfef : ByteArray := prog_18_method_40_code
def yJ2_indexOf_4cfef : MethodName := ⟨RJ2, "indexOf", "([BIII)I"⟩
abbrev cJ2_indexOfChar_4cfef : ByteArray := prog_18_method_47_code
def yJ2_indexOfChar_4cfef : MethodName := ⟨RJ2, "indexOfChar", "([BIII)I"⟩
abbrev cJ2_indexOfCharUnsafe_4cfef : ByteArray := prog_18_method_48_code
def yJ2_indexOfCharUnsafe_4cfef : MethodName := ⟨RJ2, "indexOfCharUnsafe", "([BIII)I"⟩
abbrev cJ2_indexOfSupplementary_4cfef : ByteArray := prog_18_method_49_code
def yJ2_indexOfSupplementary_4cfef : MethodName := ⟨RJ2, "indexOfSupplementary", "([BIII)I"⟩
abbrev cJ2_charAt_3b067 : ByteArray := prog_18_method_83_code
def yJ2_charAt_3b067 : MethodName := ⟨RJ2, "charAt", "([BI)C"⟩
abbrev cJ2_checkIndex_2214a : ByteArray := prog_18_method_91_code
def yJ2_checkIndex_2214a : MethodName := ⟨RJ2, "checkIndex", "(I[B)V"⟩
abbrev cJ2_checkBoundsBeginEnd_d044e : ByteArray := prog_18_method_93_code
def yJ2_checkBoundsBeginEnd_d044e : MethodName := ⟨RJ2, "checkBoundsBeginEnd", "(II[B)V"⟩
def RJ10 : String := "java/lang/System"
def TJ10 : u_T := fun k => match k with
  | _ => ("", "", "", false)
def tyJ10 : Nat → FieldType := fun k => match k with
  | _ => .int
abbrev wsJ100 : List Cond := u_ws RJ10 TJ10 0
theorem nmJ10 : ∀ a, a < 0 → ∀ b, b < 0 → a ≠ b → (TJ10 a).2.1 ≠ (TJ10 b).2.1 := by decide +kernel
theorem tyJ10_ok : ∀ k, k < 0 → parseFieldDescriptor (TJ10 k).2.2.1 = some (tyJ10 k) := by decide +kernel
def RJxfd54e : String := "java/lang/constant/Constable"
def TJxfd54e : u_T := fun k => match k with
  | _ => ("", "", "", false)
def tyJxfd54e : Nat → FieldType := fun k => match k with
  | _ => .int
abbrev wsJxfd54e0 : List Cond := u_ws RJxfd54e TJxfd54e 0
theorem nmJxfd54e : ∀ a, a < 0 → ∀ b, b < 0 → a ≠ b → (TJxfd54e a).2.1 ≠ (TJxfd54e b).2.1 := by decide +kernel
theorem tyJxfd54e_ok : ∀ k, k < 0 → parseFieldDescriptor (TJxfd54e k).2.2.1 = some (tyJxfd54e k) := by decide +kernel
def RJx3cf43 : String := "java/lang/constant/ConstantDesc"
def TJx3cf43 : u_T := fun k => match k with
  | _ => ("", "", "", false)
def tyJx3cf43 : Nat → FieldType := fun k => match k with
  | _ => .int
abbrev wsJx3cf430 : List Cond := u_ws RJx3cf43 TJx3cf43 0
theorem nmJx3cf43 : ∀ a, a < 0 → ∀ b, b < 0 → a ≠ b → (TJx3cf43 a).2.1 ≠ (TJx3cf43 b).2.1 := by decide +kernel
theorem tyJx3cf43_ok : ∀ k, k < 0 → parseFieldDescriptor (TJx3cf43 k).2.2.1 = some (tyJx3cf43 k) := by decide +kernel
def RJ7 : String := "java/util/Arrays"
def TJ7 : u_T := fun k => match k with
  | _ => ("", "", "", false)
def tyJ7 : Nat → FieldType := fun k => match k with
  | _ => .int
abbrev wsJ70 : List Cond := u_ws RJ7 TJ7 0
theorem nmJ7 : ∀ a, a < 0 → ∀ b, b < 0 → a ≠ b → (TJ7 a).2.1 ≠ (TJ7 b).2.1 := by decide +kernel
theorem tyJ7_ok : ∀ k, k < 0 → parseFieldDescriptor (TJ7 k).2.2.1 = some (tyJ7 k) := by decide +kernel
abbrev cJ7_fill_53178 : ByteArray := prog_20_method_103_code
def yJ7_fill_53178 : MethodName := ⟨RJ7, "fill", "([II)V"⟩
def RJ3 : String := "jdk/internal/util/Preconditions"
def TJ3 : u_T := fun k => match k with
  | _ => ("", "", "", false)
def tyJ3 : Nat → FieldType := fun k => match k with
  | _ => .int
abbrev wsJ30 : List Cond := u_ws RJ3 TJ3 0
theorem nmJ3 : ∀ a, a < 0 → ∀ b, b < 0 → a ≠ b → (TJ3 a).2.1 ≠ (TJ3 b).2.1 := by decide +kernel
theorem tyJ3_ok : ∀ k, k < 0 → parseFieldDescriptor (TJ3 k).2.2.1 = some (tyJ3 k) := by decide +kernel
abbrev cJ3_checkIndex_8e157 : ByteArray := prog_21_method_11_code
def yJ3_checkIndex_8e157 : MethodName := ⟨RJ3, "checkIndex", "(IILjava/util/function/BiFunction;)I"⟩
abbrev cJ3_checkFromToIndex_8c36e : ByteArray := prog_21_method_12_code
def yJ3_checkFromToIndex_8c36e : MethodName := ⟨RJ3, "checkFromToIndex", "(IIILjava/util/function/BiFunction;)I"⟩
def RL : String := "FaceSenateLaw"
abbrev cL_law : ByteArray := code
def yL_law : MethodName := ⟨RL, "law", "([I)Z"⟩
end
section
/-! an executor over entries (pc, kind, a, b, c): ints are constants, variables with intervals, or unknown; cells made since the start -/
abbrev fx_V : Type := Nat ⊕ (Nat ⊕ (Option Nat ⊕ Nat))
abbrev fx_C : Type := Unit ⊕ ((Nat × List fx_V) ⊕ (Nat × (Nat × List (Nat × fx_V))))
abbrev fx_H : Type := Nat × List (List fx_C)
abbrev fx_J : Type := List (Nat × Nat)
abbrev fx_I : Type := Nat × (Nat × (Nat × (Nat × Nat)))
abbrev fx_L : Type := List (Nat × fx_V)
abbrev fx_K : Type := Option fx_V → fx_H → fx_J → Bool
/-- entries, how many values it takes, cells, slots, the kind of its answer -/
abbrev fx_M : Type := List fx_I × (Nat × (Nat × (Nat × Nat)))
abbrev fx_Z : Type := Nat → List fx_V → fx_H → Option (Option fx_V × fx_H)
abbrev fx_G : Type := Nat → List fx_I → List fx_I → fx_L → List fx_V → Nat → Nat → Nat → Nat → fx_H → fx_J → fx_K → Bool
abbrev fc (n : Nat) : fx_V := .inl n
abbrev fv (i : Nat) : fx_V := .inr (.inl i)
abbrev fr (k : Nat) : fx_V := .inr (.inr (.inl (some k)))
abbrev fz : fx_V := .inr (.inr (.inl none))
abbrev fl (n : Nat) : fx_V := .inr (.inr (.inr n))
noncomputable def fx_nth {α : Type} (l : List α) : Nat → Option α := List.rec (motive := fun _ => Nat → Option α) (fun _ => none) (fun a _ ih n => Nat.rec (motive := fun _ => Option α) (some a) (fun n _ => ih n) n) l
noncomputable def fx_put {α : Type} (a : α) (l : List α) : Nat → (List α → Bool) → Bool := List.rec (motive := fun _ => Nat → (List α → Bool) → Bool) (fun _ _ => false) (fun b t ih n k => Nat.rec (motive := fun _ => Bool) (k (a :: t)) (fun n _ => ih n (fun t' => k (b :: t'))) n) l
noncomputable def fx_num (n : Nat) (k : Nat → Bool) : Bool := Nat.rec (motive := fun _ => Bool) (k 0) (fun m _ => k (m + 1)) n
noncomputable def fx_look {α : Type} (l : List (Nat × α)) (i : Nat) : Option α := List.rec (motive := fun _ => Option α) none (fun q _ ih => cond (Nat.beq q.1 i) (some q.2) ih) l
noncomputable def fx_all {α : Type} (l : List α) (f : α → Bool) : Bool := List.rec (motive := fun _ => Bool) true (fun a _ ih => f a && ih) l
noncomputable def fx_hget (h : fx_H) (k : Nat) : Option fx_C := match fx_nth h.2 (k / 16) with
  | none => none
  | some r => fx_nth r (k % 16)
noncomputable def fx_hset (h : fx_H) (k : Nat) (c : fx_C) (kk : fx_H → Bool) : Bool := match fx_nth h.2 (k / 16) with
  | none => false
  | some r => fx_put c r (k % 16) (fun r' => fx_put r' h.2 (k / 16) (fun z => kk (h.1, z)))
noncomputable def fx_snoc {α : Type} (a : α) (l : List α) : (List α → Bool) → Bool := List.rec (motive := fun _ => (List α → Bool) → Bool) (fun k => k [a]) (fun b _ ih k => ih (fun t' => k (b :: t'))) l
noncomputable def fx_hnew (h : fx_H) (c : fx_C) (kk : fx_H → Bool) : Bool := Nat.blt h.1 1000000 && cond (Nat.beq (h.1 % 16) 0)
  (Nat.beq h.2.length (h.1 / 16) && fx_snoc [c] h.2 (fun z => fx_num (h.1 + 1) (fun n => kk (n, z))))
  (match fx_nth h.2 (h.1 / 16) with
    | none => false
    | some r => Nat.beq r.length (h.1 % 16) && fx_snoc c r (fun r' => fx_put r' h.2 (h.1 / 16) (fun z => fx_num (h.1 + 1) (fun n => kk (n, z)))))
/-- the interval of a variable (biased) -/
noncomputable def fx_iv (j : fx_J) (i : Nat) : Nat × Nat := match fx_nth j i with
  | none => (0, 4294967295)
  | some q => q
def fx_b (n : Nat) : Nat := (n + 2147483648) % 4294967296
noncomputable def fx_nz (j : fx_J) (v : fx_V) (k : fx_V → Bool) : Bool := match v with
  | .inr (.inl (i + 1)) => cond (Nat.beq (fx_iv j (i + 1)).1 (fx_iv j (i + 1)).2) (fx_num (fx_b (fx_iv j (i + 1)).1) (fun n => k (fc n))) (k v)
  | _ => k v
noncomputable def fx_val (v : fx_V) (k : fx_V → Bool) : Bool := match v with
  | .inl n => fx_num n (fun n => k (fc n))
  | .inr (.inr (.inr n)) => fx_num n (fun n => k (fl n))
  | _ => k v
noncomputable def fx_int (v : fx_V) : Bool := match v with
  | .inl _ => true
  | .inr (.inl _) => true
  | _ => false
noncomputable def fx_form (b : Nat) (v : fx_V) : Bool := match v with
  | .inl _ => Nat.ble b 1
  | .inr (.inl _) => Nat.ble b 1
  | .inr (.inr (.inl _)) => Nat.beq b 2 || Nat.beq b 3
  | .inr (.inr (.inr _)) => Nat.beq b 4 || Nat.beq b 5
noncomputable def fx_cat (v : fx_V) : Nat := match v with
  | .inr (.inr (.inr _)) => 2
  | _ => 1
def fx_odd (b : Nat) : Nat := b % 2 + 1
noncomputable def fx_to (cod : List fx_I) (t : Nat) : List fx_I := List.rec (motive := fun _ => List fx_I) [] (fun q r ih => cond (Nat.beq q.1 t) (q :: r) ih) cod
noncomputable def fx_drop (l : fx_L) (i : Nat) (k : fx_L → Bool) : Bool := List.rec (motive := fun _ => (fx_L → Bool) → Bool) (fun k => k []) (fun q _ ih k => ih (fun t => cond (Nat.beq q.1 i || (Nat.beq (q.1 + 1) i && Nat.beq (fx_cat q.2) 2)) (k t) (k (q :: t)))) l k
noncomputable def fx_drop2 (l : fx_L) (i : Nat) (k : fx_L → Bool) : Bool := List.rec (motive := fun _ => (fx_L → Bool) → Bool) (fun k => k []) (fun q _ ih k => ih (fun t => cond (Nat.beq q.1 i || (Nat.beq q.1 (i + 1) || (Nat.beq (q.1 + 1) i && Nat.beq (fx_cat q.2) 2))) (k t) (k (q :: t)))) l k
noncomputable def fx_store (l : fx_L) (i : Nat) (v : fx_V) (k : fx_L → Bool) : Bool := match v with
  | .inr (.inr (.inr _)) => fx_drop2 l i (fun t => k ((i, v) :: t))
  | _ => fx_drop l i (fun t => k ((i, v) :: t))
/-- what a comparison may come to: the truth, the intervals then; conditions 0 eq, 1 ne, 2 lt, 3 ge, 4 gt, 5 le -/
noncomputable def fx_con (o x y : Nat) : Bool := cond (Nat.beq o 0) (Nat.beq x y) (cond (Nat.beq o 1) (!Nat.beq x y) (cond (Nat.beq o 2) (Nat.blt x y) (cond (Nat.beq o 3) (Nat.ble y x) (cond (Nat.beq o 4) (Nat.blt y x) (Nat.ble x y)))))
noncomputable def fx_with (j : fx_J) (i lo hi : Nat) (k : fx_J → Bool) : Bool := cond (Nat.ble lo hi) (fx_put (lo, hi) j i k) true
/-- a variable i against a constant y (biased): below, at, above it -/
noncomputable def fx_cut (o : Nat) (j : fx_J) (i y : Nat) (k : Bool → fx_J → Bool) : Bool :=
  cond (Nat.blt (fx_iv j i).2 y) (k (fx_con o 0 1) j) (cond (Nat.blt y (fx_iv j i).1) (k (fx_con o 1 0) j)
    ((Nat.beq y 0 || fx_with j i (fx_iv j i).1 (y - 1) (fun j => k (fx_con o 0 1) j)) && (fx_with j i y y (fun j => k (fx_con o 0 0) j) && fx_with j i (y + 1) (fx_iv j i).2 (fun j => k (fx_con o 1 0) j))))
def fx_swap (o : Nat) : Nat := cond (Nat.beq o 2) 4 (cond (Nat.beq o 4) 2 (cond (Nat.beq o 3) 5 (cond (Nat.beq o 5) 3 o)))
noncomputable def fx_cmp (o : Nat) (j : fx_J) (x y : fx_V) (k : Bool → fx_J → Bool) : Bool := match x, y with
  | .inl a, .inl b => k (fx_con o (fx_b a) (fx_b b)) j
  | .inr (.inl (i + 1)), .inl b => fx_cut o j (i + 1) (fx_b b) k
  | .inl a, .inr (.inl (i + 1)) => fx_cut (fx_swap o) j (i + 1) (fx_b a) k
  | .inr (.inl (i + 1)), .inr (.inl (i2 + 1)) => Nat.beq i i2 && k (fx_con o 0 0) j
  | _, _ => false
/-- ints: 0 add, 1 sub, 2 mul, 3 div, 4 rem, 5 and, 6 or, 7 xor, 8 shl, 9 shr, 10 ushr; of constants -/
noncomputable def fx_bin (o x y : Nat) : Option Nat :=
  cond (Nat.beq o 0) (some ((x + y) % 4294967296)) (cond (Nat.beq o 1) (some ((x + (4294967296 - y % 4294967296)) % 4294967296)) (cond (Nat.beq o 2) (some (x * y % 4294967296))
    (cond (Nat.beq o 3) (cond (Nat.blt x 2147483648 && (Nat.blt y 2147483648 && Nat.blt 0 y)) (some (x / y)) none) (cond (Nat.beq o 4) (cond (Nat.blt x 2147483648 && (Nat.blt y 2147483648 && Nat.blt 0 y)) (some (x % y)) none)
      (cond (Nat.beq o 5) (some (Nat.land x y)) (cond (Nat.beq o 6) (some (Nat.lor x y)) (cond (Nat.beq o 7) (some (Nat.xor x y))
        (cond (Nat.beq o 8) (cond (Nat.blt y 32) (some (Nat.shiftLeft x y % 4294967296)) none) (cond (Nat.beq o 9) (cond (Nat.blt x 2147483648 && Nat.blt y 32) (some (Nat.shiftRight x y)) none)
          (cond (Nat.beq o 10) (cond (Nat.blt x 4294967296 && Nat.blt y 32) (some (Nat.shiftRight x y)) none) none))))))))))
/-- one of them unknown -/
noncomputable def fx_bis (o : Nat) (x y : fx_V) : Option fx_V := match x, y with
  | .inl a, .inl b => match fx_bin o a b with
    | some n => some (fc n)
    | none => none
  | .inl a, .inr (.inl i) => cond (Nat.beq o 0 && Nat.beq a 0) (some (fv i)) (cond (Nat.beq o 2 && Nat.beq a 0) (some (fc 0)) (cond (Nat.beq o 3 || Nat.beq o 4) none (some (fv 0))))
  | .inr (.inl i), .inl b => cond (Nat.beq o 0 && Nat.beq b 0) (some (fv i)) (cond (Nat.beq o 2 && Nat.beq b 0) (some (fc 0)) (cond (Nat.beq o 5 && (Nat.beq b 63 && Nat.beq i 1)) (some (fv 7)) (cond ((Nat.beq o 3 || Nat.beq o 4) && (Nat.beq (b % 4294967296) 0)) none (some (fv 0)))))
  | .inr (.inl _), .inr (.inl _) => cond (Nat.beq o 3 || Nat.beq o 4) none (some (fv 0))
  | _, _ => none
/-- is the value a variable within twenty numbers (then each is taken for itself) -/
noncomputable def fx_few (j : fx_J) (v : fx_V) : Option (Nat × (Nat × Nat)) := match v with
  | .inr (.inl (i + 1)) => cond (Nat.ble ((fx_iv j (i + 1)).2 - (fx_iv j (i + 1)).1) 20) (some (i + 1, (fx_iv j (i + 1)).1, (fx_iv j (i + 1)).2 - (fx_iv j (i + 1)).1)) none
  | _ => none
noncomputable def fx_each (j : fx_J) (i lo n : Nat) (k : fx_J → Bool) : Bool := Nat.rec (motive := fun _ => Bool) (fx_with j i lo lo k) (fun m ih => fx_with j i (lo + (m + 1)) (lo + (m + 1)) k && ih) n
/-- arrays: 0 int, 1 byte, 2 boolean, 3 long -/
def fx_dft (ty : Nat) : fx_V := cond (Nat.beq ty 3) (fl 0) (fc 0)
noncomputable def fx_aget (ty : Nat) (u : List (Nat × fx_V)) (n : Nat) : fx_V := match fx_look u n with
  | some v => v
  | none => fx_dft ty
noncomputable def fx_without {α : Type} (l : List (Nat × α)) (i : Nat) (k : List (Nat × α) → Bool) : Bool := List.rec (motive := fun _ => (List (Nat × α) → Bool) → Bool) (fun k => k []) (fun q t ih k => cond (Nat.beq q.1 i) (ih k) (ih (fun t => k (q :: t)))) l k
noncomputable def fx_veq (x y : fx_V) : Bool := match x, y with
  | .inl a, .inl b => Nat.beq a b
  | .inr (.inl (a + 1)), .inr (.inl (b + 1)) => Nat.beq a b
  | .inr (.inr (.inl none)), .inr (.inr (.inl none)) => true
  | .inr (.inr (.inl (some a))), .inr (.inr (.inl (some b))) => Nat.beq a b
  | .inr (.inr (.inr a)), .inr (.inr (.inr b)) => Nat.beq a b
  | _, _ => false
noncomputable def fx_aset (ty : Nat) (u : List (Nat × fx_V)) (n : Nat) (v : fx_V) (k : List (Nat × fx_V) → Bool) : Bool :=
  cond (fx_veq v (fx_aget ty u n)) (k u) (fx_without u n (fun u => cond (fx_veq v (fx_dft ty)) (k u) (k ((n, v) :: u))))
/-- what a store of a small type keeps: none if it isn't known to fit -/
noncomputable def fx_nar (ty : Nat) (v : fx_V) : Option fx_V := cond (Nat.beq ty 0) (cond (fx_int v) (some v) none) (cond (Nat.beq ty 3) (match v with
    | .inr (.inr (.inr _)) => some v
    | _ => none) (match v with
    | .inl n => cond (Nat.blt n (cond (Nat.beq ty 1) 128 2)) (some v) none
    | .inr (.inl _) => some (fv 0)
    | _ => none))
noncomputable def fx_split (n : Nat) (stk : List fx_V) : Option (List fx_V × List fx_V) := Nat.rec (motive := fun _ => List fx_V → List fx_V → Option (List fx_V × List fx_V)) (fun acc st => some (acc, st)) (fun _ ih acc st => match st with
    | [] => none
    | v :: st => ih (v :: acc) st) n [] stk
noncomputable def fx_args (l : List fx_V) : Nat → fx_L := List.rec (motive := fun _ => Nat → fx_L) (fun _ => []) (fun v _ ih i => (i, v) :: ih (i + fx_cat v)) l
noncomputable def fx_cats (l : List fx_V) : Nat := List.rec (motive := fun _ => Nat) 0 (fun v _ ih => fx_cat v + ih) l
/-- copies int by int -/
noncomputable def fx_copy (s d : List (Nat × fx_V)) (sp dp : Nat) (n : Nat) : (List (Nat × fx_V) → Bool) → Bool := Nat.rec (motive := fun _ => (List (Nat × fx_V) → Bool) → Bool) (fun k => k d) (fun m ih k => ih (fun u => fx_aset 0 u (dp + m) (fx_aget 0 s (sp + m)) k)) n
end
section
noncomputable def fx_nx (go : List fx_I → Bool) (pc len : Nat) (tl : List fx_I) : Bool := match tl with
  | [] => false
  | r :: _ => Nat.beq r.1 (pc + len) && go tl
noncomputable def fx_clen (a : Nat) : Nat := match fx_nth [1, 2, 3, 2, 3, 1, 3, 1] a with
  | some n => n
  | none => 0
noncomputable def fx_cst (a c : Nat) : fx_V := cond (Nat.blt a 5) (fc c) (cond (Nat.blt a 7) (fl c) fz)
noncomputable def fx_fit (t : Nat) (v : fx_V) : Bool := match v with
  | .inl n => Nat.beq t 0 || (Nat.beq t 2 && Nat.blt n 2)
  | .inr (.inl _) => Nat.beq t 0
  | .inr (.inr (.inl _)) => Nat.beq t 4
  | .inr (.inr (.inr _)) => Nat.beq t 3
noncomputable def fx_rok (b : Nat) (v : fx_V) : Bool := match v with
  | .inl n => Nat.beq b 1 || ((Nat.beq b 2 && Nat.blt n 2) || ((Nat.beq b 4 && Nat.blt n 65536) || (Nat.beq b 5 && Nat.blt n 128)))
  | .inr (.inl _) => Nat.beq b 1
  | _ => false
noncomputable def fx_aty (a ty : Nat) : Bool := cond (Nat.beq a 0) (Nat.beq ty 0) (cond (Nat.beq a 1) (Nat.beq ty 1 || Nat.beq ty 2) (Nat.beq a 2 && Nat.beq ty 3))
def fx_txt : List Nat := [104, 97, 108, 108, 32, 98, 121, 32, 100, 105, 115, 116, 114, 105, 99, 116, 32, 109, 111, 111, 100, 32, 109, 101, 109, 98, 101, 114, 32, 102, 111, 114, 32, 97, 116, 32, 108, 111, 111, 107, 32, 108, 105, 103, 104, 116, 32, 116, 111, 111, 116, 104, 32, 111, 102, 32, 100, 114, 97, 119, 32, 111, 114, 32, 97, 110, 100, 32, 110, 111, 116, 32, 102, 97, 99, 101, 32, 110, 101, 97, 114, 32, 98, 101, 115, 105, 100, 101, 32, 98, 114, 105, 103, 104, 116, 32, 115, 116, 111, 105, 99, 32, 110, 101, 119, 115, 32, 115, 116, 101, 112, 32, 114, 111, 119, 32, 99, 111, 108, 117, 109, 110, 32]
/-- a load from an array -/
noncomputable def fx_ld (a : Nat) (h : fx_H) (j : fx_J) (r n : Nat) (k : fx_V → Bool) : Bool := match fx_hget h r with
  | some (.inr (.inr (ty, len, u))) => (fx_aty a ty && Nat.blt n len) && (match fx_look u n with
    | some v => fx_fit (cond (Nat.beq ty 3) 3 0) v && fx_nz j v k
    | none => k (fx_dft ty))
  | some _ => false
  | none => cond (Nat.beq r 1000000) ((Nat.beq a 0 && Nat.blt n 6) && (Nat.blt (n + 2147483648) (fx_iv j 8).1 && fx_nz j (fv (n + 1)) k))
    (Nat.beq r 1000002 && (Nat.beq a 1 && (match fx_nth fx_txt n with
      | some z => k (fc z)
      | none => false)))
/-- a store into an array: values that are held -/
noncomputable def fx_sto (a : Nat) (h : fx_H) (r n : Nat) (v : fx_V) (k : fx_H → Bool) : Bool := match fx_hget h r with
  | some (.inr (.inr (ty, len, u))) => (fx_aty a ty && Nat.blt n len) && (match fx_nar ty v with
    | some w => fx_aset ty u n w (fun u' => fx_hset h r (.inr (.inr (ty, len, u'))) k)
    | none => false)
  | _ => false
noncomputable def fx_len (h : fx_H) (r : Nat) : Option fx_V := match fx_hget h r with
  | some (.inr (.inr (_, len, _))) => some (fc len)
  | some _ => none
  | none => cond (Nat.beq r 1000000) (some (fv 8)) (cond (Nat.beq r 1000002) (some (fc 123)) none)
noncomputable def fx_un (a : Nat) (v : fx_V) : Option fx_V := match v with
  | .inl n => cond (Nat.beq a 0) (some (fc ((4294967296 - n % 4294967296) % 4294967296))) (cond (Nat.beq a 1) (cond (Nat.blt n 128) (some (fc n)) none) (cond (Nat.beq a 2) (cond (Nat.blt n 65536) (some (fc n)) none) (cond (Nat.beq a 3 && Nat.blt n 2147483648) (some (fl n)) none)))
  | .inr (.inl _) => cond (Nat.blt a 3) (some (fv 0)) none
  | _ => none
noncomputable def fx_lbin (o x y : Nat) : Option Nat := cond (Nat.beq o 0) (some ((x + y) % 18446744073709551616)) (cond (Nat.beq o 1) (some ((x + (18446744073709551616 - y % 18446744073709551616)) % 18446744073709551616)) (cond (Nat.beq o 2) (some (x * y % 18446744073709551616)) none))
/-- the order of what lies on the stack: dup, pop, dup2, dup_x1, dup_x2 -/
noncomputable def fx_stk (a : Nat) (st : List fx_V) : Option (List fx_V) := match st with
  | v :: st => cond (Nat.beq (fx_cat v) 1) (cond (Nat.beq a 0) (some (v :: v :: st)) (cond (Nat.beq a 1) (some st) (match st with
    | w :: st => cond (Nat.beq (fx_cat w) 1) (cond (Nat.beq a 2) (some (v :: w :: v :: w :: st)) (cond (Nat.beq a 3) (some (v :: w :: v :: st)) (match st with
      | x :: st => cond (Nat.beq (fx_cat x) 1 && Nat.beq a 4) (some (v :: w :: x :: v :: st)) none
      | [] => none))) none
    | [] => none))) none
  | [] => none
/-- each target of a switch, for a variable i: keys from lo (biased) on -/
noncomputable def fx_keys (j : fx_J) (i : Nat) (go : Nat → fx_J → Bool) (ts : List Nat) : Nat → Bool := List.rec (motive := fun _ => Nat → Bool) (fun _ => true) (fun t _ ih lo => cond (Nat.ble (fx_iv j i).1 lo && Nat.ble lo (fx_iv j i).2) (fx_with j i lo lo (go t)) true && ih (lo + 1)) ts
noncomputable def fx_sw (j : fx_J) (x : fx_V) (dft lo : Nat) (ts : List Nat) (go : Nat → fx_J → Bool) : Bool := match x with
  | .inl n => cond (Nat.ble lo (fx_b n)) (match fx_nth ts (fx_b n - lo) with
    | some t => go t j
    | none => go dft j) (go dft j)
  | .inr (.inl (i + 1)) => fx_keys j (i + 1) go ts lo && ((Nat.beq lo 0 || fx_with j (i + 1) (fx_iv j (i + 1)).1 (cond (Nat.ble (fx_iv j (i + 1)).2 (lo - 1)) (fx_iv j (i + 1)).2 (lo - 1)) (go dft)) && fx_with j (i + 1) (cond (Nat.ble (lo + ts.length) (fx_iv j (i + 1)).1) (fx_iv j (i + 1)).1 (lo + ts.length)) (fx_iv j (i + 1)).2 (go dft))
  | _ => false
noncomputable def fx_top (v : fx_V) : Bool := match v with
  | .inr (.inl 0) => true
  | _ => false
/-- is the called one's first value of its kind: 0 nothing asked, 1 any reference, 2 + c an object of the kind c, 99 the text -/
noncomputable def fx_rcv (t : Nat) (h : fx_H) (as : List fx_V) : Bool := cond (Nat.beq t 0) true (match as with
  | .inr (.inr (.inl (some r))) :: _ => cond (Nat.beq t 1) (match fx_hget h r with
      | some (.inr (.inl _)) => true
      | _ => false) (cond (Nat.beq t 99) (Nat.beq r 1000001) (match fx_hget h r with
      | some (.inr (.inl (ci, _))) => Nat.beq (ci + 2) t
      | _ => false))
  | _ => false)
abbrev fx_E : Type := (Nat → Option fx_M) × ((Nat → List Nat) × ((Nat → Option (List fx_V)) × (fx_Z × (fx_L → fx_H → fx_J → Bool))))
noncomputable def fx_ret (st : List fx_V) (v : Option fx_V) : List fx_V := match v with
  | none => st
  | some v => v :: st
noncomputable def fx_call (E : fx_E) (ih : fx_G) (d : Nat) (nx : List fx_V → Nat → Nat → fx_H → fx_J → Bool) (c : Nat) (stk : List fx_V) (ce sl mc ms : Nat) (h : fx_H) (j : fx_J) : Bool := match d with
  | 0 => false
  | d + 1 => match E.1 c with
    | none => false
    | some (cod, na, mc', ms', t) => match fx_split na stk with
      | none => false
      | some (as, st) => (Nat.ble (fx_cats st) 8 && (Nat.ble (ce + mc') mc && (Nat.ble (sl + ms') ms && fx_rcv t h as))) && (match E.2.2.2.1 c as h with
        | some (v, h') => nx (fx_ret st v) (ce + mc') (sl + ms') h' j
        | none => ih d cod cod (fx_args as 0) [] 0 0 mc' ms' h j (fun v h' j' => nx (fx_ret st v) (ce + mc') (sl + ms') h' j'))
noncomputable def fx_step (E : fx_E) (ih : fx_G) : fx_G := fun d cod at_ loc stk ce sl mc ms h j k => match at_ with
  | [] => false
  | (pc, kd, a, b, c) :: tl =>
    cond (Nat.beq kd 0) (match fx_look loc a with
      | none => false
      | some v => (fx_form b v && Nat.blt b 6) && fx_nz j v (fun v => fx_nx (fun t => ih d cod t loc (v :: stk) ce sl mc ms h j k) pc (fx_odd b) tl))
    (cond (Nat.beq kd 1) (match stk with
      | .inr (.inr (.inl (some r))) :: st => (match fx_hget h r with
        | some (.inr (.inl (ci, fs))) => Nat.beq ci b && (match fx_nth fs c with
          | some v => fx_nx (fun t => ih d cod t loc (v :: st) ce sl mc ms h j k) pc 3 tl
          | none => false)
        | _ => false)
      | _ => false)
    (cond (Nat.beq kd 2) (Nat.blt a 8 && fx_nx (fun t => ih d cod t loc (fx_cst a c :: stk) ce sl mc ms h j k) pc (fx_clen a) tl)
    (cond (Nat.beq kd 3) (match stk with
      | y :: x :: st => fx_nz j y (fun y => fx_nz j x (fun x => Nat.blt a 6 && fx_cmp a j x y (fun t j => cond t (ih d cod (fx_to cod b) loc st ce sl mc ms h j k) (fx_nx (fun t => ih d cod t loc st ce sl mc ms h j k) pc 3 tl))))
      | _ => false)
    (cond (Nat.beq kd 4) (match stk with
      | x :: st => fx_nz j x (fun x => Nat.blt a 6 && fx_cmp a j x (fc 0) (fun t j => cond t (ih d cod (fx_to cod b) loc st ce sl mc ms h j k) (fx_nx (fun t => ih d cod t loc st ce sl mc ms h j k) pc 3 tl)))
      | _ => false)
    (cond (Nat.beq kd 5) (ih d cod (fx_to cod b) loc stk ce sl mc ms h j k)
    (cond (Nat.beq kd 6) (match stk with
      | i :: .inr (.inr (.inl (some r))) :: st => fx_nz j i (fun i => match i with
        | .inl n => fx_ld a h j r n (fun v => fx_nx (fun t => ih d cod t loc (v :: st) ce sl mc ms h j k) pc 1 tl)
        | _ => match fx_few j i with
          | some (i, lo, n) => fx_each j i lo n (fun j => ih d cod at_ loc stk ce sl mc ms h j k)
          | none => false)
      | _ => false)
    (cond (Nat.beq kd 7) (match fx_look loc a with
      | none => false
      | some v => fx_nz j v (fun v => match fx_bis 0 v (fc b) with
        | some w => fx_val w (fun w => fx_store loc a w (fun loc => fx_nx (fun t => ih d cod t loc stk ce sl mc ms h j k) pc 3 tl))
        | none => false))
    (cond (Nat.beq kd 8) (match stk with
      | v :: i :: .inr (.inr (.inl (some r))) :: st => fx_nz j i (fun i => match i with
        | .inl n => fx_nz j v (fun v => fx_sto a h r n v (fun h => fx_nx (fun t => ih d cod t loc st ce sl mc ms h j k) pc 1 tl))
        | _ => match fx_few j i with
          | some (i, lo, n) => fx_each j i lo n (fun j => ih d cod at_ loc stk ce sl mc ms h j k)
          | none => false)
      | _ => false)
    (cond (Nat.beq kd 9) (Nat.blt a 5 && fx_call E ih d (fun stk ce sl h j => fx_nx (fun t => ih d cod t loc stk ce sl mc ms h j k) pc 3 tl) c stk ce sl mc ms h j)
    (cond (Nat.beq kd 10) (cond (Nat.beq a 0) (match stk with
        | [v] => fx_nz j v (fun v => fx_rok b v && k (some v) h j)
        | _ => false) (cond (Nat.beq a 1) (match stk with
        | [] => k none h j
        | _ => false) (match stk with
        | [.inr (.inr (.inr n))] => k (some (fl n)) h j
        | _ => false)))
    (cond (Nat.beq kd 11) (match stk with
      | v :: st => (fx_form b v && Nat.blt b 6) && fx_store loc a v (fun loc => fx_nx (fun t => ih d cod t loc st ce sl mc ms h j k) pc (fx_odd b) tl)
      | _ => false)
    (cond (Nat.beq kd 12) (match stk with
      | y :: x :: st => fx_nz j y (fun y => fx_nz j x (fun x => match fx_bis a x y with
        | none => false
        | some w => cond (fx_top w) (match fx_few j x with
            | some (i, lo, n) => fx_each j i lo n (fun j => ih d cod at_ loc stk ce sl mc ms h j k)
            | none => match fx_few j y with
              | some (i, lo, n) => fx_each j i lo n (fun j => ih d cod at_ loc stk ce sl mc ms h j k)
              | none => fx_nx (fun t => ih d cod t loc (w :: st) ce sl mc ms h j k) pc 1 tl)
          (fx_val w (fun w => fx_nx (fun t => ih d cod t loc (w :: st) ce sl mc ms h j k) pc 1 tl))))
      | _ => false)
    (cond (Nat.beq kd 13) (match stk with
      | x :: st => fx_nz j x (fun x => match fx_un a x with
        | some w => fx_val w (fun w => fx_nx (fun t => ih d cod t loc (w :: st) ce sl mc ms h j k) pc 1 tl)
        | none => false)
      | _ => false)
    (cond (Nat.beq kd 14) (match stk with
      | v :: .inr (.inr (.inl (some r))) :: st => (match fx_hget h r with
        | some (.inr (.inl (ci, fs))) => (Nat.beq ci b && fx_fit (c % 8) v) && fx_put v fs (c / 8) (fun fs => fx_hset h r (.inr (.inl (ci, fs))) (fun h => fx_nx (fun t => ih d cod t loc st ce sl mc ms h j k) pc 3 tl))
        | _ => false)
      | _ => false)
    (cond (Nat.beq kd 15) (match fx_stk a stk with
      | some stk => fx_nx (fun t => ih d cod t loc stk ce sl mc ms h j k) pc 1 tl
      | none => false)
    (cond (Nat.beq kd 16) (match E.2.2.1 b with
      | some fs => (Nat.ble (ce + 1) mc && Nat.ble (sl + fs.length) ms) && fx_hnew h (.inr (.inl (b, fs))) (fun h' => fx_num (ce + 1) (fun ce => fx_num (sl + fs.length) (fun sl => fx_nx (fun t => ih d cod t loc (fr h.1 :: stk) ce sl mc ms h' j k) pc 3 tl)))
      | none => false)
    (cond (Nat.beq kd 17) (match stk with
      | .inl n :: st => ((Nat.ble n 1000000 && Nat.blt a 4) && (Nat.ble (ce + 1) mc && Nat.ble (sl + n) ms)) && fx_hnew h (.inr (.inr (a, n, []))) (fun h' => fx_num (ce + 1) (fun ce => fx_num (sl + n) (fun sl => fx_nx (fun t => ih d cod t loc (fr h.1 :: st) ce sl mc ms h' j k) pc 2 tl)))
      | _ => false)
    (cond (Nat.beq kd 18) (match stk with
      | .inr (.inr (.inl (some r))) :: st => (match fx_len h r with
        | some v => fx_nz j v (fun v => fx_nx (fun t => ih d cod t loc (v :: st) ce sl mc ms h j k) pc 1 tl)
        | none => false)
      | _ => false)
    (cond (Nat.beq kd 19) (match stk with
      | .inr (.inr (.inl none)) :: st => cond (Nat.beq a 0) (ih d cod (fx_to cod b) loc st ce sl mc ms h j k) (fx_nx (fun t => ih d cod t loc st ce sl mc ms h j k) pc 3 tl)
      | .inr (.inr (.inl (some r))) :: st => Nat.blt r 1000000 && cond (Nat.beq a 1) (ih d cod (fx_to cod b) loc st ce sl mc ms h j k) (fx_nx (fun t => ih d cod t loc st ce sl mc ms h j k) pc 3 tl)
      | _ => false)
    (cond (Nat.beq kd 20) (match stk with
      | x :: st => fx_nz j x (fun x => fx_sw j x a (fx_b b) (E.2.1 c) (fun t j => ih d cod (fx_to cod t) loc st ce sl mc ms h j k))
      | _ => false)
    (cond (Nat.beq kd 22) (match stk with
      | .inr (.inr (.inl (some r))) :: st => (Nat.blt 0 d && (Nat.blt r 1000000 && Nat.ble (fx_cats st) 8)) && fx_nx (fun t => ih d cod t loc st ce sl mc ms h j k) pc 3 tl
      | _ => false)
    (cond (Nat.beq kd 23) (match stk with
      | .inl n :: .inl dp :: .inr (.inr (.inl (some r))) :: .inl sp :: .inr (.inr (.inl (some r0))) :: st => (match fx_hget h r0 with
        | some (.inr (.inr (0, len0, u0))) => (match fx_hget h r with
          | some (.inr (.inr (0, len, u))) => ((Nat.blt 0 d && Nat.ble (fx_cats st) 8) && (Nat.ble (sp + n) len0 && Nat.ble (dp + n) len)) && fx_copy u0 u sp dp n (fun u => fx_hset h r (.inr (.inr (0, len, u))) (fun h => fx_nx (fun t => ih d cod t loc st ce sl mc ms h j k) pc 3 tl))
          | _ => false)
        | _ => false)
      | _ => false)
    (cond (Nat.beq kd 24) (match stk with
      | .inr (.inr (.inr y)) :: .inr (.inr (.inr x)) :: st => (match fx_lbin a x y with
        | some n => fx_num n (fun n => fx_nx (fun t => ih d cod t loc (fl n :: st) ce sl mc ms h j k) pc 1 tl)
        | none => false)
      | _ => false)
    (cond (Nat.beq kd 25) (match stk with
      | .inr (.inr (.inl (some r))) :: st => Nat.beq r 1000001 && fx_nx (fun t => ih d cod t loc (cond (Nat.beq b 0) (fr 1000002) (fc 0) :: st) ce sl mc ms h j k) pc 3 tl
      | _ => false)
    (cond (Nat.beq kd 26) (fx_nx (fun t => ih d cod t loc (cond (Nat.beq b 0) (fc 1) (fr 1000003) :: stk) ce sl mc ms h j k) pc 3 tl)
    (cond (Nat.beq kd 27) (fx_nx (fun t => ih d cod t loc (fr 1000001 :: stk) ce sl mc ms h j k) pc 2 tl)
    (cond (Nat.beq kd 28) (match stk with
      | [] => E.2.2.2.2 loc h j
      | _ => false) false)))))))))))))))))))))))))))
noncomputable def fx_go (E : fx_E) (n : Nat) : fx_G := Nat.rec (motive := fun _ => fx_G) (fun _ _ _ _ _ _ _ _ _ _ _ _ => false) (fun _ ih => fx_step E ih) n
theorem fx_go_succ (E : fx_E) (n : Nat) : fx_go E (n + 1) = fx_step E (fx_go E n) := rfl
end
