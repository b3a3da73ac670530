section
-- ===== PART A: goes FIRST, ahead of the names: the tables' words, and 'selects' of the private methods out of them =====
/-- a private method of a class that the tables say can be made, by its rows of tables_1 -/
def lw_okq (q : MethodName × Nat) : Prop := (q.1.cls ≠ "java/lang/invoke/MethodHandle" ∧ q.1.cls ≠ "java/lang/invoke/VarHandle") ∧ Cond.instantiable q.1.cls q.2 ∈ tables_1 ∧ Cond.privateMethod q.1 ∈ tables_1 ∧ Cond.instanceMethod q.1 ∈ tables_1
theorem lw_p0 : lw_okq (⟨"FaceSenate$Tape", "isAt", "(I)Z"⟩, 8) := ⟨⟨by decide +kernel, by decide +kernel⟩, List.mem_of_getElem? (i := 36) (by decide +kernel), List.mem_of_getElem? (i := 519) (by decide +kernel), List.mem_of_getElem? (i := 520) (by decide +kernel)⟩
theorem lw_p1 : lw_okq (⟨"FaceSenate$Tape", "readWord", "()V"⟩, 8) := ⟨⟨by decide +kernel, by decide +kernel⟩, List.mem_of_getElem? (i := 36) (by decide +kernel), List.mem_of_getElem? (i := 526) (by decide +kernel), List.mem_of_getElem? (i := 527) (by decide +kernel)⟩
theorem lw_p2 : lw_okq (⟨"FaceSenate$Tape", "readNumber", "()V"⟩, 8) := ⟨⟨by decide +kernel, by decide +kernel⟩, List.mem_of_getElem? (i := 36) (by decide +kernel), List.mem_of_getElem? (i := 533) (by decide +kernel), List.mem_of_getElem? (i := 534) (by decide +kernel)⟩
theorem lw_p3 : lw_okq (⟨"FaceSenate$Reader", "line", "(Z)Z"⟩, 4) := ⟨⟨by decide +kernel, by decide +kernel⟩, List.mem_of_getElem? (i := 30) (by decide +kernel), List.mem_of_getElem? (i := 595) (by decide +kernel), List.mem_of_getElem? (i := 596) (by decide +kernel)⟩
theorem lw_p4 : lw_okq (⟨"FaceSenate$Reader", "hallLine", "()Z"⟩, 4) := ⟨⟨by decide +kernel, by decide +kernel⟩, List.mem_of_getElem? (i := 30) (by decide +kernel), List.mem_of_getElem? (i := 599) (by decide +kernel), List.mem_of_getElem? (i := 600) (by decide +kernel)⟩
theorem lw_p5 : lw_okq (⟨"FaceSenate$Reader", "isNumber", "(II)Z"⟩, 4) := ⟨⟨by decide +kernel, by decide +kernel⟩, List.mem_of_getElem? (i := 30) (by decide +kernel), List.mem_of_getElem? (i := 604) (by decide +kernel), List.mem_of_getElem? (i := 605) (by decide +kernel)⟩
theorem lw_p6 : lw_okq (⟨"FaceSenate$Reader", "refuse", "()Z"⟩, 4) := ⟨⟨by decide +kernel, by decide +kernel⟩, List.mem_of_getElem? (i := 30) (by decide +kernel), List.mem_of_getElem? (i := 608) (by decide +kernel), List.mem_of_getElem? (i := 609) (by decide +kernel)⟩
theorem lw_p7 : lw_okq (⟨"FaceSenate$Reader", "refuseBy", "(I)Z"⟩, 4) := ⟨⟨by decide +kernel, by decide +kernel⟩, List.mem_of_getElem? (i := 30) (by decide +kernel), List.mem_of_getElem? (i := 612) (by decide +kernel), List.mem_of_getElem? (i := 613) (by decide +kernel)⟩
theorem lw_p8 : lw_okq (⟨"FaceSenate$Reader", "skip", "(I)Z"⟩, 4) := ⟨⟨by decide +kernel, by decide +kernel⟩, List.mem_of_getElem? (i := 30) (by decide +kernel), List.mem_of_getElem? (i := 616) (by decide +kernel), List.mem_of_getElem? (i := 617) (by decide +kernel)⟩
theorem lw_p9 : lw_okq (⟨"FaceSenate$Reader", "districtLine", "()Z"⟩, 4) := ⟨⟨by decide +kernel, by decide +kernel⟩, List.mem_of_getElem? (i := 30) (by decide +kernel), List.mem_of_getElem? (i := 620) (by decide +kernel), List.mem_of_getElem? (i := 621) (by decide +kernel)⟩
theorem lw_p10 : lw_okq (⟨"FaceSenate$Reader", "isNewName", "([JI)Z"⟩, 4) := ⟨⟨by decide +kernel, by decide +kernel⟩, List.mem_of_getElem? (i := 30) (by decide +kernel), List.mem_of_getElem? (i := 624) (by decide +kernel), List.mem_of_getElem? (i := 625) (by decide +kernel)⟩
theorem lw_p11 : lw_okq (⟨"FaceSenate$Reader", "placeOfName", "([JI)I"⟩, 4) := ⟨⟨by decide +kernel, by decide +kernel⟩, List.mem_of_getElem? (i := 30) (by decide +kernel), List.mem_of_getElem? (i := 628) (by decide +kernel), List.mem_of_getElem? (i := 629) (by decide +kernel)⟩
theorem lw_p12 : lw_okq (⟨"FaceSenate$Reader", "memberLine", "()Z"⟩, 4) := ⟨⟨by decide +kernel, by decide +kernel⟩, List.mem_of_getElem? (i := 30) (by decide +kernel), List.mem_of_getElem? (i := 632) (by decide +kernel), List.mem_of_getElem? (i := 633) (by decide +kernel)⟩
theorem lw_p13 : lw_okq (⟨"FaceSenate$Reader", "homeOf", "(I)Z"⟩, 4) := ⟨⟨by decide +kernel, by decide +kernel⟩, List.mem_of_getElem? (i := 30) (by decide +kernel), List.mem_of_getElem? (i := 636) (by decide +kernel), List.mem_of_getElem? (i := 637) (by decide +kernel)⟩
theorem lw_p14 : lw_okq (⟨"FaceSenate$Reader", "stoicOf", "(I)Z"⟩, 4) := ⟨⟨by decide +kernel, by decide +kernel⟩, List.mem_of_getElem? (i := 30) (by decide +kernel), List.mem_of_getElem? (i := 640) (by decide +kernel), List.mem_of_getElem? (i := 641) (by decide +kernel)⟩
theorem lw_p15 : lw_okq (⟨"FaceSenate$Reader", "seatOf", "(I)Z"⟩, 4) := ⟨⟨by decide +kernel, by decide +kernel⟩, List.mem_of_getElem? (i := 30) (by decide +kernel), List.mem_of_getElem? (i := 644) (by decide +kernel), List.mem_of_getElem? (i := 645) (by decide +kernel)⟩
def lw_privs_1 : List (MethodName × Nat) := [(⟨"FaceSenate$Tape", "isAt", "(I)Z"⟩, 8), (⟨"FaceSenate$Tape", "readWord", "()V"⟩, 8), (⟨"FaceSenate$Tape", "readNumber", "()V"⟩, 8), (⟨"FaceSenate$Reader", "line", "(Z)Z"⟩, 4), (⟨"FaceSenate$Reader", "hallLine", "()Z"⟩, 4), (⟨"FaceSenate$Reader", "isNumber", "(II)Z"⟩, 4), (⟨"FaceSenate$Reader", "refuse", "()Z"⟩, 4), (⟨"FaceSenate$Reader", "refuseBy", "(I)Z"⟩, 4), (⟨"FaceSenate$Reader", "skip", "(I)Z"⟩, 4), (⟨"FaceSenate$Reader", "districtLine", "()Z"⟩, 4), (⟨"FaceSenate$Reader", "isNewName", "([JI)Z"⟩, 4), (⟨"FaceSenate$Reader", "placeOfName", "([JI)I"⟩, 4), (⟨"FaceSenate$Reader", "memberLine", "()Z"⟩, 4), (⟨"FaceSenate$Reader", "homeOf", "(I)Z"⟩, 4), (⟨"FaceSenate$Reader", "stoicOf", "(I)Z"⟩, 4), (⟨"FaceSenate$Reader", "seatOf", "(I)Z"⟩, 4)]
theorem lw_r1 : ∀ q ∈ lw_privs_1, lw_okq q := List.forall_mem_cons.mpr ⟨lw_p0, List.forall_mem_cons.mpr ⟨lw_p1, List.forall_mem_cons.mpr ⟨lw_p2, List.forall_mem_cons.mpr ⟨lw_p3, List.forall_mem_cons.mpr ⟨lw_p4, List.forall_mem_cons.mpr ⟨lw_p5, List.forall_mem_cons.mpr ⟨lw_p6, List.forall_mem_cons.mpr ⟨lw_p7, List.forall_mem_cons.mpr ⟨lw_p8, List.forall_mem_cons.mpr ⟨lw_p9, List.forall_mem_cons.mpr ⟨lw_p10, List.forall_mem_cons.mpr ⟨lw_p11, List.forall_mem_cons.mpr ⟨lw_p12, List.forall_mem_cons.mpr ⟨lw_p13, List.forall_mem_cons.mpr ⟨lw_p14, List.forall_mem_cons.mpr ⟨lw_p15, fun _ h => absurd h List.not_mem_nil⟩⟩⟩⟩⟩⟩⟩⟩⟩⟩⟩⟩⟩⟩⟩⟩
theorem lw_p16 : lw_okq (⟨"FaceSenate$Reader", "isUntold", "(LFaceSenate$Formula;)Z"⟩, 4) := ⟨⟨by decide +kernel, by decide +kernel⟩, List.mem_of_getElem? (i := 30) (by decide +kernel), List.mem_of_getElem? (i := 648) (by decide +kernel), List.mem_of_getElem? (i := 649) (by decide +kernel)⟩
theorem lw_p17 : lw_okq (⟨"FaceSenate$Reader", "level", "(LFaceSenate$Formula;II)Z"⟩, 4) := ⟨⟨by decide +kernel, by decide +kernel⟩, List.mem_of_getElem? (i := 30) (by decide +kernel), List.mem_of_getElem? (i := 653) (by decide +kernel), List.mem_of_getElem? (i := 654) (by decide +kernel)⟩
theorem lw_p18 : lw_okq (⟨"FaceSenate$Reader", "unit", "(LFaceSenate$Formula;I)Z"⟩, 4) := ⟨⟨by decide +kernel, by decide +kernel⟩, List.mem_of_getElem? (i := 30) (by decide +kernel), List.mem_of_getElem? (i := 657) (by decide +kernel), List.mem_of_getElem? (i := 658) (by decide +kernel)⟩
theorem lw_p19 : lw_okq (⟨"FaceSenate$Reader", "negation", "(LFaceSenate$Formula;I)Z"⟩, 4) := ⟨⟨by decide +kernel, by decide +kernel⟩, List.mem_of_getElem? (i := 30) (by decide +kernel), List.mem_of_getElem? (i := 662) (by decide +kernel), List.mem_of_getElem? (i := 663) (by decide +kernel)⟩
theorem lw_p20 : lw_okq (⟨"FaceSenate$Reader", "toothLine", "()Z"⟩, 4) := ⟨⟨by decide +kernel, by decide +kernel⟩, List.mem_of_getElem? (i := 30) (by decide +kernel), List.mem_of_getElem? (i := 669) (by decide +kernel), List.mem_of_getElem? (i := 670) (by decide +kernel)⟩
theorem lw_p21 : lw_okq (⟨"FaceSenate$Reader", "drawLine", "()Z"⟩, 4) := ⟨⟨by decide +kernel, by decide +kernel⟩, List.mem_of_getElem? (i := 30) (by decide +kernel), List.mem_of_getElem? (i := 673) (by decide +kernel), List.mem_of_getElem? (i := 674) (by decide +kernel)⟩
theorem lw_p22 : lw_okq (⟨"FaceSenate", "isMember", "(I)Z"⟩, 16) := ⟨⟨by decide +kernel, by decide +kernel⟩, List.mem_of_getElem? (i := 22) (by decide +kernel), List.mem_of_getElem? (i := 702) (by decide +kernel), List.mem_of_getElem? (i := 703) (by decide +kernel)⟩
theorem lw_p23 : lw_okq (⟨"FaceSenate$Trial", "areBeside", "(II)Z"⟩, 11) := ⟨⟨by decide +kernel, by decide +kernel⟩, List.mem_of_getElem? (i := 321) (by decide +kernel), List.mem_of_getElem? (i := 719) (by decide +kernel), List.mem_of_getElem? (i := 720) (by decide +kernel)⟩
theorem lw_p24 : lw_okq (⟨"FaceSenate", "isSeat", "(I)Z"⟩, 16) := ⟨⟨by decide +kernel, by decide +kernel⟩, List.mem_of_getElem? (i := 22) (by decide +kernel), List.mem_of_getElem? (i := 774) (by decide +kernel), List.mem_of_getElem? (i := 775) (by decide +kernel)⟩
theorem lw_p25 : lw_okq (⟨"FaceSenate$Trial", "nextFace", "(LFaceSenate$Plan;I)I"⟩, 11) := ⟨⟨by decide +kernel, by decide +kernel⟩, List.mem_of_getElem? (i := 321) (by decide +kernel), List.mem_of_getElem? (i := 826) (by decide +kernel), List.mem_of_getElem? (i := 827) (by decide +kernel)⟩
theorem lw_p26 : lw_okq (⟨"FaceSenate", "canChange", "(II)Z"⟩, 16) := ⟨⟨by decide +kernel, by decide +kernel⟩, List.mem_of_getElem? (i := 22) (by decide +kernel), List.mem_of_getElem? (i := 855) (by decide +kernel), List.mem_of_getElem? (i := 856) (by decide +kernel)⟩
theorem lw_p27 : lw_okq (⟨"FaceSenate", "isSeated", "(I)Z"⟩, 16) := ⟨⟨by decide +kernel, by decide +kernel⟩, List.mem_of_getElem? (i := 22) (by decide +kernel), List.mem_of_getElem? (i := 859) (by decide +kernel), List.mem_of_getElem? (i := 860) (by decide +kernel)⟩
theorem lw_p28 : lw_okq (⟨"FaceSenate", "sampleOff", "(II)I"⟩, 16) := ⟨⟨by decide +kernel, by decide +kernel⟩, List.mem_of_getElem? (i := 22) (by decide +kernel), List.mem_of_getElem? (i := 903) (by decide +kernel), List.mem_of_getElem? (i := 904) (by decide +kernel)⟩
theorem lw_p29 : lw_okq (⟨"FaceSenate", "ringOf", "(II)I"⟩, 16) := ⟨⟨by decide +kernel, by decide +kernel⟩, List.mem_of_getElem? (i := 22) (by decide +kernel), List.mem_of_getElem? (i := 916) (by decide +kernel), List.mem_of_getElem? (i := 917) (by decide +kernel)⟩
theorem lw_p30 : lw_okq (⟨"FaceSenate", "layDown", "(I)V"⟩, 16) := ⟨⟨by decide +kernel, by decide +kernel⟩, List.mem_of_getElem? (i := 22) (by decide +kernel), List.mem_of_getElem? (i := 924) (by decide +kernel), List.mem_of_getElem? (i := 925) (by decide +kernel)⟩
theorem lw_p31 : lw_okq (⟨"FaceSenate", "groupOf", "(I)I"⟩, 16) := ⟨⟨by decide +kernel, by decide +kernel⟩, List.mem_of_getElem? (i := 22) (by decide +kernel), List.mem_of_getElem? (i := 943) (by decide +kernel), List.mem_of_getElem? (i := 944) (by decide +kernel)⟩
def lw_privs_2 : List (MethodName × Nat) := [(⟨"FaceSenate$Reader", "isUntold", "(LFaceSenate$Formula;)Z"⟩, 4), (⟨"FaceSenate$Reader", "level", "(LFaceSenate$Formula;II)Z"⟩, 4), (⟨"FaceSenate$Reader", "unit", "(LFaceSenate$Formula;I)Z"⟩, 4), (⟨"FaceSenate$Reader", "negation", "(LFaceSenate$Formula;I)Z"⟩, 4), (⟨"FaceSenate$Reader", "toothLine", "()Z"⟩, 4), (⟨"FaceSenate$Reader", "drawLine", "()Z"⟩, 4), (⟨"FaceSenate", "isMember", "(I)Z"⟩, 16), (⟨"FaceSenate$Trial", "areBeside", "(II)Z"⟩, 11), (⟨"FaceSenate", "isSeat", "(I)Z"⟩, 16), (⟨"FaceSenate$Trial", "nextFace", "(LFaceSenate$Plan;I)I"⟩, 11), (⟨"FaceSenate", "canChange", "(II)Z"⟩, 16), (⟨"FaceSenate", "isSeated", "(I)Z"⟩, 16), (⟨"FaceSenate", "sampleOff", "(II)I"⟩, 16), (⟨"FaceSenate", "ringOf", "(II)I"⟩, 16), (⟨"FaceSenate", "layDown", "(I)V"⟩, 16), (⟨"FaceSenate", "groupOf", "(I)I"⟩, 16)]
theorem lw_r2 : ∀ q ∈ lw_privs_2, lw_okq q := List.forall_mem_cons.mpr ⟨lw_p16, List.forall_mem_cons.mpr ⟨lw_p17, List.forall_mem_cons.mpr ⟨lw_p18, List.forall_mem_cons.mpr ⟨lw_p19, List.forall_mem_cons.mpr ⟨lw_p20, List.forall_mem_cons.mpr ⟨lw_p21, List.forall_mem_cons.mpr ⟨lw_p22, List.forall_mem_cons.mpr ⟨lw_p23, List.forall_mem_cons.mpr ⟨lw_p24, List.forall_mem_cons.mpr ⟨lw_p25, List.forall_mem_cons.mpr ⟨lw_p26, List.forall_mem_cons.mpr ⟨lw_p27, List.forall_mem_cons.mpr ⟨lw_p28, List.forall_mem_cons.mpr ⟨lw_p29, List.forall_mem_cons.mpr ⟨lw_p30, List.forall_mem_cons.mpr ⟨lw_p31, fun _ h => absurd h List.not_mem_nil⟩⟩⟩⟩⟩⟩⟩⟩⟩⟩⟩⟩⟩⟩⟩⟩
theorem lw_p32 : lw_okq (⟨"FaceSenate", "reportSeated", "(II)I"⟩, 16) := ⟨⟨by decide +kernel, by decide +kernel⟩, List.mem_of_getElem? (i := 22) (by decide +kernel), List.mem_of_getElem? (i := 951) (by decide +kernel), List.mem_of_getElem? (i := 952) (by decide +kernel)⟩
theorem lw_p33 : lw_okq (⟨"FaceSenate", "reportChanged", "(II)I"⟩, 16) := ⟨⟨by decide +kernel, by decide +kernel⟩, List.mem_of_getElem? (i := 22) (by decide +kernel), List.mem_of_getElem? (i := 960) (by decide +kernel), List.mem_of_getElem? (i := 961) (by decide +kernel)⟩
theorem lw_p34 : lw_okq (⟨"FaceSenate", "turn", "(IIII)I"⟩, 16) := ⟨⟨by decide +kernel, by decide +kernel⟩, List.mem_of_getElem? (i := 22) (by decide +kernel), List.mem_of_getElem? (i := 1021) (by decide +kernel), List.mem_of_getElem? (i := 1022) (by decide +kernel)⟩
theorem lw_p35 : lw_okq (⟨"FaceSenate", "goOnWith", "(II)V"⟩, 16) := ⟨⟨by decide +kernel, by decide +kernel⟩, List.mem_of_getElem? (i := 22) (by decide +kernel), List.mem_of_getElem? (i := 1033) (by decide +kernel), List.mem_of_getElem? (i := 1034) (by decide +kernel)⟩
theorem lw_p36 : lw_okq (⟨"FaceSenate", "fittingNews", "(I)I"⟩, 16) := ⟨⟨by decide +kernel, by decide +kernel⟩, List.mem_of_getElem? (i := 22) (by decide +kernel), List.mem_of_getElem? (i := 1080) (by decide +kernel), List.mem_of_getElem? (i := 1081) (by decide +kernel)⟩
theorem lw_p37 : lw_okq (⟨"FaceSenate$Looks", "counts", "(II)Z"⟩, 7) := ⟨⟨by decide +kernel, by decide +kernel⟩, List.mem_of_getElem? (i := 405) (by decide +kernel), List.mem_of_getElem? (i := 1088) (by decide +kernel), List.mem_of_getElem? (i := 1089) (by decide +kernel)⟩
theorem lw_p38 : lw_okq (⟨"FaceSenate", "allAreSo", "(III)Z"⟩, 16) := ⟨⟨by decide +kernel, by decide +kernel⟩, List.mem_of_getElem? (i := 22) (by decide +kernel), List.mem_of_getElem? (i := 1093) (by decide +kernel), List.mem_of_getElem? (i := 1094) (by decide +kernel)⟩
theorem lw_p39 : lw_okq (⟨"FaceSenate", "facesThen", "(II)V"⟩, 16) := ⟨⟨by decide +kernel, by decide +kernel⟩, List.mem_of_getElem? (i := 22) (by decide +kernel), List.mem_of_getElem? (i := 1105) (by decide +kernel), List.mem_of_getElem? (i := 1106) (by decide +kernel)⟩
theorem lw_p40 : lw_okq (⟨"FaceSenate", "mostLeft", "(II)I"⟩, 16) := ⟨⟨by decide +kernel, by decide +kernel⟩, List.mem_of_getElem? (i := 22) (by decide +kernel), List.mem_of_getElem? (i := 1110) (by decide +kernel), List.mem_of_getElem? (i := 1111) (by decide +kernel)⟩
theorem lw_p41 : lw_okq (⟨"FaceSenateModel", "clearBank", "()V"⟩, 73) := ⟨⟨by decide +kernel, by decide +kernel⟩, List.mem_of_getElem? (i := 1129) (by decide +kernel), List.mem_of_getElem? (i := 1135) (by decide +kernel), List.mem_of_getElem? (i := 1136) (by decide +kernel)⟩
theorem lw_p42 : lw_okq (⟨"FaceSenateModel", "startAnew", "()V"⟩, 73) := ⟨⟨by decide +kernel, by decide +kernel⟩, List.mem_of_getElem? (i := 1129) (by decide +kernel), List.mem_of_getElem? (i := 1139) (by decide +kernel), List.mem_of_getElem? (i := 1140) (by decide +kernel)⟩
theorem lw_p43 : lw_okq (⟨"FaceSenateModel", "many", "()I"⟩, 73) := ⟨⟨by decide +kernel, by decide +kernel⟩, List.mem_of_getElem? (i := 1129) (by decide +kernel), List.mem_of_getElem? (i := 1143) (by decide +kernel), List.mem_of_getElem? (i := 1144) (by decide +kernel)⟩
theorem lw_p44 : lw_okq (⟨"FaceSenateModel", "goOn", "()V"⟩, 73) := ⟨⟨by decide +kernel, by decide +kernel⟩, List.mem_of_getElem? (i := 1129) (by decide +kernel), List.mem_of_getElem? (i := 1371) (by decide +kernel), List.mem_of_getElem? (i := 1372) (by decide +kernel)⟩
theorem lw_p45 : lw_okq (⟨"FaceSenateModel", "sign", "(I)I"⟩, 73) := ⟨⟨by decide +kernel, by decide +kernel⟩, List.mem_of_getElem? (i := 1129) (by decide +kernel), List.mem_of_getElem? (i := 1375) (by decide +kernel), List.mem_of_getElem? (i := 1376) (by decide +kernel)⟩
theorem lw_p46 : lw_okq (⟨"FaceSenateModel", "isGood", "()Z"⟩, 73) := ⟨⟨by decide +kernel, by decide +kernel⟩, List.mem_of_getElem? (i := 1129) (by decide +kernel), List.mem_of_getElem? (i := 1415) (by decide +kernel), List.mem_of_getElem? (i := 1416) (by decide +kernel)⟩
theorem lw_p47 : lw_okq (⟨"FaceSenateModel", "readLine", "()V"⟩, 73) := ⟨⟨by decide +kernel, by decide +kernel⟩, List.mem_of_getElem? (i := 1129) (by decide +kernel), List.mem_of_getElem? (i := 1419) (by decide +kernel), List.mem_of_getElem? (i := 1420) (by decide +kernel)⟩
def lw_privs_3 : List (MethodName × Nat) := [(⟨"FaceSenate", "reportSeated", "(II)I"⟩, 16), (⟨"FaceSenate", "reportChanged", "(II)I"⟩, 16), (⟨"FaceSenate", "turn", "(IIII)I"⟩, 16), (⟨"FaceSenate", "goOnWith", "(II)V"⟩, 16), (⟨"FaceSenate", "fittingNews", "(I)I"⟩, 16), (⟨"FaceSenate$Looks", "counts", "(II)Z"⟩, 7), (⟨"FaceSenate", "allAreSo", "(III)Z"⟩, 16), (⟨"FaceSenate", "facesThen", "(II)V"⟩, 16), (⟨"FaceSenate", "mostLeft", "(II)I"⟩, 16), (⟨"FaceSenateModel", "clearBank", "()V"⟩, 73), (⟨"FaceSenateModel", "startAnew", "()V"⟩, 73), (⟨"FaceSenateModel", "many", "()I"⟩, 73), (⟨"FaceSenateModel", "goOn", "()V"⟩, 73), (⟨"FaceSenateModel", "sign", "(I)I"⟩, 73), (⟨"FaceSenateModel", "isGood", "()Z"⟩, 73), (⟨"FaceSenateModel", "readLine", "()V"⟩, 73)]
theorem lw_r3 : ∀ q ∈ lw_privs_3, lw_okq q := List.forall_mem_cons.mpr ⟨lw_p32, List.forall_mem_cons.mpr ⟨lw_p33, List.forall_mem_cons.mpr ⟨lw_p34, List.forall_mem_cons.mpr ⟨lw_p35, List.forall_mem_cons.mpr ⟨lw_p36, List.forall_mem_cons.mpr ⟨lw_p37, List.forall_mem_cons.mpr ⟨lw_p38, List.forall_mem_cons.mpr ⟨lw_p39, List.forall_mem_cons.mpr ⟨lw_p40, List.forall_mem_cons.mpr ⟨lw_p41, List.forall_mem_cons.mpr ⟨lw_p42, List.forall_mem_cons.mpr ⟨lw_p43, List.forall_mem_cons.mpr ⟨lw_p44, List.forall_mem_cons.mpr ⟨lw_p45, List.forall_mem_cons.mpr ⟨lw_p46, List.forall_mem_cons.mpr ⟨lw_p47, fun _ h => absurd h List.not_mem_nil⟩⟩⟩⟩⟩⟩⟩⟩⟩⟩⟩⟩⟩⟩⟩⟩
theorem lw_p48 : lw_okq (⟨"FaceSenateModel", "isFull", "()Z"⟩, 73) := ⟨⟨by decide +kernel, by decide +kernel⟩, List.mem_of_getElem? (i := 1129) (by decide +kernel), List.mem_of_getElem? (i := 1423) (by decide +kernel), List.mem_of_getElem? (i := 1424) (by decide +kernel)⟩
theorem lw_p49 : lw_okq (⟨"FaceSenateModel", "isWord", "(J)Z"⟩, 73) := ⟨⟨by decide +kernel, by decide +kernel⟩, List.mem_of_getElem? (i := 1129) (by decide +kernel), List.mem_of_getElem? (i := 1427) (by decide +kernel), List.mem_of_getElem? (i := 1428) (by decide +kernel)⟩
theorem lw_p50 : lw_okq (⟨"FaceSenateModel", "misplaced", "()V"⟩, 73) := ⟨⟨by decide +kernel, by decide +kernel⟩, List.mem_of_getElem? (i := 1129) (by decide +kernel), List.mem_of_getElem? (i := 1431) (by decide +kernel), List.mem_of_getElem? (i := 1432) (by decide +kernel)⟩
theorem lw_p51 : lw_okq (⟨"FaceSenateModel", "fails", "(II)V"⟩, 73) := ⟨⟨by decide +kernel, by decide +kernel⟩, List.mem_of_getElem? (i := 1129) (by decide +kernel), List.mem_of_getElem? (i := 1435) (by decide +kernel), List.mem_of_getElem? (i := 1436) (by decide +kernel)⟩
theorem lw_p52 : lw_okq (⟨"FaceSenateModel", "numeral", "(II)I"⟩, 73) := ⟨⟨by decide +kernel, by decide +kernel⟩, List.mem_of_getElem? (i := 1129) (by decide +kernel), List.mem_of_getElem? (i := 1439) (by decide +kernel), List.mem_of_getElem? (i := 1440) (by decide +kernel)⟩
theorem lw_p53 : lw_okq (⟨"FaceSenateModel", "after", "(JII)I"⟩, 73) := ⟨⟨by decide +kernel, by decide +kernel⟩, List.mem_of_getElem? (i := 1129) (by decide +kernel), List.mem_of_getElem? (i := 1443) (by decide +kernel), List.mem_of_getElem? (i := 1444) (by decide +kernel)⟩
theorem lw_p54 : lw_okq (⟨"FaceSenateModel", "must", "(Z)V"⟩, 73) := ⟨⟨by decide +kernel, by decide +kernel⟩, List.mem_of_getElem? (i := 1129) (by decide +kernel), List.mem_of_getElem? (i := 1447) (by decide +kernel), List.mem_of_getElem? (i := 1448) (by decide +kernel)⟩
theorem lw_p55 : lw_okq (⟨"FaceSenateModel", "readDistrict", "()V"⟩, 73) := ⟨⟨by decide +kernel, by decide +kernel⟩, List.mem_of_getElem? (i := 1129) (by decide +kernel), List.mem_of_getElem? (i := 1451) (by decide +kernel), List.mem_of_getElem? (i := 1452) (by decide +kernel)⟩
theorem lw_p56 : lw_okq (⟨"FaceSenateModel", "districtHere", "()I"⟩, 73) := ⟨⟨by decide +kernel, by decide +kernel⟩, List.mem_of_getElem? (i := 1129) (by decide +kernel), List.mem_of_getElem? (i := 1455) (by decide +kernel), List.mem_of_getElem? (i := 1456) (by decide +kernel)⟩
theorem lw_p57 : lw_okq (⟨"FaceSenateModel", "here", "([JII)I"⟩, 73) := ⟨⟨by decide +kernel, by decide +kernel⟩, List.mem_of_getElem? (i := 1129) (by decide +kernel), List.mem_of_getElem? (i := 1459) (by decide +kernel), List.mem_of_getElem? (i := 1460) (by decide +kernel)⟩
theorem lw_p58 : lw_okq (⟨"FaceSenateModel", "fresh", "(I)J"⟩, 73) := ⟨⟨by decide +kernel, by decide +kernel⟩, List.mem_of_getElem? (i := 1129) (by decide +kernel), List.mem_of_getElem? (i := 1463) (by decide +kernel), List.mem_of_getElem? (i := 1464) (by decide +kernel)⟩
theorem lw_p59 : lw_okq (⟨"FaceSenateModel", "readMember", "()V"⟩, 73) := ⟨⟨by decide +kernel, by decide +kernel⟩, List.mem_of_getElem? (i := 1129) (by decide +kernel), List.mem_of_getElem? (i := 1467) (by decide +kernel), List.mem_of_getElem? (i := 1468) (by decide +kernel)⟩
theorem lw_p60 : lw_okq (⟨"FaceSenateModel", "known", "(I)I"⟩, 73) := ⟨⟨by decide +kernel, by decide +kernel⟩, List.mem_of_getElem? (i := 1129) (by decide +kernel), List.mem_of_getElem? (i := 1471) (by decide +kernel), List.mem_of_getElem? (i := 1472) (by decide +kernel)⟩
theorem lw_p61 : lw_okq (⟨"FaceSenateModel", "passes", "(J)Z"⟩, 73) := ⟨⟨by decide +kernel, by decide +kernel⟩, List.mem_of_getElem? (i := 1129) (by decide +kernel), List.mem_of_getElem? (i := 1475) (by decide +kernel), List.mem_of_getElem? (i := 1476) (by decide +kernel)⟩
theorem lw_p62 : lw_okq (⟨"FaceSenateModel", "readSeat", "()I"⟩, 73) := ⟨⟨by decide +kernel, by decide +kernel⟩, List.mem_of_getElem? (i := 1129) (by decide +kernel), List.mem_of_getElem? (i := 1479) (by decide +kernel), List.mem_of_getElem? (i := 1480) (by decide +kernel)⟩
theorem lw_p63 : lw_okq (⟨"FaceSenateModel", "readRule", "(I)V"⟩, 73) := ⟨⟨by decide +kernel, by decide +kernel⟩, List.mem_of_getElem? (i := 1129) (by decide +kernel), List.mem_of_getElem? (i := 1483) (by decide +kernel), List.mem_of_getElem? (i := 1484) (by decide +kernel)⟩
def lw_privs_4 : List (MethodName × Nat) := [(⟨"FaceSenateModel", "isFull", "()Z"⟩, 73), (⟨"FaceSenateModel", "isWord", "(J)Z"⟩, 73), (⟨"FaceSenateModel", "misplaced", "()V"⟩, 73), (⟨"FaceSenateModel", "fails", "(II)V"⟩, 73), (⟨"FaceSenateModel", "numeral", "(II)I"⟩, 73), (⟨"FaceSenateModel", "after", "(JII)I"⟩, 73), (⟨"FaceSenateModel", "must", "(Z)V"⟩, 73), (⟨"FaceSenateModel", "readDistrict", "()V"⟩, 73), (⟨"FaceSenateModel", "districtHere", "()I"⟩, 73), (⟨"FaceSenateModel", "here", "([JII)I"⟩, 73), (⟨"FaceSenateModel", "fresh", "(I)J"⟩, 73), (⟨"FaceSenateModel", "readMember", "()V"⟩, 73), (⟨"FaceSenateModel", "known", "(I)I"⟩, 73), (⟨"FaceSenateModel", "passes", "(J)Z"⟩, 73), (⟨"FaceSenateModel", "readSeat", "()I"⟩, 73), (⟨"FaceSenateModel", "readRule", "(I)V"⟩, 73)]
theorem lw_r4 : ∀ q ∈ lw_privs_4, lw_okq q := List.forall_mem_cons.mpr ⟨lw_p48, List.forall_mem_cons.mpr ⟨lw_p49, List.forall_mem_cons.mpr ⟨lw_p50, List.forall_mem_cons.mpr ⟨lw_p51, List.forall_mem_cons.mpr ⟨lw_p52, List.forall_mem_cons.mpr ⟨lw_p53, List.forall_mem_cons.mpr ⟨lw_p54, List.forall_mem_cons.mpr ⟨lw_p55, List.forall_mem_cons.mpr ⟨lw_p56, List.forall_mem_cons.mpr ⟨lw_p57, List.forall_mem_cons.mpr ⟨lw_p58, List.forall_mem_cons.mpr ⟨lw_p59, List.forall_mem_cons.mpr ⟨lw_p60, List.forall_mem_cons.mpr ⟨lw_p61, List.forall_mem_cons.mpr ⟨lw_p62, List.forall_mem_cons.mpr ⟨lw_p63, fun _ h => absurd h List.not_mem_nil⟩⟩⟩⟩⟩⟩⟩⟩⟩⟩⟩⟩⟩⟩⟩⟩
theorem lw_p64 : lw_okq (⟨"FaceSenateModel", "e", "()V"⟩, 73) := ⟨⟨by decide +kernel, by decide +kernel⟩, List.mem_of_getElem? (i := 1129) (by decide +kernel), List.mem_of_getElem? (i := 1487) (by decide +kernel), List.mem_of_getElem? (i := 1488) (by decide +kernel)⟩
theorem lw_p65 : lw_okq (⟨"FaceSenateModel", "pushE", "(II)V"⟩, 73) := ⟨⟨by decide +kernel, by decide +kernel⟩, List.mem_of_getElem? (i := 1129) (by decide +kernel), List.mem_of_getElem? (i := 1491) (by decide +kernel), List.mem_of_getElem? (i := 1492) (by decide +kernel)⟩
theorem lw_p66 : lw_okq (⟨"FaceSenateModel", "unit", "()Z"⟩, 73) := ⟨⟨by decide +kernel, by decide +kernel⟩, List.mem_of_getElem? (i := 1129) (by decide +kernel), List.mem_of_getElem? (i := 1495) (by decide +kernel), List.mem_of_getElem? (i := 1496) (by decide +kernel)⟩
theorem lw_p67 : lw_okq (⟨"FaceSenateModel", "isSignHere", "(I)Z"⟩, 73) := ⟨⟨by decide +kernel, by decide +kernel⟩, List.mem_of_getElem? (i := 1129) (by decide +kernel), List.mem_of_getElem? (i := 1499) (by decide +kernel), List.mem_of_getElem? (i := 1500) (by decide +kernel)⟩
theorem lw_p68 : lw_okq (⟨"FaceSenateModel", "wordHere", "()I"⟩, 73) := ⟨⟨by decide +kernel, by decide +kernel⟩, List.mem_of_getElem? (i := 1129) (by decide +kernel), List.mem_of_getElem? (i := 1503) (by decide +kernel), List.mem_of_getElem? (i := 1504) (by decide +kernel)⟩
theorem lw_p69 : lw_okq (⟨"FaceSenateModel", "emit", "(II)V"⟩, 73) := ⟨⟨by decide +kernel, by decide +kernel⟩, List.mem_of_getElem? (i := 1129) (by decide +kernel), List.mem_of_getElem? (i := 1507) (by decide +kernel), List.mem_of_getElem? (i := 1508) (by decide +kernel)⟩
theorem lw_p70 : lw_okq (⟨"FaceSenateModel", "behindUnit", "()Z"⟩, 73) := ⟨⟨by decide +kernel, by decide +kernel⟩, List.mem_of_getElem? (i := 1129) (by decide +kernel), List.mem_of_getElem? (i := 1511) (by decide +kernel), List.mem_of_getElem? (i := 1512) (by decide +kernel)⟩
theorem lw_p71 : lw_okq (⟨"FaceSenateModel", "rankHere", "()I"⟩, 73) := ⟨⟨by decide +kernel, by decide +kernel⟩, List.mem_of_getElem? (i := 1129) (by decide +kernel), List.mem_of_getElem? (i := 1515) (by decide +kernel), List.mem_of_getElem? (i := 1516) (by decide +kernel)⟩
theorem lw_p72 : lw_okq (⟨"FaceSenateModel", "isCompared", "()Z"⟩, 73) := ⟨⟨by decide +kernel, by decide +kernel⟩, List.mem_of_getElem? (i := 1129) (by decide +kernel), List.mem_of_getElem? (i := 1519) (by decide +kernel), List.mem_of_getElem? (i := 1520) (by decide +kernel)⟩
theorem lw_p73 : lw_okq (⟨"FaceSenateModel", "isMember", "(I)Z"⟩, 73) := ⟨⟨by decide +kernel, by decide +kernel⟩, List.mem_of_getElem? (i := 1129) (by decide +kernel), List.mem_of_getElem? (i := 1531) (by decide +kernel), List.mem_of_getElem? (i := 1532) (by decide +kernel)⟩
theorem lw_p74 : lw_okq (⟨"FaceSenateModel", "beside", "(I)I"⟩, 73) := ⟨⟨by decide +kernel, by decide +kernel⟩, List.mem_of_getElem? (i := 1129) (by decide +kernel), List.mem_of_getElem? (i := 1538) (by decide +kernel), List.mem_of_getElem? (i := 1539) (by decide +kernel)⟩
theorem lw_p75 : lw_okq (⟨"FaceSenateModel", "areBeside", "(II)Z"⟩, 73) := ⟨⟨by decide +kernel, by decide +kernel⟩, List.mem_of_getElem? (i := 1129) (by decide +kernel), List.mem_of_getElem? (i := 1542) (by decide +kernel), List.mem_of_getElem? (i := 1543) (by decide +kernel)⟩
theorem lw_p76 : lw_okq (⟨"FaceSenateModel", "facesOf", "(I)I"⟩, 73) := ⟨⟨by decide +kernel, by decide +kernel⟩, List.mem_of_getElem? (i := 1129) (by decide +kernel), List.mem_of_getElem? (i := 1549) (by decide +kernel), List.mem_of_getElem? (i := 1550) (by decide +kernel)⟩
theorem lw_p77 : lw_okq (⟨"FaceSenateModel", "brightAt", "(I)I"⟩, 73) := ⟨⟨by decide +kernel, by decide +kernel⟩, List.mem_of_getElem? (i := 1129) (by decide +kernel), List.mem_of_getElem? (i := 1556) (by decide +kernel), List.mem_of_getElem? (i := 1557) (by decide +kernel)⟩
theorem lw_p78 : lw_okq (⟨"FaceSenateModel", "comes", "(I)I"⟩, 73) := ⟨⟨by decide +kernel, by decide +kernel⟩, List.mem_of_getElem? (i := 1129) (by decide +kernel), List.mem_of_getElem? (i := 1560) (by decide +kernel), List.mem_of_getElem? (i := 1561) (by decide +kernel)⟩
theorem lw_p79 : lw_okq (⟨"FaceSenateModel", "asked", "(II)I"⟩, 73) := ⟨⟨by decide +kernel, by decide +kernel⟩, List.mem_of_getElem? (i := 1129) (by decide +kernel), List.mem_of_getElem? (i := 1564) (by decide +kernel), List.mem_of_getElem? (i := 1565) (by decide +kernel)⟩
def lw_privs_5 : List (MethodName × Nat) := [(⟨"FaceSenateModel", "e", "()V"⟩, 73), (⟨"FaceSenateModel", "pushE", "(II)V"⟩, 73), (⟨"FaceSenateModel", "unit", "()Z"⟩, 73), (⟨"FaceSenateModel", "isSignHere", "(I)Z"⟩, 73), (⟨"FaceSenateModel", "wordHere", "()I"⟩, 73), (⟨"FaceSenateModel", "emit", "(II)V"⟩, 73), (⟨"FaceSenateModel", "behindUnit", "()Z"⟩, 73), (⟨"FaceSenateModel", "rankHere", "()I"⟩, 73), (⟨"FaceSenateModel", "isCompared", "()Z"⟩, 73), (⟨"FaceSenateModel", "isMember", "(I)Z"⟩, 73), (⟨"FaceSenateModel", "beside", "(I)I"⟩, 73), (⟨"FaceSenateModel", "areBeside", "(II)Z"⟩, 73), (⟨"FaceSenateModel", "facesOf", "(I)I"⟩, 73), (⟨"FaceSenateModel", "brightAt", "(I)I"⟩, 73), (⟨"FaceSenateModel", "comes", "(I)I"⟩, 73), (⟨"FaceSenateModel", "asked", "(II)I"⟩, 73)]
theorem lw_r5 : ∀ q ∈ lw_privs_5, lw_okq q := List.forall_mem_cons.mpr ⟨lw_p64, List.forall_mem_cons.mpr ⟨lw_p65, List.forall_mem_cons.mpr ⟨lw_p66, List.forall_mem_cons.mpr ⟨lw_p67, List.forall_mem_cons.mpr ⟨lw_p68, List.forall_mem_cons.mpr ⟨lw_p69, List.forall_mem_cons.mpr ⟨lw_p70, List.forall_mem_cons.mpr ⟨lw_p71, List.forall_mem_cons.mpr ⟨lw_p72, List.forall_mem_cons.mpr ⟨lw_p73, List.forall_mem_cons.mpr ⟨lw_p74, List.forall_mem_cons.mpr ⟨lw_p75, List.forall_mem_cons.mpr ⟨lw_p76, List.forall_mem_cons.mpr ⟨lw_p77, List.forall_mem_cons.mpr ⟨lw_p78, List.forall_mem_cons.mpr ⟨lw_p79, fun _ h => absurd h List.not_mem_nil⟩⟩⟩⟩⟩⟩⟩⟩⟩⟩⟩⟩⟩⟩⟩⟩
theorem lw_p80 : lw_okq (⟨"FaceSenateModel", "membersOf", "(I)I"⟩, 73) := ⟨⟨by decide +kernel, by decide +kernel⟩, List.mem_of_getElem? (i := 1129) (by decide +kernel), List.mem_of_getElem? (i := 1575) (by decide +kernel), List.mem_of_getElem? (i := 1576) (by decide +kernel)⟩
theorem lw_p81 : lw_okq (⟨"FaceSenateModel", "offOf", "(I)I"⟩, 73) := ⟨⟨by decide +kernel, by decide +kernel⟩, List.mem_of_getElem? (i := 1129) (by decide +kernel), List.mem_of_getElem? (i := 1579) (by decide +kernel), List.mem_of_getElem? (i := 1580) (by decide +kernel)⟩
theorem lw_p82 : lw_okq (⟨"FaceSenateModel", "isSeat", "(I)Z"⟩, 73) := ⟨⟨by decide +kernel, by decide +kernel⟩, List.mem_of_getElem? (i := 1129) (by decide +kernel), List.mem_of_getElem? (i := 1590) (by decide +kernel), List.mem_of_getElem? (i := 1591) (by decide +kernel)⟩
theorem lw_p83 : lw_okq (⟨"FaceSenateModel", "seats", "()I"⟩, 73) := ⟨⟨by decide +kernel, by decide +kernel⟩, List.mem_of_getElem? (i := 1129) (by decide +kernel), List.mem_of_getElem? (i := 1594) (by decide +kernel), List.mem_of_getElem? (i := 1595) (by decide +kernel)⟩
theorem lw_p84 : lw_okq (⟨"FaceSenateModel", "whoSits", "(I)I"⟩, 73) := ⟨⟨by decide +kernel, by decide +kernel⟩, List.mem_of_getElem? (i := 1129) (by decide +kernel), List.mem_of_getElem? (i := 1598) (by decide +kernel), List.mem_of_getElem? (i := 1599) (by decide +kernel)⟩
theorem lw_p85 : lw_okq (⟨"FaceSenateModel", "reportNow", "()I"⟩, 73) := ⟨⟨by decide +kernel, by decide +kernel⟩, List.mem_of_getElem? (i := 1129) (by decide +kernel), List.mem_of_getElem? (i := 1606) (by decide +kernel), List.mem_of_getElem? (i := 1607) (by decide +kernel)⟩
theorem lw_p86 : lw_okq (⟨"FaceSenateModel", "everybody", "()I"⟩, 73) := ⟨⟨by decide +kernel, by decide +kernel⟩, List.mem_of_getElem? (i := 1129) (by decide +kernel), List.mem_of_getElem? (i := 1610) (by decide +kernel), List.mem_of_getElem? (i := 1611) (by decide +kernel)⟩
theorem lw_p87 : lw_okq (⟨"FaceSenateModel", "allOff", "()I"⟩, 73) := ⟨⟨by decide +kernel, by decide +kernel⟩, List.mem_of_getElem? (i := 1129) (by decide +kernel), List.mem_of_getElem? (i := 1618) (by decide +kernel), List.mem_of_getElem? (i := 1619) (by decide +kernel)⟩
theorem lw_p88 : lw_okq (⟨"FaceSenateModel", "keepAct", "()V"⟩, 73) := ⟨⟨by decide +kernel, by decide +kernel⟩, List.mem_of_getElem? (i := 1129) (by decide +kernel), List.mem_of_getElem? (i := 1630) (by decide +kernel), List.mem_of_getElem? (i := 1631) (by decide +kernel)⟩
theorem lw_p89 : lw_okq (⟨"FaceSenateModel", "goInEarnest", "()I"⟩, 73) := ⟨⟨by decide +kernel, by decide +kernel⟩, List.mem_of_getElem? (i := 1129) (by decide +kernel), List.mem_of_getElem? (i := 1634) (by decide +kernel), List.mem_of_getElem? (i := 1635) (by decide +kernel)⟩
theorem lw_p90 : lw_okq (⟨"FaceSenateModel", "goStep", "()I"⟩, 73) := ⟨⟨by decide +kernel, by decide +kernel⟩, List.mem_of_getElem? (i := 1129) (by decide +kernel), List.mem_of_getElem? (i := 1638) (by decide +kernel), List.mem_of_getElem? (i := 1639) (by decide +kernel)⟩
theorem lw_p91 : lw_okq (⟨"FaceSenateModel", "lookOf", "(I)I"⟩, 73) := ⟨⟨by decide +kernel, by decide +kernel⟩, List.mem_of_getElem? (i := 1129) (by decide +kernel), List.mem_of_getElem? (i := 1642) (by decide +kernel), List.mem_of_getElem? (i := 1643) (by decide +kernel)⟩
theorem lw_p92 : lw_okq (⟨"FaceSenateModel", "canChange", "(II)Z"⟩, 73) := ⟨⟨by decide +kernel, by decide +kernel⟩, List.mem_of_getElem? (i := 1129) (by decide +kernel), List.mem_of_getElem? (i := 1661) (by decide +kernel), List.mem_of_getElem? (i := 1662) (by decide +kernel)⟩
theorem lw_p93 : lw_okq (⟨"FaceSenateModel", "changeBoth", "(II)V"⟩, 73) := ⟨⟨by decide +kernel, by decide +kernel⟩, List.mem_of_getElem? (i := 1129) (by decide +kernel), List.mem_of_getElem? (i := 1665) (by decide +kernel), List.mem_of_getElem? (i := 1666) (by decide +kernel)⟩
theorem lw_p94 : lw_okq (⟨"FaceSenateModel", "exchange", "()V"⟩, 73) := ⟨⟨by decide +kernel, by decide +kernel⟩, List.mem_of_getElem? (i := 1129) (by decide +kernel), List.mem_of_getElem? (i := 1677) (by decide +kernel), List.mem_of_getElem? (i := 1678) (by decide +kernel)⟩
theorem lw_p95 : lw_okq (⟨"FaceSenateModel", "offWith", "(II)I"⟩, 73) := ⟨⟨by decide +kernel, by decide +kernel⟩, List.mem_of_getElem? (i := 1129) (by decide +kernel), List.mem_of_getElem? (i := 1689) (by decide +kernel), List.mem_of_getElem? (i := 1690) (by decide +kernel)⟩
def lw_privs_6 : List (MethodName × Nat) := [(⟨"FaceSenateModel", "membersOf", "(I)I"⟩, 73), (⟨"FaceSenateModel", "offOf", "(I)I"⟩, 73), (⟨"FaceSenateModel", "isSeat", "(I)Z"⟩, 73), (⟨"FaceSenateModel", "seats", "()I"⟩, 73), (⟨"FaceSenateModel", "whoSits", "(I)I"⟩, 73), (⟨"FaceSenateModel", "reportNow", "()I"⟩, 73), (⟨"FaceSenateModel", "everybody", "()I"⟩, 73), (⟨"FaceSenateModel", "allOff", "()I"⟩, 73), (⟨"FaceSenateModel", "keepAct", "()V"⟩, 73), (⟨"FaceSenateModel", "goInEarnest", "()I"⟩, 73), (⟨"FaceSenateModel", "goStep", "()I"⟩, 73), (⟨"FaceSenateModel", "lookOf", "(I)I"⟩, 73), (⟨"FaceSenateModel", "canChange", "(II)Z"⟩, 73), (⟨"FaceSenateModel", "changeBoth", "(II)V"⟩, 73), (⟨"FaceSenateModel", "exchange", "()V"⟩, 73), (⟨"FaceSenateModel", "offWith", "(II)I"⟩, 73)]
theorem lw_r6 : ∀ q ∈ lw_privs_6, lw_okq q := List.forall_mem_cons.mpr ⟨lw_p80, List.forall_mem_cons.mpr ⟨lw_p81, List.forall_mem_cons.mpr ⟨lw_p82, List.forall_mem_cons.mpr ⟨lw_p83, List.forall_mem_cons.mpr ⟨lw_p84, List.forall_mem_cons.mpr ⟨lw_p85, List.forall_mem_cons.mpr ⟨lw_p86, List.forall_mem_cons.mpr ⟨lw_p87, List.forall_mem_cons.mpr ⟨lw_p88, List.forall_mem_cons.mpr ⟨lw_p89, List.forall_mem_cons.mpr ⟨lw_p90, List.forall_mem_cons.mpr ⟨lw_p91, List.forall_mem_cons.mpr ⟨lw_p92, List.forall_mem_cons.mpr ⟨lw_p93, List.forall_mem_cons.mpr ⟨lw_p94, List.forall_mem_cons.mpr ⟨lw_p95, fun _ h => absurd h List.not_mem_nil⟩⟩⟩⟩⟩⟩⟩⟩⟩⟩⟩⟩⟩⟩⟩⟩
theorem lw_p96 : lw_okq (⟨"FaceSenateModel", "awayOf", "(I)I"⟩, 73) := ⟨⟨by decide +kernel, by decide +kernel⟩, List.mem_of_getElem? (i := 1129) (by decide +kernel), List.mem_of_getElem? (i := 1697) (by decide +kernel), List.mem_of_getElem? (i := 1698) (by decide +kernel)⟩
theorem lw_p97 : lw_okq (⟨"FaceSenateModel", "layFar", "(I)V"⟩, 73) := ⟨⟨by decide +kernel, by decide +kernel⟩, List.mem_of_getElem? (i := 1129) (by decide +kernel), List.mem_of_getElem? (i := 1713) (by decide +kernel), List.mem_of_getElem? (i := 1714) (by decide +kernel)⟩
theorem lw_p98 : lw_okq (⟨"FaceSenateModel", "keepNow", "()V"⟩, 73) := ⟨⟨by decide +kernel, by decide +kernel⟩, List.mem_of_getElem? (i := 1129) (by decide +kernel), List.mem_of_getElem? (i := 1728) (by decide +kernel), List.mem_of_getElem? (i := 1729) (by decide +kernel)⟩
theorem lw_p99 : lw_okq (⟨"FaceSenateModel", "reportBehind", "(I)I"⟩, 73) := ⟨⟨by decide +kernel, by decide +kernel⟩, List.mem_of_getElem? (i := 1129) (by decide +kernel), List.mem_of_getElem? (i := 1732) (by decide +kernel), List.mem_of_getElem? (i := 1733) (by decide +kernel)⟩
theorem lw_p100 : lw_okq (⟨"FaceSenateModel", "bringBack", "()V"⟩, 73) := ⟨⟨by decide +kernel, by decide +kernel⟩, List.mem_of_getElem? (i := 1129) (by decide +kernel), List.mem_of_getElem? (i := 1736) (by decide +kernel), List.mem_of_getElem? (i := 1737) (by decide +kernel)⟩
theorem lw_p101 : lw_okq (⟨"FaceSenateModel", "reportAt", "(II)I"⟩, 73) := ⟨⟨by decide +kernel, by decide +kernel⟩, List.mem_of_getElem? (i := 1129) (by decide +kernel), List.mem_of_getElem? (i := 1744) (by decide +kernel), List.mem_of_getElem? (i := 1745) (by decide +kernel)⟩
theorem lw_p102 : lw_okq (⟨"FaceSenateModel", "areAlike", "()Z"⟩, 73) := ⟨⟨by decide +kernel, by decide +kernel⟩, List.mem_of_getElem? (i := 1129) (by decide +kernel), List.mem_of_getElem? (i := 1764) (by decide +kernel), List.mem_of_getElem? (i := 1765) (by decide +kernel)⟩
theorem lw_p103 : lw_okq (⟨"FaceSenateModel", "reportByTurns", "(II)I"⟩, 73) := ⟨⟨by decide +kernel, by decide +kernel⟩, List.mem_of_getElem? (i := 1129) (by decide +kernel), List.mem_of_getElem? (i := 1791) (by decide +kernel), List.mem_of_getElem? (i := 1792) (by decide +kernel)⟩
theorem lw_p104 : lw_okq (⟨"FaceSenateModel", "offBehind", "(II)I"⟩, 73) := ⟨⟨by decide +kernel, by decide +kernel⟩, List.mem_of_getElem? (i := 1129) (by decide +kernel), List.mem_of_getElem? (i := 1803) (by decide +kernel), List.mem_of_getElem? (i := 1804) (by decide +kernel)⟩
theorem lw_p105 : lw_okq (⟨"FaceSenateModel", "doesFit", "(II)Z"⟩, 73) := ⟨⟨by decide +kernel, by decide +kernel⟩, List.mem_of_getElem? (i := 1129) (by decide +kernel), List.mem_of_getElem? (i := 1831) (by decide +kernel), List.mem_of_getElem? (i := 1832) (by decide +kernel)⟩
theorem lw_p106 : lw_okq (⟨"FaceSenateModel", "faceBy", "(III)I"⟩, 73) := ⟨⟨by decide +kernel, by decide +kernel⟩, List.mem_of_getElem? (i := 1129) (by decide +kernel), List.mem_of_getElem? (i := 1835) (by decide +kernel), List.mem_of_getElem? (i := 1836) (by decide +kernel)⟩
theorem lw_p107 : lw_okq (⟨"FaceSenateModel", "mostLike", "(III)I"⟩, 73) := ⟨⟨by decide +kernel, by decide +kernel⟩, List.mem_of_getElem? (i := 1129) (by decide +kernel), List.mem_of_getElem? (i := 1844) (by decide +kernel), List.mem_of_getElem? (i := 1845) (by decide +kernel)⟩
def lw_privs_7 : List (MethodName × Nat) := [(⟨"FaceSenateModel", "awayOf", "(I)I"⟩, 73), (⟨"FaceSenateModel", "layFar", "(I)V"⟩, 73), (⟨"FaceSenateModel", "keepNow", "()V"⟩, 73), (⟨"FaceSenateModel", "reportBehind", "(I)I"⟩, 73), (⟨"FaceSenateModel", "bringBack", "()V"⟩, 73), (⟨"FaceSenateModel", "reportAt", "(II)I"⟩, 73), (⟨"FaceSenateModel", "areAlike", "()Z"⟩, 73), (⟨"FaceSenateModel", "reportByTurns", "(II)I"⟩, 73), (⟨"FaceSenateModel", "offBehind", "(II)I"⟩, 73), (⟨"FaceSenateModel", "doesFit", "(II)Z"⟩, 73), (⟨"FaceSenateModel", "faceBy", "(III)I"⟩, 73), (⟨"FaceSenateModel", "mostLike", "(III)I"⟩, 73)]
theorem lw_r7 : ∀ q ∈ lw_privs_7, lw_okq q := List.forall_mem_cons.mpr ⟨lw_p96, List.forall_mem_cons.mpr ⟨lw_p97, List.forall_mem_cons.mpr ⟨lw_p98, List.forall_mem_cons.mpr ⟨lw_p99, List.forall_mem_cons.mpr ⟨lw_p100, List.forall_mem_cons.mpr ⟨lw_p101, List.forall_mem_cons.mpr ⟨lw_p102, List.forall_mem_cons.mpr ⟨lw_p103, List.forall_mem_cons.mpr ⟨lw_p104, List.forall_mem_cons.mpr ⟨lw_p105, List.forall_mem_cons.mpr ⟨lw_p106, List.forall_mem_cons.mpr ⟨lw_p107, fun _ h => absurd h List.not_mem_nil⟩⟩⟩⟩⟩⟩⟩⟩⟩⟩⟩⟩
def lw_privs : List (MethodName × Nat) := lw_privs_1 ++ (lw_privs_2 ++ (lw_privs_3 ++ (lw_privs_4 ++ (lw_privs_5 ++ (lw_privs_6 ++ (lw_privs_7))))))
def lw_tbl : List Cond := k2_sels lw_privs ++ tables_1
theorem lw_privs_ok : ∀ q ∈ lw_privs, lw_okq q := by
  show ∀ q ∈ lw_privs_1 ++ (lw_privs_2 ++ (lw_privs_3 ++ (lw_privs_4 ++ (lw_privs_5 ++ (lw_privs_6 ++ (lw_privs_7)))))), lw_okq q
  exact List.forall_mem_append.mpr ⟨lw_r1, List.forall_mem_append.mpr ⟨lw_r2, List.forall_mem_append.mpr ⟨lw_r3, List.forall_mem_append.mpr ⟨lw_r4, List.forall_mem_append.mpr ⟨lw_r5, List.forall_mem_append.mpr ⟨lw_r6, lw_r7⟩⟩⟩⟩⟩⟩
end
section
/-! ===== BEGIN words of one list among another's, by their places ===== -/
theorem goodIn_r {big : List Cond} (ws : List Cond) (ps : List Nat) (hp : ws = ps.filterMap (fun i => big[i]?)) (h : ws.all goodWord = true) : GoodIn big ws := by
  intro w hw
  have h1 := List.all_eq_true.mp h w hw
  rw [hp] at hw
  obtain ⟨i, -, hi⟩ := List.mem_filterMap.mp hw
  have hm : w ∈ big := by first | exact List.mem_of_getElem? hi | exact List.getElem?_mem hi
  exact ⟨hm, good_of_word h1⟩
theorem goodIn_app {big a b : List Cond} (ha : GoodIn big a) (hb : GoodIn big b) : GoodIn big (a ++ b) := fun w h => (List.mem_append.mp h).elim (ha w) (hb w)
theorem goodIn_ca {big a b : List Cond} {c : Cond} (ha : GoodIn big (c :: a)) (hb : GoodIn big b) : GoodIn big (c :: (a ++ b)) := fun w h => (List.mem_cons.mp h).elim (fun e => ha w (List.mem_cons.mpr (Or.inl e))) (fun h => (List.mem_append.mp h).elim (fun h => ha w (List.mem_cons.mpr (Or.inr h))) (hb w))
theorem goodIn_sub {big ws : List Cond} (hm : ∀ w ∈ ws, w ∈ big) (h : ws.all goodWord = true) : GoodIn big ws := fun w hw => ⟨hm w hw, good_of_word (List.all_eq_true.mp h w hw)⟩
/-! ===== END ===== -/

/-! ===== BEGIN printed: names, fields, word lists, decode rows ===== -/
def RX0 : String := "FaceSenate$Acts"
def TX0 : u_T := fun k => match k with
  | 0 => ("FaceSenate$Acts", "shelf", "LFaceSenate$Shelf;", true)
  | 1 => ("FaceSenate$Acts", "done", "I", false)
  | _ => ("FaceSenate$Acts", "undone", "I", false)
def tyX0 : Nat → FieldType := fun k => match k with
  | 0 => .object "FaceSenate$Shelf"
  | 1 => .int
  | _ => .int
abbrev wsX00 : List Cond := u_ws RX0 TX0 3
theorem nmX0 : ∀ a, a < 3 → ∀ b, b < 3 → a ≠ b → (TX0 a).2.1 ≠ (TX0 b).2.1 := by decide +kernel
theorem tyX0_ok : ∀ k, k < 3 → parseFieldDescriptor (TX0 k).2.2.1 = some (tyX0 k) := by decide +kernel
abbrev cX0_init : ByteArray := prog_2_method_1_code
def yX0_init : MethodName := ⟨RX0, "<init>", "()V"⟩
abbrev cX0_clear : ByteArray := prog_2_method_2_code
def yX0_clear : MethodName := ⟨RX0, "clear", "()V"⟩
abbrev cX0_keep : ByteArray := prog_2_method_3_code
def yX0_keep : MethodName := ⟨RX0, "keep", "(LFaceSenate$Sitting;)V"⟩
abbrev cX0_takeBack : ByteArray := prog_2_method_4_code
def yX0_takeBack : MethodName := ⟨RX0, "takeBack", "(LFaceSenate$Sitting;)Z"⟩
abbrev cX0_doAgain : ByteArray := prog_2_method_5_code
def yX0_doAgain : MethodName := ⟨RX0, "doAgain", "(LFaceSenate$Sitting;)Z"⟩
def RX1 : String := "FaceSenate$Formula"
def TX1 : u_T := fun k => match k with
  | 0 => ("FaceSenate$Formula", "codes", "[I", true)
  | 1 => ("FaceSenate$Formula", "stack", "[I", true)
  | 2 => ("FaceSenate$Formula", "length", "I", false)
  | _ => ("FaceSenate$Formula", "units", "I", false)
def tyX1 : Nat → FieldType := fun k => match k with
  | 0 => .array .int
  | 1 => .array .int
  | 2 => .int
  | _ => .int
abbrev wsX10 : List Cond := u_ws RX1 TX1 4
theorem nmX1 : ∀ a, a < 4 → ∀ b, b < 4 → a ≠ b → (TX1 a).2.1 ≠ (TX1 b).2.1 := by decide +kernel
theorem tyX1_ok : ∀ k, k < 4 → parseFieldDescriptor (TX1 k).2.2.1 = some (tyX1 k) := by decide +kernel
abbrev cX1_init : ByteArray := prog_3_method_1_code
def yX1_init : MethodName := ⟨RX1, "<init>", "()V"⟩
abbrev cX1_clear : ByteArray := prog_3_method_2_code
def yX1_clear : MethodName := ⟨RX1, "clear", "()V"⟩
abbrev cX1_add : ByteArray := prog_3_method_3_code
def yX1_add : MethodName := ⟨RX1, "add", "(I)V"⟩
abbrev cX1_worth : ByteArray := prog_3_method_4_code
def yX1_worth : MethodName := ⟨RX1, "worth", "([I)I"⟩
abbrev cX1_operand : ByteArray := prog_3_method_5_code
def yX1_operand : MethodName := ⟨RX1, "operand", "(I[I)I"⟩
abbrev cX1_joined : ByteArray := prog_3_method_6_code
def yX1_joined : MethodName := ⟨RX1, "joined", "(III)I"⟩
def RX2 : String := "FaceSenate$Looks"
def TX2 : u_T := fun k => match k with
  | 0 => ("FaceSenate$Looks", "steps", "[I", true)
  | 1 => ("FaceSenate$Looks", "members", "[I", true)
  | 2 => ("FaceSenate$Looks", "faces", "[I", true)
  | 3 => ("FaceSenate$Looks", "wants", "[Z", true)
  | 4 => ("FaceSenate$Looks", "toldAt", "[I", true)
  | 5 => ("FaceSenate$Looks", "untoldAt", "[I", true)
  | _ => ("FaceSenate$Looks", "count", "I", false)
def tyX2 : Nat → FieldType := fun k => match k with
  | 0 => .array .int
  | 1 => .array .int
  | 2 => .array .int
  | 3 => .array .boolean
  | 4 => .array .int
  | 5 => .array .int
  | _ => .int
abbrev wsX20 : List Cond := u_ws RX2 TX2 7
theorem nmX2 : ∀ a, a < 7 → ∀ b, b < 7 → a ≠ b → (TX2 a).2.1 ≠ (TX2 b).2.1 := by decide +kernel
theorem tyX2_ok : ∀ k, k < 7 → parseFieldDescriptor (TX2 k).2.2.1 = some (tyX2 k) := by decide +kernel
abbrev cX2_init : ByteArray := prog_4_method_1_code
def yX2_init : MethodName := ⟨RX2, "<init>", "()V"⟩
abbrev cX2_clear : ByteArray := prog_4_method_2_code
def yX2_clear : MethodName := ⟨RX2, "clear", "()V"⟩
abbrev cX2_tell : ByteArray := prog_4_method_3_code
def yX2_tell : MethodName := ⟨RX2, "tell", "(IIIZI)I"⟩
abbrev cX2_takeBack : ByteArray := prog_4_method_4_code
def yX2_takeBack : MethodName := ⟨RX2, "takeBack", "(II)Z"⟩
abbrev cX2_counts : ByteArray := prog_4_method_5_code
def yX2_counts : MethodName := ⟨RX2, "counts", "(II)Z"⟩
abbrev cX2_deepest : ByteArray := prog_4_method_6_code
def yX2_deepest : MethodName := ⟨RX2, "deepest", "(I)I"⟩
abbrev cX2_areSo : ByteArray := prog_4_method_7_code
def yX2_areSo : MethodName := ⟨RX2, "areSo", "(IILFaceSenate$Sitting;)Z"⟩
def RX3 : String := "FaceSenate$Plan"
def TX3 : u_T := fun k => match k with
  | 0 => ("FaceSenate$Plan", "districtNames", "[J", true)
  | 1 => ("FaceSenate$Plan", "moods", "[I", true)
  | 2 => ("FaceSenate$Plan", "memberNames", "[J", true)
  | 3 => ("FaceSenate$Plan", "homes", "[I", true)
  | 4 => ("FaceSenate$Plan", "faces", "[I", true)
  | 5 => ("FaceSenate$Plan", "stoics", "[I", true)
  | 6 => ("FaceSenate$Plan", "seats", "[I", true)
  | 7 => ("FaceSenate$Plan", "look", "LFaceSenate$Formula;", true)
  | 8 => ("FaceSenate$Plan", "light", "LFaceSenate$Formula;", true)
  | 9 => ("FaceSenate$Plan", "columns", "I", false)
  | 10 => ("FaceSenate$Plan", "rows", "I", false)
  | 11 => ("FaceSenate$Plan", "districts", "I", false)
  | 12 => ("FaceSenate$Plan", "members", "I", false)
  | 13 => ("FaceSenate$Plan", "tooth", "I", false)
  | 14 => ("FaceSenate$Plan", "ache", "I", false)
  | 15 => ("FaceSenate$Plan", "draw", "I", false)
  | 16 => ("FaceSenate$Plan", "toothTold", "Z", false)
  | _ => ("FaceSenate$Plan", "drawTold", "Z", false)
def tyX3 : Nat → FieldType := fun k => match k with
  | 0 => .array .long
  | 1 => .array .int
  | 2 => .array .long
  | 3 => .array .int
  | 4 => .array .int
  | 5 => .array .int
  | 6 => .array .int
  | 7 => .object "FaceSenate$Formula"
  | 8 => .object "FaceSenate$Formula"
  | 9 => .int
  | 10 => .int
  | 11 => .int
  | 12 => .int
  | 13 => .int
  | 14 => .int
  | 15 => .int
  | 16 => .boolean
  | _ => .boolean
abbrev wsX30 : List Cond := u_ws RX3 TX3 18
theorem nmX3 : ∀ a, a < 18 → ∀ b, b < 18 → a ≠ b → (TX3 a).2.1 ≠ (TX3 b).2.1 := by decide +kernel
theorem tyX3_ok : ∀ k, k < 18 → parseFieldDescriptor (TX3 k).2.2.1 = some (tyX3 k) := by decide +kernel
abbrev cX3_init : ByteArray := prog_5_method_1_code
def yX3_init : MethodName := ⟨RX3, "<init>", "()V"⟩
abbrev cX3_clear : ByteArray := prog_5_method_2_code
def yX3_clear : MethodName := ⟨RX3, "clear", "()V"⟩
abbrev cX3_seatCount : ByteArray := prog_5_method_3_code
def yX3_seatCount : MethodName := ⟨RX3, "seatCount", "()I"⟩
abbrev cX3_membersOf : ByteArray := prog_5_method_4_code
def yX3_membersOf : MethodName := ⟨RX3, "membersOf", "(I)I"⟩
abbrev cX3_offOf : ByteArray := prog_5_method_5_code
def yX3_offOf : MethodName := ⟨RX3, "offOf", "(ILFaceSenate$Sitting;)I"⟩
abbrev cX3_offOfAll : ByteArray := prog_5_method_6_code
def yX3_offOfAll : MethodName := ⟨RX3, "offOfAll", "(LFaceSenate$Sitting;)I"⟩
def RX4 : String := "FaceSenate$Reader"
def TX4 : u_T := fun k => match k with
  | 0 => ("FaceSenate$Reader", "tape", "LFaceSenate$Tape;", true)
  | 1 => ("FaceSenate$Reader", "plan", "LFaceSenate$Plan;", false)
  | 2 => ("FaceSenate$Reader", "fault", "I", false)
  | _ => ("FaceSenate$Reader", "faultPlace", "I", false)
def tyX4 : Nat → FieldType := fun k => match k with
  | 0 => .object "FaceSenate$Tape"
  | 1 => .object "FaceSenate$Plan"
  | 2 => .int
  | _ => .int
abbrev wsX40 : List Cond := u_ws RX4 TX4 4
theorem nmX4 : ∀ a, a < 4 → ∀ b, b < 4 → a ≠ b → (TX4 a).2.1 ≠ (TX4 b).2.1 := by decide +kernel
theorem tyX4_ok : ∀ k, k < 4 → parseFieldDescriptor (TX4 k).2.2.1 = some (tyX4 k) := by decide +kernel
abbrev cX4_init : ByteArray := prog_6_method_1_code
def yX4_init : MethodName := ⟨RX4, "<init>", "()V"⟩
abbrev cX4_read : ByteArray := prog_6_method_2_code
def yX4_read : MethodName := ⟨RX4, "read", "()V"⟩
abbrev cX4_line : ByteArray := prog_6_method_3_code
def yX4_line : MethodName := ⟨RX4, "line", "(Z)Z"⟩
abbrev cX4_hallLine : ByteArray := prog_6_method_4_code
def yX4_hallLine : MethodName := ⟨RX4, "hallLine", "()Z"⟩
abbrev cX4_districtLine : ByteArray := prog_6_method_5_code
def yX4_districtLine : MethodName := ⟨RX4, "districtLine", "()Z"⟩
abbrev cX4_memberLine : ByteArray := prog_6_method_6_code
def yX4_memberLine : MethodName := ⟨RX4, "memberLine", "()Z"⟩
abbrev cX4_homeOf : ByteArray := prog_6_method_7_code
def yX4_homeOf : MethodName := ⟨RX4, "homeOf", "(I)Z"⟩
abbrev cX4_stoicOf : ByteArray := prog_6_method_8_code
def yX4_stoicOf : MethodName := ⟨RX4, "stoicOf", "(I)Z"⟩
abbrev cX4_seatOf : ByteArray := prog_6_method_9_code
def yX4_seatOf : MethodName := ⟨RX4, "seatOf", "(I)Z"⟩
abbrev cX4_toothLine : ByteArray := prog_6_method_10_code
def yX4_toothLine : MethodName := ⟨RX4, "toothLine", "()Z"⟩
abbrev cX4_drawLine : ByteArray := prog_6_method_11_code
def yX4_drawLine : MethodName := ⟨RX4, "drawLine", "()Z"⟩
abbrev cX4_isUntold : ByteArray := prog_6_method_12_code
def yX4_isUntold : MethodName := ⟨RX4, "isUntold", "(LFaceSenate$Formula;)Z"⟩
abbrev cX4_level : ByteArray := prog_6_method_13_code
def yX4_level : MethodName := ⟨RX4, "level", "(LFaceSenate$Formula;II)Z"⟩
abbrev cX4_negation : ByteArray := prog_6_method_14_code
def yX4_negation : MethodName := ⟨RX4, "negation", "(LFaceSenate$Formula;I)Z"⟩
abbrev cX4_unit : ByteArray := prog_6_method_15_code
def yX4_unit : MethodName := ⟨RX4, "unit", "(LFaceSenate$Formula;I)Z"⟩
abbrev cX4_operatorOf : ByteArray := prog_6_method_16_code
def yX4_operatorOf : MethodName := ⟨RX4, "operatorOf", "(II)I"⟩
abbrev cX4_isNewName : ByteArray := prog_6_method_17_code
def yX4_isNewName : MethodName := ⟨RX4, "isNewName", "([JI)Z"⟩
abbrev cX4_placeOfName : ByteArray := prog_6_method_18_code
def yX4_placeOfName : MethodName := ⟨RX4, "placeOfName", "([JI)I"⟩
abbrev cX4_isNumber : ByteArray := prog_6_method_19_code
def yX4_isNumber : MethodName := ⟨RX4, "isNumber", "(II)Z"⟩
abbrev cX4_skip : ByteArray := prog_6_method_20_code
def yX4_skip : MethodName := ⟨RX4, "skip", "(I)Z"⟩
abbrev cX4_refuse : ByteArray := prog_6_method_21_code
def yX4_refuse : MethodName := ⟨RX4, "refuse", "()Z"⟩
abbrev cX4_refuseBy : ByteArray := prog_6_method_22_code
def yX4_refuseBy : MethodName := ⟨RX4, "refuseBy", "(I)Z"⟩
def RX5 : String := "FaceSenate$Shelf"
def TX5 : u_T := fun k => match k with
  | 0 => ("FaceSenate$Shelf", "size", "I", true)
  | 1 => ("FaceSenate$Shelf", "cells", "[I", true)
  | _ => ("FaceSenate$Shelf", "full", "[Z", true)
def tyX5 : Nat → FieldType := fun k => match k with
  | 0 => .int
  | 1 => .array .int
  | _ => .array .boolean
abbrev wsX50 : List Cond := u_ws RX5 TX5 3
theorem nmX5 : ∀ a, a < 3 → ∀ b, b < 3 → a ≠ b → (TX5 a).2.1 ≠ (TX5 b).2.1 := by decide +kernel
theorem tyX5_ok : ∀ k, k < 3 → parseFieldDescriptor (TX5 k).2.2.1 = some (tyX5 k) := by decide +kernel
abbrev cX5_init : ByteArray := prog_7_method_1_code
def yX5_init : MethodName := ⟨RX5, "<init>", "(I)V"⟩
abbrev cX5_clear : ByteArray := prog_7_method_2_code
def yX5_clear : MethodName := ⟨RX5, "clear", "()V"⟩
abbrev cX5_put : ByteArray := prog_7_method_3_code
def yX5_put : MethodName := ⟨RX5, "put", "(ILFaceSenate$Sitting;)V"⟩
abbrev cX5_give : ByteArray := prog_7_method_4_code
def yX5_give : MethodName := ⟨RX5, "give", "(ILFaceSenate$Sitting;)Z"⟩
abbrev cX5_dropFirst : ByteArray := prog_7_method_5_code
def yX5_dropFirst : MethodName := ⟨RX5, "dropFirst", "()V"⟩
def RX6 : String := "FaceSenate$Sitting"
def TX6 : u_T := fun k => match k with
  | 0 => ("FaceSenate$Sitting", "faces", "[I", true)
  | 1 => ("FaceSenate$Sitting", "seats", "[I", true)
  | 2 => ("FaceSenate$Sitting", "news", "I", false)
  | 3 => ("FaceSenate$Sitting", "step", "I", false)
  | _ => ("FaceSenate$Sitting", "seed", "I", false)
def tyX6 : Nat → FieldType := fun k => match k with
  | 0 => .array .int
  | 1 => .array .int
  | 2 => .int
  | 3 => .int
  | _ => .int
abbrev wsX60 : List Cond := u_ws RX6 TX6 5
theorem nmX6 : ∀ a, a < 5 → ∀ b, b < 5 → a ≠ b → (TX6 a).2.1 ≠ (TX6 b).2.1 := by decide +kernel
theorem tyX6_ok : ∀ k, k < 5 → parseFieldDescriptor (TX6 k).2.2.1 = some (tyX6 k) := by decide +kernel
abbrev cX6_init : ByteArray := prog_8_method_1_code
def yX6_init : MethodName := ⟨RX6, "<init>", "()V"⟩
abbrev cX6_begin : ByteArray := prog_8_method_2_code
def yX6_begin : MethodName := ⟨RX6, "begin", "(LFaceSenate$Plan;)V"⟩
abbrev cX6_take : ByteArray := prog_8_method_3_code
def yX6_take : MethodName := ⟨RX6, "take", "(LFaceSenate$Sitting;)V"⟩
abbrev cX6_together : ByteArray := prog_8_method_4_code
def yX6_together : MethodName := ⟨RX6, "together", "()I"⟩
abbrev cX6_facesOf : ByteArray := prog_8_method_5_code
def yX6_facesOf : MethodName := ⟨RX6, "facesOf", "(I)I"⟩
abbrev cX6_sitterOn : ByteArray := prog_8_method_6_code
def yX6_sitterOn : MethodName := ⟨RX6, "sitterOn", "(I)I"⟩
abbrev cX6_seated : ByteArray := prog_8_method_7_code
def yX6_seated : MethodName := ⟨RX6, "seated", "()I"⟩
abbrev cX6_swap : ByteArray := prog_8_method_8_code
def yX6_swap : MethodName := ⟨RX6, "swap", "(II)V"⟩
def RX7 : String := "FaceSenate$Tape"
def TX7 : u_T := fun k => match k with
  | 0 => ("FaceSenate$Tape", "bytes", "[B", true)
  | 1 => ("FaceSenate$Tape", "words", "[J", true)
  | 2 => ("FaceSenate$Tape", "after", "I", false)
  | 3 => ("FaceSenate$Tape", "length", "I", false)
  | 4 => ("FaceSenate$Tape", "kind", "I", false)
  | 5 => ("FaceSenate$Tape", "start", "I", false)
  | 6 => ("FaceSenate$Tape", "number", "I", false)
  | _ => ("FaceSenate$Tape", "name", "J", false)
def tyX7 : Nat → FieldType := fun k => match k with
  | 0 => .array .byte
  | 1 => .array .long
  | 2 => .int
  | 3 => .int
  | 4 => .int
  | 5 => .int
  | 6 => .int
  | _ => .long
abbrev wsX70 : List Cond := u_ws RX7 TX7 8
theorem nmX7 : ∀ a, a < 8 → ∀ b, b < 8 → a ≠ b → (TX7 a).2.1 ≠ (TX7 b).2.1 := by decide +kernel
theorem tyX7_ok : ∀ k, k < 8 → parseFieldDescriptor (TX7 k).2.2.1 = some (tyX7 k) := by decide +kernel
abbrev cX7_init : ByteArray := prog_9_method_1_code
def yX7_init : MethodName := ⟨RX7, "<init>", "()V"⟩
abbrev cX7_add : ByteArray := prog_9_method_2_code
def yX7_add : MethodName := ⟨RX7, "add", "(I)V"⟩
abbrev cX7_toFirst : ByteArray := prog_9_method_3_code
def yX7_toFirst : MethodName := ⟨RX7, "toFirst", "()V"⟩
abbrev cX7_toNext : ByteArray := prog_9_method_4_code
def yX7_toNext : MethodName := ⟨RX7, "toNext", "()V"⟩
abbrev cX7_readWord : ByteArray := prog_9_method_5_code
def yX7_readWord : MethodName := ⟨RX7, "readWord", "()V"⟩
abbrev cX7_readNumber : ByteArray := prog_9_method_6_code
def yX7_readNumber : MethodName := ⟨RX7, "readNumber", "()V"⟩
abbrev cX7_isAt : ByteArray := prog_9_method_7_code
def yX7_isAt : MethodName := ⟨RX7, "isAt", "(I)Z"⟩
abbrev cX7_isLetter : ByteArray := prog_9_method_8_code
def yX7_isLetter : MethodName := ⟨RX7, "isLetter", "(I)Z"⟩
abbrev cX7_isDigit : ByteArray := prog_9_method_9_code
def yX7_isDigit : MethodName := ⟨RX7, "isDigit", "(I)Z"⟩
abbrev cX7_codeWith : ByteArray := prog_9_method_10_code
def yX7_codeWith : MethodName := ⟨RX7, "codeWith", "(JI)J"⟩
def RX8 : String := "FaceSenate$Trial"
def TX8 : u_T := fun k => match k with
  | 0 => ("FaceSenate$Trial", "sitting", "LFaceSenate$Sitting;", true)
  | 1 => ("FaceSenate$Trial", "beside", "[I", true)
  | 2 => ("FaceSenate$Trial", "rows", "[I", true)
  | 3 => ("FaceSenate$Trial", "columns", "[I", true)
  | 4 => ("FaceSenate$Trial", "next", "[I", true)
  | 5 => ("FaceSenate$Trial", "kept", "[I", true)
  | 6 => ("FaceSenate$Trial", "seen", "[I", true)
  | 7 => ("FaceSenate$Trial", "lit", "[I", true)
  | 8 => ("FaceSenate$Trial", "litSteps", "[I", true)
  | 9 => ("FaceSenate$Trial", "litWorths", "[I", true)
  | _ => ("FaceSenate$Trial", "plan", "LFaceSenate$Plan;", false)
def tyX8 : Nat → FieldType := fun k => match k with
  | 0 => .object "FaceSenate$Sitting"
  | 1 => .array .int
  | 2 => .array .int
  | 3 => .array .int
  | 4 => .array .int
  | 5 => .array .int
  | 6 => .array .int
  | 7 => .array .int
  | 8 => .array .int
  | 9 => .array .int
  | _ => .object "FaceSenate$Plan"
abbrev wsX80 : List Cond := u_ws RX8 TX8 11
theorem nmX8 : ∀ a, a < 11 → ∀ b, b < 11 → a ≠ b → (TX8 a).2.1 ≠ (TX8 b).2.1 := by decide +kernel
theorem tyX8_ok : ∀ k, k < 11 → parseFieldDescriptor (TX8 k).2.2.1 = some (tyX8 k) := by decide +kernel
abbrev cX8_init : ByteArray := prog_10_method_1_code
def yX8_init : MethodName := ⟨RX8, "<init>", "()V"⟩
abbrev cX8_begin : ByteArray := prog_10_method_2_code
def yX8_begin : MethodName := ⟨RX8, "begin", "(LFaceSenate$Plan;LFaceSenate$Sitting;)V"⟩
abbrev cX8_arrange : ByteArray := prog_10_method_3_code
def yX8_arrange : MethodName := ⟨RX8, "arrange", "()V"⟩
abbrev cX8_areBeside : ByteArray := prog_10_method_4_code
def yX8_areBeside : MethodName := ⟨RX8, "areBeside", "(II)Z"⟩
abbrev cX8_besideOf : ByteArray := prog_10_method_5_code
def yX8_besideOf : MethodName := ⟨RX8, "besideOf", "(I)I"⟩
abbrev cX8_besideAny : ByteArray := prog_10_method_6_code
def yX8_besideAny : MethodName := ⟨RX8, "besideAny", "(I)I"⟩
abbrev cX8_passAll : ByteArray := prog_10_method_7_code
def yX8_passAll : MethodName := ⟨RX8, "passAll", "(I)V"⟩
abbrev cX8_pass : ByteArray := prog_10_method_8_code
def yX8_pass : MethodName := ⟨RX8, "pass", "()I"⟩
abbrev cX8_nextFace : ByteArray := prog_10_method_9_code
def yX8_nextFace : MethodName := ⟨RX8, "nextFace", "(LFaceSenate$Plan;I)I"⟩
abbrev cX8_wince : ByteArray := prog_10_method_10_code
def yX8_wince : MethodName := ⟨RX8, "wince", "()I"⟩
abbrev cX8_brightAt : ByteArray := prog_10_method_11_code
def yX8_brightAt : MethodName := ⟨RX8, "brightAt", "(II)I"⟩
abbrev cX8_forgetLight : ByteArray := prog_10_method_12_code
def yX8_forgetLight : MethodName := ⟨RX8, "forgetLight", "()V"⟩
abbrev cX8_allAlike : ByteArray := prog_10_method_13_code
def yX8_allAlike : MethodName := ⟨RX8, "allAlike", "()Z"⟩
abbrev cX8_keepFaces : ByteArray := prog_10_method_14_code
def yX8_keepFaces : MethodName := ⟨RX8, "keepFaces", "(I)V"⟩
abbrev cX8_takeKept : ByteArray := prog_10_method_15_code
def yX8_takeKept : MethodName := ⟨RX8, "takeKept", "(I)V"⟩
abbrev cX8_unlikeKept : ByteArray := prog_10_method_16_code
def yX8_unlikeKept : MethodName := ⟨RX8, "unlikeKept", "(I)I"⟩
def RX9 : String := "FaceSenate"
def TX9 : u_T := fun k => match k with
  | 0 => ("FaceSenate", "reader", "LFaceSenate$Reader;", true)
  | 1 => ("FaceSenate", "plan", "LFaceSenate$Plan;", false)
  | 2 => ("FaceSenate", "now", "LFaceSenate$Sitting;", true)
  | 3 => ("FaceSenate", "trial", "LFaceSenate$Trial;", true)
  | 4 => ("FaceSenate", "acts", "LFaceSenate$Acts;", true)
  | 5 => ("FaceSenate", "boxes", "LFaceSenate$Shelf;", true)
  | 6 => ("FaceSenate", "told", "LFaceSenate$Looks;", true)
  | 7 => ("FaceSenate", "lying", "[I", true)
  | 8 => ("FaceSenate", "rings", "[I", true)
  | 9 => ("FaceSenate", "tally", "[I", true)
  | 10 => ("FaceSenate", "asked", "[I", true)
  | 11 => ("FaceSenate", "lyingCount", "I", false)
  | 12 => ("FaceSenate", "time", "I", false)
  | 13 => ("FaceSenate", "faultNumber", "I", false)
  | 14 => ("FaceSenate", "faultPlace", "I", false)
  | _ => ("FaceSenate", "opening", "I", false)
def tyX9 : Nat → FieldType := fun k => match k with
  | 0 => .object "FaceSenate$Reader"
  | 1 => .object "FaceSenate$Plan"
  | 2 => .object "FaceSenate$Sitting"
  | 3 => .object "FaceSenate$Trial"
  | 4 => .object "FaceSenate$Acts"
  | 5 => .object "FaceSenate$Shelf"
  | 6 => .object "FaceSenate$Looks"
  | 7 => .array .int
  | 8 => .array .int
  | 9 => .array .int
  | 10 => .array .int
  | 11 => .int
  | 12 => .int
  | 13 => .int
  | 14 => .int
  | _ => .int
abbrev wsX90 : List Cond := u_ws RX9 TX9 16
theorem nmX9 : ∀ a, a < 16 → ∀ b, b < 16 → a ≠ b → (TX9 a).2.1 ≠ (TX9 b).2.1 := by decide +kernel
theorem tyX9_ok : ∀ k, k < 16 → parseFieldDescriptor (TX9 k).2.2.1 = some (tyX9 k) := by decide +kernel
abbrev cX9_init : ByteArray := prog_1_method_1_code
def yX9_init : MethodName := ⟨RX9, "<init>", "()V"⟩
abbrev cX9_feed : ByteArray := prog_1_method_2_code
def yX9_feed : MethodName := ⟨RX9, "feed", "(IIIII)I"⟩
abbrev cX9_end : ByteArray := prog_1_method_3_code
def yX9_end : MethodName := ⟨RX9, "end", "(I)I"⟩
abbrev cX9_senate : ByteArray := prog_1_method_4_code
def yX9_senate : MethodName := ⟨RX9, "senate", "()I"⟩
abbrev cX9_fault : ByteArray := prog_1_method_5_code
def yX9_fault : MethodName := ⟨RX9, "fault", "(I)I"⟩
abbrev cX9_member : ByteArray := prog_1_method_6_code
def yX9_member : MethodName := ⟨RX9, "member", "(II)I"⟩
abbrev cX9_district : ByteArray := prog_1_method_7_code
def yX9_district : MethodName := ⟨RX9, "district", "(II)I"⟩
abbrev cX9_seat : ByteArray := prog_1_method_8_code
def yX9_seat : MethodName := ⟨RX9, "seat", "(II)I"⟩
abbrev cX9_report : ByteArray := prog_1_method_9_code
def yX9_report : MethodName := ⟨RX9, "report", "()I"⟩
abbrev cX9_off : ByteArray := prog_1_method_10_code
def yX9_off : MethodName := ⟨RX9, "off", "()I"⟩
abbrev cX9_step : ByteArray := prog_1_method_11_code
def yX9_step : MethodName := ⟨RX9, "step", "()I"⟩
abbrev cX9_news : ByteArray := prog_1_method_12_code
def yX9_news : MethodName := ⟨RX9, "news", "(I)I"⟩
abbrev cX9_sit : ByteArray := prog_1_method_13_code
def yX9_sit : MethodName := ⟨RX9, "sit", "(II)I"⟩
abbrev cX9_change : ByteArray := prog_1_method_14_code
def yX9_change : MethodName := ⟨RX9, "change", "(II)Z"⟩
abbrev cX9_unseat : ByteArray := prog_1_method_15_code
def yX9_unseat : MethodName := ⟨RX9, "unseat", "(I)I"⟩
abbrev cX9_undo : ByteArray := prog_1_method_16_code
def yX9_undo : MethodName := ⟨RX9, "undo", "()Z"⟩
abbrev cX9_redo : ByteArray := prog_1_method_17_code
def yX9_redo : MethodName := ⟨RX9, "redo", "()Z"⟩
abbrev cX9_stand : ByteArray := prog_1_method_18_code
def yX9_stand : MethodName := ⟨RX9, "stand", "(II)I"⟩
abbrev cX9_sample : ByteArray := prog_1_method_19_code
def yX9_sample : MethodName := ⟨RX9, "sample", "(II)I"⟩
abbrev cX9_samples : ByteArray := prog_1_method_20_code
def yX9_samples : MethodName := ⟨RX9, "samples", "(I)I"⟩
abbrev cX9_sampleOff : ByteArray := prog_1_method_21_code
def yX9_sampleOff : MethodName := ⟨RX9, "sampleOff", "(II)I"⟩
abbrev cX9_chain : ByteArray := prog_1_method_22_code
def yX9_chain : MethodName := ⟨RX9, "chain", "(II)I"⟩
abbrev cX9_ringOf : ByteArray := prog_1_method_23_code
def yX9_ringOf : MethodName := ⟨RX9, "ringOf", "(II)I"⟩
abbrev cX9_layDown : ByteArray := prog_1_method_24_code
def yX9_layDown : MethodName := ⟨RX9, "layDown", "(I)V"⟩
abbrev cX9_firstOf : ByteArray := prog_1_method_25_code
def yX9_firstOf : MethodName := ⟨RX9, "firstOf", "(I)I"⟩
abbrev cX9_groups : ByteArray := prog_1_method_26_code
def yX9_groups : MethodName := ⟨RX9, "groups", "()I"⟩
abbrev cX9_groupOf : ByteArray := prog_1_method_27_code
def yX9_groupOf : MethodName := ⟨RX9, "groupOf", "(I)I"⟩
abbrev cX9_place : ByteArray := prog_1_method_28_code
def yX9_place : MethodName := ⟨RX9, "place", "(II)I"⟩
abbrev cX9_reportSeated : ByteArray := prog_1_method_29_code
def yX9_reportSeated : MethodName := ⟨RX9, "reportSeated", "(II)I"⟩
abbrev cX9_move : ByteArray := prog_1_method_30_code
def yX9_move : MethodName := ⟨RX9, "move", "(I)I"⟩
abbrev cX9_reportChanged : ByteArray := prog_1_method_31_code
def yX9_reportChanged : MethodName := ⟨RX9, "reportChanged", "(II)I"⟩
abbrev cX9_brightest : ByteArray := prog_1_method_32_code
def yX9_brightest : MethodName := ⟨RX9, "brightest", "()I"⟩
abbrev cX9_settled : ByteArray := prog_1_method_33_code
def yX9_settled : MethodName := ⟨RX9, "settled", "()I"⟩
abbrev cX9_will : ByteArray := prog_1_method_34_code
def yX9_will : MethodName := ⟨RX9, "will", "(II)I"⟩
abbrev cX9_ahead : ByteArray := prog_1_method_35_code
def yX9_ahead : MethodName := ⟨RX9, "ahead", "(I)I"⟩
abbrev cX9_alike : ByteArray := prog_1_method_36_code
def yX9_alike : MethodName := ⟨RX9, "alike", "()I"⟩
abbrev cX9_unrest : ByteArray := prog_1_method_37_code
def yX9_unrest : MethodName := ⟨RX9, "unrest", "(I)I"⟩
abbrev cX9_sways : ByteArray := prog_1_method_38_code
def yX9_sways : MethodName := ⟨RX9, "sways", "(III)I"⟩
abbrev cX9_moved : ByteArray := prog_1_method_39_code
def yX9_moved : MethodName := ⟨RX9, "moved", "(I)I"⟩
abbrev cX9_key : ByteArray := prog_1_method_40_code
def yX9_key : MethodName := ⟨RX9, "key", "()I"⟩
abbrev cX9_parties : ByteArray := prog_1_method_41_code
def yX9_parties : MethodName := ⟨RX9, "parties", "(II)I"⟩
abbrev cX9_turn : ByteArray := prog_1_method_42_code
def yX9_turn : MethodName := ⟨RX9, "turn", "(IIII)I"⟩
abbrev cX9_least : ByteArray := prog_1_method_43_code
def yX9_least : MethodName := ⟨RX9, "least", "(II)I"⟩
abbrev cX9_best : ByteArray := prog_1_method_44_code
def yX9_best : MethodName := ⟨RX9, "best", "(I)I"⟩
abbrev cX9_goOnWith : ByteArray := prog_1_method_45_code
def yX9_goOnWith : MethodName := ⟨RX9, "goOnWith", "(II)V"⟩
abbrev cX9_odds : ByteArray := prog_1_method_46_code
def yX9_odds : MethodName := ⟨RX9, "odds", "(II)I"⟩
abbrev cX9_commonDivisor : ByteArray := prog_1_method_47_code
def yX9_commonDivisor : MethodName := ⟨RX9, "commonDivisor", "(II)I"⟩
abbrev cX9_power : ByteArray := prog_1_method_48_code
def yX9_power : MethodName := ⟨RX9, "power", "(II)I"⟩
abbrev cX9_lies : ByteArray := prog_1_method_49_code
def yX9_lies : MethodName := ⟨RX9, "lies", "(I)I"⟩
abbrev cX9_looks : ByteArray := prog_1_method_50_code
def yX9_looks : MethodName := ⟨RX9, "looks", "(IIIZ)I"⟩
abbrev cX9_untell : ByteArray := prog_1_method_51_code
def yX9_untell : MethodName := ⟨RX9, "untell", "(I)Z"⟩
abbrev cX9_later : ByteArray := prog_1_method_52_code
def yX9_later : MethodName := ⟨RX9, "later", "(I)I"⟩
abbrev cX9_fits : ByteArray := prog_1_method_53_code
def yX9_fits : MethodName := ⟨RX9, "fits", "(I)I"⟩
abbrev cX9_fittingNews : ByteArray := prog_1_method_54_code
def yX9_fittingNews : MethodName := ⟨RX9, "fittingNews", "(I)I"⟩
abbrev cX9_allAreSo : ByteArray := prog_1_method_55_code
def yX9_allAreSo : MethodName := ⟨RX9, "allAreSo", "(III)Z"⟩
abbrev cX9_ask : ByteArray := prog_1_method_56_code
def yX9_ask : MethodName := ⟨RX9, "ask", "(III)I"⟩
abbrev cX9_facesThen : ByteArray := prog_1_method_57_code
def yX9_facesThen : MethodName := ⟨RX9, "facesThen", "(II)V"⟩
abbrev cX9_mostLeft : ByteArray := prog_1_method_58_code
def yX9_mostLeft : MethodName := ⟨RX9, "mostLeft", "(II)I"⟩
abbrev cX9_image : ByteArray := prog_1_method_59_code
def yX9_image : MethodName := ⟨RX9, "image", "(I)I"⟩
abbrev cX9_back : ByteArray := prog_1_method_60_code
def yX9_back : MethodName := ⟨RX9, "back", "(I)I"⟩
abbrev cX9_about : ByteArray := prog_1_method_61_code
def yX9_about : MethodName := ⟨RX9, "about", "(I)I"⟩
abbrev cX9_isMember : ByteArray := prog_1_method_62_code
def yX9_isMember : MethodName := ⟨RX9, "isMember", "(I)Z"⟩
abbrev cX9_isSeated : ByteArray := prog_1_method_63_code
def yX9_isSeated : MethodName := ⟨RX9, "isSeated", "(I)Z"⟩
abbrev cX9_isSeat : ByteArray := prog_1_method_64_code
def yX9_isSeat : MethodName := ⟨RX9, "isSeat", "(I)Z"⟩
abbrev cX9_canChange : ByteArray := prog_1_method_65_code
def yX9_canChange : MethodName := ⟨RX9, "canChange", "(II)Z"⟩
abbrev cX9_isPart : ByteArray := prog_1_method_66_code
def yX9_isPart : MethodName := ⟨RX9, "isPart", "(I)Z"⟩
abbrev cX9_isWithin : ByteArray := prog_1_method_67_code
def yX9_isWithin : MethodName := ⟨RX9, "isWithin", "(II)Z"⟩
abbrev cX9_within : ByteArray := prog_1_method_68_code
def yX9_within : MethodName := ⟨RX9, "within", "(II)I"⟩
def RX10 : String := "FaceSenateModel"
def TX10 : u_T := fun k => match k with
  | 0 => ("FaceSenateModel", "tape", "[B", true)
  | 1 => ("FaceSenateModel", "text", "[B", true)
  | 2 => ("FaceSenateModel", "taped", "I", false)
  | 3 => ("FaceSenateModel", "size", "I", false)
  | 4 => ("FaceSenateModel", "faultKind", "I", false)
  | 5 => ("FaceSenateModel", "faultPlace", "I", false)
  | 6 => ("FaceSenateModel", "at", "I", false)
  | 7 => ("FaceSenateModel", "end", "I", false)
  | 8 => ("FaceSenateModel", "token", "I", false)
  | 9 => ("FaceSenateModel", "number", "I", false)
  | 10 => ("FaceSenateModel", "name", "J", false)
  | 11 => ("FaceSenateModel", "columns", "[I", true)
  | 12 => ("FaceSenateModel", "rows", "[I", true)
  | 13 => ("FaceSenateModel", "lines", "[I", true)
  | 14 => ("FaceSenateModel", "districts", "[I", true)
  | 15 => ("FaceSenateModel", "members", "[I", true)
  | 16 => ("FaceSenateModel", "units", "[I", true)
  | 17 => ("FaceSenateModel", "tooth", "[I", true)
  | 18 => ("FaceSenateModel", "ache", "[I", true)
  | 19 => ("FaceSenateModel", "draw", "[I", true)
  | 20 => ("FaceSenateModel", "mood", "[I", true)
  | 21 => ("FaceSenateModel", "ofDistrict", "[I", true)
  | 22 => ("FaceSenateModel", "faceTold", "[I", true)
  | 23 => ("FaceSenateModel", "stoic", "[I", true)
  | 24 => ("FaceSenateModel", "seatTold", "[I", true)
  | 25 => ("FaceSenateModel", "ruleFrom", "[I", true)
  | 26 => ("FaceSenateModel", "ruleTo", "[I", true)
  | 27 => ("FaceSenateModel", "hasLook", "[Z", true)
  | 28 => ("FaceSenateModel", "hasTooth", "[Z", true)
  | 29 => ("FaceSenateModel", "isDraw", "[Z", true)
  | 30 => ("FaceSenateModel", "dName", "[J", true)
  | 31 => ("FaceSenateModel", "mName", "[J", true)
  | 32 => ("FaceSenateModel", "code", "[I", true)
  | 33 => ("FaceSenateModel", "codeNumber", "[I", true)
  | 34 => ("FaceSenateModel", "eWhat", "[I", true)
  | 35 => ("FaceSenateModel", "eSign", "[I", true)
  | 36 => ("FaceSenateModel", "pile", "[I", true)
  | 37 => ("FaceSenateModel", "bank", "I", false)
  | 38 => ("FaceSenateModel", "rb", "I", false)
  | 39 => ("FaceSenateModel", "codes", "I", false)
  | 40 => ("FaceSenateModel", "within", "I", false)
  | 41 => ("FaceSenateModel", "piled", "I", false)
  | 42 => ("FaceSenateModel", "unitsInRule", "I", false)
  | 43 => ("FaceSenateModel", "askFace", "I", false)
  | 44 => ("FaceSenateModel", "askNear", "I", false)
  | 45 => ("FaceSenateModel", "askBeside", "I", false)
  | 46 => ("FaceSenateModel", "askBright", "I", false)
  | 47 => ("FaceSenateModel", "askStoic", "I", false)
  | 48 => ("FaceSenateModel", "askNews", "I", false)
  | 49 => ("FaceSenateModel", "askSeat", "I", false)
  | 50 => ("FaceSenateModel", "all", "[I", true)
  | 51 => ("FaceSenateModel", "faces", "[I", true)
  | 52 => ("FaceSenateModel", "was", "[I", true)
  | 53 => ("FaceSenateModel", "acts", "I", false)
  | 54 => ("FaceSenateModel", "undone", "I", false)
  | 55 => ("FaceSenateModel", "far", "[I", true)
  | 56 => ("FaceSenateModel", "laidRow", "[I", true)
  | 57 => ("FaceSenateModel", "laid", "I", false)
  | 58 => ("FaceSenateModel", "kept", "[I", true)
  | 59 => ("FaceSenateModel", "faceThen", "[I", true)
  | 60 => ("FaceSenateModel", "faceElse", "[I", true)
  | 61 => ("FaceSenateModel", "byTurns", "[I", true)
  | 62 => ("FaceSenateModel", "sSteps", "[I", true)
  | 63 => ("FaceSenateModel", "sMember", "[I", true)
  | 64 => ("FaceSenateModel", "sFace", "[I", true)
  | 65 => ("FaceSenateModel", "sIs", "[I", true)
  | 66 => ("FaceSenateModel", "sTold", "[I", true)
  | 67 => ("FaceSenateModel", "sUntold", "[I", true)
  | 68 => ("FaceSenateModel", "parts", "[I", true)
  | 69 => ("FaceSenateModel", "looked", "I", false)
  | 70 => ("FaceSenateModel", "time", "I", false)
  | 71 => ("FaceSenateModel", "boxAll", "[I", true)
  | _ => ("FaceSenateModel", "isBoxed", "[Z", true)
def tyX10 : Nat → FieldType := fun k => match k with
  | 0 => .array .byte
  | 1 => .array .byte
  | 2 => .int
  | 3 => .int
  | 4 => .int
  | 5 => .int
  | 6 => .int
  | 7 => .int
  | 8 => .int
  | 9 => .int
  | 10 => .long
  | 11 => .array .int
  | 12 => .array .int
  | 13 => .array .int
  | 14 => .array .int
  | 15 => .array .int
  | 16 => .array .int
  | 17 => .array .int
  | 18 => .array .int
  | 19 => .array .int
  | 20 => .array .int
  | 21 => .array .int
  | 22 => .array .int
  | 23 => .array .int
  | 24 => .array .int
  | 25 => .array .int
  | 26 => .array .int
  | 27 => .array .boolean
  | 28 => .array .boolean
  | 29 => .array .boolean
  | 30 => .array .long
  | 31 => .array .long
  | 32 => .array .int
  | 33 => .array .int
  | 34 => .array .int
  | 35 => .array .int
  | 36 => .array .int
  | 37 => .int
  | 38 => .int
  | 39 => .int
  | 40 => .int
  | 41 => .int
  | 42 => .int
  | 43 => .int
  | 44 => .int
  | 45 => .int
  | 46 => .int
  | 47 => .int
  | 48 => .int
  | 49 => .int
  | 50 => .array .int
  | 51 => .array .int
  | 52 => .array .int
  | 53 => .int
  | 54 => .int
  | 55 => .array .int
  | 56 => .array .int
  | 57 => .int
  | 58 => .array .int
  | 59 => .array .int
  | 60 => .array .int
  | 61 => .array .int
  | 62 => .array .int
  | 63 => .array .int
  | 64 => .array .int
  | 65 => .array .int
  | 66 => .array .int
  | 67 => .array .int
  | 68 => .array .int
  | 69 => .int
  | 70 => .int
  | 71 => .array .int
  | _ => .array .boolean
abbrev wsX100 : List Cond := u_ws RX10 TX10 73
theorem nmX10 : ∀ a, a < 73 → ∀ b, b < 73 → a ≠ b → (TX10 a).2.1 ≠ (TX10 b).2.1 := by decide +kernel
theorem tyX10_ok : ∀ k, k < 73 → parseFieldDescriptor (TX10 k).2.2.1 = some (tyX10 k) := by decide +kernel
abbrev cX10_init : ByteArray := prog_12_method_1_code
def yX10_init : MethodName := ⟨RX10, "<init>", "()V"⟩
abbrev cX10_sign : ByteArray := prog_12_method_2_code
def yX10_sign : MethodName := ⟨RX10, "sign", "(I)I"⟩
abbrev cX10_isLetter : ByteArray := prog_12_method_3_code
def yX10_isLetter : MethodName := ⟨RX10, "isLetter", "(I)Z"⟩
abbrev cX10_isDigit : ByteArray := prog_12_method_4_code
def yX10_isDigit : MethodName := ⟨RX10, "isDigit", "(I)Z"⟩
abbrev cX10_fails : ByteArray := prog_12_method_5_code
def yX10_fails : MethodName := ⟨RX10, "fails", "(II)V"⟩
abbrev cX10_isGood : ByteArray := prog_12_method_6_code
def yX10_isGood : MethodName := ⟨RX10, "isGood", "()Z"⟩
abbrev cX10_isKept : ByteArray := prog_12_method_7_code
def yX10_isKept : MethodName := ⟨RX10, "isKept", "(J)Z"⟩
abbrev cX10_isSign : ByteArray := prog_12_method_8_code
def yX10_isSign : MethodName := ⟨RX10, "isSign", "(I)Z"⟩
abbrev cX10_goOn : ByteArray := prog_12_method_9_code
def yX10_goOn : MethodName := ⟨RX10, "goOn", "()V"⟩
abbrev cX10_isSignHere : ByteArray := prog_12_method_10_code
def yX10_isSignHere : MethodName := ⟨RX10, "isSignHere", "(I)Z"⟩
abbrev cX10_isWord : ByteArray := prog_12_method_11_code
def yX10_isWord : MethodName := ⟨RX10, "isWord", "(J)Z"⟩
abbrev cX10_misplaced : ByteArray := prog_12_method_12_code
def yX10_misplaced : MethodName := ⟨RX10, "misplaced", "()V"⟩
abbrev cX10_must : ByteArray := prog_12_method_13_code
def yX10_must : MethodName := ⟨RX10, "must", "(Z)V"⟩
abbrev cX10_numeral : ByteArray := prog_12_method_14_code
def yX10_numeral : MethodName := ⟨RX10, "numeral", "(II)I"⟩
abbrev cX10_after : ByteArray := prog_12_method_15_code
def yX10_after : MethodName := ⟨RX10, "after", "(JII)I"⟩
abbrev cX10_clearBank : ByteArray := prog_12_method_16_code
def yX10_clearBank : MethodName := ⟨RX10, "clearBank", "()V"⟩
abbrev cX10_senate : ByteArray := prog_12_method_17_code
def yX10_senate : MethodName := ⟨RX10, "senate", "()I"⟩
abbrev cX10_isFull : ByteArray := prog_12_method_18_code
def yX10_isFull : MethodName := ⟨RX10, "isFull", "()Z"⟩
abbrev cX10_readLine : ByteArray := prog_12_method_19_code
def yX10_readLine : MethodName := ⟨RX10, "readLine", "()V"⟩
abbrev cX10_here : ByteArray := prog_12_method_20_code
def yX10_here : MethodName := ⟨RX10, "here", "([JII)I"⟩
abbrev cX10_districtHere : ByteArray := prog_12_method_21_code
def yX10_districtHere : MethodName := ⟨RX10, "districtHere", "()I"⟩
abbrev cX10_fresh : ByteArray := prog_12_method_22_code
def yX10_fresh : MethodName := ⟨RX10, "fresh", "(I)J"⟩
abbrev cX10_known : ByteArray := prog_12_method_23_code
def yX10_known : MethodName := ⟨RX10, "known", "(I)I"⟩
abbrev cX10_passes : ByteArray := prog_12_method_24_code
def yX10_passes : MethodName := ⟨RX10, "passes", "(J)Z"⟩
abbrev cX10_readDistrict : ByteArray := prog_12_method_25_code
def yX10_readDistrict : MethodName := ⟨RX10, "readDistrict", "()V"⟩
abbrev cX10_readSeat : ByteArray := prog_12_method_26_code
def yX10_readSeat : MethodName := ⟨RX10, "readSeat", "()I"⟩
abbrev cX10_readMember : ByteArray := prog_12_method_27_code
def yX10_readMember : MethodName := ⟨RX10, "readMember", "()V"⟩
abbrev cX10_readRule : ByteArray := prog_12_method_28_code
def yX10_readRule : MethodName := ⟨RX10, "readRule", "(I)V"⟩
abbrev cX10_emit : ByteArray := prog_12_method_29_code
def yX10_emit : MethodName := ⟨RX10, "emit", "(II)V"⟩
abbrev cX10_pushE : ByteArray := prog_12_method_30_code
def yX10_pushE : MethodName := ⟨RX10, "pushE", "(II)V"⟩
abbrev cX10_e : ByteArray := prog_12_method_31_code
def yX10_e : MethodName := ⟨RX10, "e", "()V"⟩
abbrev cX10_wordHere : ByteArray := prog_12_method_32_code
def yX10_wordHere : MethodName := ⟨RX10, "wordHere", "()I"⟩
abbrev cX10_unit : ByteArray := prog_12_method_33_code
def yX10_unit : MethodName := ⟨RX10, "unit", "()Z"⟩
abbrev cX10_rankHere : ByteArray := prog_12_method_34_code
def yX10_rankHere : MethodName := ⟨RX10, "rankHere", "()I"⟩
abbrev cX10_isCompared : ByteArray := prog_12_method_35_code
def yX10_isCompared : MethodName := ⟨RX10, "isCompared", "()Z"⟩
abbrev cX10_behindUnit : ByteArray := prog_12_method_36_code
def yX10_behindUnit : MethodName := ⟨RX10, "behindUnit", "()Z"⟩
abbrev cX10_two : ByteArray := prog_12_method_37_code
def yX10_two : MethodName := ⟨RX10, "two", "(III)I"⟩
abbrev cX10_asked : ByteArray := prog_12_method_38_code
def yX10_asked : MethodName := ⟨RX10, "asked", "(II)I"⟩
abbrev cX10_comes : ByteArray := prog_12_method_39_code
def yX10_comes : MethodName := ⟨RX10, "comes", "(I)I"⟩
abbrev cX10_fault : ByteArray := prog_12_method_40_code
def yX10_fault : MethodName := ⟨RX10, "fault", "(I)I"⟩
abbrev cX10_isIn : ByteArray := prog_12_method_41_code
def yX10_isIn : MethodName := ⟨RX10, "isIn", "(III)Z"⟩
abbrev cX10_has : ByteArray := prog_12_method_42_code
def yX10_has : MethodName := ⟨RX10, "has", "(II)Z"⟩
abbrev cX10_bitsOf : ByteArray := prog_12_method_43_code
def yX10_bitsOf : MethodName := ⟨RX10, "bitsOf", "(I)I"⟩
abbrev cX10_plain : ByteArray := prog_12_method_44_code
def yX10_plain : MethodName := ⟨RX10, "plain", "(I)I"⟩
abbrev cX10_divisor : ByteArray := prog_12_method_45_code
def yX10_divisor : MethodName := ⟨RX10, "divisor", "(II)I"⟩
abbrev cX10_power : ByteArray := prog_12_method_46_code
def yX10_power : MethodName := ⟨RX10, "power", "(II)I"⟩
abbrev cX10_many : ByteArray := prog_12_method_47_code
def yX10_many : MethodName := ⟨RX10, "many", "()I"⟩
abbrev cX10_seats : ByteArray := prog_12_method_48_code
def yX10_seats : MethodName := ⟨RX10, "seats", "()I"⟩
abbrev cX10_isMember : ByteArray := prog_12_method_49_code
def yX10_isMember : MethodName := ⟨RX10, "isMember", "(I)Z"⟩
abbrev cX10_isSeat : ByteArray := prog_12_method_50_code
def yX10_isSeat : MethodName := ⟨RX10, "isSeat", "(I)Z"⟩
abbrev cX10_isFace : ByteArray := prog_12_method_51_code
def yX10_isFace : MethodName := ⟨RX10, "isFace", "(I)Z"⟩
abbrev cX10_startAnew : ByteArray := prog_12_method_52_code
def yX10_startAnew : MethodName := ⟨RX10, "startAnew", "()V"⟩
abbrev cX10_whoSits : ByteArray := prog_12_method_53_code
def yX10_whoSits : MethodName := ⟨RX10, "whoSits", "(I)I"⟩
abbrev cX10_areBeside : ByteArray := prog_12_method_54_code
def yX10_areBeside : MethodName := ⟨RX10, "areBeside", "(II)Z"⟩
abbrev cX10_beside : ByteArray := prog_12_method_55_code
def yX10_beside : MethodName := ⟨RX10, "beside", "(I)I"⟩
abbrev cX10_facesOf : ByteArray := prog_12_method_56_code
def yX10_facesOf : MethodName := ⟨RX10, "facesOf", "(I)I"⟩
abbrev cX10_everybody : ByteArray := prog_12_method_57_code
def yX10_everybody : MethodName := ⟨RX10, "everybody", "()I"⟩
abbrev cX10_brightAt : ByteArray := prog_12_method_58_code
def yX10_brightAt : MethodName := ⟨RX10, "brightAt", "(I)I"⟩
abbrev cX10_lookOf : ByteArray := prog_12_method_59_code
def yX10_lookOf : MethodName := ⟨RX10, "lookOf", "(I)I"⟩
abbrev cX10_goStep : ByteArray := prog_12_method_60_code
def yX10_goStep : MethodName := ⟨RX10, "goStep", "()I"⟩
abbrev cX10_goInEarnest : ByteArray := prog_12_method_61_code
def yX10_goInEarnest : MethodName := ⟨RX10, "goInEarnest", "()I"⟩
abbrev cX10_member : ByteArray := prog_12_method_62_code
def yX10_member : MethodName := ⟨RX10, "member", "(II)I"⟩
abbrev cX10_membersOf : ByteArray := prog_12_method_63_code
def yX10_membersOf : MethodName := ⟨RX10, "membersOf", "(I)I"⟩
abbrev cX10_offOf : ByteArray := prog_12_method_64_code
def yX10_offOf : MethodName := ⟨RX10, "offOf", "(I)I"⟩
abbrev cX10_allOff : ByteArray := prog_12_method_65_code
def yX10_allOff : MethodName := ⟨RX10, "allOff", "()I"⟩
abbrev cX10_district : ByteArray := prog_12_method_66_code
def yX10_district : MethodName := ⟨RX10, "district", "(II)I"⟩
abbrev cX10_seat : ByteArray := prog_12_method_67_code
def yX10_seat : MethodName := ⟨RX10, "seat", "(II)I"⟩
abbrev cX10_reportNow : ByteArray := prog_12_method_68_code
def yX10_reportNow : MethodName := ⟨RX10, "reportNow", "()I"⟩
abbrev cX10_report : ByteArray := prog_12_method_69_code
def yX10_report : MethodName := ⟨RX10, "report", "()I"⟩
abbrev cX10_off : ByteArray := prog_12_method_70_code
def yX10_off : MethodName := ⟨RX10, "off", "()I"⟩
abbrev cX10_brightest : ByteArray := prog_12_method_71_code
def yX10_brightest : MethodName := ⟨RX10, "brightest", "()I"⟩
abbrev cX10_keepAct : ByteArray := prog_12_method_72_code
def yX10_keepAct : MethodName := ⟨RX10, "keepAct", "()V"⟩
abbrev cX10_exchange : ByteArray := prog_12_method_73_code
def yX10_exchange : MethodName := ⟨RX10, "exchange", "()V"⟩
abbrev cX10_step : ByteArray := prog_12_method_74_code
def yX10_step : MethodName := ⟨RX10, "step", "()I"⟩
abbrev cX10_news : ByteArray := prog_12_method_75_code
def yX10_news : MethodName := ⟨RX10, "news", "(I)I"⟩
abbrev cX10_sit : ByteArray := prog_12_method_76_code
def yX10_sit : MethodName := ⟨RX10, "sit", "(II)I"⟩
abbrev cX10_canChange : ByteArray := prog_12_method_77_code
def yX10_canChange : MethodName := ⟨RX10, "canChange", "(II)Z"⟩
abbrev cX10_changeBoth : ByteArray := prog_12_method_78_code
def yX10_changeBoth : MethodName := ⟨RX10, "changeBoth", "(II)V"⟩
abbrev cX10_change : ByteArray := prog_12_method_79_code
def yX10_change : MethodName := ⟨RX10, "change", "(II)Z"⟩
abbrev cX10_unseat : ByteArray := prog_12_method_80_code
def yX10_unseat : MethodName := ⟨RX10, "unseat", "(I)I"⟩
abbrev cX10_undo : ByteArray := prog_12_method_81_code
def yX10_undo : MethodName := ⟨RX10, "undo", "()Z"⟩
abbrev cX10_redo : ByteArray := prog_12_method_82_code
def yX10_redo : MethodName := ⟨RX10, "redo", "()Z"⟩
abbrev cX10_offWith : ByteArray := prog_12_method_83_code
def yX10_offWith : MethodName := ⟨RX10, "offWith", "(II)I"⟩
abbrev cX10_stand : ByteArray := prog_12_method_84_code
def yX10_stand : MethodName := ⟨RX10, "stand", "(II)I"⟩
abbrev cX10_awayOf : ByteArray := prog_12_method_85_code
def yX10_awayOf : MethodName := ⟨RX10, "awayOf", "(I)I"⟩
abbrev cX10_sample : ByteArray := prog_12_method_86_code
def yX10_sample : MethodName := ⟨RX10, "sample", "(II)I"⟩
abbrev cX10_samples : ByteArray := prog_12_method_87_code
def yX10_samples : MethodName := ⟨RX10, "samples", "(I)I"⟩
abbrev cX10_lies : ByteArray := prog_12_method_88_code
def yX10_lies : MethodName := ⟨RX10, "lies", "(I)I"⟩
abbrev cX10_layFar : ByteArray := prog_12_method_89_code
def yX10_layFar : MethodName := ⟨RX10, "layFar", "(I)V"⟩
abbrev cX10_chain : ByteArray := prog_12_method_90_code
def yX10_chain : MethodName := ⟨RX10, "chain", "(II)I"⟩
abbrev cX10_groups : ByteArray := prog_12_method_91_code
def yX10_groups : MethodName := ⟨RX10, "groups", "()I"⟩
abbrev cX10_keepNow : ByteArray := prog_12_method_92_code
def yX10_keepNow : MethodName := ⟨RX10, "keepNow", "()V"⟩
abbrev cX10_bringBack : ByteArray := prog_12_method_93_code
def yX10_bringBack : MethodName := ⟨RX10, "bringBack", "()V"⟩
abbrev cX10_isAhead : ByteArray := prog_12_method_94_code
def yX10_isAhead : MethodName := ⟨RX10, "isAhead", "(I)Z"⟩
abbrev cX10_reportBehind : ByteArray := prog_12_method_95_code
def yX10_reportBehind : MethodName := ⟨RX10, "reportBehind", "(I)I"⟩
abbrev cX10_ahead : ByteArray := prog_12_method_96_code
def yX10_ahead : MethodName := ⟨RX10, "ahead", "(I)I"⟩
abbrev cX10_reportAt : ByteArray := prog_12_method_97_code
def yX10_reportAt : MethodName := ⟨RX10, "reportAt", "(II)I"⟩
abbrev cX10_place : ByteArray := prog_12_method_98_code
def yX10_place : MethodName := ⟨RX10, "place", "(II)I"⟩
abbrev cX10_move : ByteArray := prog_12_method_99_code
def yX10_move : MethodName := ⟨RX10, "move", "(I)I"⟩
abbrev cX10_settled : ByteArray := prog_12_method_100_code
def yX10_settled : MethodName := ⟨RX10, "settled", "()I"⟩
abbrev cX10_will : ByteArray := prog_12_method_101_code
def yX10_will : MethodName := ⟨RX10, "will", "(II)I"⟩
abbrev cX10_areAlike : ByteArray := prog_12_method_102_code
def yX10_areAlike : MethodName := ⟨RX10, "areAlike", "()Z"⟩
abbrev cX10_alike : ByteArray := prog_12_method_103_code
def yX10_alike : MethodName := ⟨RX10, "alike", "()I"⟩
abbrev cX10_unrest : ByteArray := prog_12_method_104_code
def yX10_unrest : MethodName := ⟨RX10, "unrest", "(I)I"⟩
abbrev cX10_sways : ByteArray := prog_12_method_105_code
def yX10_sways : MethodName := ⟨RX10, "sways", "(III)I"⟩
abbrev cX10_moved : ByteArray := prog_12_method_106_code
def yX10_moved : MethodName := ⟨RX10, "moved", "(I)I"⟩
abbrev cX10_key : ByteArray := prog_12_method_107_code
def yX10_key : MethodName := ⟨RX10, "key", "()I"⟩
abbrev cX10_reportByTurns : ByteArray := prog_12_method_108_code
def yX10_reportByTurns : MethodName := ⟨RX10, "reportByTurns", "(II)I"⟩
abbrev cX10_parties : ByteArray := prog_12_method_109_code
def yX10_parties : MethodName := ⟨RX10, "parties", "(II)I"⟩
abbrev cX10_least : ByteArray := prog_12_method_110_code
def yX10_least : MethodName := ⟨RX10, "least", "(II)I"⟩
abbrev cX10_offBehind : ByteArray := prog_12_method_111_code
def yX10_offBehind : MethodName := ⟨RX10, "offBehind", "(II)I"⟩
abbrev cX10_best : ByteArray := prog_12_method_112_code
def yX10_best : MethodName := ⟨RX10, "best", "(I)I"⟩
abbrev cX10_odds : ByteArray := prog_12_method_113_code
def yX10_odds : MethodName := ⟨RX10, "odds", "(II)I"⟩
abbrev cX10_looks : ByteArray := prog_12_method_114_code
def yX10_looks : MethodName := ⟨RX10, "looks", "(IIIZ)I"⟩
abbrev cX10_untell : ByteArray := prog_12_method_115_code
def yX10_untell : MethodName := ⟨RX10, "untell", "(I)Z"⟩
abbrev cX10_later : ByteArray := prog_12_method_116_code
def yX10_later : MethodName := ⟨RX10, "later", "(I)I"⟩
abbrev cX10_faceBy : ByteArray := prog_12_method_117_code
def yX10_faceBy : MethodName := ⟨RX10, "faceBy", "(III)I"⟩
abbrev cX10_doesFit : ByteArray := prog_12_method_118_code
def yX10_doesFit : MethodName := ⟨RX10, "doesFit", "(II)Z"⟩
abbrev cX10_fits : ByteArray := prog_12_method_119_code
def yX10_fits : MethodName := ⟨RX10, "fits", "(I)I"⟩
abbrev cX10_mostLike : ByteArray := prog_12_method_120_code
def yX10_mostLike : MethodName := ⟨RX10, "mostLike", "(III)I"⟩
abbrev cX10_ask : ByteArray := prog_12_method_121_code
def yX10_ask : MethodName := ⟨RX10, "ask", "(III)I"⟩
abbrev cX10_image : ByteArray := prog_12_method_122_code
def yX10_image : MethodName := ⟨RX10, "image", "(I)I"⟩
abbrev cX10_back : ByteArray := prog_12_method_123_code
def yX10_back : MethodName := ⟨RX10, "back", "(I)I"⟩
abbrev cX10_about : ByteArray := prog_12_method_124_code
def yX10_about : MethodName := ⟨RX10, "about", "(I)I"⟩
abbrev cX10_feed : ByteArray := prog_12_method_125_code
def yX10_feed : MethodName := ⟨RX10, "feed", "(IIIII)I"⟩
abbrev cX10_end : ByteArray := prog_12_method_126_code
def yX10_end : MethodName := ⟨RX10, "end", "(I)I"⟩
def RJx145de : String := "java/io/Serializable"
def TJx145de : u_T := fun k => match k with
  | _ => ("", "", "", false)
def tyJx145de : Nat → FieldType := fun k => match k with
  | _ => .int
abbrev wsJx145de0 : List Cond := u_ws RJx145de TJx145de 0
theorem nmJx145de : ∀ a, a < 0 → ∀ b, b < 0 → a ≠ b → (TJx145de a).2.1 ≠ (TJx145de b).2.1 := by decide +kernel
theorem tyJx145de_ok : ∀ k, k < 0 → parseFieldDescriptor (TJx145de k).2.2.1 = some (tyJx145de k) := by decide +kernel
def RJx9f9b0 : String := "java/lang/CharSequence"
def TJx9f9b0 : u_T := fun k => match k with
  | _ => ("", "", "", false)
def tyJx9f9b0 : Nat → FieldType := fun k => match k with
  | _ => .int
abbrev wsJx9f9b00 : List Cond := u_ws RJx9f9b0 TJx9f9b0 0
theorem nmJx9f9b0 : ∀ a, a < 0 → ∀ b, b < 0 → a ≠ b → (TJx9f9b0 a).2.1 ≠ (TJx9f9b0 b).2.1 := by decide +kernel
theorem tyJx9f9b0_ok : ∀ k, k < 0 → parseFieldDescriptor (TJx9f9b0 k).2.2.1 = some (tyJx9f9b0 k) := by decide +kernel
def RJ11 : String := "java/lang/Character"
def TJ11 : u_T := fun k => match k with
  | _ => ("", "", "", false)
def tyJ11 : Nat → FieldType := fun k => match k with
  | _ => .int
abbrev wsJ110 : List Cond := u_ws RJ11 TJ11 0
theorem nmJ11 : ∀ a, a < 0 → ∀ b, b < 0 → a ≠ b → (TJ11 a).2.1 ≠ (TJ11 b).2.1 := by decide +kernel
theorem tyJ11_ok : ∀ k, k < 0 → parseFieldDescriptor (TJ11 k).2.2.1 = some (tyJ11 k) := by decide +kernel
abbrev cJ11_isValidCodePoint_9a6ad : ByteArray := prog_13_method_11_code
def yJ11_isValidCodePoint_9a6ad : MethodName := ⟨RJ11, "isValidCodePoint", "(I)Z"⟩
abbrev cJ11_highSurrogate_5068e : ByteArray := prog_13_method_28_code
def yJ11_highSurrogate_5068e : MethodName := ⟨RJ11, "highSurrogate", "(I)C"⟩
abbrev cJ11_lowSurrogate_5068e : ByteArray := prog_13_method_29_code
def yJ11_lowSurrogate_5068e : MethodName := ⟨RJ11, "lowSurrogate", "(I)C"⟩
def RJxb160c : String := "java/lang/Comparable"
def TJxb160c : u_T := fun k => match k with
  | _ => ("", "", "", false)
def tyJxb160c : Nat → FieldType := fun k => match k with
  | _ => .int
abbrev wsJxb160c0 : List Cond := u_ws RJxb160c TJxb160c 0
theorem nmJxb160c : ∀ a, a < 0 → ∀ b, b < 0 → a ≠ b → (TJxb160c a).2.1 ≠ (TJxb160c b).2.1 := by decide +kernel
theorem tyJxb160c_ok : ∀ k, k < 0 → parseFieldDescriptor (TJxb160c k).2.2.1 = some (tyJxb160c k) := by decide +kernel
def RJ6 : String := "java/lang/Integer"
def TJ6 : u_T := fun k => match k with
  | _ => ("", "", "", false)
def tyJ6 : Nat → FieldType := fun k => match k with
  | _ => .int
abbrev wsJ60 : List Cond := u_ws RJ6 TJ6 0
theorem nmJ6 : ∀ a, a < 0 → ∀ b, b < 0 → a ≠ b → (TJ6 a).2.1 ≠ (TJ6 b).2.1 := by decide +kernel
theorem tyJ6_ok : ∀ k, k < 0 → parseFieldDescriptor (TJ6 k).2.2.1 = some (tyJ6 k) := by decide +kernel
abbrev cJ6_bitCount_0f7a4 : ByteArray := prog_14_method_49_code
def yJ6_bitCount_0f7a4 : MethodName := ⟨RJ6, "bitCount", "(I)I"⟩
def RJ9 : String := "java/lang/Math"
def TJ9 : u_T := fun k => match k with
  | _ => ("", "", "", false)
def tyJ9 : Nat → FieldType := fun k => match k with
  | _ => .int
abbrev wsJ90 : List Cond := u_ws RJ9 TJ9 0
theorem nmJ9 : ∀ a, a < 0 → ∀ b, b < 0 → a ≠ b → (TJ9 a).2.1 ≠ (TJ9 b).2.1 := by decide +kernel
theorem tyJ9_ok : ∀ k, k < 0 → parseFieldDescriptor (TJ9 k).2.2.1 = some (tyJ9 k) := by decide +kernel
abbrev cJ9_abs_0f7a4 : ByteArray := prog_15_method_59_code
def yJ9_abs_0f7a4 : MethodName := ⟨RJ9, "abs", "(I)I"⟩
abbrev cJ9_max_7cf53 : ByteArray := prog_15_method_65_code
def yJ9_max_7cf53 : MethodName := ⟨RJ9, "max", "(II)I"⟩
abbrev cJ9_min_7cf53 : ByteArray := prog_15_method_69_code
def yJ9_min_7cf53 : MethodName := ⟨RJ9, "min", "(II)I"⟩
def RJ0 : String := "java/lang/String"
def TJ0 : u_T := fun k => match k with
  | _ => ("", "", "", false)
def tyJ0 : Nat → FieldType := fun k => match k with
  | _ => .int
abbrev wsJ00 : List Cond := u_ws RJ0 TJ0 0
theorem nmJ0 : ∀ a, a < 0 → ∀ b, b < 0 → a ≠ b → (TJ0 a).2.1 ≠ (TJ0 b).2.1 := by decide +kernel
theorem tyJ0_ok : ∀ k, k < 0 → parseFieldDescriptor (TJ0 k).2.2.1 = some (tyJ0 k) := by decide +kernel
abbrev cJ0_length_8abf5 : ByteArray := prog_16_method_54_code
def yJ0_length_8abf5 : MethodName := ⟨RJ0, "length", "()I"⟩
abbrev cJ0_charAt_5068e : ByteArray := prog_16_method_56_code
def yJ0_charAt_5068e : MethodName := ⟨RJ0, "charAt", "(I)C"⟩
abbrev cJ0_indexOf_0f7a4 : ByteArray := prog_16_method_79_code
def yJ0_indexOf_0f7a4 : MethodName := ⟨RJ0, "indexOf", "(I)I"⟩
abbrev cJ0_indexOf_7cf53 : ByteArray := prog_16_method_80_code
def yJ0_indexOf_7cf53 : MethodName := ⟨RJ0, "indexOf", "(II)I"⟩
abbrev cJ0_coder_7d493 : ByteArray := prog_16_method_152_code
def yJ0_coder_7d493 : MethodName := ⟨RJ0, "coder", "()B"⟩
abbrev cJ0_isLatin1_aae02 : ByteArray := prog_16_method_154_code
def yJ0_isLatin1_aae02 : MethodName := ⟨RJ0, "isLatin1", "()Z"⟩
abbrev cJ0_checkIndex_df160 : ByteArray := prog_16_method_155_code
def yJ0_checkIndex_df160 : MethodName := ⟨RJ0, "checkIndex", "(II)V"⟩
abbrev cJ0_checkBoundsBeginEnd_23922 : ByteArray := prog_16_method_158_code
def yJ0_checkBoundsBeginEnd_23922 : MethodName := ⟨RJ0, "checkBoundsBeginEnd", "(III)V"⟩
def RJ1 : String := "java/lang/StringLatin1"
def TJ1 : u_T := fun k => match k with
  | _ => ("", "", "", false)
def tyJ1 : Nat → FieldType := fun k => match k with
  | _ => .int
abbrev wsJ10 : List Cond := u_ws RJ1 TJ1 0
theorem nmJ1 : ∀ a, a < 0 → ∀ b, b < 0 → a ≠ b → (TJ1 a).2.1 ≠ (TJ1 b).2.1 := by decide +kernel
theorem tyJ1_ok : ∀ k, k < 0 → parseFieldDescriptor (TJ1 k).2.2.1 = some (tyJ1 k) := by decide +kernel
abbrev cJ1_charAt_3b067 : ByteArray := prog_17_method_2_code
def yJ1_charAt_3b067 : MethodName := ⟨RJ1, "charAt", "([BI)C"⟩
abbrev cJ1_canEncode_9a6ad : ByteArray := prog_17_method_4_code
def yJ1_canEncode_9a6ad : MethodName := ⟨RJ1, "canEncode", "(I)Z"⟩
abbrev cJ1_indexOf_4cfef : ByteArray := prog_17_method_22_code
def yJ1_indexOf_4cfef : MethodName := ⟨RJ1, "indexOf", "([BIII)I"⟩
abbrev cJ1_indexOfChar_4cfef : ByteArray := prog_17_method_23_code
def yJ1_indexOfChar_4cfef : MethodName := ⟨RJ1, "indexOfChar", "([BIII)I"⟩
def RJ2 : String := "java/lang/StringUTF16"
def TJ2 : u_T := fun k => match k with
  | _ => ("", "", "", false)
def tyJ2 : Nat → FieldType := fun k => match k with
  | _ => .int
abbrev wsJ20 : List Cond := u_ws RJ2 TJ2 0
theorem nmJ2 : ∀ a, a < 0 → ∀ b, b < 0 → a ≠ b → (TJ2 a).2.1 ≠ (TJ2 b).2.1 := by decide +kernel
theorem tyJ2_ok : ∀ k, k < 0 → parseFieldDescriptor (TJ2 k).2.2.1 = some (tyJ2 k) := by decide +kernel
abbrev cJ2_getChar_3b067 : ByteArray := prog_18_method_5_code
def yJ2_getChar_3b067 : MethodName := ⟨RJ2, "getChar", "([BI)C"⟩
abbrev cJ2_length_9d52b : ByteArray := prog_18_method_6_code
def yJ2_length_9d52b : MethodName := ⟨RJ2, "length", "([B)I"⟩
abbrev cJ2_indexOf_4cfef : ByteArray := prog_18_method_40_code
def yJ2_indexOf_4cfef : MethodName := ⟨RJ2, "indexOf", "([BIII)I"⟩
abbrev cJ2_indexOfChar_4cfef : ByteArray := prog_18_method_47_code
def yJ2_indexOfChar_4cfef : MethodName := ⟨RJ2, "indexOfChar", "([BIII)I"⟩
abbrev cJ2_indexOfCharUnsafe_4cfef : ByteArray := prog_18_method_48_code
def yJ2_indexOfCharUnsafe_4cfef : MethodName := ⟨RJ2, "indexOfCharUnsafe", "([BIII)I"⟩
abbrev cJ2_indexOfSupplementary_4cfef : ByteArray := prog_18_method_49_code
def yJ2_indexOfSupplementary_4cfef : MethodName := ⟨RJ2, "indexOfSupplementary", "([BIII)I"⟩
abbrev cJ2_charAt_3b067 : ByteArray := prog_18_method_83_code
def yJ2_charAt_3b067 : MethodName := ⟨RJ2, "charAt", "([BI)C"⟩
abbrev cJ2_checkIndex_2214a : ByteArray := prog_18_method_91_code
def yJ2_checkIndex_2214a : MethodName := ⟨RJ2, "checkIndex", "(I[B)V"⟩
abbrev cJ2_checkBoundsBeginEnd_d044e : ByteArray := prog_18_method_93_code
def yJ2_checkBoundsBeginEnd_d044e : MethodName := ⟨RJ2, "checkBoundsBeginEnd", "(II[B)V"⟩
def RJ10 : String := "java/lang/System"
def TJ10 : u_T := fun k => match k with
  | _ => ("", "", "", false)
def tyJ10 : Nat → FieldType := fun k => match k with
  | _ => .int
abbrev wsJ100 : List Cond := u_ws RJ10 TJ10 0
theorem nmJ10 : ∀ a, a < 0 → ∀ b, b < 0 → a ≠ b → (TJ10 a).2.1 ≠ (TJ10 b).2.1 := by decide +kernel
theorem tyJ10_ok : ∀ k, k < 0 → parseFieldDescriptor (TJ10 k).2.2.1 = some (tyJ10 k) := by decide +kernel
def RJxfd54e : String := "java/lang/constant/Constable"
def TJxfd54e : u_T := fun k => match k with
  | _ => ("", "", "", false)
def tyJxfd54e : Nat → FieldType := fun k => match k with
  | _ => .int
abbrev wsJxfd54e0 : List Cond := u_ws RJxfd54e TJxfd54e 0
theorem nmJxfd54e : ∀ a, a < 0 → ∀ b, b < 0 → a ≠ b → (TJxfd54e a).2.1 ≠ (TJxfd54e b).2.1 := by decide +kernel
theorem tyJxfd54e_ok : ∀ k, k < 0 → parseFieldDescriptor (TJxfd54e k).2.2.1 = some (tyJxfd54e k) := by decide +kernel
def RJx3cf43 : String := "java/lang/constant/ConstantDesc"
def TJx3cf43 : u_T := fun k => match k with
  | _ => ("", "", "", false)
def tyJx3cf43 : Nat → FieldType := fun k => match k with
  | _ => .int
abbrev wsJx3cf430 : List Cond := u_ws RJx3cf43 TJx3cf43 0
theorem nmJx3cf43 : ∀ a, a < 0 → ∀ b, b < 0 → a ≠ b → (TJx3cf43 a).2.1 ≠ (TJx3cf43 b).2.1 := by decide +kernel
theorem tyJx3cf43_ok : ∀ k, k < 0 → parseFieldDescriptor (TJx3cf43 k).2.2.1 = some (tyJx3cf43 k) := by decide +kernel
def RJ7 : String := "java/util/Arrays"
def TJ7 : u_T := fun k => match k with
  | _ => ("", "", "", false)
def tyJ7 : Nat → FieldType := fun k => match k with
  | _ => .int
abbrev wsJ70 : List Cond := u_ws RJ7 TJ7 0
theorem nmJ7 : ∀ a, a < 0 → ∀ b, b < 0 → a ≠ b → (TJ7 a).2.1 ≠ (TJ7 b).2.1 := by decide +kernel
theorem tyJ7_ok : ∀ k, k < 0 → parseFieldDescriptor (TJ7 k).2.2.1 = some (tyJ7 k) := by decide +kernel
abbrev cJ7_fill_53178 : ByteArray := prog_20_method_103_code
def yJ7_fill_53178 : MethodName := ⟨RJ7, "fill", "([II)V"⟩
def RJ3 : String := "jdk/internal/util/Preconditions"
def TJ3 : u_T := fun k => match k with
  | _ => ("", "", "", false)
def tyJ3 : Nat → FieldType := fun k => match k with
  | _ => .int
abbrev wsJ30 : List Cond := u_ws RJ3 TJ3 0
theorem nmJ3 : ∀ a, a < 0 → ∀ b, b < 0 → a ≠ b → (TJ3 a).2.1 ≠ (TJ3 b).2.1 := by decide +kernel
theorem tyJ3_ok : ∀ k, k < 0 → parseFieldDescriptor (TJ3 k).2.2.1 = some (tyJ3 k) := by decide +kernel
abbrev cJ3_checkIndex_8e157 : ByteArray := prog_21_method_11_code
def yJ3_checkIndex_8e157 : MethodName := ⟨RJ3, "checkIndex", "(IILjava/util/function/BiFunction;)I"⟩
abbrev cJ3_checkFromToIndex_8c36e : ByteArray := prog_21_method_12_code
def yJ3_checkFromToIndex_8c36e : MethodName := ⟨RJ3, "checkFromToIndex", "(IIILjava/util/function/BiFunction;)I"⟩
def RL : String := "FaceSenateLaw"
abbrev cL_law : ByteArray := code
def yL_law : MethodName := ⟨RL, "law", "([I)Z"⟩
end
section
/-! an executor over entries (pc, kind, a, b, c): ints are constants, variables with intervals, or unknown; cells made since the start -/
abbrev fx_V : Type := Nat ⊕ (Nat ⊕ (Option Nat ⊕ Nat))
abbrev fx_C : Type := Unit ⊕ ((Nat × List fx_V) ⊕ (Nat × (Nat × List (Nat × fx_V))))
abbrev fx_H : Type := Nat × List (List fx_C)
abbrev fx_J : Type := List (Nat × Nat)
abbrev fx_I : Type := Nat × (Nat × (Nat × (Nat × Nat)))
abbrev fx_L : Type := List (Nat × fx_V)
abbrev fx_K : Type := Option fx_V → fx_H → fx_J → Bool
/-- entries, how many values it takes, cells, slots, the kind of its first value, its slots for values -/
abbrev fx_M : Type := List fx_I × (Nat × (Nat × (Nat × (Nat × Nat))))
abbrev fx_Z : Type := Nat → List fx_V → fx_H → Option (Option fx_V × fx_H)
abbrev fx_G : Type := Nat → List fx_I → List fx_I → fx_L → List fx_V → Nat → Nat → Nat → Nat → fx_H → fx_J → fx_K → Bool
noncomputable def fx_if {α : Type} (c : Bool) (x y : α) : α := Bool.rec (motive := fun _ => α) y x c
abbrev fc (n : Nat) : fx_V := .inl n
abbrev fv (i : Nat) : fx_V := .inr (.inl i)
abbrev fr (k : Nat) : fx_V := .inr (.inr (.inl (some k)))
abbrev fz : fx_V := .inr (.inr (.inl none))
abbrev fl (n : Nat) : fx_V := .inr (.inr (.inr n))
noncomputable def fx_nth {α : Type} (l : List α) : Nat → Option α := List.rec (motive := fun _ => Nat → Option α) (fun _ => none) (fun a _ ih n => Nat.rec (motive := fun _ => Option α) (some a) (fun n _ => ih n) n) l
noncomputable def fx_put {α : Type} (a : α) (l : List α) : Nat → (List α → Bool) → Bool := List.rec (motive := fun _ => Nat → (List α → Bool) → Bool) (fun _ _ => false) (fun b t ih n k => Nat.rec (motive := fun _ => Bool) (k (a :: t)) (fun n _ => ih n (fun t' => k (b :: t'))) n) l
noncomputable def fx_num (n : Nat) (k : Nat → Bool) : Bool := Nat.rec (motive := fun _ => Bool) (k 0) (fun m _ => k (m + 1)) n
noncomputable def fx_look {α : Type} (l : List (Nat × α)) (i : Nat) : Option α := List.rec (motive := fun _ => Option α) none (fun q _ ih => fx_if (Nat.beq q.1 i) (some q.2) ih) l
noncomputable def fx_all {α : Type} (l : List α) (f : α → Bool) : Bool := List.rec (motive := fun _ => Bool) true (fun a _ ih => f a && ih) l
noncomputable def fx_hget (h : fx_H) (k : Nat) : Option fx_C := match fx_nth h.2 (Nat.div k 16) with
  | none => none
  | some r => fx_nth r (Nat.mod k 16)
noncomputable def fx_hset (h : fx_H) (k : Nat) (c : fx_C) (kk : fx_H → Bool) : Bool := match h with
  | (n, rows) => match fx_nth rows (Nat.div k 16) with
    | none => false
    | some r => fx_put c r (Nat.mod k 16) (fun r' => fx_put r' rows (Nat.div k 16) (fun z => kk (n, z)))
noncomputable def fx_snoc {α : Type} (a : α) (l : List α) : (List α → Bool) → Bool := List.rec (motive := fun _ => (List α → Bool) → Bool) (fun k => k [a]) (fun b _ ih k => ih (fun t' => k (b :: t'))) l
noncomputable def fx_hnew (h : fx_H) (c : fx_C) (kk : fx_H → Bool) : Bool := match h with
  | (n, rows) => Nat.blt n 1000000 && fx_if (Nat.beq (Nat.mod n 16) 0)
    (Nat.beq rows.length (Nat.div n 16) && fx_snoc [c] rows (fun z => fx_num (Nat.add n 1) (fun n => kk (n, z))))
    (match fx_nth rows (Nat.div n 16) with
      | none => false
      | some r => Nat.beq r.length (Nat.mod n 16) && fx_snoc c r (fun r' => fx_put r' rows (Nat.div n 16) (fun z => fx_num (Nat.add n 1) (fun n => kk (n, z)))))
/-- the interval of a variable (biased) -/
noncomputable def fx_iv (j : fx_J) (i : Nat) : Nat × Nat := match fx_nth j i with
  | none => (0, 4294967295)
  | some q => q
def fx_b (n : Nat) : Nat := Nat.mod (Nat.add n 2147483648) 4294967296
noncomputable def fx_nz (j : fx_J) (v : fx_V) (k : fx_V → Bool) : Bool := match v with
  | .inr (.inl (i + 1)) => fx_if (Nat.beq (fx_iv j (i + 1)).1 (fx_iv j (i + 1)).2) (fx_num (fx_b (fx_iv j (i + 1)).1) (fun n => k (fc n))) (k v)
  | _ => k v
noncomputable def fx_val (v : fx_V) (k : fx_V → Bool) : Bool := match v with
  | .inl n => fx_num n (fun n => k (fc n))
  | .inr (.inr (.inr n)) => fx_num n (fun n => k (fl n))
  | _ => k v
noncomputable def fx_int (v : fx_V) : Bool := match v with
  | .inl _ => true
  | .inr (.inl _) => true
  | _ => false
noncomputable def fx_form (b : Nat) (v : fx_V) : Bool := match v with
  | .inl _ => Nat.ble b 1
  | .inr (.inl _) => Nat.ble b 1
  | .inr (.inr (.inl _)) => Nat.beq b 2 || Nat.beq b 3
  | .inr (.inr (.inr _)) => Nat.beq b 4 || Nat.beq b 5
noncomputable def fx_cat (v : fx_V) : Nat := match v with
  | .inr (.inr (.inr _)) => 2
  | _ => 1
def fx_odd (b : Nat) : Nat := Nat.add (Nat.mod b 2) 1
noncomputable def fx_to (cod : List fx_I) (t : Nat) : List fx_I := List.rec (motive := fun _ => List fx_I) [] (fun q r ih => fx_if (Nat.beq q.1 t) (q :: r) ih) cod
noncomputable def fx_drop (l : fx_L) (i : Nat) (k : fx_L → Bool) : Bool := List.rec (motive := fun _ => (fx_L → Bool) → Bool) (fun k => k []) (fun q _ ih k => ih (fun t => fx_if (Nat.beq q.1 i || (Nat.beq (q.1 + 1) i && Nat.beq (fx_cat q.2) 2)) (k t) (k (q :: t)))) l k
noncomputable def fx_drop2 (l : fx_L) (i : Nat) (k : fx_L → Bool) : Bool := List.rec (motive := fun _ => (fx_L → Bool) → Bool) (fun k => k []) (fun q _ ih k => ih (fun t => fx_if (Nat.beq q.1 i || (Nat.beq q.1 (i + 1) || (Nat.beq (q.1 + 1) i && Nat.beq (fx_cat q.2) 2))) (k t) (k (q :: t)))) l k
noncomputable def fx_store (l : fx_L) (i : Nat) (v : fx_V) (k : fx_L → Bool) : Bool := match v with
  | .inr (.inr (.inr _)) => fx_drop2 l i (fun t => k ((i, v) :: t))
  | _ => fx_drop l i (fun t => k ((i, v) :: t))
/-- what a comparison may come to: the truth, the intervals then; conditions 0 eq, 1 ne, 2 lt, 3 ge, 4 gt, 5 le -/
noncomputable def fx_con (o x y : Nat) : Bool := fx_if (Nat.beq o 0) (Nat.beq x y) (fx_if (Nat.beq o 1) (!Nat.beq x y) (fx_if (Nat.beq o 2) (Nat.blt x y) (fx_if (Nat.beq o 3) (Nat.ble y x) (fx_if (Nat.beq o 4) (Nat.blt y x) (Nat.ble x y)))))
noncomputable def fx_with (j : fx_J) (i lo hi : Nat) (k : fx_J → Bool) : Bool := fx_if (Nat.ble lo hi) (fx_num lo (fun lo => fx_num hi (fun hi => fx_put (lo, hi) j i k))) true
/-- a variable i against a constant y (biased): below, at, above it -/
noncomputable def fx_cut (o : Nat) (j : fx_J) (i y : Nat) (k : Bool → fx_J → Bool) : Bool :=
  fx_if (Nat.blt (fx_iv j i).2 y) (k (fx_con o 0 1) j) (fx_if (Nat.blt y (fx_iv j i).1) (k (fx_con o 1 0) j)
    ((Nat.beq y 0 || fx_with j i (fx_iv j i).1 (y - 1) (fun j => k (fx_con o 0 1) j)) && (fx_with j i y y (fun j => k (fx_con o 0 0) j) && fx_with j i (y + 1) (fx_iv j i).2 (fun j => k (fx_con o 1 0) j))))
noncomputable def fx_swap (o : Nat) : Nat := fx_if (Nat.beq o 2) 4 (fx_if (Nat.beq o 4) 2 (fx_if (Nat.beq o 3) 5 (fx_if (Nat.beq o 5) 3 o)))
noncomputable def fx_cmp (o : Nat) (j : fx_J) (x y : fx_V) (k : Bool → fx_J → Bool) : Bool := match x, y with
  | .inl a, .inl b => k (fx_con o (fx_b a) (fx_b b)) j
  | .inr (.inl (i + 1)), .inl b => fx_cut o j (i + 1) (fx_b b) k
  | .inl a, .inr (.inl (i + 1)) => fx_cut (fx_swap o) j (i + 1) (fx_b a) k
  | .inr (.inl (i + 1)), .inr (.inl (i2 + 1)) => Nat.beq i i2 && k (fx_con o 0 0) j
  | _, _ => false
/-- ints: 0 add, 1 sub, 2 mul, 3 div, 4 rem, 5 and, 6 or, 7 xor, 8 shl, 9 shr, 10 ushr; of constants -/
noncomputable def fx_bin (o x y : Nat) : Option Nat :=
  fx_if (Nat.beq o 0) (some (Nat.mod (Nat.add x y) 4294967296)) (fx_if (Nat.beq o 1) (some ((x + (4294967296 - y % 4294967296)) % 4294967296)) (fx_if (Nat.beq o 2) (some (Nat.mod (Nat.mul x y) 4294967296))
    (fx_if (Nat.beq o 3) (fx_if (Nat.blt x 2147483648 && (Nat.blt y 2147483648 && Nat.blt 0 y)) (some (x / y)) none) (fx_if (Nat.beq o 4) (fx_if (Nat.blt x 2147483648 && (Nat.blt y 2147483648 && Nat.blt 0 y)) (some (x % y)) none)
      (fx_if (Nat.beq o 5) (some (Nat.land x y)) (fx_if (Nat.beq o 6) (some (Nat.lor x y)) (fx_if (Nat.beq o 7) (some (Nat.xor x y))
        (fx_if (Nat.beq o 8) (fx_if (Nat.blt y 32) (some (Nat.shiftLeft x y % 4294967296)) none) (fx_if (Nat.beq o 9) (fx_if (Nat.blt x 2147483648 && Nat.blt y 32) (some (Nat.shiftRight x y)) none)
          (fx_if (Nat.beq o 10) (fx_if (Nat.blt x 4294967296 && Nat.blt y 32) (some (Nat.shiftRight x y)) none) none))))))))))
/-- one of them unknown -/
noncomputable def fx_bis (o : Nat) (x y : fx_V) : Option fx_V := match x, y with
  | .inl a, .inl b => match fx_bin o a b with
    | some n => some (fc n)
    | none => none
  | .inl a, .inr (.inl i) => fx_if (Nat.beq o 0 && Nat.beq a 0) (some (fv i)) (fx_if (Nat.beq o 2 && Nat.beq a 0) (some (fc 0)) (fx_if (Nat.beq o 3 || Nat.beq o 4) none (some (fv 0))))
  | .inr (.inl i), .inl b => fx_if (Nat.beq o 0 && Nat.beq b 0) (some (fv i)) (fx_if (Nat.beq o 2 && Nat.beq b 0) (some (fc 0)) (fx_if (Nat.beq o 5 && (Nat.beq b 63 && Nat.beq i 1)) (some (fv 7)) (fx_if ((Nat.beq o 3 || Nat.beq o 4) && (Nat.beq (b % 4294967296) 0)) none (some (fv 0)))))
  | .inr (.inl _), .inr (.inl _) => fx_if (Nat.beq o 3 || Nat.beq o 4) none (some (fv 0))
  | _, _ => none
/-- is the value a variable within twenty numbers (then each is taken for itself) -/
noncomputable def fx_few (j : fx_J) (v : fx_V) : Option (Nat × (Nat × Nat)) := match v with
  | .inr (.inl (i + 1)) => fx_if (Nat.ble ((fx_iv j (i + 1)).2 - (fx_iv j (i + 1)).1) 20) (some (i + 1, (fx_iv j (i + 1)).1, (fx_iv j (i + 1)).2 - (fx_iv j (i + 1)).1)) none
  | _ => none
noncomputable def fx_each (j : fx_J) (i lo n : Nat) (k : fx_J → Bool) : Bool := Nat.rec (motive := fun _ => Bool) (fx_with j i lo lo k) (fun m ih => fx_with j i (lo + (m + 1)) (lo + (m + 1)) k && ih) n
/-- arrays: 0 int, 1 byte, 2 boolean, 3 long -/
noncomputable def fx_dft (ty : Nat) : fx_V := fx_if (Nat.beq ty 3) (fl 0) (fc 0)
noncomputable def fx_aget (ty : Nat) (u : List (Nat × fx_V)) (n : Nat) : fx_V := match fx_look u n with
  | some v => v
  | none => fx_dft ty
noncomputable def fx_without {α : Type} (l : List (Nat × α)) (i : Nat) (k : List (Nat × α) → Bool) : Bool := List.rec (motive := fun _ => (List (Nat × α) → Bool) → Bool) (fun k => k []) (fun q t ih k => fx_if (Nat.beq q.1 i) (ih k) (ih (fun t => k (q :: t)))) l k
noncomputable def fx_veq (x y : fx_V) : Bool := match x, y with
  | .inl a, .inl b => Nat.beq a b
  | .inr (.inl (a + 1)), .inr (.inl (b + 1)) => Nat.beq a b
  | .inr (.inr (.inl none)), .inr (.inr (.inl none)) => true
  | .inr (.inr (.inl (some a))), .inr (.inr (.inl (some b))) => Nat.beq a b
  | .inr (.inr (.inr a)), .inr (.inr (.inr b)) => Nat.beq a b
  | _, _ => false
noncomputable def fx_aset (ty : Nat) (u : List (Nat × fx_V)) (n : Nat) (v : fx_V) (k : List (Nat × fx_V) → Bool) : Bool :=
  fx_if (fx_veq v (fx_aget ty u n)) (k u) (fx_without u n (fun u => fx_if (fx_veq v (fx_dft ty)) (k u) (k ((n, v) :: u))))
/-- what a store of a small type keeps: none if it isn't known to fit -/
noncomputable def fx_nar (ty : Nat) (v : fx_V) : Option fx_V := fx_if (Nat.beq ty 0) (fx_if (fx_int v) (some v) none) (fx_if (Nat.beq ty 3) (match v with
    | .inr (.inr (.inr _)) => some v
    | _ => none) (match v with
    | .inl n => fx_if (Nat.blt n (fx_if (Nat.beq ty 1) 128 2)) (some v) none
    | .inr (.inl _) => some (fv 0)
    | _ => none))
noncomputable def fx_split (n : Nat) (stk : List fx_V) : Option (List fx_V × List fx_V) := Nat.rec (motive := fun _ => List fx_V → List fx_V → Option (List fx_V × List fx_V)) (fun acc st => some (acc, st)) (fun _ ih acc st => match st with
    | [] => none
    | v :: st => ih (v :: acc) st) n [] stk
noncomputable def fx_args (l : List fx_V) : Nat → fx_L := List.rec (motive := fun _ => Nat → fx_L) (fun _ => []) (fun v _ ih i => (i, v) :: ih (i + fx_cat v)) l
noncomputable def fx_cats (l : List fx_V) : Nat := List.rec (motive := fun _ => Nat) 0 (fun v _ ih => fx_cat v + ih) l
/-- copies int by int -/
noncomputable def fx_copy (s d : List (Nat × fx_V)) (sp dp : Nat) (n : Nat) : (List (Nat × fx_V) → Bool) → Bool := Nat.rec (motive := fun _ => (List (Nat × fx_V) → Bool) → Bool) (fun k => k d) (fun m ih k => ih (fun u => fx_aset 0 u (dp + m) (fx_aget 0 s (sp + m)) k)) n
end
section
noncomputable def fx_nx (go : List fx_I → Bool) (pc len : Nat) (tl : List fx_I) : Bool := match tl with
  | [] => false
  | r :: _ => Nat.beq r.1 (Nat.add pc len) && go tl
noncomputable def fx_clen (a : Nat) : Nat := match fx_nth [1, 2, 3, 2, 3, 1, 3, 1] a with
  | some n => n
  | none => 0
noncomputable def fx_cst (a c : Nat) : fx_V := fx_if (Nat.blt a 5) (fc c) (fx_if (Nat.blt a 7) (fl c) fz)
noncomputable def fx_fit (t : Nat) (v : fx_V) : Bool := match v with
  | .inl n => Nat.beq t 0 || (Nat.beq t 2 && Nat.blt n 2)
  | .inr (.inl _) => Nat.beq t 0
  | .inr (.inr (.inl _)) => Nat.beq t 4
  | .inr (.inr (.inr _)) => Nat.beq t 3
noncomputable def fx_rok (b : Nat) (v : fx_V) : Bool := match v with
  | .inl n => Nat.beq b 1 || ((Nat.beq b 2 && Nat.blt n 2) || ((Nat.beq b 4 && Nat.blt n 65536) || (Nat.beq b 5 && Nat.blt n 128)))
  | .inr (.inl _) => Nat.beq b 1
  | _ => false
noncomputable def fx_aty (a ty : Nat) : Bool := fx_if (Nat.beq a 0) (Nat.beq ty 0) (fx_if (Nat.beq a 1) (Nat.beq ty 1 || Nat.beq ty 2) (Nat.beq a 2 && Nat.beq ty 3))
def fx_txt : List Nat := [104, 97, 108, 108, 32, 98, 121, 32, 100, 105, 115, 116, 114, 105, 99, 116, 32, 109, 111, 111, 100, 32, 109, 101, 109, 98, 101, 114, 32, 102, 111, 114, 32, 97, 116, 32, 108, 111, 111, 107, 32, 108, 105, 103, 104, 116, 32, 116, 111, 111, 116, 104, 32, 111, 102, 32, 100, 114, 97, 119, 32, 111, 114, 32, 97, 110, 100, 32, 110, 111, 116, 32, 102, 97, 99, 101, 32, 110, 101, 97, 114, 32, 98, 101, 115, 105, 100, 101, 32, 98, 114, 105, 103, 104, 116, 32, 115, 116, 111, 105, 99, 32, 110, 101, 119, 115, 32, 115, 116, 101, 112, 32, 114, 111, 119, 32, 99, 111, 108, 117, 109, 110, 32]
/-- a load from an array -/
noncomputable def fx_ld (a : Nat) (h : fx_H) (j : fx_J) (r n : Nat) (k : fx_V → Bool) : Bool := match fx_hget h r with
  | some (.inr (.inr (ty, len, u))) => (fx_aty a ty && Nat.blt n len) && (match fx_look u n with
    | some v => fx_fit (fx_if (Nat.beq ty 3) 3 0) v && fx_nz j v k
    | none => k (fx_dft ty))
  | some _ => false
  | none => fx_if (Nat.beq r 1000000) ((Nat.beq a 0 && Nat.blt n 6) && (Nat.blt (n + 2147483648) (fx_iv j 8).1 && fx_nz j (fv (n + 1)) k))
    (Nat.beq r 1000002 && (Nat.beq a 1 && (match fx_nth fx_txt n with
      | some z => k (fc z)
      | none => false)))
/-- a store into an array: values that are held -/
noncomputable def fx_sto (a : Nat) (h : fx_H) (r n : Nat) (v : fx_V) (k : fx_H → Bool) : Bool := match fx_hget h r with
  | some (.inr (.inr (ty, len, u))) => (fx_aty a ty && Nat.blt n len) && (match fx_nar ty v with
    | some w => fx_aset ty u n w (fun u' => fx_hset h r (.inr (.inr (ty, len, u'))) k)
    | none => false)
  | _ => false
noncomputable def fx_len (h : fx_H) (r : Nat) : Option fx_V := match fx_hget h r with
  | some (.inr (.inr (_, len, _))) => some (fc len)
  | some _ => none
  | none => fx_if (Nat.beq r 1000000) (some (fv 8)) (fx_if (Nat.beq r 1000002) (some (fc 123)) none)
noncomputable def fx_un (a : Nat) (v : fx_V) : Option fx_V := match v with
  | .inl n => fx_if (Nat.beq a 0) (some (fc ((4294967296 - n % 4294967296) % 4294967296))) (fx_if (Nat.beq a 1) (fx_if (Nat.blt n 128) (some (fc n)) none) (fx_if (Nat.beq a 2) (fx_if (Nat.blt n 65536) (some (fc n)) none) (fx_if (Nat.beq a 3 && Nat.blt n 2147483648) (some (fl n)) none)))
  | .inr (.inl _) => fx_if (Nat.blt a 3) (some (fv 0)) none
  | _ => none
noncomputable def fx_lbin (o x y : Nat) : Option Nat := fx_if (Nat.beq o 0) (some ((x + y) % 18446744073709551616)) (fx_if (Nat.beq o 1) (some ((x + (18446744073709551616 - y % 18446744073709551616)) % 18446744073709551616)) (fx_if (Nat.beq o 2) (some (x * y % 18446744073709551616)) none))
/-- the order of what lies on the stack: dup, pop, dup2, dup_x1, dup_x2 -/
noncomputable def fx_stk (a : Nat) (st : List fx_V) : Option (List fx_V) := match st with
  | v :: st => fx_if (Nat.beq (fx_cat v) 1) (fx_if (Nat.beq a 0) (some (v :: v :: st)) (fx_if (Nat.beq a 1) (some st) (match st with
    | w :: st => fx_if (Nat.beq (fx_cat w) 1) (fx_if (Nat.beq a 2) (some (v :: w :: v :: w :: st)) (fx_if (Nat.beq a 3) (some (v :: w :: v :: st)) (match st with
      | x :: st => fx_if (Nat.beq (fx_cat x) 1 && Nat.beq a 4) (some (v :: w :: x :: v :: st)) none
      | [] => none))) none
    | [] => none))) none
  | [] => none
/-- each target of a switch, for a variable i: keys from lo (biased) on -/
noncomputable def fx_keys (j : fx_J) (i : Nat) (go : Nat → fx_J → Bool) (ts : List Nat) : Nat → Bool := List.rec (motive := fun _ => Nat → Bool) (fun _ => true) (fun t _ ih lo => fx_if (Nat.ble (fx_iv j i).1 lo && Nat.ble lo (fx_iv j i).2) (fx_with j i lo lo (go t)) true && ih (lo + 1)) ts
noncomputable def fx_sw (j : fx_J) (x : fx_V) (dft lo : Nat) (ts : List Nat) (go : Nat → fx_J → Bool) : Bool := match x with
  | .inl n => fx_if (Nat.ble lo (fx_b n)) (match fx_nth ts (fx_b n - lo) with
    | some t => go t j
    | none => go dft j) (go dft j)
  | .inr (.inl (i + 1)) => fx_keys j (i + 1) go ts lo && ((Nat.beq lo 0 || fx_with j (i + 1) (fx_iv j (i + 1)).1 (fx_if (Nat.ble (fx_iv j (i + 1)).2 (lo - 1)) (fx_iv j (i + 1)).2 (lo - 1)) (go dft)) && fx_with j (i + 1) (fx_if (Nat.ble (lo + ts.length) (fx_iv j (i + 1)).1) (fx_iv j (i + 1)).1 (lo + ts.length)) (fx_iv j (i + 1)).2 (go dft))
  | _ => false
noncomputable def fx_top (v : fx_V) : Bool := match v with
  | .inr (.inl 0) => true
  | _ => false
/-- is the called one's first value of its kind: 0 nothing asked, 1 any reference, 2 + c an object of the kind c, 99 the text -/
noncomputable def fx_rcv (t : Nat) (h : fx_H) (as : List fx_V) : Bool := fx_if (Nat.beq t 0) true (match as with
  | .inr (.inr (.inl (some r))) :: _ => fx_if (Nat.beq t 1) (match fx_hget h r with
      | some (.inr (.inl _)) => true
      | _ => false) (fx_if (Nat.beq t 99) (Nat.beq r 1000001 || Nat.beq r 1000004) (match fx_hget h r with
      | some (.inr (.inl (ci, _))) => Nat.beq (ci + 2) t
      | _ => false))
  | _ => false)
abbrev fx_E : Type := (Nat → Option fx_M) × ((Nat → List Nat) × ((Nat → Option (List fx_V)) × (fx_Z × (fx_L → fx_H → fx_J → Bool))))
noncomputable def fx_ret (st : List fx_V) (v : Option fx_V) : List fx_V := match v with
  | none => st
  | some v => v :: st
noncomputable def fx_call (E : fx_E) (ih : fx_G) (d : Nat) (nx : List fx_V → Nat → Nat → fx_H → fx_J → Bool) (c : Nat) (stk : List fx_V) (ce sl mc ms : Nat) (h : fx_H) (j : fx_J) : Bool := match d with
  | 0 => false
  | d + 1 => match E.1 c with
    | none => false
    | some (cod, na, mc', ms', t, nl) => match fx_split na stk with
      | none => false
      | some (as, st) => (Nat.ble (fx_cats st) 8 && (Nat.ble (ce + mc') mc && (Nat.ble (sl + ms') ms && (Nat.ble (fx_cats as) nl && fx_rcv t h as)))) && (match fx_if (Nat.ble 10 d) (E.2.2.2.1 c as h) none with
        | some (v, h') => fx_num (ce + mc') (fun ce => fx_num (sl + ms') (fun sl => nx (fx_ret st v) ce sl h' j))
        | none => ih d cod cod (fx_args as 0) [] 0 0 mc' ms' h j (fun v h' j' => fx_num (ce + mc') (fun ce => fx_num (sl + ms') (fun sl => nx (fx_ret st v) ce sl h' j'))))
abbrev fx_O : Type := List fx_I → fx_L → List fx_V → Nat → Nat → fx_H → fx_J → Bool
noncomputable def fx_k0 (go : fx_O) (pc a b : Nat) (tl : List fx_I) (loc : fx_L) (stk : List fx_V) (ce sl : Nat) (h : fx_H) (j : fx_J) : Bool := match fx_look loc a with
  | none => false
  | some v => (fx_form b v && Nat.blt b 6) && fx_nz j v (fun v => fx_nx (fun t => go t loc (v :: stk) ce sl h j) pc (fx_odd b) tl)
noncomputable def fx_k1 (go : fx_O) (pc b c : Nat) (tl : List fx_I) (loc : fx_L) (stk : List fx_V) (ce sl : Nat) (h : fx_H) (j : fx_J) : Bool := match stk with
  | .inr (.inr (.inl (some r))) :: st => (match fx_hget h r with
    | some (.inr (.inl (ci, fs))) => Nat.beq ci b && (match fx_nth fs c with
      | some v => fx_nx (fun t => go t loc (v :: st) ce sl h j) pc 3 tl
      | none => false)
    | _ => false)
  | _ => false
noncomputable def fx_k3 (go : fx_O) (cod : List fx_I) (pc a b : Nat) (tl : List fx_I) (loc : fx_L) (stk : List fx_V) (ce sl : Nat) (h : fx_H) (j : fx_J) : Bool := match stk with
  | y :: x :: st => fx_nz j y (fun y => fx_nz j x (fun x => Nat.blt a 6 && fx_cmp a j x y (fun t j => fx_if t (go (fx_to cod b) loc st ce sl h j) (fx_nx (fun t => go t loc st ce sl h j) pc 3 tl))))
  | _ => false
noncomputable def fx_k4 (go : fx_O) (cod : List fx_I) (pc a b : Nat) (tl : List fx_I) (loc : fx_L) (stk : List fx_V) (ce sl : Nat) (h : fx_H) (j : fx_J) : Bool := match stk with
  | x :: st => fx_nz j x (fun x => Nat.blt a 6 && fx_cmp a j x (fc 0) (fun t j => fx_if t (go (fx_to cod b) loc st ce sl h j) (fx_nx (fun t => go t loc st ce sl h j) pc 3 tl)))
  | _ => false
noncomputable def fx_k6 (go : fx_O) (q : fx_I) (pc a : Nat) (tl : List fx_I) (loc : fx_L) (stk : List fx_V) (ce sl : Nat) (h : fx_H) (j : fx_J) : Bool := match stk with
  | i :: .inr (.inr (.inl (some r))) :: st => fx_nz j i (fun i => match i with
    | .inl n => fx_ld a h j r n (fun v => fx_nx (fun t => go t loc (v :: st) ce sl h j) pc 1 tl)
    | _ => match fx_few j i with
      | some (i, lo, n) => fx_each j i lo n (fun j => go (q :: tl) loc stk ce sl h j)
      | none => false)
  | _ => false
noncomputable def fx_k7 (go : fx_O) (pc a b : Nat) (tl : List fx_I) (loc : fx_L) (stk : List fx_V) (ce sl : Nat) (h : fx_H) (j : fx_J) : Bool := match fx_look loc a with
  | none => false
  | some v => fx_nz j v (fun v => match fx_bis 0 v (fc b) with
    | some w => fx_val w (fun w => fx_store loc a w (fun loc => fx_nx (fun t => go t loc stk ce sl h j) pc 3 tl))
    | none => false)
noncomputable def fx_k8 (go : fx_O) (q : fx_I) (pc a : Nat) (tl : List fx_I) (loc : fx_L) (stk : List fx_V) (ce sl : Nat) (h : fx_H) (j : fx_J) : Bool := match stk with
  | v :: i :: .inr (.inr (.inl (some r))) :: st => fx_nz j i (fun i => match i with
    | .inl n => fx_nz j v (fun v => fx_sto a h r n v (fun h => fx_nx (fun t => go t loc st ce sl h j) pc 1 tl))
    | _ => match fx_few j i with
      | some (i, lo, n) => fx_each j i lo n (fun j => go (q :: tl) loc stk ce sl h j)
      | none => false)
  | _ => false
noncomputable def fx_k10 (k : fx_K) (a b : Nat) (stk : List fx_V) (h : fx_H) (j : fx_J) : Bool := fx_if (Nat.beq a 0) (match stk with
    | [v] => fx_nz j v (fun v => fx_rok b v && k (some v) h j)
    | _ => false) (fx_if (Nat.beq a 1) (match stk with
    | [] => k none h j
    | _ => false) (match stk with
    | [.inr (.inr (.inr n))] => k (some (fl n)) h j
    | _ => false))
noncomputable def fx_k11 (go : fx_O) (pc a b : Nat) (tl : List fx_I) (loc : fx_L) (stk : List fx_V) (ce sl : Nat) (h : fx_H) (j : fx_J) : Bool := match stk with
  | v :: st => (fx_form b v && Nat.blt b 6) && fx_store loc a v (fun loc => fx_nx (fun t => go t loc st ce sl h j) pc (fx_odd b) tl)
  | _ => false
noncomputable def fx_k12 (go : fx_O) (q : fx_I) (pc a : Nat) (tl : List fx_I) (loc : fx_L) (stk : List fx_V) (ce sl : Nat) (h : fx_H) (j : fx_J) : Bool := match stk with
  | y :: x :: st => fx_nz j y (fun y => fx_nz j x (fun x => match fx_bis a x y with
    | none => false
    | some w => fx_if (fx_top w) (match fx_few j x with
        | some (i, lo, n) => fx_each j i lo n (fun j => go (q :: tl) loc stk ce sl h j)
        | none => match fx_few j y with
          | some (i, lo, n) => fx_each j i lo n (fun j => go (q :: tl) loc stk ce sl h j)
          | none => fx_nx (fun t => go t loc (w :: st) ce sl h j) pc 1 tl)
      (fx_val w (fun w => fx_nx (fun t => go t loc (w :: st) ce sl h j) pc 1 tl))))
  | _ => false
noncomputable def fx_k13 (go : fx_O) (pc a : Nat) (tl : List fx_I) (loc : fx_L) (stk : List fx_V) (ce sl : Nat) (h : fx_H) (j : fx_J) : Bool := match stk with
  | x :: st => fx_nz j x (fun x => match fx_un a x with
    | some w => fx_val w (fun w => fx_nx (fun t => go t loc (w :: st) ce sl h j) pc 1 tl)
    | none => false)
  | _ => false
noncomputable def fx_k14 (go : fx_O) (pc b c : Nat) (tl : List fx_I) (loc : fx_L) (stk : List fx_V) (ce sl : Nat) (h : fx_H) (j : fx_J) : Bool := match stk with
  | v :: .inr (.inr (.inl (some r))) :: st => (match fx_hget h r with
    | some (.inr (.inl (ci, fs))) => (Nat.beq ci b && fx_fit (Nat.mod c 8) v) && fx_put v fs (Nat.div c 8) (fun fs => fx_hset h r (.inr (.inl (ci, fs))) (fun h => fx_nx (fun t => go t loc st ce sl h j) pc 3 tl))
    | _ => false)
  | _ => false
noncomputable def fx_k15 (go : fx_O) (pc a : Nat) (tl : List fx_I) (loc : fx_L) (stk : List fx_V) (ce sl : Nat) (h : fx_H) (j : fx_J) : Bool := match fx_stk a stk with
  | some stk => fx_nx (fun t => go t loc stk ce sl h j) pc 1 tl
  | none => false
noncomputable def fx_k16 (E : fx_E) (go : fx_O) (pc b : Nat) (tl : List fx_I) (loc : fx_L) (stk : List fx_V) (ce sl mc ms : Nat) (h : fx_H) (j : fx_J) : Bool := match E.2.2.1 b with
  | some fs => (Nat.ble (ce + 1) mc && Nat.ble (sl + fs.length) ms) && fx_hnew h (.inr (.inl (b, fs))) (fun h' => fx_num (ce + 1) (fun ce => fx_num (sl + fs.length) (fun sl => fx_num h.1 (fun n => fx_nx (fun t => go t loc (fr n :: stk) ce sl h' j) pc 3 tl))))
  | none => false
noncomputable def fx_k17 (go : fx_O) (pc a : Nat) (tl : List fx_I) (loc : fx_L) (stk : List fx_V) (ce sl mc ms : Nat) (h : fx_H) (j : fx_J) : Bool := match stk with
  | .inl n :: st => ((Nat.ble n 1000000 && Nat.blt a 4) && (Nat.ble (ce + 1) mc && Nat.ble (sl + n) ms)) && fx_hnew h (.inr (.inr (a, n, []))) (fun h' => fx_num (ce + 1) (fun ce => fx_num (sl + n) (fun sl => fx_num h.1 (fun n => fx_nx (fun t => go t loc (fr n :: st) ce sl h' j) pc 2 tl))))
  | _ => false
noncomputable def fx_k18 (go : fx_O) (pc : Nat) (tl : List fx_I) (loc : fx_L) (stk : List fx_V) (ce sl : Nat) (h : fx_H) (j : fx_J) : Bool := match stk with
  | .inr (.inr (.inl (some r))) :: st => (match fx_len h r with
    | some v => fx_nz j v (fun v => fx_nx (fun t => go t loc (v :: st) ce sl h j) pc 1 tl)
    | none => false)
  | _ => false
noncomputable def fx_k19 (go : fx_O) (cod : List fx_I) (pc a b : Nat) (tl : List fx_I) (loc : fx_L) (stk : List fx_V) (ce sl : Nat) (h : fx_H) (j : fx_J) : Bool := match stk with
  | .inr (.inr (.inl none)) :: st => fx_if (Nat.beq a 0) (go (fx_to cod b) loc st ce sl h j) (Nat.beq a 1 && fx_nx (fun t => go t loc st ce sl h j) pc 3 tl)
  | .inr (.inr (.inl (some r))) :: st => Nat.blt r 1000000 && fx_if (Nat.beq a 1) (go (fx_to cod b) loc st ce sl h j) (Nat.beq a 0 && fx_nx (fun t => go t loc st ce sl h j) pc 3 tl)
  | _ => false
noncomputable def fx_k20 (E : fx_E) (go : fx_O) (cod : List fx_I) (a b c : Nat) (loc : fx_L) (stk : List fx_V) (ce sl : Nat) (h : fx_H) (j : fx_J) : Bool := match stk with
  | x :: st => fx_nz j x (fun x => fx_sw j x a (fx_b b) (E.2.1 c) (fun t j => go (fx_to cod t) loc st ce sl h j))
  | _ => false
noncomputable def fx_k22 (go : fx_O) (d pc : Nat) (tl : List fx_I) (loc : fx_L) (stk : List fx_V) (ce sl : Nat) (h : fx_H) (j : fx_J) : Bool := match stk with
  | .inr (.inr (.inl (some r))) :: st => (Nat.blt 0 d && (Nat.blt r 1000000 && Nat.ble (fx_cats st) 8)) && fx_nx (fun t => go t loc st ce sl h j) pc 3 tl
  | _ => false
noncomputable def fx_ints (u : List (Nat × fx_V)) (sp n : Nat) : Bool := Nat.rec (motive := fun _ => Bool) true (fun m ih => fx_int (fx_aget 0 u (sp + m)) && ih) n
noncomputable def fx_k23 (go : fx_O) (d pc : Nat) (tl : List fx_I) (loc : fx_L) (stk : List fx_V) (ce sl : Nat) (h : fx_H) (j : fx_J) : Bool := match stk with
  | .inl n :: .inl dp :: .inr (.inr (.inl (some r))) :: .inl sp :: .inr (.inr (.inl (some r0))) :: st => (match fx_hget h r0 with
    | some (.inr (.inr (0, len0, u0))) => (match fx_hget h r with
      | some (.inr (.inr (0, len, u))) => ((Nat.blt 0 d && Nat.ble (fx_cats st) 8) && (Nat.ble (sp + n) len0 && (Nat.ble (dp + n) len && fx_ints u0 sp n))) && fx_copy u0 u sp dp n (fun u => fx_hset h r (.inr (.inr (0, len, u))) (fun h => fx_nx (fun t => go t loc st ce sl h j) pc 3 tl))
      | _ => false)
    | _ => false)
  | _ => false
noncomputable def fx_k24 (go : fx_O) (pc a : Nat) (tl : List fx_I) (loc : fx_L) (stk : List fx_V) (ce sl : Nat) (h : fx_H) (j : fx_J) : Bool := match stk with
  | .inr (.inr (.inr y)) :: .inr (.inr (.inr x)) :: st => (match fx_lbin a x y with
    | some n => fx_num n (fun n => fx_nx (fun t => go t loc (fl n :: st) ce sl h j) pc 1 tl)
    | none => false)
  | _ => false
noncomputable def fx_k25 (go : fx_O) (pc b : Nat) (tl : List fx_I) (loc : fx_L) (stk : List fx_V) (ce sl : Nat) (h : fx_H) (j : fx_J) : Bool := match stk with
  | .inr (.inr (.inl (some r))) :: st => Nat.beq r 1000001 && fx_if (Nat.beq b 0) (fx_nx (fun t => go t loc (fr 1000002 :: st) ce sl h j) pc 3 tl) (Nat.beq b 1 && fx_nx (fun t => go t loc (fc 0 :: st) ce sl h j) pc 3 tl)
  | _ => false
noncomputable def fx_k26 (go : fx_O) (pc b : Nat) (tl : List fx_I) (loc : fx_L) (stk : List fx_V) (ce sl : Nat) (h : fx_H) (j : fx_J) : Bool := fx_if (Nat.beq b 0) (fx_nx (fun t => go t loc (fc 1 :: stk) ce sl h j) pc 3 tl) (Nat.beq b 1 && fx_nx (fun t => go t loc (fr 1000003 :: stk) ce sl h j) pc 3 tl)
noncomputable def fx_k29 (go : fx_O) (d pc b : Nat) (tl : List fx_I) (loc : fx_L) (stk : List fx_V) (ce sl : Nat) (h : fx_H) (j : fx_J) : Bool := match stk with
  | y :: x :: st => fx_nz j y (fun y => fx_nz j x (fun x => match y, x with
    | .inl v, .inl u => (Nat.blt 0 d && Nat.ble (fx_cats st) 8) && fx_if (Nat.beq b 0) (fx_if (Nat.blt (fx_b u) (fx_b v)) (fx_nx (fun t => go t loc (fc v :: st) ce sl h j) pc 3 tl) (fx_nx (fun t => go t loc (fc u :: st) ce sl h j) pc 3 tl)) (Nat.beq b 1 && fx_if (Nat.blt (fx_b v) (fx_b u)) (fx_nx (fun t => go t loc (fc v :: st) ce sl h j) pc 3 tl) (fx_nx (fun t => go t loc (fc u :: st) ce sl h j) pc 3 tl))
    | _, _ => false))
  | _ => false
noncomputable def fx_k28 (E : fx_E) (loc : fx_L) (stk : List fx_V) (h : fx_H) (j : fx_J) : Bool := match stk with
  | [] => E.2.2.2.2 loc h j
  | _ => false
noncomputable def fx_ga (go : fx_O) (cod : List fx_I) (pc kd a b c : Nat) (tl : List fx_I) (loc : fx_L) (stk : List fx_V) (ce sl : Nat) (h : fx_H) (j : fx_J) : Bool :=
  fx_if (Nat.beq kd 0) (fx_k0 go pc a b tl loc stk ce sl h j) (fx_if (Nat.beq kd 1) (fx_k1 go pc b c tl loc stk ce sl h j) (fx_if (Nat.beq kd 2) (Nat.blt a 8 && fx_nx (fun t => go t loc (fx_cst a c :: stk) ce sl h j) pc (fx_clen a) tl) (fx_k3 go cod pc a b tl loc stk ce sl h j)))
noncomputable def fx_gb (go : fx_O) (cod : List fx_I) (pc kd a b c : Nat) (tl : List fx_I) (loc : fx_L) (stk : List fx_V) (ce sl : Nat) (h : fx_H) (j : fx_J) : Bool :=
  fx_if (Nat.beq kd 4) (fx_k4 go cod pc a b tl loc stk ce sl h j) (fx_if (Nat.beq kd 5) (go (fx_to cod b) loc stk ce sl h j) (fx_if (Nat.beq kd 6) (fx_k6 go (pc, kd, a, b, c) pc a tl loc stk ce sl h j) (fx_k7 go pc a b tl loc stk ce sl h j)))
noncomputable def fx_gc (E : fx_E) (ih : fx_G) (go : fx_O) (d pc kd a b c : Nat) (tl : List fx_I) (loc : fx_L) (stk : List fx_V) (ce sl mc ms : Nat) (h : fx_H) (j : fx_J) (k : fx_K) : Bool :=
  fx_if (Nat.beq kd 8) (fx_k8 go (pc, kd, a, b, c) pc a tl loc stk ce sl h j) (fx_if (Nat.beq kd 9) (Nat.blt a 5 && fx_call E ih d (fun stk ce sl h j => fx_nx (fun t => go t loc stk ce sl h j) pc 3 tl) c stk ce sl mc ms h j) (fx_if (Nat.beq kd 10) (fx_k10 k a b stk h j) (fx_k11 go pc a b tl loc stk ce sl h j)))
noncomputable def fx_gd (go : fx_O) (pc kd a b c : Nat) (tl : List fx_I) (loc : fx_L) (stk : List fx_V) (ce sl : Nat) (h : fx_H) (j : fx_J) : Bool :=
  fx_if (Nat.beq kd 12) (fx_k12 go (pc, kd, a, b, c) pc a tl loc stk ce sl h j) (fx_if (Nat.beq kd 13) (fx_k13 go pc a tl loc stk ce sl h j) (fx_if (Nat.beq kd 14) (fx_k14 go pc b c tl loc stk ce sl h j) (fx_k15 go pc a tl loc stk ce sl h j)))
noncomputable def fx_ge (E : fx_E) (go : fx_O) (cod : List fx_I) (d pc kd a b c : Nat) (tl : List fx_I) (loc : fx_L) (stk : List fx_V) (ce sl mc ms : Nat) (h : fx_H) (j : fx_J) : Bool :=
  fx_if (Nat.beq kd 16) (fx_k16 E go pc b tl loc stk ce sl mc ms h j) (fx_if (Nat.beq kd 17) (fx_k17 go pc a tl loc stk ce sl mc ms h j) (fx_if (Nat.beq kd 18) (fx_k18 go pc tl loc stk ce sl h j) (fx_if (Nat.beq kd 19) (fx_k19 go cod pc a b tl loc stk ce sl h j)
    (fx_if (Nat.beq kd 20 || Nat.beq kd 21) (fx_k20 E go cod a b c loc stk ce sl h j) (fx_if (Nat.beq kd 22) (fx_k22 go d pc tl loc stk ce sl h j) (fx_if (Nat.beq kd 23) (fx_k23 go d pc tl loc stk ce sl h j) (fx_if (Nat.beq kd 24) (fx_k24 go pc a tl loc stk ce sl h j)
      (fx_if (Nat.beq kd 25) (fx_k25 go pc b tl loc stk ce sl h j) (fx_if (Nat.beq kd 26) (fx_k26 go pc b tl loc stk ce sl h j) (fx_if (Nat.beq kd 27) (Nat.beq a 39 && fx_nx (fun t => go t loc (fr 1000001 :: stk) ce sl h j) pc 2 tl) (fx_if (Nat.beq kd 28) (fx_k28 E loc stk h j) (Nat.beq kd 29 && fx_k29 go d pc b tl loc stk ce sl h j))))))))))))
noncomputable def fx_one (E : fx_E) (ih : fx_G) (go : fx_O) (d : Nat) (cod : List fx_I) (pc kd a b c : Nat) (tl : List fx_I) (loc : fx_L) (stk : List fx_V) (ce sl mc ms : Nat) (h : fx_H) (j : fx_J) (k : fx_K) : Bool :=
  fx_if (Nat.blt kd 4) (fx_ga go cod pc kd a b c tl loc stk ce sl h j) (fx_if (Nat.blt kd 8) (fx_gb go cod pc kd a b c tl loc stk ce sl h j) (fx_if (Nat.blt kd 12) (fx_gc E ih go d pc kd a b c tl loc stk ce sl mc ms h j k) (fx_if (Nat.blt kd 16) (fx_gd go pc kd a b c tl loc stk ce sl h j) (fx_ge E go cod d pc kd a b c tl loc stk ce sl mc ms h j))))
noncomputable def fx_step (E : fx_E) (ih : fx_G) : fx_G := fun d cod at_ loc stk ce sl mc ms h j k => match at_ with
  | [] => false
  | (pc, kd, a, b, c) :: tl => fx_one E ih (fun t loc stk ce sl h j => ih d cod t loc stk ce sl mc ms h j k) d cod pc kd a b c tl loc stk ce sl mc ms h j k
noncomputable def fx_go (E : fx_E) (n : Nat) : fx_G := Nat.rec (motive := fun _ => fx_G) (fun _ _ _ _ _ _ _ _ _ _ _ _ => false) (fun _ ih => fx_step E ih) n
theorem fx_go_succ (E : fx_E) (n : Nat) : fx_go E (n + 1) = fx_step E (fx_go E n) := rfl
end
section
def fm_0 : fx_M := ([(0, 0, 0, 2, 0), (1, 22, 1, 0, 0), (4, 0, 0, 2, 0), (5, 16, 7, 4, 0), (8, 15, 0, 0, 0), (9, 9, 3, 9, 1), (12, 14, 10, 9, 4), (15, 0, 0, 2, 0), (16, 16, 16, 3, 0), (19, 15, 0, 0, 0), (20, 9, 1, 18, 11), (23, 14, 19, 9, 12), (26, 0, 0, 2, 0), (27, 16, 23, 6, 0), (30, 15, 0, 0, 0), (31, 9, 3, 25, 17), (34, 14, 26, 9, 20), (37, 0, 0, 2, 0), (38, 16, 30, 8, 0), (41, 15, 0, 0, 0), (42, 9, 3, 32, 18), (45, 14, 33, 9, 28), (48, 0, 0, 2, 0), (49, 16, 37, 0, 0), (52, 15, 0, 0, 0), (53, 9, 3, 39, 19), (56, 14, 40, 9, 36), (59, 0, 0, 2, 0), (60, 16, 44, 5, 0), (63, 15, 0, 0, 0), (64, 2, 0, 32771, 3), (65, 9, 1, 46, 20), (68, 14, 49, 9, 44), (71, 0, 0, 2, 0), (72, 16, 53, 2, 0), (75, 15, 0, 0, 0), (76, 9, 3, 55, 21), (79, 14, 56, 9, 52), (82, 0, 0, 2, 0), (83, 2, 1, 32775, 7), (85, 17, 0, 0, 0), (87, 14, 60, 9, 60), (90, 0, 0, 2, 0), (91, 2, 1, 32775, 7), (93, 17, 0, 0, 0), (95, 14, 64, 9, 68), (98, 0, 0, 2, 0), (99, 2, 1, 32778, 10), (101, 17, 0, 0, 0), (103, 14, 67, 9, 76), (106, 0, 0, 2, 0), (107, 2, 1, 32838, 70), (109, 17, 0, 0, 0), (111, 14, 70, 9, 84), (114, 0, 0, 2, 0), (115, 2, 0, 32768, 0), (116, 14, 73, 9, 88), (119, 0, 0, 2, 0), (120, 2, 0, 32768, 0), (121, 14, 77, 9, 96), (124, 0, 0, 2, 0), (125, 2, 0, 32768, 0), (126, 14, 80, 9, 104), (129, 0, 0, 2, 0), (130, 2, 0, 32767, 4294967295), (131, 14, 83, 9, 112), (134, 0, 0, 2, 0), (135, 2, 0, 32767, 4294967295), (136, 14, 86, 9, 120), (139, 0, 0, 2, 0), (140, 1, 26, 9, 2), (143, 0, 0, 2, 0), (144, 1, 19, 9, 1), (147, 9, 0, 89, 22), (150, 10, 1, 0, 0)], 1, 66, 7144, 1, 1)
def fm_1 : fx_M := ([(0, 0, 0, 2, 0), (1, 22, 3, 0, 0), (4, 0, 0, 2, 0), (5, 16, 9, 7, 0), (8, 15, 0, 0, 0), (9, 9, 1, 11, 2), (12, 14, 12, 4, 4), (15, 0, 0, 2, 0), (16, 16, 18, 3, 0), (19, 15, 0, 0, 0), (20, 9, 1, 20, 11), (23, 14, 21, 4, 12), (26, 0, 0, 2, 0), (27, 2, 0, 32768, 0), (28, 14, 25, 4, 16), (31, 0, 0, 2, 0), (32, 2, 0, 32767, 4294967295), (33, 14, 29, 4, 24), (36, 10, 1, 0, 0)], 1, 17, 2421, 1, 1)
def fm_2 : fx_M := ([(0, 0, 0, 2, 0), (1, 22, 3, 0, 0), (4, 0, 0, 2, 0), (5, 2, 2, 34368, 1600), (8, 17, 1, 0, 0), (10, 14, 9, 7, 4), (13, 0, 0, 2, 0), (14, 2, 1, 32792, 24), (16, 17, 3, 0, 0), (18, 14, 15, 7, 12), (21, 0, 0, 2, 0), (22, 2, 0, 32768, 0), (23, 14, 19, 7, 16), (26, 0, 0, 2, 0), (27, 2, 0, 32768, 0), (28, 14, 23, 7, 24), (31, 0, 0, 2, 0), (32, 2, 0, 32768, 0), (33, 14, 26, 7, 32), (36, 0, 0, 2, 0), (37, 2, 0, 32768, 0), (38, 14, 29, 7, 40), (41, 0, 0, 2, 0), (42, 2, 0, 32768, 0), (43, 14, 32, 7, 48), (46, 0, 0, 2, 0), (47, 2, 5, 0, 0), (48, 14, 35, 7, 59), (51, 2, 0, 32768, 0), (52, 11, 1, 0, 0), (53, 2, 5, 0, 0), (54, 11, 2, 4, 0), (55, 2, 0, 32768, 0), (56, 11, 4, 1, 0), (58, 0, 4, 1, 0), (60, 27, 39, 0, 0), (62, 9, 0, 41, 3), (65, 3, 3, 121, 0), (68, 27, 39, 0, 0), (70, 0, 4, 1, 0), (72, 9, 0, 46, 5), (75, 11, 5, 1, 0), (77, 0, 5, 1, 0), (79, 2, 1, 32800, 32), (81, 3, 0, 94, 0), (84, 0, 2, 4, 0), (85, 0, 5, 1, 0), (87, 9, 2, 50, 10), (90, 11, 2, 4, 0), (91, 5, 0, 115, 0), (94, 0, 1, 0, 0), (95, 0, 0, 2, 0), (96, 1, 15, 7, 1), (99, 18, 0, 0, 0), (100, 3, 3, 115, 0), (103, 0, 0, 2, 0), (104, 1, 15, 7, 1), (107, 0, 1, 0, 0), (108, 0, 2, 4, 0), (109, 8, 2, 0, 0), (110, 7, 1, 1, 0), (113, 2, 5, 0, 0), (114, 11, 2, 4, 0), (115, 7, 4, 1, 0), (118, 5, 0, 58, 0), (121, 10, 1, 0, 0)], 1, 2, 1624, 1, 6)
def fm_3 : fx_M := ([(0, 0, 0, 2, 0), (1, 25, 9, 0, 0), (4, 18, 0, 0, 0), (5, 0, 0, 2, 0), (6, 9, 0, 335, 4), (9, 12, 9, 0, 0), (10, 10, 0, 1, 0)], 1, 0, 0, 99, 1)
def fm_4 : fx_M := ([(0, 26, 38, 0, 0), (3, 4, 0, 13, 0), (6, 0, 0, 2, 0), (7, 25, 15, 1, 0), (10, 5, 0, 14, 0), (14, 10, 0, 5, 0)], 1, 0, 0, 99, 1)
def fm_5 : fx_M := ([(0, 0, 0, 2, 0), (1, 9, 0, 492, 6), (4, 4, 0, 16, 0), (7, 0, 0, 2, 0), (8, 25, 9, 0, 0), (11, 0, 1, 0, 0), (12, 9, 2, 495, 7), (15, 10, 0, 4, 0)], 2, 0, 0, 99, 2)
def fm_6 : fx_M := ([(0, 26, 38, 0, 0), (3, 4, 0, 17, 0), (6, 0, 0, 2, 0), (7, 25, 15, 1, 0), (10, 4, 1, 17, 0), (13, 2, 0, 32769, 1), (14, 5, 0, 18, 0), (18, 10, 0, 2, 0)], 1, 0, 0, 99, 1)
def fm_7 : fx_M := ([(0, 0, 1, 0, 0), (1, 0, 0, 2, 0), (2, 18, 0, 0, 0), (3, 9, 2, 9, 8), (6, 0, 0, 2, 0), (7, 0, 1, 0, 0), (8, 6, 1, 0, 0), (9, 2, 2, 33023, 255), (12, 12, 5, 0, 0), (13, 13, 2, 0, 0), (14, 10, 0, 4, 0)], 2, 0, 0, 0, 2)
def fm_8 : fx_M := ([(0, 0, 0, 0, 0), (1, 0, 1, 0, 0), (2, 26, 1053, 1, 0), (5, 9, 2, 1059, 9), (8, 15, 1, 0, 0), (9, 10, 1, 0, 0)], 2, 0, 0, 0, 2)
def fm_9 : fx_M := ([(0, 0, 0, 0, 0), (1, 4, 2, 9, 0), (4, 0, 0, 0, 0), (5, 0, 1, 0, 0), (6, 3, 2, 16, 0), (16, 0, 0, 0, 0), (17, 10, 0, 1, 0)], 3, 0, 0, 0, 3)
def fm_10 : fx_M := ([(0, 0, 0, 4, 0), (1, 2, 6, 79, 27), (4, 24, 2, 0, 0), (5, 0, 2, 0, 0), (6, 13, 3, 0, 0), (7, 24, 0, 0, 0), (8, 2, 6, 81, 97), (11, 24, 1, 0, 0), (12, 2, 5, 1, 1), (13, 24, 0, 0, 0), (14, 10, 2, 3, 0)], 2, 0, 0, 0, 3)
def fm_11 : fx_M := ([(0, 0, 0, 2, 0), (1, 22, 3, 0, 0), (4, 0, 0, 2, 0), (5, 2, 0, 32772, 4), (6, 17, 3, 0, 0), (8, 14, 9, 3, 4), (11, 0, 0, 2, 0), (12, 2, 0, 32772, 4), (13, 17, 0, 0, 0), (15, 14, 15, 3, 12), (18, 0, 0, 2, 0), (19, 2, 1, 32775, 7), (21, 17, 3, 0, 0), (23, 14, 19, 3, 20), (26, 0, 0, 2, 0), (27, 2, 1, 32775, 7), (29, 17, 0, 0, 0), (31, 14, 22, 3, 28), (34, 0, 0, 2, 0), (35, 2, 1, 32775, 7), (37, 17, 0, 0, 0), (39, 14, 25, 3, 36), (42, 0, 0, 2, 0), (43, 2, 1, 32775, 7), (45, 17, 0, 0, 0), (47, 14, 28, 3, 44), (50, 0, 0, 2, 0), (51, 2, 1, 32775, 7), (53, 17, 0, 0, 0), (55, 14, 31, 3, 52), (58, 0, 0, 2, 0), (59, 16, 34, 1, 0), (62, 15, 0, 0, 0), (63, 9, 3, 36, 12), (66, 14, 37, 3, 60), (69, 0, 0, 2, 0), (70, 16, 34, 1, 0), (73, 15, 0, 0, 0), (74, 9, 3, 36, 12), (77, 14, 41, 3, 68), (80, 0, 0, 2, 0), (81, 2, 0, 32772, 4), (82, 14, 44, 3, 72), (85, 0, 0, 2, 0), (86, 2, 0, 32772, 4), (87, 14, 48, 3, 80), (90, 0, 0, 2, 0), (91, 2, 0, 32768, 0), (92, 14, 51, 3, 88), (95, 0, 0, 2, 0), (96, 2, 0, 32768, 0), (97, 14, 54, 3, 96), (100, 0, 0, 2, 0), (101, 2, 0, 32768, 0), (102, 14, 57, 3, 104), (105, 0, 0, 2, 0), (106, 2, 0, 32769, 1), (107, 14, 60, 3, 112), (110, 0, 0, 2, 0), (111, 2, 0, 32768, 0), (112, 14, 63, 3, 120), (115, 0, 0, 2, 0), (116, 2, 0, 32768, 0), (117, 14, 66, 3, 130), (120, 0, 0, 2, 0), (121, 2, 0, 32768, 0), (122, 14, 70, 3, 138), (125, 0, 0, 2, 0), (126, 9, 0, 73, 13), (129, 10, 1, 0, 0)], 1, 13, 771, 1, 1)
def fm_12 : fx_M := ([(0, 0, 0, 2, 0), (1, 22, 3, 0, 0), (4, 0, 0, 2, 0), (5, 2, 2, 33088, 320), (8, 17, 0, 0, 0), (10, 14, 9, 1, 4), (13, 0, 0, 2, 0), (14, 2, 1, 32808, 40), (16, 17, 0, 0, 0), (18, 14, 15, 1, 12), (21, 0, 0, 2, 0), (22, 2, 0, 32768, 0), (23, 14, 18, 1, 16), (26, 0, 0, 2, 0), (27, 2, 0, 32768, 0), (28, 14, 22, 1, 24), (31, 10, 1, 0, 0)], 1, 2, 360, 1, 1)
def fm_13 : fx_M := ([(0, 0, 0, 2, 0), (1, 1, 22, 3, 3), (4, 2, 0, 32768, 0), (5, 9, 2, 76, 14), (8, 0, 0, 2, 0), (9, 1, 25, 3, 4), (12, 2, 0, 32768, 0), (13, 9, 2, 76, 14), (16, 0, 0, 2, 0), (17, 1, 28, 3, 5), (20, 2, 0, 32768, 0), (21, 9, 2, 76, 14), (24, 0, 0, 2, 0), (25, 1, 31, 3, 6), (28, 2, 0, 32767, 4294967295), (29, 9, 2, 76, 14), (32, 0, 0, 2, 0), (33, 1, 37, 3, 7), (36, 9, 0, 82, 15), (39, 0, 0, 2, 0), (40, 1, 37, 3, 7), (43, 2, 0, 32768, 0), (44, 9, 0, 83, 16), (47, 0, 0, 2, 0), (48, 1, 41, 3, 8), (51, 9, 0, 82, 15), (54, 0, 0, 2, 0), (55, 1, 41, 3, 8), (58, 2, 1, 32805, 37), (60, 9, 0, 83, 16), (63, 0, 0, 2, 0), (64, 2, 0, 32772, 4), (65, 14, 44, 3, 72), (68, 0, 0, 2, 0), (69, 2, 0, 32772, 4), (70, 14, 48, 3, 80), (73, 0, 0, 2, 0), (74, 2, 0, 32768, 0), (75, 14, 51, 3, 88), (78, 0, 0, 2, 0), (79, 2, 0, 32768, 0), (80, 14, 54, 3, 96), (83, 0, 0, 2, 0), (84, 2, 0, 32768, 0), (85, 14, 57, 3, 104), (88, 0, 0, 2, 0), (89, 2, 0, 32769, 1), (90, 14, 60, 3, 112), (93, 0, 0, 2, 0), (94, 2, 0, 32768, 0), (95, 14, 63, 3, 120), (98, 0, 0, 2, 0), (99, 2, 0, 32768, 0), (100, 14, 66, 3, 130), (103, 0, 0, 2, 0), (104, 2, 0, 32768, 0), (105, 14, 70, 3, 138), (108, 10, 1, 0, 0)], 1, 0, 0, 5, 1)
def fm_14 : fx_M := ([(0, 2, 0, 32768, 0), (1, 11, 2, 0, 0), (2, 0, 0, 2, 0), (3, 18, 0, 0, 0), (4, 11, 3, 0, 0), (5, 0, 2, 0, 0), (6, 0, 3, 0, 0), (7, 3, 3, 20, 0), (10, 0, 0, 2, 0), (11, 0, 2, 0, 0), (12, 0, 1, 0, 0), (13, 8, 0, 0, 0), (14, 7, 2, 1, 0), (17, 5, 0, 5, 0), (20, 10, 1, 0, 0)], 2, 0, 0, 0, 4)
def fm_15 : fx_M := ([(0, 0, 0, 2, 0), (1, 2, 0, 32768, 0), (2, 14, 18, 1, 16), (5, 0, 0, 2, 0), (6, 2, 0, 32768, 0), (7, 14, 22, 1, 24), (10, 10, 1, 0, 0)], 1, 0, 0, 3, 1)
def fm_16 : fx_M := ([(0, 0, 0, 2, 0), (1, 1, 18, 1, 2), (4, 0, 0, 2, 0), (5, 1, 9, 1, 0), (8, 18, 0, 0, 0), (9, 3, 3, 32, 0), (12, 0, 0, 2, 0), (13, 1, 9, 1, 0), (16, 0, 0, 2, 0), (17, 1, 18, 1, 2), (20, 0, 1, 0, 0), (21, 8, 0, 0, 0), (22, 0, 0, 2, 0), (23, 15, 0, 0, 0), (24, 1, 18, 1, 2), (27, 2, 0, 32769, 1), (28, 12, 0, 0, 0), (29, 14, 18, 1, 16), (32, 10, 1, 0, 0)], 2, 0, 0, 3, 2)
def fm_17 : fx_M := ([(0, 0, 0, 2, 0), (1, 22, 3, 0, 0), (4, 0, 0, 2, 0), (5, 2, 1, 32775, 7), (7, 17, 0, 0, 0), (9, 14, 9, 6, 4), (12, 0, 0, 2, 0), (13, 2, 1, 32775, 7), (15, 17, 0, 0, 0), (17, 14, 15, 6, 12), (20, 0, 0, 2, 0), (21, 2, 0, 32768, 0), (22, 14, 18, 6, 16), (25, 0, 0, 2, 0), (26, 2, 0, 32768, 0), (27, 14, 22, 6, 24), (30, 0, 0, 2, 0), (31, 2, 0, 32768, 0), (32, 14, 25, 6, 32), (35, 10, 1, 0, 0)], 1, 2, 14, 1, 1)
def fm_18 : fx_M := ([(0, 0, 0, 2, 0), (1, 22, 3, 0, 0), (4, 0, 0, 2, 0), (5, 16, 9, 6, 0), (8, 15, 0, 0, 0), (9, 9, 3, 11, 17), (12, 14, 12, 8, 4), (15, 0, 0, 2, 0), (16, 2, 1, 32775, 7), (18, 17, 0, 0, 0), (20, 14, 18, 8, 12), (23, 0, 0, 2, 0), (24, 2, 1, 32775, 7), (26, 17, 0, 0, 0), (28, 14, 22, 8, 20), (31, 0, 0, 2, 0), (32, 2, 1, 32775, 7), (34, 17, 0, 0, 0), (36, 14, 25, 8, 28), (39, 0, 0, 2, 0), (40, 2, 1, 32775, 7), (42, 17, 0, 0, 0), (44, 14, 28, 8, 36), (47, 0, 0, 2, 0), (48, 2, 1, 32789, 21), (50, 17, 0, 0, 0), (52, 14, 31, 8, 44), (55, 0, 0, 2, 0), (56, 2, 1, 32777, 9), (58, 17, 0, 0, 0), (60, 14, 34, 8, 52), (63, 0, 0, 2, 0), (64, 2, 1, 32777, 9), (66, 17, 0, 0, 0), (68, 14, 37, 8, 60), (71, 0, 0, 2, 0), (72, 2, 2, 33792, 1024), (75, 17, 0, 0, 0), (77, 14, 40, 8, 68), (80, 0, 0, 2, 0), (81, 2, 2, 33792, 1024), (84, 17, 0, 0, 0), (86, 14, 43, 8, 76), (89, 0, 0, 2, 0), (90, 2, 7, 0, 0), (91, 14, 46, 8, 84), (94, 10, 1, 0, 0)], 1, 12, 2134, 1, 1)
def fm_19 : fx_M := ([(0, 0, 0, 2, 0), (1, 22, 3, 0, 0), (4, 0, 0, 2, 0), (5, 16, 9, 5, 0), (8, 15, 0, 0, 0), (9, 2, 1, 32809, 41), (11, 9, 1, 11, 20), (14, 14, 14, 0, 4), (17, 0, 0, 2, 0), (18, 2, 0, 32768, 0), (19, 14, 20, 0, 8), (22, 0, 0, 2, 0), (23, 2, 0, 32768, 0), (24, 14, 24, 0, 16), (27, 10, 1, 0, 0)], 1, 3, 741, 1, 1)
def fm_20 : fx_M := ([(0, 0, 0, 2, 0), (1, 22, 3, 0, 0), (4, 0, 0, 2, 0), (5, 0, 1, 0, 0), (6, 2, 0, 32768, 0), (7, 29, 9, 0, 0), (10, 14, 15, 5, 0), (13, 0, 0, 2, 0), (14, 0, 0, 2, 0), (15, 1, 15, 5, 0), (18, 2, 1, 32785, 17), (20, 12, 2, 0, 0), (21, 17, 0, 0, 0), (23, 14, 21, 5, 12), (26, 0, 0, 2, 0), (27, 0, 0, 2, 0), (28, 1, 15, 5, 0), (31, 17, 2, 0, 0), (33, 14, 25, 5, 20), (36, 10, 1, 0, 0)], 2, 2, 738, 1, 2)
def fm_21 : fx_M := ([(0, 0, 0, 2, 0), (1, 22, 3, 0, 0), (4, 0, 0, 2, 0), (5, 2, 1, 32798, 30), (7, 17, 0, 0, 0), (9, 14, 9, 2, 4), (12, 0, 0, 2, 0), (13, 2, 1, 32798, 30), (15, 17, 0, 0, 0), (17, 14, 15, 2, 12), (20, 0, 0, 2, 0), (21, 2, 1, 32798, 30), (23, 17, 0, 0, 0), (25, 14, 18, 2, 20), (28, 0, 0, 2, 0), (29, 2, 1, 32798, 30), (31, 17, 2, 0, 0), (33, 14, 21, 2, 28), (36, 0, 0, 2, 0), (37, 2, 1, 32798, 30), (39, 17, 0, 0, 0), (41, 14, 25, 2, 36), (44, 0, 0, 2, 0), (45, 2, 1, 32798, 30), (47, 17, 0, 0, 0), (49, 14, 28, 2, 44), (52, 0, 0, 2, 0), (53, 2, 0, 32768, 0), (54, 14, 31, 2, 48), (57, 10, 1, 0, 0)], 1, 6, 180, 1, 1)
def fm_22 : fx_M := ([(0, 0, 1, 2, 0), (1, 1, 28, 3, 4), (4, 2, 0, 32768, 0), (5, 0, 0, 2, 0), (6, 1, 9, 6, 0), (9, 2, 0, 32768, 0), (10, 2, 1, 32775, 7), (12, 23, 31, 0, 0), (15, 0, 1, 2, 0), (16, 1, 37, 3, 6), (19, 2, 0, 32768, 0), (20, 0, 0, 2, 0), (21, 1, 15, 6, 1), (24, 2, 0, 32768, 0), (25, 2, 1, 32775, 7), (27, 23, 31, 0, 0), (30, 0, 0, 2, 0), (31, 2, 0, 32768, 0), (32, 14, 18, 6, 16), (35, 0, 0, 2, 0), (36, 2, 0, 32768, 0), (37, 14, 22, 6, 24), (40, 0, 0, 2, 0), (41, 0, 1, 2, 0), (42, 1, 38, 3, 15), (45, 14, 25, 6, 32), (48, 10, 1, 0, 0)], 2, 0, 0, 8, 2)
def fm_23 : fx_M := ([(0, 0, 0, 2, 0), (1, 22, 1, 0, 0), (4, 0, 0, 2, 0), (5, 2, 2, 34388, 1620), (8, 17, 1, 0, 0), (10, 14, 7, 10, 4), (13, 0, 0, 2, 0), (14, 2, 2, 34368, 1600), (17, 17, 1, 0, 0), (19, 14, 13, 10, 12), (22, 0, 0, 2, 0), (23, 2, 0, 32767, 4294967295), (24, 14, 16, 10, 40), (27, 0, 0, 2, 0), (28, 2, 0, 32770, 2), (29, 17, 0, 0, 0), (31, 14, 20, 10, 92), (34, 0, 0, 2, 0), (35, 2, 0, 32770, 2), (36, 17, 0, 0, 0), (38, 14, 24, 10, 100), (41, 0, 0, 2, 0), (42, 2, 0, 32770, 2), (43, 17, 0, 0, 0), (45, 14, 27, 10, 108), (48, 0, 0, 2, 0), (49, 2, 0, 32770, 2), (50, 17, 0, 0, 0), (52, 14, 30, 10, 116), (55, 0, 0, 2, 0), (56, 2, 0, 32770, 2), (57, 17, 0, 0, 0), (59, 14, 33, 10, 124), (62, 0, 0, 2, 0), (63, 2, 0, 32770, 2), (64, 17, 0, 0, 0), (66, 14, 36, 10, 132), (69, 0, 0, 2, 0), (70, 2, 0, 32770, 2), (71, 17, 0, 0, 0), (73, 14, 39, 10, 140), (76, 0, 0, 2, 0), (77, 2, 0, 32770, 2), (78, 17, 0, 0, 0), (80, 14, 42, 10, 148), (83, 0, 0, 2, 0), (84, 2, 0, 32770, 2), (85, 17, 0, 0, 0), (87, 14, 45, 10, 156), (90, 0, 0, 2, 0), (91, 2, 1, 32776, 8), (93, 17, 0, 0, 0), (95, 14, 48, 10, 164), (98, 0, 0, 2, 0), (99, 2, 1, 32782, 14), (101, 17, 0, 0, 0), (103, 14, 51, 10, 172), (106, 0, 0, 2, 0), (107, 2, 1, 32782, 14), (109, 17, 0, 0, 0), (111, 14, 54, 10, 180), (114, 0, 0, 2, 0), (115, 2, 1, 32782, 14), (117, 17, 0, 0, 0), (119, 14, 57, 10, 188), (122, 0, 0, 2, 0), (123, 2, 1, 32782, 14), (125, 17, 0, 0, 0), (127, 14, 60, 10, 196), (130, 0, 0, 2, 0), (131, 2, 0, 32772, 4), (132, 17, 0, 0, 0), (134, 14, 63, 10, 204), (137, 0, 0, 2, 0), (138, 2, 0, 32772, 4), (139, 17, 0, 0, 0), (141, 14, 66, 10, 212), (144, 0, 0, 2, 0), (145, 2, 0, 32772, 4), (146, 17, 2, 0, 0), (148, 14, 69, 10, 220), (151, 0, 0, 2, 0), (152, 2, 0, 32770, 2), (153, 17, 2, 0, 0), (155, 14, 73, 10, 228), (158, 0, 0, 2, 0), (159, 2, 0, 32770, 2), (160, 17, 2, 0, 0), (162, 14, 76, 10, 236), (165, 0, 0, 2, 0), (166, 2, 1, 32776, 8), (168, 17, 3, 0, 0), (170, 14, 79, 10, 244), (173, 0, 0, 2, 0), (174, 2, 1, 32782, 14), (176, 17, 3, 0, 0), (178, 14, 83, 10, 252), (181, 0, 0, 2, 0), (182, 2, 2, 33888, 1120), (185, 17, 0, 0, 0), (187, 14, 86, 10, 260), (190, 0, 0, 2, 0), (191, 2, 2, 33888, 1120), (194, 17, 0, 0, 0), (196, 14, 89, 10, 268), (199, 0, 0, 2, 0), (200, 2, 1, 32858, 90), (202, 17, 0, 0, 0), (204, 14, 92, 10, 276), (207, 0, 0, 2, 0), (208, 2, 1, 32858, 90), (210, 17, 0, 0, 0), (212, 14, 95, 10, 284), (215, 0, 0, 2, 0), (216, 2, 1, 32828, 60), (218, 17, 0, 0, 0), (220, 14, 98, 10, 292), (223, 0, 0, 2, 0), (224, 2, 1, 32785, 17), (226, 17, 0, 0, 0), (228, 14, 101, 10, 404), (231, 0, 0, 2, 0), (232, 2, 1, 32775, 7), (234, 17, 0, 0, 0), (236, 14, 104, 10, 412), (239, 0, 0, 2, 0), (240, 2, 2, 33465, 697), (243, 17, 0, 0, 0), (245, 14, 107, 10, 420), (248, 0, 0, 2, 0), (249, 2, 1, 32775, 7), (251, 17, 0, 0, 0), (253, 14, 110, 10, 444), (256, 0, 0, 2, 0), (257, 2, 1, 32775, 7), (259, 17, 0, 0, 0), (261, 14, 113, 10, 452), (264, 0, 0, 2, 0), (265, 2, 1, 32785, 17), (267, 17, 0, 0, 0), (269, 14, 116, 10, 468), (272, 0, 0, 2, 0), (273, 2, 1, 32775, 7), (275, 17, 0, 0, 0), (277, 14, 119, 10, 476), (280, 0, 0, 2, 0), (281, 2, 1, 32775, 7), (283, 17, 0, 0, 0), (285, 14, 122, 10, 484), (288, 0, 0, 2, 0), (289, 2, 2, 33768, 1000), (292, 17, 0, 0, 0), (294, 14, 125, 10, 492), (297, 0, 0, 2, 0), (298, 2, 1, 32798, 30), (300, 17, 0, 0, 0), (302, 14, 128, 10, 500), (305, 0, 0, 2, 0), (306, 2, 1, 32798, 30), (308, 17, 0, 0, 0), (310, 14, 131, 10, 508), (313, 0, 0, 2, 0), (314, 2, 1, 32798, 30), (316, 17, 0, 0, 0), (318, 14, 134, 10, 516), (321, 0, 0, 2, 0), (322, 2, 1, 32798, 30), (324, 17, 0, 0, 0), (326, 14, 137, 10, 524), (329, 0, 0, 2, 0), (330, 2, 1, 32798, 30), (332, 17, 0, 0, 0), (334, 14, 140, 10, 532), (337, 0, 0, 2, 0), (338, 2, 1, 32798, 30), (340, 17, 0, 0, 0), (342, 14, 143, 10, 540), (345, 0, 0, 2, 0), (346, 2, 1, 32778, 10), (348, 17, 0, 0, 0), (350, 14, 146, 10, 548), (353, 0, 0, 2, 0), (354, 2, 1, 32819, 51), (356, 17, 0, 0, 0), (358, 14, 149, 10, 572), (361, 0, 0, 2, 0), (362, 2, 0, 32771, 3), (363, 17, 2, 0, 0), (365, 14, 152, 10, 580), (368, 0, 0, 2, 0), (369, 9, 0, 155, 24), (372, 0, 0, 2, 0), (373, 9, 0, 158, 25), (376, 10, 1, 0, 0)], 1, 46, 7830, 1, 1)
def fm_24 : fx_M := ([(0, 0, 0, 2, 0), (1, 1, 20, 10, 11), (4, 0, 0, 2, 0), (5, 1, 274, 10, 38), (8, 2, 0, 32772, 4), (9, 8, 0, 0, 0), (10, 0, 0, 2, 0), (11, 1, 24, 10, 12), (14, 0, 0, 2, 0), (15, 1, 274, 10, 38), (18, 2, 0, 32772, 4), (19, 8, 0, 0, 0), (20, 0, 0, 2, 0), (21, 1, 27, 10, 13), (24, 0, 0, 2, 0), (25, 1, 274, 10, 38), (28, 2, 0, 32768, 0), (29, 8, 0, 0, 0), (30, 0, 0, 2, 0), (31, 1, 30, 10, 14), (34, 0, 0, 2, 0), (35, 1, 274, 10, 38), (38, 2, 0, 32768, 0), (39, 8, 0, 0, 0), (40, 0, 0, 2, 0), (41, 1, 33, 10, 15), (44, 0, 0, 2, 0), (45, 1, 274, 10, 38), (48, 2, 0, 32768, 0), (49, 8, 0, 0, 0), (50, 0, 0, 2, 0), (51, 1, 36, 10, 16), (54, 0, 0, 2, 0), (55, 1, 274, 10, 38), (58, 2, 0, 32768, 0), (59, 8, 0, 0, 0), (60, 0, 0, 2, 0), (61, 1, 39, 10, 17), (64, 0, 0, 2, 0), (65, 1, 274, 10, 38), (68, 2, 0, 32768, 0), (69, 8, 0, 0, 0), (70, 0, 0, 2, 0), (71, 1, 42, 10, 18), (74, 0, 0, 2, 0), (75, 1, 274, 10, 38), (78, 2, 0, 32769, 1), (79, 8, 0, 0, 0), (80, 0, 0, 2, 0), (81, 1, 45, 10, 19), (84, 0, 0, 2, 0), (85, 1, 274, 10, 38), (88, 2, 0, 32768, 0), (89, 8, 0, 0, 0), (90, 0, 0, 2, 0), (91, 1, 69, 10, 27), (94, 2, 0, 32770, 2), (95, 0, 0, 2, 0), (96, 1, 274, 10, 38), (99, 12, 2, 0, 0), (100, 2, 0, 32768, 0), (101, 8, 1, 0, 0), (102, 0, 0, 2, 0), (103, 1, 69, 10, 27), (106, 2, 0, 32770, 2), (107, 0, 0, 2, 0), (108, 1, 274, 10, 38), (111, 12, 2, 0, 0), (112, 2, 0, 32769, 1), (113, 12, 0, 0, 0), (114, 2, 0, 32768, 0), (115, 8, 1, 0, 0), (116, 0, 0, 2, 0), (117, 1, 73, 10, 28), (120, 0, 0, 2, 0), (121, 1, 274, 10, 38), (124, 2, 0, 32768, 0), (125, 8, 1, 0, 0), (126, 0, 0, 2, 0), (127, 1, 76, 10, 29), (130, 0, 0, 2, 0), (131, 1, 274, 10, 38), (134, 2, 0, 32768, 0), (135, 8, 1, 0, 0), (136, 0, 0, 2, 0), (137, 2, 2, 33328, 560), (140, 0, 0, 2, 0), (141, 1, 274, 10, 38), (144, 12, 2, 0, 0), (145, 14, 277, 10, 312), (148, 10, 1, 0, 0)], 1, 0, 0, 12, 1)
def fm_25 : fx_M := ([(0, 2, 0, 32768, 0), (1, 11, 1, 0, 0), (2, 0, 1, 0, 0), (3, 2, 1, 32785, 17), (5, 3, 3, 21, 0), (8, 0, 0, 2, 0), (9, 1, 101, 10, 50), (12, 0, 1, 0, 0), (13, 2, 0, 32768, 0), (14, 8, 0, 0, 0), (15, 7, 1, 1, 0), (18, 5, 0, 2, 0), (21, 2, 0, 32768, 0), (22, 11, 1, 0, 0), (23, 0, 1, 0, 0), (24, 2, 1, 32775, 7), (26, 3, 3, 45, 0), (29, 0, 0, 2, 0), (30, 1, 101, 10, 50), (33, 2, 1, 32775, 7), (35, 0, 1, 0, 0), (36, 12, 0, 0, 0), (37, 2, 0, 32767, 4294967295), (38, 8, 0, 0, 0), (39, 7, 1, 1, 0), (42, 5, 0, 23, 0), (45, 2, 0, 32768, 0), (46, 11, 1, 0, 0), (47, 0, 1, 0, 0), (48, 0, 0, 2, 0), (49, 9, 0, 391, 26), (52, 3, 3, 106, 0), (55, 0, 0, 2, 0), (56, 1, 101, 10, 50), (59, 2, 0, 32768, 0), (60, 0, 1, 0, 0), (61, 12, 0, 0, 0), (62, 0, 0, 2, 0), (63, 1, 54, 10, 22), (66, 2, 1, 32775, 7), (68, 0, 0, 2, 0), (69, 1, 283, 10, 37), (72, 12, 2, 0, 0), (73, 0, 1, 0, 0), (74, 12, 0, 0, 0), (75, 6, 0, 0, 0), (76, 8, 0, 0, 0), (77, 0, 0, 2, 0), (78, 1, 101, 10, 50), (81, 2, 1, 32775, 7), (83, 0, 1, 0, 0), (84, 12, 0, 0, 0), (85, 0, 0, 2, 0), (86, 1, 60, 10, 24), (89, 2, 1, 32775, 7), (91, 0, 0, 2, 0), (92, 1, 283, 10, 37), (95, 12, 2, 0, 0), (96, 0, 1, 0, 0), (97, 12, 0, 0, 0), (98, 6, 0, 0, 0), (99, 8, 0, 0, 0), (100, 7, 1, 1, 0), (103, 5, 0, 47, 0), (106, 0, 0, 2, 0), (107, 1, 101, 10, 50), (110, 2, 1, 32784, 16), (112, 0, 0, 2, 0), (113, 1, 45, 10, 19), (116, 0, 0, 2, 0), (117, 1, 283, 10, 37), (120, 6, 0, 0, 0), (121, 8, 0, 0, 0), (122, 0, 0, 2, 0), (123, 2, 0, 32768, 0), (124, 14, 401, 10, 424), (127, 0, 0, 2, 0), (128, 2, 0, 32768, 0), (129, 14, 404, 10, 432), (132, 0, 0, 2, 0), (133, 2, 0, 32768, 0), (134, 14, 407, 10, 552), (137, 0, 0, 2, 0), (138, 2, 0, 32768, 0), (139, 14, 410, 10, 456), (142, 2, 0, 32768, 0), (143, 11, 1, 0, 0), (144, 0, 1, 0, 0), (145, 2, 0, 32771, 3), (146, 3, 3, 162, 0), (149, 0, 0, 2, 0), (150, 1, 152, 10, 72), (153, 0, 1, 0, 0), (154, 2, 0, 32768, 0), (155, 8, 1, 0, 0), (156, 7, 1, 1, 0), (159, 5, 0, 144, 0), (162, 10, 1, 0, 0)], 1, 0, 0, 12, 2)
def fm_26 : fx_M := ([(0, 0, 0, 2, 0), (1, 1, 33, 10, 15), (4, 0, 0, 2, 0), (5, 1, 283, 10, 37), (8, 6, 0, 0, 0), (9, 10, 0, 1, 0)], 1, 0, 0, 12, 1)
def fm_27 : fx_M := ([(0, 0, 0, 2, 0), (1, 1, 10, 9, 0), (4, 1, 93, 4, 0), (7, 11, 6, 3, 0), (9, 0, 6, 3, 0), (11, 1, 97, 7, 3), (14, 2, 2, 34348, 1580), (17, 3, 5, 22, 0), (20, 2, 0, 32767, 4294967295), (21, 10, 0, 1, 0), (22, 0, 6, 3, 0), (24, 0, 1, 0, 0), (25, 9, 0, 102, 117), (28, 0, 6, 3, 0), (30, 0, 2, 0, 0), (31, 9, 0, 102, 117), (34, 0, 6, 3, 0), (36, 0, 3, 0, 0), (37, 9, 0, 102, 117), (40, 0, 6, 3, 0), (42, 0, 4, 1, 0), (44, 9, 0, 102, 117), (47, 0, 6, 3, 0), (49, 0, 5, 1, 0), (51, 9, 0, 102, 117), (54, 0, 6, 3, 0), (56, 1, 97, 7, 3), (59, 10, 0, 1, 0)], 6, 0, 0, 11, 7)
def fm_28 : fx_M := ([(0, 0, 0, 2, 0), (1, 1, 280, 10, 2), (4, 2, 1, 32788, 20), (6, 12, 0, 0, 0), (7, 2, 2, 34368, 1600), (10, 3, 5, 15, 0), (13, 2, 0, 32767, 4294967295), (14, 10, 0, 1, 0), (15, 2, 0, 32768, 0), (16, 11, 6, 1, 0), (18, 0, 6, 1, 0), (20, 2, 1, 32788, 20), (22, 3, 3, 105, 0), (25, 0, 6, 1, 0), (27, 2, 0, 32772, 4), (28, 3, 3, 35, 0), (31, 0, 1, 0, 0), (32, 5, 0, 71, 0), (35, 0, 6, 1, 0), (37, 2, 1, 32776, 8), (39, 3, 3, 46, 0), (42, 0, 2, 0, 0), (43, 5, 0, 71, 0), (46, 0, 6, 1, 0), (48, 2, 1, 32780, 12), (50, 3, 3, 57, 0), (53, 0, 3, 0, 0), (54, 5, 0, 71, 0), (57, 0, 6, 1, 0), (59, 2, 1, 32784, 16), (61, 3, 3, 69, 0), (64, 0, 4, 1, 0), (66, 5, 0, 71, 0), (69, 0, 5, 1, 0), (71, 11, 7, 1, 0), (73, 0, 0, 2, 0), (74, 1, 7, 10, 0), (77, 0, 0, 2, 0), (78, 1, 280, 10, 2), (81, 0, 6, 1, 0), (83, 12, 0, 0, 0), (84, 0, 7, 1, 0), (86, 2, 1, 32792, 24), (88, 2, 1, 32776, 8), (90, 0, 6, 1, 0), (92, 2, 0, 32771, 3), (93, 12, 5, 0, 0), (94, 12, 2, 0, 0), (95, 12, 1, 0, 0), (96, 12, 9, 0, 0), (97, 13, 1, 0, 0), (98, 8, 1, 0, 0), (99, 7, 6, 1, 0), (102, 5, 0, 18, 0), (105, 0, 0, 2, 0), (106, 15, 0, 0, 0), (107, 1, 280, 10, 2), (110, 2, 1, 32788, 20), (112, 12, 0, 0, 0), (113, 14, 280, 10, 16), (116, 0, 0, 2, 0), (117, 1, 280, 10, 2), (120, 10, 0, 1, 0)], 6, 0, 0, 12, 8)
def fm_29 : fx_M := ([(0, 0, 1, 0, 0), (1, 4, 2, 18, 0), (4, 0, 1, 0, 0), (5, 0, 0, 2, 0), (6, 1, 10, 9, 0), (9, 1, 93, 4, 0), (12, 1, 97, 7, 3), (15, 3, 5, 20, 0), (18, 2, 0, 32767, 4294967295), (19, 10, 0, 1, 0), (20, 0, 0, 2, 0), (21, 1, 10, 9, 0), (24, 1, 93, 4, 0), (27, 0, 1, 0, 0), (28, 14, 97, 7, 24), (31, 0, 1, 0, 0), (32, 10, 0, 1, 0)], 2, 0, 0, 11, 2)
def fm_30 : fx_M := ([(0, 0, 1, 0, 0), (1, 4, 2, 12, 0), (4, 0, 1, 0, 0), (5, 0, 0, 2, 0), (6, 1, 280, 10, 2), (9, 3, 5, 14, 0), (12, 2, 0, 32767, 4294967295), (13, 10, 0, 1, 0), (14, 0, 0, 2, 0), (15, 0, 1, 0, 0), (16, 14, 280, 10, 16), (19, 0, 1, 0, 0), (20, 10, 0, 1, 0)], 2, 0, 0, 12, 2)
def fm_31 : fx_M := ([(0, 0, 0, 2, 0), (1, 1, 10, 9, 0), (4, 9, 0, 105, 118), (7, 0, 0, 2, 0), (8, 0, 0, 2, 0), (9, 1, 10, 9, 0), (12, 1, 108, 4, 2), (15, 14, 80, 9, 104), (18, 0, 0, 2, 0), (19, 0, 0, 2, 0), (20, 1, 10, 9, 0), (23, 1, 111, 4, 3), (26, 14, 83, 9, 112), (29, 0, 0, 2, 0), (30, 1, 80, 9, 13), (33, 4, 0, 38, 0), (36, 2, 0, 32767, 4294967295), (37, 10, 0, 1, 0), (38, 0, 0, 2, 0), (39, 1, 10, 9, 0), (42, 1, 112, 4, 1), (45, 11, 1, 2, 0), (46, 0, 0, 2, 0), (47, 1, 10, 9, 0), (50, 0, 0, 2, 0), (51, 1, 19, 9, 1), (54, 14, 112, 4, 12), (57, 0, 0, 2, 0), (58, 0, 1, 2, 0), (59, 14, 19, 9, 12), (62, 0, 0, 2, 0), (63, 1, 10, 9, 0), (66, 1, 93, 4, 0), (69, 2, 0, 32768, 0), (70, 14, 97, 7, 24), (73, 0, 0, 2, 0), (74, 1, 26, 9, 2), (77, 0, 0, 2, 0), (78, 1, 19, 9, 1), (81, 9, 0, 89, 22), (84, 0, 0, 2, 0), (85, 1, 33, 9, 3), (88, 9, 0, 113, 119), (91, 0, 0, 2, 0), (92, 1, 40, 9, 4), (95, 9, 0, 116, 120), (98, 0, 0, 2, 0), (99, 1, 49, 9, 5), (102, 9, 0, 119, 121), (105, 0, 0, 2, 0), (106, 1, 56, 9, 6), (109, 9, 0, 120, 122), (112, 0, 0, 2, 0), (113, 2, 0, 32768, 0), (114, 14, 73, 9, 88), (117, 0, 0, 2, 0), (118, 1, 19, 9, 1), (121, 1, 121, 3, 12), (124, 10, 0, 1, 0)], 1, 0, 0, 11, 2)
def fm_32 : fx_M := ([(0, 0, 0, 2, 0), (1, 2, 0, 32768, 0), (2, 14, 164, 10, 32), (5, 0, 0, 2, 0), (6, 2, 0, 32767, 4294967295), (7, 14, 16, 10, 40), (10, 0, 0, 2, 0), (11, 0, 0, 2, 0), (12, 1, 280, 10, 2), (15, 14, 161, 10, 24), (18, 2, 0, 32768, 0), (19, 11, 1, 0, 0), (20, 0, 1, 0, 0), (21, 0, 0, 2, 0), (22, 1, 161, 10, 3), (25, 3, 3, 46, 0), (28, 0, 0, 2, 0), (29, 1, 13, 10, 1), (32, 0, 1, 0, 0), (33, 0, 0, 2, 0), (34, 1, 7, 10, 0), (37, 0, 1, 0, 0), (38, 6, 1, 0, 0), (39, 8, 1, 0, 0), (40, 7, 1, 1, 0), (43, 5, 0, 20, 0), (46, 0, 0, 2, 0), (47, 2, 0, 32768, 0), (48, 14, 280, 10, 16), (51, 0, 0, 2, 0), (52, 2, 0, 32768, 0), (53, 14, 215, 10, 56), (56, 0, 0, 2, 0), (57, 2, 0, 32769, 1), (58, 0, 0, 2, 0), (59, 1, 283, 10, 37), (62, 12, 1, 0, 0), (63, 14, 274, 10, 304), (66, 0, 0, 2, 0), (67, 9, 0, 155, 24), (70, 0, 0, 2, 0), (71, 9, 0, 257, 123), (74, 0, 0, 2, 0), (75, 9, 0, 253, 124), (78, 4, 0, 95, 0), (81, 0, 0, 2, 0), (82, 1, 225, 10, 8), (85, 4, 0, 95, 0), (88, 0, 0, 2, 0), (89, 9, 0, 286, 125), (92, 5, 0, 74, 0), (95, 0, 0, 2, 0), (96, 9, 0, 253, 124), (99, 4, 1, 104, 0), (102, 2, 0, 32767, 4294967295), (103, 10, 0, 1, 0), (104, 0, 0, 2, 0), (105, 0, 0, 2, 0), (106, 1, 274, 10, 38), (109, 14, 283, 10, 296), (112, 0, 0, 2, 0), (113, 9, 0, 158, 25), (116, 0, 0, 2, 0), (117, 1, 33, 10, 15), (120, 0, 0, 2, 0), (121, 1, 283, 10, 37), (124, 6, 0, 0, 0), (125, 10, 0, 1, 0)], 1, 0, 0, 12, 2)
def fm_33 : fx_M := ([(0, 0, 1, 0, 0), (1, 21, 38, 0, 1), (28, 0, 0, 2, 0), (29, 1, 80, 9, 13), (32, 10, 0, 1, 0), (33, 0, 0, 2, 0), (34, 1, 83, 9, 14), (37, 10, 0, 1, 0), (38, 2, 0, 32767, 4294967295), (39, 10, 0, 1, 0)], 2, 0, 0, 11, 2)
def fm_34 : fx_M := ([(0, 0, 1, 0, 0), (1, 4, 1, 11, 0), (4, 0, 0, 2, 0), (5, 1, 164, 10, 4), (8, 5, 0, 24, 0), (11, 0, 1, 0, 0), (12, 2, 0, 32769, 1), (13, 3, 1, 23, 0), (16, 0, 0, 2, 0), (17, 1, 16, 10, 5), (20, 5, 0, 24, 0), (23, 2, 0, 32767, 4294967295), (24, 10, 0, 1, 0)], 2, 0, 0, 12, 2)
def fm_35 : fx_M := ([(0, 0, 0, 2, 0), (1, 0, 1, 0, 0), (2, 9, 0, 124, 126), (5, 4, 1, 11, 0), (8, 2, 1, 32766, 4294967294), (10, 10, 0, 1, 0), (11, 0, 0, 2, 0), (12, 1, 33, 9, 3), (15, 0, 0, 2, 0), (16, 1, 19, 9, 1), (19, 0, 0, 2, 0), (20, 1, 26, 9, 2), (23, 9, 0, 128, 127), (26, 0, 2, 0, 0), (27, 20, 159, 0, 2), (68, 0, 0, 2, 0), (69, 1, 26, 9, 2), (72, 1, 131, 6, 0), (75, 0, 1, 0, 0), (76, 6, 0, 0, 0), (77, 10, 0, 1, 0), (78, 0, 0, 2, 0), (79, 1, 26, 9, 2), (82, 1, 134, 6, 1), (85, 0, 1, 0, 0), (86, 6, 0, 0, 0), (87, 10, 0, 1, 0), (88, 0, 0, 2, 0), (89, 1, 19, 9, 1), (92, 1, 137, 3, 3), (95, 0, 1, 0, 0), (96, 6, 0, 0, 0), (97, 10, 0, 1, 0), (98, 0, 0, 2, 0), (99, 1, 19, 9, 1), (102, 1, 140, 3, 5), (105, 0, 1, 0, 0), (106, 6, 0, 0, 0), (107, 10, 0, 1, 0), (108, 0, 0, 2, 0), (109, 1, 33, 9, 3), (112, 1, 143, 8, 1), (115, 0, 1, 0, 0), (116, 6, 0, 0, 0), (117, 10, 0, 1, 0), (118, 0, 0, 2, 0), (119, 1, 26, 9, 2), (122, 0, 0, 2, 0), (123, 1, 33, 9, 3), (126, 1, 143, 8, 1), (129, 0, 1, 0, 0), (130, 6, 0, 0, 0), (131, 9, 0, 146, 128), (134, 10, 0, 1, 0), (135, 0, 0, 2, 0), (136, 1, 33, 9, 3), (139, 0, 0, 2, 0), (140, 1, 26, 9, 2), (143, 1, 134, 6, 1), (146, 0, 1, 0, 0), (147, 6, 0, 0, 0), (148, 0, 0, 2, 0), (149, 1, 26, 9, 2), (152, 1, 150, 6, 3), (155, 9, 0, 153, 129), (158, 10, 0, 1, 0), (159, 2, 1, 32766, 4294967294), (161, 10, 0, 1, 0)], 3, 0, 0, 11, 3)
def fm_36 : fx_M := ([(0, 0, 0, 2, 0), (1, 0, 1, 0, 0), (2, 9, 0, 444, 130), (5, 4, 1, 11, 0), (8, 2, 1, 32766, 4294967294), (10, 10, 0, 1, 0), (11, 0, 2, 0, 0), (12, 20, 135, 0, 3), (56, 0, 0, 2, 0), (57, 1, 101, 10, 50), (60, 2, 0, 32768, 0), (61, 0, 1, 0, 0), (62, 12, 0, 0, 0), (63, 6, 0, 0, 0), (64, 10, 0, 1, 0), (65, 0, 0, 2, 0), (66, 1, 101, 10, 50), (69, 2, 1, 32775, 7), (71, 0, 1, 0, 0), (72, 12, 0, 0, 0), (73, 6, 0, 0, 0), (74, 10, 0, 1, 0), (75, 0, 0, 2, 0), (76, 1, 51, 10, 21), (79, 2, 1, 32775, 7), (81, 0, 0, 2, 0), (82, 1, 283, 10, 37), (85, 12, 2, 0, 0), (86, 0, 1, 0, 0), (87, 12, 0, 0, 0), (88, 6, 0, 0, 0), (89, 10, 0, 1, 0), (90, 0, 0, 2, 0), (91, 1, 57, 10, 23), (94, 2, 1, 32775, 7), (96, 0, 0, 2, 0), (97, 1, 283, 10, 37), (100, 12, 2, 0, 0), (101, 0, 1, 0, 0), (102, 12, 0, 0, 0), (103, 6, 0, 0, 0), (104, 10, 0, 1, 0), (105, 0, 0, 2, 0), (106, 0, 1, 0, 0), (107, 9, 0, 429, 131), (110, 10, 0, 1, 0), (111, 0, 0, 2, 0), (112, 0, 0, 2, 0), (113, 0, 1, 0, 0), (114, 9, 0, 429, 131), (117, 9, 0, 432, 132), (120, 10, 0, 1, 0), (121, 0, 0, 2, 0), (122, 0, 0, 2, 0), (123, 1, 101, 10, 50), (126, 2, 1, 32775, 7), (128, 0, 1, 0, 0), (129, 12, 0, 0, 0), (130, 6, 0, 0, 0), (131, 9, 0, 426, 133), (134, 10, 0, 1, 0), (135, 2, 1, 32766, 4294967294), (137, 10, 0, 1, 0)], 3, 0, 0, 12, 3)
def fm_37 : fx_M := ([(0, 0, 1, 0, 0), (1, 4, 2, 15, 0), (4, 0, 1, 0, 0), (5, 0, 0, 2, 0), (6, 1, 19, 9, 1), (9, 1, 157, 3, 11), (12, 3, 2, 17, 0), (15, 2, 0, 32767, 4294967295), (16, 10, 0, 1, 0), (17, 0, 2, 0, 0), (18, 20, 96, 0, 4), (48, 0, 0, 2, 0), (49, 1, 19, 9, 1), (52, 1, 160, 3, 1), (55, 0, 1, 0, 0), (56, 6, 0, 0, 0), (57, 10, 0, 1, 0), (58, 0, 0, 2, 0), (59, 1, 19, 9, 1), (62, 0, 1, 0, 0), (63, 9, 0, 163, 134), (66, 10, 0, 1, 0), (67, 0, 0, 2, 0), (68, 1, 26, 9, 2), (71, 0, 0, 2, 0), (72, 1, 19, 9, 1), (75, 0, 1, 0, 0), (76, 9, 0, 163, 134), (79, 9, 0, 146, 128), (82, 10, 0, 1, 0), (83, 0, 0, 2, 0), (84, 1, 19, 9, 1), (87, 0, 1, 0, 0), (88, 0, 0, 2, 0), (89, 1, 26, 9, 2), (92, 9, 0, 166, 135), (95, 10, 0, 1, 0), (96, 2, 0, 32767, 4294967295), (97, 10, 0, 1, 0)], 3, 0, 0, 11, 3)
def fm_38 : fx_M := ([(0, 0, 1, 0, 0), (1, 2, 0, 32768, 0), (2, 0, 0, 2, 0), (3, 1, 30, 10, 14), (6, 0, 0, 2, 0), (7, 1, 283, 10, 37), (10, 6, 0, 0, 0), (11, 2, 0, 32769, 1), (12, 12, 1, 0, 0), (13, 9, 2, 394, 136), (16, 4, 1, 21, 0), (19, 2, 0, 32767, 4294967295), (20, 10, 0, 1, 0), (21, 0, 2, 0, 0), (22, 20, 88, 0, 5), (52, 0, 0, 2, 0), (53, 1, 48, 10, 20), (56, 2, 0, 32772, 4), (57, 0, 0, 2, 0), (58, 1, 283, 10, 37), (61, 12, 2, 0, 0), (62, 0, 1, 0, 0), (63, 12, 0, 0, 0), (64, 6, 0, 0, 0), (65, 10, 0, 1, 0), (66, 0, 0, 2, 0), (67, 0, 1, 0, 0), (68, 9, 0, 447, 137), (71, 10, 0, 1, 0), (72, 0, 0, 2, 0), (73, 0, 0, 2, 0), (74, 0, 1, 0, 0), (75, 9, 0, 447, 137), (78, 9, 0, 432, 132), (81, 10, 0, 1, 0), (82, 0, 0, 2, 0), (83, 0, 1, 0, 0), (84, 9, 0, 450, 138), (87, 10, 0, 1, 0), (88, 2, 0, 32767, 4294967295), (89, 10, 0, 1, 0)], 3, 0, 0, 12, 3)
def fm_39 : fx_M := ([(0, 0, 0, 2, 0), (1, 0, 1, 0, 0), (2, 9, 0, 170, 139), (5, 4, 1, 11, 0), (8, 2, 1, 32766, 4294967294), (10, 10, 0, 1, 0), (11, 0, 2, 0, 0), (12, 21, 80, 0, 6), (40, 0, 0, 2, 0), (41, 1, 26, 9, 2), (44, 0, 1, 0, 0), (45, 9, 0, 173, 140), (48, 10, 0, 1, 0), (49, 0, 0, 2, 0), (50, 1, 33, 9, 3), (53, 0, 0, 2, 0), (54, 1, 19, 9, 1), (57, 0, 0, 2, 0), (58, 1, 26, 9, 2), (61, 9, 0, 128, 127), (64, 0, 0, 2, 0), (65, 1, 33, 9, 3), (68, 0, 1, 0, 0), (69, 0, 0, 2, 0), (70, 1, 26, 9, 2), (73, 1, 150, 6, 3), (76, 9, 0, 153, 129), (79, 10, 0, 1, 0), (80, 2, 1, 32766, 4294967294), (82, 10, 0, 1, 0)], 3, 0, 0, 11, 3)
def fm_40 : fx_M := ([(0, 0, 0, 2, 0), (1, 0, 1, 0, 0), (2, 9, 0, 453, 141), (5, 4, 1, 11, 0), (8, 2, 1, 32766, 4294967294), (10, 10, 0, 1, 0), (11, 0, 2, 0, 0), (12, 21, 52, 0, 7), (40, 0, 0, 2, 0), (41, 0, 1, 0, 0), (42, 9, 0, 456, 142), (45, 10, 0, 1, 0), (46, 0, 0, 2, 0), (47, 0, 1, 0, 0), (48, 9, 0, 426, 133), (51, 10, 0, 1, 0), (52, 2, 1, 32766, 4294967294), (54, 10, 0, 1, 0)], 3, 0, 0, 12, 3)
def fm_41 : fx_M := ([(0, 0, 0, 2, 0), (1, 1, 26, 9, 2), (4, 9, 0, 176, 143), (7, 10, 0, 1, 0)], 1, 0, 0, 11, 1)
def fm_42 : fx_M := ([(0, 0, 0, 2, 0), (1, 9, 0, 462, 144), (4, 10, 0, 1, 0)], 1, 0, 0, 12, 1)
def fm_43 : fx_M := ([(0, 0, 0, 2, 0), (1, 1, 19, 9, 1), (4, 0, 0, 2, 0), (5, 1, 26, 9, 2), (8, 9, 0, 180, 145), (11, 10, 0, 1, 0)], 1, 0, 0, 11, 1)
def fm_44 : fx_M := ([(0, 0, 0, 2, 0), (1, 9, 0, 465, 146), (4, 10, 0, 1, 0)], 1, 0, 0, 12, 1)
def fm_45 : fx_M := ([(0, 0, 0, 2, 0), (1, 1, 26, 9, 2), (4, 1, 150, 6, 3), (7, 2, 2, 33767, 999), (10, 3, 2, 15, 0), (13, 2, 0, 32767, 4294967295), (14, 10, 0, 1, 0), (15, 0, 0, 2, 0), (16, 1, 40, 9, 4), (19, 0, 0, 2, 0), (20, 1, 26, 9, 2), (23, 9, 0, 184, 147), (26, 0, 0, 2, 0), (27, 1, 33, 9, 3), (30, 0, 0, 2, 0), (31, 1, 19, 9, 1), (34, 0, 0, 2, 0), (35, 1, 26, 9, 2), (38, 9, 0, 128, 127), (41, 0, 0, 2, 0), (42, 1, 33, 9, 3), (45, 9, 0, 188, 148), (48, 15, 1, 0, 0), (49, 0, 0, 2, 0), (50, 1, 33, 9, 3), (53, 9, 0, 191, 149), (56, 11, 1, 0, 0), (57, 0, 0, 2, 0), (58, 1, 26, 9, 2), (61, 0, 0, 2, 0), (62, 1, 33, 9, 3), (65, 1, 194, 8, 0), (68, 9, 0, 197, 150), (71, 0, 1, 0, 0), (72, 10, 0, 1, 0)], 1, 0, 0, 11, 2)
def fm_46 : fx_M := ([(0, 0, 0, 2, 0), (1, 1, 101, 10, 50), (4, 2, 1, 32783, 15), (6, 6, 0, 0, 0), (7, 2, 2, 33767, 999), (10, 3, 1, 15, 0), (13, 2, 0, 32767, 4294967295), (14, 10, 0, 1, 0), (15, 0, 0, 2, 0), (16, 9, 0, 468, 151), (19, 0, 0, 2, 0), (20, 9, 0, 471, 152), (23, 10, 0, 1, 0)], 1, 0, 0, 12, 1)
def fm_47 : fx_M := ([(0, 0, 1, 0, 0), (1, 2, 1, 32777, 9), (3, 9, 2, 200, 153), (6, 4, 0, 20, 0), (9, 0, 1, 0, 0), (10, 0, 0, 2, 0), (11, 1, 26, 9, 2), (14, 1, 204, 6, 2), (17, 3, 1, 22, 0), (20, 2, 0, 32767, 4294967295), (21, 10, 0, 1, 0), (22, 0, 0, 2, 0), (23, 1, 40, 9, 4), (26, 0, 0, 2, 0), (27, 1, 26, 9, 2), (30, 9, 0, 184, 147), (33, 0, 0, 2, 0), (34, 1, 26, 9, 2), (37, 1, 204, 6, 2), (40, 11, 2, 0, 0), (41, 0, 0, 2, 0), (42, 1, 26, 9, 2), (45, 0, 1, 0, 0), (46, 14, 204, 6, 16), (49, 0, 2, 0, 0), (50, 10, 0, 1, 0)], 2, 0, 0, 11, 3)
def fm_48 : fx_M := ([(0, 0, 1, 0, 0), (1, 9, 2, 474, 154), (4, 4, 0, 18, 0), (7, 0, 0, 2, 0), (8, 1, 101, 10, 50), (11, 2, 1, 32782, 14), (13, 6, 0, 0, 0), (14, 0, 1, 0, 0), (15, 3, 1, 20, 0), (18, 2, 0, 32767, 4294967295), (19, 10, 0, 1, 0), (20, 0, 0, 2, 0), (21, 9, 0, 468, 151), (24, 0, 0, 2, 0), (25, 1, 101, 10, 50), (28, 2, 1, 32782, 14), (30, 6, 0, 0, 0), (31, 11, 2, 0, 0), (32, 0, 0, 2, 0), (33, 1, 101, 10, 50), (36, 2, 1, 32782, 14), (38, 0, 1, 0, 0), (39, 8, 0, 0, 0), (40, 0, 2, 0, 0), (41, 10, 0, 1, 0)], 2, 0, 0, 12, 3)
def fm_49 : fx_M := ([(0, 0, 0, 2, 0), (1, 0, 1, 0, 0), (2, 9, 0, 124, 126), (5, 4, 0, 28, 0), (8, 0, 0, 2, 0), (9, 0, 2, 0, 0), (10, 9, 0, 170, 139), (13, 4, 0, 28, 0), (16, 0, 0, 2, 0), (17, 1, 26, 9, 2), (20, 0, 2, 0, 0), (21, 9, 0, 173, 140), (24, 2, 0, 32767, 4294967295), (25, 3, 0, 30, 0), (28, 2, 0, 32767, 4294967295), (29, 10, 0, 1, 0), (30, 0, 0, 2, 0), (31, 1, 40, 9, 4), (34, 0, 0, 2, 0), (35, 1, 26, 9, 2), (38, 9, 0, 184, 147), (41, 0, 0, 2, 0), (42, 1, 26, 9, 2), (45, 1, 134, 6, 1), (48, 0, 1, 0, 0), (49, 6, 0, 0, 0), (50, 11, 3, 0, 0), (51, 0, 0, 2, 0), (52, 1, 26, 9, 2), (55, 1, 134, 6, 1), (58, 0, 1, 0, 0), (59, 0, 2, 0, 0), (60, 8, 0, 0, 0), (61, 0, 3, 0, 0), (62, 2, 0, 32767, 4294967295), (63, 3, 1, 71, 0), (66, 2, 1, 32766, 4294967294), (68, 5, 0, 72, 0), (71, 0, 3, 0, 0), (72, 10, 0, 1, 0)], 3, 0, 0, 11, 4)
def fm_50 : fx_M := ([(0, 0, 0, 2, 0), (1, 0, 1, 0, 0), (2, 9, 0, 444, 130), (5, 4, 0, 24, 0), (8, 0, 0, 2, 0), (9, 0, 2, 0, 0), (10, 9, 0, 453, 141), (13, 4, 0, 24, 0), (16, 0, 0, 2, 0), (17, 0, 2, 0, 0), (18, 9, 0, 456, 142), (21, 4, 2, 26, 0), (24, 2, 0, 32767, 4294967295), (25, 10, 0, 1, 0), (26, 0, 0, 2, 0), (27, 9, 0, 468, 151), (30, 0, 0, 2, 0), (31, 1, 101, 10, 50), (34, 2, 1, 32775, 7), (36, 0, 1, 0, 0), (37, 12, 0, 0, 0), (38, 6, 0, 0, 0), (39, 11, 3, 0, 0), (40, 0, 0, 2, 0), (41, 1, 101, 10, 50), (44, 2, 1, 32775, 7), (46, 0, 1, 0, 0), (47, 12, 0, 0, 0), (48, 0, 2, 0, 0), (49, 8, 0, 0, 0), (50, 0, 3, 0, 0), (51, 4, 3, 59, 0), (54, 2, 1, 32766, 4294967294), (56, 5, 0, 60, 0), (59, 0, 3, 0, 0), (60, 10, 0, 1, 0)], 3, 0, 0, 12, 4)
def fm_51 : fx_M := ([(0, 0, 0, 2, 0), (1, 0, 1, 0, 0), (2, 0, 2, 0, 0), (3, 9, 0, 207, 155), (6, 4, 1, 11, 0), (9, 2, 0, 32768, 0), (10, 10, 0, 2, 0), (11, 0, 0, 2, 0), (12, 1, 40, 9, 4), (15, 0, 0, 2, 0), (16, 1, 26, 9, 2), (19, 9, 0, 184, 147), (22, 0, 0, 2, 0), (23, 1, 26, 9, 2), (26, 0, 1, 0, 0), (27, 0, 2, 0, 0), (28, 9, 0, 210, 156), (31, 2, 0, 32769, 1), (32, 10, 0, 2, 0)], 3, 0, 0, 11, 3)
def fm_52 : fx_M := ([(0, 0, 0, 2, 0), (1, 0, 1, 0, 0), (2, 0, 2, 0, 0), (3, 9, 0, 477, 157), (6, 4, 1, 11, 0), (9, 2, 0, 32768, 0), (10, 10, 0, 2, 0), (11, 0, 0, 2, 0), (12, 9, 0, 468, 151), (15, 0, 0, 2, 0), (16, 0, 1, 0, 0), (17, 0, 2, 0, 0), (18, 9, 0, 480, 158), (21, 2, 0, 32769, 1), (22, 10, 0, 2, 0)], 3, 0, 0, 12, 3)
def fm_53 : fx_M := ([(0, 0, 0, 2, 0), (1, 0, 1, 0, 0), (2, 9, 0, 214, 159), (5, 4, 1, 10, 0), (8, 2, 0, 32767, 4294967295), (9, 10, 0, 1, 0), (10, 0, 0, 2, 0), (11, 1, 40, 9, 4), (14, 0, 0, 2, 0), (15, 1, 26, 9, 2), (18, 9, 0, 184, 147), (21, 0, 0, 2, 0), (22, 1, 26, 9, 2), (25, 1, 134, 6, 1), (28, 0, 1, 0, 0), (29, 6, 0, 0, 0), (30, 11, 2, 0, 0), (31, 0, 0, 2, 0), (32, 1, 26, 9, 2), (35, 1, 134, 6, 1), (38, 0, 1, 0, 0), (39, 2, 0, 32767, 4294967295), (40, 8, 0, 0, 0), (41, 0, 2, 0, 0), (42, 10, 0, 1, 0)], 2, 0, 0, 11, 3)
def fm_54 : fx_M := ([(0, 0, 0, 2, 0), (1, 0, 1, 0, 0), (2, 9, 0, 444, 130), (5, 4, 0, 20, 0), (8, 0, 0, 2, 0), (9, 1, 101, 10, 50), (12, 2, 1, 32775, 7), (14, 0, 1, 0, 0), (15, 12, 0, 0, 0), (16, 6, 0, 0, 0), (17, 4, 3, 22, 0), (20, 2, 0, 32767, 4294967295), (21, 10, 0, 1, 0), (22, 0, 0, 2, 0), (23, 9, 0, 468, 151), (26, 0, 0, 2, 0), (27, 1, 101, 10, 50), (30, 2, 1, 32775, 7), (32, 0, 1, 0, 0), (33, 12, 0, 0, 0), (34, 6, 0, 0, 0), (35, 11, 2, 0, 0), (36, 0, 0, 2, 0), (37, 1, 101, 10, 50), (40, 2, 1, 32775, 7), (42, 0, 1, 0, 0), (43, 12, 0, 0, 0), (44, 2, 0, 32767, 4294967295), (45, 8, 0, 0, 0), (46, 0, 2, 0, 0), (47, 10, 0, 1, 0)], 2, 0, 0, 12, 3)
def fm_55 : fx_M := ([(0, 0, 0, 2, 0), (1, 1, 40, 9, 4), (4, 0, 0, 2, 0), (5, 1, 26, 9, 2), (8, 9, 0, 217, 160), (11, 10, 0, 2, 0)], 1, 0, 0, 11, 1)
def fm_56 : fx_M := ([(0, 0, 0, 2, 0), (1, 1, 401, 10, 53), (4, 4, 1, 9, 0), (7, 2, 0, 32768, 0), (8, 10, 0, 2, 0), (9, 0, 0, 2, 0), (10, 15, 0, 0, 0), (11, 1, 401, 10, 53), (14, 2, 0, 32769, 1), (15, 12, 1, 0, 0), (16, 14, 401, 10, 424), (19, 0, 0, 2, 0), (20, 15, 0, 0, 0), (21, 1, 404, 10, 54), (24, 2, 0, 32769, 1), (25, 12, 0, 0, 0), (26, 14, 404, 10, 432), (29, 0, 0, 2, 0), (30, 9, 0, 483, 161), (33, 2, 0, 32769, 1), (34, 10, 0, 2, 0)], 1, 0, 0, 12, 1)
def fm_57 : fx_M := ([(0, 0, 0, 2, 0), (1, 1, 40, 9, 4), (4, 0, 0, 2, 0), (5, 1, 26, 9, 2), (8, 9, 0, 221, 162), (11, 10, 0, 2, 0)], 1, 0, 0, 11, 1)
def fm_58 : fx_M := ([(0, 0, 0, 2, 0), (1, 1, 404, 10, 54), (4, 4, 1, 9, 0), (7, 2, 0, 32768, 0), (8, 10, 0, 2, 0), (9, 0, 0, 2, 0), (10, 9, 0, 483, 161), (13, 0, 0, 2, 0), (14, 15, 0, 0, 0), (15, 1, 401, 10, 53), (18, 2, 0, 32769, 1), (19, 12, 0, 0, 0), (20, 14, 401, 10, 424), (23, 0, 0, 2, 0), (24, 15, 0, 0, 0), (25, 1, 404, 10, 54), (28, 2, 0, 32769, 1), (29, 12, 1, 0, 0), (30, 14, 404, 10, 432), (33, 2, 0, 32769, 1), (34, 10, 0, 2, 0)], 1, 0, 0, 12, 1)
def fm_59 : fx_M := ([(0, 0, 0, 2, 0), (1, 0, 1, 0, 0), (2, 9, 0, 124, 126), (5, 4, 0, 15, 0), (8, 0, 2, 0, 0), (9, 9, 2, 224, 163), (12, 4, 1, 17, 0), (15, 2, 0, 32767, 4294967295), (16, 10, 0, 1, 0), (17, 0, 0, 2, 0), (18, 1, 33, 9, 3), (21, 0, 0, 2, 0), (22, 1, 19, 9, 1), (25, 0, 0, 2, 0), (26, 1, 26, 9, 2), (29, 9, 0, 128, 127), (32, 2, 0, 32767, 4294967295), (33, 11, 3, 0, 0), (34, 2, 0, 32768, 0), (35, 11, 4, 1, 0), (37, 2, 0, 32768, 0), (38, 11, 5, 1, 0), (40, 0, 5, 1, 0), (42, 2, 1, 32777, 9), (44, 3, 4, 102, 0), (47, 0, 0, 2, 0), (48, 1, 33, 9, 3), (51, 1, 194, 8, 0), (54, 1, 131, 6, 0), (57, 0, 1, 0, 0), (58, 0, 5, 1, 0), (60, 8, 0, 0, 0), (61, 0, 0, 2, 0), (62, 1, 19, 9, 1), (65, 0, 0, 2, 0), (66, 1, 33, 9, 3), (69, 1, 194, 8, 0), (72, 9, 0, 180, 145), (75, 11, 6, 1, 0), (77, 0, 3, 0, 0), (78, 2, 0, 32767, 4294967295), (79, 3, 0, 89, 0), (82, 0, 6, 1, 0), (84, 0, 4, 1, 0), (86, 3, 3, 96, 0), (89, 0, 5, 1, 0), (91, 11, 3, 0, 0), (92, 0, 6, 1, 0), (94, 11, 4, 1, 0), (96, 7, 5, 1, 0), (99, 5, 0, 40, 0), (102, 0, 2, 0, 0), (103, 4, 1, 110, 0), (106, 0, 3, 0, 0), (107, 5, 0, 112, 0), (110, 0, 4, 1, 0), (112, 10, 0, 1, 0)], 3, 0, 0, 11, 7)
def fm_60 : fx_M := ([(0, 0, 0, 2, 0), (1, 0, 1, 0, 0), (2, 9, 0, 444, 130), (5, 4, 0, 17, 0), (8, 0, 2, 0, 0), (9, 2, 0, 32768, 0), (10, 2, 0, 32769, 1), (11, 9, 2, 394, 136), (14, 4, 1, 19, 0), (17, 2, 0, 32767, 4294967295), (18, 10, 0, 1, 0), (19, 2, 0, 32768, 0), (20, 11, 3, 0, 0), (21, 2, 0, 32769, 1), (22, 11, 4, 1, 0), (24, 0, 4, 1, 0), (26, 2, 1, 32777, 9), (28, 3, 4, 56, 0), (31, 0, 0, 2, 0), (32, 0, 1, 0, 0), (33, 0, 4, 1, 0), (35, 9, 0, 486, 164), (38, 0, 0, 2, 0), (39, 0, 1, 0, 0), (40, 0, 3, 0, 0), (41, 9, 0, 486, 164), (44, 3, 3, 50, 0), (47, 0, 4, 1, 0), (49, 11, 3, 0, 0), (50, 7, 4, 1, 0), (53, 5, 0, 24, 0), (56, 0, 2, 0, 0), (57, 4, 1, 64, 0), (60, 0, 3, 0, 0), (61, 5, 0, 70, 0), (64, 0, 0, 2, 0), (65, 0, 1, 0, 0), (66, 0, 3, 0, 0), (67, 9, 0, 486, 164), (70, 10, 0, 1, 0)], 3, 0, 0, 12, 5)
def fm_61 : fx_M := ([(0, 0, 1, 0, 0), (1, 2, 0, 32769, 1), (2, 3, 2, 23, 0), (5, 0, 1, 0, 0), (6, 0, 0, 2, 0), (7, 1, 19, 9, 1), (10, 1, 121, 3, 12), (13, 3, 4, 23, 0), (16, 0, 2, 0, 0), (17, 9, 2, 224, 163), (20, 4, 1, 25, 0), (23, 2, 0, 32767, 4294967295), (24, 10, 0, 1, 0), (25, 2, 0, 32767, 4294967295), (26, 11, 3, 0, 0), (27, 2, 0, 32769, 1), (28, 11, 4, 1, 0), (30, 0, 4, 1, 0), (32, 2, 0, 32769, 1), (33, 0, 0, 2, 0), (34, 1, 19, 9, 1), (37, 1, 121, 3, 12), (40, 12, 8, 0, 0), (41, 3, 3, 83, 0), (44, 0, 4, 1, 0), (46, 9, 2, 227, 165), (49, 0, 1, 0, 0), (50, 3, 1, 77, 0), (53, 0, 3, 0, 0), (54, 2, 0, 32767, 4294967295), (55, 3, 0, 74, 0), (58, 0, 0, 2, 0), (59, 0, 4, 1, 0), (61, 0, 1, 0, 0), (62, 9, 0, 232, 166), (65, 0, 0, 2, 0), (66, 0, 3, 0, 0), (67, 0, 1, 0, 0), (68, 9, 0, 232, 166), (71, 3, 3, 77, 0), (74, 0, 4, 1, 0), (76, 11, 3, 0, 0), (77, 7, 4, 1, 0), (80, 5, 0, 30, 0), (83, 0, 2, 0, 0), (84, 4, 1, 91, 0), (87, 0, 3, 0, 0), (88, 5, 0, 99, 0), (91, 0, 0, 2, 0), (92, 1, 26, 9, 2), (95, 0, 3, 0, 0), (96, 9, 0, 146, 128), (99, 10, 0, 1, 0)], 3, 0, 0, 11, 5)
def fm_62 : fx_M := ([(0, 0, 1, 0, 0), (1, 2, 0, 32769, 1), (2, 2, 1, 32775, 7), (4, 9, 2, 394, 136), (7, 4, 0, 27, 0), (10, 0, 1, 0, 0), (11, 0, 0, 2, 0), (12, 9, 0, 391, 26), (15, 3, 4, 27, 0), (18, 0, 2, 0, 0), (19, 2, 0, 32768, 0), (20, 2, 0, 32769, 1), (21, 9, 2, 394, 136), (24, 4, 1, 29, 0), (27, 2, 0, 32767, 4294967295), (28, 10, 0, 1, 0), (29, 2, 0, 32767, 4294967295), (30, 11, 3, 0, 0), (31, 2, 0, 32768, 0), (32, 11, 4, 1, 0), (34, 0, 4, 1, 0), (36, 0, 0, 2, 0), (37, 9, 0, 459, 167), (40, 3, 4, 79, 0), (43, 0, 4, 1, 0), (45, 9, 2, 435, 168), (48, 0, 1, 0, 0), (49, 3, 1, 73, 0), (52, 0, 3, 0, 0), (53, 4, 2, 70, 0), (56, 0, 0, 2, 0), (57, 0, 4, 1, 0), (59, 9, 0, 489, 169), (62, 0, 0, 2, 0), (63, 0, 3, 0, 0), (64, 9, 0, 489, 169), (67, 3, 3, 73, 0), (70, 0, 4, 1, 0), (72, 11, 3, 0, 0), (73, 7, 4, 1, 0), (76, 5, 0, 34, 0), (79, 0, 2, 0, 0), (80, 4, 1, 87, 0), (83, 0, 3, 0, 0), (84, 5, 0, 92, 0), (87, 0, 0, 2, 0), (88, 0, 3, 0, 0), (89, 9, 0, 432, 132), (92, 10, 0, 1, 0)], 3, 0, 0, 12, 5)
def fm_63 : fx_M := ([(0, 0, 1, 0, 0), (1, 2, 0, 32769, 1), (2, 3, 2, 11, 0), (5, 0, 1, 0, 0), (6, 2, 1, 32775, 7), (8, 3, 5, 13, 0), (11, 2, 0, 32767, 4294967295), (12, 10, 0, 1, 0), (13, 2, 0, 32768, 0), (14, 11, 2, 0, 0), (15, 2, 0, 32769, 1), (16, 11, 3, 0, 0), (17, 0, 3, 0, 0), (18, 2, 0, 32769, 1), (19, 0, 0, 2, 0), (20, 1, 19, 9, 1), (23, 1, 121, 3, 12), (26, 12, 8, 0, 0), (27, 3, 3, 56, 0), (30, 0, 3, 0, 0), (31, 9, 2, 227, 165), (34, 0, 1, 0, 0), (35, 3, 1, 50, 0), (38, 0, 0, 2, 0), (39, 0, 3, 0, 0), (40, 0, 1, 0, 0), (41, 9, 0, 232, 166), (44, 4, 1, 50, 0), (47, 7, 2, 1, 0), (50, 7, 3, 1, 0), (53, 5, 0, 17, 0), (56, 0, 2, 0, 0), (57, 10, 0, 1, 0)], 2, 0, 0, 11, 4)
def fm_64 : fx_M := ([(0, 0, 1, 0, 0), (1, 2, 0, 32769, 1), (2, 2, 1, 32775, 7), (4, 9, 2, 394, 136), (7, 4, 1, 12, 0), (10, 2, 0, 32767, 4294967295), (11, 10, 0, 1, 0), (12, 2, 0, 32768, 0), (13, 11, 2, 0, 0), (14, 2, 0, 32768, 0), (15, 11, 3, 0, 0), (16, 0, 3, 0, 0), (17, 0, 0, 2, 0), (18, 9, 0, 459, 167), (21, 3, 4, 49, 0), (24, 0, 3, 0, 0), (25, 9, 2, 435, 168), (28, 0, 1, 0, 0), (29, 3, 1, 43, 0), (32, 0, 0, 2, 0), (33, 0, 3, 0, 0), (34, 9, 0, 489, 169), (37, 4, 1, 43, 0), (40, 7, 2, 1, 0), (43, 7, 3, 1, 0), (46, 5, 0, 16, 0), (49, 0, 2, 0, 0), (50, 10, 0, 1, 0)], 2, 0, 0, 12, 4)
def fm_65 : fx_M := ([(0, 0, 0, 2, 0), (1, 2, 0, 32768, 0), (2, 14, 73, 9, 88), (5, 0, 0, 2, 0), (6, 0, 1, 0, 0), (7, 9, 0, 214, 159), (10, 4, 0, 21, 0), (13, 0, 0, 2, 0), (14, 0, 2, 0, 0), (15, 9, 0, 214, 159), (18, 4, 1, 23, 0), (21, 2, 0, 32767, 4294967295), (22, 10, 0, 1, 0), (23, 0, 0, 2, 0), (24, 1, 33, 9, 3), (27, 0, 0, 2, 0), (28, 1, 19, 9, 1), (31, 0, 0, 2, 0), (32, 1, 26, 9, 2), (35, 9, 0, 128, 127), (38, 0, 0, 2, 0), (39, 0, 1, 0, 0), (40, 0, 2, 0, 0), (41, 9, 0, 240, 170), (44, 11, 3, 0, 0), (45, 0, 3, 0, 0), (46, 2, 0, 32767, 4294967295), (47, 3, 1, 52, 0), (50, 2, 0, 32767, 4294967295), (51, 10, 0, 1, 0), (52, 0, 1, 0, 0), (53, 11, 4, 1, 0), (55, 0, 0, 2, 0), (56, 0, 4, 1, 0), (58, 9, 0, 243, 171), (61, 0, 3, 0, 0), (62, 2, 0, 32769, 1), (63, 12, 1, 0, 0), (64, 11, 5, 1, 0), (66, 0, 5, 1, 0), (68, 4, 2, 105, 0), (71, 0, 0, 2, 0), (72, 1, 33, 9, 3), (75, 0, 4, 1, 0), (77, 9, 0, 246, 172), (80, 0, 0, 2, 0), (81, 1, 64, 9, 8), (84, 0, 5, 1, 0), (86, 6, 0, 0, 0), (87, 12, 5, 0, 0), (88, 9, 2, 249, 173), (91, 11, 4, 1, 0), (93, 0, 0, 2, 0), (94, 0, 4, 1, 0), (96, 9, 0, 243, 171), (99, 7, 5, 4294967295, 0), (102, 5, 0, 66, 0), (105, 0, 3, 0, 0), (106, 10, 0, 1, 0)], 3, 0, 0, 11, 6)
def fm_66 : fx_M := ([(0, 0, 0, 2, 0), (1, 2, 0, 32768, 0), (2, 14, 410, 10, 456), (5, 0, 0, 2, 0), (6, 0, 1, 0, 0), (7, 9, 0, 444, 130), (10, 4, 0, 45, 0), (13, 0, 0, 2, 0), (14, 0, 2, 0, 0), (15, 9, 0, 444, 130), (18, 4, 0, 45, 0), (21, 0, 0, 2, 0), (22, 1, 101, 10, 50), (25, 2, 1, 32775, 7), (27, 0, 1, 0, 0), (28, 12, 0, 0, 0), (29, 6, 0, 0, 0), (30, 4, 2, 45, 0), (33, 0, 0, 2, 0), (34, 1, 101, 10, 50), (37, 2, 1, 32775, 7), (39, 0, 2, 0, 0), (40, 12, 0, 0, 0), (41, 6, 0, 0, 0), (42, 4, 3, 47, 0), (45, 2, 0, 32767, 4294967295), (46, 10, 0, 1, 0), (47, 0, 0, 2, 0), (48, 0, 2, 0, 0), (49, 9, 0, 492, 174), (52, 0, 0, 2, 0), (53, 1, 110, 10, 55), (56, 0, 1, 0, 0), (57, 6, 0, 0, 0), (58, 2, 1, 32868, 100), (60, 3, 1, 65, 0), (63, 2, 0, 32767, 4294967295), (64, 10, 0, 1, 0), (65, 0, 1, 0, 0), (66, 11, 3, 0, 0), (67, 0, 0, 2, 0), (68, 1, 113, 10, 56), (71, 2, 0, 32768, 0), (72, 0, 1, 0, 0), (73, 8, 0, 0, 0), (74, 0, 0, 2, 0), (75, 2, 0, 32769, 1), (76, 14, 410, 10, 456), (79, 0, 3, 0, 0), (80, 0, 2, 0, 0), (81, 3, 0, 147, 0), (84, 2, 0, 32768, 0), (85, 11, 4, 1, 0), (87, 0, 0, 2, 0), (88, 0, 3, 0, 0), (89, 0, 4, 1, 0), (91, 9, 0, 416, 175), (94, 4, 0, 115, 0), (97, 0, 0, 2, 0), (98, 1, 110, 10, 55), (101, 0, 4, 1, 0), (103, 6, 0, 0, 0), (104, 0, 0, 2, 0), (105, 1, 110, 10, 55), (108, 0, 3, 0, 0), (109, 6, 0, 0, 0), (110, 2, 0, 32769, 1), (111, 12, 1, 0, 0), (112, 3, 0, 121, 0), (115, 7, 4, 1, 0), (118, 5, 0, 87, 0), (121, 0, 4, 1, 0), (123, 11, 3, 0, 0), (124, 0, 0, 2, 0), (125, 1, 113, 10, 56), (128, 0, 0, 2, 0), (129, 1, 410, 10, 57), (132, 0, 3, 0, 0), (133, 8, 0, 0, 0), (134, 0, 0, 2, 0), (135, 15, 0, 0, 0), (136, 1, 410, 10, 57), (139, 2, 0, 32769, 1), (140, 12, 0, 0, 0), (141, 14, 410, 10, 456), (144, 5, 0, 79, 0), (147, 0, 0, 2, 0), (148, 1, 410, 10, 57), (151, 2, 0, 32769, 1), (152, 12, 1, 0, 0), (153, 10, 0, 1, 0)], 3, 0, 0, 12, 5)
def fm_67 : fx_M := ([(0, 0, 0, 2, 0), (1, 1, 33, 9, 3), (4, 0, 0, 2, 0), (5, 1, 19, 9, 1), (8, 0, 0, 2, 0), (9, 1, 26, 9, 2), (12, 9, 0, 128, 127), (15, 0, 0, 2, 0), (16, 1, 26, 9, 2), (19, 9, 0, 255, 176), (22, 11, 1, 0, 0), (23, 2, 0, 32768, 0), (24, 11, 2, 0, 0), (25, 2, 0, 32768, 0), (26, 11, 3, 0, 0), (27, 0, 3, 0, 0), (28, 2, 1, 32775, 7), (30, 3, 3, 59, 0), (33, 0, 1, 0, 0), (34, 4, 0, 59, 0), (37, 0, 1, 0, 0), (38, 0, 0, 2, 0), (39, 0, 1, 0, 0), (40, 9, 2, 249, 173), (43, 9, 0, 258, 177), (46, 2, 0, 32767, 4294967295), (47, 12, 7, 0, 0), (48, 12, 5, 0, 0), (49, 11, 1, 0, 0), (50, 7, 2, 1, 0), (53, 7, 3, 1, 0), (56, 5, 0, 27, 0), (59, 0, 2, 0, 0), (60, 10, 0, 1, 0)], 1, 0, 0, 11, 4)
def fm_68 : fx_M := ([(0, 2, 0, 32768, 0), (1, 11, 1, 0, 0), (2, 2, 0, 32768, 0), (3, 11, 2, 0, 0), (4, 2, 0, 32768, 0), (5, 11, 3, 0, 0), (6, 0, 3, 0, 0), (7, 0, 0, 2, 0), (8, 9, 0, 391, 26), (11, 3, 3, 38, 0), (14, 0, 0, 2, 0), (15, 1, 101, 10, 50), (18, 2, 1, 32775, 7), (20, 0, 3, 0, 0), (21, 12, 0, 0, 0), (22, 6, 0, 0, 0), (23, 4, 2, 32, 0), (26, 0, 1, 0, 0), (27, 2, 0, 32769, 1), (28, 0, 3, 0, 0), (29, 12, 8, 0, 0), (30, 12, 6, 0, 0), (31, 11, 1, 0, 0), (32, 7, 3, 1, 0), (35, 5, 0, 6, 0), (38, 2, 0, 32768, 0), (39, 11, 3, 0, 0), (40, 0, 3, 0, 0), (41, 0, 0, 2, 0), (42, 9, 0, 391, 26), (45, 3, 3, 112, 0), (48, 0, 1, 0, 0), (49, 0, 3, 0, 0), (50, 9, 2, 420, 178), (53, 4, 1, 59, 0), (56, 5, 0, 106, 0), (59, 0, 0, 2, 0), (60, 0, 3, 0, 0), (61, 9, 0, 492, 174), (64, 2, 0, 32768, 0), (65, 11, 4, 1, 0), (67, 0, 4, 1, 0), (69, 0, 0, 2, 0), (70, 9, 0, 391, 26), (73, 3, 3, 103, 0), (76, 0, 0, 2, 0), (77, 1, 110, 10, 55), (80, 0, 4, 1, 0), (82, 6, 0, 0, 0), (83, 2, 1, 32868, 100), (85, 3, 3, 97, 0), (88, 0, 1, 0, 0), (89, 2, 0, 32769, 1), (90, 0, 4, 1, 0), (92, 12, 8, 0, 0), (93, 2, 0, 32767, 4294967295), (94, 12, 7, 0, 0), (95, 12, 5, 0, 0), (96, 11, 1, 0, 0), (97, 7, 4, 1, 0), (100, 5, 0, 67, 0), (103, 7, 2, 1, 0), (106, 7, 3, 1, 0), (109, 5, 0, 40, 0), (112, 0, 2, 0, 0), (113, 10, 0, 1, 0)], 1, 0, 0, 12, 5)
def fm_69 : fx_M := ([(0, 0, 0, 2, 0), (1, 0, 1, 0, 0), (2, 9, 0, 124, 126), (5, 4, 0, 15, 0), (8, 0, 2, 0, 0), (9, 9, 2, 224, 163), (12, 4, 1, 17, 0), (15, 2, 0, 32767, 4294967295), (16, 10, 0, 1, 0), (17, 2, 0, 32767, 4294967295), (18, 11, 3, 0, 0), (19, 2, 0, 32767, 4294967295), (20, 11, 4, 1, 0), (22, 2, 0, 32768, 0), (23, 11, 5, 1, 0), (25, 0, 5, 1, 0), (27, 0, 0, 2, 0), (28, 1, 19, 9, 1), (31, 9, 0, 261, 179), (34, 3, 3, 89, 0), (37, 0, 0, 2, 0), (38, 1, 26, 9, 2), (41, 0, 5, 1, 0), (43, 9, 0, 173, 140), (46, 11, 6, 1, 0), (48, 0, 6, 1, 0), (50, 2, 0, 32767, 4294967295), (51, 3, 0, 60, 0), (54, 0, 6, 1, 0), (56, 0, 1, 0, 0), (57, 3, 1, 83, 0), (60, 0, 0, 2, 0), (61, 0, 1, 0, 0), (62, 0, 5, 1, 0), (64, 9, 0, 264, 180), (67, 11, 7, 1, 0), (69, 0, 7, 1, 0), (71, 0, 4, 1, 0), (73, 3, 5, 83, 0), (76, 0, 5, 1, 0), (78, 11, 3, 0, 0), (79, 0, 7, 1, 0), (81, 11, 4, 1, 0), (83, 7, 5, 1, 0), (86, 5, 0, 25, 0), (89, 0, 2, 0, 0), (90, 4, 1, 97, 0), (93, 0, 3, 0, 0), (94, 5, 0, 99, 0), (97, 0, 4, 1, 0), (99, 10, 0, 1, 0)], 3, 0, 0, 11, 8)
def fm_70 : fx_M := ([(0, 0, 0, 2, 0), (1, 0, 1, 0, 0), (2, 9, 0, 444, 130), (5, 4, 0, 17, 0), (8, 0, 2, 0, 0), (9, 2, 0, 32768, 0), (10, 2, 0, 32769, 1), (11, 9, 2, 394, 136), (14, 4, 1, 19, 0), (17, 2, 0, 32767, 4294967295), (18, 10, 0, 1, 0), (19, 2, 0, 32767, 4294967295), (20, 11, 3, 0, 0), (21, 2, 0, 32768, 0), (22, 11, 4, 1, 0), (24, 2, 0, 32768, 0), (25, 11, 5, 1, 0), (27, 0, 5, 1, 0), (29, 0, 0, 2, 0), (30, 9, 0, 398, 181), (33, 3, 3, 94, 0), (36, 0, 0, 2, 0), (37, 0, 5, 1, 0), (39, 9, 0, 456, 142), (42, 4, 2, 58, 0), (45, 0, 0, 2, 0), (46, 0, 5, 1, 0), (48, 9, 0, 456, 142), (51, 0, 1, 0, 0), (52, 3, 0, 58, 0), (55, 5, 0, 88, 0), (58, 0, 0, 2, 0), (59, 0, 1, 0, 0), (60, 0, 5, 1, 0), (62, 9, 0, 507, 182), (65, 11, 6, 1, 0), (67, 0, 3, 0, 0), (68, 4, 2, 81, 0), (71, 0, 6, 1, 0), (73, 0, 4, 1, 0), (75, 3, 4, 81, 0), (78, 5, 0, 88, 0), (81, 0, 5, 1, 0), (83, 11, 3, 0, 0), (84, 0, 6, 1, 0), (86, 11, 4, 1, 0), (88, 7, 5, 1, 0), (91, 5, 0, 27, 0), (94, 0, 3, 0, 0), (95, 4, 3, 102, 0), (98, 2, 0, 32767, 4294967295), (99, 5, 0, 112, 0), (102, 0, 2, 0, 0), (103, 4, 1, 110, 0), (106, 0, 3, 0, 0), (107, 5, 0, 112, 0), (110, 0, 4, 1, 0), (112, 10, 0, 1, 0)], 3, 0, 0, 12, 7)
def fm_71 : fx_M := ([(0, 2, 0, 32767, 4294967295), (1, 11, 2, 0, 0), (2, 2, 0, 32767, 4294967295), (3, 11, 3, 0, 0), (4, 2, 0, 32767, 4294967295), (5, 11, 4, 1, 0), (7, 2, 0, 32768, 0), (8, 11, 5, 1, 0), (10, 0, 5, 1, 0), (12, 0, 0, 2, 0), (13, 1, 19, 9, 1), (16, 1, 121, 3, 12), (19, 3, 3, 94, 0), (22, 0, 5, 1, 0), (24, 2, 0, 32769, 1), (25, 12, 0, 0, 0), (26, 11, 6, 1, 0), (28, 0, 6, 1, 0), (30, 0, 0, 2, 0), (31, 1, 19, 9, 1), (34, 1, 121, 3, 12), (37, 3, 3, 88, 0), (40, 0, 0, 2, 0), (41, 0, 5, 1, 0), (43, 0, 6, 1, 0), (45, 9, 0, 207, 155), (48, 4, 0, 62, 0), (51, 0, 0, 2, 0), (52, 0, 5, 1, 0), (54, 0, 6, 1, 0), (56, 9, 0, 270, 183), (59, 5, 0, 63, 0), (62, 2, 0, 32767, 4294967295), (63, 11, 7, 1, 0), (65, 0, 7, 1, 0), (67, 0, 4, 1, 0), (69, 3, 5, 82, 0), (72, 0, 5, 1, 0), (74, 11, 2, 0, 0), (75, 0, 6, 1, 0), (77, 11, 3, 0, 0), (78, 0, 7, 1, 0), (80, 11, 4, 1, 0), (82, 7, 6, 1, 0), (85, 5, 0, 28, 0), (88, 7, 5, 1, 0), (91, 5, 0, 10, 0), (94, 0, 1, 0, 0), (95, 20, 127, 0, 8), (120, 0, 2, 0, 0), (121, 10, 0, 1, 0), (122, 0, 3, 0, 0), (123, 10, 0, 1, 0), (124, 0, 4, 1, 0), (126, 10, 0, 1, 0), (127, 2, 0, 32767, 4294967295), (128, 10, 0, 1, 0)], 2, 0, 0, 11, 8)
def fm_72 : fx_M := ([(0, 0, 1, 0, 0), (1, 2, 0, 32768, 0), (2, 2, 0, 32770, 2), (3, 9, 2, 394, 136), (6, 4, 1, 11, 0), (9, 2, 0, 32767, 4294967295), (10, 10, 0, 1, 0), (11, 2, 0, 32767, 4294967295), (12, 11, 2, 0, 0), (13, 2, 0, 32768, 0), (14, 11, 3, 0, 0), (15, 2, 0, 32768, 0), (16, 11, 4, 1, 0), (18, 0, 4, 1, 0), (20, 2, 1, 32817, 49), (22, 3, 3, 108, 0), (25, 0, 4, 1, 0), (27, 2, 1, 32775, 7), (29, 12, 3, 0, 0), (30, 0, 4, 1, 0), (32, 2, 1, 32775, 7), (34, 12, 4, 0, 0), (35, 3, 3, 102, 0), (38, 0, 0, 2, 0), (39, 0, 4, 1, 0), (41, 2, 1, 32775, 7), (43, 12, 3, 0, 0), (44, 0, 4, 1, 0), (46, 2, 1, 32775, 7), (48, 12, 4, 0, 0), (49, 9, 0, 477, 157), (52, 4, 1, 58, 0), (55, 5, 0, 102, 0), (58, 0, 0, 2, 0), (59, 9, 0, 501, 184), (62, 0, 0, 2, 0), (63, 0, 4, 1, 0), (65, 2, 1, 32775, 7), (67, 12, 3, 0, 0), (68, 0, 4, 1, 0), (70, 2, 1, 32775, 7), (72, 12, 4, 0, 0), (73, 9, 0, 480, 158), (76, 0, 0, 2, 0), (77, 2, 0, 32769, 1), (78, 9, 0, 504, 185), (81, 11, 5, 1, 0), (83, 0, 2, 0, 0), (84, 4, 2, 96, 0), (87, 0, 5, 1, 0), (89, 0, 3, 0, 0), (90, 3, 4, 96, 0), (93, 5, 0, 102, 0), (96, 0, 4, 1, 0), (98, 11, 2, 0, 0), (99, 0, 5, 1, 0), (101, 11, 3, 0, 0), (102, 7, 4, 1, 0), (105, 5, 0, 18, 0), (108, 0, 2, 0, 0), (109, 4, 3, 116, 0), (112, 2, 0, 32767, 4294967295), (113, 5, 0, 140, 0), (116, 0, 1, 0, 0), (117, 4, 1, 127, 0), (120, 0, 2, 0, 0), (121, 2, 1, 32775, 7), (123, 12, 3, 0, 0), (124, 5, 0, 140, 0), (127, 0, 1, 0, 0), (128, 2, 0, 32769, 1), (129, 3, 1, 139, 0), (132, 0, 2, 0, 0), (133, 2, 1, 32775, 7), (135, 12, 4, 0, 0), (136, 5, 0, 140, 0), (139, 0, 3, 0, 0), (140, 10, 0, 1, 0)], 2, 0, 0, 12, 6)
def fm_73 : fx_M := ([(0, 0, 0, 2, 0), (1, 1, 33, 9, 3), (4, 0, 0, 2, 0), (5, 1, 19, 9, 1), (8, 0, 0, 2, 0), (9, 1, 26, 9, 2), (12, 9, 0, 128, 127), (15, 2, 0, 32768, 0), (16, 11, 1, 0, 0), (17, 0, 1, 0, 0), (18, 2, 1, 32828, 60), (20, 3, 4, 41, 0), (23, 0, 0, 2, 0), (24, 1, 33, 9, 3), (27, 9, 0, 188, 148), (30, 4, 1, 35, 0), (33, 0, 1, 0, 0), (34, 10, 0, 1, 0), (35, 7, 1, 1, 0), (38, 5, 0, 17, 0), (41, 2, 0, 32767, 4294967295), (42, 10, 0, 1, 0)], 1, 0, 0, 11, 2)
def fm_74 : fx_M := ([(0, 0, 0, 2, 0), (1, 9, 0, 501, 184), (4, 2, 0, 32768, 0), (5, 11, 1, 0, 0), (6, 0, 1, 0, 0), (7, 2, 1, 32828, 60), (9, 3, 4, 25, 0), (12, 0, 0, 2, 0), (13, 9, 0, 441, 186), (16, 4, 5, 25, 0), (19, 7, 1, 1, 0), (22, 5, 0, 6, 0), (25, 0, 0, 2, 0), (26, 9, 0, 495, 187), (29, 0, 1, 0, 0), (30, 2, 1, 32828, 60), (32, 3, 4, 39, 0), (35, 0, 1, 0, 0), (36, 5, 0, 40, 0), (39, 2, 0, 32767, 4294967295), (40, 10, 0, 1, 0)], 1, 0, 0, 12, 2)
def fm_75 : fx_M := ([(0, 0, 0, 2, 0), (1, 0, 1, 0, 0), (2, 9, 0, 124, 126), (5, 4, 0, 17, 0), (8, 0, 2, 0, 0), (9, 2, 1, 32828, 60), (11, 9, 2, 200, 153), (14, 4, 1, 19, 0), (17, 2, 0, 32767, 4294967295), (18, 10, 0, 1, 0), (19, 0, 0, 2, 0), (20, 1, 33, 9, 3), (23, 0, 0, 2, 0), (24, 1, 19, 9, 1), (27, 0, 0, 2, 0), (28, 1, 26, 9, 2), (31, 9, 0, 128, 127), (34, 2, 0, 32768, 0), (35, 11, 3, 0, 0), (36, 0, 3, 0, 0), (37, 0, 2, 0, 0), (38, 3, 3, 63, 0), (41, 0, 0, 2, 0), (42, 1, 33, 9, 3), (45, 9, 0, 188, 148), (48, 15, 1, 0, 0), (49, 0, 0, 2, 0), (50, 1, 33, 9, 3), (53, 9, 0, 191, 149), (56, 15, 1, 0, 0), (57, 7, 3, 1, 0), (60, 5, 0, 36, 0), (63, 0, 0, 2, 0), (64, 1, 33, 9, 3), (67, 1, 194, 8, 0), (70, 1, 131, 6, 0), (73, 0, 1, 0, 0), (74, 6, 0, 0, 0), (75, 10, 0, 1, 0)], 3, 0, 0, 11, 4)
def fm_76 : fx_M := ([(0, 0, 0, 2, 0), (1, 0, 1, 0, 0), (2, 9, 0, 444, 130), (5, 4, 0, 15, 0), (8, 0, 2, 0, 0), (9, 9, 2, 498, 188), (12, 4, 1, 17, 0), (15, 2, 0, 32767, 4294967295), (16, 10, 0, 1, 0), (17, 0, 0, 2, 0), (18, 9, 0, 501, 184), (21, 2, 0, 32768, 0), (22, 11, 3, 0, 0), (23, 2, 0, 32768, 0), (24, 11, 4, 1, 0), (26, 0, 4, 1, 0), (28, 0, 2, 0, 0), (29, 3, 3, 45, 0), (32, 0, 3, 0, 0), (33, 0, 0, 2, 0), (34, 9, 0, 471, 152), (37, 12, 6, 0, 0), (38, 11, 3, 0, 0), (39, 7, 4, 1, 0), (42, 5, 0, 26, 0), (45, 0, 0, 2, 0), (46, 1, 101, 10, 50), (49, 2, 0, 32768, 0), (50, 0, 1, 0, 0), (51, 12, 0, 0, 0), (52, 6, 0, 0, 0), (53, 11, 4, 1, 0), (55, 0, 0, 2, 0), (56, 9, 0, 495, 187), (59, 0, 4, 1, 0), (61, 10, 0, 1, 0)], 3, 0, 0, 12, 5)
def fm_77 : fx_M := ([(0, 0, 1, 0, 0), (1, 2, 1, 32828, 60), (3, 9, 2, 200, 153), (6, 4, 1, 11, 0), (9, 2, 0, 32767, 4294967295), (10, 10, 0, 1, 0), (11, 0, 0, 2, 0), (12, 1, 33, 9, 3), (15, 0, 0, 2, 0), (16, 1, 19, 9, 1), (19, 0, 0, 2, 0), (20, 1, 26, 9, 2), (23, 9, 0, 128, 127), (26, 0, 0, 2, 0), (27, 1, 33, 9, 3), (30, 0, 1, 0, 0), (31, 9, 0, 273, 189), (34, 0, 0, 2, 0), (35, 1, 33, 9, 3), (38, 1, 194, 8, 0), (41, 9, 0, 176, 143), (44, 10, 0, 1, 0)], 2, 0, 0, 11, 2)
def fm_78 : fx_M := ([(0, 0, 1, 0, 0), (1, 9, 2, 498, 188), (4, 4, 1, 9, 0), (7, 2, 0, 32767, 4294967295), (8, 10, 0, 1, 0), (9, 0, 0, 2, 0), (10, 9, 0, 501, 184), (13, 0, 0, 2, 0), (14, 0, 1, 0, 0), (15, 9, 0, 504, 185), (18, 10, 0, 1, 0)], 2, 0, 0, 12, 2)
def fm_79 : fx_M := ([(0, 0, 0, 2, 0), (1, 1, 19, 9, 1), (4, 1, 121, 3, 12), (7, 4, 1, 12, 0), (10, 2, 0, 32767, 4294967295), (11, 10, 0, 1, 0), (12, 0, 0, 2, 0), (13, 1, 33, 9, 3), (16, 0, 0, 2, 0), (17, 1, 19, 9, 1), (20, 0, 0, 2, 0), (21, 1, 26, 9, 2), (24, 9, 0, 128, 127), (27, 2, 0, 32768, 0), (28, 11, 1, 0, 0), (29, 0, 1, 0, 0), (30, 2, 1, 32828, 60), (32, 3, 4, 61, 0), (35, 0, 0, 2, 0), (36, 1, 33, 9, 3), (39, 9, 0, 276, 190), (42, 4, 0, 47, 0), (45, 0, 1, 0, 0), (46, 10, 0, 1, 0), (47, 0, 0, 2, 0), (48, 1, 33, 9, 3), (51, 9, 0, 188, 148), (54, 15, 1, 0, 0), (55, 7, 1, 1, 0), (58, 5, 0, 29, 0), (61, 2, 0, 32767, 4294967295), (62, 10, 0, 1, 0)], 1, 0, 0, 11, 2)
def fm_80 : fx_M := ([(0, 0, 0, 2, 0), (1, 9, 0, 391, 26), (4, 4, 1, 9, 0), (7, 2, 0, 32767, 4294967295), (8, 10, 0, 1, 0), (9, 0, 0, 2, 0), (10, 9, 0, 501, 184), (13, 2, 0, 32768, 0), (14, 11, 1, 0, 0), (15, 2, 0, 32768, 0), (16, 11, 2, 0, 0), (17, 0, 1, 0, 0), (18, 2, 1, 32828, 60), (20, 3, 3, 41, 0), (23, 0, 0, 2, 0), (24, 9, 0, 510, 191), (27, 4, 1, 41, 0), (30, 0, 0, 2, 0), (31, 9, 0, 441, 186), (34, 11, 2, 0, 0), (35, 7, 1, 1, 0), (38, 5, 0, 17, 0), (41, 0, 0, 2, 0), (42, 9, 0, 510, 191), (45, 11, 3, 0, 0), (46, 0, 0, 2, 0), (47, 9, 0, 495, 187), (50, 0, 3, 0, 0), (51, 4, 0, 58, 0), (54, 0, 1, 0, 0), (55, 5, 0, 59, 0), (58, 2, 0, 32767, 4294967295), (59, 10, 0, 1, 0)], 1, 0, 0, 12, 4)
def fm_81 : fx_M := ([(0, 0, 1, 0, 0), (1, 2, 1, 32828, 60), (3, 9, 2, 200, 153), (6, 4, 1, 11, 0), (9, 2, 0, 32767, 4294967295), (10, 10, 0, 1, 0), (11, 0, 0, 2, 0), (12, 1, 33, 9, 3), (15, 0, 0, 2, 0), (16, 1, 19, 9, 1), (19, 0, 0, 2, 0), (20, 1, 26, 9, 2), (23, 9, 0, 128, 127), (26, 2, 0, 32768, 0), (27, 11, 2, 0, 0), (28, 2, 0, 32768, 0), (29, 11, 3, 0, 0), (30, 0, 3, 0, 0), (31, 0, 1, 0, 0), (32, 3, 3, 54, 0), (35, 0, 2, 0, 0), (36, 0, 0, 2, 0), (37, 1, 33, 9, 3), (40, 9, 0, 188, 148), (43, 9, 2, 227, 165), (46, 12, 0, 0, 0), (47, 11, 2, 0, 0), (48, 7, 3, 1, 0), (51, 5, 0, 30, 0), (54, 0, 2, 0, 0), (55, 10, 0, 1, 0)], 2, 0, 0, 11, 4)
def fm_82 : fx_M := ([(0, 0, 1, 0, 0), (1, 9, 2, 498, 188), (4, 4, 1, 9, 0), (7, 2, 0, 32767, 4294967295), (8, 10, 0, 1, 0), (9, 0, 0, 2, 0), (10, 9, 0, 501, 184), (13, 2, 0, 32768, 0), (14, 11, 2, 0, 0), (15, 2, 0, 32768, 0), (16, 11, 3, 0, 0), (17, 0, 3, 0, 0), (18, 0, 1, 0, 0), (19, 3, 3, 35, 0), (22, 0, 2, 0, 0), (23, 0, 0, 2, 0), (24, 9, 0, 441, 186), (27, 12, 0, 0, 0), (28, 11, 2, 0, 0), (29, 7, 3, 1, 0), (32, 5, 0, 17, 0), (35, 0, 0, 2, 0), (36, 9, 0, 495, 187), (39, 0, 2, 0, 0), (40, 10, 0, 1, 0)], 2, 0, 0, 12, 4)
def fm_83 : fx_M := ([(0, 0, 0, 2, 0), (1, 0, 1, 0, 0), (2, 9, 0, 124, 126), (5, 4, 0, 26, 0), (8, 0, 2, 0, 0), (9, 2, 1, 32777, 9), (11, 9, 2, 200, 153), (14, 4, 0, 26, 0), (17, 0, 3, 0, 0), (18, 2, 1, 32788, 20), (20, 9, 2, 200, 153), (23, 4, 1, 28, 0), (26, 2, 0, 32767, 4294967295), (27, 10, 0, 1, 0), (28, 0, 0, 2, 0), (29, 1, 33, 9, 3), (32, 0, 0, 2, 0), (33, 1, 19, 9, 1), (36, 0, 0, 2, 0), (37, 1, 26, 9, 2), (40, 9, 0, 128, 127), (43, 0, 0, 2, 0), (44, 1, 33, 9, 3), (47, 0, 3, 0, 0), (48, 9, 0, 273, 189), (51, 0, 0, 2, 0), (52, 1, 33, 9, 3), (55, 2, 0, 32768, 0), (56, 9, 0, 280, 192), (59, 0, 0, 2, 0), (60, 1, 33, 9, 3), (63, 0, 0, 2, 0), (64, 1, 19, 9, 1), (67, 0, 0, 2, 0), (68, 1, 26, 9, 2), (71, 9, 0, 128, 127), (74, 0, 0, 2, 0), (75, 1, 33, 9, 3), (78, 1, 194, 8, 0), (81, 1, 131, 6, 0), (84, 0, 1, 0, 0), (85, 0, 2, 0, 0), (86, 8, 0, 0, 0), (87, 0, 0, 2, 0), (88, 1, 33, 9, 3), (91, 0, 3, 0, 0), (92, 9, 0, 273, 189), (95, 0, 0, 2, 0), (96, 1, 33, 9, 3), (99, 2, 0, 32768, 0), (100, 9, 0, 283, 193), (103, 10, 0, 1, 0)], 4, 0, 0, 11, 4)
def fm_84 : fx_M := ([(0, 0, 0, 2, 0), (1, 0, 1, 0, 0), (2, 9, 0, 444, 130), (5, 4, 0, 25, 0), (8, 0, 2, 0, 0), (9, 9, 2, 474, 154), (12, 4, 0, 25, 0), (15, 0, 3, 0, 0), (16, 2, 0, 32768, 0), (17, 2, 1, 32788, 20), (19, 9, 2, 394, 136), (22, 4, 1, 27, 0), (25, 2, 0, 32767, 4294967295), (26, 10, 0, 1, 0), (27, 0, 0, 2, 0), (28, 9, 0, 501, 184), (31, 0, 0, 2, 0), (32, 0, 3, 0, 0), (33, 9, 0, 504, 185), (36, 11, 4, 1, 0), (38, 2, 0, 32768, 0), (39, 11, 5, 1, 0), (41, 0, 5, 1, 0), (43, 0, 0, 2, 0), (44, 9, 0, 391, 26), (47, 3, 3, 70, 0), (50, 0, 0, 2, 0), (51, 1, 122, 10, 60), (54, 0, 5, 1, 0), (56, 0, 0, 2, 0), (57, 1, 119, 10, 59), (60, 0, 5, 1, 0), (62, 6, 0, 0, 0), (63, 8, 0, 0, 0), (64, 7, 5, 1, 0), (67, 5, 0, 41, 0), (70, 0, 0, 2, 0), (71, 1, 101, 10, 50), (74, 2, 0, 32768, 0), (75, 0, 1, 0, 0), (76, 12, 0, 0, 0), (77, 0, 2, 0, 0), (78, 8, 0, 0, 0), (79, 0, 0, 2, 0), (80, 0, 3, 0, 0), (81, 9, 0, 504, 185), (84, 11, 4, 1, 0), (86, 2, 0, 32768, 0), (87, 11, 5, 1, 0), (89, 2, 0, 32768, 0), (90, 11, 6, 1, 0), (92, 0, 6, 1, 0), (94, 0, 0, 2, 0), (95, 9, 0, 391, 26), (98, 3, 3, 133, 0), (101, 0, 0, 2, 0), (102, 1, 122, 10, 60), (105, 0, 6, 1, 0), (107, 6, 0, 0, 0), (108, 0, 0, 2, 0), (109, 1, 119, 10, 59), (112, 0, 6, 1, 0), (114, 6, 0, 0, 0), (115, 3, 0, 127, 0), (118, 0, 5, 1, 0), (120, 2, 0, 32769, 1), (121, 0, 6, 1, 0), (123, 12, 8, 0, 0), (124, 12, 6, 0, 0), (125, 11, 5, 1, 0), (127, 7, 6, 1, 0), (130, 5, 0, 92, 0), (133, 0, 5, 1, 0), (135, 10, 0, 1, 0)], 4, 0, 0, 12, 7)
def fm_85 : fx_M := ([(0, 0, 0, 2, 0), (1, 1, 33, 9, 3), (4, 0, 0, 2, 0), (5, 1, 19, 9, 1), (8, 0, 0, 2, 0), (9, 1, 26, 9, 2), (12, 9, 0, 128, 127), (15, 2, 0, 32767, 4294967295), (16, 11, 1, 0, 0), (17, 2, 0, 32767, 4294967295), (18, 11, 2, 0, 0), (19, 2, 0, 32768, 0), (20, 11, 3, 0, 0), (21, 0, 3, 0, 0), (22, 0, 0, 2, 0), (23, 1, 19, 9, 1), (26, 9, 0, 261, 179), (29, 3, 3, 87, 0), (32, 0, 0, 2, 0), (33, 1, 26, 9, 2), (36, 0, 3, 0, 0), (37, 9, 0, 173, 140), (40, 2, 0, 32767, 4294967295), (41, 3, 1, 81, 0), (44, 0, 0, 2, 0), (45, 1, 33, 9, 3), (48, 0, 3, 0, 0), (49, 0, 0, 2, 0), (50, 1, 26, 9, 2), (53, 1, 150, 6, 3), (56, 9, 0, 153, 129), (59, 0, 2, 0, 0), (60, 3, 5, 81, 0), (63, 0, 3, 0, 0), (64, 11, 1, 0, 0), (65, 0, 0, 2, 0), (66, 1, 33, 9, 3), (69, 0, 3, 0, 0), (70, 0, 0, 2, 0), (71, 1, 26, 9, 2), (74, 1, 150, 6, 3), (77, 9, 0, 153, 129), (80, 11, 2, 0, 0), (81, 7, 3, 1, 0), (84, 5, 0, 21, 0), (87, 0, 1, 0, 0), (88, 10, 0, 1, 0)], 1, 0, 0, 11, 4)
def fm_86 : fx_M := ([(0, 2, 0, 32767, 4294967295), (1, 11, 1, 0, 0), (2, 2, 0, 32768, 0), (3, 11, 2, 0, 0), (4, 0, 2, 0, 0), (5, 0, 0, 2, 0), (6, 9, 0, 398, 181), (9, 3, 3, 45, 0), (12, 0, 0, 2, 0), (13, 0, 2, 0, 0), (14, 9, 0, 456, 142), (17, 4, 3, 39, 0), (20, 0, 1, 0, 0), (21, 4, 2, 37, 0), (24, 0, 0, 2, 0), (25, 0, 2, 0, 0), (26, 9, 0, 426, 133), (29, 0, 0, 2, 0), (30, 0, 1, 0, 0), (31, 9, 0, 426, 133), (34, 3, 5, 39, 0), (37, 0, 2, 0, 0), (38, 11, 1, 0, 0), (39, 7, 2, 1, 0), (42, 5, 0, 4, 0), (45, 0, 1, 0, 0), (46, 10, 0, 1, 0)], 1, 0, 0, 12, 3)
def fm_87 : fx_M := ([(0, 0, 1, 0, 0), (1, 2, 0, 32769, 1), (2, 3, 2, 17, 0), (5, 0, 1, 0, 0), (6, 2, 0, 32771, 3), (7, 3, 4, 17, 0), (10, 0, 2, 0, 0), (11, 9, 2, 224, 163), (14, 4, 1, 19, 0), (17, 2, 0, 32767, 4294967295), (18, 10, 0, 1, 0), (19, 0, 0, 2, 0), (20, 1, 33, 9, 3), (23, 0, 0, 2, 0), (24, 1, 19, 9, 1), (27, 0, 0, 2, 0), (28, 1, 26, 9, 2), (31, 9, 0, 128, 127), (34, 0, 0, 2, 0), (35, 2, 0, 32768, 0), (36, 0, 1, 0, 0), (37, 2, 0, 32767, 4294967295), (38, 2, 1, 32838, 70), (40, 9, 0, 286, 194), (43, 11, 3, 0, 0), (44, 0, 2, 0, 0), (45, 4, 1, 52, 0), (48, 0, 3, 0, 0), (49, 5, 0, 56, 0), (52, 0, 0, 2, 0), (53, 1, 86, 9, 15), (56, 10, 0, 1, 0)], 3, 0, 0, 11, 4)
def fm_88 : fx_M := ([(0, 0, 1, 0, 0), (1, 2, 0, 32769, 1), (2, 2, 0, 32771, 3), (3, 9, 2, 394, 136), (6, 4, 0, 18, 0), (9, 0, 2, 0, 0), (10, 2, 0, 32768, 0), (11, 2, 0, 32769, 1), (12, 9, 2, 394, 136), (15, 4, 1, 20, 0), (18, 2, 0, 32767, 4294967295), (19, 10, 0, 1, 0), (20, 2, 0, 32768, 0), (21, 11, 3, 0, 0), (22, 0, 3, 0, 0), (23, 2, 1, 32778, 10), (25, 0, 1, 0, 0), (26, 9, 2, 513, 195), (29, 3, 3, 50, 0), (32, 0, 0, 2, 0), (33, 1, 125, 10, 61), (36, 0, 3, 0, 0), (37, 0, 0, 2, 0), (38, 0, 1, 0, 0), (39, 0, 3, 0, 0), (40, 9, 0, 516, 196), (43, 8, 0, 0, 0), (44, 7, 3, 1, 0), (47, 5, 0, 22, 0), (50, 2, 0, 32768, 0), (51, 11, 3, 0, 0), (52, 0, 1, 0, 0), (53, 2, 0, 32769, 1), (54, 12, 1, 0, 0), (55, 11, 4, 1, 0), (57, 0, 4, 1, 0), (59, 4, 2, 177, 0), (62, 2, 0, 32768, 0), (63, 11, 5, 1, 0), (65, 0, 5, 1, 0), (67, 2, 1, 32778, 10), (69, 0, 4, 1, 0), (71, 9, 2, 513, 195), (74, 3, 3, 171, 0), (77, 2, 0, 32768, 0), (78, 11, 3, 0, 0), (79, 2, 0, 32769, 1), (80, 11, 6, 1, 0), (82, 0, 6, 1, 0), (84, 2, 1, 32777, 9), (86, 3, 4, 146, 0), (89, 0, 0, 2, 0), (90, 1, 125, 10, 61), (93, 2, 1, 32778, 10), (95, 0, 5, 1, 0), (97, 12, 2, 0, 0), (98, 0, 6, 1, 0), (100, 12, 0, 0, 0), (101, 6, 0, 0, 0), (102, 0, 0, 2, 0), (103, 1, 125, 10, 61), (106, 2, 1, 32778, 10), (108, 0, 5, 1, 0), (110, 12, 2, 0, 0), (111, 0, 3, 0, 0), (112, 12, 0, 0, 0), (113, 6, 0, 0, 0), (114, 12, 1, 0, 0), (115, 11, 7, 1, 0), (117, 0, 4, 1, 0), (119, 2, 0, 32770, 2), (120, 12, 4, 0, 0), (121, 4, 1, 132, 0), (124, 0, 7, 1, 0), (126, 4, 5, 140, 0), (129, 5, 0, 137, 0), (132, 0, 7, 1, 0), (134, 4, 3, 140, 0), (137, 0, 6, 1, 0), (139, 11, 3, 0, 0), (140, 7, 6, 1, 0), (143, 5, 0, 82, 0), (146, 0, 0, 2, 0), (147, 1, 125, 10, 61), (150, 0, 5, 1, 0), (152, 0, 0, 2, 0), (153, 1, 125, 10, 61), (156, 2, 1, 32778, 10), (158, 0, 5, 1, 0), (160, 12, 2, 0, 0), (161, 0, 3, 0, 0), (162, 12, 0, 0, 0), (163, 6, 0, 0, 0), (164, 8, 0, 0, 0), (165, 7, 5, 1, 0), (168, 5, 0, 65, 0), (171, 7, 4, 4294967295, 0), (174, 5, 0, 57, 0), (177, 0, 2, 0, 0), (178, 4, 1, 190, 0), (181, 0, 0, 2, 0), (182, 1, 125, 10, 61), (185, 2, 0, 32768, 0), (186, 6, 0, 0, 0), (187, 5, 0, 191, 0), (190, 0, 3, 0, 0), (191, 10, 0, 1, 0)], 3, 0, 0, 12, 8)
def fm_89 : fx_M := ([(0, 0, 2, 0, 0), (1, 2, 0, 32769, 1), (2, 3, 2, 11, 0), (5, 0, 2, 0, 0), (6, 2, 1, 32788, 20), (8, 3, 5, 13, 0), (11, 2, 0, 32767, 4294967295), (12, 10, 0, 1, 0), (13, 2, 0, 32768, 0), (14, 11, 3, 0, 0), (15, 0, 3, 0, 0), (16, 2, 1, 32777, 9), (18, 3, 4, 49, 0), (21, 0, 0, 2, 0), (22, 0, 3, 0, 0), (23, 0, 2, 0, 0), (24, 9, 0, 299, 197), (27, 0, 0, 2, 0), (28, 1, 33, 9, 3), (31, 1, 194, 8, 0), (34, 9, 0, 176, 143), (37, 0, 1, 0, 0), (38, 3, 2, 43, 0), (41, 0, 3, 0, 0), (42, 10, 0, 1, 0), (43, 7, 3, 1, 0), (46, 5, 0, 15, 0), (49, 2, 0, 32767, 4294967295), (50, 10, 0, 1, 0)], 3, 0, 0, 11, 4)
def fm_90 : fx_M := ([(0, 0, 2, 0, 0), (1, 2, 0, 32769, 1), (2, 2, 1, 32788, 20), (4, 9, 2, 394, 136), (7, 4, 1, 12, 0), (10, 2, 0, 32767, 4294967295), (11, 10, 0, 1, 0), (12, 2, 0, 32768, 0), (13, 11, 3, 0, 0), (14, 0, 3, 0, 0), (15, 2, 1, 32777, 9), (17, 3, 4, 49, 0), (20, 0, 0, 2, 0), (21, 9, 0, 501, 184), (24, 0, 0, 2, 0), (25, 1, 101, 10, 50), (28, 2, 1, 32782, 14), (30, 0, 3, 0, 0), (31, 8, 0, 0, 0), (32, 0, 0, 2, 0), (33, 0, 2, 0, 0), (34, 9, 0, 504, 185), (37, 0, 1, 0, 0), (38, 3, 2, 43, 0), (41, 0, 3, 0, 0), (42, 10, 0, 1, 0), (43, 7, 3, 1, 0), (46, 5, 0, 14, 0), (49, 2, 0, 32767, 4294967295), (50, 10, 0, 1, 0)], 3, 0, 0, 12, 4)
def fm_91 : fx_M := ([(0, 0, 1, 0, 0), (1, 2, 1, 32788, 20), (3, 9, 2, 200, 153), (6, 4, 1, 11, 0), (9, 2, 0, 32767, 4294967295), (10, 10, 0, 1, 0), (11, 2, 0, 32767, 4294967295), (12, 11, 2, 0, 0), (13, 2, 0, 32768, 0), (14, 11, 3, 0, 0), (15, 2, 0, 32768, 0), (16, 11, 4, 1, 0), (18, 0, 4, 1, 0), (20, 2, 1, 32777, 9), (22, 3, 4, 71, 0), (25, 0, 0, 2, 0), (26, 0, 4, 1, 0), (28, 0, 1, 0, 0), (29, 9, 0, 299, 197), (32, 0, 0, 2, 0), (33, 1, 19, 9, 1), (36, 0, 0, 2, 0), (37, 1, 33, 9, 3), (40, 1, 194, 8, 0), (43, 9, 0, 180, 145), (46, 11, 5, 1, 0), (48, 0, 2, 0, 0), (49, 2, 0, 32767, 4294967295), (50, 3, 0, 59, 0), (53, 0, 5, 1, 0), (55, 0, 3, 0, 0), (56, 3, 3, 65, 0), (59, 0, 4, 1, 0), (61, 11, 2, 0, 0), (62, 0, 5, 1, 0), (64, 11, 3, 0, 0), (65, 7, 4, 1, 0), (68, 5, 0, 18, 0), (71, 0, 2, 0, 0), (72, 10, 0, 1, 0)], 2, 0, 0, 11, 6)
def fm_92 : fx_M := ([(0, 0, 1, 0, 0), (1, 2, 0, 32768, 0), (2, 2, 1, 32788, 20), (4, 9, 2, 394, 136), (7, 4, 1, 12, 0), (10, 2, 0, 32767, 4294967295), (11, 10, 0, 1, 0), (12, 2, 0, 32768, 0), (13, 11, 2, 0, 0), (14, 2, 0, 32769, 1), (15, 11, 3, 0, 0), (16, 0, 3, 0, 0), (17, 2, 1, 32777, 9), (19, 3, 4, 45, 0), (22, 0, 0, 2, 0), (23, 0, 3, 0, 0), (24, 0, 1, 0, 0), (25, 9, 0, 519, 198), (28, 0, 0, 2, 0), (29, 0, 2, 0, 0), (30, 0, 1, 0, 0), (31, 9, 0, 519, 198), (34, 3, 3, 39, 0), (37, 0, 3, 0, 0), (38, 11, 2, 0, 0), (39, 7, 3, 1, 0), (42, 5, 0, 16, 0), (45, 0, 2, 0, 0), (46, 10, 0, 1, 0)], 2, 0, 0, 12, 4)
def fm_93 : fx_M := ([(0, 0, 1, 0, 0), (1, 2, 0, 32772, 4), (2, 9, 2, 200, 153), (5, 4, 0, 28, 0), (8, 0, 1, 0, 0), (9, 0, 0, 2, 0), (10, 1, 19, 9, 1), (13, 1, 121, 3, 12), (16, 12, 2, 0, 0), (17, 2, 0, 32772, 4), (18, 3, 4, 28, 0), (21, 0, 2, 0, 0), (22, 9, 2, 224, 163), (25, 4, 1, 30, 0), (28, 2, 0, 32767, 4294967295), (29, 10, 0, 1, 0), (30, 2, 1, 32868, 100), (32, 0, 0, 2, 0), (33, 1, 19, 9, 1), (36, 1, 302, 3, 13), (39, 12, 1, 0, 0), (40, 11, 3, 0, 0), (41, 0, 3, 0, 0), (42, 2, 1, 32868, 100), (44, 9, 2, 305, 199), (47, 11, 4, 1, 0), (49, 0, 2, 0, 0), (50, 4, 1, 57, 0), (53, 0, 3, 0, 0), (54, 5, 0, 59, 0), (57, 2, 1, 32868, 100), (59, 0, 4, 1, 0), (61, 2, 0, 32769, 1), (62, 29, 293, 0, 0), (65, 12, 3, 0, 0), (66, 0, 1, 0, 0), (67, 0, 0, 2, 0), (68, 1, 19, 9, 1), (71, 1, 121, 3, 12), (74, 12, 2, 0, 0), (75, 9, 2, 308, 200), (78, 10, 0, 1, 0)], 3, 0, 0, 11, 5)
def fm_94 : fx_M := ([(0, 0, 1, 0, 0), (1, 2, 0, 32768, 0), (2, 2, 0, 32772, 4), (3, 9, 2, 394, 136), (6, 4, 0, 28, 0), (9, 0, 1, 0, 0), (10, 0, 0, 2, 0), (11, 9, 0, 391, 26), (14, 12, 2, 0, 0), (15, 2, 0, 32772, 4), (16, 3, 4, 28, 0), (19, 0, 2, 0, 0), (20, 2, 0, 32768, 0), (21, 2, 0, 32769, 1), (22, 9, 2, 394, 136), (25, 4, 1, 30, 0), (28, 2, 0, 32767, 4294967295), (29, 10, 0, 1, 0), (30, 2, 1, 32868, 100), (32, 0, 0, 2, 0), (33, 1, 39, 10, 17), (36, 0, 0, 2, 0), (37, 1, 283, 10, 37), (40, 6, 0, 0, 0), (41, 12, 1, 0, 0), (42, 0, 1, 0, 0), (43, 0, 0, 2, 0), (44, 9, 0, 391, 26), (47, 12, 2, 0, 0), (48, 9, 2, 513, 195), (51, 11, 3, 0, 0), (52, 2, 1, 32868, 100), (54, 0, 1, 0, 0), (55, 0, 0, 2, 0), (56, 9, 0, 391, 26), (59, 12, 2, 0, 0), (60, 9, 2, 513, 195), (63, 11, 4, 1, 0), (65, 0, 2, 0, 0), (66, 4, 1, 73, 0), (69, 0, 3, 0, 0), (70, 5, 0, 75, 0), (73, 0, 4, 1, 0), (75, 0, 4, 1, 0), (77, 0, 3, 0, 0), (78, 9, 2, 522, 201), (81, 12, 3, 0, 0), (82, 10, 0, 1, 0)], 3, 0, 0, 12, 5)
def fm_95 : fx_M := ([(0, 0, 0, 2, 0), (1, 1, 33, 9, 3), (4, 0, 0, 2, 0), (5, 1, 19, 9, 1), (8, 0, 0, 2, 0), (9, 1, 26, 9, 2), (12, 9, 0, 128, 127), (15, 0, 0, 2, 0), (16, 1, 33, 9, 3), (19, 9, 0, 188, 148), (22, 15, 1, 0, 0), (23, 2, 0, 32768, 0), (24, 11, 2, 0, 0), (25, 2, 0, 32768, 0), (26, 11, 3, 0, 0), (27, 2, 0, 32768, 0), (28, 11, 4, 1, 0), (30, 0, 4, 1, 0), (32, 0, 0, 2, 0), (33, 1, 19, 9, 1), (36, 1, 121, 3, 12), (39, 3, 3, 106, 0), (42, 0, 0, 2, 0), (43, 1, 33, 9, 3), (46, 1, 194, 8, 0), (49, 1, 131, 6, 0), (52, 0, 4, 1, 0), (54, 6, 0, 0, 0), (55, 0, 0, 2, 0), (56, 1, 26, 9, 2), (59, 1, 131, 6, 0), (62, 0, 4, 1, 0), (64, 6, 0, 0, 0), (65, 12, 1, 0, 0), (66, 11, 5, 1, 0), (68, 0, 2, 0, 0), (69, 0, 5, 1, 0), (71, 4, 5, 81, 0), (74, 2, 0, 32769, 1), (75, 0, 4, 1, 0), (77, 12, 8, 0, 0), (78, 5, 0, 82, 0), (81, 2, 0, 32768, 0), (82, 12, 6, 0, 0), (83, 11, 2, 0, 0), (84, 0, 3, 0, 0), (85, 0, 5, 1, 0), (87, 4, 3, 97, 0), (90, 2, 0, 32769, 1), (91, 0, 4, 1, 0), (93, 12, 8, 0, 0), (94, 5, 0, 98, 0), (97, 2, 0, 32768, 0), (98, 12, 6, 0, 0), (99, 11, 3, 0, 0), (100, 7, 4, 1, 0), (103, 5, 0, 30, 0), (106, 0, 1, 0, 0), (107, 20, 154, 0, 9), (132, 0, 2, 0, 0), (133, 10, 0, 1, 0), (134, 0, 3, 0, 0), (135, 10, 0, 1, 0), (136, 2, 0, 32769, 1), (137, 0, 0, 2, 0), (138, 1, 19, 9, 1), (141, 1, 121, 3, 12), (144, 12, 8, 0, 0), (145, 2, 0, 32769, 1), (146, 12, 1, 0, 0), (147, 0, 2, 0, 0), (148, 0, 3, 0, 0), (149, 12, 6, 0, 0), (150, 2, 0, 32767, 4294967295), (151, 12, 7, 0, 0), (152, 12, 5, 0, 0), (153, 10, 0, 1, 0), (154, 2, 0, 32767, 4294967295), (155, 10, 0, 1, 0)], 2, 0, 0, 11, 6)
def fm_96 : fx_M := ([(0, 0, 1, 0, 0), (1, 2, 0, 32768, 0), (2, 2, 0, 32770, 2), (3, 9, 2, 394, 136), (6, 4, 1, 11, 0), (9, 2, 0, 32767, 4294967295), (10, 10, 0, 1, 0), (11, 0, 0, 2, 0), (12, 9, 0, 501, 184), (15, 0, 0, 2, 0), (16, 2, 0, 32769, 1), (17, 9, 0, 504, 185), (20, 11, 2, 0, 0), (21, 2, 0, 32768, 0), (22, 11, 3, 0, 0), (23, 2, 0, 32768, 0), (24, 11, 4, 1, 0), (26, 0, 4, 1, 0), (28, 0, 0, 2, 0), (29, 9, 0, 391, 26), (32, 3, 3, 103, 0), (35, 0, 0, 2, 0), (36, 1, 119, 10, 59), (39, 0, 4, 1, 0), (41, 6, 0, 0, 0), (42, 0, 0, 2, 0), (43, 1, 101, 10, 50), (46, 2, 0, 32768, 0), (47, 0, 4, 1, 0), (49, 12, 0, 0, 0), (50, 6, 0, 0, 0), (51, 3, 5, 58, 0), (54, 2, 0, 32768, 0), (55, 5, 0, 82, 0), (58, 0, 0, 2, 0), (59, 1, 119, 10, 59), (62, 0, 4, 1, 0), (64, 6, 0, 0, 0), (65, 0, 0, 2, 0), (66, 1, 101, 10, 50), (69, 2, 0, 32768, 0), (70, 0, 4, 1, 0), (72, 12, 0, 0, 0), (73, 6, 0, 0, 0), (74, 3, 3, 81, 0), (77, 2, 0, 32769, 1), (78, 5, 0, 82, 0), (81, 2, 0, 32770, 2), (82, 11, 5, 1, 0), (84, 0, 5, 1, 0), (86, 0, 1, 0, 0), (87, 3, 1, 97, 0), (90, 0, 3, 0, 0), (91, 2, 0, 32769, 1), (92, 0, 4, 1, 0), (94, 12, 8, 0, 0), (95, 12, 6, 0, 0), (96, 11, 3, 0, 0), (97, 7, 4, 1, 0), (100, 5, 0, 26, 0), (103, 0, 3, 0, 0), (104, 10, 0, 1, 0)], 2, 0, 0, 12, 6)
def fm_97 : fx_M := ([(0, 2, 0, 32767, 4294967295), (1, 11, 1, 0, 0), (2, 2, 0, 32768, 0), (3, 11, 2, 0, 0), (4, 2, 0, 32768, 0), (5, 11, 3, 0, 0), (6, 0, 3, 0, 0), (7, 0, 0, 2, 0), (8, 1, 19, 9, 1), (11, 1, 121, 3, 12), (14, 3, 3, 87, 0), (17, 0, 0, 2, 0), (18, 1, 33, 9, 3), (21, 0, 0, 2, 0), (22, 1, 19, 9, 1), (25, 0, 0, 2, 0), (26, 1, 26, 9, 2), (29, 9, 0, 128, 127), (32, 0, 0, 2, 0), (33, 1, 33, 9, 3), (36, 1, 194, 8, 0), (39, 1, 131, 6, 0), (42, 0, 3, 0, 0), (43, 2, 0, 32768, 0), (44, 8, 0, 0, 0), (45, 0, 0, 2, 0), (46, 1, 33, 9, 3), (49, 9, 0, 188, 148), (52, 15, 1, 0, 0), (53, 0, 0, 2, 0), (54, 1, 33, 9, 3), (57, 1, 194, 8, 0), (60, 9, 0, 176, 143), (63, 11, 4, 1, 0), (65, 0, 1, 0, 0), (66, 2, 0, 32767, 4294967295), (67, 3, 0, 76, 0), (70, 0, 4, 1, 0), (72, 0, 2, 0, 0), (73, 3, 3, 81, 0), (76, 0, 3, 0, 0), (77, 11, 1, 0, 0), (78, 0, 4, 1, 0), (80, 11, 2, 0, 0), (81, 7, 3, 1, 0), (84, 5, 0, 6, 0), (87, 0, 1, 0, 0), (88, 10, 0, 1, 0)], 1, 0, 0, 11, 5)
def fm_98 : fx_M := ([(0, 2, 0, 32767, 4294967295), (1, 11, 1, 0, 0), (2, 2, 0, 32768, 0), (3, 11, 2, 0, 0), (4, 2, 0, 32768, 0), (5, 11, 3, 0, 0), (6, 0, 3, 0, 0), (7, 0, 0, 2, 0), (8, 9, 0, 391, 26), (11, 3, 3, 58, 0), (14, 0, 0, 2, 0), (15, 9, 0, 501, 184), (18, 0, 0, 2, 0), (19, 1, 101, 10, 50), (22, 2, 0, 32768, 0), (23, 0, 3, 0, 0), (24, 12, 0, 0, 0), (25, 2, 0, 32768, 0), (26, 8, 0, 0, 0), (27, 0, 0, 2, 0), (28, 2, 0, 32769, 1), (29, 9, 0, 504, 185), (32, 11, 4, 1, 0), (34, 0, 1, 0, 0), (35, 4, 2, 47, 0), (38, 0, 4, 1, 0), (40, 0, 2, 0, 0), (41, 3, 2, 47, 0), (44, 5, 0, 52, 0), (47, 0, 3, 0, 0), (48, 11, 1, 0, 0), (49, 0, 4, 1, 0), (51, 11, 2, 0, 0), (52, 7, 3, 1, 0), (55, 5, 0, 6, 0), (58, 0, 1, 0, 0), (59, 10, 0, 1, 0)], 1, 0, 0, 12, 5)
def fm_99 : fx_M := ([(0, 0, 1, 0, 0), (1, 4, 2, 30, 0), (4, 0, 1, 0, 0), (5, 0, 0, 2, 0), (6, 1, 73, 9, 11), (9, 3, 3, 30, 0), (12, 0, 1, 0, 0), (13, 0, 0, 2, 0), (14, 1, 60, 9, 7), (17, 18, 0, 0, 0), (18, 3, 3, 30, 0), (21, 0, 0, 2, 0), (22, 1, 60, 9, 7), (25, 0, 1, 0, 0), (26, 6, 0, 0, 0), (27, 5, 0, 31, 0), (30, 2, 0, 32767, 4294967295), (31, 10, 0, 1, 0)], 2, 0, 0, 11, 2)
def fm_100 : fx_M := ([(0, 0, 1, 0, 0), (1, 2, 0, 32768, 0), (2, 0, 0, 2, 0), (3, 1, 410, 10, 57), (6, 2, 0, 32769, 1), (7, 12, 1, 0, 0), (8, 9, 2, 394, 136), (11, 4, 0, 23, 0), (14, 0, 0, 2, 0), (15, 1, 113, 10, 56), (18, 0, 1, 0, 0), (19, 6, 0, 0, 0), (20, 5, 0, 24, 0), (23, 2, 0, 32767, 4294967295), (24, 10, 0, 1, 0)], 2, 0, 0, 12, 2)
def fm_101 : fx_M := ([(0, 0, 1, 0, 0), (1, 2, 1, 32774, 6), (3, 9, 2, 200, 153), (6, 4, 0, 26, 0), (9, 0, 0, 2, 0), (10, 0, 2, 0, 0), (11, 9, 0, 124, 126), (14, 4, 0, 26, 0), (17, 0, 3, 0, 0), (18, 2, 1, 32777, 9), (20, 9, 2, 200, 153), (23, 4, 1, 28, 0), (26, 2, 0, 32767, 4294967295), (27, 10, 0, 1, 0), (28, 0, 0, 2, 0), (29, 1, 56, 9, 6), (32, 0, 1, 0, 0), (33, 0, 2, 0, 0), (34, 0, 3, 0, 0), (35, 0, 4, 1, 0), (37, 0, 0, 2, 0), (38, 1, 77, 9, 12), (41, 9, 0, 311, 202), (44, 10, 0, 1, 0)], 5, 0, 0, 11, 5)
def fm_102 : fx_M := ([(0, 0, 1, 0, 0), (1, 2, 0, 32768, 0), (2, 2, 1, 32774, 6), (4, 9, 2, 394, 136), (7, 4, 0, 34, 0), (10, 0, 0, 2, 0), (11, 0, 2, 0, 0), (12, 9, 0, 444, 130), (15, 4, 0, 34, 0), (18, 0, 3, 0, 0), (19, 9, 2, 474, 154), (22, 4, 0, 34, 0), (25, 0, 0, 2, 0), (26, 1, 407, 10, 69), (29, 2, 1, 32798, 30), (31, 3, 1, 36, 0), (34, 2, 0, 32767, 4294967295), (35, 10, 0, 1, 0), (36, 0, 0, 2, 0), (37, 1, 128, 10, 62), (40, 0, 0, 2, 0), (41, 1, 407, 10, 69), (44, 0, 1, 0, 0), (45, 8, 0, 0, 0), (46, 0, 0, 2, 0), (47, 1, 131, 10, 63), (50, 0, 0, 2, 0), (51, 1, 407, 10, 69), (54, 0, 2, 0, 0), (55, 8, 0, 0, 0), (56, 0, 0, 2, 0), (57, 1, 134, 10, 64), (60, 0, 0, 2, 0), (61, 1, 407, 10, 69), (64, 0, 3, 0, 0), (65, 8, 0, 0, 0), (66, 0, 0, 2, 0), (67, 1, 137, 10, 65), (70, 0, 0, 2, 0), (71, 1, 407, 10, 69), (74, 0, 4, 1, 0), (76, 4, 0, 83, 0), (79, 2, 0, 32769, 1), (80, 5, 0, 84, 0), (83, 2, 0, 32768, 0), (84, 8, 0, 0, 0), (85, 0, 0, 2, 0), (86, 1, 140, 10, 66), (89, 0, 0, 2, 0), (90, 1, 407, 10, 69), (93, 0, 0, 2, 0), (94, 1, 525, 10, 70), (97, 8, 0, 0, 0), (98, 0, 0, 2, 0), (99, 1, 143, 10, 67), (102, 0, 0, 2, 0), (103, 1, 407, 10, 69), (106, 2, 0, 32767, 4294967295), (107, 8, 0, 0, 0), (108, 0, 0, 2, 0), (109, 15, 0, 0, 0), (110, 1, 407, 10, 69), (113, 2, 0, 32769, 1), (114, 12, 0, 0, 0), (115, 14, 407, 10, 552), (118, 0, 0, 2, 0), (119, 1, 407, 10, 69), (122, 2, 0, 32769, 1), (123, 12, 1, 0, 0), (124, 10, 0, 1, 0)], 5, 0, 0, 12, 5)
def fm_103 : fx_M := ([(0, 0, 0, 2, 0), (1, 1, 56, 9, 6), (4, 0, 1, 0, 0), (5, 0, 0, 2, 0), (6, 1, 77, 9, 12), (9, 9, 0, 315, 203), (12, 10, 0, 2, 0)], 2, 0, 0, 11, 2)
def fm_104 : fx_M := ([(0, 0, 1, 0, 0), (1, 2, 0, 32768, 0), (2, 0, 0, 2, 0), (3, 1, 407, 10, 69), (6, 2, 0, 32769, 1), (7, 12, 1, 0, 0), (8, 9, 2, 394, 136), (11, 4, 0, 23, 0), (14, 0, 0, 2, 0), (15, 1, 143, 10, 67), (18, 0, 1, 0, 0), (19, 6, 0, 0, 0), (20, 4, 2, 25, 0), (23, 2, 0, 32768, 0), (24, 10, 0, 2, 0), (25, 0, 0, 2, 0), (26, 1, 143, 10, 67), (29, 0, 1, 0, 0), (30, 0, 0, 2, 0), (31, 1, 525, 10, 70), (34, 8, 0, 0, 0), (35, 2, 0, 32769, 1), (36, 10, 0, 2, 0)], 2, 0, 0, 12, 2)
def fm_105 : fx_M := ([(0, 0, 1, 0, 0), (1, 2, 2, 33768, 1000), (4, 9, 2, 200, 153), (7, 4, 0, 22, 0), (10, 0, 0, 2, 0), (11, 1, 77, 9, 12), (14, 0, 1, 0, 0), (15, 12, 0, 0, 0), (16, 2, 4, 317, 100000), (19, 3, 5, 24, 0), (22, 2, 0, 32767, 4294967295), (23, 10, 0, 1, 0), (24, 0, 0, 2, 0), (25, 15, 0, 0, 0), (26, 1, 77, 9, 12), (29, 0, 1, 0, 0), (30, 12, 0, 0, 0), (31, 14, 77, 9, 96), (34, 0, 0, 2, 0), (35, 1, 77, 9, 12), (38, 10, 0, 1, 0)], 2, 0, 0, 11, 2)
def fm_106 : fx_M := ([(0, 0, 1, 0, 0), (1, 2, 0, 32768, 0), (2, 2, 2, 33768, 1000), (5, 9, 2, 394, 136), (8, 4, 0, 23, 0), (11, 0, 0, 2, 0), (12, 1, 525, 10, 70), (15, 0, 1, 0, 0), (16, 12, 0, 0, 0), (17, 2, 4, 528, 100000), (20, 3, 5, 25, 0), (23, 2, 0, 32767, 4294967295), (24, 10, 0, 1, 0), (25, 0, 0, 2, 0), (26, 15, 0, 0, 0), (27, 1, 525, 10, 70), (30, 0, 1, 0, 0), (31, 12, 0, 0, 0), (32, 14, 525, 10, 560), (35, 0, 0, 2, 0), (36, 1, 525, 10, 70), (39, 10, 0, 1, 0)], 2, 0, 0, 12, 2)
def fm_107 : fx_M := ([(0, 0, 0, 2, 0), (1, 0, 1, 0, 0), (2, 9, 0, 318, 204), (5, 10, 0, 1, 0)], 2, 0, 0, 11, 2)
def fm_108 : fx_M := ([(0, 2, 0, 32768, 0), (1, 11, 2, 0, 0), (2, 2, 0, 32768, 0), (3, 11, 3, 0, 0), (4, 0, 3, 0, 0), (5, 2, 1, 32777, 9), (7, 3, 4, 31, 0), (10, 0, 0, 2, 0), (11, 0, 3, 0, 0), (12, 0, 1, 0, 0), (13, 9, 0, 532, 205), (16, 4, 0, 25, 0), (19, 0, 2, 0, 0), (20, 2, 0, 32769, 1), (21, 0, 3, 0, 0), (22, 12, 8, 0, 0), (23, 12, 6, 0, 0), (24, 11, 2, 0, 0), (25, 7, 3, 1, 0), (28, 5, 0, 4, 0), (31, 0, 2, 0, 0), (32, 10, 0, 1, 0)], 2, 0, 0, 12, 4)
def fm_109 : fx_M := ([(0, 0, 1, 0, 0), (1, 2, 1, 32774, 6), (3, 9, 2, 200, 153), (6, 4, 0, 16, 0), (9, 0, 2, 0, 0), (10, 9, 2, 224, 163), (13, 4, 1, 18, 0), (16, 2, 0, 32767, 4294967295), (17, 10, 0, 1, 0), (18, 0, 0, 2, 0), (19, 0, 3, 0, 0), (20, 9, 0, 318, 204), (23, 11, 4, 1, 0), (25, 0, 4, 1, 0), (27, 4, 0, 40, 0), (30, 0, 0, 2, 0), (31, 1, 19, 9, 1), (34, 1, 121, 3, 12), (37, 4, 1, 42, 0), (40, 2, 0, 32767, 4294967295), (41, 10, 0, 1, 0), (42, 0, 0, 2, 0), (43, 0, 4, 1, 0), (45, 0, 1, 0, 0), (46, 9, 0, 332, 206), (49, 2, 0, 32767, 4294967295), (50, 11, 5, 1, 0), (52, 2, 0, 32768, 0), (53, 11, 6, 1, 0), (55, 2, 0, 32768, 0), (56, 11, 7, 1, 0), (58, 0, 7, 1, 0), (60, 0, 0, 2, 0), (61, 1, 19, 9, 1), (64, 1, 121, 3, 12), (67, 3, 3, 107, 0), (70, 0, 0, 2, 0), (71, 0, 7, 1, 0), (73, 0, 4, 1, 0), (75, 9, 0, 335, 207), (78, 11, 8, 1, 0), (80, 0, 5, 1, 0), (82, 2, 0, 32767, 4294967295), (83, 3, 0, 93, 0), (86, 0, 8, 1, 0), (88, 0, 6, 1, 0), (90, 3, 3, 101, 0), (93, 0, 7, 1, 0), (95, 11, 5, 1, 0), (97, 0, 8, 1, 0), (99, 11, 6, 1, 0), (101, 7, 7, 1, 0), (104, 5, 0, 58, 0), (107, 0, 2, 0, 0), (108, 4, 1, 116, 0), (111, 0, 5, 1, 0), (113, 5, 0, 118, 0), (116, 0, 6, 1, 0), (118, 10, 0, 1, 0)], 4, 0, 0, 11, 9)
def fm_110 : fx_M := ([(0, 0, 0, 2, 0), (1, 0, 3, 0, 0), (2, 9, 0, 535, 108), (5, 11, 4, 1, 0), (7, 0, 1, 0, 0), (8, 2, 0, 32768, 0), (9, 2, 1, 32774, 6), (11, 9, 2, 394, 136), (14, 4, 0, 31, 0), (17, 0, 2, 0, 0), (18, 2, 0, 32768, 0), (19, 2, 0, 32769, 1), (20, 9, 2, 394, 136), (23, 4, 0, 31, 0), (26, 0, 4, 1, 0), (28, 4, 1, 33, 0), (31, 2, 0, 32767, 4294967295), (32, 10, 0, 1, 0), (33, 2, 0, 32767, 4294967295), (34, 11, 5, 1, 0), (36, 2, 0, 32768, 0), (37, 11, 6, 1, 0), (39, 2, 0, 32768, 0), (40, 11, 7, 1, 0), (42, 0, 7, 1, 0), (44, 0, 0, 2, 0), (45, 9, 0, 391, 26), (48, 3, 3, 91, 0), (51, 0, 0, 2, 0), (52, 0, 4, 1, 0), (54, 0, 1, 0, 0), (55, 0, 7, 1, 0), (57, 9, 0, 538, 208), (60, 11, 8, 1, 0), (62, 0, 5, 1, 0), (64, 4, 2, 77, 0), (67, 0, 8, 1, 0), (69, 0, 6, 1, 0), (71, 3, 2, 77, 0), (74, 5, 0, 85, 0), (77, 0, 7, 1, 0), (79, 11, 5, 1, 0), (81, 0, 8, 1, 0), (83, 11, 6, 1, 0), (85, 7, 7, 1, 0), (88, 5, 0, 42, 0), (91, 0, 5, 1, 0), (93, 4, 3, 100, 0), (96, 2, 0, 32767, 4294967295), (97, 5, 0, 111, 0), (100, 0, 2, 0, 0), (101, 4, 1, 109, 0), (104, 0, 5, 1, 0), (106, 5, 0, 111, 0), (109, 0, 6, 1, 0), (111, 10, 0, 1, 0)], 4, 0, 0, 12, 9)
def fm_111 : fx_M := ([(0, 0, 1, 0, 0), (1, 4, 2, 9, 0), (4, 0, 1, 0, 0), (5, 2, 0, 32771, 3), (6, 3, 2, 11, 0), (9, 2, 0, 32767, 4294967295), (10, 10, 0, 1, 0), (11, 0, 0, 2, 0), (12, 1, 49, 9, 5), (15, 0, 1, 0, 0), (16, 0, 0, 2, 0), (17, 1, 26, 9, 2), (20, 9, 0, 350, 209), (23, 0, 0, 2, 0), (24, 1, 26, 9, 2), (27, 1, 150, 6, 3), (30, 10, 0, 1, 0)], 2, 0, 0, 11, 2)
def fm_112 : fx_M := ([(0, 0, 1, 0, 0), (1, 2, 0, 32768, 0), (2, 2, 0, 32770, 2), (3, 9, 2, 394, 136), (6, 4, 1, 11, 0), (9, 2, 0, 32767, 4294967295), (10, 10, 0, 1, 0), (11, 2, 0, 32768, 0), (12, 11, 2, 0, 0), (13, 0, 2, 0, 0), (14, 2, 1, 32785, 17), (16, 3, 3, 42, 0), (19, 0, 0, 2, 0), (20, 1, 149, 10, 71), (23, 2, 1, 32785, 17), (25, 0, 1, 0, 0), (26, 12, 2, 0, 0), (27, 0, 2, 0, 0), (28, 12, 0, 0, 0), (29, 0, 0, 2, 0), (30, 1, 101, 10, 50), (33, 0, 2, 0, 0), (34, 6, 0, 0, 0), (35, 8, 0, 0, 0), (36, 7, 2, 1, 0), (39, 5, 0, 13, 0), (42, 0, 0, 2, 0), (43, 1, 152, 10, 72), (46, 0, 1, 0, 0), (47, 2, 0, 32769, 1), (48, 8, 1, 0, 0), (49, 0, 0, 2, 0), (50, 1, 101, 10, 50), (53, 2, 1, 32783, 15), (55, 6, 0, 0, 0), (56, 10, 0, 1, 0)], 2, 0, 0, 12, 3)
def fm_113 : fx_M := ([(0, 0, 0, 2, 0), (1, 1, 49, 9, 5), (4, 0, 1, 0, 0), (5, 0, 0, 2, 0), (6, 1, 26, 9, 2), (9, 9, 0, 354, 210), (12, 4, 1, 17, 0), (15, 2, 0, 32767, 4294967295), (16, 10, 0, 1, 0), (17, 0, 0, 2, 0), (18, 1, 40, 9, 4), (21, 9, 0, 116, 120), (24, 0, 0, 2, 0), (25, 1, 26, 9, 2), (28, 1, 150, 6, 3), (31, 10, 0, 1, 0)], 2, 0, 0, 11, 2)
def fm_114 : fx_M := ([(0, 0, 1, 0, 0), (1, 2, 0, 32768, 0), (2, 2, 0, 32770, 2), (3, 9, 2, 394, 136), (6, 4, 0, 18, 0), (9, 0, 0, 2, 0), (10, 1, 152, 10, 72), (13, 0, 1, 0, 0), (14, 6, 1, 0, 0), (15, 4, 1, 20, 0), (18, 2, 0, 32767, 4294967295), (19, 10, 0, 1, 0), (20, 2, 0, 32768, 0), (21, 11, 2, 0, 0), (22, 0, 2, 0, 0), (23, 2, 1, 32785, 17), (25, 3, 3, 51, 0), (28, 0, 0, 2, 0), (29, 1, 101, 10, 50), (32, 0, 2, 0, 0), (33, 0, 0, 2, 0), (34, 1, 149, 10, 71), (37, 2, 1, 32785, 17), (39, 0, 1, 0, 0), (40, 12, 2, 0, 0), (41, 0, 2, 0, 0), (42, 12, 0, 0, 0), (43, 6, 0, 0, 0), (44, 8, 0, 0, 0), (45, 7, 2, 1, 0), (48, 5, 0, 22, 0), (51, 0, 0, 2, 0), (52, 2, 0, 32768, 0), (53, 14, 401, 10, 424), (56, 0, 0, 2, 0), (57, 2, 0, 32768, 0), (58, 14, 404, 10, 432), (61, 0, 0, 2, 0), (62, 1, 101, 10, 50), (65, 2, 1, 32783, 15), (67, 6, 0, 0, 0), (68, 10, 0, 1, 0)], 2, 0, 0, 12, 3)
def fm_115 : fx_M := ([(0, 0, 1, 0, 0), (1, 20, 195, 0, 10), (72, 0, 0, 2, 0), (73, 1, 19, 9, 1), (76, 1, 121, 3, 12), (79, 10, 0, 1, 0), (80, 0, 0, 2, 0), (81, 1, 19, 9, 1), (84, 1, 157, 3, 11), (87, 10, 0, 1, 0), (88, 0, 0, 2, 0), (89, 1, 19, 9, 1), (92, 1, 358, 3, 9), (95, 10, 0, 1, 0), (96, 0, 0, 2, 0), (97, 1, 19, 9, 1), (100, 1, 361, 3, 10), (103, 10, 0, 1, 0), (104, 0, 0, 2, 0), (105, 1, 26, 9, 2), (108, 1, 204, 6, 2), (111, 10, 0, 1, 0), (112, 0, 0, 2, 0), (113, 1, 26, 9, 2), (116, 1, 150, 6, 3), (119, 10, 0, 1, 0), (120, 0, 0, 2, 0), (121, 1, 26, 9, 2), (124, 1, 364, 6, 4), (127, 10, 0, 1, 0), (128, 0, 0, 2, 0), (129, 1, 40, 9, 4), (132, 1, 367, 0, 1), (135, 10, 0, 1, 0), (136, 0, 0, 2, 0), (137, 1, 40, 9, 4), (140, 1, 370, 0, 2), (143, 10, 0, 1, 0), (144, 0, 0, 2, 0), (145, 1, 56, 9, 6), (148, 1, 373, 2, 6), (151, 10, 0, 1, 0), (152, 0, 0, 2, 0), (153, 1, 77, 9, 12), (156, 10, 0, 1, 0), (157, 0, 0, 2, 0), (158, 1, 10, 9, 0), (161, 1, 93, 4, 0), (164, 1, 97, 7, 3), (167, 10, 0, 1, 0), (168, 0, 0, 2, 0), (169, 1, 19, 9, 1), (172, 1, 376, 3, 7), (175, 1, 380, 1, 3), (178, 0, 0, 2, 0), (179, 1, 19, 9, 1), (182, 1, 385, 3, 8), (185, 1, 380, 1, 3), (188, 12, 0, 0, 0), (189, 10, 0, 1, 0), (190, 0, 0, 2, 0), (191, 1, 73, 9, 11), (194, 10, 0, 1, 0), (195, 2, 0, 32767, 4294967295), (196, 10, 0, 1, 0)], 2, 0, 0, 11, 2)
def fm_116 : fx_M := ([(0, 0, 1, 0, 0), (1, 20, 171, 0, 11), (72, 0, 0, 2, 0), (73, 9, 0, 391, 26), (76, 10, 0, 1, 0), (77, 0, 0, 2, 0), (78, 1, 30, 10, 14), (81, 0, 0, 2, 0), (82, 1, 283, 10, 37), (85, 6, 0, 0, 0), (86, 10, 0, 1, 0), (87, 0, 0, 2, 0), (88, 1, 20, 10, 11), (91, 0, 0, 2, 0), (92, 1, 283, 10, 37), (95, 6, 0, 0, 0), (96, 10, 0, 1, 0), (97, 0, 0, 2, 0), (98, 1, 24, 10, 12), (101, 0, 0, 2, 0), (102, 1, 283, 10, 37), (105, 6, 0, 0, 0), (106, 10, 0, 1, 0), (107, 0, 0, 2, 0), (108, 1, 101, 10, 50), (111, 2, 1, 32782, 14), (113, 6, 0, 0, 0), (114, 10, 0, 1, 0), (115, 0, 0, 2, 0), (116, 1, 101, 10, 50), (119, 2, 1, 32783, 15), (121, 6, 0, 0, 0), (122, 10, 0, 1, 0), (123, 0, 0, 2, 0), (124, 1, 101, 10, 50), (127, 2, 1, 32784, 16), (129, 6, 0, 0, 0), (130, 10, 0, 1, 0), (131, 0, 0, 2, 0), (132, 1, 401, 10, 53), (135, 10, 0, 1, 0), (136, 0, 0, 2, 0), (137, 1, 404, 10, 54), (140, 10, 0, 1, 0), (141, 0, 0, 2, 0), (142, 1, 407, 10, 69), (145, 10, 0, 1, 0), (146, 0, 0, 2, 0), (147, 1, 525, 10, 70), (150, 10, 0, 1, 0), (151, 0, 0, 2, 0), (152, 1, 280, 10, 2), (155, 10, 0, 1, 0), (156, 0, 0, 2, 0), (157, 1, 36, 10, 16), (160, 0, 0, 2, 0), (161, 1, 283, 10, 37), (164, 6, 0, 0, 0), (165, 10, 0, 1, 0), (166, 0, 0, 2, 0), (167, 1, 410, 10, 57), (170, 10, 0, 1, 0), (171, 2, 0, 32767, 4294967295), (172, 10, 0, 1, 0)], 2, 0, 0, 12, 2)
def fm_117 : fx_M := ([(0, 2, 1, 32792, 24), (2, 11, 2, 0, 0), (3, 0, 2, 0, 0), (4, 4, 2, 48, 0), (7, 0, 0, 2, 0), (8, 1, 23, 7, 3), (11, 0, 0, 2, 0), (12, 1, 9, 7, 0), (15, 18, 0, 0, 0), (16, 3, 3, 48, 0), (19, 0, 0, 2, 0), (20, 1, 9, 7, 0), (23, 0, 0, 2, 0), (24, 1, 23, 7, 3), (27, 0, 1, 0, 0), (28, 0, 2, 0, 0), (29, 12, 9, 0, 0), (30, 13, 1, 0, 0), (31, 8, 1, 0, 0), (32, 0, 0, 2, 0), (33, 15, 0, 0, 0), (34, 1, 23, 7, 3), (37, 2, 0, 32769, 1), (38, 12, 0, 0, 0), (39, 14, 23, 7, 24), (42, 7, 2, 4294967288, 0), (45, 5, 0, 3, 0), (48, 10, 1, 0, 0)], 2, 0, 0, 9, 3)
def fm_118 : fx_M := ([(0, 0, 0, 2, 0), (1, 1, 21, 4, 1), (4, 9, 0, 32, 13), (7, 0, 0, 2, 0), (8, 2, 0, 32768, 0), (9, 14, 25, 4, 16), (12, 0, 0, 2, 0), (13, 2, 0, 32767, 4294967295), (14, 14, 29, 4, 24), (17, 0, 0, 2, 0), (18, 1, 12, 4, 0), (21, 9, 0, 35, 211), (24, 2, 0, 32769, 1), (25, 11, 1, 0, 0), (26, 2, 0, 32768, 0), (27, 11, 2, 0, 0), (28, 0, 2, 0, 0), (29, 2, 2, 34368, 1600), (32, 3, 3, 69, 0), (35, 0, 1, 0, 0), (36, 4, 0, 69, 0), (39, 0, 0, 2, 0), (40, 1, 12, 4, 0), (43, 1, 38, 7, 4), (46, 4, 0, 69, 0), (49, 0, 0, 2, 0), (50, 0, 2, 0, 0), (51, 4, 1, 58, 0), (54, 2, 0, 32769, 1), (55, 5, 0, 59, 0), (58, 2, 0, 32768, 0), (59, 9, 0, 41, 212), (62, 11, 1, 0, 0), (63, 7, 2, 1, 0), (66, 5, 0, 28, 0), (69, 10, 1, 0, 0)], 1, 0, 0, 6, 3)
def fm_119 : fx_M := ([(0, 0, 0, 2, 0), (1, 1, 40, 8, 8), (4, 2, 0, 32768, 0), (5, 9, 2, 147, 14), (8, 10, 1, 0, 0)], 1, 0, 0, 10, 1)
def fm_120 : fx_M := ([(0, 0, 0, 2, 0), (1, 2, 0, 32768, 0), (2, 14, 20, 0, 8), (5, 0, 0, 2, 0), (6, 2, 0, 32768, 0), (7, 14, 24, 0, 16), (10, 10, 1, 0, 0)], 1, 0, 0, 2, 1)
def fm_121 : fx_M := ([(0, 2, 0, 32768, 0), (1, 11, 1, 0, 0), (2, 0, 1, 0, 0), (3, 0, 0, 2, 0), (4, 1, 25, 5, 2), (7, 18, 0, 0, 0), (8, 3, 3, 24, 0), (11, 0, 0, 2, 0), (12, 1, 25, 5, 2), (15, 0, 1, 0, 0), (16, 2, 0, 32768, 0), (17, 8, 1, 0, 0), (18, 7, 1, 1, 0), (21, 5, 0, 2, 0), (24, 10, 1, 0, 0)], 1, 0, 0, 7, 2)
def fm_122 : fx_M := ([(0, 0, 0, 2, 0), (1, 2, 0, 32768, 0), (2, 14, 31, 2, 48), (5, 10, 1, 0, 0)], 1, 0, 0, 4, 1)
def fm_123 : fx_M := ([(0, 0, 0, 2, 0), (1, 0, 0, 2, 0), (2, 1, 215, 10, 7), (5, 14, 218, 10, 48), (8, 0, 0, 2, 0), (9, 1, 218, 10, 6), (12, 0, 0, 2, 0), (13, 1, 161, 10, 3), (16, 3, 3, 58, 0), (19, 0, 0, 2, 0), (20, 0, 0, 2, 0), (21, 1, 218, 10, 6), (24, 9, 0, 221, 213), (27, 2, 1, 32800, 32), (29, 3, 0, 45, 0), (32, 0, 0, 2, 0), (33, 0, 0, 2, 0), (34, 1, 218, 10, 6), (37, 9, 0, 221, 213), (40, 2, 1, 32778, 10), (42, 3, 1, 58, 0), (45, 0, 0, 2, 0), (46, 15, 0, 0, 0), (47, 1, 218, 10, 6), (50, 2, 0, 32769, 1), (51, 12, 0, 0, 0), (52, 14, 218, 10, 48), (55, 5, 0, 8, 0), (58, 0, 0, 2, 0), (59, 0, 0, 2, 0), (60, 1, 218, 10, 6), (63, 9, 0, 221, 213), (66, 11, 1, 0, 0), (67, 0, 0, 2, 0), (68, 0, 0, 2, 0), (69, 1, 218, 10, 6), (72, 2, 0, 32769, 1), (73, 12, 0, 0, 0), (74, 14, 215, 10, 56), (77, 0, 0, 2, 0), (78, 1, 218, 10, 6), (81, 0, 0, 2, 0), (82, 1, 161, 10, 3), (85, 3, 2, 112, 0), (88, 0, 0, 2, 0), (89, 2, 0, 32768, 0), (90, 14, 225, 10, 64), (93, 0, 0, 2, 0), (94, 0, 0, 2, 0), (95, 1, 161, 10, 3), (98, 14, 218, 10, 48), (101, 0, 0, 2, 0), (102, 0, 0, 2, 0), (103, 1, 161, 10, 3), (106, 14, 215, 10, 56), (109, 5, 0, 377, 0), (112, 0, 1, 0, 0), (113, 9, 2, 228, 214), (116, 4, 0, 239, 0), (119, 0, 0, 2, 0), (120, 0, 0, 2, 0), (121, 1, 215, 10, 7), (124, 9, 0, 221, 213), (127, 9, 2, 228, 214), (130, 4, 0, 146, 0), (133, 0, 0, 2, 0), (134, 15, 0, 0, 0), (135, 1, 215, 10, 7), (138, 2, 0, 32769, 1), (139, 12, 0, 0, 0), (140, 14, 215, 10, 56), (143, 5, 0, 119, 0), (146, 0, 0, 2, 0), (147, 2, 5, 0, 0), (148, 14, 232, 10, 83), (151, 0, 0, 2, 0), (152, 1, 218, 10, 6), (155, 11, 2, 0, 0), (156, 0, 2, 0, 0), (157, 0, 0, 2, 0), (158, 1, 215, 10, 7), (161, 3, 3, 199, 0), (164, 0, 2, 0, 0), (165, 0, 0, 2, 0), (166, 1, 218, 10, 6), (169, 2, 1, 32776, 8), (171, 12, 0, 0, 0), (172, 3, 3, 199, 0), (175, 0, 0, 2, 0), (176, 0, 0, 2, 0), (177, 1, 232, 10, 10), (180, 2, 1, 32776, 8), (182, 31, 0, 0, 0), (183, 0, 0, 2, 0), (184, 0, 2, 0, 0), (185, 9, 0, 221, 213), (188, 13, 3, 0, 0), (189, 24, 3, 0, 0), (190, 14, 232, 10, 83), (193, 7, 2, 1, 0), (196, 5, 0, 156, 0), (199, 0, 0, 2, 0), (200, 0, 0, 2, 0), (201, 1, 215, 10, 7), (204, 0, 0, 2, 0), (205, 1, 218, 10, 6), (208, 12, 1, 0, 0), (209, 2, 1, 32776, 8), (211, 3, 5, 218, 0), (214, 2, 0, 32769, 1), (215, 5, 0, 233, 0), (218, 0, 0, 2, 0), (219, 1, 232, 10, 10), (222, 9, 2, 236, 215), (225, 4, 0, 232, 0), (228, 2, 0, 32771, 3), (229, 5, 0, 233, 0), (232, 2, 0, 32770, 2), (233, 14, 225, 10, 64), (236, 5, 0, 377, 0), (239, 0, 1, 0, 0), (240, 9, 2, 240, 216), (243, 4, 0, 361, 0), (246, 0, 0, 2, 0), (247, 2, 0, 32768, 0), (248, 14, 243, 10, 72), (251, 0, 0, 2, 0), (252, 0, 0, 2, 0), (253, 1, 218, 10, 6), (256, 14, 215, 10, 56), (259, 0, 0, 2, 0), (260, 0, 0, 2, 0), (261, 1, 215, 10, 7), (264, 9, 0, 221, 213), (267, 9, 2, 240, 216), (270, 4, 0, 322, 0), (273, 0, 0, 2, 0), (274, 1, 215, 10, 7), (277, 0, 0, 2, 0), (278, 1, 218, 10, 6), (281, 12, 1, 0, 0), (282, 2, 0, 32772, 4), (283, 3, 3, 309, 0), (286, 0, 0, 2, 0), (287, 2, 1, 32778, 10), (289, 0, 0, 2, 0), (290, 1, 243, 10, 9), (293, 12, 2, 0, 0), (294, 0, 0, 2, 0), (295, 0, 0, 2, 0), (296, 1, 215, 10, 7), (299, 9, 0, 221, 213), (302, 12, 0, 0, 0), (303, 2, 1, 32816, 48), (305, 12, 1, 0, 0), (306, 14, 243, 10, 72), (309, 0, 0, 2, 0), (310, 15, 0, 0, 0), (311, 1, 215, 10, 7), (314, 2, 0, 32769, 1), (315, 12, 0, 0, 0), (316, 14, 215, 10, 56), (319, 5, 0, 259, 0), (322, 0, 0, 2, 0), (323, 0, 0, 2, 0), (324, 1, 215, 10, 7), (327, 0, 0, 2, 0), (328, 1, 218, 10, 6), (331, 12, 1, 0, 0), (332, 2, 0, 32772, 4), (333, 3, 4, 350, 0), (336, 0, 0, 2, 0), (337, 0, 0, 2, 0), (338, 1, 215, 10, 7), (341, 9, 0, 221, 213), (344, 9, 2, 228, 214), (347, 4, 0, 354, 0), (350, 2, 0, 32769, 1), (351, 5, 0, 355, 0), (354, 2, 0, 32772, 4), (355, 14, 225, 10, 64), (358, 5, 0, 377, 0), (361, 0, 0, 2, 0), (362, 0, 1, 0, 0), (363, 9, 2, 246, 217), (366, 4, 0, 373, 0), (369, 2, 0, 32773, 5), (370, 5, 0, 374, 0), (373, 2, 0, 32769, 1), (374, 14, 225, 10, 64), (377, 10, 1, 0, 0)], 1, 0, 0, 12, 3)
def fm_124 : fx_M := ([(0, 0, 0, 2, 0), (1, 1, 164, 10, 4), (4, 4, 1, 11, 0), (7, 2, 0, 32769, 1), (8, 5, 0, 12, 0), (11, 2, 0, 32768, 0), (12, 10, 0, 2, 0)], 1, 0, 0, 12, 1)
def fm_125 : fx_M := ([(0, 0, 0, 2, 0), (1, 1, 232, 10, 10), (4, 11, 1, 4, 0), (5, 0, 0, 2, 0), (6, 1, 225, 10, 8), (9, 2, 0, 32771, 3), (10, 3, 1, 20, 0), (13, 0, 0, 2, 0), (14, 9, 0, 289, 218), (17, 4, 0, 24, 0), (20, 0, 0, 2, 0), (21, 9, 0, 260, 219), (24, 0, 0, 2, 0), (25, 9, 0, 253, 124), (28, 4, 1, 32, 0), (31, 10, 1, 0, 0), (32, 0, 0, 2, 0), (33, 1, 27, 10, 13), (36, 0, 0, 2, 0), (37, 1, 274, 10, 38), (40, 15, 2, 0, 0), (41, 6, 0, 0, 0), (42, 2, 0, 32769, 1), (43, 12, 0, 0, 0), (44, 8, 0, 0, 0), (45, 0, 0, 2, 0), (46, 9, 0, 257, 123), (49, 0, 1, 4, 0), (50, 2, 6, 167, 1751215212), (53, 30, 0, 0, 0), (54, 4, 1, 90, 0), (57, 0, 0, 2, 0), (58, 1, 20, 10, 11), (61, 0, 0, 2, 0), (62, 1, 274, 10, 38), (65, 0, 0, 2, 0), (66, 2, 0, 32769, 1), (67, 2, 0, 32772, 4), (68, 9, 0, 270, 220), (71, 8, 0, 0, 0), (72, 0, 0, 2, 0), (73, 1, 24, 10, 12), (76, 0, 0, 2, 0), (77, 1, 274, 10, 38), (80, 0, 0, 2, 0), (81, 2, 6, 169, 25209), (84, 2, 0, 32769, 1), (85, 2, 0, 32772, 4), (86, 9, 0, 292, 221), (89, 8, 0, 0, 0), (90, 0, 1, 4, 0), (91, 2, 6, 171, 7235441220320322420), (94, 30, 0, 0, 0), (95, 4, 1, 102, 0), (98, 0, 0, 2, 0), (99, 9, 0, 296, 222), (102, 0, 1, 4, 0), (103, 2, 6, 175, 120282394289522), (106, 30, 0, 0, 0), (107, 4, 1, 114, 0), (110, 0, 0, 2, 0), (111, 9, 0, 299, 223), (114, 0, 1, 4, 0), (115, 2, 6, 185, 1819242347), (118, 30, 0, 0, 0), (119, 4, 1, 127, 0), (122, 0, 0, 2, 0), (123, 2, 0, 32768, 0), (124, 9, 0, 302, 224), (127, 0, 1, 4, 0), (128, 2, 6, 187, 465624852596), (131, 30, 0, 0, 0), (132, 4, 1, 140, 0), (135, 0, 0, 2, 0), (136, 2, 0, 32769, 1), (137, 9, 0, 302, 224), (140, 0, 1, 4, 0), (141, 2, 6, 189, 500085781608), (144, 30, 0, 0, 0), (145, 4, 1, 193, 0), (148, 0, 0, 2, 0), (149, 1, 73, 10, 28), (152, 0, 0, 2, 0), (153, 1, 274, 10, 38), (156, 2, 0, 32769, 1), (157, 8, 1, 0, 0), (158, 0, 0, 2, 0), (159, 1, 39, 10, 17), (162, 0, 0, 2, 0), (163, 1, 274, 10, 38), (166, 0, 0, 2, 0), (167, 2, 0, 32768, 0), (168, 2, 1, 32868, 100), (170, 9, 0, 270, 220), (173, 8, 0, 0, 0), (174, 0, 0, 2, 0), (175, 1, 42, 10, 18), (178, 0, 0, 2, 0), (179, 1, 274, 10, 38), (182, 0, 0, 2, 0), (183, 2, 6, 191, 28518), (186, 2, 0, 32769, 1), (187, 2, 1, 32777, 9), (189, 9, 0, 292, 221), (192, 8, 0, 0, 0), (193, 0, 1, 4, 0), (194, 2, 6, 193, 1685217655), (197, 30, 0, 0, 0), (198, 4, 1, 228, 0), (201, 0, 0, 2, 0), (202, 1, 76, 10, 29), (205, 0, 0, 2, 0), (206, 1, 274, 10, 38), (209, 2, 0, 32769, 1), (210, 8, 1, 0, 0), (211, 0, 0, 2, 0), (212, 1, 45, 10, 19), (215, 0, 0, 2, 0), (216, 1, 274, 10, 38), (219, 0, 0, 2, 0), (220, 2, 0, 32768, 0), (221, 2, 2, 33767, 999), (224, 9, 0, 270, 220), (227, 8, 0, 0, 0), (228, 0, 0, 2, 0), (229, 0, 0, 2, 0), (230, 2, 1, 32827, 59), (232, 9, 0, 306, 225), (235, 9, 0, 266, 226), (238, 10, 1, 0, 0)], 1, 0, 0, 12, 3)
def fm_126 : fx_M := ([(0, 0, 1, 0, 0), (1, 4, 2, 25, 0), (4, 0, 1, 0, 0), (5, 0, 0, 2, 0), (6, 1, 19, 9, 1), (9, 1, 121, 3, 12), (12, 3, 3, 25, 0), (15, 0, 1, 0, 0), (16, 2, 1, 32775, 7), (18, 3, 3, 25, 0), (21, 2, 0, 32769, 1), (22, 5, 0, 26, 0), (25, 2, 0, 32768, 0), (26, 10, 0, 2, 0)], 2, 0, 0, 11, 2)
def fm_127 : fx_M := ([(0, 0, 0, 2, 0), (1, 0, 1, 2, 0), (2, 14, 46, 8, 84), (5, 0, 0, 2, 0), (6, 1, 12, 8, 0), (9, 0, 2, 2, 0), (10, 9, 0, 50, 150), (13, 0, 0, 2, 0), (14, 9, 0, 54, 227), (17, 10, 1, 0, 0)], 3, 0, 0, 10, 3)
def fm_128 : fx_M := ([(0, 2, 0, 32768, 0), (1, 11, 2, 0, 0), (2, 2, 0, 32768, 0), (3, 11, 3, 0, 0), (4, 0, 3, 0, 0), (5, 2, 1, 32775, 7), (7, 3, 3, 38, 0), (10, 0, 2, 0, 0), (11, 0, 1, 0, 0), (12, 0, 3, 0, 0), (13, 12, 9, 0, 0), (14, 2, 0, 32769, 1), (15, 12, 5, 0, 0), (16, 2, 0, 32769, 1), (17, 3, 1, 29, 0), (20, 0, 0, 2, 0), (21, 1, 9, 6, 0), (24, 0, 3, 0, 0), (25, 6, 0, 0, 0), (26, 5, 0, 30, 0), (29, 2, 0, 32768, 0), (30, 12, 0, 0, 0), (31, 11, 2, 0, 0), (32, 7, 3, 1, 0), (35, 5, 0, 4, 0), (38, 0, 2, 0, 0), (39, 10, 0, 1, 0)], 2, 0, 0, 8, 4)
def fm_129 : fx_M := ([(0, 0, 0, 2, 0), (1, 1, 46, 8, 10), (4, 19, 0, 21, 0), (7, 0, 1, 0, 0), (8, 4, 2, 21, 0), (11, 0, 1, 0, 0), (12, 2, 1, 32784, 16), (14, 3, 3, 21, 0), (17, 0, 2, 0, 0), (18, 4, 3, 23, 0), (21, 2, 0, 32768, 0), (22, 10, 0, 1, 0), (23, 0, 2, 0, 0), (24, 2, 1, 32832, 64), (26, 12, 4, 0, 0), (27, 2, 1, 32784, 16), (29, 12, 2, 0, 0), (30, 0, 1, 0, 0), (31, 12, 0, 0, 0), (32, 11, 3, 0, 0), (33, 0, 0, 2, 0), (34, 1, 40, 8, 8), (37, 0, 3, 0, 0), (38, 6, 0, 0, 0), (39, 0, 2, 0, 0), (40, 2, 0, 32769, 1), (41, 12, 0, 0, 0), (42, 3, 0, 122, 0), (45, 0, 0, 2, 0), (46, 1, 46, 8, 10), (49, 1, 57, 3, 9), (52, 2, 0, 32769, 1), (53, 29, 62, 0, 0), (56, 11, 4, 1, 0), (58, 0, 0, 2, 0), (59, 1, 37, 8, 7), (62, 2, 1, 32774, 6), (64, 0, 2, 0, 0), (65, 8, 0, 0, 0), (66, 0, 0, 2, 0), (67, 1, 37, 8, 7), (70, 2, 1, 32775, 7), (72, 0, 1, 0, 0), (73, 0, 4, 1, 0), (75, 12, 3, 0, 0), (76, 8, 0, 0, 0), (77, 0, 0, 2, 0), (78, 1, 37, 8, 7), (81, 2, 1, 32776, 8), (83, 0, 1, 0, 0), (84, 0, 4, 1, 0), (86, 12, 4, 0, 0), (87, 8, 0, 0, 0), (88, 0, 0, 2, 0), (89, 1, 43, 8, 9), (92, 0, 3, 0, 0), (93, 0, 0, 2, 0), (94, 1, 46, 8, 10), (97, 1, 144, 3, 8), (100, 0, 0, 2, 0), (101, 1, 37, 8, 7), (104, 9, 0, 126, 228), (107, 2, 1, 32777, 9), (109, 9, 4, 132, 229), (112, 8, 0, 0, 0), (113, 0, 0, 2, 0), (114, 1, 40, 8, 8), (117, 0, 3, 0, 0), (118, 0, 2, 0, 0), (119, 2, 0, 32769, 1), (120, 12, 0, 0, 0), (121, 8, 0, 0, 0), (122, 0, 0, 2, 0), (123, 1, 43, 8, 9), (126, 0, 3, 0, 0), (127, 6, 0, 0, 0), (128, 10, 0, 1, 0)], 3, 0, 0, 10, 5)
def fm_130 : fx_M := ([(0, 0, 1, 0, 0), (1, 2, 0, 32768, 0), (2, 0, 0, 2, 0), (3, 9, 0, 391, 26), (6, 2, 0, 32769, 1), (7, 12, 1, 0, 0), (8, 9, 2, 394, 136), (11, 10, 0, 2, 0)], 2, 0, 0, 12, 2)
def fm_131 : fx_M := ([(0, 2, 0, 32768, 0), (1, 11, 2, 0, 0), (2, 2, 0, 32768, 0), (3, 11, 3, 0, 0), (4, 0, 3, 0, 0), (5, 0, 0, 2, 0), (6, 9, 0, 391, 26), (9, 3, 3, 33, 0), (12, 0, 0, 2, 0), (13, 0, 1, 0, 0), (14, 0, 3, 0, 0), (15, 9, 0, 416, 175), (18, 4, 0, 27, 0), (21, 0, 2, 0, 0), (22, 2, 0, 32769, 1), (23, 0, 3, 0, 0), (24, 12, 8, 0, 0), (25, 12, 6, 0, 0), (26, 11, 2, 0, 0), (27, 7, 3, 1, 0), (30, 5, 0, 4, 0), (33, 0, 2, 0, 0), (34, 10, 0, 1, 0)], 2, 0, 0, 12, 4)
def fm_132 : fx_M := ([(0, 2, 0, 32768, 0), (1, 11, 2, 0, 0), (2, 2, 0, 32768, 0), (3, 11, 3, 0, 0), (4, 0, 3, 0, 0), (5, 0, 0, 2, 0), (6, 9, 0, 391, 26), (9, 3, 3, 41, 0), (12, 0, 2, 0, 0), (13, 0, 1, 0, 0), (14, 0, 3, 0, 0), (15, 9, 2, 420, 178), (18, 4, 0, 32, 0), (21, 0, 0, 2, 0), (22, 1, 101, 10, 50), (25, 2, 0, 32768, 0), (26, 0, 3, 0, 0), (27, 12, 0, 0, 0), (28, 6, 0, 0, 0), (29, 5, 0, 33, 0), (32, 2, 0, 32768, 0), (33, 12, 0, 0, 0), (34, 11, 2, 0, 0), (35, 7, 3, 1, 0), (38, 5, 0, 4, 0), (41, 0, 2, 0, 0), (42, 10, 0, 1, 0)], 2, 0, 0, 12, 4)
def fm_133 : fx_M := ([(0, 0, 1, 0, 0), (1, 4, 3, 6, 0), (4, 2, 0, 32768, 0), (5, 10, 0, 1, 0), (6, 0, 0, 2, 0), (7, 1, 69, 10, 27), (10, 2, 0, 32770, 2), (11, 0, 0, 2, 0), (12, 1, 283, 10, 37), (15, 12, 2, 0, 0), (16, 2, 0, 32769, 1), (17, 12, 0, 0, 0), (18, 6, 1, 0, 0), (19, 4, 1, 24, 0), (22, 2, 0, 32773, 5), (23, 10, 0, 1, 0), (24, 0, 0, 2, 0), (25, 2, 0, 32768, 0), (26, 14, 363, 10, 344), (29, 0, 0, 2, 0), (30, 2, 0, 32768, 0), (31, 14, 366, 10, 352), (34, 0, 0, 2, 0), (35, 2, 0, 32768, 0), (36, 14, 369, 10, 360), (39, 0, 0, 2, 0), (40, 2, 0, 32768, 0), (41, 14, 372, 10, 368), (44, 0, 0, 2, 0), (45, 2, 0, 32768, 0), (46, 14, 375, 10, 376), (49, 0, 0, 2, 0), (50, 2, 0, 32768, 0), (51, 14, 378, 10, 384), (54, 0, 0, 2, 0), (55, 0, 1, 0, 0), (56, 14, 381, 10, 392), (59, 0, 0, 2, 0), (60, 2, 0, 32769, 1), (61, 9, 0, 423, 230), (64, 10, 0, 1, 0)], 2, 0, 0, 12, 2)
def fm_134 : fx_M := ([(0, 2, 0, 32768, 0), (1, 11, 2, 0, 0), (2, 2, 0, 32768, 0), (3, 11, 3, 0, 0), (4, 0, 3, 0, 0), (5, 0, 0, 2, 0), (6, 1, 54, 3, 12), (9, 3, 3, 44, 0), (12, 0, 3, 0, 0), (13, 2, 1, 32775, 7), (15, 3, 3, 44, 0), (18, 0, 2, 0, 0), (19, 0, 0, 2, 0), (20, 1, 22, 3, 3), (23, 0, 3, 0, 0), (24, 6, 0, 0, 0), (25, 0, 1, 0, 0), (26, 3, 1, 35, 0), (29, 2, 0, 32769, 1), (30, 0, 3, 0, 0), (31, 12, 8, 0, 0), (32, 5, 0, 36, 0), (35, 2, 0, 32768, 0), (36, 12, 6, 0, 0), (37, 11, 2, 0, 0), (38, 7, 3, 1, 0), (41, 5, 0, 4, 0), (44, 0, 2, 0, 0), (45, 10, 0, 1, 0)], 2, 0, 0, 5, 4)
def fm_135 : fx_M := ([(0, 0, 1, 0, 0), (1, 4, 2, 12, 0), (4, 0, 1, 0, 0), (5, 0, 0, 2, 0), (6, 1, 51, 3, 11), (9, 3, 2, 14, 0), (12, 2, 0, 32768, 0), (13, 10, 0, 1, 0), (14, 0, 0, 2, 0), (15, 0, 1, 0, 0), (16, 9, 0, 93, 134), (19, 11, 3, 0, 0), (20, 0, 2, 2, 0), (21, 0, 3, 0, 0), (22, 9, 0, 97, 128), (25, 0, 0, 2, 0), (26, 1, 15, 3, 1), (29, 0, 1, 0, 0), (30, 6, 0, 0, 0), (31, 0, 3, 0, 0), (32, 9, 2, 102, 165), (35, 12, 2, 0, 0), (36, 12, 1, 0, 0), (37, 29, 107, 2, 0), (40, 10, 0, 1, 0)], 3, 0, 0, 5, 4)
def fm_136 : fx_M := ([(0, 0, 0, 0, 0), (1, 0, 1, 0, 0), (2, 3, 2, 14, 0), (5, 0, 0, 0, 0), (6, 0, 2, 0, 0), (7, 3, 4, 14, 0), (10, 2, 0, 32769, 1), (11, 5, 0, 15, 0), (14, 2, 0, 32768, 0), (15, 10, 0, 2, 0)], 3, 0, 0, 0, 3)
def fm_137 : fx_M := ([(0, 2, 0, 32768, 0), (1, 11, 2, 0, 0), (2, 2, 0, 32768, 0), (3, 11, 3, 0, 0), (4, 0, 3, 0, 0), (5, 0, 0, 2, 0), (6, 9, 0, 391, 26), (9, 3, 3, 42, 0), (12, 0, 0, 2, 0), (13, 1, 51, 10, 21), (16, 2, 1, 32775, 7), (18, 0, 0, 2, 0), (19, 1, 283, 10, 37), (22, 12, 2, 0, 0), (23, 0, 3, 0, 0), (24, 12, 0, 0, 0), (25, 6, 0, 0, 0), (26, 0, 1, 0, 0), (27, 3, 1, 36, 0), (30, 0, 2, 0, 0), (31, 2, 0, 32769, 1), (32, 0, 3, 0, 0), (33, 12, 8, 0, 0), (34, 12, 6, 0, 0), (35, 11, 2, 0, 0), (36, 7, 3, 1, 0), (39, 5, 0, 4, 0), (42, 0, 2, 0, 0), (43, 10, 0, 1, 0)], 2, 0, 0, 12, 4)
def fm_138 : fx_M := ([(0, 0, 0, 2, 0), (1, 0, 0, 2, 0), (2, 0, 1, 0, 0), (3, 9, 0, 447, 137), (6, 9, 0, 432, 132), (9, 0, 0, 2, 0), (10, 1, 48, 10, 20), (13, 2, 0, 32772, 4), (14, 0, 0, 2, 0), (15, 1, 283, 10, 37), (18, 12, 2, 0, 0), (19, 0, 1, 0, 0), (20, 12, 0, 0, 0), (21, 6, 0, 0, 0), (22, 0, 0, 2, 0), (23, 0, 1, 0, 0), (24, 9, 0, 447, 137), (27, 9, 2, 435, 168), (30, 12, 2, 0, 0), (31, 12, 1, 0, 0), (32, 9, 2, 413, 231), (35, 10, 0, 1, 0)], 2, 0, 0, 12, 2)
def fm_139 : fx_M := ([(0, 0, 1, 0, 0), (1, 4, 2, 19, 0), (4, 0, 1, 0, 0), (5, 0, 0, 2, 0), (6, 1, 19, 9, 1), (9, 9, 0, 261, 179), (12, 3, 3, 19, 0), (15, 2, 0, 32769, 1), (16, 5, 0, 20, 0), (19, 2, 0, 32768, 0), (20, 10, 0, 2, 0)], 2, 0, 0, 11, 2)
def fm_140 : fx_M := ([(0, 2, 0, 32768, 0), (1, 11, 2, 0, 0), (2, 0, 2, 0, 0), (3, 2, 1, 32775, 7), (5, 3, 3, 26, 0), (8, 0, 0, 2, 0), (9, 1, 15, 6, 1), (12, 0, 2, 0, 0), (13, 6, 0, 0, 0), (14, 0, 1, 0, 0), (15, 3, 1, 20, 0), (18, 0, 2, 0, 0), (19, 10, 0, 1, 0), (20, 7, 2, 1, 0), (23, 5, 0, 2, 0), (26, 2, 0, 32767, 4294967295), (27, 10, 0, 1, 0)], 2, 0, 0, 8, 3)
def fm_141 : fx_M := ([(0, 0, 1, 0, 0), (1, 2, 0, 32768, 0), (2, 0, 0, 2, 0), (3, 9, 0, 398, 181), (6, 2, 0, 32769, 1), (7, 12, 1, 0, 0), (8, 9, 2, 394, 136), (11, 10, 0, 2, 0)], 2, 0, 0, 12, 2)
def fm_142 : fx_M := ([(0, 2, 0, 32768, 0), (1, 11, 2, 0, 0), (2, 0, 2, 0, 0), (3, 0, 0, 2, 0), (4, 9, 0, 391, 26), (7, 3, 3, 31, 0), (10, 0, 0, 2, 0), (11, 1, 101, 10, 50), (14, 2, 1, 32775, 7), (16, 0, 2, 0, 0), (17, 12, 0, 0, 0), (18, 6, 0, 0, 0), (19, 0, 1, 0, 0), (20, 3, 1, 25, 0), (23, 0, 2, 0, 0), (24, 10, 0, 1, 0), (25, 7, 2, 1, 0), (28, 5, 0, 2, 0), (31, 2, 0, 32767, 4294967295), (32, 10, 0, 1, 0)], 2, 0, 0, 12, 3)
def fm_143 : fx_M := ([(0, 0, 0, 2, 0), (1, 2, 1, 32895, 127), (3, 9, 0, 41, 128), (6, 10, 0, 1, 0)], 1, 0, 0, 8, 1)
def fm_144 : fx_M := ([(0, 0, 0, 2, 0), (1, 0, 0, 2, 0), (2, 9, 0, 459, 167), (5, 9, 0, 432, 132), (8, 10, 0, 1, 0)], 1, 0, 0, 12, 1)
def fm_145 : fx_M := ([(0, 2, 0, 32768, 0), (1, 11, 2, 0, 0), (2, 2, 0, 32768, 0), (3, 11, 3, 0, 0), (4, 0, 3, 0, 0), (5, 0, 0, 2, 0), (6, 1, 51, 3, 11), (9, 3, 3, 27, 0), (12, 0, 2, 0, 0), (13, 0, 0, 2, 0), (14, 0, 3, 0, 0), (15, 0, 1, 2, 0), (16, 9, 0, 110, 135), (19, 12, 0, 0, 0), (20, 11, 2, 0, 0), (21, 7, 3, 1, 0), (24, 5, 0, 4, 0), (27, 0, 2, 0, 0), (28, 10, 0, 1, 0)], 2, 0, 0, 5, 4)
def fm_146 : fx_M := ([(0, 2, 0, 32768, 0), (1, 11, 1, 0, 0), (2, 2, 0, 32768, 0), (3, 11, 2, 0, 0), (4, 0, 2, 0, 0), (5, 0, 0, 2, 0), (6, 1, 30, 10, 14), (9, 0, 0, 2, 0), (10, 1, 283, 10, 37), (13, 6, 0, 0, 0), (14, 3, 3, 31, 0), (17, 0, 1, 0, 0), (18, 0, 0, 2, 0), (19, 0, 2, 0, 0), (20, 9, 0, 450, 138), (23, 12, 0, 0, 0), (24, 11, 1, 0, 0), (25, 7, 2, 1, 0), (28, 5, 0, 4, 0), (31, 0, 1, 0, 0), (32, 10, 0, 1, 0)], 1, 0, 0, 12, 3)
def fm_147 : fx_M := ([(0, 0, 0, 2, 0), (1, 1, 20, 0, 1), (4, 2, 1, 32808, 40), (6, 3, 2, 22, 0), (9, 0, 0, 2, 0), (10, 1, 14, 0, 0), (13, 9, 0, 27, 232), (16, 0, 0, 2, 0), (17, 2, 1, 32807, 39), (19, 14, 20, 0, 8), (22, 0, 0, 2, 0), (23, 1, 14, 0, 0), (26, 0, 0, 2, 0), (27, 1, 20, 0, 1), (30, 0, 1, 2, 0), (31, 9, 0, 30, 209), (34, 0, 0, 2, 0), (35, 15, 0, 0, 0), (36, 1, 20, 0, 1), (39, 2, 0, 32769, 1), (40, 12, 0, 0, 0), (41, 14, 20, 0, 8), (44, 0, 0, 2, 0), (45, 2, 0, 32768, 0), (46, 14, 24, 0, 16), (49, 10, 1, 0, 0)], 2, 0, 0, 2, 2)
def fm_148 : fx_M := ([(0, 0, 0, 2, 0), (1, 1, 46, 8, 10), (4, 19, 1, 9, 0), (7, 2, 0, 32768, 0), (8, 10, 0, 1, 0), (9, 2, 0, 32768, 0), (10, 11, 1, 0, 0), (11, 2, 0, 32768, 0), (12, 11, 2, 0, 0), (13, 0, 2, 0, 0), (14, 0, 0, 2, 0), (15, 1, 46, 8, 10), (18, 1, 83, 3, 12), (21, 3, 3, 79, 0), (24, 0, 2, 0, 0), (25, 2, 1, 32775, 7), (27, 3, 3, 79, 0), (30, 0, 0, 2, 0), (31, 1, 28, 8, 4), (34, 0, 2, 0, 0), (35, 0, 0, 2, 0), (36, 0, 0, 2, 0), (37, 1, 46, 8, 10), (40, 0, 2, 0, 0), (41, 9, 0, 86, 233), (44, 8, 0, 0, 0), (45, 0, 1, 0, 0), (46, 0, 0, 2, 0), (47, 1, 28, 8, 4), (50, 0, 2, 0, 0), (51, 6, 0, 0, 0), (52, 0, 0, 2, 0), (53, 1, 12, 8, 0), (56, 1, 90, 6, 0), (59, 0, 2, 0, 0), (60, 6, 0, 0, 0), (61, 3, 1, 68, 0), (64, 2, 0, 32768, 0), (65, 5, 0, 71, 0), (68, 2, 0, 32769, 1), (69, 0, 2, 0, 0), (70, 12, 8, 0, 0), (71, 12, 6, 0, 0), (72, 11, 1, 0, 0), (73, 7, 2, 1, 0), (76, 5, 0, 13, 0), (79, 0, 0, 2, 0), (80, 1, 28, 8, 4), (83, 2, 0, 32768, 0), (84, 0, 0, 2, 0), (85, 1, 12, 8, 0), (88, 1, 90, 6, 0), (91, 2, 0, 32768, 0), (92, 0, 0, 2, 0), (93, 1, 46, 8, 10), (96, 1, 83, 3, 12), (99, 2, 1, 32775, 7), (101, 29, 93, 1, 0), (104, 23, 96, 0, 0), (107, 0, 0, 2, 0), (108, 1, 12, 8, 0), (111, 15, 0, 0, 0), (112, 1, 102, 6, 3), (115, 2, 0, 32769, 1), (116, 12, 0, 0, 0), (117, 14, 102, 6, 24), (120, 0, 1, 0, 0), (121, 10, 0, 1, 0)], 1, 0, 0, 10, 3)
def fm_149 : fx_M := ([(0, 0, 0, 2, 0), (1, 1, 46, 8, 10), (4, 19, 1, 9, 0), (7, 2, 0, 32768, 0), (8, 10, 0, 1, 0), (9, 2, 0, 32768, 0), (10, 11, 1, 0, 0), (11, 2, 0, 32768, 0), (12, 11, 2, 0, 0), (13, 0, 2, 0, 0), (14, 0, 0, 2, 0), (15, 1, 46, 8, 10), (18, 1, 83, 3, 12), (21, 3, 3, 117, 0), (24, 0, 2, 0, 0), (25, 2, 1, 32775, 7), (27, 3, 3, 117, 0), (30, 0, 0, 2, 0), (31, 1, 12, 8, 0), (34, 0, 0, 2, 0), (35, 1, 12, 8, 0), (38, 1, 135, 6, 4), (41, 2, 2, 32905, 137), (44, 12, 2, 0, 0), (45, 2, 1, 32839, 71), (47, 12, 0, 0, 0), (48, 2, 2, 33768, 1000), (51, 12, 4, 0, 0), (52, 14, 135, 6, 32), (55, 0, 0, 2, 0), (56, 1, 12, 8, 0), (59, 1, 135, 6, 4), (62, 2, 1, 32868, 100), (64, 12, 4, 0, 0), (65, 0, 0, 2, 0), (66, 1, 46, 8, 10), (69, 1, 138, 3, 13), (72, 3, 3, 111, 0), (75, 0, 0, 2, 0), (76, 1, 12, 8, 0), (79, 1, 90, 6, 0), (82, 0, 2, 0, 0), (83, 2, 0, 32768, 0), (84, 0, 0, 2, 0), (85, 1, 12, 8, 0), (88, 1, 90, 6, 0), (91, 0, 2, 0, 0), (92, 6, 0, 0, 0), (93, 0, 0, 2, 0), (94, 1, 46, 8, 10), (97, 1, 141, 3, 14), (100, 12, 1, 0, 0), (101, 29, 62, 0, 0), (104, 8, 0, 0, 0), (105, 0, 1, 0, 0), (106, 2, 0, 32769, 1), (107, 0, 2, 0, 0), (108, 12, 8, 0, 0), (109, 12, 6, 0, 0), (110, 11, 1, 0, 0), (111, 7, 2, 1, 0), (114, 5, 0, 13, 0), (117, 0, 1, 0, 0), (118, 10, 0, 1, 0)], 1, 0, 0, 10, 3)
def fm_150 : fx_M := ([(0, 0, 1, 2, 0), (1, 1, 9, 6, 0), (4, 2, 0, 32768, 0), (5, 0, 0, 2, 0), (6, 1, 9, 6, 0), (9, 2, 0, 32768, 0), (10, 2, 1, 32775, 7), (12, 23, 31, 0, 0), (15, 0, 1, 2, 0), (16, 1, 15, 6, 1), (19, 2, 0, 32768, 0), (20, 0, 0, 2, 0), (21, 1, 15, 6, 1), (24, 2, 0, 32768, 0), (25, 2, 1, 32775, 7), (27, 23, 31, 0, 0), (30, 0, 0, 2, 0), (31, 0, 1, 2, 0), (32, 1, 18, 6, 2), (35, 14, 18, 6, 16), (38, 0, 0, 2, 0), (39, 0, 1, 2, 0), (40, 1, 22, 6, 3), (43, 14, 22, 6, 24), (46, 0, 0, 2, 0), (47, 0, 1, 2, 0), (48, 1, 25, 6, 4), (51, 14, 25, 6, 32), (54, 10, 1, 0, 0)], 2, 0, 0, 8, 2)
def fm_151 : fx_M := ([(0, 0, 0, 2, 0), (1, 1, 401, 10, 53), (4, 2, 1, 32808, 40), (6, 3, 1, 49, 0), (9, 2, 0, 32768, 0), (10, 11, 1, 0, 0), (11, 0, 1, 0, 0), (12, 2, 2, 33448, 680), (15, 3, 3, 39, 0), (18, 0, 0, 2, 0), (19, 1, 107, 10, 52), (22, 0, 1, 0, 0), (23, 0, 0, 2, 0), (24, 1, 107, 10, 52), (27, 0, 1, 0, 0), (28, 2, 1, 32785, 17), (30, 12, 0, 0, 0), (31, 6, 0, 0, 0), (32, 8, 0, 0, 0), (33, 7, 1, 1, 0), (36, 5, 0, 11, 0), (39, 0, 0, 2, 0), (40, 15, 0, 0, 0), (41, 1, 401, 10, 53), (44, 2, 0, 32769, 1), (45, 12, 1, 0, 0), (46, 14, 401, 10, 424), (49, 2, 0, 32768, 0), (50, 11, 1, 0, 0), (51, 0, 1, 0, 0), (52, 2, 1, 32785, 17), (54, 3, 3, 83, 0), (57, 0, 0, 2, 0), (58, 1, 107, 10, 52), (61, 2, 1, 32785, 17), (63, 0, 0, 2, 0), (64, 1, 401, 10, 53), (67, 12, 2, 0, 0), (68, 0, 1, 0, 0), (69, 12, 0, 0, 0), (70, 0, 0, 2, 0), (71, 1, 101, 10, 50), (74, 0, 1, 0, 0), (75, 6, 0, 0, 0), (76, 8, 0, 0, 0), (77, 7, 1, 1, 0), (80, 5, 0, 51, 0), (83, 0, 0, 2, 0), (84, 15, 0, 0, 0), (85, 1, 401, 10, 53), (88, 2, 0, 32769, 1), (89, 12, 0, 0, 0), (90, 14, 401, 10, 424), (93, 0, 0, 2, 0), (94, 2, 0, 32768, 0), (95, 14, 404, 10, 432), (98, 10, 1, 0, 0)], 1, 0, 0, 12, 2)
def fm_152 : fx_M := ([(0, 0, 0, 2, 0), (1, 9, 0, 441, 186), (4, 11, 1, 0, 0), (5, 2, 0, 32768, 0), (6, 11, 2, 0, 0), (7, 2, 0, 32768, 0), (8, 11, 3, 0, 0), (9, 0, 3, 0, 0), (10, 0, 0, 2, 0), (11, 9, 0, 391, 26), (14, 3, 3, 129, 0), (17, 0, 0, 2, 0), (18, 1, 101, 10, 50), (21, 2, 1, 32784, 16), (23, 2, 2, 32905, 137), (26, 0, 0, 2, 0), (27, 1, 101, 10, 50), (30, 2, 1, 32784, 16), (32, 6, 0, 0, 0), (33, 12, 2, 0, 0), (34, 2, 1, 32839, 71), (36, 12, 0, 0, 0), (37, 2, 2, 33768, 1000), (40, 12, 4, 0, 0), (41, 8, 0, 0, 0), (42, 0, 0, 2, 0), (43, 1, 101, 10, 50), (46, 2, 1, 32784, 16), (48, 6, 0, 0, 0), (49, 2, 1, 32868, 100), (51, 12, 4, 0, 0), (52, 0, 0, 2, 0), (53, 1, 39, 10, 17), (56, 0, 0, 2, 0), (57, 1, 283, 10, 37), (60, 6, 0, 0, 0), (61, 3, 2, 67, 0), (64, 5, 0, 123, 0), (67, 0, 2, 0, 0), (68, 2, 0, 32769, 1), (69, 0, 3, 0, 0), (70, 12, 8, 0, 0), (71, 12, 6, 0, 0), (72, 11, 2, 0, 0), (73, 0, 0, 2, 0), (74, 1, 101, 10, 50), (77, 2, 0, 32768, 0), (78, 0, 3, 0, 0), (79, 12, 0, 0, 0), (80, 0, 0, 2, 0), (81, 1, 101, 10, 50), (84, 2, 0, 32768, 0), (85, 0, 3, 0, 0), (86, 12, 0, 0, 0), (87, 6, 0, 0, 0), (88, 0, 0, 2, 0), (89, 1, 42, 10, 18), (92, 0, 0, 2, 0), (93, 1, 283, 10, 37), (96, 6, 0, 0, 0), (97, 3, 3, 104, 0), (100, 2, 0, 32768, 0), (101, 5, 0, 122, 0), (104, 0, 0, 2, 0), (105, 1, 101, 10, 50), (108, 2, 0, 32768, 0), (109, 0, 3, 0, 0), (110, 12, 0, 0, 0), (111, 6, 0, 0, 0), (112, 0, 0, 2, 0), (113, 1, 42, 10, 18), (116, 0, 0, 2, 0), (117, 1, 283, 10, 37), (120, 6, 0, 0, 0), (121, 12, 1, 0, 0), (122, 8, 0, 0, 0), (123, 7, 3, 1, 0), (126, 5, 0, 9, 0), (129, 0, 2, 0, 0), (130, 10, 0, 1, 0)], 1, 0, 0, 12, 4)
def fm_153 : fx_M := ([(0, 0, 0, 0, 0), (1, 4, 2, 13, 0), (4, 0, 0, 0, 0), (5, 0, 1, 0, 0), (6, 3, 4, 13, 0), (9, 2, 0, 32769, 1), (10, 5, 0, 14, 0), (13, 2, 0, 32768, 0), (14, 10, 0, 2, 0)], 2, 0, 0, 0, 2)
def fm_154 : fx_M := ([(0, 0, 0, 0, 0), (1, 2, 0, 32768, 0), (2, 2, 1, 32777, 9), (4, 9, 2, 394, 136), (7, 10, 0, 2, 0)], 1, 0, 0, 0, 1)
def fm_155 : fx_M := ([(0, 0, 0, 2, 0), (1, 0, 1, 0, 0), (2, 9, 0, 124, 126), (5, 4, 0, 41, 0), (8, 0, 0, 2, 0), (9, 0, 2, 0, 0), (10, 9, 0, 124, 126), (13, 4, 0, 41, 0), (16, 0, 1, 0, 0), (17, 0, 2, 0, 0), (18, 3, 0, 41, 0), (21, 0, 0, 2, 0), (22, 0, 1, 0, 0), (23, 9, 0, 214, 159), (26, 4, 1, 37, 0), (29, 0, 0, 2, 0), (30, 0, 2, 0, 0), (31, 9, 0, 214, 159), (34, 4, 0, 41, 0), (37, 2, 0, 32769, 1), (38, 5, 0, 42, 0), (41, 2, 0, 32768, 0), (42, 10, 0, 2, 0)], 3, 0, 0, 11, 3)
def fm_156 : fx_M := ([(0, 0, 0, 2, 0), (1, 1, 15, 6, 1), (4, 0, 1, 0, 0), (5, 6, 0, 0, 0), (6, 11, 3, 0, 0), (7, 0, 0, 2, 0), (8, 1, 15, 6, 1), (11, 0, 1, 0, 0), (12, 0, 0, 2, 0), (13, 1, 15, 6, 1), (16, 0, 2, 0, 0), (17, 6, 0, 0, 0), (18, 8, 0, 0, 0), (19, 0, 0, 2, 0), (20, 1, 15, 6, 1), (23, 0, 2, 0, 0), (24, 0, 3, 0, 0), (25, 8, 0, 0, 0), (26, 10, 1, 0, 0)], 3, 0, 0, 8, 4)
def fm_157 : fx_M := ([(0, 0, 0, 2, 0), (1, 0, 1, 0, 0), (2, 9, 0, 444, 130), (5, 4, 0, 49, 0), (8, 0, 0, 2, 0), (9, 0, 2, 0, 0), (10, 9, 0, 444, 130), (13, 4, 0, 49, 0), (16, 0, 1, 0, 0), (17, 0, 2, 0, 0), (18, 3, 0, 49, 0), (21, 0, 0, 2, 0), (22, 1, 101, 10, 50), (25, 2, 1, 32775, 7), (27, 0, 1, 0, 0), (28, 12, 0, 0, 0), (29, 6, 0, 0, 0), (30, 4, 3, 45, 0), (33, 0, 0, 2, 0), (34, 1, 101, 10, 50), (37, 2, 1, 32775, 7), (39, 0, 2, 0, 0), (40, 12, 0, 0, 0), (41, 6, 0, 0, 0), (42, 4, 2, 49, 0), (45, 2, 0, 32769, 1), (46, 5, 0, 50, 0), (49, 2, 0, 32768, 0), (50, 10, 0, 2, 0)], 3, 0, 0, 12, 3)
def fm_158 : fx_M := ([(0, 0, 0, 2, 0), (1, 1, 101, 10, 50), (4, 2, 1, 32775, 7), (6, 0, 1, 0, 0), (7, 12, 0, 0, 0), (8, 6, 0, 0, 0), (9, 11, 3, 0, 0), (10, 0, 0, 2, 0), (11, 1, 101, 10, 50), (14, 2, 1, 32775, 7), (16, 0, 1, 0, 0), (17, 12, 0, 0, 0), (18, 0, 0, 2, 0), (19, 1, 101, 10, 50), (22, 2, 1, 32775, 7), (24, 0, 2, 0, 0), (25, 12, 0, 0, 0), (26, 6, 0, 0, 0), (27, 8, 0, 0, 0), (28, 0, 0, 2, 0), (29, 1, 101, 10, 50), (32, 2, 1, 32775, 7), (34, 0, 2, 0, 0), (35, 12, 0, 0, 0), (36, 0, 3, 0, 0), (37, 8, 0, 0, 0), (38, 10, 1, 0, 0)], 3, 0, 0, 12, 4)
def fm_159 : fx_M := ([(0, 0, 0, 2, 0), (1, 0, 1, 0, 0), (2, 9, 0, 124, 126), (5, 4, 0, 25, 0), (8, 0, 0, 2, 0), (9, 1, 26, 9, 2), (12, 1, 134, 6, 1), (15, 0, 1, 0, 0), (16, 6, 0, 0, 0), (17, 2, 0, 32767, 4294967295), (18, 3, 0, 25, 0), (21, 2, 0, 32769, 1), (22, 5, 0, 26, 0), (25, 2, 0, 32768, 0), (26, 10, 0, 2, 0)], 2, 0, 0, 11, 2)
def fm_160 : fx_M := ([(0, 0, 0, 2, 0), (1, 1, 20, 0, 1), (4, 4, 1, 9, 0), (7, 2, 0, 32768, 0), (8, 10, 0, 2, 0), (9, 0, 0, 2, 0), (10, 1, 14, 0, 0), (13, 0, 0, 2, 0), (14, 1, 20, 0, 1), (17, 0, 1, 2, 0), (18, 9, 0, 30, 209), (21, 0, 0, 2, 0), (22, 15, 0, 0, 0), (23, 1, 20, 0, 1), (26, 2, 0, 32769, 1), (27, 12, 1, 0, 0), (28, 14, 20, 0, 8), (31, 0, 0, 2, 0), (32, 15, 0, 0, 0), (33, 1, 24, 0, 2), (36, 2, 0, 32769, 1), (37, 12, 0, 0, 0), (38, 14, 24, 0, 16), (41, 0, 0, 2, 0), (42, 1, 14, 0, 0), (45, 0, 0, 2, 0), (46, 1, 20, 0, 1), (49, 0, 1, 2, 0), (50, 9, 0, 34, 210), (53, 10, 0, 2, 0)], 2, 0, 0, 2, 2)
def fm_161 : fx_M := ([(0, 2, 0, 32768, 0), (1, 11, 1, 0, 0), (2, 0, 1, 0, 0), (3, 2, 1, 32785, 17), (5, 3, 3, 56, 0), (8, 0, 0, 2, 0), (9, 1, 107, 10, 52), (12, 2, 1, 32785, 17), (14, 0, 0, 2, 0), (15, 1, 401, 10, 53), (18, 12, 2, 0, 0), (19, 0, 1, 0, 0), (20, 12, 0, 0, 0), (21, 6, 0, 0, 0), (22, 11, 2, 0, 0), (23, 0, 0, 2, 0), (24, 1, 107, 10, 52), (27, 2, 1, 32785, 17), (29, 0, 0, 2, 0), (30, 1, 401, 10, 53), (33, 12, 2, 0, 0), (34, 0, 1, 0, 0), (35, 12, 0, 0, 0), (36, 0, 0, 2, 0), (37, 1, 101, 10, 50), (40, 0, 1, 0, 0), (41, 6, 0, 0, 0), (42, 8, 0, 0, 0), (43, 0, 0, 2, 0), (44, 1, 101, 10, 50), (47, 0, 1, 0, 0), (48, 0, 2, 0, 0), (49, 8, 0, 0, 0), (50, 7, 1, 1, 0), (53, 5, 0, 2, 0), (56, 10, 1, 0, 0)], 1, 0, 0, 12, 3)
def fm_162 : fx_M := ([(0, 0, 0, 2, 0), (1, 1, 24, 0, 2), (4, 4, 1, 9, 0), (7, 2, 0, 32768, 0), (8, 10, 0, 2, 0), (9, 0, 0, 2, 0), (10, 15, 0, 0, 0), (11, 1, 20, 0, 1), (14, 2, 0, 32769, 1), (15, 12, 0, 0, 0), (16, 14, 20, 0, 8), (19, 0, 0, 2, 0), (20, 15, 0, 0, 0), (21, 1, 24, 0, 2), (24, 2, 0, 32769, 1), (25, 12, 1, 0, 0), (26, 14, 24, 0, 16), (29, 0, 0, 2, 0), (30, 1, 14, 0, 0), (33, 0, 0, 2, 0), (34, 1, 20, 0, 1), (37, 0, 1, 2, 0), (38, 9, 0, 34, 210), (41, 10, 0, 2, 0)], 2, 0, 0, 2, 2)
def fm_163 : fx_M := ([(0, 0, 0, 0, 0), (1, 4, 0, 9, 0), (4, 0, 0, 0, 0), (5, 2, 0, 32769, 1), (6, 3, 1, 13, 0), (9, 2, 0, 32769, 1), (10, 5, 0, 14, 0), (13, 2, 0, 32768, 0), (14, 10, 0, 2, 0)], 1, 0, 0, 0, 1)
def fm_164 : fx_M := ([(0, 0, 0, 2, 0), (1, 1, 101, 10, 50), (4, 2, 0, 32768, 0), (5, 0, 1, 0, 0), (6, 12, 0, 0, 0), (7, 6, 0, 0, 0), (8, 11, 3, 0, 0), (9, 0, 0, 2, 0), (10, 1, 101, 10, 50), (13, 2, 0, 32768, 0), (14, 0, 1, 0, 0), (15, 12, 0, 0, 0), (16, 0, 2, 0, 0), (17, 8, 0, 0, 0), (18, 0, 0, 2, 0), (19, 9, 0, 465, 146), (22, 11, 4, 1, 0), (24, 0, 0, 2, 0), (25, 1, 101, 10, 50), (28, 2, 0, 32768, 0), (29, 0, 1, 0, 0), (30, 12, 0, 0, 0), (31, 0, 3, 0, 0), (32, 8, 0, 0, 0), (33, 0, 4, 1, 0), (35, 10, 0, 1, 0)], 3, 0, 0, 12, 5)
def fm_165 : fx_M := ([(0, 0, 0, 0, 0), (1, 0, 0, 0, 0), (2, 2, 0, 32769, 1), (3, 12, 10, 0, 0), (4, 2, 4, 265, 1431655765), (7, 12, 5, 0, 0), (8, 12, 1, 0, 0), (9, 11, 0, 0, 0), (10, 0, 0, 0, 0), (11, 2, 4, 266, 858993459), (14, 12, 5, 0, 0), (15, 0, 0, 0, 0), (16, 2, 0, 32770, 2), (17, 12, 10, 0, 0), (18, 2, 4, 266, 858993459), (21, 12, 5, 0, 0), (22, 12, 0, 0, 0), (23, 11, 0, 0, 0), (24, 0, 0, 0, 0), (25, 0, 0, 0, 0), (26, 2, 0, 32772, 4), (27, 12, 10, 0, 0), (28, 12, 0, 0, 0), (29, 2, 4, 267, 252645135), (32, 12, 5, 0, 0), (33, 11, 0, 0, 0), (34, 0, 0, 0, 0), (35, 0, 0, 0, 0), (36, 2, 1, 32776, 8), (38, 12, 10, 0, 0), (39, 12, 0, 0, 0), (40, 11, 0, 0, 0), (41, 0, 0, 0, 0), (42, 0, 0, 0, 0), (43, 2, 1, 32784, 16), (45, 12, 10, 0, 0), (46, 12, 0, 0, 0), (47, 11, 0, 0, 0), (48, 0, 0, 0, 0), (49, 2, 1, 32831, 63), (51, 12, 5, 0, 0), (52, 10, 0, 1, 0)], 1, 0, 0, 0, 1)
def fm_166 : fx_M := ([(0, 0, 0, 2, 0), (1, 1, 26, 9, 2), (4, 0, 1, 0, 0), (5, 9, 0, 146, 128), (8, 0, 0, 2, 0), (9, 1, 19, 9, 1), (12, 1, 121, 3, 12), (15, 12, 2, 0, 0), (16, 0, 2, 0, 0), (17, 0, 0, 2, 0), (18, 1, 26, 9, 2), (21, 9, 0, 176, 143), (24, 12, 2, 0, 0), (25, 12, 1, 0, 0), (26, 29, 235, 2, 0), (29, 10, 0, 1, 0)], 3, 0, 0, 11, 3)
def fm_167 : fx_M := ([(0, 2, 0, 32769, 1), (1, 0, 0, 2, 0), (2, 9, 0, 391, 26), (5, 12, 8, 0, 0), (6, 2, 0, 32769, 1), (7, 12, 1, 0, 0), (8, 10, 0, 1, 0)], 1, 0, 0, 12, 1)
def fm_168 : fx_M := ([(0, 2, 0, 32768, 0), (1, 11, 1, 0, 0), (2, 0, 0, 0, 0), (3, 11, 2, 0, 0), (4, 0, 2, 0, 0), (5, 4, 0, 20, 0), (8, 7, 1, 1, 0), (11, 0, 2, 0, 0), (12, 0, 2, 0, 0), (13, 2, 0, 32769, 1), (14, 12, 1, 0, 0), (15, 12, 5, 0, 0), (16, 11, 2, 0, 0), (17, 5, 0, 4, 0), (20, 0, 1, 0, 0), (21, 10, 0, 1, 0)], 1, 0, 0, 0, 3)
def fm_169 : fx_M := ([(0, 0, 0, 2, 0), (1, 0, 1, 0, 0), (2, 9, 0, 432, 132), (5, 0, 0, 2, 0), (6, 9, 0, 391, 26), (9, 12, 2, 0, 0), (10, 0, 1, 0, 0), (11, 9, 2, 435, 168), (14, 0, 0, 2, 0), (15, 9, 0, 462, 144), (18, 12, 2, 0, 0), (19, 12, 1, 0, 0), (20, 9, 2, 413, 231), (23, 10, 0, 1, 0)], 2, 0, 0, 12, 2)
def fm_170 : fx_M := ([(0, 2, 0, 32769, 1), (1, 0, 2, 0, 0), (2, 12, 8, 0, 0), (3, 11, 3, 0, 0), (4, 0, 0, 2, 0), (5, 1, 64, 9, 8), (8, 2, 0, 32768, 0), (9, 0, 3, 0, 0), (10, 8, 0, 0, 0), (11, 2, 0, 32768, 0), (12, 11, 4, 1, 0), (14, 0, 4, 1, 0), (16, 0, 0, 2, 0), (17, 1, 64, 9, 8), (20, 18, 0, 0, 0), (21, 3, 3, 99, 0), (24, 0, 0, 2, 0), (25, 1, 64, 9, 8), (28, 0, 4, 1, 0), (30, 6, 0, 0, 0), (31, 0, 1, 0, 0), (32, 12, 9, 0, 0), (33, 2, 0, 32769, 1), (34, 12, 5, 0, 0), (35, 2, 0, 32769, 1), (36, 3, 1, 42, 0), (39, 0, 4, 1, 0), (41, 10, 0, 1, 0), (42, 0, 4, 1, 0), (44, 2, 0, 32769, 1), (45, 12, 0, 0, 0), (46, 0, 0, 2, 0), (47, 1, 64, 9, 8), (50, 18, 0, 0, 0), (51, 3, 3, 93, 0), (54, 0, 0, 2, 0), (55, 1, 64, 9, 8), (58, 0, 4, 1, 0), (60, 2, 0, 32769, 1), (61, 12, 0, 0, 0), (62, 0, 0, 2, 0), (63, 1, 33, 9, 3), (66, 0, 0, 2, 0), (67, 1, 64, 9, 8), (70, 0, 4, 1, 0), (72, 6, 0, 0, 0), (73, 9, 0, 252, 234), (76, 0, 3, 0, 0), (77, 2, 0, 32767, 4294967295), (78, 12, 7, 0, 0), (79, 12, 5, 0, 0), (80, 8, 0, 0, 0), (81, 0, 3, 0, 0), (82, 0, 0, 2, 0), (83, 1, 64, 9, 8), (86, 0, 4, 1, 0), (88, 2, 0, 32769, 1), (89, 12, 0, 0, 0), (90, 6, 0, 0, 0), (91, 12, 6, 0, 0), (92, 11, 3, 0, 0), (93, 7, 4, 1, 0), (96, 5, 0, 14, 0), (99, 2, 0, 32767, 4294967295), (100, 10, 0, 1, 0)], 3, 0, 0, 11, 5)
def fm_171 : fx_M := ([(0, 0, 0, 2, 0), (1, 1, 73, 9, 11), (4, 0, 0, 2, 0), (5, 1, 60, 9, 7), (8, 18, 0, 0, 0), (9, 3, 3, 32, 0), (12, 0, 0, 2, 0), (13, 1, 60, 9, 7), (16, 0, 0, 2, 0), (17, 1, 73, 9, 11), (20, 0, 1, 0, 0), (21, 8, 0, 0, 0), (22, 0, 0, 2, 0), (23, 15, 0, 0, 0), (24, 1, 73, 9, 11), (27, 2, 0, 32769, 1), (28, 12, 0, 0, 0), (29, 14, 73, 9, 88), (32, 10, 1, 0, 0)], 2, 0, 0, 11, 2)
def fm_172 : fx_M := ([(0, 0, 1, 0, 0), (1, 4, 2, 19, 0), (4, 0, 1, 0, 0), (5, 2, 1, 32775, 7), (7, 3, 3, 19, 0), (10, 0, 0, 2, 0), (11, 1, 18, 8, 1), (14, 0, 1, 0, 0), (15, 6, 0, 0, 0), (16, 5, 0, 20, 0), (19, 2, 0, 32768, 0), (20, 10, 0, 1, 0)], 2, 0, 0, 10, 2)
def fm_173 : fx_M := ([(0, 2, 0, 32768, 0), (1, 11, 1, 0, 0), (2, 0, 1, 0, 0), (3, 2, 1, 32775, 7), (5, 3, 3, 25, 0), (8, 0, 0, 0, 0), (9, 0, 1, 0, 0), (10, 12, 9, 0, 0), (11, 2, 0, 32769, 1), (12, 12, 5, 0, 0), (13, 2, 0, 32769, 1), (14, 3, 1, 19, 0), (17, 0, 1, 0, 0), (18, 10, 0, 1, 0), (19, 7, 1, 1, 0), (22, 5, 0, 2, 0), (25, 2, 0, 32767, 4294967295), (26, 10, 0, 1, 0)], 1, 0, 0, 0, 2)
def fm_174 : fx_M := ([(0, 2, 0, 32768, 0), (1, 11, 2, 0, 0), (2, 0, 2, 0, 0), (3, 2, 1, 32775, 7), (5, 3, 3, 31, 0), (8, 0, 0, 2, 0), (9, 1, 110, 10, 55), (12, 0, 2, 0, 0), (13, 0, 2, 0, 0), (14, 0, 1, 0, 0), (15, 3, 1, 22, 0), (18, 2, 0, 32768, 0), (19, 5, 0, 24, 0), (22, 2, 1, 32868, 100), (24, 8, 0, 0, 0), (25, 7, 2, 1, 0), (28, 5, 0, 2, 0), (31, 2, 0, 32768, 0), (32, 11, 2, 0, 0), (33, 0, 2, 0, 0), (34, 2, 1, 32775, 7), (36, 3, 3, 120, 0), (39, 2, 0, 32768, 0), (40, 11, 3, 0, 0), (41, 0, 3, 0, 0), (42, 0, 0, 2, 0), (43, 9, 0, 391, 26), (46, 3, 3, 114, 0), (49, 2, 0, 32768, 0), (50, 11, 4, 1, 0), (52, 0, 4, 1, 0), (54, 0, 0, 2, 0), (55, 9, 0, 391, 26), (58, 3, 3, 108, 0), (61, 0, 0, 2, 0), (62, 1, 110, 10, 55), (65, 0, 3, 0, 0), (66, 6, 0, 0, 0), (67, 2, 1, 32868, 100), (69, 3, 1, 102, 0), (72, 0, 0, 2, 0), (73, 1, 110, 10, 55), (76, 0, 4, 1, 0), (78, 6, 0, 0, 0), (79, 0, 2, 0, 0), (80, 3, 1, 102, 0), (83, 0, 0, 2, 0), (84, 0, 3, 0, 0), (85, 0, 4, 1, 0), (87, 9, 0, 416, 175), (90, 4, 0, 102, 0), (93, 0, 0, 2, 0), (94, 1, 110, 10, 55), (97, 0, 3, 0, 0), (98, 0, 2, 0, 0), (99, 2, 0, 32769, 1), (100, 12, 0, 0, 0), (101, 8, 0, 0, 0), (102, 7, 4, 1, 0), (105, 5, 0, 52, 0), (108, 7, 3, 1, 0), (111, 5, 0, 41, 0), (114, 7, 2, 1, 0), (117, 5, 0, 33, 0), (120, 10, 1, 0, 0)], 2, 0, 0, 12, 5)
def fm_175 : fx_M := ([(0, 0, 0, 2, 0), (1, 1, 101, 10, 50), (4, 2, 1, 32775, 7), (6, 0, 1, 0, 0), (7, 12, 0, 0, 0), (8, 6, 0, 0, 0), (9, 11, 3, 0, 0), (10, 0, 0, 2, 0), (11, 1, 101, 10, 50), (14, 2, 1, 32775, 7), (16, 0, 2, 0, 0), (17, 12, 0, 0, 0), (18, 6, 0, 0, 0), (19, 11, 4, 1, 0), (21, 0, 3, 0, 0), (22, 4, 2, 30, 0), (25, 0, 4, 1, 0), (27, 4, 3, 32, 0), (30, 2, 0, 32768, 0), (31, 10, 0, 2, 0), (32, 0, 3, 0, 0), (33, 0, 0, 2, 0), (34, 1, 20, 10, 11), (37, 0, 0, 2, 0), (38, 1, 283, 10, 37), (41, 6, 0, 0, 0), (42, 12, 4, 0, 0), (43, 0, 4, 1, 0), (45, 0, 0, 2, 0), (46, 1, 20, 10, 11), (49, 0, 0, 2, 0), (50, 1, 283, 10, 37), (53, 6, 0, 0, 0), (54, 12, 4, 0, 0), (55, 12, 1, 0, 0), (56, 9, 2, 413, 231), (59, 0, 3, 0, 0), (60, 0, 0, 2, 0), (61, 1, 20, 10, 11), (64, 0, 0, 2, 0), (65, 1, 283, 10, 37), (68, 6, 0, 0, 0), (69, 12, 3, 0, 0), (70, 0, 4, 1, 0), (72, 0, 0, 2, 0), (73, 1, 20, 10, 11), (76, 0, 0, 2, 0), (77, 1, 283, 10, 37), (80, 6, 0, 0, 0), (81, 12, 3, 0, 0), (82, 12, 1, 0, 0), (83, 9, 2, 413, 231), (86, 12, 0, 0, 0), (87, 2, 0, 32769, 1), (88, 3, 1, 95, 0), (91, 2, 0, 32769, 1), (92, 5, 0, 96, 0), (95, 2, 0, 32768, 0), (96, 10, 0, 2, 0)], 3, 0, 0, 12, 5)
def fm_176 : fx_M := ([(0, 2, 0, 32768, 0), (1, 11, 1, 0, 0), (2, 2, 0, 32768, 0), (3, 11, 2, 0, 0), (4, 0, 2, 0, 0), (5, 2, 1, 32775, 7), (7, 3, 3, 36, 0), (10, 0, 1, 0, 0), (11, 0, 0, 2, 0), (12, 1, 15, 6, 1), (15, 0, 2, 0, 0), (16, 6, 0, 0, 0), (17, 2, 0, 32767, 4294967295), (18, 3, 1, 25, 0), (21, 2, 0, 32768, 0), (22, 5, 0, 28, 0), (25, 2, 0, 32769, 1), (26, 0, 2, 0, 0), (27, 12, 8, 0, 0), (28, 12, 6, 0, 0), (29, 11, 1, 0, 0), (30, 7, 2, 1, 0), (33, 5, 0, 4, 0), (36, 0, 1, 0, 0), (37, 10, 0, 1, 0)], 1, 0, 0, 8, 3)
def fm_177 : fx_M := ([(0, 0, 1, 0, 0), (1, 4, 3, 8, 0), (4, 2, 0, 32768, 0), (5, 5, 0, 11, 0), (8, 2, 0, 32769, 1), (9, 0, 1, 0, 0), (10, 12, 8, 0, 0), (11, 11, 2, 0, 0), (12, 2, 0, 32768, 0), (13, 11, 3, 0, 0), (14, 0, 3, 0, 0), (15, 2, 1, 32775, 7), (17, 3, 3, 37, 0), (20, 0, 2, 0, 0), (21, 0, 0, 2, 0), (22, 1, 33, 9, 3), (25, 0, 2, 0, 0), (26, 9, 0, 252, 234), (29, 12, 6, 0, 0), (30, 11, 2, 0, 0), (31, 7, 3, 1, 0), (34, 5, 0, 14, 0), (37, 0, 2, 0, 0), (38, 10, 0, 1, 0)], 2, 0, 0, 11, 4)
def fm_178 : fx_M := ([(0, 0, 0, 0, 0), (1, 0, 1, 0, 0), (2, 12, 9, 0, 0), (3, 2, 0, 32769, 1), (4, 12, 5, 0, 0), (5, 2, 0, 32769, 1), (6, 3, 1, 13, 0), (9, 2, 0, 32769, 1), (10, 5, 0, 14, 0), (13, 2, 0, 32768, 0), (14, 10, 0, 2, 0)], 2, 0, 0, 0, 2)
def fm_179 : fx_M := ([(0, 0, 0, 2, 0), (1, 1, 44, 3, 9), (4, 0, 0, 2, 0), (5, 1, 48, 3, 10), (8, 12, 2, 0, 0), (9, 2, 1, 32784, 16), (11, 29, 87, 1, 0), (14, 10, 0, 1, 0)], 1, 0, 0, 5, 1)
def fm_180 : fx_M := ([(0, 0, 0, 2, 0), (1, 1, 33, 9, 3), (4, 0, 0, 2, 0), (5, 1, 19, 9, 1), (8, 0, 0, 2, 0), (9, 1, 26, 9, 2), (12, 9, 0, 128, 127), (15, 0, 0, 2, 0), (16, 1, 33, 9, 3), (19, 1, 194, 8, 0), (22, 1, 134, 6, 1), (25, 0, 1, 0, 0), (26, 0, 2, 0, 0), (27, 8, 0, 0, 0), (28, 0, 0, 2, 0), (29, 1, 33, 9, 3), (32, 9, 0, 267, 227), (35, 0, 0, 2, 0), (36, 1, 33, 9, 3), (39, 9, 0, 188, 148), (42, 15, 1, 0, 0), (43, 0, 0, 2, 0), (44, 1, 33, 9, 3), (47, 1, 194, 8, 0), (50, 9, 0, 176, 143), (53, 10, 0, 1, 0)], 3, 0, 0, 11, 3)
def fm_181 : fx_M := ([(0, 0, 0, 2, 0), (1, 1, 20, 10, 11), (4, 0, 0, 2, 0), (5, 1, 283, 10, 37), (8, 6, 0, 0, 0), (9, 0, 0, 2, 0), (10, 1, 24, 10, 12), (13, 0, 0, 2, 0), (14, 1, 283, 10, 37), (17, 6, 0, 0, 0), (18, 12, 2, 0, 0), (19, 10, 0, 1, 0)], 1, 0, 0, 12, 1)
def fm_182 : fx_M := ([(0, 0, 0, 2, 0), (1, 9, 0, 501, 184), (4, 0, 0, 2, 0), (5, 1, 101, 10, 50), (8, 2, 1, 32775, 7), (10, 0, 1, 0, 0), (11, 12, 0, 0, 0), (12, 0, 2, 0, 0), (13, 8, 0, 0, 0), (14, 0, 0, 2, 0), (15, 2, 0, 32769, 1), (16, 9, 0, 504, 185), (19, 10, 0, 1, 0)], 3, 0, 0, 12, 3)
def fm_183 : fx_M := ([(0, 0, 0, 2, 0), (1, 1, 33, 9, 3), (4, 0, 0, 2, 0), (5, 1, 19, 9, 1), (8, 0, 0, 2, 0), (9, 1, 26, 9, 2), (12, 9, 0, 128, 127), (15, 0, 0, 2, 0), (16, 1, 33, 9, 3), (19, 1, 194, 8, 0), (22, 0, 1, 0, 0), (23, 0, 2, 0, 0), (24, 9, 0, 210, 156), (27, 0, 0, 2, 0), (28, 1, 33, 9, 3), (31, 9, 0, 267, 227), (34, 0, 0, 2, 0), (35, 1, 33, 9, 3), (38, 9, 0, 188, 148), (41, 15, 1, 0, 0), (42, 0, 0, 2, 0), (43, 1, 33, 9, 3), (46, 1, 194, 8, 0), (49, 9, 0, 176, 143), (52, 10, 0, 1, 0)], 3, 0, 0, 11, 3)
def fm_184 : fx_M := ([(0, 2, 0, 32768, 0), (1, 11, 1, 0, 0), (2, 0, 1, 0, 0), (3, 2, 1, 32785, 17), (5, 3, 3, 26, 0), (8, 0, 0, 2, 0), (9, 1, 116, 10, 58), (12, 0, 1, 0, 0), (13, 0, 0, 2, 0), (14, 1, 101, 10, 50), (17, 0, 1, 0, 0), (18, 6, 0, 0, 0), (19, 8, 0, 0, 0), (20, 7, 1, 1, 0), (23, 5, 0, 2, 0), (26, 10, 1, 0, 0)], 1, 0, 0, 12, 2)
def fm_185 : fx_M := ([(0, 2, 0, 32768, 0), (1, 11, 2, 0, 0), (2, 0, 2, 0, 0), (3, 0, 1, 0, 0), (4, 3, 3, 18, 0), (7, 0, 0, 2, 0), (8, 9, 0, 441, 186), (11, 11, 3, 0, 0), (12, 7, 2, 1, 0), (15, 5, 0, 2, 0), (18, 2, 0, 32768, 0), (19, 11, 2, 0, 0), (20, 0, 2, 0, 0), (21, 0, 0, 2, 0), (22, 9, 0, 391, 26), (25, 3, 3, 48, 0), (28, 0, 0, 2, 0), (29, 1, 119, 10, 59), (32, 0, 2, 0, 0), (33, 0, 0, 2, 0), (34, 1, 101, 10, 50), (37, 2, 0, 32768, 0), (38, 0, 2, 0, 0), (39, 12, 0, 0, 0), (40, 6, 0, 0, 0), (41, 8, 0, 0, 0), (42, 7, 2, 1, 0), (45, 5, 0, 20, 0), (48, 0, 0, 2, 0), (49, 9, 0, 462, 144), (52, 11, 2, 0, 0), (53, 0, 0, 2, 0), (54, 9, 0, 495, 187), (57, 0, 2, 0, 0), (58, 10, 0, 1, 0)], 2, 0, 0, 12, 4)
def fm_186 : fx_M := ([(0, 2, 0, 32768, 0), (1, 11, 1, 0, 0), (2, 2, 0, 32768, 0), (3, 11, 2, 0, 0), (4, 0, 2, 0, 0), (5, 0, 0, 2, 0), (6, 9, 0, 391, 26), (9, 3, 3, 29, 0), (12, 0, 0, 2, 0), (13, 1, 104, 10, 51), (16, 0, 2, 0, 0), (17, 0, 0, 2, 0), (18, 0, 2, 0, 0), (19, 9, 0, 438, 235), (22, 8, 0, 0, 0), (23, 7, 2, 1, 0), (26, 5, 0, 4, 0), (29, 2, 0, 32768, 0), (30, 11, 2, 0, 0), (31, 0, 2, 0, 0), (32, 0, 0, 2, 0), (33, 9, 0, 391, 26), (36, 3, 3, 84, 0), (39, 0, 1, 0, 0), (40, 0, 0, 2, 0), (41, 1, 104, 10, 51), (44, 0, 2, 0, 0), (45, 6, 0, 0, 0), (46, 0, 0, 2, 0), (47, 1, 101, 10, 50), (50, 2, 0, 32768, 0), (51, 0, 2, 0, 0), (52, 12, 0, 0, 0), (53, 6, 0, 0, 0), (54, 3, 1, 61, 0), (57, 2, 0, 32768, 0), (58, 5, 0, 62, 0), (61, 2, 0, 32769, 1), (62, 12, 0, 0, 0), (63, 11, 1, 0, 0), (64, 0, 0, 2, 0), (65, 1, 101, 10, 50), (68, 2, 0, 32768, 0), (69, 0, 2, 0, 0), (70, 12, 0, 0, 0), (71, 0, 0, 2, 0), (72, 1, 104, 10, 51), (75, 0, 2, 0, 0), (76, 6, 0, 0, 0), (77, 8, 0, 0, 0), (78, 7, 2, 1, 0), (81, 5, 0, 31, 0), (84, 0, 0, 2, 0), (85, 1, 101, 10, 50), (88, 2, 1, 32783, 15), (90, 15, 2, 0, 0), (91, 6, 0, 0, 0), (92, 2, 0, 32769, 1), (93, 12, 0, 0, 0), (94, 8, 0, 0, 0), (95, 0, 1, 0, 0), (96, 10, 0, 1, 0)], 1, 0, 0, 12, 3)
def fm_187 : fx_M := ([(0, 2, 0, 32768, 0), (1, 11, 1, 0, 0), (2, 0, 1, 0, 0), (3, 2, 1, 32785, 17), (5, 3, 3, 26, 0), (8, 0, 0, 2, 0), (9, 1, 101, 10, 50), (12, 0, 1, 0, 0), (13, 0, 0, 2, 0), (14, 1, 116, 10, 58), (17, 0, 1, 0, 0), (18, 6, 0, 0, 0), (19, 8, 0, 0, 0), (20, 7, 1, 1, 0), (23, 5, 0, 2, 0), (26, 10, 1, 0, 0)], 1, 0, 0, 12, 2)
def fm_188 : fx_M := ([(0, 0, 0, 0, 0), (1, 4, 2, 14, 0), (4, 0, 0, 0, 0), (5, 2, 1, 32828, 60), (7, 3, 4, 14, 0), (10, 2, 0, 32769, 1), (11, 5, 0, 15, 0), (14, 2, 0, 32768, 0), (15, 10, 0, 2, 0)], 1, 0, 0, 0, 1)
def fm_189 : fx_M := ([(0, 2, 0, 32768, 0), (1, 11, 2, 0, 0), (2, 0, 2, 0, 0), (3, 0, 1, 0, 0), (4, 3, 3, 24, 0), (7, 0, 2, 0, 0), (8, 2, 1, 32828, 60), (10, 3, 3, 24, 0), (13, 0, 0, 2, 0), (14, 9, 0, 79, 148), (17, 15, 1, 0, 0), (18, 7, 2, 1, 0), (21, 5, 0, 2, 0), (24, 10, 1, 0, 0)], 2, 0, 0, 10, 3)
def fm_190 : fx_M := ([(0, 2, 0, 32769, 1), (1, 11, 1, 0, 0), (2, 0, 0, 2, 0), (3, 1, 46, 8, 10), (6, 19, 0, 55, 0), (9, 0, 1, 0, 0), (10, 0, 0, 2, 0), (11, 1, 46, 8, 10), (14, 1, 83, 3, 12), (17, 3, 3, 55, 0), (20, 0, 1, 0, 0), (21, 2, 1, 32775, 7), (23, 3, 3, 55, 0), (26, 0, 0, 2, 0), (27, 1, 12, 8, 0), (30, 1, 90, 6, 0), (33, 0, 1, 0, 0), (34, 6, 0, 0, 0), (35, 0, 0, 2, 0), (36, 1, 12, 8, 0), (39, 1, 90, 6, 0), (42, 2, 0, 32768, 0), (43, 6, 0, 0, 0), (44, 3, 0, 49, 0), (47, 2, 0, 32768, 0), (48, 10, 0, 2, 0), (49, 7, 1, 1, 0), (52, 5, 0, 2, 0), (55, 2, 0, 32769, 1), (56, 10, 0, 2, 0)], 1, 0, 0, 10, 2)
def fm_191 : fx_M := ([(0, 2, 0, 32769, 1), (1, 11, 1, 0, 0), (2, 0, 1, 0, 0), (3, 0, 0, 2, 0), (4, 9, 0, 391, 26), (7, 3, 3, 35, 0), (10, 0, 0, 2, 0), (11, 1, 101, 10, 50), (14, 2, 0, 32768, 0), (15, 0, 1, 0, 0), (16, 12, 0, 0, 0), (17, 6, 0, 0, 0), (18, 0, 0, 2, 0), (19, 1, 101, 10, 50), (22, 2, 0, 32768, 0), (23, 6, 0, 0, 0), (24, 3, 0, 29, 0), (27, 2, 0, 32768, 0), (28, 10, 0, 2, 0), (29, 7, 1, 1, 0), (32, 5, 0, 2, 0), (35, 2, 0, 32769, 1), (36, 10, 0, 2, 0)], 1, 0, 0, 12, 2)
def fm_192 : fx_M := ([(0, 0, 1, 0, 0), (1, 4, 2, 30, 0), (4, 0, 1, 0, 0), (5, 2, 0, 32771, 3), (6, 3, 3, 30, 0), (9, 0, 0, 2, 0), (10, 1, 12, 8, 0), (13, 1, 90, 6, 0), (16, 2, 0, 32768, 0), (17, 0, 0, 2, 0), (18, 1, 31, 8, 5), (21, 0, 1, 0, 0), (22, 2, 1, 32775, 7), (24, 12, 2, 0, 0), (25, 2, 1, 32775, 7), (27, 23, 96, 0, 0), (30, 10, 1, 0, 0)], 2, 0, 0, 10, 2)
def fm_193 : fx_M := ([(0, 2, 0, 32768, 0), (1, 11, 2, 0, 0), (2, 2, 0, 32768, 0), (3, 11, 3, 0, 0), (4, 0, 3, 0, 0), (5, 2, 1, 32775, 7), (7, 3, 3, 58, 0), (10, 0, 1, 0, 0), (11, 4, 2, 58, 0), (14, 0, 1, 0, 0), (15, 2, 0, 32771, 3), (16, 3, 3, 58, 0), (19, 0, 2, 0, 0), (20, 0, 0, 2, 0), (21, 1, 31, 8, 5), (24, 0, 1, 0, 0), (25, 2, 1, 32775, 7), (27, 12, 2, 0, 0), (28, 0, 3, 0, 0), (29, 12, 0, 0, 0), (30, 6, 0, 0, 0), (31, 0, 0, 2, 0), (32, 1, 12, 8, 0), (35, 1, 90, 6, 0), (38, 0, 3, 0, 0), (39, 6, 0, 0, 0), (40, 3, 1, 47, 0), (43, 2, 0, 32768, 0), (44, 5, 0, 50, 0), (47, 2, 0, 32769, 1), (48, 0, 3, 0, 0), (49, 12, 8, 0, 0), (50, 12, 6, 0, 0), (51, 11, 2, 0, 0), (52, 7, 3, 1, 0), (55, 5, 0, 4, 0), (58, 0, 2, 0, 0), (59, 10, 0, 1, 0)], 2, 0, 0, 10, 4)
def fm_194 : fx_M := ([(0, 0, 1, 0, 0), (1, 0, 2, 0, 0), (2, 3, 3, 10, 0), (5, 0, 1, 0, 0), (6, 2, 0, 32771, 3), (7, 3, 2, 21, 0), (10, 0, 0, 2, 0), (11, 1, 33, 9, 3), (14, 1, 194, 8, 0), (17, 9, 0, 176, 143), (20, 10, 0, 1, 0), (21, 0, 1, 0, 0), (22, 2, 0, 32770, 2), (23, 12, 4, 0, 0), (24, 4, 1, 31, 0), (27, 2, 0, 32769, 1), (28, 5, 0, 32, 0), (31, 2, 0, 32768, 0), (32, 11, 5, 1, 0), (34, 0, 0, 2, 0), (35, 1, 33, 9, 3), (38, 0, 1, 0, 0), (39, 9, 0, 280, 192), (42, 2, 0, 32767, 4294967295), (43, 11, 6, 1, 0), (45, 2, 0, 32768, 0), (46, 11, 7, 1, 0), (48, 0, 7, 1, 0), (50, 2, 1, 32777, 9), (52, 3, 4, 204, 0), (55, 0, 3, 0, 0), (56, 0, 4, 1, 0), (58, 3, 3, 204, 0), (61, 0, 0, 2, 0), (62, 1, 33, 9, 3), (65, 0, 1, 0, 0), (66, 9, 0, 290, 236), (69, 0, 0, 2, 0), (70, 1, 33, 9, 3), (73, 1, 194, 8, 0), (76, 0, 0, 2, 0), (77, 1, 26, 9, 2), (80, 1, 150, 6, 3), (83, 0, 1, 0, 0), (84, 12, 0, 0, 0), (85, 14, 150, 6, 24), (88, 0, 0, 2, 0), (89, 1, 33, 9, 3), (92, 1, 194, 8, 0), (95, 0, 7, 1, 0), (97, 14, 204, 6, 16), (100, 0, 0, 2, 0), (101, 1, 33, 9, 3), (104, 9, 0, 188, 148), (107, 15, 1, 0, 0), (108, 0, 0, 2, 0), (109, 0, 1, 0, 0), (110, 2, 0, 32769, 1), (111, 12, 0, 0, 0), (112, 0, 2, 0, 0), (113, 0, 3, 0, 0), (114, 0, 4, 1, 0), (116, 9, 0, 286, 194), (119, 11, 8, 1, 0), (121, 0, 6, 1, 0), (123, 2, 0, 32767, 4294967295), (124, 3, 0, 149, 0), (127, 0, 5, 1, 0), (129, 4, 0, 142, 0), (132, 0, 8, 1, 0), (134, 0, 6, 1, 0), (136, 3, 5, 163, 0), (139, 5, 0, 149, 0), (142, 0, 8, 1, 0), (144, 0, 6, 1, 0), (146, 3, 3, 163, 0), (149, 0, 8, 1, 0), (151, 11, 6, 1, 0), (153, 0, 1, 0, 0), (154, 4, 1, 163, 0), (157, 0, 0, 2, 0), (158, 0, 7, 1, 0), (160, 14, 86, 9, 120), (163, 0, 5, 1, 0), (165, 4, 0, 177, 0), (168, 0, 3, 0, 0), (169, 0, 6, 1, 0), (171, 29, 293, 0, 0), (174, 5, 0, 178, 0), (177, 0, 3, 0, 0), (178, 11, 3, 0, 0), (179, 0, 5, 1, 0), (181, 4, 0, 189, 0), (184, 0, 4, 1, 0), (186, 5, 0, 196, 0), (189, 0, 4, 1, 0), (191, 0, 6, 1, 0), (193, 29, 296, 1, 0), (196, 11, 4, 1, 0), (198, 7, 7, 1, 0), (201, 5, 0, 48, 0), (204, 0, 6, 1, 0), (206, 10, 0, 1, 0)], 5, 0, 0, 11, 9)
def fm_195 : fx_M := ([(0, 2, 0, 32769, 1), (1, 11, 2, 0, 0), (2, 2, 0, 32768, 0), (3, 11, 3, 0, 0), (4, 0, 3, 0, 0), (5, 0, 1, 0, 0), (6, 3, 3, 19, 0), (9, 0, 2, 0, 0), (10, 0, 0, 0, 0), (11, 12, 2, 0, 0), (12, 11, 2, 0, 0), (13, 7, 3, 1, 0), (16, 5, 0, 4, 0), (19, 0, 2, 0, 0), (20, 10, 0, 1, 0)], 2, 0, 0, 0, 4)
def fm_196 : fx_M := ([(0, 0, 0, 2, 0), (1, 9, 0, 501, 184), (4, 2, 0, 32768, 0), (5, 11, 3, 0, 0), (6, 2, 0, 32768, 0), (7, 11, 4, 1, 0), (9, 0, 4, 1, 0), (11, 0, 1, 0, 0), (12, 3, 3, 49, 0), (15, 0, 0, 2, 0), (16, 1, 101, 10, 50), (19, 2, 1, 32782, 14), (21, 0, 2, 0, 0), (22, 2, 1, 32778, 10), (24, 0, 1, 0, 0), (25, 2, 0, 32769, 1), (26, 12, 1, 0, 0), (27, 0, 4, 1, 0), (29, 12, 1, 0, 0), (30, 9, 2, 513, 195), (33, 12, 3, 0, 0), (34, 2, 1, 32778, 10), (36, 12, 4, 0, 0), (37, 8, 0, 0, 0), (38, 0, 0, 2, 0), (39, 9, 0, 441, 186), (42, 11, 3, 0, 0), (43, 7, 4, 1, 0), (46, 5, 0, 9, 0), (49, 0, 0, 2, 0), (50, 2, 0, 32768, 0), (51, 9, 0, 504, 185), (54, 10, 0, 1, 0)], 3, 0, 0, 12, 5)
def fm_197 : fx_M := ([(0, 0, 0, 2, 0), (1, 1, 33, 9, 3), (4, 0, 0, 2, 0), (5, 1, 19, 9, 1), (8, 0, 0, 2, 0), (9, 1, 26, 9, 2), (12, 9, 0, 128, 127), (15, 0, 0, 2, 0), (16, 1, 33, 9, 3), (19, 1, 194, 8, 0), (22, 0, 1, 0, 0), (23, 14, 204, 6, 16), (26, 2, 0, 32768, 0), (27, 11, 3, 0, 0), (28, 0, 3, 0, 0), (29, 0, 2, 0, 0), (30, 3, 3, 47, 0), (33, 0, 0, 2, 0), (34, 1, 33, 9, 3), (37, 9, 0, 188, 148), (40, 15, 1, 0, 0), (41, 7, 3, 1, 0), (44, 5, 0, 28, 0), (47, 10, 1, 0, 0)], 3, 0, 0, 11, 4)
def fm_198 : fx_M := ([(0, 0, 0, 2, 0), (1, 9, 0, 501, 184), (4, 0, 0, 2, 0), (5, 1, 101, 10, 50), (8, 2, 1, 32782, 14), (10, 0, 1, 0, 0), (11, 8, 0, 0, 0), (12, 2, 0, 32768, 0), (13, 11, 3, 0, 0), (14, 2, 0, 32768, 0), (15, 11, 4, 1, 0), (17, 0, 4, 1, 0), (19, 0, 2, 0, 0), (20, 3, 3, 34, 0), (23, 0, 0, 2, 0), (24, 9, 0, 441, 186), (27, 11, 3, 0, 0), (28, 7, 4, 1, 0), (31, 5, 0, 17, 0), (34, 0, 0, 2, 0), (35, 9, 0, 465, 146), (38, 11, 4, 1, 0), (40, 0, 0, 2, 0), (41, 9, 0, 495, 187), (44, 0, 4, 1, 0), (46, 10, 0, 1, 0)], 3, 0, 0, 12, 5)
def fm_199 : fx_M := ([(0, 2, 0, 32768, 0), (1, 11, 2, 0, 0), (2, 0, 2, 0, 0), (3, 2, 1, 32868, 100), (5, 3, 3, 26, 0), (8, 0, 0, 0, 0), (9, 4, 0, 26, 0), (12, 0, 1, 0, 0), (13, 0, 0, 0, 0), (14, 12, 4, 0, 0), (15, 11, 3, 0, 0), (16, 0, 0, 0, 0), (17, 11, 1, 0, 0), (18, 0, 3, 0, 0), (19, 11, 0, 0, 0), (20, 7, 2, 1, 0), (23, 5, 0, 2, 0), (26, 0, 1, 0, 0), (27, 10, 0, 1, 0)], 2, 0, 0, 0, 4)
def fm_200 : fx_M := ([(0, 2, 0, 32769, 1), (1, 11, 2, 0, 0), (2, 2, 0, 32768, 0), (3, 11, 3, 0, 0), (4, 0, 3, 0, 0), (5, 0, 1, 0, 0), (6, 3, 3, 24, 0), (9, 0, 3, 0, 0), (10, 2, 0, 32772, 4), (11, 3, 3, 24, 0), (14, 0, 2, 0, 0), (15, 0, 0, 0, 0), (16, 12, 2, 0, 0), (17, 11, 2, 0, 0), (18, 7, 3, 1, 0), (21, 5, 0, 4, 0), (24, 0, 2, 0, 0), (25, 10, 0, 1, 0)], 2, 0, 0, 0, 4)
def fm_201 : fx_M := ([(0, 0, 0, 0, 0), (1, 11, 2, 0, 0), (2, 0, 1, 0, 0), (3, 11, 3, 0, 0), (4, 0, 3, 0, 0), (5, 4, 5, 21, 0), (8, 0, 2, 0, 0), (9, 0, 3, 0, 0), (10, 12, 4, 0, 0), (11, 11, 4, 1, 0), (13, 0, 3, 0, 0), (14, 11, 2, 0, 0), (15, 0, 4, 1, 0), (17, 11, 3, 0, 0), (18, 5, 0, 4, 0), (21, 0, 2, 0, 0), (22, 10, 0, 1, 0)], 2, 0, 0, 0, 5)
def fm_202 : fx_M := ([(0, 0, 0, 2, 0), (1, 1, 31, 2, 6), (4, 2, 1, 32798, 30), (6, 3, 2, 11, 0), (9, 2, 0, 32767, 4294967295), (10, 10, 0, 1, 0), (11, 0, 0, 2, 0), (12, 1, 9, 2, 0), (15, 0, 0, 2, 0), (16, 1, 31, 2, 6), (19, 0, 1, 0, 0), (20, 8, 0, 0, 0), (21, 0, 0, 2, 0), (22, 1, 15, 2, 1), (25, 0, 0, 2, 0), (26, 1, 31, 2, 6), (29, 0, 2, 0, 0), (30, 8, 0, 0, 0), (31, 0, 0, 2, 0), (32, 1, 18, 2, 2), (35, 0, 0, 2, 0), (36, 1, 31, 2, 6), (39, 0, 3, 0, 0), (40, 8, 0, 0, 0), (41, 0, 0, 2, 0), (42, 1, 21, 2, 3), (45, 0, 0, 2, 0), (46, 1, 31, 2, 6), (49, 0, 4, 1, 0), (51, 8, 1, 0, 0), (52, 0, 0, 2, 0), (53, 1, 25, 2, 4), (56, 0, 0, 2, 0), (57, 1, 31, 2, 6), (60, 0, 5, 1, 0), (62, 8, 0, 0, 0), (63, 0, 0, 2, 0), (64, 1, 28, 2, 5), (67, 0, 0, 2, 0), (68, 1, 31, 2, 6), (71, 2, 0, 32767, 4294967295), (72, 8, 0, 0, 0), (73, 0, 0, 2, 0), (74, 15, 0, 0, 0), (75, 1, 31, 2, 6), (78, 2, 0, 32769, 1), (79, 12, 0, 0, 0), (80, 14, 31, 2, 48), (83, 0, 0, 2, 0), (84, 1, 31, 2, 6), (87, 2, 0, 32769, 1), (88, 12, 1, 0, 0), (89, 10, 0, 1, 0)], 6, 0, 0, 4, 6)
def fm_203 : fx_M := ([(0, 0, 1, 0, 0), (1, 4, 2, 22, 0), (4, 0, 1, 0, 0), (5, 0, 0, 2, 0), (6, 1, 31, 2, 6), (9, 3, 3, 22, 0), (12, 0, 0, 2, 0), (13, 1, 28, 2, 5), (16, 0, 1, 0, 0), (17, 6, 0, 0, 0), (18, 2, 0, 32767, 4294967295), (19, 3, 0, 24, 0), (22, 2, 0, 32768, 0), (23, 10, 0, 2, 0), (24, 0, 0, 2, 0), (25, 1, 28, 2, 5), (28, 0, 1, 0, 0), (29, 0, 2, 0, 0), (30, 8, 0, 0, 0), (31, 2, 0, 32769, 1), (32, 10, 0, 2, 0)], 3, 0, 0, 4, 3)
def fm_204 : fx_M := ([(0, 0, 0, 2, 0), (1, 1, 56, 9, 6), (4, 0, 1, 0, 0), (5, 9, 0, 321, 237), (8, 11, 2, 0, 0), (9, 2, 0, 32768, 0), (10, 11, 3, 0, 0), (11, 2, 0, 32768, 0), (12, 11, 4, 1, 0), (14, 0, 4, 1, 0), (16, 2, 1, 32777, 9), (18, 3, 4, 49, 0), (21, 0, 3, 0, 0), (22, 0, 0, 2, 0), (23, 0, 4, 1, 0), (25, 0, 1, 0, 0), (26, 0, 2, 0, 0), (27, 9, 0, 324, 238), (30, 4, 0, 40, 0), (33, 2, 0, 32769, 1), (34, 0, 4, 1, 0), (36, 12, 8, 0, 0), (37, 5, 0, 41, 0), (40, 2, 0, 32768, 0), (41, 12, 6, 0, 0), (42, 11, 3, 0, 0), (43, 7, 4, 1, 0), (46, 5, 0, 14, 0), (49, 0, 3, 0, 0), (50, 10, 0, 1, 0)], 2, 0, 0, 11, 5)
def fm_205 : fx_M := ([(0, 2, 0, 32768, 0), (1, 11, 3, 0, 0), (2, 0, 3, 0, 0), (3, 0, 0, 2, 0), (4, 1, 407, 10, 69), (7, 3, 3, 94, 0), (10, 0, 0, 2, 0), (11, 1, 140, 10, 66), (14, 0, 3, 0, 0), (15, 6, 0, 0, 0), (16, 0, 2, 0, 0), (17, 3, 4, 88, 0), (20, 0, 0, 2, 0), (21, 1, 143, 10, 67), (24, 0, 3, 0, 0), (25, 6, 0, 0, 0), (26, 4, 2, 42, 0), (29, 0, 0, 2, 0), (30, 1, 143, 10, 67), (33, 0, 3, 0, 0), (34, 6, 0, 0, 0), (35, 0, 2, 0, 0), (36, 3, 4, 42, 0), (39, 5, 0, 88, 0), (42, 0, 0, 2, 0), (43, 0, 1, 0, 0), (44, 0, 0, 2, 0), (45, 1, 128, 10, 62), (48, 0, 3, 0, 0), (49, 6, 0, 0, 0), (50, 0, 0, 2, 0), (51, 1, 131, 10, 63), (54, 0, 3, 0, 0), (55, 6, 0, 0, 0), (56, 9, 0, 529, 239), (59, 0, 0, 2, 0), (60, 1, 134, 10, 64), (63, 0, 3, 0, 0), (64, 6, 0, 0, 0), (65, 3, 2, 72, 0), (68, 2, 0, 32769, 1), (69, 5, 0, 73, 0), (72, 2, 0, 32768, 0), (73, 11, 4, 1, 0), (75, 0, 4, 1, 0), (77, 0, 0, 2, 0), (78, 1, 137, 10, 65), (81, 0, 3, 0, 0), (82, 6, 0, 0, 0), (83, 3, 0, 88, 0), (86, 2, 0, 32768, 0), (87, 10, 0, 2, 0), (88, 7, 3, 1, 0), (91, 5, 0, 2, 0), (94, 2, 0, 32769, 1), (95, 10, 0, 2, 0)], 3, 0, 0, 12, 5)
def fm_206 : fx_M := ([(0, 2, 0, 32768, 0), (1, 11, 3, 0, 0), (2, 0, 3, 0, 0), (3, 2, 1, 32777, 9), (5, 3, 4, 53, 0), (8, 0, 1, 0, 0), (9, 0, 3, 0, 0), (10, 12, 9, 0, 0), (11, 2, 0, 32769, 1), (12, 12, 5, 0, 0), (13, 2, 0, 32769, 1), (14, 3, 1, 47, 0), (17, 0, 0, 2, 0), (18, 0, 3, 0, 0), (19, 0, 2, 0, 0), (20, 9, 0, 299, 197), (23, 0, 0, 2, 0), (24, 1, 33, 9, 3), (27, 1, 194, 8, 0), (30, 1, 131, 6, 0), (33, 2, 0, 32768, 0), (34, 0, 0, 2, 0), (35, 1, 70, 9, 10), (38, 0, 3, 0, 0), (39, 2, 1, 32775, 7), (41, 12, 2, 0, 0), (42, 2, 1, 32775, 7), (44, 23, 338, 0, 0), (47, 7, 3, 1, 0), (50, 5, 0, 2, 0), (53, 10, 1, 0, 0)], 3, 0, 0, 11, 4)
def fm_207 : fx_M := ([(0, 0, 0, 2, 0), (1, 1, 67, 9, 9), (4, 2, 0, 32768, 0), (5, 9, 2, 344, 14), (8, 2, 0, 32768, 0), (9, 11, 3, 0, 0), (10, 2, 0, 32768, 0), (11, 11, 4, 1, 0), (13, 0, 4, 1, 0), (15, 2, 1, 32777, 9), (17, 3, 4, 83, 0), (20, 0, 0, 2, 0), (21, 1, 70, 9, 10), (24, 0, 4, 1, 0), (26, 2, 1, 32775, 7), (28, 12, 2, 0, 0), (29, 0, 1, 0, 0), (30, 12, 0, 0, 0), (31, 6, 0, 0, 0), (32, 11, 5, 1, 0), (34, 0, 2, 0, 0), (35, 0, 4, 1, 0), (37, 12, 9, 0, 0), (38, 2, 0, 32769, 1), (39, 12, 5, 0, 0), (40, 2, 0, 32769, 1), (41, 3, 1, 77, 0), (44, 0, 5, 1, 0), (46, 2, 1, 32777, 9), (48, 9, 2, 200, 153), (51, 4, 0, 77, 0), (54, 0, 0, 2, 0), (55, 1, 67, 9, 9), (58, 0, 5, 1, 0), (60, 15, 2, 0, 0), (61, 6, 0, 0, 0), (62, 2, 0, 32769, 1), (63, 12, 0, 0, 0), (64, 8, 0, 0, 0), (65, 0, 3, 0, 0), (66, 0, 0, 2, 0), (67, 1, 67, 9, 9), (70, 0, 5, 1, 0), (72, 6, 0, 0, 0), (73, 29, 293, 0, 0), (76, 11, 3, 0, 0), (77, 7, 4, 1, 0), (80, 5, 0, 13, 0), (83, 0, 3, 0, 0), (84, 10, 0, 1, 0)], 3, 0, 0, 11, 6)
def fm_208 : fx_M := ([(0, 2, 0, 32768, 0), (1, 11, 4, 1, 0), (3, 0, 4, 1, 0), (5, 2, 1, 32777, 9), (7, 3, 4, 24, 0), (10, 0, 0, 2, 0), (11, 1, 146, 10, 68), (14, 0, 4, 1, 0), (16, 2, 0, 32768, 0), (17, 8, 0, 0, 0), (18, 7, 4, 1, 0), (21, 5, 0, 3, 0), (24, 2, 0, 32768, 0), (25, 11, 4, 1, 0), (27, 2, 0, 32768, 0), (28, 11, 5, 1, 0), (30, 0, 5, 1, 0), (32, 2, 1, 32777, 9), (34, 3, 4, 97, 0), (37, 0, 1, 0, 0), (38, 0, 5, 1, 0), (40, 9, 2, 420, 178), (43, 4, 1, 49, 0), (46, 5, 0, 91, 0), (49, 0, 0, 2, 0), (50, 0, 5, 1, 0), (52, 0, 2, 0, 0), (53, 0, 3, 0, 0), (54, 9, 0, 529, 239), (57, 11, 6, 1, 0), (59, 0, 0, 2, 0), (60, 1, 146, 10, 68), (63, 0, 6, 1, 0), (65, 15, 2, 0, 0), (66, 6, 0, 0, 0), (67, 2, 0, 32769, 1), (68, 12, 0, 0, 0), (69, 8, 0, 0, 0), (70, 0, 0, 2, 0), (71, 1, 146, 10, 68), (74, 0, 6, 1, 0), (76, 6, 0, 0, 0), (77, 0, 4, 1, 0), (79, 3, 5, 91, 0), (82, 0, 0, 2, 0), (83, 1, 146, 10, 68), (86, 0, 6, 1, 0), (88, 6, 0, 0, 0), (89, 11, 4, 1, 0), (91, 7, 5, 1, 0), (94, 5, 0, 30, 0), (97, 0, 4, 1, 0), (99, 10, 0, 1, 0)], 4, 0, 0, 12, 7)
def fm_209 : fx_M := ([(0, 0, 1, 0, 0), (1, 4, 2, 12, 0), (4, 0, 1, 0, 0), (5, 0, 0, 2, 0), (6, 1, 15, 5, 0), (9, 3, 2, 13, 0), (12, 10, 1, 0, 0), (13, 0, 1, 0, 0), (14, 2, 1, 32785, 17), (16, 12, 2, 0, 0), (17, 11, 3, 0, 0), (18, 0, 2, 2, 0), (19, 1, 29, 6, 0), (22, 2, 0, 32768, 0), (23, 0, 0, 2, 0), (24, 1, 21, 5, 1), (27, 0, 3, 0, 0), (28, 2, 1, 32775, 7), (30, 23, 34, 0, 0), (33, 0, 2, 2, 0), (34, 1, 40, 6, 1), (37, 2, 0, 32768, 0), (38, 0, 0, 2, 0), (39, 1, 21, 5, 1), (42, 0, 3, 0, 0), (43, 2, 1, 32775, 7), (45, 12, 0, 0, 0), (46, 2, 1, 32775, 7), (48, 23, 34, 0, 0), (51, 0, 0, 2, 0), (52, 1, 21, 5, 1), (55, 0, 3, 0, 0), (56, 2, 1, 32782, 14), (58, 12, 0, 0, 0), (59, 0, 2, 2, 0), (60, 1, 43, 6, 2), (63, 8, 0, 0, 0), (64, 0, 0, 2, 0), (65, 1, 21, 5, 1), (68, 0, 3, 0, 0), (69, 2, 1, 32783, 15), (71, 12, 0, 0, 0), (72, 0, 2, 2, 0), (73, 1, 46, 6, 3), (76, 8, 0, 0, 0), (77, 0, 0, 2, 0), (78, 1, 21, 5, 1), (81, 0, 3, 0, 0), (82, 2, 1, 32784, 16), (84, 12, 0, 0, 0), (85, 0, 2, 2, 0), (86, 1, 49, 6, 4), (89, 8, 0, 0, 0), (90, 0, 0, 2, 0), (91, 1, 25, 5, 2), (94, 0, 1, 0, 0), (95, 2, 0, 32769, 1), (96, 8, 1, 0, 0), (97, 10, 1, 0, 0)], 3, 0, 0, 7, 4)
def fm_210 : fx_M := ([(0, 0, 1, 0, 0), (1, 4, 2, 21, 0), (4, 0, 1, 0, 0), (5, 0, 0, 2, 0), (6, 1, 15, 5, 0), (9, 3, 3, 21, 0), (12, 0, 0, 2, 0), (13, 1, 25, 5, 2), (16, 0, 1, 0, 0), (17, 6, 1, 0, 0), (18, 4, 1, 23, 0), (21, 2, 0, 32768, 0), (22, 10, 0, 2, 0), (23, 0, 1, 0, 0), (24, 2, 1, 32785, 17), (26, 12, 2, 0, 0), (27, 11, 3, 0, 0), (28, 0, 0, 2, 0), (29, 1, 21, 5, 1), (32, 0, 3, 0, 0), (33, 0, 2, 2, 0), (34, 1, 29, 6, 0), (37, 2, 0, 32768, 0), (38, 2, 1, 32775, 7), (40, 23, 34, 0, 0), (43, 0, 0, 2, 0), (44, 1, 21, 5, 1), (47, 0, 3, 0, 0), (48, 2, 1, 32775, 7), (50, 12, 0, 0, 0), (51, 0, 2, 2, 0), (52, 1, 40, 6, 1), (55, 2, 0, 32768, 0), (56, 2, 1, 32775, 7), (58, 23, 34, 0, 0), (61, 0, 2, 2, 0), (62, 0, 0, 2, 0), (63, 1, 21, 5, 1), (66, 0, 3, 0, 0), (67, 2, 1, 32782, 14), (69, 12, 0, 0, 0), (70, 6, 0, 0, 0), (71, 14, 43, 6, 16), (74, 0, 2, 2, 0), (75, 0, 0, 2, 0), (76, 1, 21, 5, 1), (79, 0, 3, 0, 0), (80, 2, 1, 32783, 15), (82, 12, 0, 0, 0), (83, 6, 0, 0, 0), (84, 14, 46, 6, 24), (87, 0, 2, 2, 0), (88, 0, 0, 2, 0), (89, 1, 21, 5, 1), (92, 0, 3, 0, 0), (93, 2, 1, 32784, 16), (95, 12, 0, 0, 0), (96, 6, 0, 0, 0), (97, 14, 49, 6, 32), (100, 2, 0, 32769, 1), (101, 10, 0, 2, 0)], 3, 0, 0, 7, 4)
def fm_211 : fx_M := ([(0, 0, 0, 2, 0), (1, 2, 0, 32768, 0), (2, 14, 19, 7, 16), (5, 0, 0, 2, 0), (6, 9, 0, 54, 240), (9, 10, 1, 0, 0)], 1, 0, 0, 9, 1)
def fm_212 : fx_M := ([(0, 0, 0, 2, 0), (1, 1, 12, 4, 0), (4, 1, 38, 7, 4), (7, 20, 194, 256, 12), (68, 0, 1, 0, 0), (69, 4, 0, 79, 0), (72, 0, 0, 2, 0), (73, 9, 0, 45, 241), (76, 5, 0, 83, 0), (79, 0, 0, 2, 0), (80, 9, 0, 49, 242), (83, 10, 0, 2, 0), (84, 0, 0, 2, 0), (85, 9, 0, 52, 243), (88, 10, 0, 2, 0), (89, 0, 0, 2, 0), (90, 9, 0, 55, 244), (93, 10, 0, 2, 0), (94, 0, 0, 2, 0), (95, 0, 0, 2, 0), (96, 1, 21, 4, 1), (99, 1, 58, 3, 7), (102, 9, 0, 62, 245), (105, 4, 0, 137, 0), (108, 0, 0, 2, 0), (109, 0, 0, 2, 0), (110, 1, 21, 4, 1), (113, 1, 58, 3, 7), (116, 2, 0, 32768, 0), (117, 2, 0, 32768, 0), (118, 9, 0, 66, 246), (121, 4, 0, 137, 0), (124, 0, 0, 2, 0), (125, 2, 1, 32827, 59), (127, 9, 0, 70, 247), (130, 4, 0, 137, 0), (133, 2, 0, 32769, 1), (134, 5, 0, 138, 0), (137, 2, 0, 32768, 0), (138, 10, 0, 2, 0), (139, 0, 0, 2, 0), (140, 0, 0, 2, 0), (141, 1, 21, 4, 1), (144, 1, 74, 3, 8), (147, 9, 0, 62, 245), (150, 4, 0, 182, 0), (153, 0, 0, 2, 0), (154, 0, 0, 2, 0), (155, 1, 21, 4, 1), (158, 1, 74, 3, 8), (161, 2, 0, 32768, 0), (162, 2, 0, 32768, 0), (163, 9, 0, 66, 246), (166, 4, 0, 182, 0), (169, 0, 0, 2, 0), (170, 2, 1, 32827, 59), (172, 9, 0, 70, 247), (175, 4, 0, 182, 0), (178, 2, 0, 32769, 1), (179, 5, 0, 183, 0), (182, 2, 0, 32768, 0), (183, 10, 0, 2, 0), (184, 0, 0, 2, 0), (185, 9, 0, 77, 248), (188, 10, 0, 2, 0), (189, 0, 0, 2, 0), (190, 9, 0, 80, 249), (193, 10, 0, 2, 0), (194, 0, 0, 2, 0), (195, 9, 0, 49, 242), (198, 10, 0, 2, 0)], 2, 0, 0, 6, 2)
def fm_213 : fx_M := ([(0, 0, 1, 0, 0), (1, 0, 0, 2, 0), (2, 1, 161, 10, 3), (5, 3, 3, 21, 0), (8, 0, 0, 2, 0), (9, 1, 13, 10, 1), (12, 0, 1, 0, 0), (13, 6, 1, 0, 0), (14, 2, 2, 33023, 255), (17, 12, 5, 0, 0), (18, 5, 0, 22, 0), (21, 2, 0, 32768, 0), (22, 10, 0, 1, 0)], 2, 0, 0, 12, 2)
def fm_214 : fx_M := ([(0, 0, 0, 0, 0), (1, 2, 1, 32865, 97), (3, 3, 2, 16, 0), (6, 0, 0, 0, 0), (7, 2, 1, 32890, 122), (9, 3, 4, 16, 0), (12, 2, 0, 32769, 1), (13, 5, 0, 17, 0), (16, 2, 0, 32768, 0), (17, 10, 0, 2, 0)], 1, 0, 0, 0, 1)
def fm_215 : fx_M := ([(0, 0, 0, 4, 0), (1, 2, 6, 167, 1751215212), (4, 30, 0, 0, 0), (5, 4, 0, 96, 0), (8, 0, 0, 4, 0), (9, 2, 6, 169, 25209), (12, 30, 0, 0, 0), (13, 4, 0, 96, 0), (16, 0, 0, 4, 0), (17, 2, 6, 171, 7235441220320322420), (20, 30, 0, 0, 0), (21, 4, 0, 96, 0), (24, 0, 0, 4, 0), (25, 2, 6, 173, 1836019556), (28, 30, 0, 0, 0), (29, 4, 0, 96, 0), (32, 0, 0, 4, 0), (33, 2, 6, 175, 120282394289522), (36, 30, 0, 0, 0), (37, 4, 0, 96, 0), (40, 0, 0, 4, 0), (41, 2, 6, 177, 6713202), (44, 30, 0, 0, 0), (45, 4, 0, 96, 0), (48, 0, 0, 4, 0), (49, 2, 6, 179, 1717658469), (52, 30, 0, 0, 0), (53, 4, 0, 96, 0), (56, 0, 0, 4, 0), (57, 2, 6, 181, 495874697571), (60, 30, 0, 0, 0), (61, 4, 0, 96, 0), (64, 0, 0, 4, 0), (65, 2, 6, 183, 24948), (68, 30, 0, 0, 0), (69, 4, 0, 96, 0), (72, 0, 0, 4, 0), (73, 2, 6, 185, 1819242347), (76, 30, 0, 0, 0), (77, 4, 0, 96, 0), (80, 0, 0, 4, 0), (81, 2, 6, 187, 465624852596), (84, 30, 0, 0, 0), (85, 4, 0, 96, 0), (88, 0, 0, 4, 0), (89, 2, 6, 189, 500085781608), (92, 30, 0, 0, 0), (93, 4, 1, 100, 0), (96, 2, 0, 32769, 1), (97, 5, 0, 101, 0), (100, 2, 0, 32768, 0), (101, 11, 2, 0, 0), (102, 0, 2, 0, 0), (103, 4, 1, 202, 0), (106, 0, 0, 4, 0), (107, 2, 6, 191, 28518), (110, 30, 0, 0, 0), (111, 4, 0, 202, 0), (114, 0, 0, 4, 0), (115, 2, 6, 193, 1685217655), (118, 30, 0, 0, 0), (119, 4, 0, 202, 0), (122, 0, 0, 4, 0), (123, 2, 6, 195, 1852137842), (126, 30, 0, 0, 0), (127, 4, 0, 202, 0), (130, 0, 0, 4, 0), (131, 2, 6, 197, 108187867505765), (134, 30, 0, 0, 0), (135, 4, 0, 202, 0), (138, 0, 0, 4, 0), (139, 2, 6, 199, 108243534178420), (142, 30, 0, 0, 0), (143, 4, 0, 202, 0), (146, 0, 0, 4, 0), (147, 2, 6, 201, 1852143475), (150, 30, 0, 0, 0), (151, 4, 0, 202, 0), (154, 0, 0, 4, 0), (155, 2, 6, 203, 1937007984), (158, 30, 0, 0, 0), (159, 4, 0, 202, 0), (162, 0, 0, 4, 0), (163, 2, 6, 205, 7499639), (166, 30, 0, 0, 0), (167, 4, 0, 202, 0), (170, 0, 0, 4, 0), (171, 2, 6, 207, 109330212154734), (174, 30, 0, 0, 0), (175, 4, 0, 202, 0), (178, 0, 0, 4, 0), (179, 2, 6, 209, 28530), (182, 30, 0, 0, 0), (183, 4, 0, 202, 0), (186, 0, 0, 4, 0), (187, 2, 6, 211, 6385252), (190, 30, 0, 0, 0), (191, 4, 0, 202, 0), (194, 0, 0, 4, 0), (195, 2, 6, 213, 7237492), (198, 30, 0, 0, 0), (199, 4, 1, 206, 0), (202, 2, 0, 32769, 1), (203, 5, 0, 207, 0), (206, 2, 0, 32768, 0), (207, 10, 0, 2, 0)], 1, 0, 0, 0, 3)
def fm_216 : fx_M := ([(0, 0, 0, 0, 0), (1, 2, 1, 32816, 48), (3, 3, 2, 16, 0), (6, 0, 0, 0, 0), (7, 2, 1, 32825, 57), (9, 3, 4, 16, 0), (12, 2, 0, 32769, 1), (13, 5, 0, 17, 0), (16, 2, 0, 32768, 0), (17, 10, 0, 2, 0)], 1, 0, 0, 0, 1)
def fm_217 : fx_M := ([(0, 0, 0, 0, 0), (1, 2, 1, 32827, 59), (3, 3, 0, 66, 0), (6, 0, 0, 0, 0), (7, 2, 1, 32808, 40), (9, 3, 0, 66, 0), (12, 0, 0, 0, 0), (13, 2, 1, 32809, 41), (15, 3, 0, 66, 0), (18, 0, 0, 0, 0), (19, 2, 1, 32828, 60), (21, 3, 0, 66, 0), (24, 0, 0, 0, 0), (25, 2, 1, 32830, 62), (27, 3, 0, 66, 0), (30, 0, 0, 0, 0), (31, 2, 1, 32829, 61), (33, 3, 0, 66, 0), (36, 0, 0, 0, 0), (37, 2, 1, 32811, 43), (39, 3, 0, 66, 0), (42, 0, 0, 0, 0), (43, 2, 1, 32813, 45), (45, 3, 0, 66, 0), (48, 0, 0, 0, 0), (49, 2, 1, 32810, 42), (51, 3, 0, 66, 0), (54, 0, 0, 0, 0), (55, 2, 1, 32815, 47), (57, 3, 0, 66, 0), (60, 0, 0, 0, 0), (61, 2, 1, 32805, 37), (63, 3, 1, 70, 0), (66, 2, 0, 32769, 1), (67, 5, 0, 71, 0), (70, 2, 0, 32768, 0), (71, 10, 0, 2, 0)], 1, 0, 0, 0, 1)
def fm_218 : fx_M := ([(0, 0, 0, 2, 0), (1, 2, 6, 167, 1751215212), (4, 9, 0, 263, 250), (7, 4, 0, 28, 0), (10, 0, 0, 2, 0), (11, 1, 27, 10, 13), (14, 0, 0, 2, 0), (15, 1, 274, 10, 38), (18, 6, 0, 0, 0), (19, 4, 5, 26, 0), (22, 2, 0, 32769, 1), (23, 5, 0, 27, 0), (26, 2, 0, 32768, 0), (27, 10, 0, 2, 0), (28, 0, 0, 2, 0), (29, 2, 6, 171, 7235441220320322420), (32, 9, 0, 263, 250), (35, 4, 0, 57, 0), (38, 0, 0, 2, 0), (39, 1, 30, 10, 14), (42, 0, 0, 2, 0), (43, 1, 274, 10, 38), (46, 6, 0, 0, 0), (47, 2, 0, 32772, 4), (48, 3, 1, 55, 0), (51, 2, 0, 32769, 1), (52, 5, 0, 56, 0), (55, 2, 0, 32768, 0), (56, 10, 0, 2, 0), (57, 0, 0, 2, 0), (58, 2, 6, 175, 120282394289522), (61, 9, 0, 263, 250), (64, 4, 0, 87, 0), (67, 0, 0, 2, 0), (68, 1, 33, 10, 15), (71, 0, 0, 2, 0), (72, 1, 274, 10, 38), (75, 6, 0, 0, 0), (76, 2, 1, 32775, 7), (78, 3, 1, 85, 0), (81, 2, 0, 32769, 1), (82, 5, 0, 86, 0), (85, 2, 0, 32768, 0), (86, 10, 0, 2, 0), (87, 0, 0, 2, 0), (88, 2, 6, 185, 1819242347), (91, 9, 0, 263, 250), (94, 4, 0, 109, 0), (97, 0, 0, 2, 0), (98, 1, 69, 10, 27), (101, 2, 0, 32770, 2), (102, 0, 0, 2, 0), (103, 1, 274, 10, 38), (106, 12, 2, 0, 0), (107, 6, 1, 0, 0), (108, 10, 0, 2, 0), (109, 0, 0, 2, 0), (110, 2, 6, 187, 465624852596), (113, 9, 0, 263, 250), (116, 4, 0, 133, 0), (119, 0, 0, 2, 0), (120, 1, 69, 10, 27), (123, 2, 0, 32770, 2), (124, 0, 0, 2, 0), (125, 1, 274, 10, 38), (128, 12, 2, 0, 0), (129, 2, 0, 32769, 1), (130, 12, 0, 0, 0), (131, 6, 1, 0, 0), (132, 10, 0, 2, 0), (133, 0, 0, 2, 0), (134, 2, 6, 189, 500085781608), (137, 9, 0, 263, 250), (140, 4, 0, 153, 0), (143, 0, 0, 2, 0), (144, 1, 73, 10, 28), (147, 0, 0, 2, 0), (148, 1, 274, 10, 38), (151, 6, 1, 0, 0), (152, 10, 0, 2, 0), (153, 0, 0, 2, 0), (154, 2, 6, 193, 1685217655), (157, 9, 0, 263, 250), (160, 4, 0, 175, 0), (163, 0, 0, 2, 0), (164, 1, 76, 10, 29), (167, 0, 0, 2, 0), (168, 1, 274, 10, 38), (171, 6, 1, 0, 0), (172, 4, 0, 179, 0), (175, 2, 0, 32769, 1), (176, 5, 0, 180, 0), (179, 2, 0, 32768, 0), (180, 10, 0, 2, 0)], 1, 0, 0, 12, 1)
def fm_219 : fx_M := ([(0, 0, 0, 2, 0), (1, 0, 0, 2, 0), (2, 1, 225, 10, 8), (5, 2, 0, 32769, 1), (6, 3, 1, 13, 0), (9, 2, 0, 32769, 1), (10, 5, 0, 14, 0), (13, 2, 0, 32770, 2), (14, 0, 0, 2, 0), (15, 1, 218, 10, 6), (18, 9, 0, 249, 251), (21, 10, 1, 0, 0)], 1, 0, 0, 12, 1)
def fm_220 : fx_M := ([(0, 0, 0, 2, 0), (1, 9, 0, 253, 124), (4, 4, 1, 9, 0), (7, 0, 1, 0, 0), (8, 10, 0, 1, 0), (9, 0, 0, 2, 0), (10, 1, 225, 10, 8), (13, 2, 0, 32772, 4), (14, 3, 0, 21, 0), (17, 0, 0, 2, 0), (18, 9, 0, 260, 219), (21, 0, 0, 2, 0), (22, 9, 0, 253, 124), (25, 4, 0, 53, 0), (28, 0, 0, 2, 0), (29, 1, 243, 10, 9), (32, 0, 1, 0, 0), (33, 3, 2, 44, 0), (36, 0, 0, 2, 0), (37, 1, 243, 10, 9), (40, 0, 2, 0, 0), (41, 3, 5, 53, 0), (44, 0, 0, 2, 0), (45, 2, 0, 32772, 4), (46, 0, 0, 2, 0), (47, 1, 218, 10, 6), (50, 9, 0, 249, 251), (53, 0, 0, 2, 0), (54, 1, 243, 10, 9), (57, 11, 3, 0, 0), (58, 0, 0, 2, 0), (59, 9, 0, 253, 124), (62, 4, 0, 69, 0), (65, 0, 0, 2, 0), (66, 9, 0, 257, 123), (69, 0, 0, 2, 0), (70, 9, 0, 253, 124), (73, 4, 0, 80, 0), (76, 0, 3, 0, 0), (77, 5, 0, 81, 0), (80, 0, 1, 0, 0), (81, 10, 0, 1, 0)], 3, 0, 0, 12, 4)
def fm_221 : fx_M := ([(0, 0, 0, 2, 0), (1, 0, 0, 2, 0), (2, 0, 1, 4, 0), (3, 9, 0, 263, 250), (6, 9, 0, 266, 226), (9, 0, 0, 2, 0), (10, 0, 3, 0, 0), (11, 0, 4, 1, 0), (13, 9, 0, 270, 220), (16, 10, 0, 1, 0)], 4, 0, 0, 12, 5)
def fm_222 : fx_M := ([(0, 2, 0, 32772, 4), (1, 0, 0, 2, 0), (2, 1, 274, 10, 38), (5, 12, 2, 0, 0), (6, 0, 0, 2, 0), (7, 1, 30, 10, 14), (10, 0, 0, 2, 0), (11, 1, 274, 10, 38), (14, 6, 0, 0, 0), (15, 12, 0, 0, 0), (16, 11, 1, 0, 0), (17, 0, 0, 2, 0), (18, 1, 79, 10, 30), (21, 0, 1, 0, 0), (22, 0, 0, 2, 0), (23, 0, 0, 2, 0), (24, 9, 0, 313, 252), (27, 9, 0, 317, 253), (30, 8, 2, 0, 0), (31, 0, 0, 2, 0), (32, 1, 48, 10, 20), (35, 0, 1, 0, 0), (36, 0, 0, 2, 0), (37, 2, 6, 173, 1836019556), (40, 2, 0, 32768, 0), (41, 2, 1, 32777, 9), (43, 9, 0, 292, 221), (46, 8, 0, 0, 0), (47, 0, 0, 2, 0), (48, 1, 30, 10, 14), (51, 0, 0, 2, 0), (52, 1, 274, 10, 38), (55, 15, 2, 0, 0), (56, 6, 0, 0, 0), (57, 2, 0, 32769, 1), (58, 12, 0, 0, 0), (59, 8, 0, 0, 0), (60, 10, 1, 0, 0)], 1, 0, 0, 12, 2)
def fm_223 : fx_M := ([(0, 2, 1, 32775, 7), (2, 0, 0, 2, 0), (3, 1, 274, 10, 38), (6, 12, 2, 0, 0), (7, 0, 0, 2, 0), (8, 1, 33, 10, 15), (11, 0, 0, 2, 0), (12, 1, 274, 10, 38), (15, 6, 0, 0, 0), (16, 12, 0, 0, 0), (17, 11, 1, 0, 0), (18, 0, 0, 2, 0), (19, 1, 83, 10, 31), (22, 0, 1, 0, 0), (23, 0, 0, 2, 0), (24, 0, 0, 2, 0), (25, 0, 0, 2, 0), (26, 1, 83, 10, 31), (29, 2, 1, 32775, 7), (31, 0, 0, 2, 0), (32, 1, 274, 10, 38), (35, 12, 2, 0, 0), (36, 0, 0, 2, 0), (37, 1, 33, 10, 15), (40, 0, 0, 2, 0), (41, 1, 274, 10, 38), (44, 6, 0, 0, 0), (45, 9, 0, 309, 254), (48, 9, 0, 317, 253), (51, 8, 2, 0, 0), (52, 0, 0, 2, 0), (53, 0, 0, 2, 0), (54, 2, 6, 177, 6713202), (57, 9, 0, 263, 250), (60, 9, 0, 266, 226), (63, 0, 0, 2, 0), (64, 1, 51, 10, 21), (67, 0, 1, 0, 0), (68, 0, 0, 2, 0), (69, 0, 0, 2, 0), (70, 9, 0, 313, 252), (73, 9, 0, 321, 255), (76, 8, 0, 0, 0), (77, 0, 0, 2, 0), (78, 1, 54, 10, 22), (81, 0, 1, 0, 0), (82, 0, 0, 2, 0), (83, 2, 6, 179, 1717658469), (86, 2, 0, 32768, 0), (87, 2, 1, 32777, 9), (89, 9, 0, 292, 221), (92, 8, 0, 0, 0), (93, 0, 0, 2, 0), (94, 1, 57, 10, 23), (97, 0, 1, 0, 0), (98, 0, 0, 2, 0), (99, 2, 6, 181, 495874697571), (102, 9, 0, 324, 256), (105, 4, 0, 118, 0), (108, 0, 0, 2, 0), (109, 2, 0, 32768, 0), (110, 2, 1, 32777, 9), (112, 9, 0, 270, 220), (115, 5, 0, 119, 0), (118, 2, 0, 32768, 0), (119, 8, 0, 0, 0), (120, 0, 0, 2, 0), (121, 1, 60, 10, 24), (124, 0, 1, 0, 0), (125, 0, 0, 2, 0), (126, 2, 6, 183, 24948), (129, 9, 0, 324, 256), (132, 4, 0, 142, 0), (135, 0, 0, 2, 0), (136, 9, 0, 327, 257), (139, 5, 0, 143, 0), (142, 2, 0, 32767, 4294967295), (143, 8, 0, 0, 0), (144, 0, 0, 2, 0), (145, 1, 33, 10, 15), (148, 0, 0, 2, 0), (149, 1, 274, 10, 38), (152, 15, 2, 0, 0), (153, 6, 0, 0, 0), (154, 2, 0, 32769, 1), (155, 12, 0, 0, 0), (156, 8, 0, 0, 0), (157, 10, 1, 0, 0)], 1, 0, 0, 12, 2)
def fm_224 : fx_M := ([(0, 0, 0, 2, 0), (1, 1, 69, 10, 27), (4, 2, 0, 32770, 2), (5, 0, 0, 2, 0), (6, 1, 274, 10, 38), (9, 12, 2, 0, 0), (10, 0, 1, 0, 0), (11, 12, 0, 0, 0), (12, 2, 0, 32769, 1), (13, 8, 1, 0, 0), (14, 0, 0, 2, 0), (15, 2, 0, 32768, 0), (16, 14, 330, 10, 336), (19, 0, 0, 2, 0), (20, 1, 63, 10, 25), (23, 2, 0, 32770, 2), (24, 0, 0, 2, 0), (25, 1, 274, 10, 38), (28, 12, 2, 0, 0), (29, 0, 1, 0, 0), (30, 12, 0, 0, 0), (31, 0, 0, 2, 0), (32, 1, 277, 10, 39), (35, 8, 0, 0, 0), (36, 0, 0, 2, 0), (37, 9, 0, 333, 258), (40, 0, 0, 2, 0), (41, 1, 66, 10, 26), (44, 2, 0, 32770, 2), (45, 0, 0, 2, 0), (46, 1, 274, 10, 38), (49, 12, 2, 0, 0), (50, 0, 1, 0, 0), (51, 12, 0, 0, 0), (52, 0, 0, 2, 0), (53, 1, 277, 10, 39), (56, 8, 0, 0, 0), (57, 10, 1, 0, 0)], 2, 0, 0, 12, 2)
def fm_225 : fx_M := ([(0, 0, 0, 2, 0), (1, 1, 225, 10, 8), (4, 2, 0, 32773, 5), (5, 3, 1, 24, 0), (8, 0, 0, 2, 0), (9, 0, 0, 2, 0), (10, 1, 218, 10, 6), (13, 9, 0, 221, 213), (16, 0, 1, 0, 0), (17, 3, 1, 24, 0), (20, 2, 0, 32769, 1), (21, 5, 0, 25, 0), (24, 2, 0, 32768, 0), (25, 10, 0, 2, 0)], 2, 0, 0, 12, 2)
def fm_226 : fx_M := ([(0, 0, 0, 2, 0), (1, 9, 0, 253, 124), (4, 4, 1, 8, 0), (7, 10, 1, 0, 0), (8, 0, 1, 0, 0), (9, 4, 0, 19, 0), (12, 0, 0, 2, 0), (13, 9, 0, 257, 123), (16, 5, 0, 23, 0), (19, 0, 0, 2, 0), (20, 9, 0, 260, 219), (23, 10, 1, 0, 0)], 2, 0, 0, 12, 2)
def fm_227 : fx_M := ([(0, 0, 0, 2, 0), (1, 1, 46, 8, 10), (4, 19, 1, 11, 0), (7, 2, 0, 32769, 1), (8, 5, 0, 22, 0), (11, 0, 0, 2, 0), (12, 1, 46, 8, 10), (15, 1, 57, 3, 9), (18, 2, 0, 32769, 1), (19, 29, 62, 0, 0), (22, 11, 1, 0, 0), (23, 2, 0, 32768, 0), (24, 11, 2, 0, 0), (25, 0, 2, 0, 0), (26, 2, 1, 32775, 7), (28, 3, 3, 69, 0), (31, 0, 0, 2, 0), (32, 1, 12, 8, 0), (35, 1, 68, 6, 1), (38, 0, 2, 0, 0), (39, 6, 0, 0, 0), (40, 2, 0, 32768, 0), (41, 29, 62, 0, 0), (44, 11, 3, 0, 0), (45, 0, 0, 2, 0), (46, 1, 22, 8, 2), (49, 0, 2, 0, 0), (50, 0, 3, 0, 0), (51, 0, 1, 0, 0), (52, 12, 3, 0, 0), (53, 8, 0, 0, 0), (54, 0, 0, 2, 0), (55, 1, 25, 8, 3), (58, 0, 2, 0, 0), (59, 0, 3, 0, 0), (60, 0, 1, 0, 0), (61, 12, 4, 0, 0), (62, 8, 0, 0, 0), (63, 7, 2, 1, 0), (66, 5, 0, 25, 0), (69, 2, 0, 32768, 0), (70, 11, 2, 0, 0), (71, 0, 2, 0, 0), (72, 2, 1, 32775, 7), (74, 3, 3, 129, 0), (77, 2, 0, 32768, 0), (78, 11, 3, 0, 0), (79, 2, 0, 32768, 0), (80, 11, 4, 1, 0), (82, 0, 4, 1, 0), (84, 2, 1, 32775, 7), (86, 3, 3, 116, 0), (89, 0, 3, 0, 0), (90, 0, 0, 2, 0), (91, 0, 2, 0, 0), (92, 0, 4, 1, 0), (94, 9, 0, 71, 259), (97, 4, 0, 107, 0), (100, 2, 0, 32769, 1), (101, 0, 4, 1, 0), (103, 12, 8, 0, 0), (104, 5, 0, 108, 0), (107, 2, 0, 32768, 0), (108, 12, 6, 0, 0), (109, 11, 3, 0, 0), (110, 7, 4, 1, 0), (113, 5, 0, 82, 0), (116, 0, 0, 2, 0), (117, 1, 18, 8, 1), (120, 0, 2, 0, 0), (121, 0, 3, 0, 0), (122, 8, 0, 0, 0), (123, 7, 2, 1, 0), (126, 5, 0, 71, 0), (129, 10, 1, 0, 0)], 1, 0, 0, 10, 5)
def fm_228 : fx_M := ([(0, 2, 0, 32768, 0), (1, 11, 2, 0, 0), (2, 2, 0, 32768, 0), (3, 11, 3, 0, 0), (4, 0, 3, 0, 0), (5, 0, 0, 2, 0), (6, 1, 18, 1, 2), (9, 3, 3, 149, 0), (12, 0, 3, 0, 0), (13, 0, 0, 2, 0), (14, 1, 9, 1, 0), (17, 18, 0, 0, 0), (18, 3, 3, 149, 0), (21, 0, 0, 2, 0), (22, 1, 9, 1, 0), (25, 0, 3, 0, 0), (26, 6, 0, 0, 0), (27, 11, 4, 1, 0), (29, 0, 4, 1, 0), (31, 2, 1, 32800, 32), (33, 3, 3, 43, 0), (36, 0, 4, 1, 0), (38, 2, 1, 32777, 9), (40, 3, 3, 70, 0), (43, 0, 2, 0, 0), (44, 0, 0, 2, 0), (45, 1, 15, 1, 1), (48, 18, 0, 0, 0), (49, 3, 3, 143, 0), (52, 0, 0, 2, 0), (53, 1, 15, 1, 1), (56, 0, 2, 0, 0), (57, 0, 4, 1, 0), (59, 0, 1, 2, 0), (60, 9, 2, 25, 260), (63, 8, 0, 0, 0), (64, 7, 2, 1, 0), (67, 5, 0, 143, 0), (70, 0, 4, 1, 0), (72, 2, 1, 32780, 12), (74, 3, 1, 108, 0), (77, 0, 2, 0, 0), (78, 4, 5, 143, 0), (81, 0, 0, 2, 0), (82, 1, 15, 1, 1), (85, 0, 2, 0, 0), (86, 2, 0, 32769, 1), (87, 12, 1, 0, 0), (88, 0, 0, 2, 0), (89, 1, 15, 1, 1), (92, 0, 2, 0, 0), (93, 2, 0, 32769, 1), (94, 12, 1, 0, 0), (95, 6, 0, 0, 0), (96, 4, 1, 103, 0), (99, 2, 0, 32769, 1), (100, 5, 0, 104, 0), (103, 2, 0, 32768, 0), (104, 8, 0, 0, 0), (105, 5, 0, 143, 0), (108, 0, 2, 0, 0), (109, 2, 0, 32769, 1), (110, 3, 5, 143, 0), (113, 7, 2, 4294967295, 0), (116, 0, 0, 2, 0), (117, 1, 15, 1, 1), (120, 0, 2, 0, 0), (121, 2, 0, 32769, 1), (122, 12, 1, 0, 0), (123, 0, 4, 1, 0), (125, 0, 0, 2, 0), (126, 1, 15, 1, 1), (129, 0, 2, 0, 0), (130, 2, 0, 32769, 1), (131, 12, 1, 0, 0), (132, 6, 0, 0, 0), (133, 0, 0, 2, 0), (134, 1, 15, 1, 1), (137, 0, 2, 0, 0), (138, 6, 0, 0, 0), (139, 9, 2, 29, 261), (142, 8, 0, 0, 0), (143, 7, 3, 1, 0), (146, 5, 0, 4, 0), (149, 0, 2, 0, 0), (150, 4, 5, 162, 0), (153, 0, 0, 2, 0), (154, 1, 15, 1, 1), (157, 2, 0, 32768, 0), (158, 6, 0, 0, 0), (159, 5, 0, 163, 0), (162, 2, 0, 32768, 0), (163, 10, 0, 1, 0)], 2, 0, 0, 3, 5)
def fm_229 : fx_M := ([(0, 2, 0, 32768, 0), (1, 0, 0, 0, 0), (2, 0, 1, 0, 0), (3, 29, 296, 1, 0), (6, 29, 293, 0, 0), (9, 10, 0, 1, 0)], 2, 0, 0, 0, 2)
def fm_230 : fx_M := ([(0, 2, 0, 32768, 0), (1, 11, 2, 0, 0), (2, 0, 0, 2, 0), (3, 1, 63, 10, 25), (6, 2, 0, 32770, 2), (7, 0, 0, 2, 0), (8, 1, 283, 10, 37), (11, 12, 2, 0, 0), (12, 0, 1, 0, 0), (13, 12, 0, 0, 0), (14, 6, 0, 0, 0), (15, 11, 3, 0, 0), (16, 0, 3, 0, 0), (17, 0, 0, 2, 0), (18, 1, 66, 10, 26), (21, 2, 0, 32770, 2), (22, 0, 0, 2, 0), (23, 1, 283, 10, 37), (26, 12, 2, 0, 0), (27, 0, 1, 0, 0), (28, 12, 0, 0, 0), (29, 6, 0, 0, 0), (30, 3, 3, 143, 0), (33, 0, 0, 2, 0), (34, 1, 86, 10, 32), (37, 0, 3, 0, 0), (38, 6, 0, 0, 0), (39, 11, 4, 1, 0), (41, 0, 4, 1, 0), (43, 2, 1, 32894, 126), (45, 3, 1, 75, 0), (48, 0, 0, 2, 0), (49, 1, 98, 10, 36), (52, 0, 2, 0, 0), (53, 2, 0, 32769, 1), (54, 12, 1, 0, 0), (55, 0, 0, 2, 0), (56, 1, 98, 10, 36), (59, 0, 2, 0, 0), (60, 2, 0, 32769, 1), (61, 12, 1, 0, 0), (62, 6, 0, 0, 0), (63, 4, 1, 70, 0), (66, 2, 0, 32769, 1), (67, 5, 0, 71, 0), (70, 2, 0, 32768, 0), (71, 8, 0, 0, 0), (72, 5, 0, 137, 0), (75, 0, 4, 1, 0), (77, 9, 2, 228, 214), (80, 4, 0, 107, 0), (83, 0, 0, 2, 0), (84, 1, 98, 10, 36), (87, 0, 2, 0, 0), (88, 0, 0, 2, 0), (89, 0, 4, 1, 0), (91, 0, 0, 2, 0), (92, 1, 89, 10, 33), (95, 0, 3, 0, 0), (96, 6, 0, 0, 0), (97, 9, 0, 384, 262), (100, 8, 0, 0, 0), (101, 7, 2, 1, 0), (104, 5, 0, 137, 0), (107, 7, 2, 4294967295, 0), (110, 0, 0, 2, 0), (111, 1, 98, 10, 36), (114, 0, 2, 0, 0), (115, 2, 0, 32769, 1), (116, 12, 1, 0, 0), (117, 0, 4, 1, 0), (119, 0, 0, 2, 0), (120, 1, 98, 10, 36), (123, 0, 2, 0, 0), (124, 2, 0, 32769, 1), (125, 12, 1, 0, 0), (126, 6, 0, 0, 0), (127, 0, 0, 2, 0), (128, 1, 98, 10, 36), (131, 0, 2, 0, 0), (132, 6, 0, 0, 0), (133, 9, 2, 387, 263), (136, 8, 0, 0, 0), (137, 7, 3, 1, 0), (140, 5, 0, 16, 0), (143, 0, 0, 2, 0), (144, 1, 98, 10, 36), (147, 2, 0, 32768, 0), (148, 6, 0, 0, 0), (149, 4, 3, 156, 0), (152, 2, 0, 32768, 0), (153, 5, 0, 178, 0), (156, 0, 0, 2, 0), (157, 1, 98, 10, 36), (160, 2, 0, 32768, 0), (161, 6, 0, 0, 0), (162, 2, 1, 32777, 9), (164, 3, 5, 172, 0), (167, 2, 1, 32777, 9), (169, 5, 0, 178, 0), (172, 0, 0, 2, 0), (173, 1, 98, 10, 36), (176, 2, 0, 32768, 0), (177, 6, 0, 0, 0), (178, 10, 0, 1, 0)], 2, 0, 0, 12, 5)
def fm_231 : fx_M := ([(0, 0, 0, 0, 0), (1, 4, 3, 9, 0), (4, 0, 0, 0, 0), (5, 13, 0, 0, 0), (6, 5, 0, 10, 0), (9, 0, 0, 0, 0), (10, 10, 0, 1, 0)], 1, 0, 0, 0, 1)
def fm_232 : fx_M := ([(0, 0, 0, 2, 0), (1, 1, 15, 5, 0), (4, 4, 5, 29, 0), (7, 0, 0, 2, 0), (8, 1, 21, 5, 1), (11, 2, 1, 32785, 17), (13, 0, 0, 2, 0), (14, 1, 21, 5, 1), (17, 2, 0, 32768, 0), (18, 0, 0, 2, 0), (19, 1, 21, 5, 1), (22, 18, 0, 0, 0), (23, 2, 1, 32785, 17), (25, 12, 1, 0, 0), (26, 23, 34, 0, 0), (29, 10, 1, 0, 0)], 1, 0, 0, 7, 1)
def fm_233 : fx_M := ([(0, 0, 0, 2, 0), (1, 1, 34, 8, 6), (4, 2, 0, 32768, 0), (5, 0, 0, 2, 0), (6, 1, 12, 8, 0), (9, 1, 90, 6, 0), (12, 0, 2, 0, 0), (13, 6, 0, 0, 0), (14, 8, 0, 0, 0), (15, 0, 0, 2, 0), (16, 1, 34, 8, 6), (19, 2, 0, 32769, 1), (20, 0, 0, 2, 0), (21, 1, 12, 8, 0), (24, 0, 0, 2, 0), (25, 1, 18, 8, 1), (28, 0, 2, 0, 0), (29, 6, 0, 0, 0), (30, 9, 0, 105, 128), (33, 8, 0, 0, 0), (34, 0, 0, 2, 0), (35, 1, 34, 8, 6), (38, 2, 0, 32770, 2), (39, 0, 0, 2, 0), (40, 1, 18, 8, 1), (43, 0, 2, 0, 0), (44, 6, 0, 0, 0), (45, 9, 2, 108, 165), (48, 8, 0, 0, 0), (49, 0, 0, 2, 0), (50, 1, 34, 8, 6), (53, 2, 0, 32771, 3), (54, 0, 0, 2, 0), (55, 0, 0, 2, 0), (56, 1, 12, 8, 0), (59, 1, 68, 6, 1), (62, 0, 2, 0, 0), (63, 6, 0, 0, 0), (64, 0, 0, 2, 0), (65, 1, 12, 8, 0), (68, 1, 102, 6, 3), (71, 9, 0, 113, 129), (74, 8, 0, 0, 0), (75, 0, 0, 2, 0), (76, 1, 34, 8, 6), (79, 2, 0, 32772, 4), (80, 0, 1, 2, 0), (81, 1, 116, 3, 5), (84, 0, 2, 0, 0), (85, 6, 0, 0, 0), (86, 8, 0, 0, 0), (87, 0, 0, 2, 0), (88, 1, 34, 8, 6), (91, 2, 0, 32773, 5), (92, 0, 0, 2, 0), (93, 1, 12, 8, 0), (96, 1, 119, 6, 2), (99, 8, 0, 0, 0), (100, 0, 0, 2, 0), (101, 1, 34, 8, 6), (104, 2, 1, 32774, 6), (106, 0, 0, 2, 0), (107, 1, 12, 8, 0), (110, 1, 102, 6, 3), (113, 8, 0, 0, 0), (114, 0, 0, 2, 0), (115, 1, 34, 8, 6), (118, 2, 1, 32775, 7), (120, 0, 0, 2, 0), (121, 1, 22, 8, 2), (124, 0, 2, 0, 0), (125, 6, 0, 0, 0), (126, 8, 0, 0, 0), (127, 0, 0, 2, 0), (128, 1, 34, 8, 6), (131, 2, 1, 32776, 8), (133, 0, 0, 2, 0), (134, 1, 25, 8, 3), (137, 0, 2, 0, 0), (138, 6, 0, 0, 0), (139, 8, 0, 0, 0), (140, 0, 1, 2, 0), (141, 1, 122, 3, 7), (144, 0, 0, 2, 0), (145, 1, 34, 8, 6), (148, 9, 0, 126, 228), (151, 2, 1, 32777, 9), (153, 9, 4, 132, 229), (156, 10, 0, 1, 0)], 3, 0, 0, 10, 3)
def fm_234 : fx_M := ([(0, 2, 0, 32768, 0), (1, 11, 2, 0, 0), (2, 2, 0, 32768, 0), (3, 11, 3, 0, 0), (4, 0, 3, 0, 0), (5, 2, 1, 32775, 7), (7, 3, 3, 38, 0), (10, 0, 2, 0, 0), (11, 0, 1, 0, 0), (12, 0, 3, 0, 0), (13, 12, 9, 0, 0), (14, 2, 0, 32769, 1), (15, 12, 5, 0, 0), (16, 2, 0, 32769, 1), (17, 3, 1, 29, 0), (20, 0, 0, 2, 0), (21, 1, 18, 8, 1), (24, 0, 3, 0, 0), (25, 6, 0, 0, 0), (26, 5, 0, 30, 0), (29, 2, 0, 32768, 0), (30, 12, 6, 0, 0), (31, 11, 2, 0, 0), (32, 7, 3, 1, 0), (35, 5, 0, 4, 0), (38, 0, 2, 0, 0), (39, 10, 0, 1, 0)], 2, 0, 0, 10, 4)
def fm_235 : fx_M := ([(0, 0, 0, 2, 0), (1, 1, 69, 10, 27), (4, 2, 0, 32770, 2), (5, 0, 0, 2, 0), (6, 1, 283, 10, 37), (9, 12, 2, 0, 0), (10, 6, 1, 0, 0), (11, 4, 1, 23, 0), (14, 0, 0, 2, 0), (15, 1, 101, 10, 50), (18, 2, 0, 32768, 0), (19, 0, 1, 0, 0), (20, 12, 0, 0, 0), (21, 6, 0, 0, 0), (22, 10, 0, 1, 0), (23, 0, 0, 2, 0), (24, 0, 0, 2, 0), (25, 1, 101, 10, 50), (28, 2, 1, 32775, 7), (30, 0, 1, 0, 0), (31, 12, 0, 0, 0), (32, 6, 0, 0, 0), (33, 9, 0, 426, 133), (36, 11, 2, 0, 0), (37, 0, 0, 2, 0), (38, 0, 0, 2, 0), (39, 1, 101, 10, 50), (42, 2, 0, 32768, 0), (43, 0, 1, 0, 0), (44, 12, 0, 0, 0), (45, 6, 0, 0, 0), (46, 14, 363, 10, 344), (49, 0, 0, 2, 0), (50, 0, 0, 2, 0), (51, 0, 0, 2, 0), (52, 0, 1, 0, 0), (53, 9, 0, 429, 131), (56, 9, 0, 432, 132), (59, 14, 366, 10, 352), (62, 0, 0, 2, 0), (63, 0, 0, 2, 0), (64, 0, 1, 0, 0), (65, 9, 0, 429, 131), (68, 9, 2, 435, 168), (71, 14, 369, 10, 360), (74, 0, 0, 2, 0), (75, 0, 2, 0, 0), (76, 14, 372, 10, 368), (79, 0, 0, 2, 0), (80, 0, 0, 2, 0), (81, 1, 57, 10, 23), (84, 2, 1, 32775, 7), (86, 0, 0, 2, 0), (87, 1, 283, 10, 37), (90, 12, 2, 0, 0), (91, 0, 1, 0, 0), (92, 12, 0, 0, 0), (93, 6, 0, 0, 0), (94, 14, 375, 10, 376), (97, 0, 0, 2, 0), (98, 0, 0, 2, 0), (99, 1, 101, 10, 50), (102, 2, 1, 32782, 14), (104, 6, 0, 0, 0), (105, 14, 378, 10, 384), (108, 0, 0, 2, 0), (109, 0, 0, 2, 0), (110, 1, 101, 10, 50), (113, 2, 1, 32775, 7), (115, 0, 1, 0, 0), (116, 12, 0, 0, 0), (117, 6, 0, 0, 0), (118, 14, 381, 10, 392), (121, 0, 0, 2, 0), (122, 2, 0, 32768, 0), (123, 9, 0, 423, 230), (126, 10, 0, 1, 0)], 2, 0, 0, 12, 3)
def fm_236 : fx_M := ([(0, 0, 1, 0, 0), (1, 4, 2, 30, 0), (4, 0, 1, 0, 0), (5, 2, 0, 32771, 3), (6, 3, 3, 30, 0), (9, 0, 0, 2, 0), (10, 1, 31, 8, 5), (13, 0, 1, 0, 0), (14, 2, 1, 32775, 7), (16, 12, 2, 0, 0), (17, 0, 0, 2, 0), (18, 1, 12, 8, 0), (21, 1, 90, 6, 0), (24, 2, 0, 32768, 0), (25, 2, 1, 32775, 7), (27, 23, 96, 0, 0), (30, 10, 1, 0, 0)], 2, 0, 0, 10, 2)
def fm_237 : fx_M := ([(0, 2, 0, 32767, 4294967295), (1, 11, 2, 0, 0), (2, 2, 0, 32768, 0), (3, 11, 3, 0, 0), (4, 0, 3, 0, 0), (5, 0, 0, 2, 0), (6, 1, 31, 2, 6), (9, 3, 3, 42, 0), (12, 0, 0, 2, 0), (13, 0, 3, 0, 0), (14, 0, 1, 0, 0), (15, 9, 0, 35, 264), (18, 4, 0, 34, 0), (21, 0, 2, 0, 0), (22, 0, 0, 2, 0), (23, 1, 9, 2, 0), (26, 0, 3, 0, 0), (27, 6, 0, 0, 0), (28, 29, 39, 0, 0), (31, 5, 0, 35, 0), (34, 0, 2, 0, 0), (35, 11, 2, 0, 0), (36, 7, 3, 1, 0), (39, 5, 0, 4, 0), (42, 0, 2, 0, 0), (43, 10, 0, 1, 0)], 2, 0, 0, 4, 4)
def fm_238 : fx_M := ([(0, 0, 0, 2, 0), (1, 1, 33, 9, 3), (4, 0, 0, 2, 0), (5, 1, 19, 9, 1), (8, 0, 0, 2, 0), (9, 1, 26, 9, 2), (12, 9, 0, 128, 127), (15, 0, 0, 2, 0), (16, 1, 33, 9, 3), (19, 1, 194, 8, 0), (22, 0, 1, 0, 0), (23, 14, 204, 6, 16), (26, 2, 0, 32768, 0), (27, 11, 4, 1, 0), (29, 0, 4, 1, 0), (31, 0, 3, 0, 0), (32, 3, 4, 83, 0), (35, 0, 4, 1, 0), (37, 2, 1, 32774, 6), (39, 3, 4, 83, 0), (42, 0, 4, 1, 0), (44, 4, 5, 55, 0), (47, 0, 0, 2, 0), (48, 1, 33, 9, 3), (51, 9, 0, 188, 148), (54, 15, 1, 0, 0), (55, 0, 0, 2, 0), (56, 1, 56, 9, 6), (59, 0, 4, 1, 0), (61, 0, 2, 0, 0), (62, 0, 0, 2, 0), (63, 1, 33, 9, 3), (66, 1, 194, 8, 0), (69, 9, 0, 328, 265), (72, 4, 1, 77, 0), (75, 2, 0, 32768, 0), (76, 10, 0, 2, 0), (77, 7, 4, 1, 0), (80, 5, 0, 29, 0), (83, 2, 0, 32769, 1), (84, 10, 0, 2, 0)], 4, 0, 0, 11, 5)
def fm_239 : fx_M := ([(0, 0, 0, 2, 0), (1, 9, 0, 501, 184), (4, 0, 0, 2, 0), (5, 1, 101, 10, 50), (8, 2, 1, 32782, 14), (10, 0, 1, 0, 0), (11, 8, 0, 0, 0), (12, 0, 0, 2, 0), (13, 0, 2, 0, 0), (14, 9, 0, 504, 185), (17, 11, 4, 1, 0), (19, 0, 0, 2, 0), (20, 1, 119, 10, 59), (23, 0, 3, 0, 0), (24, 6, 0, 0, 0), (25, 10, 0, 1, 0)], 4, 0, 0, 12, 5)
def fm_240 : fx_M := ([(0, 0, 0, 2, 0), (1, 0, 0, 2, 0), (2, 1, 19, 7, 2), (5, 14, 29, 7, 40), (8, 0, 0, 2, 0), (9, 1, 29, 7, 5), (12, 11, 1, 0, 0), (13, 0, 1, 0, 0), (14, 2, 2, 34368, 1600), (17, 3, 3, 63, 0), (20, 0, 0, 2, 0), (21, 0, 1, 0, 0), (22, 9, 0, 57, 266), (25, 4, 0, 63, 0), (28, 0, 0, 2, 0), (29, 1, 9, 7, 0), (32, 0, 1, 0, 0), (33, 6, 1, 0, 0), (34, 2, 1, 32800, 32), (36, 3, 0, 50, 0), (39, 0, 0, 2, 0), (40, 1, 9, 7, 0), (43, 0, 1, 0, 0), (44, 6, 1, 0, 0), (45, 2, 1, 32778, 10), (47, 3, 1, 63, 0), (50, 0, 0, 2, 0), (51, 0, 1, 0, 0), (52, 2, 0, 32769, 1), (53, 12, 0, 0, 0), (54, 14, 29, 7, 40), (57, 7, 1, 1, 0), (60, 5, 0, 13, 0), (63, 0, 0, 2, 0), (64, 0, 0, 2, 0), (65, 1, 29, 7, 5), (68, 9, 0, 57, 266), (71, 4, 0, 90, 0), (74, 0, 0, 2, 0), (75, 1, 9, 7, 0), (78, 0, 0, 2, 0), (79, 1, 29, 7, 5), (82, 6, 1, 0, 0), (83, 2, 2, 33023, 255), (86, 12, 5, 0, 0), (87, 5, 0, 91, 0), (90, 2, 0, 32767, 4294967295), (91, 11, 1, 0, 0), (92, 0, 1, 0, 0), (93, 2, 0, 32767, 4294967295), (94, 3, 1, 105, 0), (97, 0, 0, 2, 0), (98, 2, 0, 32768, 0), (99, 14, 26, 7, 32), (102, 5, 0, 162, 0), (105, 0, 1, 0, 0), (106, 9, 2, 61, 267), (109, 4, 0, 119, 0), (112, 0, 0, 2, 0), (113, 9, 0, 64, 268), (116, 5, 0, 162, 0), (119, 0, 1, 0, 0), (120, 9, 2, 67, 269), (123, 4, 0, 133, 0), (126, 0, 0, 2, 0), (127, 9, 0, 70, 270), (130, 5, 0, 162, 0), (133, 0, 0, 2, 0), (134, 27, 73, 0, 0), (136, 0, 1, 0, 0), (137, 13, 2, 0, 0), (138, 9, 0, 75, 271), (141, 4, 2, 148, 0), (144, 0, 1, 0, 0), (145, 5, 0, 149, 0), (148, 2, 0, 32769, 1), (149, 14, 26, 7, 32), (152, 0, 0, 2, 0), (153, 0, 0, 2, 0), (154, 1, 29, 7, 5), (157, 2, 0, 32769, 1), (158, 12, 0, 0, 0), (159, 14, 19, 7, 16), (162, 10, 1, 0, 0)], 1, 0, 0, 9, 2)
def fm_241 : fx_M := ([(0, 0, 0, 2, 0), (1, 1, 12, 4, 0), (4, 9, 0, 83, 240), (7, 0, 0, 2, 0), (8, 2, 0, 32769, 1), (9, 2, 0, 32772, 4), (10, 9, 0, 86, 272), (13, 4, 1, 18, 0), (16, 2, 0, 32768, 0), (17, 10, 0, 2, 0), (18, 0, 0, 2, 0), (19, 1, 21, 4, 1), (22, 0, 0, 2, 0), (23, 1, 12, 4, 0), (26, 1, 90, 7, 6), (29, 14, 93, 3, 72), (32, 0, 0, 2, 0), (33, 1, 12, 4, 0), (36, 9, 0, 83, 240), (39, 0, 0, 2, 0), (40, 2, 2, 33025, 257), (43, 9, 0, 70, 247), (46, 4, 0, 58, 0), (49, 0, 0, 2, 0), (50, 2, 0, 32769, 1), (51, 2, 0, 32772, 4), (52, 9, 0, 86, 272), (55, 4, 1, 60, 0), (58, 2, 0, 32768, 0), (59, 10, 0, 2, 0), (60, 0, 0, 2, 0), (61, 1, 21, 4, 1), (64, 0, 0, 2, 0), (65, 1, 12, 4, 0), (68, 1, 90, 7, 6), (71, 14, 96, 3, 80), (74, 0, 0, 2, 0), (75, 1, 12, 4, 0), (78, 9, 0, 83, 240), (81, 0, 0, 2, 0), (82, 2, 1, 32827, 59), (84, 9, 0, 70, 247), (87, 10, 0, 2, 0)], 1, 0, 0, 6, 1)
def fm_242 : fx_M := ([(0, 0, 0, 2, 0), (1, 0, 0, 2, 0), (2, 1, 12, 4, 0), (5, 1, 38, 7, 4), (8, 2, 0, 32769, 1), (9, 3, 1, 16, 0), (12, 2, 0, 32769, 1), (13, 5, 0, 17, 0), (16, 2, 0, 32770, 2), (17, 9, 0, 140, 273), (20, 10, 0, 2, 0)], 1, 0, 0, 6, 1)
def fm_243 : fx_M := ([(0, 0, 0, 2, 0), (1, 1, 21, 4, 1), (4, 1, 99, 3, 11), (7, 11, 1, 0, 0), (8, 0, 1, 0, 0), (9, 2, 0, 32772, 4), (10, 3, 2, 18, 0), (13, 0, 0, 2, 0), (14, 9, 0, 49, 242), (17, 10, 0, 2, 0), (18, 0, 0, 2, 0), (19, 1, 12, 4, 0), (22, 9, 0, 83, 240), (25, 0, 0, 2, 0), (26, 0, 0, 2, 0), (27, 1, 21, 4, 1), (30, 1, 102, 3, 0), (33, 0, 1, 0, 0), (34, 9, 0, 106, 274), (37, 4, 1, 42, 0), (40, 2, 0, 32768, 0), (41, 10, 0, 2, 0), (42, 0, 0, 2, 0), (43, 1, 21, 4, 1), (46, 1, 102, 3, 0), (49, 0, 1, 0, 0), (50, 0, 0, 2, 0), (51, 1, 12, 4, 0), (54, 1, 110, 7, 7), (57, 8, 2, 0, 0), (58, 0, 0, 2, 0), (59, 1, 12, 4, 0), (62, 9, 0, 83, 240), (65, 0, 0, 2, 0), (66, 2, 2, 33027, 259), (69, 9, 0, 70, 247), (72, 4, 0, 85, 0), (75, 0, 0, 2, 0), (76, 2, 0, 32768, 0), (77, 2, 1, 32777, 9), (79, 9, 0, 86, 272), (82, 4, 1, 87, 0), (85, 2, 0, 32768, 0), (86, 10, 0, 2, 0), (87, 0, 0, 2, 0), (88, 1, 21, 4, 1), (91, 1, 114, 3, 1), (94, 0, 1, 0, 0), (95, 0, 0, 2, 0), (96, 1, 12, 4, 0), (99, 1, 90, 7, 6), (102, 8, 0, 0, 0), (103, 0, 0, 2, 0), (104, 1, 12, 4, 0), (107, 9, 0, 83, 240), (110, 0, 0, 2, 0), (111, 1, 21, 4, 1), (114, 15, 0, 0, 0), (115, 1, 99, 3, 11), (118, 2, 0, 32769, 1), (119, 12, 0, 0, 0), (120, 14, 99, 3, 88), (123, 0, 0, 2, 0), (124, 2, 1, 32827, 59), (126, 9, 0, 70, 247), (129, 10, 0, 2, 0)], 1, 0, 0, 6, 2)
def fm_244 : fx_M := ([(0, 0, 0, 2, 0), (1, 1, 21, 4, 1), (4, 1, 118, 3, 12), (7, 11, 1, 0, 0), (8, 0, 1, 0, 0), (9, 2, 1, 32775, 7), (11, 3, 2, 19, 0), (14, 0, 0, 2, 0), (15, 9, 0, 49, 242), (18, 10, 0, 2, 0), (19, 0, 0, 2, 0), (20, 1, 12, 4, 0), (23, 9, 0, 83, 240), (26, 0, 0, 2, 0), (27, 0, 0, 2, 0), (28, 1, 21, 4, 1), (31, 1, 121, 3, 2), (34, 0, 1, 0, 0), (35, 9, 0, 106, 274), (38, 4, 1, 43, 0), (41, 2, 0, 32768, 0), (42, 10, 0, 2, 0), (43, 0, 0, 2, 0), (44, 1, 21, 4, 1), (47, 1, 121, 3, 2), (50, 0, 1, 0, 0), (51, 0, 0, 2, 0), (52, 1, 12, 4, 0), (55, 1, 110, 7, 7), (58, 8, 2, 0, 0), (59, 0, 0, 2, 0), (60, 1, 12, 4, 0), (63, 9, 0, 83, 240), (66, 0, 0, 2, 0), (67, 2, 2, 33029, 261), (70, 9, 0, 70, 247), (73, 4, 0, 104, 0), (76, 0, 0, 2, 0), (77, 0, 1, 0, 0), (78, 9, 0, 124, 275), (81, 4, 0, 104, 0), (84, 0, 0, 2, 0), (85, 2, 2, 33039, 271), (88, 9, 0, 70, 247), (91, 4, 0, 104, 0), (94, 0, 0, 2, 0), (95, 2, 0, 32768, 0), (96, 2, 1, 32777, 9), (98, 9, 0, 86, 272), (101, 4, 1, 106, 0), (104, 2, 0, 32768, 0), (105, 10, 0, 2, 0), (106, 0, 0, 2, 0), (107, 1, 21, 4, 1), (110, 1, 127, 3, 4), (113, 0, 1, 0, 0), (114, 0, 0, 2, 0), (115, 1, 12, 4, 0), (118, 1, 90, 7, 6), (121, 8, 0, 0, 0), (122, 0, 0, 2, 0), (123, 1, 12, 4, 0), (126, 9, 0, 83, 240), (129, 0, 0, 2, 0), (130, 0, 1, 0, 0), (131, 9, 0, 130, 276), (134, 4, 0, 145, 0), (137, 0, 0, 2, 0), (138, 0, 1, 0, 0), (139, 9, 0, 133, 277), (142, 4, 1, 147, 0), (145, 2, 0, 32768, 0), (146, 10, 0, 2, 0), (147, 0, 0, 2, 0), (148, 1, 21, 4, 1), (151, 15, 0, 0, 0), (152, 1, 118, 3, 12), (155, 2, 0, 32769, 1), (156, 12, 0, 0, 0), (157, 14, 118, 3, 96), (160, 0, 0, 2, 0), (161, 2, 1, 32827, 59), (163, 9, 0, 70, 247), (166, 10, 0, 2, 0)], 1, 0, 0, 6, 2)
def fm_245 : fx_M := ([(0, 0, 1, 2, 0), (1, 1, 168, 1, 3), (4, 4, 5, 12, 0), (7, 0, 0, 2, 0), (8, 9, 0, 49, 242), (11, 10, 0, 2, 0), (12, 0, 1, 2, 0), (13, 9, 0, 173, 15), (16, 0, 0, 2, 0), (17, 1, 12, 4, 0), (20, 9, 0, 83, 240), (23, 2, 0, 32769, 1), (24, 10, 0, 2, 0)], 2, 0, 0, 6, 2)
def fm_246 : fx_M := ([(0, 0, 2, 0, 0), (1, 2, 0, 32773, 5), (2, 3, 2, 12, 0), (5, 0, 0, 2, 0), (6, 0, 1, 2, 0), (7, 0, 3, 0, 0), (8, 9, 0, 174, 278), (11, 10, 0, 2, 0), (12, 0, 2, 0, 0), (13, 2, 0, 32770, 2), (14, 3, 1, 37, 0), (17, 0, 0, 2, 0), (18, 1, 12, 4, 0), (21, 1, 38, 7, 4), (24, 2, 2, 33038, 270), (27, 3, 1, 37, 0), (30, 0, 0, 2, 0), (31, 0, 1, 2, 0), (32, 0, 3, 0, 0), (33, 9, 0, 178, 279), (36, 10, 0, 2, 0), (37, 0, 0, 2, 0), (38, 0, 1, 2, 0), (39, 0, 2, 0, 0), (40, 2, 0, 32769, 1), (41, 12, 0, 0, 0), (42, 0, 3, 0, 0), (43, 9, 0, 66, 246), (46, 4, 1, 51, 0), (49, 2, 0, 32768, 0), (50, 10, 0, 2, 0), (51, 0, 2, 0, 0), (52, 2, 0, 32770, 2), (53, 3, 1, 60, 0), (56, 2, 0, 32769, 1), (57, 5, 0, 62, 0), (60, 2, 1, 32799, 31), (62, 11, 4, 1, 0), (64, 2, 0, 32768, 0), (65, 11, 5, 1, 0), (67, 0, 5, 1, 0), (69, 0, 4, 1, 0), (71, 3, 3, 128, 0), (74, 0, 2, 0, 0), (75, 0, 0, 2, 0), (76, 1, 12, 4, 0), (79, 1, 38, 7, 4), (82, 9, 2, 181, 280), (85, 11, 6, 1, 0), (87, 0, 6, 1, 0), (89, 2, 0, 32767, 4294967295), (90, 3, 1, 95, 0), (93, 2, 0, 32769, 1), (94, 10, 0, 2, 0), (95, 0, 0, 2, 0), (96, 1, 12, 4, 0), (99, 9, 0, 83, 240), (102, 0, 0, 2, 0), (103, 0, 1, 2, 0), (104, 0, 2, 0, 0), (105, 2, 0, 32769, 1), (106, 12, 0, 0, 0), (107, 0, 3, 0, 0), (108, 9, 0, 66, 246), (111, 4, 1, 116, 0), (114, 2, 0, 32768, 0), (115, 10, 0, 2, 0), (116, 0, 1, 2, 0), (117, 0, 6, 1, 0), (119, 9, 0, 185, 16), (122, 7, 5, 1, 0), (125, 5, 0, 67, 0), (128, 2, 0, 32769, 1), (129, 10, 0, 2, 0)], 4, 0, 0, 6, 7)
def fm_247 : fx_M := ([(0, 0, 0, 2, 0), (1, 1, 12, 4, 0), (4, 1, 38, 7, 4), (7, 0, 1, 0, 0), (8, 3, 0, 16, 0), (11, 0, 0, 2, 0), (12, 9, 0, 49, 242), (15, 10, 0, 2, 0), (16, 0, 0, 2, 0), (17, 1, 12, 4, 0), (20, 9, 0, 83, 240), (23, 2, 0, 32769, 1), (24, 10, 0, 2, 0)], 2, 0, 0, 6, 2)
def fm_248 : fx_M := ([(0, 0, 0, 2, 0), (1, 1, 21, 4, 1), (4, 1, 152, 3, 16), (7, 4, 0, 15, 0), (10, 0, 0, 2, 0), (11, 9, 0, 49, 242), (14, 10, 0, 2, 0), (15, 0, 0, 2, 0), (16, 1, 21, 4, 1), (19, 2, 0, 32769, 1), (20, 14, 152, 3, 130), (23, 0, 0, 2, 0), (24, 1, 12, 4, 0), (27, 9, 0, 83, 240), (30, 0, 0, 2, 0), (31, 2, 0, 32768, 0), (32, 2, 1, 32868, 100), (34, 9, 0, 86, 272), (37, 4, 1, 42, 0), (40, 2, 0, 32768, 0), (41, 10, 0, 2, 0), (42, 0, 0, 2, 0), (43, 1, 21, 4, 1), (46, 0, 0, 2, 0), (47, 1, 12, 4, 0), (50, 1, 90, 7, 6), (53, 14, 156, 3, 104), (56, 0, 0, 2, 0), (57, 1, 12, 4, 0), (60, 9, 0, 83, 240), (63, 0, 0, 2, 0), (64, 2, 2, 33034, 266), (67, 9, 0, 70, 247), (70, 4, 0, 83, 0), (73, 0, 0, 2, 0), (74, 2, 0, 32769, 1), (75, 2, 1, 32777, 9), (77, 9, 0, 86, 272), (80, 4, 1, 85, 0), (83, 2, 0, 32768, 0), (84, 10, 0, 2, 0), (85, 0, 0, 2, 0), (86, 1, 21, 4, 1), (89, 0, 0, 2, 0), (90, 1, 12, 4, 0), (93, 1, 90, 7, 6), (96, 14, 159, 3, 112), (99, 0, 0, 2, 0), (100, 1, 12, 4, 0), (103, 9, 0, 83, 240), (106, 0, 0, 2, 0), (107, 2, 1, 32827, 59), (109, 9, 0, 70, 247), (112, 10, 0, 2, 0)], 1, 0, 0, 6, 1)
def fm_249 : fx_M := ([(0, 0, 0, 2, 0), (1, 1, 21, 4, 1), (4, 1, 162, 3, 17), (7, 4, 0, 15, 0), (10, 0, 0, 2, 0), (11, 9, 0, 49, 242), (14, 10, 0, 2, 0), (15, 0, 0, 2, 0), (16, 1, 21, 4, 1), (19, 2, 0, 32769, 1), (20, 14, 162, 3, 138), (23, 0, 0, 2, 0), (24, 1, 12, 4, 0), (27, 9, 0, 83, 240), (30, 0, 0, 2, 0), (31, 2, 0, 32768, 0), (32, 2, 2, 33767, 999), (35, 9, 0, 86, 272), (38, 4, 1, 43, 0), (41, 2, 0, 32768, 0), (42, 10, 0, 2, 0), (43, 0, 0, 2, 0), (44, 1, 21, 4, 1), (47, 0, 0, 2, 0), (48, 1, 12, 4, 0), (51, 1, 90, 7, 6), (54, 14, 165, 3, 120), (57, 0, 0, 2, 0), (58, 1, 12, 4, 0), (61, 9, 0, 83, 240), (64, 0, 0, 2, 0), (65, 2, 1, 32827, 59), (67, 9, 0, 70, 247), (70, 10, 0, 2, 0)], 1, 0, 0, 6, 1)
def fm_250 : fx_M := ([(0, 0, 0, 2, 0), (1, 1, 225, 10, 8), (4, 2, 0, 32771, 3), (5, 3, 1, 21, 0), (8, 0, 0, 2, 0), (9, 1, 232, 10, 10), (12, 0, 1, 4, 0), (13, 30, 0, 0, 0), (14, 4, 1, 21, 0), (17, 2, 0, 32769, 1), (18, 5, 0, 22, 0), (21, 2, 0, 32768, 0), (22, 10, 0, 2, 0)], 2, 0, 0, 12, 3)
def fm_251 : fx_M := ([(0, 0, 0, 2, 0), (1, 1, 164, 10, 4), (4, 4, 5, 8, 0), (7, 10, 1, 0, 0), (8, 0, 0, 2, 0), (9, 0, 1, 0, 0), (10, 14, 164, 10, 32), (13, 0, 0, 2, 0), (14, 0, 2, 0, 0), (15, 14, 16, 10, 40), (18, 10, 1, 0, 0)], 3, 0, 0, 12, 3)
def fm_252 : fx_M := ([(0, 0, 0, 2, 0), (1, 0, 0, 2, 0), (2, 1, 79, 10, 30), (5, 2, 0, 32772, 4), (6, 0, 0, 2, 0), (7, 1, 274, 10, 38), (10, 12, 2, 0, 0), (11, 0, 0, 2, 0), (12, 1, 30, 10, 14), (15, 0, 0, 2, 0), (16, 1, 274, 10, 38), (19, 6, 0, 0, 0), (20, 9, 0, 309, 254), (23, 10, 0, 1, 0)], 1, 0, 0, 12, 1)
def fm_253 : fx_M := ([(0, 0, 0, 2, 0), (1, 9, 0, 253, 124), (4, 4, 1, 9, 0), (7, 2, 5, 0, 0), (8, 10, 2, 3, 0), (9, 0, 0, 2, 0), (10, 1, 225, 10, 8), (13, 2, 0, 32770, 2), (14, 3, 0, 24, 0), (17, 0, 0, 2, 0), (18, 9, 0, 260, 219), (21, 5, 0, 37, 0), (24, 0, 1, 0, 0), (25, 4, 2, 37, 0), (28, 0, 0, 2, 0), (29, 2, 0, 32771, 3), (30, 0, 0, 2, 0), (31, 1, 218, 10, 6), (34, 9, 0, 249, 251), (37, 0, 0, 2, 0), (38, 1, 232, 10, 10), (41, 11, 2, 4, 0), (42, 0, 0, 2, 0), (43, 9, 0, 253, 124), (46, 4, 0, 53, 0), (49, 0, 0, 2, 0), (50, 9, 0, 257, 123), (53, 0, 2, 4, 0), (54, 10, 2, 3, 0)], 2, 0, 0, 12, 4)
def fm_254 : fx_M := ([(0, 2, 0, 32768, 0), (1, 11, 4, 1, 0), (3, 0, 4, 1, 0), (5, 0, 3, 0, 0), (6, 3, 3, 40, 0), (9, 0, 0, 2, 0), (10, 1, 225, 10, 8), (13, 2, 0, 32770, 2), (14, 3, 1, 34, 0), (17, 0, 1, 2, 0), (18, 0, 2, 0, 0), (19, 0, 4, 1, 0), (21, 12, 0, 0, 0), (22, 6, 2, 0, 0), (23, 0, 0, 2, 0), (24, 1, 232, 10, 10), (27, 30, 0, 0, 0), (28, 4, 1, 34, 0), (31, 0, 4, 1, 0), (33, 10, 0, 1, 0), (34, 7, 4, 1, 0), (37, 5, 0, 3, 0), (40, 2, 0, 32767, 4294967295), (41, 10, 0, 1, 0)], 4, 0, 0, 12, 5)
def fm_255 : fx_M := ([(0, 0, 0, 2, 0), (1, 9, 0, 253, 124), (4, 4, 1, 9, 0), (7, 2, 0, 32768, 0), (8, 10, 0, 1, 0), (9, 0, 0, 2, 0), (10, 1, 225, 10, 8), (13, 2, 0, 32770, 2), (14, 3, 0, 24, 0), (17, 0, 0, 2, 0), (18, 9, 0, 260, 219), (21, 5, 0, 44, 0), (24, 0, 1, 0, 0), (25, 4, 3, 40, 0), (28, 0, 0, 2, 0), (29, 2, 0, 32773, 5), (30, 0, 0, 2, 0), (31, 1, 218, 10, 6), (34, 9, 0, 249, 251), (37, 5, 0, 44, 0), (40, 0, 0, 2, 0), (41, 9, 0, 257, 123), (44, 0, 1, 0, 0), (45, 4, 3, 52, 0), (48, 2, 0, 32768, 0), (49, 5, 0, 53, 0), (52, 0, 1, 0, 0), (53, 10, 0, 1, 0)], 2, 0, 0, 12, 2)
def fm_256 : fx_M := ([(0, 0, 0, 2, 0), (1, 9, 0, 253, 124), (4, 4, 0, 19, 0), (7, 0, 0, 2, 0), (8, 0, 1, 4, 0), (9, 9, 0, 263, 250), (12, 4, 0, 19, 0), (15, 2, 0, 32769, 1), (16, 5, 0, 20, 0), (19, 2, 0, 32768, 0), (20, 11, 3, 0, 0), (21, 0, 3, 0, 0), (22, 4, 0, 29, 0), (25, 0, 0, 2, 0), (26, 9, 0, 257, 123), (29, 0, 3, 0, 0), (30, 10, 0, 2, 0)], 2, 0, 0, 12, 4)
def fm_257 : fx_M := ([(0, 0, 0, 2, 0), (1, 2, 0, 32768, 0), (2, 0, 0, 2, 0), (3, 1, 20, 10, 11), (6, 0, 0, 2, 0), (7, 1, 274, 10, 38), (10, 6, 0, 0, 0), (11, 2, 0, 32769, 1), (12, 12, 1, 0, 0), (13, 9, 0, 270, 220), (16, 11, 1, 0, 0), (17, 0, 0, 2, 0), (18, 1, 218, 10, 6), (21, 11, 2, 0, 0), (22, 0, 0, 2, 0), (23, 2, 0, 32768, 0), (24, 0, 0, 2, 0), (25, 1, 24, 10, 12), (28, 0, 0, 2, 0), (29, 1, 274, 10, 38), (32, 6, 0, 0, 0), (33, 2, 0, 32769, 1), (34, 12, 1, 0, 0), (35, 9, 0, 270, 220), (38, 11, 3, 0, 0), (39, 0, 3, 0, 0), (40, 0, 0, 2, 0), (41, 1, 20, 10, 11), (44, 0, 0, 2, 0), (45, 1, 274, 10, 38), (48, 6, 0, 0, 0), (49, 12, 2, 0, 0), (50, 0, 1, 0, 0), (51, 12, 0, 0, 0), (52, 11, 4, 1, 0), (54, 2, 0, 32768, 0), (55, 11, 5, 1, 0), (57, 0, 5, 1, 0), (59, 0, 0, 2, 0), (60, 1, 33, 10, 15), (63, 0, 0, 2, 0), (64, 1, 274, 10, 38), (67, 6, 0, 0, 0), (68, 3, 3, 110, 0), (71, 0, 0, 2, 0), (72, 9, 0, 253, 124), (75, 4, 0, 104, 0), (78, 0, 0, 2, 0), (79, 1, 60, 10, 24), (82, 2, 1, 32775, 7), (84, 0, 0, 2, 0), (85, 1, 274, 10, 38), (88, 12, 2, 0, 0), (89, 0, 5, 1, 0), (91, 12, 0, 0, 0), (92, 6, 0, 0, 0), (93, 0, 4, 1, 0), (95, 3, 1, 104, 0), (98, 0, 0, 2, 0), (99, 2, 0, 32771, 3), (100, 0, 2, 0, 0), (101, 9, 0, 249, 251), (104, 7, 5, 1, 0), (107, 5, 0, 57, 0), (110, 0, 4, 1, 0), (112, 10, 0, 1, 0)], 1, 0, 0, 12, 6)
def fm_258 : fx_M := ([(0, 0, 0, 2, 0), (1, 2, 0, 32768, 0), (2, 14, 336, 10, 328), (5, 0, 0, 2, 0), (6, 2, 0, 32768, 0), (7, 14, 339, 10, 320), (10, 0, 0, 2, 0), (11, 2, 1, 32776, 8), (13, 2, 0, 32768, 0), (14, 9, 0, 342, 281), (17, 2, 0, 32769, 1), (18, 11, 1, 0, 0), (19, 0, 0, 2, 0), (20, 9, 0, 253, 124), (23, 4, 0, 52, 0), (26, 0, 0, 2, 0), (27, 1, 336, 10, 41), (30, 4, 5, 52, 0), (33, 0, 1, 0, 0), (34, 4, 0, 44, 0), (37, 0, 0, 2, 0), (38, 9, 0, 345, 282), (41, 5, 0, 48, 0), (44, 0, 0, 2, 0), (45, 9, 0, 348, 283), (48, 11, 1, 0, 0), (49, 5, 0, 19, 0), (52, 10, 1, 0, 0)], 1, 0, 0, 12, 2)
def fm_259 : fx_M := ([(0, 0, 0, 2, 0), (1, 1, 12, 8, 0), (4, 1, 68, 6, 1), (7, 0, 1, 0, 0), (8, 6, 0, 0, 0), (9, 2, 0, 32767, 4294967295), (10, 3, 0, 67, 0), (13, 0, 0, 2, 0), (14, 1, 12, 8, 0), (17, 1, 68, 6, 1), (20, 0, 2, 0, 0), (21, 6, 0, 0, 0), (22, 2, 0, 32767, 4294967295), (23, 3, 0, 67, 0), (26, 0, 0, 2, 0), (27, 1, 22, 8, 2), (30, 0, 1, 0, 0), (31, 6, 0, 0, 0), (32, 0, 0, 2, 0), (33, 1, 22, 8, 2), (36, 0, 2, 0, 0), (37, 6, 0, 0, 0), (38, 12, 1, 0, 0), (39, 29, 75, 2, 0), (42, 0, 0, 2, 0), (43, 1, 25, 8, 3), (46, 0, 1, 0, 0), (47, 6, 0, 0, 0), (48, 0, 0, 2, 0), (49, 1, 25, 8, 3), (52, 0, 2, 0, 0), (53, 6, 0, 0, 0), (54, 12, 1, 0, 0), (55, 29, 75, 2, 0), (58, 12, 0, 0, 0), (59, 2, 0, 32769, 1), (60, 3, 1, 67, 0), (63, 2, 0, 32769, 1), (64, 5, 0, 68, 0), (67, 2, 0, 32768, 0), (68, 10, 0, 2, 0)], 3, 0, 0, 10, 3)
def fm_260 : fx_M := ([(0, 0, 0, 0, 0), (1, 2, 1, 32800, 32), (3, 3, 2, 11, 0), (6, 0, 0, 0, 0), (7, 2, 1, 32800, 32), (9, 12, 1, 0, 0), (10, 10, 0, 1, 0), (11, 0, 0, 0, 0), (12, 4, 2, 27, 0), (15, 0, 0, 0, 0), (16, 0, 1, 2, 0), (17, 18, 0, 0, 0), (18, 3, 3, 27, 0), (21, 0, 1, 2, 0), (22, 0, 0, 0, 0), (23, 6, 0, 0, 0), (24, 5, 0, 28, 0), (27, 2, 0, 32768, 0), (28, 10, 0, 1, 0)], 2, 0, 0, 0, 2)
def fm_261 : fx_M := ([(0, 0, 0, 0, 0), (1, 20, 157, 10, 13), (60, 0, 1, 0, 0), (61, 4, 1, 68, 0), (64, 0, 2, 0, 0), (65, 4, 0, 72, 0), (68, 2, 0, 32769, 1), (69, 5, 0, 73, 0), (72, 2, 0, 32768, 0), (73, 10, 0, 1, 0), (74, 0, 1, 0, 0), (75, 4, 0, 86, 0), (78, 0, 2, 0, 0), (79, 4, 0, 86, 0), (82, 2, 0, 32769, 1), (83, 5, 0, 87, 0), (86, 2, 0, 32768, 0), (87, 10, 0, 1, 0), (88, 0, 1, 0, 0), (89, 0, 2, 0, 0), (90, 3, 3, 97, 0), (93, 2, 0, 32769, 1), (94, 5, 0, 98, 0), (97, 2, 0, 32768, 0), (98, 10, 0, 1, 0), (99, 0, 1, 0, 0), (100, 0, 2, 0, 0), (101, 3, 5, 108, 0), (104, 2, 0, 32769, 1), (105, 5, 0, 109, 0), (108, 2, 0, 32768, 0), (109, 10, 0, 1, 0), (110, 0, 1, 0, 0), (111, 0, 2, 0, 0), (112, 3, 1, 119, 0), (115, 2, 0, 32769, 1), (116, 5, 0, 120, 0), (119, 2, 0, 32768, 0), (120, 10, 0, 1, 0), (121, 0, 1, 0, 0), (122, 0, 2, 0, 0), (123, 12, 0, 0, 0), (124, 10, 0, 1, 0), (125, 0, 1, 0, 0), (126, 0, 2, 0, 0), (127, 12, 1, 0, 0), (128, 10, 0, 1, 0), (129, 0, 1, 0, 0), (130, 0, 2, 0, 0), (131, 12, 2, 0, 0), (132, 10, 0, 1, 0), (133, 0, 2, 0, 0), (134, 4, 1, 141, 0), (137, 2, 0, 32768, 0), (138, 5, 0, 144, 0), (141, 0, 1, 0, 0), (142, 0, 2, 0, 0), (143, 12, 3, 0, 0), (144, 10, 0, 1, 0), (145, 0, 2, 0, 0), (146, 4, 1, 153, 0), (149, 2, 0, 32768, 0), (150, 5, 0, 156, 0), (153, 0, 1, 0, 0), (154, 0, 2, 0, 0), (155, 12, 4, 0, 0), (156, 10, 0, 1, 0), (157, 2, 0, 32768, 0), (158, 10, 0, 1, 0)], 3, 0, 0, 0, 3)
def fm_262 : fx_M := ([(0, 0, 1, 0, 0), (1, 20, 198, 97, 14), (108, 0, 0, 2, 0), (109, 1, 363, 10, 43), (112, 10, 0, 1, 0), (113, 0, 0, 2, 0), (114, 1, 366, 10, 44), (117, 10, 0, 1, 0), (118, 0, 0, 2, 0), (119, 1, 369, 10, 45), (122, 10, 0, 1, 0), (123, 0, 0, 2, 0), (124, 1, 372, 10, 46), (127, 10, 0, 1, 0), (128, 0, 0, 2, 0), (129, 1, 375, 10, 47), (132, 10, 0, 1, 0), (133, 0, 0, 2, 0), (134, 1, 378, 10, 48), (137, 10, 0, 1, 0), (138, 0, 0, 2, 0), (139, 1, 101, 10, 50), (142, 2, 1, 32783, 15), (144, 6, 0, 0, 0), (145, 10, 0, 1, 0), (146, 0, 0, 2, 0), (147, 1, 381, 10, 49), (150, 4, 3, 157, 0), (153, 2, 0, 32768, 0), (154, 5, 0, 171, 0), (157, 0, 0, 2, 0), (158, 1, 381, 10, 49), (161, 0, 0, 2, 0), (162, 1, 20, 10, 11), (165, 0, 0, 2, 0), (166, 1, 283, 10, 37), (169, 6, 0, 0, 0), (170, 12, 3, 0, 0), (171, 10, 0, 1, 0), (172, 0, 0, 2, 0), (173, 1, 381, 10, 49), (176, 4, 3, 183, 0), (179, 2, 0, 32768, 0), (180, 5, 0, 197, 0), (183, 0, 0, 2, 0), (184, 1, 381, 10, 49), (187, 0, 0, 2, 0), (188, 1, 20, 10, 11), (191, 0, 0, 2, 0), (192, 1, 283, 10, 37), (195, 6, 0, 0, 0), (196, 12, 4, 0, 0), (197, 10, 0, 1, 0), (198, 0, 2, 0, 0), (199, 10, 0, 1, 0)], 3, 0, 0, 12, 3)
def fm_263 : fx_M := ([(0, 0, 0, 0, 0), (1, 20, 203, 37, 15), (120, 0, 1, 0, 0), (121, 0, 2, 0, 0), (122, 12, 0, 0, 0), (123, 10, 0, 1, 0), (124, 0, 1, 0, 0), (125, 0, 2, 0, 0), (126, 12, 1, 0, 0), (127, 10, 0, 1, 0), (128, 0, 1, 0, 0), (129, 0, 2, 0, 0), (130, 12, 2, 0, 0), (131, 10, 0, 1, 0), (132, 0, 2, 0, 0), (133, 4, 1, 140, 0), (136, 2, 0, 32768, 0), (137, 5, 0, 143, 0), (140, 0, 1, 0, 0), (141, 0, 2, 0, 0), (142, 12, 3, 0, 0), (143, 10, 0, 1, 0), (144, 0, 2, 0, 0), (145, 4, 1, 152, 0), (148, 2, 0, 32768, 0), (149, 5, 0, 155, 0), (152, 0, 1, 0, 0), (153, 0, 2, 0, 0), (154, 12, 4, 0, 0), (155, 10, 0, 1, 0), (156, 0, 1, 0, 0), (157, 0, 2, 0, 0), (158, 3, 3, 165, 0), (161, 2, 0, 32769, 1), (162, 5, 0, 166, 0), (165, 2, 0, 32768, 0), (166, 10, 0, 1, 0), (167, 0, 1, 0, 0), (168, 0, 2, 0, 0), (169, 3, 5, 176, 0), (172, 2, 0, 32769, 1), (173, 5, 0, 177, 0), (176, 2, 0, 32768, 0), (177, 10, 0, 1, 0), (178, 0, 1, 0, 0), (179, 0, 2, 0, 0), (180, 3, 1, 187, 0), (183, 2, 0, 32769, 1), (184, 5, 0, 188, 0), (187, 2, 0, 32768, 0), (188, 10, 0, 1, 0), (189, 0, 1, 0, 0), (190, 4, 0, 201, 0), (193, 0, 2, 0, 0), (194, 4, 0, 201, 0), (197, 2, 0, 32769, 1), (198, 5, 0, 202, 0), (201, 2, 0, 32768, 0), (202, 10, 0, 1, 0), (203, 0, 1, 0, 0), (204, 4, 1, 211, 0), (207, 0, 2, 0, 0), (208, 4, 0, 215, 0), (211, 2, 0, 32769, 1), (212, 5, 0, 216, 0), (215, 2, 0, 32768, 0), (216, 10, 0, 1, 0)], 3, 0, 0, 0, 3)
def fm_264 : fx_M := ([(0, 0, 0, 2, 0), (1, 1, 25, 2, 4), (4, 0, 1, 0, 0), (5, 6, 0, 0, 0), (6, 0, 2, 0, 0), (7, 3, 4, 34, 0), (10, 0, 0, 2, 0), (11, 1, 28, 2, 5), (14, 0, 1, 0, 0), (15, 6, 0, 0, 0), (16, 2, 0, 32767, 4294967295), (17, 3, 0, 30, 0), (20, 0, 0, 2, 0), (21, 1, 28, 2, 5), (24, 0, 1, 0, 0), (25, 6, 0, 0, 0), (26, 0, 2, 0, 0), (27, 3, 5, 34, 0), (30, 2, 0, 32769, 1), (31, 5, 0, 35, 0), (34, 2, 0, 32768, 0), (35, 10, 0, 2, 0)], 3, 0, 0, 4, 3)
def fm_265 : fx_M := ([(0, 2, 0, 32768, 0), (1, 11, 4, 1, 0), (3, 0, 4, 1, 0), (5, 0, 0, 2, 0), (6, 1, 31, 2, 6), (9, 3, 3, 78, 0), (12, 0, 0, 2, 0), (13, 1, 9, 2, 0), (16, 0, 4, 1, 0), (18, 6, 0, 0, 0), (19, 0, 1, 0, 0), (20, 3, 1, 72, 0), (23, 0, 0, 2, 0), (24, 0, 4, 1, 0), (26, 0, 2, 0, 0), (27, 9, 0, 35, 264), (30, 4, 0, 72, 0), (33, 0, 3, 2, 0), (34, 1, 45, 6, 0), (37, 0, 0, 2, 0), (38, 1, 15, 2, 1), (41, 0, 4, 1, 0), (43, 6, 0, 0, 0), (44, 6, 0, 0, 0), (45, 0, 0, 2, 0), (46, 1, 18, 2, 2), (49, 0, 4, 1, 0), (51, 6, 0, 0, 0), (52, 3, 2, 59, 0), (55, 2, 0, 32769, 1), (56, 5, 0, 60, 0), (59, 2, 0, 32768, 0), (60, 0, 0, 2, 0), (61, 1, 21, 2, 3), (64, 0, 4, 1, 0), (66, 6, 1, 0, 0), (67, 3, 0, 72, 0), (70, 2, 0, 32768, 0), (71, 10, 0, 2, 0), (72, 7, 4, 1, 0), (75, 5, 0, 3, 0), (78, 2, 0, 32769, 1), (79, 10, 0, 2, 0)], 4, 0, 0, 4, 5)
def fm_266 : fx_M := ([(0, 0, 1, 0, 0), (1, 4, 2, 25, 0), (4, 0, 1, 0, 0), (5, 0, 0, 2, 0), (6, 1, 23, 7, 3), (9, 3, 3, 25, 0), (12, 0, 1, 0, 0), (13, 0, 0, 2, 0), (14, 1, 9, 7, 0), (17, 18, 0, 0, 0), (18, 3, 3, 25, 0), (21, 2, 0, 32769, 1), (22, 5, 0, 26, 0), (25, 2, 0, 32768, 0), (26, 10, 0, 2, 0)], 2, 0, 0, 9, 2)
def fm_267 : fx_M := ([(0, 0, 0, 0, 0), (1, 2, 1, 32865, 97), (3, 3, 2, 16, 0), (6, 0, 0, 0, 0), (7, 2, 1, 32890, 122), (9, 3, 4, 16, 0), (12, 2, 0, 32769, 1), (13, 5, 0, 17, 0), (16, 2, 0, 32768, 0), (17, 10, 0, 2, 0)], 1, 0, 0, 0, 1)
def fm_268 : fx_M := ([(0, 0, 0, 2, 0), (1, 2, 5, 0, 0), (2, 14, 35, 7, 59), (5, 0, 0, 2, 0), (6, 1, 29, 7, 5), (9, 11, 1, 0, 0), (10, 0, 1, 0, 0), (11, 2, 2, 34368, 1600), (14, 3, 3, 67, 0), (17, 0, 0, 2, 0), (18, 0, 1, 0, 0), (19, 9, 0, 57, 266), (22, 4, 0, 67, 0), (25, 0, 0, 2, 0), (26, 1, 9, 7, 0), (29, 0, 1, 0, 0), (30, 6, 1, 0, 0), (31, 9, 2, 61, 267), (34, 4, 0, 67, 0), (37, 0, 0, 2, 0), (38, 0, 0, 2, 0), (39, 1, 35, 7, 7), (42, 0, 0, 2, 0), (43, 1, 9, 7, 0), (46, 0, 1, 0, 0), (47, 6, 1, 0, 0), (48, 9, 2, 50, 10), (51, 14, 35, 7, 59), (54, 0, 0, 2, 0), (55, 0, 1, 0, 0), (56, 2, 0, 32769, 1), (57, 12, 0, 0, 0), (58, 14, 19, 7, 16), (61, 7, 1, 1, 0), (64, 5, 0, 10, 0), (67, 0, 0, 2, 0), (68, 0, 0, 2, 0), (69, 1, 19, 7, 2), (72, 0, 0, 2, 0), (73, 1, 29, 7, 5), (76, 12, 1, 0, 0), (77, 2, 1, 32776, 8), (79, 3, 5, 86, 0), (82, 2, 0, 32769, 1), (83, 5, 0, 87, 0), (86, 2, 0, 32770, 2), (87, 14, 26, 7, 32), (90, 2, 0, 32768, 0), (91, 11, 1, 0, 0), (92, 0, 1, 0, 0), (93, 0, 0, 2, 0), (94, 1, 15, 7, 1), (97, 18, 0, 0, 0), (98, 3, 3, 142, 0), (101, 0, 0, 2, 0), (102, 1, 26, 7, 4), (105, 2, 0, 32770, 2), (106, 3, 1, 142, 0), (109, 0, 0, 2, 0), (110, 0, 0, 2, 0), (111, 1, 15, 7, 1), (114, 0, 1, 0, 0), (115, 6, 2, 0, 0), (116, 0, 0, 2, 0), (117, 1, 35, 7, 7), (120, 30, 0, 0, 0), (121, 4, 1, 132, 0), (124, 2, 2, 33024, 256), (127, 0, 1, 0, 0), (128, 12, 0, 0, 0), (129, 5, 0, 133, 0), (132, 2, 0, 32770, 2), (133, 14, 26, 7, 32), (136, 7, 1, 1, 0), (139, 5, 0, 92, 0), (142, 10, 1, 0, 0)], 1, 0, 0, 9, 2)
def fm_269 : fx_M := ([(0, 0, 0, 0, 0), (1, 2, 1, 32816, 48), (3, 3, 2, 16, 0), (6, 0, 0, 0, 0), (7, 2, 1, 32825, 57), (9, 3, 4, 16, 0), (12, 2, 0, 32769, 1), (13, 5, 0, 17, 0), (16, 2, 0, 32768, 0), (17, 10, 0, 2, 0)], 1, 0, 0, 0, 1)
def fm_270 : fx_M := ([(0, 0, 0, 2, 0), (1, 2, 0, 32768, 0), (2, 14, 32, 7, 48), (5, 0, 0, 2, 0), (6, 1, 29, 7, 5), (9, 11, 1, 0, 0), (10, 0, 1, 0, 0), (11, 2, 2, 34368, 1600), (14, 3, 3, 71, 0), (17, 0, 0, 2, 0), (18, 0, 1, 0, 0), (19, 9, 0, 57, 266), (22, 4, 0, 71, 0), (25, 0, 0, 2, 0), (26, 1, 9, 7, 0), (29, 0, 1, 0, 0), (30, 6, 1, 0, 0), (31, 9, 2, 67, 269), (34, 4, 0, 71, 0), (37, 0, 0, 2, 0), (38, 0, 0, 2, 0), (39, 1, 32, 7, 6), (42, 2, 1, 32778, 10), (44, 12, 2, 0, 0), (45, 0, 0, 2, 0), (46, 1, 9, 7, 0), (49, 0, 1, 0, 0), (50, 6, 1, 0, 0), (51, 12, 0, 0, 0), (52, 2, 1, 32816, 48), (54, 12, 1, 0, 0), (55, 14, 32, 7, 48), (58, 0, 0, 2, 0), (59, 0, 1, 0, 0), (60, 2, 0, 32769, 1), (61, 12, 0, 0, 0), (62, 14, 19, 7, 16), (65, 7, 1, 1, 0), (68, 5, 0, 10, 0), (71, 0, 0, 2, 0), (72, 0, 0, 2, 0), (73, 1, 19, 7, 2), (76, 9, 0, 57, 266), (79, 4, 0, 101, 0), (82, 0, 0, 2, 0), (83, 1, 9, 7, 0), (86, 0, 0, 2, 0), (87, 1, 19, 7, 2), (90, 6, 1, 0, 0), (91, 9, 2, 61, 267), (94, 4, 0, 101, 0), (97, 2, 0, 32769, 1), (98, 5, 0, 102, 0), (101, 2, 0, 32768, 0), (102, 11, 1, 0, 0), (103, 0, 0, 2, 0), (104, 0, 1, 0, 0), (105, 4, 1, 121, 0), (108, 0, 0, 2, 0), (109, 1, 19, 7, 2), (112, 0, 0, 2, 0), (113, 1, 29, 7, 5), (116, 12, 1, 0, 0), (117, 2, 0, 32772, 4), (118, 3, 5, 125, 0), (121, 2, 0, 32769, 1), (122, 5, 0, 126, 0), (125, 2, 0, 32771, 3), (126, 14, 26, 7, 32), (129, 10, 1, 0, 0)], 1, 0, 0, 9, 2)
def fm_271 : fx_M := ([(0, 0, 0, 2, 0), (1, 0, 1, 0, 0), (2, 2, 0, 32768, 0), (3, 9, 0, 633, 284), (6, 10, 0, 1, 0)], 2, 0, 0, 99, 2)
def fm_272 : fx_M := ([(0, 0, 0, 2, 0), (1, 1, 12, 4, 0), (4, 1, 38, 7, 4), (7, 2, 0, 32771, 3), (8, 3, 0, 16, 0), (11, 0, 0, 2, 0), (12, 9, 0, 49, 242), (15, 10, 0, 2, 0), (16, 0, 0, 2, 0), (17, 1, 12, 4, 0), (20, 1, 90, 7, 6), (23, 0, 1, 0, 0), (24, 3, 2, 38, 0), (27, 0, 0, 2, 0), (28, 1, 12, 4, 0), (31, 1, 90, 7, 6), (34, 0, 2, 0, 0), (35, 3, 5, 46, 0), (38, 0, 0, 2, 0), (39, 2, 0, 32772, 4), (40, 9, 0, 140, 273), (43, 4, 0, 50, 0), (46, 2, 0, 32769, 1), (47, 5, 0, 51, 0), (50, 2, 0, 32768, 0), (51, 10, 0, 2, 0)], 3, 0, 0, 6, 3)
def fm_273 : fx_M := ([(0, 0, 0, 2, 0), (1, 0, 1, 0, 0), (2, 14, 25, 4, 16), (5, 0, 0, 2, 0), (6, 0, 0, 2, 0), (7, 1, 12, 4, 0), (10, 1, 189, 7, 5), (13, 14, 29, 4, 24), (16, 2, 0, 32768, 0), (17, 10, 0, 2, 0)], 2, 0, 0, 6, 2)
def fm_274 : fx_M := ([(0, 0, 0, 2, 0), (1, 1, 12, 4, 0), (4, 1, 38, 7, 4), (7, 2, 0, 32770, 2), (8, 3, 0, 16, 0), (11, 0, 0, 2, 0), (12, 9, 0, 49, 242), (15, 10, 0, 2, 0), (16, 0, 0, 2, 0), (17, 0, 1, 2, 0), (18, 0, 2, 0, 0), (19, 9, 0, 136, 285), (22, 2, 0, 32767, 4294967295), (23, 3, 0, 34, 0), (26, 0, 0, 2, 0), (27, 2, 0, 32771, 3), (28, 9, 0, 140, 273), (31, 4, 0, 38, 0), (34, 2, 0, 32769, 1), (35, 5, 0, 39, 0), (38, 2, 0, 32768, 0), (39, 10, 0, 2, 0)], 3, 0, 0, 6, 3)
def fm_275 : fx_M := ([(0, 0, 0, 2, 0), (1, 1, 12, 4, 0), (4, 1, 38, 7, 4), (7, 2, 0, 32770, 2), (8, 3, 0, 16, 0), (11, 0, 0, 2, 0), (12, 9, 0, 49, 242), (15, 10, 0, 2, 0), (16, 0, 0, 2, 0), (17, 0, 0, 2, 0), (18, 1, 21, 4, 1), (21, 1, 102, 3, 0), (24, 0, 0, 2, 0), (25, 1, 21, 4, 1), (28, 1, 99, 3, 11), (31, 9, 0, 136, 285), (34, 11, 2, 0, 0), (35, 0, 2, 0, 0), (36, 2, 0, 32767, 4294967295), (37, 3, 1, 46, 0), (40, 0, 0, 2, 0), (41, 2, 0, 32773, 5), (42, 9, 0, 140, 273), (45, 10, 0, 2, 0), (46, 0, 0, 2, 0), (47, 1, 21, 4, 1), (50, 1, 143, 3, 3), (53, 0, 1, 0, 0), (54, 0, 2, 0, 0), (55, 8, 0, 0, 0), (56, 0, 0, 2, 0), (57, 1, 12, 4, 0), (60, 9, 0, 83, 240), (63, 2, 0, 32769, 1), (64, 10, 0, 2, 0)], 2, 0, 0, 6, 3)
def fm_276 : fx_M := ([(0, 0, 0, 2, 0), (1, 1, 12, 4, 0), (4, 1, 38, 7, 4), (7, 2, 2, 33043, 275), (10, 3, 0, 15, 0), (13, 2, 0, 32769, 1), (14, 10, 0, 2, 0), (15, 0, 0, 2, 0), (16, 1, 12, 4, 0), (19, 9, 0, 83, 240), (22, 0, 0, 2, 0), (23, 2, 0, 32768, 0), (24, 2, 1, 32777, 9), (26, 9, 0, 86, 272), (29, 4, 1, 34, 0), (32, 2, 0, 32768, 0), (33, 10, 0, 2, 0), (34, 0, 0, 2, 0), (35, 1, 21, 4, 1), (38, 1, 146, 3, 5), (41, 0, 1, 0, 0), (42, 0, 0, 2, 0), (43, 1, 12, 4, 0), (46, 1, 90, 7, 6), (49, 8, 0, 0, 0), (50, 0, 0, 2, 0), (51, 1, 12, 4, 0), (54, 9, 0, 83, 240), (57, 2, 0, 32769, 1), (58, 10, 0, 2, 0)], 2, 0, 0, 6, 2)
def fm_277 : fx_M := ([(0, 0, 0, 2, 0), (1, 1, 12, 4, 0), (4, 1, 38, 7, 4), (7, 2, 2, 33030, 262), (10, 3, 0, 15, 0), (13, 2, 0, 32769, 1), (14, 10, 0, 2, 0), (15, 0, 0, 2, 0), (16, 1, 12, 4, 0), (19, 9, 0, 83, 240), (22, 0, 0, 2, 0), (23, 2, 0, 32768, 0), (24, 0, 0, 2, 0), (25, 1, 21, 4, 1), (28, 1, 93, 3, 9), (31, 2, 0, 32769, 1), (32, 12, 1, 0, 0), (33, 9, 0, 86, 272), (36, 4, 1, 41, 0), (39, 2, 0, 32768, 0), (40, 10, 0, 2, 0), (41, 0, 0, 2, 0), (42, 1, 12, 4, 0), (45, 1, 90, 7, 6), (48, 11, 2, 0, 0), (49, 0, 0, 2, 0), (50, 1, 12, 4, 0), (53, 9, 0, 83, 240), (56, 0, 0, 2, 0), (57, 2, 0, 32768, 0), (58, 0, 0, 2, 0), (59, 1, 21, 4, 1), (62, 1, 96, 3, 10), (65, 2, 0, 32769, 1), (66, 12, 1, 0, 0), (67, 9, 0, 86, 272), (70, 4, 1, 75, 0), (73, 2, 0, 32768, 0), (74, 10, 0, 2, 0), (75, 0, 0, 2, 0), (76, 1, 12, 4, 0), (79, 1, 90, 7, 6), (82, 0, 0, 2, 0), (83, 1, 21, 4, 1), (86, 1, 93, 3, 9), (89, 12, 2, 0, 0), (90, 0, 2, 0, 0), (91, 12, 0, 0, 0), (92, 11, 3, 0, 0), (93, 2, 0, 32768, 0), (94, 11, 4, 1, 0), (96, 0, 4, 1, 0), (98, 0, 1, 0, 0), (99, 3, 3, 135, 0), (102, 0, 4, 1, 0), (104, 2, 1, 32775, 7), (106, 3, 3, 135, 0), (109, 0, 0, 2, 0), (110, 1, 21, 4, 1), (113, 1, 149, 3, 6), (116, 0, 4, 1, 0), (118, 6, 0, 0, 0), (119, 0, 3, 0, 0), (120, 3, 1, 129, 0), (123, 0, 0, 2, 0), (124, 2, 0, 32771, 3), (125, 9, 0, 140, 273), (128, 10, 0, 2, 0), (129, 7, 4, 1, 0), (132, 5, 0, 96, 0), (135, 0, 0, 2, 0), (136, 1, 21, 4, 1), (139, 1, 149, 3, 6), (142, 0, 1, 0, 0), (143, 0, 3, 0, 0), (144, 8, 0, 0, 0), (145, 0, 0, 2, 0), (146, 1, 12, 4, 0), (149, 9, 0, 83, 240), (152, 2, 0, 32769, 1), (153, 10, 0, 2, 0)], 2, 0, 0, 6, 5)
def fm_278 : fx_M := ([(0, 0, 1, 2, 0), (1, 1, 168, 1, 3), (4, 2, 1, 32798, 30), (6, 3, 2, 14, 0), (9, 0, 0, 2, 0), (10, 9, 0, 49, 242), (13, 10, 0, 2, 0), (14, 0, 1, 2, 0), (15, 15, 0, 0, 0), (16, 1, 168, 1, 3), (19, 2, 0, 32769, 1), (20, 12, 0, 0, 0), (21, 14, 168, 1, 24), (24, 0, 0, 2, 0), (25, 1, 12, 4, 0), (28, 1, 38, 7, 4), (31, 11, 3, 0, 0), (32, 0, 3, 0, 0), (33, 2, 1, 32808, 40), (35, 3, 1, 83, 0), (38, 0, 2, 0, 0), (39, 2, 1, 32775, 7), (41, 3, 2, 49, 0), (44, 0, 0, 2, 0), (45, 9, 0, 49, 242), (48, 10, 0, 2, 0), (49, 0, 0, 2, 0), (50, 1, 12, 4, 0), (53, 9, 0, 83, 240), (56, 0, 0, 2, 0), (57, 0, 1, 2, 0), (58, 2, 0, 32768, 0), (59, 0, 2, 0, 0), (60, 2, 0, 32769, 1), (61, 12, 0, 0, 0), (62, 9, 0, 66, 246), (65, 4, 0, 81, 0), (68, 0, 0, 2, 0), (69, 2, 1, 32809, 41), (71, 9, 0, 70, 247), (74, 4, 0, 81, 0), (77, 2, 0, 32769, 1), (78, 5, 0, 82, 0), (81, 2, 0, 32768, 0), (82, 10, 0, 2, 0), (83, 0, 3, 0, 0), (84, 2, 0, 32771, 3), (85, 3, 1, 105, 0), (88, 0, 1, 2, 0), (89, 2, 1, 32800, 32), (91, 0, 0, 2, 0), (92, 1, 12, 4, 0), (95, 1, 90, 7, 6), (98, 12, 0, 0, 0), (99, 9, 0, 185, 16), (102, 5, 0, 136, 0), (105, 0, 3, 0, 0), (106, 2, 2, 33039, 271), (109, 3, 2, 131, 0), (112, 0, 3, 0, 0), (113, 2, 2, 33048, 280), (116, 3, 3, 131, 0), (119, 0, 1, 2, 0), (120, 0, 3, 0, 0), (121, 2, 2, 33039, 271), (124, 12, 1, 0, 0), (125, 9, 0, 185, 16), (128, 5, 0, 136, 0), (131, 0, 0, 2, 0), (132, 9, 0, 49, 242), (135, 10, 0, 2, 0), (136, 0, 0, 2, 0), (137, 1, 12, 4, 0), (140, 9, 0, 83, 240), (143, 2, 0, 32769, 1), (144, 10, 0, 2, 0)], 3, 0, 0, 6, 4)
def fm_279 : fx_M := ([(0, 0, 2, 0, 0), (1, 2, 1, 32775, 7), (3, 3, 2, 11, 0), (6, 0, 0, 2, 0), (7, 9, 0, 49, 242), (10, 10, 0, 2, 0), (11, 0, 0, 2, 0), (12, 1, 12, 4, 0), (15, 9, 0, 83, 240), (18, 0, 0, 2, 0), (19, 0, 1, 2, 0), (20, 2, 0, 32770, 2), (21, 0, 2, 0, 0), (22, 2, 0, 32769, 1), (23, 12, 0, 0, 0), (24, 9, 0, 66, 246), (27, 4, 1, 32, 0), (30, 2, 0, 32768, 0), (31, 10, 0, 2, 0), (32, 0, 1, 2, 0), (33, 2, 1, 32780, 12), (35, 9, 0, 185, 16), (38, 2, 0, 32769, 1), (39, 10, 0, 2, 0)], 3, 0, 0, 6, 3)
def fm_280 : fx_M := ([(0, 0, 0, 0, 0), (1, 20, 158, 0, 16), (36, 0, 1, 0, 0), (37, 2, 2, 33036, 268), (40, 3, 1, 48, 0), (43, 2, 1, 32778, 10), (45, 5, 0, 49, 0), (48, 2, 0, 32767, 4294967295), (49, 10, 0, 1, 0), (50, 0, 1, 0, 0), (51, 2, 2, 33037, 269), (54, 3, 1, 62, 0), (57, 2, 1, 32779, 11), (59, 5, 0, 63, 0), (62, 2, 0, 32767, 4294967295), (63, 10, 0, 1, 0), (64, 0, 1, 0, 0), (65, 2, 1, 32828, 60), (67, 3, 1, 75, 0), (70, 2, 1, 32781, 13), (72, 5, 0, 98, 0), (75, 0, 1, 0, 0), (76, 2, 1, 32830, 62), (78, 3, 1, 86, 0), (81, 2, 1, 32782, 14), (83, 5, 0, 98, 0), (86, 0, 1, 0, 0), (87, 2, 1, 32829, 61), (89, 3, 1, 97, 0), (92, 2, 1, 32783, 15), (94, 5, 0, 98, 0), (97, 2, 0, 32767, 4294967295), (98, 10, 0, 1, 0), (99, 0, 1, 0, 0), (100, 2, 1, 32811, 43), (102, 3, 1, 110, 0), (105, 2, 1, 32784, 16), (107, 5, 0, 122, 0), (110, 0, 1, 0, 0), (111, 2, 1, 32813, 45), (113, 3, 1, 121, 0), (116, 2, 1, 32785, 17), (118, 5, 0, 122, 0), (121, 2, 0, 32767, 4294967295), (122, 10, 0, 1, 0), (123, 0, 1, 0, 0), (124, 2, 1, 32810, 42), (126, 3, 1, 134, 0), (129, 2, 1, 32786, 18), (131, 5, 0, 157, 0), (134, 0, 1, 0, 0), (135, 2, 1, 32815, 47), (137, 3, 1, 145, 0), (140, 2, 1, 32787, 19), (142, 5, 0, 157, 0), (145, 0, 1, 0, 0), (146, 2, 1, 32805, 37), (148, 3, 1, 156, 0), (151, 2, 1, 32788, 20), (153, 5, 0, 157, 0), (156, 2, 0, 32767, 4294967295), (157, 10, 0, 1, 0), (158, 2, 0, 32767, 4294967295), (159, 10, 0, 1, 0)], 2, 0, 0, 0, 2)
def fm_281 : fx_M := ([(0, 0, 0, 2, 0), (1, 1, 92, 10, 34), (4, 0, 0, 2, 0), (5, 1, 336, 10, 41), (8, 0, 1, 0, 0), (9, 8, 0, 0, 0), (10, 0, 0, 2, 0), (11, 1, 95, 10, 35), (14, 0, 0, 2, 0), (15, 1, 336, 10, 41), (18, 0, 2, 0, 0), (19, 8, 0, 0, 0), (20, 0, 0, 2, 0), (21, 15, 0, 0, 0), (22, 1, 336, 10, 41), (25, 2, 0, 32769, 1), (26, 12, 0, 0, 0), (27, 14, 336, 10, 328), (30, 10, 1, 0, 0)], 3, 0, 0, 12, 3)
def fm_282 : fx_M := ([(0, 0, 0, 2, 0), (1, 1, 92, 10, 34), (4, 0, 0, 2, 0), (5, 1, 336, 10, 41), (8, 2, 0, 32769, 1), (9, 12, 1, 0, 0), (10, 6, 0, 0, 0), (11, 2, 0, 32771, 3), (12, 3, 5, 31, 0), (15, 0, 0, 2, 0), (16, 1, 92, 10, 34), (19, 0, 0, 2, 0), (20, 1, 336, 10, 41), (23, 2, 0, 32769, 1), (24, 12, 1, 0, 0), (25, 6, 0, 0, 0), (26, 2, 1, 32775, 7), (28, 3, 2, 35, 0), (31, 2, 0, 32769, 1), (32, 5, 0, 36, 0), (35, 2, 0, 32768, 0), (36, 11, 1, 0, 0), (37, 0, 1, 0, 0), (38, 4, 0, 55, 0), (41, 0, 0, 2, 0), (42, 2, 6, 213, 7237492), (45, 9, 0, 263, 250), (48, 4, 0, 55, 0), (51, 2, 0, 32769, 1), (52, 5, 0, 56, 0), (55, 2, 0, 32768, 0), (56, 11, 2, 0, 0), (57, 0, 0, 2, 0), (58, 2, 1, 32808, 40), (60, 9, 0, 306, 225), (63, 11, 3, 0, 0), (64, 0, 0, 2, 0), (65, 9, 0, 351, 286), (68, 11, 4, 1, 0), (70, 0, 0, 2, 0), (71, 1, 36, 10, 16), (74, 0, 0, 2, 0), (75, 1, 274, 10, 38), (78, 6, 0, 0, 0), (79, 2, 1, 32828, 60), (81, 3, 0, 93, 0), (84, 0, 0, 2, 0), (85, 1, 330, 10, 42), (88, 2, 1, 32798, 30), (90, 3, 1, 97, 0), (93, 2, 0, 32769, 1), (94, 5, 0, 98, 0), (97, 2, 0, 32768, 0), (98, 11, 5, 1, 0), (100, 0, 2, 0, 0), (101, 4, 1, 126, 0), (104, 0, 4, 1, 0), (106, 4, 1, 121, 0), (109, 0, 0, 2, 0), (110, 1, 225, 10, 8), (113, 2, 0, 32772, 4), (114, 3, 0, 121, 0), (117, 0, 3, 0, 0), (118, 4, 0, 143, 0), (121, 0, 5, 1, 0), (123, 4, 1, 143, 0), (126, 0, 2, 0, 0), (127, 4, 1, 134, 0), (130, 0, 3, 0, 0), (131, 4, 0, 147, 0), (134, 0, 0, 2, 0), (135, 1, 339, 10, 40), (138, 2, 1, 32775, 7), (140, 3, 1, 147, 0), (143, 0, 0, 2, 0), (144, 9, 0, 260, 219), (147, 0, 0, 2, 0), (148, 9, 0, 253, 124), (151, 4, 1, 156, 0), (154, 2, 0, 32769, 1), (155, 10, 0, 2, 0), (156, 0, 0, 2, 0), (157, 1, 36, 10, 16), (160, 0, 0, 2, 0), (161, 1, 274, 10, 38), (164, 15, 2, 0, 0), (165, 6, 0, 0, 0), (166, 0, 2, 0, 0), (167, 4, 0, 174, 0), (170, 2, 0, 32768, 0), (171, 5, 0, 175, 0), (174, 2, 0, 32769, 1), (175, 12, 0, 0, 0), (176, 8, 0, 0, 0), (177, 0, 0, 2, 0), (178, 15, 0, 0, 0), (179, 1, 330, 10, 42), (182, 0, 2, 0, 0), (183, 4, 0, 190, 0), (186, 2, 0, 32768, 0), (187, 5, 0, 191, 0), (190, 2, 0, 32769, 1), (191, 12, 0, 0, 0), (192, 14, 330, 10, 336), (195, 0, 4, 1, 0), (197, 4, 1, 207, 0), (200, 0, 0, 2, 0), (201, 1, 243, 10, 9), (204, 5, 0, 208, 0), (207, 2, 0, 32768, 0), (208, 11, 6, 1, 0), (210, 0, 0, 2, 0), (211, 9, 0, 257, 123), (214, 0, 2, 0, 0), (215, 4, 1, 222, 0), (218, 0, 3, 0, 0), (219, 4, 0, 250, 0), (222, 0, 0, 2, 0), (223, 0, 2, 0, 0), (224, 4, 0, 231, 0), (227, 2, 0, 32771, 3), (228, 5, 0, 233, 0), (231, 2, 1, 32775, 7), (233, 2, 1, 32894, 126), (235, 9, 0, 342, 281), (238, 0, 0, 2, 0), (239, 15, 0, 0, 0), (240, 1, 339, 10, 40), (243, 2, 0, 32769, 1), (244, 12, 0, 0, 0), (245, 14, 339, 10, 320), (248, 2, 0, 32769, 1), (249, 10, 0, 2, 0), (250, 0, 0, 2, 0), (251, 0, 4, 1, 0), (253, 4, 1, 261, 0), (256, 2, 1, 32878, 110), (258, 5, 0, 263, 0), (261, 0, 4, 1, 0), (263, 0, 6, 1, 0), (265, 9, 0, 354, 287), (268, 2, 0, 32768, 0), (269, 10, 0, 2, 0)], 1, 0, 0, 12, 7)
def fm_283 : fx_M := ([(0, 0, 0, 2, 0), (1, 9, 0, 357, 288), (4, 11, 1, 0, 0), (5, 0, 1, 0, 0), (6, 2, 0, 32772, 4), (7, 3, 1, 23, 0), (10, 0, 0, 2, 0), (11, 9, 0, 360, 289), (14, 4, 0, 23, 0), (17, 0, 0, 2, 0), (18, 9, 0, 260, 219), (21, 2, 0, 32769, 1), (22, 10, 0, 2, 0), (23, 0, 0, 2, 0), (24, 1, 92, 10, 34), (27, 0, 0, 2, 0), (28, 1, 336, 10, 41), (31, 2, 0, 32769, 1), (32, 12, 1, 0, 0), (33, 6, 0, 0, 0), (34, 2, 1, 32774, 6), (36, 3, 4, 104, 0), (39, 0, 0, 2, 0), (40, 1, 92, 10, 34), (43, 0, 0, 2, 0), (44, 1, 336, 10, 41), (47, 2, 0, 32769, 1), (48, 12, 1, 0, 0), (49, 6, 0, 0, 0), (50, 0, 1, 0, 0), (51, 3, 2, 104, 0), (54, 0, 0, 2, 0), (55, 15, 0, 0, 0), (56, 1, 336, 10, 41), (59, 2, 0, 32769, 1), (60, 12, 1, 0, 0), (61, 14, 336, 10, 328), (64, 0, 0, 2, 0), (65, 1, 92, 10, 34), (68, 0, 0, 2, 0), (69, 1, 336, 10, 41), (72, 6, 0, 0, 0), (73, 2, 0, 32771, 3), (74, 3, 1, 87, 0), (77, 0, 0, 2, 0), (78, 15, 0, 0, 0), (79, 1, 339, 10, 40), (82, 2, 0, 32769, 1), (83, 12, 1, 0, 0), (84, 14, 339, 10, 320), (87, 0, 0, 2, 0), (88, 0, 0, 2, 0), (89, 1, 95, 10, 35), (92, 0, 0, 2, 0), (93, 1, 336, 10, 41), (96, 6, 0, 0, 0), (97, 2, 0, 32768, 0), (98, 9, 0, 354, 287), (101, 5, 0, 23, 0), (104, 0, 1, 0, 0), (105, 4, 5, 147, 0), (108, 0, 0, 2, 0), (109, 0, 1, 0, 0), (110, 0, 1, 0, 0), (111, 2, 0, 32770, 2), (112, 3, 1, 120, 0), (115, 2, 1, 32806, 38), (117, 5, 0, 138, 0), (120, 0, 1, 0, 0), (121, 2, 0, 32769, 1), (122, 3, 1, 130, 0), (125, 2, 1, 32892, 124), (127, 5, 0, 138, 0), (130, 0, 0, 2, 0), (131, 0, 0, 2, 0), (132, 1, 218, 10, 6), (135, 9, 0, 221, 213), (138, 9, 0, 342, 281), (141, 0, 0, 2, 0), (142, 9, 0, 257, 123), (145, 2, 0, 32769, 1), (146, 10, 0, 2, 0), (147, 0, 0, 2, 0), (148, 15, 0, 0, 0), (149, 1, 336, 10, 41), (152, 2, 0, 32769, 1), (153, 12, 1, 0, 0), (154, 14, 336, 10, 328), (157, 0, 0, 2, 0), (158, 1, 92, 10, 34), (161, 0, 0, 2, 0), (162, 1, 336, 10, 41), (165, 6, 0, 0, 0), (166, 2, 1, 32775, 7), (168, 3, 1, 191, 0), (171, 0, 0, 2, 0), (172, 15, 0, 0, 0), (173, 1, 339, 10, 40), (176, 2, 0, 32769, 1), (177, 12, 1, 0, 0), (178, 14, 339, 10, 320), (181, 0, 0, 2, 0), (182, 0, 0, 2, 0), (183, 2, 1, 32809, 41), (185, 9, 0, 306, 225), (188, 9, 0, 266, 226), (191, 2, 0, 32768, 0), (192, 10, 0, 2, 0)], 1, 0, 0, 12, 2)
def fm_284 : fx_M := ([(0, 0, 0, 2, 0), (1, 9, 0, 492, 6), (4, 4, 0, 23, 0), (7, 0, 0, 2, 0), (8, 25, 9, 0, 0), (11, 0, 1, 0, 0), (12, 0, 2, 0, 0), (13, 0, 0, 2, 0), (14, 9, 0, 505, 3), (17, 9, 2, 637, 290), (20, 5, 0, 36, 0), (36, 10, 0, 1, 0)], 3, 0, 0, 99, 3)
def fm_285 : fx_M := ([(0, 2, 0, 32768, 0), (1, 11, 3, 0, 0), (2, 0, 3, 0, 0), (3, 0, 2, 0, 0), (4, 3, 3, 35, 0), (7, 0, 3, 0, 0), (8, 0, 1, 2, 0), (9, 18, 0, 0, 0), (10, 3, 3, 35, 0), (13, 0, 1, 2, 0), (14, 0, 3, 0, 0), (15, 6, 2, 0, 0), (16, 0, 0, 2, 0), (17, 1, 12, 4, 0), (20, 1, 110, 7, 7), (23, 30, 0, 0, 0), (24, 4, 1, 29, 0), (27, 0, 3, 0, 0), (28, 10, 0, 1, 0), (29, 7, 3, 1, 0), (32, 5, 0, 2, 0), (35, 2, 0, 32767, 4294967295), (36, 10, 0, 1, 0)], 3, 0, 0, 6, 4)
def fm_286 : fx_M := ([(0, 0, 0, 2, 0), (1, 2, 6, 179, 1717658469), (4, 9, 0, 263, 250), (7, 4, 0, 13, 0), (10, 2, 1, 32870, 102), (12, 10, 0, 1, 0), (13, 0, 0, 2, 0), (14, 2, 6, 195, 1852137842), (17, 9, 0, 263, 250), (20, 4, 0, 26, 0), (23, 2, 1, 32865, 97), (25, 10, 0, 1, 0), (26, 0, 0, 2, 0), (27, 2, 6, 197, 108187867505765), (30, 9, 0, 263, 250), (33, 4, 0, 39, 0), (36, 2, 1, 32866, 98), (38, 10, 0, 1, 0), (39, 0, 0, 2, 0), (40, 2, 6, 199, 108243534178420), (43, 9, 0, 263, 250), (46, 4, 0, 52, 0), (49, 2, 1, 32876, 108), (51, 10, 0, 1, 0), (52, 0, 0, 2, 0), (53, 2, 6, 181, 495874697571), (56, 9, 0, 263, 250), (59, 4, 0, 65, 0), (62, 2, 1, 32883, 115), (64, 10, 0, 1, 0), (65, 0, 0, 2, 0), (66, 2, 6, 201, 1852143475), (69, 9, 0, 263, 250), (72, 4, 0, 78, 0), (75, 2, 1, 32887, 119), (77, 10, 0, 1, 0), (78, 0, 0, 2, 0), (79, 2, 6, 203, 1937007984), (82, 9, 0, 263, 250), (85, 4, 0, 91, 0), (88, 2, 1, 32884, 116), (90, 10, 0, 1, 0), (91, 0, 0, 2, 0), (92, 2, 6, 205, 7499639), (95, 9, 0, 263, 250), (98, 4, 0, 104, 0), (101, 2, 1, 32882, 114), (103, 10, 0, 1, 0), (104, 0, 0, 2, 0), (105, 2, 6, 207, 109330212154734), (108, 9, 0, 263, 250), (111, 4, 0, 119, 0), (114, 2, 1, 32867, 99), (116, 5, 0, 120, 0), (119, 2, 0, 32768, 0), (120, 10, 0, 1, 0)], 1, 0, 0, 12, 1)
def fm_287 : fx_M := ([(0, 0, 0, 2, 0), (1, 1, 86, 10, 32), (4, 0, 0, 2, 0), (5, 1, 277, 10, 39), (8, 0, 1, 0, 0), (9, 8, 0, 0, 0), (10, 0, 0, 2, 0), (11, 1, 89, 10, 33), (14, 0, 0, 2, 0), (15, 1, 277, 10, 39), (18, 0, 2, 0, 0), (19, 8, 0, 0, 0), (20, 0, 0, 2, 0), (21, 15, 0, 0, 0), (22, 1, 277, 10, 39), (25, 2, 0, 32769, 1), (26, 12, 0, 0, 0), (27, 14, 277, 10, 312), (30, 10, 1, 0, 0)], 3, 0, 0, 12, 3)
def fm_288 : fx_M := ([(0, 0, 0, 2, 0), (1, 2, 6, 211, 6385252), (4, 9, 0, 263, 250), (7, 4, 0, 12, 0), (10, 2, 0, 32770, 2), (11, 10, 0, 1, 0), (12, 0, 0, 2, 0), (13, 2, 6, 209, 28530), (16, 9, 0, 263, 250), (19, 4, 0, 24, 0), (22, 2, 0, 32769, 1), (23, 10, 0, 1, 0), (24, 0, 0, 2, 0), (25, 2, 1, 32828, 60), (27, 9, 0, 306, 225), (30, 4, 1, 51, 0), (33, 0, 0, 2, 0), (34, 2, 1, 32830, 62), (36, 9, 0, 306, 225), (39, 4, 1, 51, 0), (42, 0, 0, 2, 0), (43, 2, 1, 32829, 61), (45, 9, 0, 306, 225), (48, 4, 0, 53, 0), (51, 2, 0, 32772, 4), (52, 10, 0, 1, 0), (53, 0, 0, 2, 0), (54, 2, 1, 32811, 43), (56, 9, 0, 306, 225), (59, 4, 1, 71, 0), (62, 0, 0, 2, 0), (63, 2, 1, 32813, 45), (65, 9, 0, 306, 225), (68, 4, 0, 73, 0), (71, 2, 0, 32773, 5), (72, 10, 0, 1, 0), (73, 0, 0, 2, 0), (74, 2, 1, 32810, 42), (76, 9, 0, 306, 225), (79, 4, 1, 100, 0), (82, 0, 0, 2, 0), (83, 2, 1, 32815, 47), (85, 9, 0, 306, 225), (88, 4, 1, 100, 0), (91, 0, 0, 2, 0), (92, 2, 1, 32805, 37), (94, 9, 0, 306, 225), (97, 4, 0, 105, 0), (100, 2, 1, 32774, 6), (102, 5, 0, 106, 0), (105, 2, 0, 32768, 0), (106, 10, 0, 1, 0)], 1, 0, 0, 12, 1)
def fm_289 : fx_M := ([(0, 0, 0, 2, 0), (1, 1, 336, 10, 41), (4, 2, 0, 32769, 1), (5, 12, 1, 0, 0), (6, 11, 1, 0, 0), (7, 0, 0, 2, 0), (8, 1, 92, 10, 34), (11, 0, 1, 0, 0), (12, 6, 0, 0, 0), (13, 2, 0, 32773, 5), (14, 3, 0, 28, 0), (17, 0, 0, 2, 0), (18, 1, 92, 10, 34), (21, 0, 1, 0, 0), (22, 6, 0, 0, 0), (23, 2, 1, 32774, 6), (25, 3, 1, 34, 0), (28, 7, 1, 4294967295, 0), (31, 5, 0, 7, 0), (34, 0, 0, 2, 0), (35, 1, 92, 10, 34), (38, 0, 1, 0, 0), (39, 6, 0, 0, 0), (40, 2, 0, 32772, 4), (41, 3, 1, 48, 0), (44, 2, 0, 32769, 1), (45, 5, 0, 49, 0), (48, 2, 0, 32768, 0), (49, 10, 0, 2, 0)], 1, 0, 0, 12, 2)
def fm_290 : fx_M := ([(0, 0, 1, 0, 0), (1, 9, 2, 88, 291), (4, 4, 1, 9, 0), (9, 0, 2, 0, 0), (10, 2, 0, 32768, 0), (11, 29, 92, 0, 0), (14, 11, 2, 0, 0), (15, 0, 3, 0, 0), (16, 0, 0, 2, 0), (17, 18, 0, 0, 0), (18, 29, 38, 1, 0), (21, 11, 3, 0, 0), (22, 0, 2, 0, 0), (23, 0, 3, 0, 0), (24, 3, 2, 29, 0), (29, 0, 0, 2, 0), (30, 0, 1, 0, 0), (31, 0, 2, 0, 0), (32, 0, 3, 0, 0), (33, 9, 2, 95, 292), (36, 10, 0, 1, 0)], 4, 0, 0, 0, 4)
def fm_291 : fx_M := ([(0, 0, 0, 0, 0), (1, 4, 2, 15, 0), (4, 0, 0, 0, 0), (5, 2, 2, 33023, 255), (8, 3, 4, 15, 0), (11, 2, 0, 32769, 1), (12, 5, 0, 16, 0), (16, 10, 0, 2, 0)], 1, 0, 0, 0, 1)
def fm_292 : fx_M := ([(0, 0, 1, 0, 0), (1, 13, 1, 0, 0), (2, 11, 4, 1, 0), (4, 0, 2, 0, 0), (5, 11, 5, 1, 0), (7, 0, 5, 1, 0), (9, 0, 3, 0, 0), (10, 3, 3, 31, 0), (13, 0, 0, 2, 0), (14, 0, 5, 1, 0), (16, 6, 1, 0, 0), (17, 0, 4, 1, 0), (19, 3, 1, 25, 0), (22, 0, 5, 1, 0), (24, 10, 0, 1, 0), (25, 7, 5, 1, 0), (28, 5, 0, 7, 0), (31, 2, 0, 32767, 4294967295), (32, 10, 0, 1, 0)], 4, 0, 0, 0, 6)
def fx_mtl : List (List fx_M) := [[fm_0, fm_1, fm_2, fm_3, fm_4, fm_5, fm_6, fm_7, fm_8, fm_9, fm_10, fm_11, fm_12, fm_13, fm_14, fm_15], [fm_16, fm_17, fm_18, fm_19, fm_20, fm_21, fm_22, fm_23, fm_24, fm_25, fm_26, fm_27, fm_28, fm_29, fm_30, fm_31], [fm_32, fm_33, fm_34, fm_35, fm_36, fm_37, fm_38, fm_39, fm_40, fm_41, fm_42, fm_43, fm_44, fm_45, fm_46, fm_47], [fm_48, fm_49, fm_50, fm_51, fm_52, fm_53, fm_54, fm_55, fm_56, fm_57, fm_58, fm_59, fm_60, fm_61, fm_62, fm_63], [fm_64, fm_65, fm_66, fm_67, fm_68, fm_69, fm_70, fm_71, fm_72, fm_73, fm_74, fm_75, fm_76, fm_77, fm_78, fm_79], [fm_80, fm_81, fm_82, fm_83, fm_84, fm_85, fm_86, fm_87, fm_88, fm_89, fm_90, fm_91, fm_92, fm_93, fm_94, fm_95], [fm_96, fm_97, fm_98, fm_99, fm_100, fm_101, fm_102, fm_103, fm_104, fm_105, fm_106, fm_107, fm_108, fm_109, fm_110, fm_111], [fm_112, fm_113, fm_114, fm_115, fm_116, fm_117, fm_118, fm_119, fm_120, fm_121, fm_122, fm_123, fm_124, fm_125, fm_126, fm_127], [fm_128, fm_129, fm_130, fm_131, fm_132, fm_133, fm_134, fm_135, fm_136, fm_137, fm_138, fm_139, fm_140, fm_141, fm_142, fm_143], [fm_144, fm_145, fm_146, fm_147, fm_148, fm_149, fm_150, fm_151, fm_152, fm_153, fm_154, fm_155, fm_156, fm_157, fm_158, fm_159], [fm_160, fm_161, fm_162, fm_163, fm_164, fm_165, fm_166, fm_167, fm_168, fm_169, fm_170, fm_171, fm_172, fm_173, fm_174, fm_175], [fm_176, fm_177, fm_178, fm_179, fm_180, fm_181, fm_182, fm_183, fm_184, fm_185, fm_186, fm_187, fm_188, fm_189, fm_190, fm_191], [fm_192, fm_193, fm_194, fm_195, fm_196, fm_197, fm_198, fm_199, fm_200, fm_201, fm_202, fm_203, fm_204, fm_205, fm_206, fm_207], [fm_208, fm_209, fm_210, fm_211, fm_212, fm_213, fm_214, fm_215, fm_216, fm_217, fm_218, fm_219, fm_220, fm_221, fm_222, fm_223], [fm_224, fm_225, fm_226, fm_227, fm_228, fm_229, fm_230, fm_231, fm_232, fm_233, fm_234, fm_235, fm_236, fm_237, fm_238, fm_239], [fm_240, fm_241, fm_242, fm_243, fm_244, fm_245, fm_246, fm_247, fm_248, fm_249, fm_250, fm_251, fm_252, fm_253, fm_254, fm_255], [fm_256, fm_257, fm_258, fm_259, fm_260, fm_261, fm_262, fm_263, fm_264, fm_265, fm_266, fm_267, fm_268, fm_269, fm_270, fm_271], [fm_272, fm_273, fm_274, fm_275, fm_276, fm_277, fm_278, fm_279, fm_280, fm_281, fm_282, fm_283, fm_284, fm_285, fm_286, fm_287], [fm_288, fm_289, fm_290, fm_291, fm_292]]
noncomputable def fx_mt (c : Nat) : Option fx_M := match fx_nth fx_mtl (c / 16) with
  | none => none
  | some r => fx_nth r (c % 16)
def fx_swl : List (List Nat) := [[228, 291, 314, 327, 350, 383, 416, 449, 462, 475, 488, 511, 544, 577, 600, 613, 626, 659, 692, 715, 748, 761, 794, 817, 830, 863, 886, 899, 922, 965, 978, 1011, 1044, 1067, 1100, 1123, 1136, 1159, 1228, 1251, 1274, 1297, 1340, 1363, 1386], [28, 33], [68, 78, 88, 98, 108, 118, 135], [56, 65, 75, 90, 105, 111, 121], [48, 58, 67, 83], [52, 66, 72, 82], [40, 49], [40, 46], [120, 122, 124], [132, 134, 136], [72, 80, 88, 96, 104, 112, 120, 128, 136, 144, 152, 157, 168, 190], [72, 77, 87, 97, 107, 115, 123, 131, 136, 141, 146, 151, 156, 166], [68, 194, 84, 194, 89, 194, 194, 94, 139, 184, 194, 189], [60, 74, 157, 88, 99, 110, 121, 125, 129, 133, 145], [113, 118, 172, 198, 198, 108, 198, 198, 198, 198, 198, 123, 198, 198, 198, 198, 198, 146, 128, 138, 198, 198, 133], [144, 189, 203, 203, 203, 128, 120, 203, 124, 203, 132, 203, 203, 203, 203, 203, 203, 203, 203, 203, 203, 203, 203, 156, 178, 167], [36, 50, 64, 99, 123]]
noncomputable def fx_swt (c : Nat) : List Nat := match fx_nth fx_swl c with
  | none => []
  | some r => r
def fx_cdl : List (List fx_V) := [[fz, fc 0, fc 0], [fz, fz, fc 0, fc 0], [fz, fz, fz, fz, fz, fz, fc 0], [fz, fz, fz, fz, fz, fz, fz, fz, fz, fc 0, fc 0, fc 0, fc 0, fc 0, fc 0, fc 0, fc 0, fc 0], [fz, fz, fc 0, fc 0], [fc 0, fz, fz], [fz, fz, fc 0, fc 0, fc 0], [fz, fz, fc 0, fc 0, fc 0, fc 0, fc 0, fl 0], [fz, fz, fz, fz, fz, fz, fz, fz, fz, fz, fz], [fz, fz, fz, fz, fz, fz, fz, fz, fz, fz, fz, fc 0, fc 0, fc 0, fc 0, fc 0], [fz, fz, fc 0, fc 0, fc 0, fc 0, fc 0, fc 0, fc 0, fc 0, fl 0, fz, fz, fz, fz, fz, fz, fz, fz, fz, fz, fz, fz, fz, fz, fz, fz, fz, fz, fz, fz, fz, fz, fz, fz, fz, fz, fc 0, fc 0, fc 0, fc 0, fc 0, fc 0, fc 0, fc 0, fc 0, fc 0, fc 0, fc 0, fc 0, fz, fz, fz, fc 0, fc 0, fz, fz, fc 0, fz, fz, fz, fz, fz, fz, fz, fz, fz, fz, fz, fc 0, fc 0, fz, fz]]
def fw_new : List fx_I := [(0, 16, 7, 9, 0), (3, 15, 0, 0, 0), (4, 9, 1, 9, 0), (7, 11, 1, 2, 0), (8, 16, 10, 10, 0), (11, 15, 0, 0, 0), (12, 9, 1, 12, 23), (15, 11, 2, 2, 0), (16, 2, 0, 32768, 0), (17, 11, 3, 0, 0), (18, 28, 0, 0, 0)]
def fw_law : List fx_I := [(0, 16, 7, 9, 0), (3, 15, 0, 0, 0), (4, 9, 1, 9, 0), (7, 11, 1, 2, 0), (8, 16, 10, 10, 0), (11, 15, 0, 0, 0), (12, 9, 1, 12, 23), (15, 11, 2, 2, 0), (16, 2, 0, 32768, 0), (17, 11, 3, 0, 0), (18, 0, 3, 0, 0), (19, 0, 0, 2, 0), (20, 18, 0, 0, 0), (21, 2, 1, 32774, 6), (23, 12, 1, 0, 0), (24, 3, 4, 1415, 0), (27, 0, 0, 2, 0), (28, 0, 3, 0, 0), (29, 6, 0, 0, 0), (30, 2, 1, 32831, 63), (32, 12, 5, 0, 0), (33, 20, 1409, 0, 0), (228, 0, 1, 2, 0), (229, 0, 0, 2, 0), (230, 0, 3, 0, 0), (231, 2, 0, 32769, 1), (232, 12, 0, 0, 0), (233, 6, 0, 0, 0), (234, 0, 0, 2, 0), (235, 0, 3, 0, 0), (236, 2, 0, 32770, 2), (237, 12, 0, 0, 0), (238, 6, 0, 0, 0), (239, 0, 0, 2, 0), (240, 0, 3, 0, 0), (241, 2, 0, 32771, 3), (242, 12, 0, 0, 0), (243, 6, 0, 0, 0), (244, 0, 0, 2, 0), (245, 0, 3, 0, 0), (246, 2, 0, 32772, 4), (247, 12, 0, 0, 0), (248, 6, 0, 0, 0), (249, 0, 0, 2, 0), (250, 0, 3, 0, 0), (251, 2, 0, 32773, 5), (252, 12, 0, 0, 0), (253, 6, 0, 0, 0), (254, 9, 0, 13, 27), (257, 15, 1, 0, 0), (258, 0, 2, 2, 0), (259, 0, 0, 2, 0), (260, 0, 3, 0, 0), (261, 2, 0, 32769, 1), (262, 12, 0, 0, 0), (263, 6, 0, 0, 0), (264, 0, 0, 2, 0), (265, 0, 3, 0, 0), (266, 2, 0, 32770, 2), (267, 12, 0, 0, 0), (268, 6, 0, 0, 0), (269, 0, 0, 2, 0), (270, 0, 3, 0, 0), (271, 2, 0, 32771, 3), (272, 12, 0, 0, 0), (273, 6, 0, 0, 0), (274, 0, 0, 2, 0), (275, 0, 3, 0, 0), (276, 2, 0, 32772, 4), (277, 12, 0, 0, 0), (278, 6, 0, 0, 0), (279, 0, 0, 2, 0), (280, 0, 3, 0, 0), (281, 2, 0, 32773, 5), (282, 12, 0, 0, 0), (283, 6, 0, 0, 0), (284, 9, 0, 17, 28), (287, 15, 1, 0, 0), (288, 5, 0, 1409, 0), (291, 0, 1, 2, 0), (292, 0, 0, 2, 0), (293, 0, 3, 0, 0), (294, 2, 0, 32769, 1), (295, 12, 0, 0, 0), (296, 6, 0, 0, 0), (297, 9, 0, 18, 29), (300, 15, 1, 0, 0), (301, 0, 2, 2, 0), (302, 0, 0, 2, 0), (303, 0, 3, 0, 0), (304, 2, 0, 32769, 1), (305, 12, 0, 0, 0), (306, 6, 0, 0, 0), (307, 9, 0, 22, 30), (310, 15, 1, 0, 0), (311, 5, 0, 1409, 0), (314, 0, 1, 2, 0), (315, 9, 0, 23, 31), (318, 15, 1, 0, 0), (319, 0, 2, 2, 0), (320, 9, 0, 27, 32), (323, 15, 1, 0, 0), (324, 5, 0, 1409, 0), (327, 0, 1, 2, 0), (328, 0, 0, 2, 0), (329, 0, 3, 0, 0), (330, 2, 0, 32769, 1), (331, 12, 0, 0, 0), (332, 6, 0, 0, 0), (333, 9, 0, 28, 33), (336, 15, 1, 0, 0), (337, 0, 2, 2, 0), (338, 0, 0, 2, 0), (339, 0, 3, 0, 0), (340, 2, 0, 32769, 1), (341, 12, 0, 0, 0), (342, 6, 0, 0, 0), (343, 9, 0, 31, 34), (346, 15, 1, 0, 0), (347, 5, 0, 1409, 0), (350, 0, 1, 2, 0), (351, 0, 0, 2, 0), (352, 0, 3, 0, 0), (353, 2, 0, 32769, 1), (354, 12, 0, 0, 0), (355, 6, 0, 0, 0), (356, 0, 0, 2, 0), (357, 0, 3, 0, 0), (358, 2, 0, 32770, 2), (359, 12, 0, 0, 0), (360, 6, 0, 0, 0), (361, 9, 0, 32, 35), (364, 15, 1, 0, 0), (365, 0, 2, 2, 0), (366, 0, 0, 2, 0), (367, 0, 3, 0, 0), (368, 2, 0, 32769, 1), (369, 12, 0, 0, 0), (370, 6, 0, 0, 0), (371, 0, 0, 2, 0), (372, 0, 3, 0, 0), (373, 2, 0, 32770, 2), (374, 12, 0, 0, 0), (375, 6, 0, 0, 0), (376, 9, 0, 36, 36), (379, 15, 1, 0, 0), (380, 5, 0, 1409, 0), (383, 0, 1, 2, 0), (384, 0, 0, 2, 0), (385, 0, 3, 0, 0), (386, 2, 0, 32769, 1), (387, 12, 0, 0, 0), (388, 6, 0, 0, 0), (389, 0, 0, 2, 0), (390, 0, 3, 0, 0), (391, 2, 0, 32770, 2), (392, 12, 0, 0, 0), (393, 6, 0, 0, 0), (394, 9, 0, 37, 37), (397, 15, 1, 0, 0), (398, 0, 2, 2, 0), (399, 0, 0, 2, 0), (400, 0, 3, 0, 0), (401, 2, 0, 32769, 1), (402, 12, 0, 0, 0), (403, 6, 0, 0, 0), (404, 0, 0, 2, 0), (405, 0, 3, 0, 0), (406, 2, 0, 32770, 2), (407, 12, 0, 0, 0), (408, 6, 0, 0, 0), (409, 9, 0, 40, 38), (412, 15, 1, 0, 0), (413, 5, 0, 1409, 0), (416, 0, 1, 2, 0), (417, 0, 0, 2, 0), (418, 0, 3, 0, 0), (419, 2, 0, 32769, 1), (420, 12, 0, 0, 0), (421, 6, 0, 0, 0), (422, 0, 0, 2, 0), (423, 0, 3, 0, 0), (424, 2, 0, 32770, 2), (425, 12, 0, 0, 0), (426, 6, 0, 0, 0), (427, 9, 0, 41, 39), (430, 15, 1, 0, 0), (431, 0, 2, 2, 0), (432, 0, 0, 2, 0), (433, 0, 3, 0, 0), (434, 2, 0, 32769, 1), (435, 12, 0, 0, 0), (436, 6, 0, 0, 0), (437, 0, 0, 2, 0), (438, 0, 3, 0, 0), (439, 2, 0, 32770, 2), (440, 12, 0, 0, 0), (441, 6, 0, 0, 0), (442, 9, 0, 44, 40), (445, 15, 1, 0, 0), (446, 5, 0, 1409, 0), (449, 0, 1, 2, 0), (450, 9, 0, 45, 41), (453, 15, 1, 0, 0), (454, 0, 2, 2, 0), (455, 9, 0, 48, 42), (458, 15, 1, 0, 0), (459, 5, 0, 1409, 0), (462, 0, 1, 2, 0), (463, 9, 0, 49, 43), (466, 15, 1, 0, 0), (467, 0, 2, 2, 0), (468, 9, 0, 52, 44), (471, 15, 1, 0, 0), (472, 5, 0, 1409, 0), (475, 0, 1, 2, 0), (476, 9, 0, 53, 45), (479, 15, 1, 0, 0), (480, 0, 2, 2, 0), (481, 9, 0, 56, 46), (484, 15, 1, 0, 0), (485, 5, 0, 1409, 0), (488, 0, 1, 2, 0), (489, 0, 0, 2, 0), (490, 0, 3, 0, 0), (491, 2, 0, 32769, 1), (492, 12, 0, 0, 0), (493, 6, 0, 0, 0), (494, 9, 0, 57, 47), (497, 15, 1, 0, 0), (498, 0, 2, 2, 0), (499, 0, 0, 2, 0), (500, 0, 3, 0, 0), (501, 2, 0, 32769, 1), (502, 12, 0, 0, 0), (503, 6, 0, 0, 0), (504, 9, 0, 60, 48), (507, 15, 1, 0, 0), (508, 5, 0, 1409, 0), (511, 0, 1, 2, 0), (512, 0, 0, 2, 0), (513, 0, 3, 0, 0), (514, 2, 0, 32769, 1), (515, 12, 0, 0, 0), (516, 6, 0, 0, 0), (517, 0, 0, 2, 0), (518, 0, 3, 0, 0), (519, 2, 0, 32770, 2), (520, 12, 0, 0, 0), (521, 6, 0, 0, 0), (522, 9, 0, 61, 49), (525, 15, 1, 0, 0), (526, 0, 2, 2, 0), (527, 0, 0, 2, 0), (528, 0, 3, 0, 0), (529, 2, 0, 32769, 1), (530, 12, 0, 0, 0), (531, 6, 0, 0, 0), (532, 0, 0, 2, 0), (533, 0, 3, 0, 0), (534, 2, 0, 32770, 2), (535, 12, 0, 0, 0), (536, 6, 0, 0, 0), (537, 9, 0, 64, 50), (540, 15, 1, 0, 0), (541, 5, 0, 1409, 0), (544, 0, 1, 2, 0), (545, 0, 0, 2, 0), (546, 0, 3, 0, 0), (547, 2, 0, 32769, 1), (548, 12, 0, 0, 0), (549, 6, 0, 0, 0), (550, 0, 0, 2, 0), (551, 0, 3, 0, 0), (552, 2, 0, 32770, 2), (553, 12, 0, 0, 0), (554, 6, 0, 0, 0), (555, 9, 0, 65, 51), (558, 15, 1, 0, 0), (559, 0, 2, 2, 0), (560, 0, 0, 2, 0), (561, 0, 3, 0, 0), (562, 2, 0, 32769, 1), (563, 12, 0, 0, 0), (564, 6, 0, 0, 0), (565, 0, 0, 2, 0), (566, 0, 3, 0, 0), (567, 2, 0, 32770, 2), (568, 12, 0, 0, 0), (569, 6, 0, 0, 0), (570, 9, 0, 69, 52), (573, 15, 1, 0, 0), (574, 5, 0, 1409, 0), (577, 0, 1, 2, 0), (578, 0, 0, 2, 0), (579, 0, 3, 0, 0), (580, 2, 0, 32769, 1), (581, 12, 0, 0, 0), (582, 6, 0, 0, 0), (583, 9, 0, 70, 53), (586, 15, 1, 0, 0), (587, 0, 2, 2, 0), (588, 0, 0, 2, 0), (589, 0, 3, 0, 0), (590, 2, 0, 32769, 1), (591, 12, 0, 0, 0), (592, 6, 0, 0, 0), (593, 9, 0, 73, 54), (596, 15, 1, 0, 0), (597, 5, 0, 1409, 0), (600, 0, 1, 2, 0), (601, 9, 0, 74, 55), (604, 15, 1, 0, 0), (605, 0, 2, 2, 0), (606, 9, 0, 78, 56), (609, 15, 1, 0, 0), (610, 5, 0, 1409, 0), (613, 0, 1, 2, 0), (614, 9, 0, 79, 57), (617, 15, 1, 0, 0), (618, 0, 2, 2, 0), (619, 9, 0, 82, 58), (622, 15, 1, 0, 0), (623, 5, 0, 1409, 0), (626, 0, 1, 2, 0), (627, 0, 0, 2, 0), (628, 0, 3, 0, 0), (629, 2, 0, 32769, 1), (630, 12, 0, 0, 0), (631, 6, 0, 0, 0), (632, 0, 0, 2, 0), (633, 0, 3, 0, 0), (634, 2, 0, 32770, 2), (635, 12, 0, 0, 0), (636, 6, 0, 0, 0), (637, 9, 0, 83, 59), (640, 15, 1, 0, 0), (641, 0, 2, 2, 0), (642, 0, 0, 2, 0), (643, 0, 3, 0, 0), (644, 2, 0, 32769, 1), (645, 12, 0, 0, 0), (646, 6, 0, 0, 0), (647, 0, 0, 2, 0), (648, 0, 3, 0, 0), (649, 2, 0, 32770, 2), (650, 12, 0, 0, 0), (651, 6, 0, 0, 0), (652, 9, 0, 86, 60), (655, 15, 1, 0, 0), (656, 5, 0, 1409, 0), (659, 0, 1, 2, 0), (660, 0, 0, 2, 0), (661, 0, 3, 0, 0), (662, 2, 0, 32769, 1), (663, 12, 0, 0, 0), (664, 6, 0, 0, 0), (665, 0, 0, 2, 0), (666, 0, 3, 0, 0), (667, 2, 0, 32770, 2), (668, 12, 0, 0, 0), (669, 6, 0, 0, 0), (670, 9, 0, 87, 61), (673, 15, 1, 0, 0), (674, 0, 2, 2, 0), (675, 0, 0, 2, 0), (676, 0, 3, 0, 0), (677, 2, 0, 32769, 1), (678, 12, 0, 0, 0), (679, 6, 0, 0, 0), (680, 0, 0, 2, 0), (681, 0, 3, 0, 0), (682, 2, 0, 32770, 2), (683, 12, 0, 0, 0), (684, 6, 0, 0, 0), (685, 9, 0, 90, 62), (688, 15, 1, 0, 0), (689, 5, 0, 1409, 0), (692, 0, 1, 2, 0), (693, 0, 0, 2, 0), (694, 0, 3, 0, 0), (695, 2, 0, 32769, 1), (696, 12, 0, 0, 0), (697, 6, 0, 0, 0), (698, 9, 0, 91, 63), (701, 15, 1, 0, 0), (702, 0, 2, 2, 0), (703, 0, 0, 2, 0), (704, 0, 3, 0, 0), (705, 2, 0, 32769, 1), (706, 12, 0, 0, 0), (707, 6, 0, 0, 0), (708, 9, 0, 94, 64), (711, 15, 1, 0, 0), (712, 5, 0, 1409, 0), (715, 0, 1, 2, 0), (716, 0, 0, 2, 0), (717, 0, 3, 0, 0), (718, 2, 0, 32769, 1), (719, 12, 0, 0, 0), (720, 6, 0, 0, 0), (721, 0, 0, 2, 0), (722, 0, 3, 0, 0), (723, 2, 0, 32770, 2), (724, 12, 0, 0, 0), (725, 6, 0, 0, 0), (726, 9, 0, 95, 65), (729, 15, 1, 0, 0), (730, 0, 2, 2, 0), (731, 0, 0, 2, 0), (732, 0, 3, 0, 0), (733, 2, 0, 32769, 1), (734, 12, 0, 0, 0), (735, 6, 0, 0, 0), (736, 0, 0, 2, 0), (737, 0, 3, 0, 0), (738, 2, 0, 32770, 2), (739, 12, 0, 0, 0), (740, 6, 0, 0, 0), (741, 9, 0, 98, 66), (744, 15, 1, 0, 0), (745, 5, 0, 1409, 0), (748, 0, 1, 2, 0), (749, 9, 0, 99, 67), (752, 15, 1, 0, 0), (753, 0, 2, 2, 0), (754, 9, 0, 102, 68), (757, 15, 1, 0, 0), (758, 5, 0, 1409, 0), (761, 0, 1, 2, 0), (762, 0, 0, 2, 0), (763, 0, 3, 0, 0), (764, 2, 0, 32769, 1), (765, 12, 0, 0, 0), (766, 6, 0, 0, 0), (767, 0, 0, 2, 0), (768, 0, 3, 0, 0), (769, 2, 0, 32770, 2), (770, 12, 0, 0, 0), (771, 6, 0, 0, 0), (772, 9, 0, 103, 69), (775, 15, 1, 0, 0), (776, 0, 2, 2, 0), (777, 0, 0, 2, 0), (778, 0, 3, 0, 0), (779, 2, 0, 32769, 1), (780, 12, 0, 0, 0), (781, 6, 0, 0, 0), (782, 0, 0, 2, 0), (783, 0, 3, 0, 0), (784, 2, 0, 32770, 2), (785, 12, 0, 0, 0), (786, 6, 0, 0, 0), (787, 9, 0, 106, 70), (790, 15, 1, 0, 0), (791, 5, 0, 1409, 0), (794, 0, 1, 2, 0), (795, 0, 0, 2, 0), (796, 0, 3, 0, 0), (797, 2, 0, 32769, 1), (798, 12, 0, 0, 0), (799, 6, 0, 0, 0), (800, 9, 0, 107, 71), (803, 15, 1, 0, 0), (804, 0, 2, 2, 0), (805, 0, 0, 2, 0), (806, 0, 3, 0, 0), (807, 2, 0, 32769, 1), (808, 12, 0, 0, 0), (809, 6, 0, 0, 0), (810, 9, 0, 110, 72), (813, 15, 1, 0, 0), (814, 5, 0, 1409, 0), (817, 0, 1, 2, 0), (818, 9, 0, 111, 73), (821, 15, 1, 0, 0), (822, 0, 2, 2, 0), (823, 9, 0, 114, 74), (826, 15, 1, 0, 0), (827, 5, 0, 1409, 0), (830, 0, 1, 2, 0), (831, 0, 0, 2, 0), (832, 0, 3, 0, 0), (833, 2, 0, 32769, 1), (834, 12, 0, 0, 0), (835, 6, 0, 0, 0), (836, 0, 0, 2, 0), (837, 0, 3, 0, 0), (838, 2, 0, 32770, 2), (839, 12, 0, 0, 0), (840, 6, 0, 0, 0), (841, 9, 0, 115, 75), (844, 15, 1, 0, 0), (845, 0, 2, 2, 0), (846, 0, 0, 2, 0), (847, 0, 3, 0, 0), (848, 2, 0, 32769, 1), (849, 12, 0, 0, 0), (850, 6, 0, 0, 0), (851, 0, 0, 2, 0), (852, 0, 3, 0, 0), (853, 2, 0, 32770, 2), (854, 12, 0, 0, 0), (855, 6, 0, 0, 0), (856, 9, 0, 118, 76), (859, 15, 1, 0, 0), (860, 5, 0, 1409, 0), (863, 0, 1, 2, 0), (864, 0, 0, 2, 0), (865, 0, 3, 0, 0), (866, 2, 0, 32769, 1), (867, 12, 0, 0, 0), (868, 6, 0, 0, 0), (869, 9, 0, 119, 77), (872, 15, 1, 0, 0), (873, 0, 2, 2, 0), (874, 0, 0, 2, 0), (875, 0, 3, 0, 0), (876, 2, 0, 32769, 1), (877, 12, 0, 0, 0), (878, 6, 0, 0, 0), (879, 9, 0, 122, 78), (882, 15, 1, 0, 0), (883, 5, 0, 1409, 0), (886, 0, 1, 2, 0), (887, 9, 0, 123, 79), (890, 15, 1, 0, 0), (891, 0, 2, 2, 0), (892, 9, 0, 126, 80), (895, 15, 1, 0, 0), (896, 5, 0, 1409, 0), (899, 0, 1, 2, 0), (900, 0, 0, 2, 0), (901, 0, 3, 0, 0), (902, 2, 0, 32769, 1), (903, 12, 0, 0, 0), (904, 6, 0, 0, 0), (905, 9, 0, 127, 81), (908, 15, 1, 0, 0), (909, 0, 2, 2, 0), (910, 0, 0, 2, 0), (911, 0, 3, 0, 0), (912, 2, 0, 32769, 1), (913, 12, 0, 0, 0), (914, 6, 0, 0, 0), (915, 9, 0, 130, 82), (918, 15, 1, 0, 0), (919, 5, 0, 1409, 0), (922, 0, 1, 2, 0), (923, 0, 0, 2, 0), (924, 0, 3, 0, 0), (925, 2, 0, 32769, 1), (926, 12, 0, 0, 0), (927, 6, 0, 0, 0), (928, 0, 0, 2, 0), (929, 0, 3, 0, 0), (930, 2, 0, 32770, 2), (931, 12, 0, 0, 0), (932, 6, 0, 0, 0), (933, 0, 0, 2, 0), (934, 0, 3, 0, 0), (935, 2, 0, 32771, 3), (936, 12, 0, 0, 0), (937, 6, 0, 0, 0), (938, 9, 0, 131, 83), (941, 15, 1, 0, 0), (942, 0, 2, 2, 0), (943, 0, 0, 2, 0), (944, 0, 3, 0, 0), (945, 2, 0, 32769, 1), (946, 12, 0, 0, 0), (947, 6, 0, 0, 0), (948, 0, 0, 2, 0), (949, 0, 3, 0, 0), (950, 2, 0, 32770, 2), (951, 12, 0, 0, 0), (952, 6, 0, 0, 0), (953, 0, 0, 2, 0), (954, 0, 3, 0, 0), (955, 2, 0, 32771, 3), (956, 12, 0, 0, 0), (957, 6, 0, 0, 0), (958, 9, 0, 135, 84), (961, 15, 1, 0, 0), (962, 5, 0, 1409, 0), (965, 0, 1, 2, 0), (966, 9, 0, 136, 85), (969, 15, 1, 0, 0), (970, 0, 2, 2, 0), (971, 9, 0, 139, 86), (974, 15, 1, 0, 0), (975, 5, 0, 1409, 0), (978, 0, 1, 2, 0), (979, 0, 0, 2, 0), (980, 0, 3, 0, 0), (981, 2, 0, 32769, 1), (982, 12, 0, 0, 0), (983, 6, 0, 0, 0), (984, 0, 0, 2, 0), (985, 0, 3, 0, 0), (986, 2, 0, 32770, 2), (987, 12, 0, 0, 0), (988, 6, 0, 0, 0), (989, 9, 0, 140, 87), (992, 15, 1, 0, 0), (993, 0, 2, 2, 0), (994, 0, 0, 2, 0), (995, 0, 3, 0, 0), (996, 2, 0, 32769, 1), (997, 12, 0, 0, 0), (998, 6, 0, 0, 0), (999, 0, 0, 2, 0), (1000, 0, 3, 0, 0), (1001, 2, 0, 32770, 2), (1002, 12, 0, 0, 0), (1003, 6, 0, 0, 0), (1004, 9, 0, 143, 88), (1007, 15, 1, 0, 0), (1008, 5, 0, 1409, 0), (1011, 0, 1, 2, 0), (1012, 0, 0, 2, 0), (1013, 0, 3, 0, 0), (1014, 2, 0, 32769, 1), (1015, 12, 0, 0, 0), (1016, 6, 0, 0, 0), (1017, 0, 0, 2, 0), (1018, 0, 3, 0, 0), (1019, 2, 0, 32770, 2), (1020, 12, 0, 0, 0), (1021, 6, 0, 0, 0), (1022, 9, 0, 144, 89), (1025, 15, 1, 0, 0), (1026, 0, 2, 2, 0), (1027, 0, 0, 2, 0), (1028, 0, 3, 0, 0), (1029, 2, 0, 32769, 1), (1030, 12, 0, 0, 0), (1031, 6, 0, 0, 0), (1032, 0, 0, 2, 0), (1033, 0, 3, 0, 0), (1034, 2, 0, 32770, 2), (1035, 12, 0, 0, 0), (1036, 6, 0, 0, 0), (1037, 9, 0, 147, 90), (1040, 15, 1, 0, 0), (1041, 5, 0, 1409, 0), (1044, 0, 1, 2, 0), (1045, 0, 0, 2, 0), (1046, 0, 3, 0, 0), (1047, 2, 0, 32769, 1), (1048, 12, 0, 0, 0), (1049, 6, 0, 0, 0), (1050, 9, 0, 148, 91), (1053, 15, 1, 0, 0), (1054, 0, 2, 2, 0), (1055, 0, 0, 2, 0), (1056, 0, 3, 0, 0), (1057, 2, 0, 32769, 1), (1058, 12, 0, 0, 0), (1059, 6, 0, 0, 0), (1060, 9, 0, 151, 92), (1063, 15, 1, 0, 0), (1064, 5, 0, 1409, 0), (1067, 0, 1, 2, 0), (1068, 0, 0, 2, 0), (1069, 0, 3, 0, 0), (1070, 2, 0, 32769, 1), (1071, 12, 0, 0, 0), (1072, 6, 0, 0, 0), (1073, 0, 0, 2, 0), (1074, 0, 3, 0, 0), (1075, 2, 0, 32770, 2), (1076, 12, 0, 0, 0), (1077, 6, 0, 0, 0), (1078, 9, 0, 152, 93), (1081, 15, 1, 0, 0), (1082, 0, 2, 2, 0), (1083, 0, 0, 2, 0), (1084, 0, 3, 0, 0), (1085, 2, 0, 32769, 1), (1086, 12, 0, 0, 0), (1087, 6, 0, 0, 0), (1088, 0, 0, 2, 0), (1089, 0, 3, 0, 0), (1090, 2, 0, 32770, 2), (1091, 12, 0, 0, 0), (1092, 6, 0, 0, 0), (1093, 9, 0, 155, 94), (1096, 15, 1, 0, 0), (1097, 5, 0, 1409, 0), (1100, 0, 1, 2, 0), (1101, 0, 0, 2, 0), (1102, 0, 3, 0, 0), (1103, 2, 0, 32769, 1), (1104, 12, 0, 0, 0), (1105, 6, 0, 0, 0), (1106, 9, 0, 156, 95), (1109, 15, 1, 0, 0), (1110, 0, 2, 2, 0), (1111, 0, 0, 2, 0), (1112, 0, 3, 0, 0), (1113, 2, 0, 32769, 1), (1114, 12, 0, 0, 0), (1115, 6, 0, 0, 0), (1116, 9, 0, 159, 96), (1119, 15, 1, 0, 0), (1120, 5, 0, 1409, 0), (1123, 0, 1, 2, 0), (1124, 9, 0, 160, 97), (1127, 15, 1, 0, 0), (1128, 0, 2, 2, 0), (1129, 9, 0, 163, 98), (1132, 15, 1, 0, 0), (1133, 5, 0, 1409, 0), (1136, 0, 1, 2, 0), (1137, 0, 0, 2, 0), (1138, 0, 3, 0, 0), (1139, 2, 0, 32769, 1), (1140, 12, 0, 0, 0), (1141, 6, 0, 0, 0), (1142, 9, 0, 164, 99), (1145, 15, 1, 0, 0), (1146, 0, 2, 2, 0), (1147, 0, 0, 2, 0), (1148, 0, 3, 0, 0), (1149, 2, 0, 32769, 1), (1150, 12, 0, 0, 0), (1151, 6, 0, 0, 0), (1152, 9, 0, 167, 100), (1155, 15, 1, 0, 0), (1156, 5, 0, 1409, 0), (1159, 0, 1, 2, 0), (1160, 0, 0, 2, 0), (1161, 0, 3, 0, 0), (1162, 2, 0, 32769, 1), (1163, 12, 0, 0, 0), (1164, 6, 0, 0, 0), (1165, 0, 0, 2, 0), (1166, 0, 3, 0, 0), (1167, 2, 0, 32770, 2), (1168, 12, 0, 0, 0), (1169, 6, 0, 0, 0), (1170, 0, 0, 2, 0), (1171, 0, 3, 0, 0), (1172, 2, 0, 32771, 3), (1173, 12, 0, 0, 0), (1174, 6, 0, 0, 0), (1175, 0, 0, 2, 0), (1176, 0, 3, 0, 0), (1177, 2, 0, 32772, 4), (1178, 12, 0, 0, 0), (1179, 6, 0, 0, 0), (1180, 4, 0, 1187, 0), (1183, 2, 0, 32769, 1), (1184, 5, 0, 1188, 0), (1187, 2, 0, 32768, 0), (1188, 9, 0, 168, 101), (1191, 15, 1, 0, 0), (1192, 0, 2, 2, 0), (1193, 0, 0, 2, 0), (1194, 0, 3, 0, 0), (1195, 2, 0, 32769, 1), (1196, 12, 0, 0, 0), (1197, 6, 0, 0, 0), (1198, 0, 0, 2, 0), (1199, 0, 3, 0, 0), (1200, 2, 0, 32770, 2), (1201, 12, 0, 0, 0), (1202, 6, 0, 0, 0), (1203, 0, 0, 2, 0), (1204, 0, 3, 0, 0), (1205, 2, 0, 32771, 3), (1206, 12, 0, 0, 0), (1207, 6, 0, 0, 0), (1208, 0, 0, 2, 0), (1209, 0, 3, 0, 0), (1210, 2, 0, 32772, 4), (1211, 12, 0, 0, 0), (1212, 6, 0, 0, 0), (1213, 4, 0, 1220, 0), (1216, 2, 0, 32769, 1), (1217, 5, 0, 1221, 0), (1220, 2, 0, 32768, 0), (1221, 9, 0, 172, 102), (1224, 15, 1, 0, 0), (1225, 5, 0, 1409, 0), (1228, 0, 1, 2, 0), (1229, 0, 0, 2, 0), (1230, 0, 3, 0, 0), (1231, 2, 0, 32769, 1), (1232, 12, 0, 0, 0), (1233, 6, 0, 0, 0), (1234, 9, 0, 173, 103), (1237, 15, 1, 0, 0), (1238, 0, 2, 2, 0), (1239, 0, 0, 2, 0), (1240, 0, 3, 0, 0), (1241, 2, 0, 32769, 1), (1242, 12, 0, 0, 0), (1243, 6, 0, 0, 0), (1244, 9, 0, 177, 104), (1247, 15, 1, 0, 0), (1248, 5, 0, 1409, 0), (1251, 0, 1, 2, 0), (1252, 0, 0, 2, 0), (1253, 0, 3, 0, 0), (1254, 2, 0, 32769, 1), (1255, 12, 0, 0, 0), (1256, 6, 0, 0, 0), (1257, 9, 0, 178, 105), (1260, 0, 2, 2, 0), (1261, 0, 0, 2, 0), (1262, 0, 3, 0, 0), (1263, 2, 0, 32769, 1), (1264, 12, 0, 0, 0), (1265, 6, 0, 0, 0), (1266, 9, 0, 181, 106), (1269, 3, 0, 1409, 0), (1272, 2, 0, 32768, 0), (1273, 10, 0, 2, 0), (1274, 0, 1, 2, 0), (1275, 0, 0, 2, 0), (1276, 0, 3, 0, 0), (1277, 2, 0, 32769, 1), (1278, 12, 0, 0, 0), (1279, 6, 0, 0, 0), (1280, 9, 0, 182, 107), (1283, 15, 1, 0, 0), (1284, 0, 2, 2, 0), (1285, 0, 0, 2, 0), (1286, 0, 3, 0, 0), (1287, 2, 0, 32769, 1), (1288, 12, 0, 0, 0), (1289, 6, 0, 0, 0), (1290, 9, 0, 185, 108), (1293, 15, 1, 0, 0), (1294, 5, 0, 1409, 0), (1297, 0, 1, 2, 0), (1298, 0, 0, 2, 0), (1299, 0, 3, 0, 0), (1300, 2, 0, 32769, 1), (1301, 12, 0, 0, 0), (1302, 6, 0, 0, 0), (1303, 0, 0, 2, 0), (1304, 0, 3, 0, 0), (1305, 2, 0, 32770, 2), (1306, 12, 0, 0, 0), (1307, 6, 0, 0, 0), (1308, 0, 0, 2, 0), (1309, 0, 3, 0, 0), (1310, 2, 0, 32771, 3), (1311, 12, 0, 0, 0), (1312, 6, 0, 0, 0), (1313, 9, 0, 186, 109), (1316, 15, 1, 0, 0), (1317, 0, 2, 2, 0), (1318, 0, 0, 2, 0), (1319, 0, 3, 0, 0), (1320, 2, 0, 32769, 1), (1321, 12, 0, 0, 0), (1322, 6, 0, 0, 0), (1323, 0, 0, 2, 0), (1324, 0, 3, 0, 0), (1325, 2, 0, 32770, 2), (1326, 12, 0, 0, 0), (1327, 6, 0, 0, 0), (1328, 0, 0, 2, 0), (1329, 0, 3, 0, 0), (1330, 2, 0, 32771, 3), (1331, 12, 0, 0, 0), (1332, 6, 0, 0, 0), (1333, 9, 0, 189, 110), (1336, 15, 1, 0, 0), (1337, 5, 0, 1409, 0), (1340, 0, 1, 2, 0), (1341, 0, 0, 2, 0), (1342, 0, 3, 0, 0), (1343, 2, 0, 32769, 1), (1344, 12, 0, 0, 0), (1345, 6, 0, 0, 0), (1346, 9, 0, 190, 111), (1349, 15, 1, 0, 0), (1350, 0, 2, 2, 0), (1351, 0, 0, 2, 0), (1352, 0, 3, 0, 0), (1353, 2, 0, 32769, 1), (1354, 12, 0, 0, 0), (1355, 6, 0, 0, 0), (1356, 9, 0, 193, 112), (1359, 15, 1, 0, 0), (1360, 5, 0, 1409, 0), (1363, 0, 1, 2, 0), (1364, 0, 0, 2, 0), (1365, 0, 3, 0, 0), (1366, 2, 0, 32769, 1), (1367, 12, 0, 0, 0), (1368, 6, 0, 0, 0), (1369, 9, 0, 194, 113), (1372, 15, 1, 0, 0), (1373, 0, 2, 2, 0), (1374, 0, 0, 2, 0), (1375, 0, 3, 0, 0), (1376, 2, 0, 32769, 1), (1377, 12, 0, 0, 0), (1378, 6, 0, 0, 0), (1379, 9, 0, 197, 114), (1382, 15, 1, 0, 0), (1383, 5, 0, 1409, 0), (1386, 0, 1, 2, 0), (1387, 0, 0, 2, 0), (1388, 0, 3, 0, 0), (1389, 2, 0, 32769, 1), (1390, 12, 0, 0, 0), (1391, 6, 0, 0, 0), (1392, 9, 0, 198, 115), (1395, 15, 1, 0, 0), (1396, 0, 2, 2, 0), (1397, 0, 0, 2, 0), (1398, 0, 3, 0, 0), (1399, 2, 0, 32769, 1), (1400, 12, 0, 0, 0), (1401, 6, 0, 0, 0), (1402, 9, 0, 201, 116), (1405, 15, 1, 0, 0), (1406, 5, 0, 1409, 0), (1409, 7, 3, 6, 0), (1412, 5, 0, 18, 0), (1415, 2, 0, 32769, 1), (1416, 10, 0, 2, 0)]
def fx_h0 : fx_H := (114, [[.inr (.inl (9, [fr 1, fr 19, fr 33, fr 36, fr 49, fr 53, fr 56, fr 63, fr 64, fr 65, fr 66, fc 0, fc 0, fc 0, fc 4294967295, fc 4294967295])), .inr (.inl (4, [fr 2, fr 5, fc 0, fc 4294967295])), .inr (.inl (7, [fr 3, fr 4, fc 0, fc 0, fc 0, fc 0, fc 0, fl 0])), .inr (.inr (1, 1600, [])), .inr (.inr (3, 24, [(23, fl 51270206), (22, fl 13550), (21, fl 388708), (20, fl 279847), (19, fl 10502220), (18, fl 38446238), (17, fl 31735670), (16, fl 279252), (15, fl 118913), (14, fl 10631), (13, fl 1111), (12, fl 423), (11, fl 91904), (10, fl 411), (9, fl 10935548), (8, fl 6559778), (7, fl 247547), (6, fl 47), (5, fl 4797), (4, fl 189450486), (3, fl 267223), (2, fl 45611816222), (1, fl 79), (0, fl 158529)])), .inr (.inl (3, [fr 6, fr 7, fr 8, fr 9, fr 10, fr 11, fr 12, fr 13, fr 16, fc 4, fc 4, fc 0, fc 0, fc 0, fc 1, fc 0, fc 0, fc 0])), .inr (.inr (3, 4, [])), .inr (.inr (0, 4, [])), .inr (.inr (3, 7, [])), .inr (.inr (0, 7, [])), .inr (.inr (0, 7, [])), .inr (.inr (0, 7, [])), .inr (.inr (0, 7, [(6, fc 4294967295), (5, fc 4294967295), (4, fc 4294967295), (3, fc 4294967295), (2, fc 4294967295), (1, fc 4294967295), (0, fc 4294967295)])), .inr (.inl (1, [fr 14, fr 15, fc 1, fc 0])), .inr (.inr (0, 320, [])), .inr (.inr (0, 40, []))],
  [.inr (.inl (1, [fr 17, fr 18, fc 1, fc 0])), .inr (.inr (0, 320, [(0, fc 37)])), .inr (.inr (0, 40, [])), .inr (.inl (3, [fr 20, fr 21, fr 22, fr 23, fr 24, fr 25, fr 26, fr 27, fr 30, fc 4, fc 4, fc 0, fc 0, fc 0, fc 1, fc 0, fc 0, fc 0])), .inr (.inr (3, 4, [])), .inr (.inr (0, 4, [])), .inr (.inr (3, 7, [])), .inr (.inr (0, 7, [])), .inr (.inr (0, 7, [])), .inr (.inr (0, 7, [])), .inr (.inr (0, 7, [(6, fc 4294967295), (5, fc 4294967295), (4, fc 4294967295), (3, fc 4294967295), (2, fc 4294967295), (1, fc 4294967295), (0, fc 4294967295)])), .inr (.inl (1, [fr 28, fr 29, fc 1, fc 0])), .inr (.inr (0, 320, [])), .inr (.inr (0, 40, [])), .inr (.inl (1, [fr 31, fr 32, fc 1, fc 0])), .inr (.inr (0, 320, [(0, fc 37)]))],
  [.inr (.inr (0, 40, [])), .inr (.inl (6, [fr 34, fr 35, fc 0, fc 0, fc 0])), .inr (.inr (0, 7, [])), .inr (.inr (0, 7, [(6, fc 4294967295), (5, fc 4294967295), (4, fc 4294967295), (3, fc 4294967295), (2, fc 4294967295), (1, fc 4294967295), (0, fc 4294967295)])), .inr (.inl (8, [fr 37, fr 40, fr 41, fr 42, fr 43, fr 44, fr 45, fr 46, fr 47, fr 48, fz])), .inr (.inl (6, [fr 38, fr 39, fc 0, fc 0, fc 0])), .inr (.inr (0, 7, [])), .inr (.inr (0, 7, [])), .inr (.inr (0, 7, [])), .inr (.inr (0, 7, [])), .inr (.inr (0, 7, [])), .inr (.inr (0, 7, [])), .inr (.inr (0, 21, [])), .inr (.inr (0, 9, [])), .inr (.inr (0, 9, [])), .inr (.inr (0, 1024, []))],
  [.inr (.inr (0, 1024, [])), .inr (.inl (0, [fr 50, fc 0, fc 0])), .inr (.inl (5, [fc 41, fr 51, fr 52])), .inr (.inr (0, 697, [])), .inr (.inr (2, 41, [])), .inr (.inl (5, [fc 3, fr 54, fr 55])), .inr (.inr (0, 51, [])), .inr (.inr (2, 3, [])), .inr (.inl (2, [fr 57, fr 58, fr 59, fr 60, fr 61, fr 62, fc 0])), .inr (.inr (0, 30, [])), .inr (.inr (0, 30, [])), .inr (.inr (0, 30, [])), .inr (.inr (2, 30, [])), .inr (.inr (0, 30, [])), .inr (.inr (0, 30, [])), .inr (.inr (0, 7, []))],
  [.inr (.inr (0, 7, [])), .inr (.inr (0, 10, [])), .inr (.inr (0, 70, [])), .inr (.inl (10, [fr 68, fr 69, fc 0, fc 0, fc 0, fc 4294967295, fc 0, fc 0, fc 0, fc 0, fl 0, fr 70, fr 71, fr 72, fr 73, fr 74, fr 75, fr 76, fr 77, fr 78, fr 79, fr 80, fr 81, fr 82, fr 83, fr 84, fr 85, fr 86, fr 87, fr 88, fr 89, fr 90, fr 91, fr 92, fr 93, fr 94, fr 95, fc 0, fc 0, fc 0, fc 0, fc 0, fc 0, fc 0, fc 0, fc 0, fc 0, fc 0, fc 0, fc 0, fr 96, fr 97, fr 98, fc 0, fc 0, fr 99, fr 100, fc 0, fr 101, fr 102, fr 103, fr 104, fr 105, fr 106, fr 107, fr 108, fr 109, fr 110, fr 111, fc 0, fc 0, fr 112, fr 113])), .inr (.inr (1, 1620, [])), .inr (.inr (1, 1600, [])), .inr (.inr (0, 2, [(0, fc 4)])), .inr (.inr (0, 2, [(0, fc 4)])), .inr (.inr (0, 2, [])), .inr (.inr (0, 2, [])), .inr (.inr (0, 2, [])), .inr (.inr (0, 2, [])), .inr (.inr (0, 2, [])), .inr (.inr (0, 2, [(0, fc 1)])), .inr (.inr (0, 2, [])), .inr (.inr (0, 8, []))],
  [.inr (.inr (0, 14, [])), .inr (.inr (0, 14, [])), .inr (.inr (0, 14, [])), .inr (.inr (0, 14, [])), .inr (.inr (0, 4, [])), .inr (.inr (0, 4, [])), .inr (.inr (2, 4, [])), .inr (.inr (2, 2, [])), .inr (.inr (2, 2, [])), .inr (.inr (3, 8, [])), .inr (.inr (3, 14, [])), .inr (.inr (0, 1120, [])), .inr (.inr (0, 1120, [])), .inr (.inr (0, 90, [])), .inr (.inr (0, 90, [])), .inr (.inr (0, 60, []))],
  [.inr (.inr (0, 17, [(13, fc 4294967295), (12, fc 4294967295), (11, fc 4294967295), (10, fc 4294967295), (9, fc 4294967295), (8, fc 4294967295), (7, fc 4294967295)])), .inr (.inr (0, 7, [])), .inr (.inr (0, 697, [])), .inr (.inr (0, 7, [])), .inr (.inr (0, 7, [])), .inr (.inr (0, 17, [])), .inr (.inr (0, 7, [])), .inr (.inr (0, 7, [])), .inr (.inr (0, 1000, [])), .inr (.inr (0, 30, [])), .inr (.inr (0, 30, [])), .inr (.inr (0, 30, [])), .inr (.inr (0, 30, [])), .inr (.inr (0, 30, [])), .inr (.inr (0, 30, [])), .inr (.inr (0, 10, []))],
  [.inr (.inr (0, 51, [])), .inr (.inr (2, 3, []))]])
end
section
noncomputable def fx_z (z : Int32) : Nat := (z.toInt + 2147483648).toNat
theorem fx_z_lt (z w : Int32) : z < w ↔ fx_z z < fx_z w := by
  have h1 := z.le_toInt
  have h2 := w.le_toInt
  rw [Int32.lt_iff_toInt_lt]
  unfold fx_z
  omega
theorem fx_z_le (z w : Int32) : z ≤ w ↔ fx_z z ≤ fx_z w := by
  have h1 := z.le_toInt
  have h2 := w.le_toInt
  rw [Int32.le_iff_toInt_le]
  unfold fx_z
  omega
theorem fx_z_eq (z w : Int32) : z = w ↔ fx_z z = fx_z w := by
  have h1 := z.le_toInt
  have h2 := w.le_toInt
  rw [← Int32.toInt_inj]
  unfold fx_z
  omega
theorem fx_z_max (z : Int32) : fx_z z < 4294967296 := by
  have h1 := z.toInt_lt
  unfold fx_z
  omega
theorem fx_o_mod (n : Nat) : Int32.ofNat (n % 4294967296) = Int32.ofNat n := by
  apply Int32.toBitVec_inj.1
  simp only [Int32.toBitVec_ofNat']
  apply BitVec.eq_of_toNat_eq
  simp [BitVec.toNat_ofNat]
theorem fx_z_of (n : Nat) : fx_z (Int32.ofNat n) = fx_b n := by
  unfold fx_z fx_b
  rw [← fx_o_mod n]
  have hb : n % 4294967296 < 4294967296 := Nat.mod_lt _ (by decide)
  show _ = (n + 2147483648) % 4294967296
  generalize hm : n % 4294967296 = m at hb ⊢
  have e : (n + 2147483648) % 4294967296 = (m + 2147483648) % 4294967296 := by omega
  rw [e, Int32.toInt_ofNat']
  have hs : (Int32.size : Int) = 4294967296 := rfl
  simp only [Int.bmod, hs]
  omega
theorem fx_b_b (n : Nat) (h : n < 4294967296) : fx_b (fx_b n) = n := by
  show (((n + 2147483648) % 4294967296) + 2147483648) % 4294967296 = n
  omega
theorem fx_of_z (z : Int32) : Int32.ofNat (fx_b (fx_z z)) = z := by
  rw [fx_z_eq, fx_z_of, fx_b_b _ (fx_z_max z)]
theorem fx_o_add (x y : Nat) : Int32.ofNat (Nat.mod (Nat.add x y) 4294967296) = Int32.ofNat x + Int32.ofNat y := by
  show Int32.ofNat ((x + y) % 4294967296) = _
  rw [fx_o_mod, Int32.ofNat_add]
theorem fx_o_mul (x y : Nat) : Int32.ofNat (Nat.mod (Nat.mul x y) 4294967296) = Int32.ofNat x * Int32.ofNat y := by
  show Int32.ofNat ((x * y) % 4294967296) = _
  rw [fx_o_mod, Int32.ofNat_mul]
theorem fx_o_sub (x y : Nat) : Int32.ofNat ((x + (4294967296 - y % 4294967296)) % 4294967296) = Int32.ofNat x - Int32.ofNat y := by
  rw [fx_o_mod, Int32.ofNat_add]
  have e : Int32.ofNat (4294967296 - y % 4294967296) = - Int32.ofNat y := by
    rw [← fx_o_mod y]
    have hb : y % 4294967296 < 4294967296 := Nat.mod_lt _ (by decide)
    generalize y % 4294967296 = m at hb
    have e2 : Int32.ofNat (4294967296 - m) + Int32.ofNat m = 0 := by
      rw [← Int32.ofNat_add, show 4294967296 - m + m = 4294967296 by omega]
      decide
    have e3 := congrArg (fun t => t - Int32.ofNat m) e2
    simp only [Int32.add_sub_cancel, Int32.zero_sub] at e3
    exact e3
  rw [e, Int32.sub_eq_add_neg]
theorem fx_o_neg (n : Nat) : Int32.ofNat ((4294967296 - n % 4294967296) % 4294967296) = - Int32.ofNat n := by
  have h := fx_o_sub 0 n
  rw [Nat.zero_add] at h
  rw [h]
  simp
theorem fx_o_and (x y : Nat) : Int32.ofNat (Nat.land x y) = Int32.ofNat x &&& Int32.ofNat y := by
  apply Int32.toBitVec_inj.1
  simp [Int32.toBitVec_ofNat', Int32.toBitVec_and]
theorem fx_o_or (x y : Nat) : Int32.ofNat (Nat.lor x y) = Int32.ofNat x ||| Int32.ofNat y := by
  apply Int32.toBitVec_inj.1
  simp [Int32.toBitVec_ofNat', Int32.toBitVec_or]
theorem fx_o_xor (x y : Nat) : Int32.ofNat (Nat.xor x y) = Int32.ofNat x ^^^ Int32.ofNat y := by
  apply Int32.toBitVec_inj.1
  simp [Int32.toBitVec_ofNat', Int32.toBitVec_xor]
theorem fx_o_int {n : Nat} (h : n < 2147483648) : (Int32.ofNat n).toInt = (n : Int) := nI_toInt h
theorem fx_o_div {x y : Nat} (hx : x < 2147483648) (hy : y < 2147483648) : Int32.ofNat (x / y) = Int32.ofNat x / Int32.ofNat y := by
  have hq : x / y < 2147483648 := Nat.lt_of_le_of_lt (Nat.div_le_self x y) hx
  apply Int32.toInt_inj.1
  rw [Int32.toInt_div, fx_o_int hx, fx_o_int hy, fx_o_int hq, ← Int.ofNat_tdiv]
  generalize x / y = q at hq
  have hs : ((2 ^ 32 : Nat) : Int) = 4294967296 := rfl
  simp only [Int.bmod, hs]
  omega
theorem fx_o_ne {y : Nat} (hy : y < 2147483648) (h0 : 0 < y) : ¬ Int32.ofNat y = 0 := fun q => by
  have := congrArg Int32.toInt q
  rw [fx_o_int hy] at this
  simp at this
  omega
theorem fx_o_rem {x y : Nat} (hx : x < 2147483648) (hy : y < 2147483648) : Int32.ofNat (x % y) = Int32.ofNat x - Int32.ofNat x / Int32.ofNat y * Int32.ofNat y := by
  rw [← fx_o_div hx hy, ← Int32.ofNat_mul]
  have e : x = x % y + x / y * y := by rw [Nat.mul_comm]; exact (Nat.mod_add_div x y).symm
  have e2 : Int32.ofNat x = Int32.ofNat (x % y) + Int32.ofNat (x / y * y) := by rw [← Int32.ofNat_add, ← e]
  rw [e2, Int32.add_sub_cancel]
theorem fx_o_31 : ∀ y, y < 32 → Int32.ofNat y &&& 31 = Int32.ofNat y := by decide +kernel
theorem fx_o_32 : ∀ y, y < 32 → (BitVec.ofNat 32 y).smod 32 = BitVec.ofNat 32 y := by decide +kernel
theorem fx_o_shl {x y : Nat} (hy : y < 32) : Int32.ofNat (Nat.shiftLeft x y % 4294967296) = Int32.ofNat x <<< (Int32.ofNat y &&& 31) := by
  rw [fx_o_mod, fx_o_31 y hy]
  apply Int32.toBitVec_inj.1
  rw [Int32.toBitVec_shiftLeft]
  simp only [Int32.toBitVec_ofNat']
  rw [fx_o_32 y hy]
  apply BitVec.eq_of_toNat_eq
  have e : y % 4294967296 = y := by omega
  simp [BitVec.toNat_ofNat, e, Nat.shiftLeft_eq, Nat.mul_mod]
theorem fx_o_shr {x y : Nat} (hx : x < 2147483648) (hy : y < 32) : Int32.ofNat (Nat.shiftRight x y) = Int32.ofNat x >>> (Int32.ofNat y &&& 31) := by
  rw [fx_o_31 y hy]
  apply Int32.toBitVec_inj.1
  rw [Int32.toBitVec_shiftRight]
  simp only [Int32.toBitVec_ofNat']
  rw [fx_o_32 y hy, BitVec.sshiftRight_eq', BitVec.sshiftRight_eq_of_msb_false]
  · apply BitVec.eq_of_toNat_eq
    have e : y % 4294967296 = y := by omega
    have e2 : x % 4294967296 = x := by omega
    have e3 : x >>> y < 4294967296 := Nat.lt_of_le_of_lt (Nat.shiftRight_le x y) (by omega)
    simp [BitVec.toNat_ofNat, e, e2]
    exact e3
  · simp [BitVec.msb_eq_decide]
    omega
theorem fx_o_ushr {x y : Nat} (hx : x < 4294967296) (hy : y < 32) : ((Int32.ofNat x).toUInt32 >>> ((Int32.ofNat y).toUInt32 &&& Int32.toUInt32 31)).toInt32 = Int32.ofNat (Nat.shiftRight x y) := by
  have h1 : ∀ y, y < 32 → ((Int32.ofNat y).toUInt32 &&& Int32.toUInt32 31) = UInt32.ofNat y := by decide +kernel
  rw [h1 y hy]
  apply Int32.toBitVec_inj.1
  rw [Int32.toBitVec_ofNat']
  show ((Int32.ofNat x).toUInt32 >>> UInt32.ofNat y).toBitVec = _
  rw [UInt32.toBitVec_shiftRight]
  apply BitVec.eq_of_toNat_eq
  have e : y % 4294967296 % 32 = y := by omega
  have e2 : x % 4294967296 = x := by omega
  have e3 : x >>> y < 4294967296 := Nat.lt_of_le_of_lt (Nat.shiftRight_le x y) (by omega)
  show ((Int32.ofNat x).toBitVec >>> ((UInt32.ofNat y).toBitVec % 32)).toNat = _
  rw [Int32.toBitVec_ofNat']
  simp [BitVec.toNat_ofNat, e, e2]
  exact (Nat.mod_eq_of_lt e3).symm
theorem fl_mod (n : Nat) : Int64.ofNat (n % 18446744073709551616) = Int64.ofNat n := by
  apply Int64.toBitVec_inj.1
  simp only [Int64.toBitVec_ofNat']
  apply BitVec.eq_of_toNat_eq
  simp [BitVec.toNat_ofNat]
theorem fl_add (x y : Nat) : Int64.ofNat ((x + y) % 18446744073709551616) = Int64.ofNat x + Int64.ofNat y := by
  rw [fl_mod, Int64.ofNat_add]
theorem fl_mul (x y : Nat) : Int64.ofNat (x * y % 18446744073709551616) = Int64.ofNat x * Int64.ofNat y := by
  rw [fl_mod, Int64.ofNat_mul]
theorem fl_sub (x y : Nat) : Int64.ofNat ((x + (18446744073709551616 - y % 18446744073709551616)) % 18446744073709551616) = Int64.ofNat x - Int64.ofNat y := by
  rw [fl_mod, Int64.ofNat_add]
  have e : Int64.ofNat (18446744073709551616 - y % 18446744073709551616) = - Int64.ofNat y := by
    rw [← fl_mod y]
    have hb : y % 18446744073709551616 < 18446744073709551616 := Nat.mod_lt _ (by decide)
    generalize y % 18446744073709551616 = m at hb
    have e2 : Int64.ofNat (18446744073709551616 - m) + Int64.ofNat m = 0 := by
      rw [← Int64.ofNat_add, show 18446744073709551616 - m + m = 18446744073709551616 by omega]
      decide
    have e3 := congrArg (fun t => t - Int64.ofNat m) e2
    simp only [Int64.add_sub_cancel, Int64.zero_sub] at e3
    exact e3
  rw [e, Int64.sub_eq_add_neg]
theorem fx_o_i2l {n : Nat} (h : n < 2147483648) : (Int32.ofNat n).toInt64 = Int64.ofNat n := by
  apply Int64.toInt_inj.1
  rw [Int32.toInt_toInt64, fx_o_int h, Int64.toInt_ofNat']
  have hs : (Int64.size : Int) = 18446744073709551616 := rfl
  simp only [Int.bmod, hs]
  omega
theorem fx_o_i2b {n : Nat} (h : n < 128) : (Int32.ofNat n).toInt8.toInt32 = Int32.ofNat n := by
  have key : ∀ n, n < 128 → (Int32.ofNat n).toInt8.toInt32 = Int32.ofNat n := by decide +kernel
  exact key n h
theorem fx_o_i2c {n : Nat} (h : n < 65536) : ((Int32.ofNat n).toUInt32 % 65536).toInt32 = Int32.ofNat n := by
  apply Int32.toBitVec_inj.1
  rw [Int32.toBitVec_ofNat']
  show ((Int32.ofNat n).toUInt32 % 65536).toBitVec = _
  rw [UInt32.toBitVec_mod]
  apply BitVec.eq_of_toNat_eq
  show ((Int32.ofNat n).toBitVec % (65536 : UInt32).toBitVec).toNat = _
  rw [Int32.toBitVec_ofNat']
  simp [BitVec.toNat_ofNat]
  omega
theorem fx_o_nc {n : Nat} (h : n < 65536) : narrow .char (.int (Int32.ofNat n)) = .int (Int32.ofNat n) := by
  show Value.int (Int32.ofNat n).toUInt32.toUInt16.toUInt32.toInt32 = _
  congr 1
  apply Int32.toBitVec_inj.1
  rw [Int32.toBitVec_ofNat']
  apply BitVec.eq_of_toNat_eq
  show ((Int32.ofNat n).toUInt32.toUInt16.toUInt32).toNat = _
  rw [UInt16.toNat_toUInt32, UInt32.toNat_toUInt16]
  show (Int32.ofNat n).toBitVec.toNat % _ = _
  rw [Int32.toBitVec_ofNat']
  simp [BitVec.toNat_ofNat]
  omega
end
section
theorem fx_num_eq (n : Nat) (k : Nat → Bool) : fx_num n k = k n := by cases n <;> rfl
theorem fx_if_t {α : Type} (x y : α) : fx_if true x y = x := rfl
theorem fx_if_f {α : Type} (x y : α) : fx_if false x y = y := rfl
theorem fx_beq {a b : Nat} (h : Nat.beq a b = true) : a = b := Nat.eq_of_beq_eq_true h
theorem fx_bnq {a b : Nat} (h : Nat.beq a b = false) : a ≠ b := Nat.ne_of_beq_eq_false h
theorem fx_ble {a b : Nat} (h : Nat.ble a b = true) : a ≤ b := Nat.le_of_ble_eq_true h
theorem fx_blt {a b : Nat} (h : Nat.blt a b = true) : a < b := Nat.le_of_ble_eq_true h
theorem fx_nle {a b : Nat} (h : Nat.ble a b = false) : b < a := by
  rcases Nat.lt_or_ge b a with q | q
  · exact q
  · rw [Nat.ble_eq_true_of_le q] at h; cases h
theorem fx_nlt {a b : Nat} (h : Nat.blt a b = false) : b ≤ a := Nat.le_of_lt_succ (fx_nle h)
theorem fx_and {a b : Bool} (h : (a && b) = true) : a = true ∧ b = true := by simpa using h
theorem fx_or {a b : Bool} (h : (a || b) = true) : a = true ∨ b = true := by simpa using h
theorem fx_nth_eq {α : Type} (l : List α) : ∀ n, fx_nth l n = l[n]? := by
  induction l with
  | nil => intro n; rfl
  | cons a l ih =>
    intro n
    cases n with
    | zero => rfl
    | succ n => rw [List.getElem?_cons_succ, ← ih n]; rfl
theorem fx_put_ok {α : Type} {a : α} : ∀ {l : List α} {n : Nat} {k : List α → Bool}, fx_put a l n k = true → n < l.length ∧ k (l.set n a) = true := by
  intro l
  induction l with
  | nil => intro n k h; cases h
  | cons b l ih =>
    intro n k h
    cases n with
    | zero => exact ⟨Nat.succ_pos _, h⟩
    | succ n =>
      obtain ⟨h1, h2⟩ := ih (k := fun t => k (b :: t)) h
      exact ⟨Nat.succ_lt_succ h1, h2⟩
theorem fx_snoc_eq {α : Type} (a : α) : ∀ (l : List α) (k : List α → Bool), fx_snoc a l k = k (l ++ [a]) := by
  intro l
  induction l with
  | nil => intro k; rfl
  | cons b l ih => intro k; exact ih (fun t => k (b :: t))
theorem fx_hget_eq (n : Nat) (rows : List (List fx_C)) (k : Nat) : fx_hget (n, rows) k = (rows[k / 16]?).bind (fun r => r[k % 16]?) := by
  unfold fx_hget
  rw [fx_nth_eq]
  show (match rows[k / 16]? with | none => none | some r => fx_nth r (k % 16)) = _
  cases rows[k / 16]? with
  | none => rfl
  | some r => exact fx_nth_eq r _
theorem fx_hset_ok {h : fx_H} {k : Nat} {c : fx_C} {kk : fx_H → Bool} (e : fx_hset h k c kk = true) : ∃ h', kk h' = true ∧ h'.1 = h.1 ∧ (∃ c0, fx_hget h k = some c0) ∧ fx_hget h' k = some c ∧ ∀ i, i ≠ k → fx_hget h' i = fx_hget h i := by
  obtain ⟨n, rows⟩ := h
  unfold fx_hset at e
  simp only at e
  cases hr : fx_nth rows (Nat.div k 16) with
  | none => rw [hr] at e; cases e
  | some r =>
    rw [hr] at e
    simp only at e
    obtain ⟨h1, h2⟩ := fx_put_ok e
    obtain ⟨h3, h4⟩ := fx_put_ok h2
    rw [fx_nth_eq] at hr
    have hr' : rows[k / 16]? = some r := hr
    have h1' : k % 16 < r.length := h1
    have h3 : k / 16 < rows.length := h3
    refine ⟨_, h4, rfl, ?_, ?_, ?_⟩
    · rw [fx_hget_eq, hr']
      exact ⟨_, List.getElem?_eq_getElem h1'⟩
    · rw [fx_hget_eq]
      show ((rows.set (k / 16) (r.set (k % 16) c))[k / 16]?).bind _ = _
      rw [List.getElem?_set_self h3]
      exact List.getElem?_set_self h1'
    · intro i hi
      rw [fx_hget_eq, fx_hget_eq]
      show ((rows.set (k / 16) (r.set (k % 16) c))[i / 16]?).bind _ = _
      by_cases hq : i / 16 = k / 16
      · rw [hq, List.getElem?_set_self h3, hr']
        show (r.set (k % 16) c)[i % 16]? = r[i % 16]?
        rw [List.getElem?_set_ne]
        intro hm
        apply hi
        rw [← Nat.div_add_mod i 16, ← Nat.div_add_mod k 16, hq, hm]
      · rw [List.getElem?_set_ne (Ne.symm hq)]
theorem fx_hnew_ok {h : fx_H} {c : fx_C} {kk : fx_H → Bool} (e : fx_hnew h c kk = true) : ∃ h', kk h' = true ∧ h'.1 = h.1 + 1 ∧ h.1 < 1000000 ∧ fx_hget h' h.1 = some c ∧ ∀ i, i ≠ h.1 → fx_hget h' i = fx_hget h i := by
  obtain ⟨n, rows⟩ := h
  unfold fx_hnew at e
  simp only at e
  obtain ⟨e0, e⟩ := fx_and e
  have hn := fx_blt e0
  cases hm : Nat.beq (Nat.mod n 16) 0 with
  | true =>
    rw [hm, fx_if_t] at e
    obtain ⟨e1, e⟩ := fx_and e
    have hl : rows.length = n / 16 := fx_beq e1
    have hm0 : n % 16 = 0 := fx_beq hm
    rw [fx_snoc_eq, fx_num_eq] at e
    refine ⟨_, e, rfl, hn, ?_, ?_⟩
    · rw [fx_hget_eq]
      show ((rows ++ [[c]])[n / 16]?).bind _ = _
      rw [← hl, List.getElem?_append_right (Nat.le_refl _), Nat.sub_self]
      show ([c] : List fx_C)[n % 16]? = _
      rw [hm0]; rfl
    · intro i hi
      have hi : i ≠ n := hi
      rw [fx_hget_eq, fx_hget_eq]
      by_cases hq : i / 16 < rows.length
      · rw [List.getElem?_append_left hq]
      · rw [List.getElem?_append_right (by omega), List.getElem?_eq_none (by omega : rows.length ≤ i / 16)]
        by_cases hz : i / 16 = rows.length
        · rw [hz, Nat.sub_self]
          show ([c] : List fx_C)[i % 16]? = none
          have : i % 16 ≠ 0 := by omega
          obtain ⟨m, hm2⟩ := Nat.exists_eq_succ_of_ne_zero this
          rw [hm2]; rfl
        · have : ∃ m, i / 16 - rows.length = m + 1 := ⟨i / 16 - rows.length - 1, by omega⟩
          obtain ⟨m, hm2⟩ := this
          rw [hm2]; rfl
  | false =>
    rw [hm, fx_if_f] at e
    cases hr : fx_nth rows (Nat.div n 16) with
    | none => rw [hr] at e; cases e
    | some r =>
      rw [hr] at e
      simp only at e
      obtain ⟨e1, e⟩ := fx_and e
      have hl : r.length = n % 16 := fx_beq e1
      rw [fx_snoc_eq] at e
      obtain ⟨h3, e⟩ := fx_put_ok e
      rw [fx_num_eq] at e
      rw [fx_nth_eq] at hr
      have hr' : rows[n / 16]? = some r := hr
      have h3 : n / 16 < rows.length := h3
      refine ⟨_, e, rfl, hn, ?_, ?_⟩
      · rw [fx_hget_eq]
        show ((rows.set (n / 16) (r ++ [c]))[n / 16]?).bind _ = _
        rw [List.getElem?_set_self h3]
        show (r ++ [c])[n % 16]? = _
        rw [← hl, List.getElem?_append_right (Nat.le_refl _), Nat.sub_self]; rfl
      · intro i hi
        have hi : i ≠ n := hi
        rw [fx_hget_eq, fx_hget_eq]
        show ((rows.set (n / 16) (r ++ [c]))[i / 16]?).bind _ = _
        by_cases hq : i / 16 = n / 16
        · rw [hq, List.getElem?_set_self h3, hr']
          show (r ++ [c])[i % 16]? = r[i % 16]?
          by_cases hz : i % 16 < r.length
          · rw [List.getElem?_append_left hz]
          · have hne : i % 16 ≠ n % 16 := fun q => hi (by rw [← Nat.div_add_mod i 16, ← Nat.div_add_mod n 16, hq, q])
            rw [List.getElem?_append_right (by omega), List.getElem?_eq_none (by omega : r.length ≤ i % 16)]
            obtain ⟨m, hm2⟩ : ∃ m, i % 16 - r.length = m + 1 := ⟨i % 16 - r.length - 1, by omega⟩
            rw [hm2]; rfl
        · rw [List.getElem?_set_ne (Ne.symm hq)]
theorem fx_drop_eq (i : Nat) : ∀ (l : fx_L) (k : fx_L → Bool), fx_drop l i k = k (l.filter (fun q => !(Nat.beq q.1 i || (Nat.beq (q.1 + 1) i && Nat.beq (fx_cat q.2) 2)))) := by
  intro l
  induction l with
  | nil => intro k; rfl
  | cons q l ih =>
    intro k
    have e := ih (fun t => fx_if (Nat.beq q.1 i || (Nat.beq (q.1 + 1) i && Nat.beq (fx_cat q.2) 2)) (k t) (k (q :: t)))
    refine Eq.trans e ?_
    cases hc : (Nat.beq q.1 i || (Nat.beq (q.1 + 1) i && Nat.beq (fx_cat q.2) 2)) with
    | true => rw [fx_if_t, List.filter_cons_of_neg (by simp [hc])]
    | false => rw [fx_if_f, List.filter_cons_of_pos (by simp [hc])]
theorem fx_drop2_eq (i : Nat) : ∀ (l : fx_L) (k : fx_L → Bool), fx_drop2 l i k = k (l.filter (fun q => !(Nat.beq q.1 i || (Nat.beq q.1 (i + 1) || (Nat.beq (q.1 + 1) i && Nat.beq (fx_cat q.2) 2))))) := by
  intro l
  induction l with
  | nil => intro k; rfl
  | cons q l ih =>
    intro k
    have e := ih (fun t => fx_if (Nat.beq q.1 i || (Nat.beq q.1 (i + 1) || (Nat.beq (q.1 + 1) i && Nat.beq (fx_cat q.2) 2))) (k t) (k (q :: t)))
    refine Eq.trans e ?_
    cases hc : (Nat.beq q.1 i || (Nat.beq q.1 (i + 1) || (Nat.beq (q.1 + 1) i && Nat.beq (fx_cat q.2) 2))) with
    | true => rw [fx_if_t, List.filter_cons_of_neg (by simp [hc])]
    | false => rw [fx_if_f, List.filter_cons_of_pos (by simp [hc])]
theorem fx_without_eq {α : Type} (i : Nat) : ∀ (l : List (Nat × α)) (k : List (Nat × α) → Bool), fx_without l i k = k (l.filter (fun q => !(Nat.beq q.1 i))) := by
  intro l
  induction l with
  | nil => intro k; rfl
  | cons q l ih =>
    intro k
    cases hc : Nat.beq q.1 i with
    | true =>
      have e : fx_without (q :: l) i k = fx_without l i k := by
        show fx_if (Nat.beq q.1 i) (fx_without l i k) (fx_without l i (fun t => k (q :: t))) = _
        rw [hc, fx_if_t]
      rw [e, ih, List.filter_cons_of_neg (by simp [hc])]
    | false =>
      have e : fx_without (q :: l) i k = fx_without l i (fun t => k (q :: t)) := by
        show fx_if (Nat.beq q.1 i) (fx_without l i k) (fx_without l i (fun t => k (q :: t))) = _
        rw [hc, fx_if_f]
      rw [e, ih, List.filter_cons_of_pos (by simp [hc])]
theorem fx_look_nil {α : Type} (i : Nat) : fx_look ([] : List (Nat × α)) i = none := rfl
theorem fx_look_cons {α : Type} (q : Nat × α) (l : List (Nat × α)) (i : Nat) : fx_look (q :: l) i = fx_if (Nat.beq q.1 i) (some q.2) (fx_look l i) := rfl
theorem fx_look_hit {α : Type} (n : Nat) (v : α) (l : List (Nat × α)) : fx_look ((n, v) :: l) n = some v := by
  rw [fx_look_cons, Nat.beq_refl, fx_if_t]
theorem fx_look_miss {α : Type} {n i : Nat} (v : α) (l : List (Nat × α)) (h : n ≠ i) : fx_look ((n, v) :: l) i = fx_look l i := by
  rw [fx_look_cons]
  cases hc : Nat.beq n i with
  | true => exact absurd (fx_beq hc) h
  | false => rfl
theorem fx_look_out {α : Type} (i n : Nat) (h : i ≠ n) : ∀ l : List (Nat × α), fx_look (l.filter (fun q => !(Nat.beq q.1 n))) i = fx_look l i := by
  intro l
  induction l with
  | nil => rfl
  | cons q l ih =>
    cases hc : Nat.beq q.1 n with
    | true =>
      rw [List.filter_cons_of_neg (by simp [hc]), ih, show q = (q.1, q.2) from rfl, fx_look_miss]
      rw [fx_beq hc]; exact Ne.symm h
    | false =>
      rw [List.filter_cons_of_pos (by simp [hc]), fx_look_cons, fx_look_cons, ih]
theorem fx_look_gone {α : Type} (n : Nat) : ∀ l : List (Nat × α), fx_look (l.filter (fun q => !(Nat.beq q.1 n))) n = none := by
  intro l
  induction l with
  | nil => rfl
  | cons q l ih =>
    cases hc : Nat.beq q.1 n with
    | true => rw [List.filter_cons_of_neg (by simp [hc]), ih]
    | false => rw [List.filter_cons_of_pos (by simp [hc]), show q = (q.1, q.2) from rfl, fx_look_miss _ _ (fx_bnq hc), ih]
theorem fx_split_ok : ∀ (n : Nat) (acc stk as st : List fx_V), Nat.rec (motive := fun _ => List fx_V → List fx_V → Option (List fx_V × List fx_V)) (fun acc st => some (acc, st)) (fun _ ih acc st => match st with
    | [] => none
    | v :: st => ih (v :: acc) st) n acc stk = some (as, st) → ∃ bs, bs.length = n ∧ as = bs ++ acc ∧ stk = bs.reverse ++ st := by
  intro n
  induction n with
  | zero =>
    intro acc stk as st h
    cases h
    exact ⟨[], rfl, rfl, rfl⟩
  | succ n ih =>
    intro acc stk as st h
    cases stk with
    | nil => cases h
    | cons v stk =>
      obtain ⟨bs, h1, h2, h3⟩ := ih (v :: acc) stk as st h
      exact ⟨bs ++ [v], by simp [h1], by simp [h2], by simp [h3]⟩
theorem fx_to_ok {cod : List fx_I} {t : Nat} {q : fx_I} {r : List fx_I} : fx_to cod t = q :: r → q.1 = t ∧ ∀ x ∈ (q :: r), x ∈ cod := by
  induction cod with
  | nil => intro h; cases h
  | cons p cod ih =>
    intro h
    have h : fx_if (Nat.beq p.1 t) (p :: cod) (fx_to cod t) = q :: r := h
    cases hc : Nat.beq p.1 t with
    | true =>
      rw [hc, fx_if_t] at h
      cases h
      exact ⟨fx_beq hc, fun x hx => hx⟩
    | false =>
      rw [hc, fx_if_f] at h
      obtain ⟨h1, h2⟩ := ih h
      exact ⟨h1, fun x hx => List.mem_cons_of_mem _ (h2 x hx)⟩
theorem fx_nx_ok {go : List fx_I → Bool} {pc len : Nat} {tl : List fx_I} (h : fx_nx go pc len tl = true) : ∃ r t, tl = r :: t ∧ r.1 = pc + len ∧ go tl = true := by
  unfold fx_nx at h
  cases tl with
  | nil => cases h
  | cons r t =>
    obtain ⟨h1, h2⟩ := fx_and h
    exact ⟨r, t, rfl, fx_beq h1, h2⟩
end
section
abbrev fx_X : Type := (Nat → Int32) × (Nat × (Nat → Value))
def fx_ad (X : fx_X) (k : Nat) : Value := if k < 1000000 then .ref (X.2.1 + k) else X.2.2 (k - 1000000)
theorem fx_ad_lt {X : fx_X} {k : Nat} (h : k < 1000000) : fx_ad X k = .ref (X.2.1 + k) := by unfold fx_ad; rw [if_pos h]
def fx_rv (X : fx_X) (v : fx_V) (w : Value) : Prop := match v with
  | .inl n => w = .int (Int32.ofNat n)
  | .inr (.inl 0) => ∃ z, w = .int z
  | .inr (.inl (i + 1)) => w = .int (X.1 (i + 1))
  | .inr (.inr (.inl none)) => w = .null
  | .inr (.inr (.inl (some k))) => w = fx_ad X k
  | .inr (.inr (.inr n)) => w = .long (Int64.ofNat n)
def fx_rl (X : fx_X) : List fx_V → List Value → Prop
  | [], [] => True
  | v :: vs, w :: ws => fx_rv X v w ∧ fx_rl X vs ws
  | _, _ => False
def fx_rn (X : fx_X) : fx_L → List (Nat × Value) → Prop
  | [], [] => True
  | v :: vs, w :: ws => (v.1 = w.1 ∧ fx_rv X v.2 w.2) ∧ fx_rn X vs ws
  | _, _ => False
def fx_rj (X : fx_X) (j : fx_J) : Prop := ∀ (i : Nat) (q : Nat × Nat), j[i]? = some q → q.1 ≤ fx_z (X.1 i) ∧ fx_z (X.1 i) ≤ q.2
theorem fx_iv_ok {X : fx_X} {j : fx_J} (h : fx_rj X j) (i : Nat) : (fx_iv j i).1 ≤ fx_z (X.1 i) ∧ fx_z (X.1 i) ≤ (fx_iv j i).2 := by
  unfold fx_iv
  rw [fx_nth_eq]
  cases hj : j[i]? with
  | none => exact ⟨Nat.zero_le _, Nat.le_of_lt_succ (fx_z_max _)⟩
  | some q => exact h i q hj
theorem fx_rl_cons {X : fx_X} {v : fx_V} {vs : List fx_V} {ws : List Value} (h : fx_rl X (v :: vs) ws) : ∃ w ws', ws = w :: ws' ∧ fx_rv X v w ∧ fx_rl X vs ws' := by
  cases ws with
  | nil => exact False.elim h
  | cons w ws => exact ⟨w, ws, rfl, h.1, h.2⟩
theorem fx_rl_nil {X : fx_X} {ws : List Value} (h : fx_rl X [] ws) : ws = [] := by
  cases ws with
  | nil => rfl
  | cons w ws => exact False.elim h
theorem fx_rl_app {X : fx_X} : ∀ {a b : List fx_V} {ws : List Value}, fx_rl X (a ++ b) ws → ∃ w1 w2, ws = w1 ++ w2 ∧ fx_rl X a w1 ∧ fx_rl X b w2 := by
  intro a
  induction a with
  | nil => intro b ws h; exact ⟨[], ws, rfl, trivial, h⟩
  | cons v a ih =>
    intro b ws h
    obtain ⟨w, ws', e, h1, h2⟩ := fx_rl_cons (vs := a ++ b) h
    obtain ⟨w1, w2, e2, h3, h4⟩ := ih h2
    exact ⟨w :: w1, w2, by rw [e, e2]; rfl, ⟨h1, h3⟩, h4⟩
theorem fx_rl_join {X : fx_X} : ∀ {a : List fx_V} {w1 : List Value}, fx_rl X a w1 → ∀ {b : List fx_V} {w2 : List Value}, fx_rl X b w2 → fx_rl X (a ++ b) (w1 ++ w2) := by
  intro a
  induction a with
  | nil => intro w1 h b w2 h2; rw [fx_rl_nil h]; exact h2
  | cons v a ih =>
    intro w1 h b w2 h2
    obtain ⟨w, ws', e, h3, h4⟩ := fx_rl_cons h
    subst e
    exact ⟨h3, ih h4 h2⟩
theorem fx_rl_rev {X : fx_X} : ∀ {a : List fx_V} {w : List Value}, fx_rl X a w → fx_rl X a.reverse w.reverse := by
  intro a
  induction a with
  | nil => intro w h; rw [fx_rl_nil h]; trivial
  | cons v a ih =>
    intro w h
    obtain ⟨x, ws', e, h3, h4⟩ := fx_rl_cons h
    subst e
    rw [List.reverse_cons, List.reverse_cons]
    exact fx_rl_join (ih h4) ⟨h3, trivial⟩
theorem fx_rl_len {X : fx_X} : ∀ {a : List fx_V} {w : List Value}, fx_rl X a w → w.length = a.length := by
  intro a
  induction a with
  | nil => intro w h; rw [fx_rl_nil h]; rfl
  | cons v a ih =>
    intro w h
    obtain ⟨x, ws', e, h3, h4⟩ := fx_rl_cons h
    subst e
    simp [ih h4]
theorem fx_rl_get {X : fx_X} : ∀ {a : List fx_V} {w : List Value}, fx_rl X a w → ∀ {k : Nat} {v : fx_V}, a[k]? = some v → ∃ x, w[k]? = some x ∧ fx_rv X v x := by
  intro a
  induction a with
  | nil => intro w h k v hk; simp at hk
  | cons u a ih =>
    intro w h k v hk
    obtain ⟨x, ws', e, h3, h4⟩ := fx_rl_cons h
    subst e
    cases k with
    | zero =>
      rw [List.getElem?_cons_zero] at hk
      cases hk
      exact ⟨x, rfl, h3⟩
    | succ k =>
      rw [List.getElem?_cons_succ] at hk
      rw [List.getElem?_cons_succ]
      exact ih h4 hk
theorem fx_rl_set {X : fx_X} {v : fx_V} {x : Value} (hv : fx_rv X v x) : ∀ {a : List fx_V} {w : List Value}, fx_rl X a w → ∀ (k : Nat), fx_rl X (a.set k v) (w.set k x) := by
  intro a
  induction a with
  | nil => intro w h k; rw [fx_rl_nil h]; exact trivial
  | cons u a ih =>
    intro w h k
    obtain ⟨y, ws', e, h3, h4⟩ := fx_rl_cons h
    subst e
    cases k with
    | zero => exact ⟨hv, h4⟩
    | succ k => exact ⟨h3, ih h4 k⟩
theorem fx_rn_cons {X : fx_X} {v : Nat × fx_V} {vs : fx_L} {ws : List (Nat × Value)} (h : fx_rn X (v :: vs) ws) : ∃ w ws', ws = w :: ws' ∧ v.1 = w.1 ∧ fx_rv X v.2 w.2 ∧ fx_rn X vs ws' := by
  cases ws with
  | nil => exact False.elim h
  | cons w ws => exact ⟨w, ws, rfl, h.1.1, h.1.2, h.2⟩
theorem fx_rn_nil {X : fx_X} {ws : List (Nat × Value)} (h : fx_rn X [] ws) : ws = [] := by
  cases ws with
  | nil => rfl
  | cons w ws => exact False.elim h
theorem fx_rn_look {X : fx_X} : ∀ {l : fx_L} {lv : List (Nat × Value)}, fx_rn X l lv → ∀ {i : Nat} {v : fx_V}, fx_look l i = some v → ∃ (k : Nat) (x : Value), lv[k]? = some (i, x) ∧ fx_rv X v x := by
  intro l
  induction l with
  | nil => intro lv h i v hv; cases hv
  | cons q l ih =>
    intro lv h i v hv
    obtain ⟨w, ws', e, h1, h2, h3⟩ := fx_rn_cons h
    subst e
    rw [fx_look_cons] at hv
    cases hc : Nat.beq q.1 i with
    | true =>
      rw [hc, fx_if_t] at hv
      cases hv
      refine ⟨0, w.2, ?_, h2⟩
      rw [List.getElem?_cons_zero, ← fx_beq hc, h1]
    | false =>
      rw [hc, fx_if_f] at hv
      obtain ⟨k, x, h4, h5⟩ := ih h3 hv
      exact ⟨k + 1, x, by rw [List.getElem?_cons_succ]; exact h4, h5⟩
theorem fx_cat_ok {X : fx_X} {v : fx_V} {w : Value} (hr : ∀ k, v = fr k → (fx_ad X k).category = 1) (h : fx_rv X v w) : w.category = fx_cat v := by
  rcases v with n | i | r | n
  · have h : w = _ := h
    rw [h]; rfl
  · cases i with
    | zero => obtain ⟨z, h⟩ := h; rw [h]; rfl
    | succ i =>
      have h : w = _ := h
      rw [h]; rfl
  · cases r with
    | none =>
      have h : w = _ := h
      rw [h]; rfl
    | some k =>
      have h : w = _ := h
      rw [h, hr k rfl]; rfl
  · have h : w = _ := h
    rw [h]; rfl
/-- references outside are references, or null -/
def fx_xo (X : fx_X) : Prop := ∀ k, (fx_ad X k).category = 1 ∧ (fx_ad X k = .null ∨ ∃ a, fx_ad X k = .ref a)
theorem fx_cat_of {X : fx_X} (hX : fx_xo X) {v : fx_V} {w : Value} (h : fx_rv X v w) : w.category = fx_cat v := fx_cat_ok (fun k _ => (hX k).1) h
theorem fx_rn_filter {X : fx_X} (hX : fx_xo X) (f : Nat → Nat → Bool) : ∀ {l : fx_L} {lv : List (Nat × Value)}, fx_rn X l lv → fx_rn X (l.filter (fun q => f q.1 (fx_cat q.2))) (lv.filter (fun q => f q.1 q.2.category)) := by
  intro l
  induction l with
  | nil => intro lv h; rw [fx_rn_nil h]; trivial
  | cons q l ih =>
    intro lv h
    obtain ⟨w, ws', e, h1, h2, h3⟩ := fx_rn_cons h
    subst e
    have hc := fx_cat_of hX h2
    cases hf : f q.1 (fx_cat q.2) with
    | true =>
      rw [List.filter_cons_of_pos (p := fun q : Nat × fx_V => f q.1 (fx_cat q.2)) hf, List.filter_cons_of_pos (p := fun q : Nat × Value => f q.1 q.2.category) (by show f w.1 w.2.category = true; rw [hc, ← h1]; exact hf)]
      exact ⟨⟨h1, h2⟩, ih h3⟩
    | false =>
      rw [List.filter_cons_of_neg (p := fun q : Nat × fx_V => f q.1 (fx_cat q.2)) (by show ¬ f q.1 (fx_cat q.2) = true; rw [hf]; simp), List.filter_cons_of_neg (p := fun q : Nat × Value => f q.1 q.2.category) (by show ¬ f w.1 w.2.category = true; rw [hc, ← h1, hf]; simp)]
      exact ih h3
/-- an int, by its picture -/
theorem fx_rv_int {X : fx_X} {v : fx_V} {w : Value} (h : fx_rv X v w) (hi : fx_int v = true) : ∃ z, w = .int z := by
  rcases v with n | i | r | n
  · exact ⟨_, h⟩
  · cases i with
    | zero => exact h
    | succ i => exact ⟨_, h⟩
  · cases hi
  · cases hi
theorem fx_nz_ok {X : fx_X} {j : fx_J} (hj : fx_rj X j) {v : fx_V} {w : Value} (h : fx_rv X v w) {k : fx_V → Bool} (e : fx_nz j v k = true) : ∃ v', k v' = true ∧ fx_rv X v' w ∧ (fx_int v = true → fx_int v' = true) := by
  rcases v with n | i | r | n
  · exact ⟨_, e, h, fun q => q⟩
  · cases i with
    | zero => exact ⟨_, e, h, fun q => q⟩
    | succ i =>
      have e : fx_if (Nat.beq (fx_iv j (i + 1)).1 (fx_iv j (i + 1)).2) (fx_num (fx_b (fx_iv j (i + 1)).1) (fun n => k (fc n))) (k (fv (i + 1))) = true := e
      cases hc : Nat.beq (fx_iv j (i + 1)).1 (fx_iv j (i + 1)).2 with
      | true =>
        rw [hc, fx_if_t, fx_num_eq] at e
        refine ⟨_, e, ?_, fun _ => rfl⟩
        have hq := fx_iv_ok hj (i + 1)
        have he := fx_beq hc
        have hz : (fx_iv j (i + 1)).1 = fx_z (X.1 (i + 1)) := by omega
        show w = .int (Int32.ofNat (fx_b (fx_iv j (i + 1)).1))
        rw [hz, fx_of_z]
        exact h
      | false =>
        rw [hc, fx_if_f] at e
        exact ⟨_, e, h, fun q => q⟩
  · exact ⟨_, e, h, fun q => q⟩
  · exact ⟨_, e, h, fun q => q⟩
theorem fx_val_eq (v : fx_V) (k : fx_V → Bool) : fx_val v k = k v := by
  rcases v with n | i | r | n
  · exact fx_num_eq n (fun n => k (fc n))
  · rfl
  · rfl
  · exact fx_num_eq n (fun n => k (fl n))
theorem fx_rj_put {X : fx_X} {j : fx_J} (hj : fx_rj X j) {i lo hi : Nat} (h : lo ≤ fx_z (X.1 i) ∧ fx_z (X.1 i) ≤ hi) : fx_rj X (j.set i (lo, hi)) := by
  intro n q hq
  by_cases hn : n = i
  · subst hn
    by_cases hl : n < j.length
    · rw [List.getElem?_set_self hl] at hq
      cases hq
      exact h
    · rw [List.set_eq_of_length_le (by omega)] at hq
      exact hj n q hq
  · rw [List.getElem?_set_ne (Ne.symm hn)] at hq
    exact hj n q hq
theorem fx_with_ok {X : fx_X} {j : fx_J} (hj : fx_rj X j) {i lo hi : Nat} (h : lo ≤ fx_z (X.1 i) ∧ fx_z (X.1 i) ≤ hi) {k : fx_J → Bool} (e : fx_with j i lo hi k = true) : ∃ j', k j' = true ∧ fx_rj X j' := by
  unfold fx_with at e
  rw [Nat.ble_eq_true_of_le (Nat.le_trans h.1 h.2), fx_if_t, fx_num_eq, fx_num_eq] at e
  obtain ⟨-, e⟩ := fx_put_ok e
  exact ⟨_, e, fx_rj_put hj h⟩
theorem fx_con_lt (o : Nat) {x y : Nat} (h : x < y) : fx_con o x y = fx_con o 0 1 := by
  unfold fx_con
  have h1 : Nat.beq x y = false := by
    cases hb : Nat.beq x y with
    | true => exact absurd (fx_beq hb) (by omega)
    | false => rfl
  have h2 : Nat.blt x y = true := Nat.ble_eq_true_of_le h
  have h3 : Nat.ble y x = false := by
    cases hb : Nat.ble y x with
    | true => exact absurd (fx_ble hb) (by omega)
    | false => rfl
  have h4 : Nat.blt y x = false := by
    cases hb : Nat.blt y x with
    | true => exact absurd (fx_blt hb) (by omega)
    | false => rfl
  have h5 : Nat.ble x y = true := Nat.ble_eq_true_of_le (by omega)
  rw [h1, h2, h3, h4, h5]
  rfl
theorem fx_con_gt (o : Nat) {x y : Nat} (h : y < x) : fx_con o x y = fx_con o 1 0 := by
  unfold fx_con
  have h1 : Nat.beq x y = false := by
    cases hb : Nat.beq x y with
    | true => exact absurd (fx_beq hb) (by omega)
    | false => rfl
  have h2 : Nat.blt x y = false := by
    cases hb : Nat.blt x y with
    | true => exact absurd (fx_blt hb) (by omega)
    | false => rfl
  have h3 : Nat.ble y x = true := Nat.ble_eq_true_of_le (by omega)
  have h4 : Nat.blt y x = true := Nat.ble_eq_true_of_le h
  have h5 : Nat.ble x y = false := by
    cases hb : Nat.ble x y with
    | true => exact absurd (fx_ble hb) (by omega)
    | false => rfl
  rw [h1, h2, h3, h4, h5]
  rfl
theorem fx_con_eq (o x : Nat) : fx_con o x x = fx_con o 0 0 := by
  unfold fx_con
  have h2 : Nat.blt x x = false := by
    cases hb : Nat.blt x x with
    | true => exact absurd (fx_blt hb) (by omega)
    | false => rfl
  rw [Nat.beq_refl, h2, Nat.ble_eq_true_of_le (Nat.le_refl x)]
  rfl
theorem fx_cut_ok {X : fx_X} {j : fx_J} (hj : fx_rj X j) {o i y : Nat} {k : Bool → fx_J → Bool} (e : fx_cut o j i y k = true) : ∃ j', k (fx_con o (fx_z (X.1 i)) y) j' = true ∧ fx_rj X j' := by
  unfold fx_cut at e
  have hq := fx_iv_ok hj i
  cases h1 : Nat.blt (fx_iv j i).2 y with
  | true =>
    rw [h1, fx_if_t] at e
    have := fx_blt h1
    exact ⟨j, by rw [fx_con_lt o (by omega)]; exact e, hj⟩
  | false =>
    rw [h1, fx_if_f] at e
    cases h2 : Nat.blt y (fx_iv j i).1 with
    | true =>
      rw [h2, fx_if_t] at e
      have := fx_blt h2
      exact ⟨j, by rw [fx_con_gt o (by omega)]; exact e, hj⟩
    | false =>
      rw [h2, fx_if_f] at e
      obtain ⟨e1, e⟩ := fx_and e
      obtain ⟨e2, e3⟩ := fx_and e
      rcases Nat.lt_trichotomy (fx_z (X.1 i)) y with h | h | h
      · rcases fx_or e1 with e1 | e1
        · have := fx_beq e1
          omega
        · obtain ⟨j', h3, h4⟩ := fx_with_ok hj ⟨hq.1, by omega⟩ e1
          exact ⟨j', by rw [fx_con_lt o h]; exact h3, h4⟩
      · obtain ⟨j', h3, h4⟩ := fx_with_ok hj ⟨by omega, by omega⟩ e2
        exact ⟨j', by rw [h, fx_con_eq]; exact h3, h4⟩
      · obtain ⟨j', h3, h4⟩ := fx_with_ok hj ⟨by omega, hq.2⟩ e3
        exact ⟨j', by rw [fx_con_gt o h]; exact h3, h4⟩
theorem fx_con_swap {o : Nat} (ho : o < 6) (x y : Nat) : fx_con (fx_swap o) y x = fx_con o x y := by
  have key : ∀ o, o < 6 → (fx_con (fx_swap o) 0 1 = fx_con o 1 0 ∧ fx_con (fx_swap o) 1 0 = fx_con o 0 1 ∧ fx_con (fx_swap o) 0 0 = fx_con o 0 0) := by decide +kernel
  rcases Nat.lt_trichotomy x y with h | h | h
  · rw [fx_con_gt _ h, fx_con_lt _ h, (key o ho).2.1]
  · rw [h, fx_con_eq, (key o ho).2.2, fx_con_eq o y]
  · rw [fx_con_lt _ h, fx_con_gt _ h, (key o ho).1]
theorem fx_cmp_ok {X : fx_X} {j : fx_J} (hj : fx_rj X j) {o : Nat} (ho : o < 6) {x y : fx_V} {w u : Value} (hx : fx_rv X x w) (hy : fx_rv X y u) {k : Bool → fx_J → Bool} (e : fx_cmp o j x y k = true) : ∃ (a b : Int32) (j' : fx_J), w = .int a ∧ u = .int b ∧ k (fx_con o (fx_z a) (fx_z b)) j' = true ∧ fx_rj X j' := by
  rcases x with a | i | r | n
  · rcases y with b | i2 | r2 | n2
    · refine ⟨_, _, j, hx, hy, ?_, hj⟩
      rw [fx_z_of, fx_z_of]
      exact e
    · cases i2 with
      | zero => cases e
      | succ i2 =>
        obtain ⟨j', h1, h2⟩ := fx_cut_ok (o := fx_swap o) hj e
        refine ⟨_, _, j', hx, hy, ?_, h2⟩
        rw [fx_con_swap ho, ← fx_z_of] at h1
        exact h1
    · cases e
    · cases e
  · cases i with
    | zero =>
      rcases y with b | i2 | r2 | n2 <;> cases e
    | succ i =>
      rcases y with b | i2 | r2 | n2
      · obtain ⟨j', h1, h2⟩ := fx_cut_ok (o := o) hj e
        refine ⟨_, _, j', hx, hy, ?_, h2⟩
        rw [← fx_z_of] at h1
        exact h1
      · cases i2 with
        | zero => cases e
        | succ i2 =>
          obtain ⟨e1, e2⟩ := fx_and e
          have := fx_beq e1
          subst this
          refine ⟨_, _, j, hx, hy, ?_, hj⟩
          rw [fx_con_eq]
          exact e2
      · cases e
      · cases e
  · rcases y with b | i2 | r2 | n2 <;> cases e
  · rcases y with b | i2 | r2 | n2 <;> cases e
theorem fx_few_ok {X : fx_X} {j : fx_J} (hj : fx_rj X j) {v : fx_V} {i lo n : Nat} (h : fx_few j v = some (i, lo, n)) : lo ≤ fx_z (X.1 i) ∧ fx_z (X.1 i) ≤ lo + n := by
  rcases v with a | i0 | r | m
  · cases h
  · cases i0 with
    | zero => cases h
    | succ i0 =>
      have h : fx_if (Nat.ble ((fx_iv j (i0 + 1)).2 - (fx_iv j (i0 + 1)).1) 20) (some (i0 + 1, (fx_iv j (i0 + 1)).1, (fx_iv j (i0 + 1)).2 - (fx_iv j (i0 + 1)).1)) none = some (i, lo, n) := h
      cases hc : Nat.ble ((fx_iv j (i0 + 1)).2 - (fx_iv j (i0 + 1)).1) 20 with
      | true =>
        rw [hc, fx_if_t] at h
        have hq := fx_iv_ok hj (i0 + 1)
        cases h
        omega
      | false =>
        rw [hc, fx_if_f] at h
        cases h
  · cases h
  · cases h
theorem fx_each_ok {X : fx_X} {j : fx_J} (hj : fx_rj X j) {i lo : Nat} {k : fx_J → Bool} : ∀ {n : Nat}, fx_each j i lo n k = true → lo ≤ fx_z (X.1 i) → fx_z (X.1 i) ≤ lo + n → ∃ j', k j' = true ∧ fx_rj X j' := by
  intro n
  induction n with
  | zero => intro e h1 h2; exact fx_with_ok hj ⟨h1, h2⟩ e
  | succ n ih =>
    intro e h1 h2
    obtain ⟨e1, e2⟩ := fx_and (a := fx_with j i (lo + (n + 1)) (lo + (n + 1)) k) (b := fx_each j i lo n k) e
    by_cases h : fx_z (X.1 i) = lo + (n + 1)
    · exact fx_with_ok hj ⟨by omega, by omega⟩ e1
    · exact ih e2 h1 (by omega)
end
section
def fx_op (o : Nat) (a b : Int32) : Int32 := match o with
  | 0 => a + b
  | 1 => a - b
  | 2 => a * b
  | 3 => a / b
  | 4 => a - a / b * b
  | 5 => a &&& b
  | 6 => a ||| b
  | 7 => a ^^^ b
  | 8 => a <<< (b &&& 31)
  | 9 => a >>> (b &&& 31)
  | _ => (a.toUInt32 >>> (b.toUInt32 &&& Int32.toUInt32 31)).toInt32
theorem fx_bin_ok {o x y n : Nat} (h : fx_bin o x y = some n) : o < 11 ∧ Int32.ofNat n = fx_op o (Int32.ofNat x) (Int32.ofNat y) ∧ (o = 3 ∨ o = 4 → ¬ Int32.ofNat y = 0) := by
  rcases o with _ | _ | _ | _ | _ | _ | _ | _ | _ | _ | _ | o
  · cases h; exact ⟨by decide, fx_o_add x y, by omega⟩
  · cases h; exact ⟨by decide, fx_o_sub x y, by omega⟩
  · cases h; exact ⟨by decide, fx_o_mul x y, by omega⟩
  · have h : fx_if (Nat.blt x 2147483648 && (Nat.blt y 2147483648 && Nat.blt 0 y)) (some (x / y)) none = some n := h
    cases hc : (Nat.blt x 2147483648 && (Nat.blt y 2147483648 && Nat.blt 0 y)) with
    | false => rw [hc, fx_if_f] at h; cases h
    | true =>
      rw [hc, fx_if_t] at h
      cases h
      obtain ⟨h1, h2⟩ := fx_and hc
      obtain ⟨h2, h3⟩ := fx_and h2
      exact ⟨by decide, fx_o_div (fx_blt h1) (fx_blt h2), fun _ => fx_o_ne (fx_blt h2) (fx_blt h3)⟩
  · have h : fx_if (Nat.blt x 2147483648 && (Nat.blt y 2147483648 && Nat.blt 0 y)) (some (x % y)) none = some n := h
    cases hc : (Nat.blt x 2147483648 && (Nat.blt y 2147483648 && Nat.blt 0 y)) with
    | false => rw [hc, fx_if_f] at h; cases h
    | true =>
      rw [hc, fx_if_t] at h
      cases h
      obtain ⟨h1, h2⟩ := fx_and hc
      obtain ⟨h2, h3⟩ := fx_and h2
      exact ⟨by decide, fx_o_rem (fx_blt h1) (fx_blt h2), fun _ => fx_o_ne (fx_blt h2) (fx_blt h3)⟩
  · cases h; exact ⟨by decide, fx_o_and x y, by omega⟩
  · cases h; exact ⟨by decide, fx_o_or x y, by omega⟩
  · cases h; exact ⟨by decide, fx_o_xor x y, by omega⟩
  · have h : fx_if (Nat.blt y 32) (some (Nat.shiftLeft x y % 4294967296)) none = some n := h
    cases hc : Nat.blt y 32 with
    | false => rw [hc, fx_if_f] at h; cases h
    | true =>
      rw [hc, fx_if_t] at h
      cases h
      exact ⟨by decide, fx_o_shl (fx_blt hc), by omega⟩
  · have h : fx_if (Nat.blt x 2147483648 && Nat.blt y 32) (some (Nat.shiftRight x y)) none = some n := h
    cases hc : (Nat.blt x 2147483648 && Nat.blt y 32) with
    | false => rw [hc, fx_if_f] at h; cases h
    | true =>
      rw [hc, fx_if_t] at h
      cases h
      obtain ⟨h1, h2⟩ := fx_and hc
      exact ⟨by decide, fx_o_shr (fx_blt h1) (fx_blt h2), by omega⟩
  · have h : fx_if (Nat.blt x 4294967296 && Nat.blt y 32) (some (Nat.shiftRight x y)) none = some n := h
    cases hc : (Nat.blt x 4294967296 && Nat.blt y 32) with
    | false => rw [hc, fx_if_f] at h; cases h
    | true =>
      rw [hc, fx_if_t] at h
      cases h
      obtain ⟨h1, h2⟩ := fx_and hc
      exact ⟨by decide, (fx_o_ushr (fx_blt h1) (fx_blt h2)).symm, by omega⟩
  · cases h
theorem fx_rv_var {X : fx_X} {i : Nat} {w : Value} (h : fx_rv X (fv i) w) : ∃ z, w = .int z := by
  cases i with
  | zero => exact h
  | succ i => exact ⟨_, h⟩
theorem fx_z0 : Int32.ofNat 0 = 0 := rfl
theorem fx_bis_ok {X : fx_X} (h7 : X.1 7 = X.1 1 &&& 63) {o : Nat} (ho : o < 11) {x y w : fx_V} {u t : Value} (hx : fx_rv X x u) (hy : fx_rv X y t) (h : fx_bis o x y = some w) : ∃ a b, u = .int a ∧ t = .int b ∧ fx_rv X w (.int (fx_op o a b)) ∧ (o = 3 ∨ o = 4 → ¬ b = 0) := by
  rcases x with n | i | r | n
  · rcases y with n2 | i2 | r2 | n2
    · have h : (match fx_bin o n n2 with | some n => some (fc n) | none => none) = some w := h
      cases hb : fx_bin o n n2 with
      | none => rw [hb] at h; cases h
      | some m =>
        rw [hb] at h
        cases h
        obtain ⟨-, h1, h2⟩ := fx_bin_ok hb
        exact ⟨_, _, hx, hy, by show Value.int _ = .int _; rw [h1], h2⟩
    · have h : fx_if (Nat.beq o 0 && Nat.beq n 0) (some (fv i2)) (fx_if (Nat.beq o 2 && Nat.beq n 0) (some (fc 0)) (fx_if (Nat.beq o 3 || Nat.beq o 4) none (some (fv 0)))) = some w := h
      obtain ⟨z, hz⟩ := fx_rv_var hy
      cases h1 : (Nat.beq o 0 && Nat.beq n 0) with
      | true =>
        rw [h1, fx_if_t] at h
        cases h
        obtain ⟨e1, e2⟩ := fx_and h1
        have e1 := fx_beq e1
        have e2 := fx_beq e2
        subst e1; subst e2
        refine ⟨_, z, hx, hz, ?_, by omega⟩
        show fx_rv X (fv i2) (.int (Int32.ofNat 0 + z))
        rw [fx_z0, Int32.zero_add, ← hz]
        exact hy
      | false =>
        rw [h1, fx_if_f] at h
        cases h2 : (Nat.beq o 2 && Nat.beq n 0) with
        | true =>
          rw [h2, fx_if_t] at h
          cases h
          obtain ⟨e1, e2⟩ := fx_and h2
          have e1 := fx_beq e1
          have e2 := fx_beq e2
          subst e1; subst e2
          refine ⟨_, z, hx, hz, ?_, by omega⟩
          show Value.int (Int32.ofNat 0 * z) = .int (Int32.ofNat 0)
          rw [fx_z0, Int32.zero_mul]
        | false =>
          rw [h2, fx_if_f] at h
          cases h3 : (Nat.beq o 3 || Nat.beq o 4) with
          | true => rw [h3, fx_if_t] at h; cases h
          | false =>
            rw [h3, fx_if_f] at h
            cases h
            refine ⟨_, z, hx, hz, ⟨_, rfl⟩, fun q => ?_⟩
            rcases q with q | q <;> subst q <;> cases h3
    · cases h
    · cases h
  · rcases y with n2 | i2 | r2 | n2
    · have h : fx_if (Nat.beq o 0 && Nat.beq n2 0) (some (fv i)) (fx_if (Nat.beq o 2 && Nat.beq n2 0) (some (fc 0)) (fx_if (Nat.beq o 5 && (Nat.beq n2 63 && Nat.beq i 1)) (some (fv 7)) (fx_if ((Nat.beq o 3 || Nat.beq o 4) && (Nat.beq (n2 % 4294967296) 0)) none (some (fv 0))))) = some w := h
      obtain ⟨z, hz⟩ := fx_rv_var hx
      cases h1 : (Nat.beq o 0 && Nat.beq n2 0) with
      | true =>
        rw [h1, fx_if_t] at h
        cases h
        obtain ⟨e1, e2⟩ := fx_and h1
        have e1 := fx_beq e1
        have e2 := fx_beq e2
        subst e1; subst e2
        refine ⟨z, _, hz, hy, ?_, by omega⟩
        show fx_rv X (fv i) (.int (z + Int32.ofNat 0))
        rw [fx_z0, Int32.add_zero, ← hz]
        exact hx
      | false =>
        rw [h1, fx_if_f] at h
        cases h2 : (Nat.beq o 2 && Nat.beq n2 0) with
        | true =>
          rw [h2, fx_if_t] at h
          cases h
          obtain ⟨e1, e2⟩ := fx_and h2
          have e1 := fx_beq e1
          have e2 := fx_beq e2
          subst e1; subst e2
          refine ⟨z, _, hz, hy, ?_, by omega⟩
          show Value.int (z * Int32.ofNat 0) = .int (Int32.ofNat 0)
          rw [fx_z0, Int32.mul_zero]
        | false =>
          rw [h2, fx_if_f] at h
          cases h3 : (Nat.beq o 5 && (Nat.beq n2 63 && Nat.beq i 1)) with
          | true =>
            rw [h3, fx_if_t] at h
            cases h
            obtain ⟨e1, e2⟩ := fx_and h3
            obtain ⟨e2, e3⟩ := fx_and e2
            have e1 := fx_beq e1
            have e2 := fx_beq e2
            have e3 := fx_beq e3
            subst e1; subst e2; subst e3
            have hx : u = .int (X.1 1) := hx
            refine ⟨X.1 1, _, hx, hy, ?_, by omega⟩
            show Value.int (X.1 1 &&& Int32.ofNat 63) = .int (X.1 7)
            rw [h7]
            rfl
          | false =>
            rw [h3, fx_if_f] at h
            cases h4 : ((Nat.beq o 3 || Nat.beq o 4) && (Nat.beq (n2 % 4294967296) 0)) with
            | true => rw [h4, fx_if_t] at h; cases h
            | false =>
              rw [h4, fx_if_f] at h
              cases h
              refine ⟨z, _, hz, hy, ⟨_, rfl⟩, fun q hq => ?_⟩
              have e : Nat.beq (n2 % 4294967296) 0 = false := by
                rcases q with q | q <;> subst q <;> simpa using h4
              have e2 := fx_bnq e
              rw [← fx_o_mod] at hq
              have hb : n2 % 4294967296 < 4294967296 := Nat.mod_lt _ (by decide)
              have h9 := congrArg fx_z hq
              rw [show (0 : Int32) = Int32.ofNat 0 from rfl, fx_z_of, fx_z_of] at h9
              have h9 : (n2 % 4294967296 + 2147483648) % 4294967296 = 2147483648 := h9
              omega
    · have h : fx_if (Nat.beq o 3 || Nat.beq o 4) none (some (fv 0)) = some w := h
      obtain ⟨z, hz⟩ := fx_rv_var hx
      obtain ⟨z2, hz2⟩ := fx_rv_var hy
      cases h3 : (Nat.beq o 3 || Nat.beq o 4) with
      | true => rw [h3, fx_if_t] at h; cases h
      | false =>
        rw [h3, fx_if_f] at h
        cases h
        refine ⟨z, z2, hz, hz2, ⟨_, rfl⟩, fun q => ?_⟩
        rcases q with q | q <;> subst q <;> cases h3
    · cases h
    · cases h
  · rcases y with n2 | i2 | r2 | n2 <;> cases h
  · rcases y with n2 | i2 | r2 | n2 <;> cases h
/-- arrays -/
theorem fx_aget_def (ty : Nat) (u : List (Nat × fx_V)) (n : Nat) : fx_aget ty u n = (match fx_look u n with
  | some v => v
  | none => fx_dft ty) := rfl
theorem fx_veq_ok {X : fx_X} {x y : fx_V} (h : fx_veq x y = true) : x = y := by
  rcases x with a | a | a | a <;> rcases y with b | b | b | b
  · have := fx_beq (show Nat.beq a b = true from h); rw [this]
  · cases h
  · cases h
  · cases h
  · cases a <;> cases h
  · cases a with
    | zero => cases h
    | succ a =>
      cases b with
      | zero => cases h
      | succ b => have := fx_beq (show Nat.beq a b = true from h); rw [this]
  · cases a <;> cases h
  · cases a <;> cases h
  · cases a <;> cases h
  · cases a <;> cases h
  · cases a with
    | none =>
      cases b with
      | none => rfl
      | some b => cases h
    | some a =>
      cases b with
      | none => cases h
      | some b => have := fx_beq (show Nat.beq a b = true from h); rw [this]
  · cases a <;> cases h
  · cases h
  · cases h
  · cases h
  · have := fx_beq (show Nat.beq a b = true from h); rw [this]
theorem fx_aset_ok {ty : Nat} {u : List (Nat × fx_V)} {n : Nat} {v : fx_V} {k : List (Nat × fx_V) → Bool} (e : fx_aset ty u n v k = true) : ∃ u', k u' = true ∧ fx_aget ty u' n = v ∧ ∀ i, i ≠ n → fx_aget ty u' i = fx_aget ty u i := by
  unfold fx_aset at e
  cases h1 : fx_veq v (fx_aget ty u n) with
  | true =>
    rw [h1, fx_if_t] at e
    exact ⟨u, e, (fx_veq_ok (X := (fun _ => 0, 0, fun _ => .null)) h1).symm, fun _ _ => rfl⟩
  | false =>
    rw [h1, fx_if_f, fx_without_eq] at e
    cases h2 : fx_veq v (fx_dft ty) with
    | true =>
      rw [h2, fx_if_t] at e
      refine ⟨_, e, ?_, fun i hi => ?_⟩
      · rw [fx_aget_def, fx_look_gone]
        exact (fx_veq_ok (X := (fun _ => 0, 0, fun _ => .null)) h2).symm
      · rw [fx_aget_def, fx_aget_def, fx_look_out i n hi]
    | false =>
      rw [h2, fx_if_f] at e
      refine ⟨_, e, ?_, fun i hi => ?_⟩
      · rw [fx_aget_def, fx_look_hit]
      · rw [fx_aget_def, fx_aget_def, fx_look_miss _ _ (Ne.symm hi), fx_look_out i n hi]
theorem fx_copy_ok {s d : List (Nat × fx_V)} {sp dp : Nat} : ∀ {n : Nat} {k : List (Nat × fx_V) → Bool}, fx_copy s d sp dp n k = true → ∃ u, k u = true ∧ ∀ i, fx_aget 0 u i = if dp ≤ i ∧ i < dp + n then fx_aget 0 s (sp + (i - dp)) else fx_aget 0 d i := by
  intro n
  induction n with
  | zero =>
    intro k e
    exact ⟨d, e, fun i => by rw [if_neg (by omega)]⟩
  | succ n ih =>
    intro k e
    obtain ⟨u, e1, h1⟩ := ih (k := fun u => fx_aset 0 u (dp + n) (fx_aget 0 s (sp + n)) k) e
    obtain ⟨u', e2, h2, h3⟩ := fx_aset_ok e1
    refine ⟨u', e2, fun i => ?_⟩
    by_cases hi : i = dp + n
    · subst hi
      rw [h2, if_pos (by omega), show dp + n - dp = n by omega]
    · rw [h3 i hi, h1 i]
      by_cases hc : dp ≤ i ∧ i < dp + n
      · rw [if_pos hc, if_pos (by omega)]
      · rw [if_neg hc, if_neg (by omega)]
end
section
/-- the words that stay -/
def fx_tb : List Cond := lw_tbl.filter goodWord
theorem fx_tbi {w : Cond} (h1 : w ∈ lw_tbl) (h2 : goodWord w = true) : w ∈ fx_tb := List.mem_filter.mpr ⟨h1, h2⟩
abbrev fx_cl : List vw_C := [(RX0, TX0, 3), (RX1, TX1, 4), (RX2, TX2, 7), (RX3, TX3, 18), (RX4, TX4, 4), (RX5, TX5, 3), (RX6, TX6, 5), (RX7, TX7, 8), (RX8, TX8, 11), (RX9, TX9, 16), (RX10, TX10, 73)]
def fx_ty (t : Nat) : FieldType := match t with
  | 0 => .int
  | 1 => .byte
  | 2 => .boolean
  | _ => .long
def fx_i0 (a b : Nat) : Instr × Nat := match b with
  | 0 => (.iload_n (Fin.ofNat 4 a), 1)
  | 1 => (.iload a, 2)
  | 2 => (.aload_n (Fin.ofNat 4 a), 1)
  | 3 => (.aload a, 2)
  | 4 => (.lload_n (Fin.ofNat 4 a), 1)
  | _ => (.lload a, 2)
def fx_i11 (a b : Nat) : Instr × Nat := match b with
  | 0 => (.istore_n (Fin.ofNat 4 a), 1)
  | 1 => (.istore a, 2)
  | 2 => (.astore_n (Fin.ofNat 4 a), 1)
  | 3 => (.astore a, 2)
  | 4 => (.lstore_n (Fin.ofNat 4 a), 1)
  | _ => (.lstore a, 2)
def fx_i2 (a b c : Nat) : Instr × Nat := match a with
  | 0 => (.iconst (Int32.ofNat c).toInt, 1)
  | 1 => (.bipush (Int32.ofNat c).toInt, 2)
  | 2 => (.sipush (Int32.ofNat c).toInt, 3)
  | 3 => (.ldc b, 2)
  | 4 => (.ldc_w b, 3)
  | 5 => (.lconst (Fin.ofNat 2 c), 1)
  | 6 => (.ldc2_w b, 3)
  | _ => (.aconst_null, 1)
def fx_cc (a : Nat) : Jvm.ClassFile.Cond := match a with
  | 0 => .eq
  | 1 => .ne
  | 2 => .lt
  | 3 => .ge
  | 4 => .gt
  | _ => .le
def fx_bop (o : Nat) : Instr := match o with
  | 0 => .iadd
  | 1 => .isub
  | 2 => .imul
  | 3 => .idiv
  | 4 => .irem
  | 5 => .iand
  | 6 => .ior
  | 7 => .ixor
  | 8 => .ishl
  | 9 => .ishr
  | _ => .iushr
def fx_uop (o : Nat) : Instr := match o with
  | 0 => .ineg
  | 1 => .i2b
  | 2 => .i2c
  | _ => .i2l
def fx_lop (o : Nat) : Instr := match o with
  | 0 => .ladd
  | 1 => .lsub
  | 2 => .lmul
  | _ => .lor
def fx_sop (o : Nat) : Instr := match o with
  | 0 => .dup
  | 1 => .pop
  | 2 => .dup2
  | 3 => .dup_x1
  | _ => .dup_x2
def fx_aop (o : Nat) : Instr := match o with
  | 0 => .iaload
  | 1 => .baload
  | _ => .laload
def fx_asp (o : Nat) : Instr := match o with
  | 0 => .iastore
  | 1 => .bastore
  | _ => .lastore
def fx_at (o : Nat) : ArrayType := match o with
  | 0 => .int
  | 1 => .byte
  | 2 => .boolean
  | _ => .long
def fx_rop (o : Nat) : Instr := match o with
  | 0 => .ireturn
  | 1 => .return_
  | _ => .lreturn
def fx_cop (a b : Nat) : Instr := match a with
  | 0 => .invokevirtual b
  | 1 => .invokespecial b
  | 2 => .invokestatic b
  | 3 => .invokespecial b
  | _ => .invokestatic b
noncomputable def fx_tl (c : Nat) : List Nat := fx_swt c
noncomputable def fx_ins (pc kd a b c : Nat) : Instr × Nat := match kd with
  | 0 => fx_i0 a b
  | 1 => (.getfield a, 3)
  | 2 => fx_i2 a b c
  | 3 => (.if_icmp (fx_cc a) ((b : Int) - (pc : Int)), 3)
  | 4 => (.ifCond (fx_cc a) ((b : Int) - (pc : Int)), 3)
  | 5 => (.goto ((b : Int) - (pc : Int)), 3)
  | 6 => (fx_aop a, 1)
  | 7 => (.iinc a (Int32.ofNat b).toInt, 3)
  | 8 => (fx_asp a, 1)
  | 9 => (fx_cop a b, 3)
  | 10 => (fx_rop a, 1)
  | 11 => fx_i11 a b
  | 12 => (fx_bop a, 1)
  | 13 => (fx_uop a, 1)
  | 14 => (.putfield a, 3)
  | 15 => (fx_sop a, 1)
  | 16 => (.new a, 3)
  | 17 => (.newarray (fx_at a), 2)
  | 18 => (.arraylength, 1)
  | 19 => (match a with
    | 0 => .ifnull ((b : Int) - (pc : Int))
    | _ => .ifnonnull ((b : Int) - (pc : Int)), 3)
  | 20 => (.tableswitch ((a : Int) - (pc : Int)) b ((b : Int) + (fx_swt c).length - 1) ((fx_swt c).map (fun (t : Nat) => (t : Int) - (pc : Int))).toArray, 13 + (3 - pc % 4) + 4 * (fx_swt c).length)
  | 21 => (.lookupswitch ((a : Int) - (pc : Int)) ((fx_swt c).mapIdx (fun i (t : Nat) => ((b : Int) + i, (t : Int) - (pc : Int)))).toArray, 9 + (3 - pc % 4) + 8 * (fx_swt c).length)
  | 22 => (.invokespecial a, 3)
  | 23 => (.invokestatic a, 3)
  | 24 => (fx_lop a, 1)
  | 25 => (.getfield a, 3)
  | 26 => (.getstatic a, 3)
  | 29 => (.invokestatic a, 3)
  | 30 => (.lcmp, 1)
  | 31 => (.lshl, 1)
  | _ => (.ldc a, 2)
/-- the methods by number: name, bytes, slots, type -/
abbrev fx_S : Type := MethodName × (ByteArray × (Nat × Option FieldType))
abbrev fx_nst : List (String × (Nat × (MethodName × String))) := [("FaceSenate", 9, yX4_init, "FaceSenate"), ("FaceSenate$Plan", 36, yX1_init, "FaceSenate"), ("FaceSenate", 25, yX6_init, "FaceSenate"), ("FaceSenate", 32, yX8_init, "FaceSenate"), ("FaceSenate$Trial", 11, yX6_init, "FaceSenate"), ("FaceSenate", 39, yX0_init, "FaceSenate"), ("FaceSenate", 55, yX2_init, "FaceSenate"), ("FaceSenate$Trial", 132, yX9_within, "FaceSenate")]
abbrev fx_lit : String := "hall by district mood member for at look light tooth of draw or and not face near beside bright stoic news step row column "
/-- a field by its number, as an instruction of own names it -/
def fx_fo (own : String) (a ci k : Nat) : Prop := ∃ (C : String) (T : u_T) (N : Nat), fx_cl[ci]? = some (C, T, N) ∧ k < N ∧ Cond.fieldLink own a (T k).1 (T k).2.1 (T k).2.2.1 ∈ fx_tb
def fx_tag (t : Nat) (ty : FieldType) : Prop := (t = 0 ∧ ty = .int) ∨ (t = 2 ∧ ty = .boolean) ∨ (t = 3 ∧ ty = .long) ∨ (t = 4 ∧ ((∃ n, ty = .object n) ∨ ∃ n, ty = .array n))
def fx_pf (own : String) (ini : Bool) (ci k t : Nat) : Prop := ∃ (C : String) (T : u_T) (N : Nat) (ty : FieldType), fx_cl[ci]? = some (C, T, N) ∧ k < N ∧ parseFieldDescriptor (T k).2.2.1 = some ty ∧ fx_tag t ty ∧ ((T k).2.2.2 = true → ini = true ∧ (T k).1 = own)
def fx_kw (own : String) (a b c : Nat) : Prop := (a = 1 → (Int8.ofInt (Int32.ofNat c).toInt).toInt32 = Int32.ofNat c) ∧ (a = 2 → (Int16.ofInt (Int32.ofNat c).toInt).toInt32 = Int32.ofNat c) ∧ (a = 3 ∨ a = 4 → Cond.constant own b (Int32.ofNat c) ∈ fx_tb) ∧ (a = 5 → c < 2) ∧ (a = 6 → Cond.constantLong own b (Int64.ofNat c) ∈ fx_tb)
/-- a call of the method number c -/
def fx_ca (ms : Nat → Option fx_S) (mt : Nat → Option fx_M) (own : String) (a b c : Nat) : Prop := ∃ (y : MethodName) (cc : ByteArray) (nL : Nat) (rt : Option FieldType) (M : fx_M), ms c = some (y, cc, nL, rt) ∧ mt c = some M ∧
  (a = 0 → Cond.methodLink own b y ∈ fx_tb ∧ Cond.instanceMethod y ∈ fx_tb ∧ Cond.selects y.cls y y ∈ fx_tb ∧ ((∃ ci T N, M.2.2.2.2.1 = ci + 2 ∧ M.2.2.2.2.1 ≠ 99 ∧ fx_cl[ci]? = some (y.cls, T, N)) ∨ (M.2.2.2.2.1 = 99 ∧ y.cls = "java/lang/String"))) ∧
  (a = 1 → Cond.methodLink own b y ∈ fx_tb ∧ Cond.instanceMethod y ∈ fx_tb ∧ y.name = "<init>" ∧ rt = none ∧ M.2.2.2.2.1 = 1) ∧
  (a = 2 → Cond.methodLink own b y ∈ fx_tb ∧ Cond.static y ∈ fx_tb ∧ M.2.2.2.2.1 = 0) ∧
  (a = 3 → (own, b, y, "FaceSenate") ∈ fx_nst ∧ Cond.instanceMethod y ∈ fx_tb ∧ y.name = "<init>" ∧ rt = none ∧ M.2.2.2.2.1 = 1) ∧
  (a = 4 → (own, b, y, "FaceSenate") ∈ fx_nst ∧ Cond.static y ∈ fx_tb ∧ M.2.2.2.2.1 = 0)
def fx_rk (b : Nat) (rt : Option FieldType) : Prop := (b = 0 ∧ rt = none) ∨ (b = 1 ∧ rt = some .int) ∨ (b = 2 ∧ rt = some .boolean) ∨ (b = 3 ∧ rt = some .long) ∨ (b = 4 ∧ rt = some .char) ∨ (b = 5 ∧ rt = some .byte)
def fx_an (ms : Nat → Option fx_S) (mt : Nat → Option fx_M) (own : String) (ini : Bool) (rt : Option FieldType) (nL kd a b c : Nat) : Prop :=
  (kd = 0 ∨ kd = 11 → b = 0 ∨ b = 2 ∨ b = 4 → a < 4) ∧ (kd = 1 → fx_fo own a b c) ∧ (kd = 2 → fx_kw own a b c) ∧ (kd = 9 → fx_ca ms mt own a b c) ∧
  (kd = 10 → fx_rk b rt ∧ (a = 0 ∨ (a = 1 ∧ b = 0) ∨ (a = 2 ∧ b = 3))) ∧ (kd = 12 → a < 11) ∧ (kd = 13 → a < 4) ∧ (kd = 14 → fx_fo own a b (c / 8) ∧ fx_pf own ini b (c / 8) (c % 8)) ∧
  (kd = 16 → ∃ C T N, fx_cl[b]? = some (C, T, N) ∧ Cond.classLink own a C ∈ fx_tb) ∧ (kd = 20 ∨ kd = 21 → b < 2147483648 ∧ b + (fx_swt c).length < 2147483648 ∧ 0 < (fx_swt c).length) ∧
  (kd = 22 → Cond.methodLink own a Lib.objectInit ∈ fx_tb) ∧ (kd = 23 → Cond.methodLink own a arraycopyName ∈ fx_tb) ∧ (kd = 24 → a < 4) ∧
  (kd = 25 → (b = 0 → Cond.fieldLink own a "java/lang/String" "value" "[B" ∈ fx_tb) ∧ (b = 1 → Cond.fieldLink own a "java/lang/String" "coder" "B" ∈ fx_tb)) ∧
  (kd = 26 → (b = 0 → Cond.fieldLink own a "java/lang/String" "COMPACT_STRINGS" "Z" ∈ fx_tb) ∧ (b = 1 → Cond.fieldLink own a "jdk/internal/util/Preconditions" "SIOOBE_FORMATTER" "Ljava/util/function/BiFunction;" ∈ fx_tb)) ∧
  (kd = 27 → own = "FaceSenate$Tape" ∧ (a = 39 ∨ a = 73)) ∧ (kd = 11 → a + 1 < nL ∨ (a < nL ∧ b < 4)) ∧ (kd = 21 → (fx_swt c).length = 2) ∧ (kd = 29 → (b = 0 → Cond.methodLink own a Lib.Math.max.name ∈ fx_tb) ∧ (b = 1 → Cond.methodLink own a Lib.Math.min.name ∈ fx_tb) ∧ (b = 2 → Cond.methodLink own a Lib.Math.abs.name ∈ fx_tb))
abbrev fx_Y : Type := va_G × ((Nat → ClassId) × (Heap × Heap))
def fx_rc (X : fx_X) (Y : fx_Y) (c : fx_C) (a : Nat) (H : Heap) : Prop := match c with
  | .inl _ => H[a]? = Y.2.2.2[a]?
  | .inr (.inl (ci, fs)) => ∃ (q : vw_C) (vs : List Value), fx_cl[ci]? = some q ∧ vs.length = q.2.2 ∧ fx_rl X fs vs ∧ t_OB a (Y.1.1 ci) q.2.2 (Y.1.2 ci) H (vp_V vs)
  | .inr (.inr (ty, n, u)) => ∃ f : Nat → Value, H[a]? = some (arrV (Y.2.1 ty) n f) ∧ n < 2147483648 ∧ ty < 4 ∧ ∀ i, fx_rv X (fx_aget ty u i) (f i)
def fx_rh (X : fx_X) (Y : fx_Y) (h : fx_H) (H : Heap) : Prop := H.size = X.2.1 + h.1 ∧ (∀ (k : Nat) (c : fx_C), fx_hget h k = some c → k < h.1 ∧ k < 1000000 ∧ fx_rc X Y c (X.2.1 + k) H) ∧ ∀ q : Nat, q < X.2.1 → H[q]? = Y.2.2.1[q]?
/-- what lies outside: the script, a text and its bytes, a static that is passed on -/
abbrev fx_B : Type := Nat × (Nat × ((Nat → Int32) × (Nat × Nat)))
abbrev fx_lit2 : String := ";()<>=+-*/%"
def fx_txt2 : List Nat := [59, 40, 41, 60, 62, 61, 43, 45, 42, 47, 37]
/-- the other text -/
def fx_l2 (X : fx_X) (Y : fx_Y) (U : State) : Prop := ∃ a2 b2 : Nat, fx_ad X 1000004 = .ref a2 ∧ fx_ad X 1000005 = .ref b2 ∧ vk_R "FaceSenate$Tape" 73 fx_lit2 a2 U ∧
  va_O "java/lang/String" a2 (fun q => X.2.1 ≤ q) U Y.2.2.1 ∧ va_OF "java/lang/String" "value" "[B" (.ref b2) a2 (fun q => X.2.1 ≤ q) U Y.2.2.1 ∧ va_OF "java/lang/String" "coder" "B" (.int 0) a2 (fun q => X.2.1 ≤ q) U Y.2.2.1 ∧
  va_T .byte b2 11 (fun j => .int (Int32.ofNat (fx_txt2.getD j 0))) (fun q => X.2.1 ≤ q) U Y.2.2.1
def fx_cx (X : fx_X) (Y : fx_Y) (B : fx_B) (U : State) : Prop :=
  (∀ (ci : Nat) (q : vw_C), fx_cl[ci]? = some q → u_Kn U q.1 q.2.1 q.2.2 (Y.1.1 ci) (Y.1.2 ci)) ∧
  (∀ t, t < 4 → ArrOfT U (Y.2.1 t) (fx_ty t) ∧ U.vm.findClass ("[" ++ (fx_ty t).toString) = some (Y.2.1 t)) ∧
  (∀ q ∈ fx_nst, va_Nw (.methodLinkNest q.1 q.2.1 q.2.2.1 q.2.2.2) U) ∧
  (vk_R "FaceSenate$Tape" 39 fx_lit B.2.2.2.1 U ∧ fx_l2 X Y U) ∧
  va_Z "java/lang/String" "COMPACT_STRINGS" "Z" (.int 1) (fun q => X.2.1 ≤ q) U Y.2.2.1 ∧
  va_Z "jdk/internal/util/Preconditions" "SIOOBE_FORMATTER" "Ljava/util/function/BiFunction;" (fx_ad X 1000003) (fun q => X.2.1 ≤ q) U Y.2.2.1 ∧
  va_O "java/lang/String" B.2.2.2.1 (fun q => X.2.1 ≤ q) U Y.2.2.1 ∧
  va_OF "java/lang/String" "value" "[B" (.ref B.2.2.2.2) B.2.2.2.1 (fun q => X.2.1 ≤ q) U Y.2.2.1 ∧
  va_OF "java/lang/String" "coder" "B" (.int 0) B.2.2.2.1 (fun q => X.2.1 ≤ q) U Y.2.2.1 ∧
  va_T .byte B.2.2.2.2 123 (fun j => .int (Int32.ofNat (fx_txt.getD j 0))) (fun q => X.2.1 ≤ q) U Y.2.2.1 ∧
  va_X B.1 B.2.1 B.2.2.1 U Y.2.2.1
/-- what holds of the numbers for good -/
def fx_xx (X : fx_X) (B : fx_B) : Prop := fx_xo X ∧ X.1 7 = X.1 1 &&& 63 ∧ (∀ n, n < 6 → X.1 (n + 1) = B.2.2.1 n) ∧ X.1 8 = Int32.ofNat B.2.1 ∧ B.2.1 ≤ 3072 ∧ fx_ad X 1000000 = .ref B.1 ∧ fx_ad X 1000001 = .ref B.2.2.2.1 ∧ fx_ad X 1000002 = .ref B.2.2.2.2 ∧ B.1 < X.2.1
theorem fx_l2.moved {X : fx_X} {Y : fx_Y} {u U : State} (hW : u.WarmedH U.vm) (h : fx_l2 X Y u) : fx_l2 X Y U := by
  have hvm : u.vm.Alike U.vm := hW.alike
  obtain ⟨a2, b2, h1, h2, h3, h4, h5, h6, h7⟩ := h
  exact ⟨a2, b2, h1, h2, vk_R.warm hW h3, va_O.moved hvm h4, va_OF.moved hvm h5, va_OF.moved hvm h6, va_T.moved hvm h7⟩
theorem fx_cx.moved {X : fx_X} {Y : fx_Y} {B : fx_B} {u U : State} (hW : u.WarmedH U.vm) (h : fx_cx X Y B u) : fx_cx X Y B U := by
  have hvm : u.vm.Alike U.vm := hW.alike
  obtain ⟨h1, h2, h3, h4, h5, h6, h7, h8, h9, h10, h11⟩ := h
  exact ⟨fun ci q hq => u_Kn_moved hvm (h1 ci q hq), fun t ht => ⟨arrOfT_moved hvm (h2 t ht).1, by rw [hvm.findClass]; exact (h2 t ht).2⟩, fun q hq => va_Nw.warmM hW (h3 q hq), ⟨vk_R.warm hW h4.1, fx_l2.moved hW h4.2⟩, va_Z.moved hvm h5, va_Z.moved hvm h6, va_O.moved hvm h7, va_OF.moved hvm h8, va_OF.moved hvm h9, va_T.moved hvm h10, va_X.moved hvm h11⟩
def fx_rets (rt : Option FieldType) (cc : ByteArray) (pc : Nat) (w : Option Value) : Prop := (w = none ∧ rt = none ∧ decode cc pc = .ok (.return_, 1)) ∨ (∃ (z : Int32) (ty : FieldType), w = some (.int z) ∧ rt = some ty ∧ narrow ty (.int z) = .int z ∧ decode cc pc = .ok (.ireturn, 1)) ∨ (∃ z : Int64, w = some (.long z) ∧ rt = some .long ∧ decode cc pc = .ok (.lreturn, 1))
def fx_ro (X : fx_X) (v : Option fx_V) (w : Option Value) : Prop := match v, w with
  | none, none => True
  | some v, some w => fx_rv X v w
  | _, _ => False
def fx_fs (X : fx_X) (Y : fx_Y) (B : fx_B) (ms : Nat → Option fx_S) (mt : Nat → Option fx_M) (p : Program) (s : State) (m : MethodId) (args : Array Value) (meth : Method) (c : Code) (cc : ByteArray) (nL : Nat) (own : String) (ini : Bool) (rt : Option FieldType) (cod : List fx_I) : Prop :=
  p.tables.exec = Jvm.exec ∧ c.code = cc ∧ c.maxLocals = nL ∧ s.vm.findClass own = some m.cls ∧ (∀ w ∈ fx_tb, w.before args s = true) ∧ meth.locks = false ∧ (ini = true → meth.name = "<init>") ∧ meth.sig.returnType = rt ∧ fx_cx X Y B s ∧ X.2.1 ≤ s.heap.size ∧
  ∀ pc kd a b d, (pc, kd, a, b, d) ∈ cod → kd ≠ 28 → decode cc pc = .ok (fx_ins pc kd a b d) ∧ fx_an ms mt own ini rt nL kd a b d
def fx_pc (l : List fx_I) : Nat := match l with
  | [] => 0
  | q :: _ => q.1
/-- frames, room, what is held -/
def fx_rm (R : Room) (d mc ms : Nat) : Prop := d ≤ R.frames ∧ 60 * d ≤ R.locals ∧ mc ≤ R.cells ∧ ms ≤ R.slots
def fx_ls (X : fx_X) (locs : List Loc) : Prop := ∀ q ∈ locs, X.2.1 ≤ q.base
def fx_st (X : fx_X) (Y : fx_Y) (nL : Nat) (loc : fx_L) (stk : List fx_V) (h : fx_H) (j : fx_J) (H : Heap) (locs : List Loc) (ls : Array Slot) (st : List Value) : Prop := (∃ lv, lv_has ls nL lv ∧ fx_rn X loc lv) ∧ fx_rl X stk st ∧ fx_rh X Y h H ∧ fx_rj X j ∧ fx_ls X locs
end
section
noncomputable def fx_cd (c : Nat) : Option (List fx_V) := fx_nth fx_cdl c
def fx_dv (v : fx_V) : Value := match v with
  | .inl _ => .int 0
  | .inr (.inr (.inr _)) => .long 0
  | _ => .null
def fx_isd (v : fx_V) : Bool := match v with
  | .inl n => Nat.beq n 0
  | .inr (.inr (.inr n)) => Nat.beq n 0
  | .inr (.inr (.inl none)) => true
  | _ => false
theorem fx_isd_ok {X : fx_X} : ∀ {fs : List fx_V}, fs.all fx_isd = true → fx_rl X fs (fs.map fx_dv) := by
  intro fs
  induction fs with
  | nil => intro _; trivial
  | cons v fs ih =>
    intro hh
    rw [List.all_cons] at hh
    obtain ⟨h1, h2⟩ := fx_and hh
    refine ⟨?_, ih h2⟩
    rcases v with n | i | r | n
    · have := fx_beq h1
      subst this
      rfl
    · cases h1
    · cases r with
      | none => rfl
      | some k => cases h1
    · have := fx_beq h1
      subst this
      rfl
def fx_kf (C : String) (T : u_T) (N : Nat) (fs : List fx_V) : Prop := (∀ w ∈ u_ws C T N, w ∈ fx_tb) ∧ (∃ ty : Nat → FieldType, (∀ k, k < N → parseFieldDescriptor (T k).2.2.1 = some (ty k)) ∧ ∀ j, j < N → defaultValue (ty j) = vp_V (fs.map fx_dv) j) ∧ (∀ a, a < N → ∀ b, b < N → a ≠ b → (T a).2.1 ≠ (T b).2.1) ∧ Cond.instantiable C N ∈ fx_tb ∧ Cond.initialized C ∈ fx_tb ∧ fs.length = N ∧ fs.all fx_isd = true
theorem fk_in0 : ∀ w ∈ u_ws RX0 TX0 3, w ∈ lw_tbl := by decide +kernel
theorem fk_ii0 : Cond.instantiable RX0 3 ∈ lw_tbl ∧ Cond.initialized RX0 ∈ lw_tbl := by decide +kernel
abbrev fk_d0 : List fx_V := [fz, fc 0, fc 0]
theorem fk_v0 : ∀ j, j < 3 → defaultValue (tyX0 j) = vp_V (fk_d0.map fx_dv) j := by decide +kernel
theorem fk_g0 : ∀ w ∈ u_ws RX0 TX0 3, goodWord w = true := by decide +kernel
theorem fk_0 : fx_kf RX0 TX0 3 fk_d0 := ⟨fun w hw => fx_tbi (fk_in0 w hw) (fk_g0 w hw), ⟨tyX0, tyX0_ok, fk_v0⟩, nmX0, fx_tbi fk_ii0.1 rfl, fx_tbi fk_ii0.2 rfl, rfl, by decide +kernel⟩
theorem fk_in1 : ∀ w ∈ u_ws RX1 TX1 4, w ∈ lw_tbl := by decide +kernel
theorem fk_ii1 : Cond.instantiable RX1 4 ∈ lw_tbl ∧ Cond.initialized RX1 ∈ lw_tbl := by decide +kernel
abbrev fk_d1 : List fx_V := [fz, fz, fc 0, fc 0]
theorem fk_v1 : ∀ j, j < 4 → defaultValue (tyX1 j) = vp_V (fk_d1.map fx_dv) j := by decide +kernel
theorem fk_g1 : ∀ w ∈ u_ws RX1 TX1 4, goodWord w = true := by decide +kernel
theorem fk_1 : fx_kf RX1 TX1 4 fk_d1 := ⟨fun w hw => fx_tbi (fk_in1 w hw) (fk_g1 w hw), ⟨tyX1, tyX1_ok, fk_v1⟩, nmX1, fx_tbi fk_ii1.1 rfl, fx_tbi fk_ii1.2 rfl, rfl, by decide +kernel⟩
theorem fk_in2 : ∀ w ∈ u_ws RX2 TX2 7, w ∈ lw_tbl := by decide +kernel
theorem fk_ii2 : Cond.instantiable RX2 7 ∈ lw_tbl ∧ Cond.initialized RX2 ∈ lw_tbl := by decide +kernel
abbrev fk_d2 : List fx_V := [fz, fz, fz, fz, fz, fz, fc 0]
theorem fk_v2 : ∀ j, j < 7 → defaultValue (tyX2 j) = vp_V (fk_d2.map fx_dv) j := by decide +kernel
theorem fk_g2 : ∀ w ∈ u_ws RX2 TX2 7, goodWord w = true := by decide +kernel
theorem fk_2 : fx_kf RX2 TX2 7 fk_d2 := ⟨fun w hw => fx_tbi (fk_in2 w hw) (fk_g2 w hw), ⟨tyX2, tyX2_ok, fk_v2⟩, nmX2, fx_tbi fk_ii2.1 rfl, fx_tbi fk_ii2.2 rfl, rfl, by decide +kernel⟩
theorem fk_in3 : ∀ w ∈ u_ws RX3 TX3 18, w ∈ lw_tbl := by decide +kernel
theorem fk_ii3 : Cond.instantiable RX3 18 ∈ lw_tbl ∧ Cond.initialized RX3 ∈ lw_tbl := by decide +kernel
abbrev fk_d3 : List fx_V := [fz, fz, fz, fz, fz, fz, fz, fz, fz, fc 0, fc 0, fc 0, fc 0, fc 0, fc 0, fc 0, fc 0, fc 0]
theorem fk_v3 : ∀ j, j < 18 → defaultValue (tyX3 j) = vp_V (fk_d3.map fx_dv) j := by decide +kernel
theorem fk_g3 : ∀ w ∈ u_ws RX3 TX3 18, goodWord w = true := by decide +kernel
theorem fk_3 : fx_kf RX3 TX3 18 fk_d3 := ⟨fun w hw => fx_tbi (fk_in3 w hw) (fk_g3 w hw), ⟨tyX3, tyX3_ok, fk_v3⟩, nmX3, fx_tbi fk_ii3.1 rfl, fx_tbi fk_ii3.2 rfl, rfl, by decide +kernel⟩
theorem fk_in4 : ∀ w ∈ u_ws RX4 TX4 4, w ∈ lw_tbl := by decide +kernel
theorem fk_ii4 : Cond.instantiable RX4 4 ∈ lw_tbl ∧ Cond.initialized RX4 ∈ lw_tbl := by decide +kernel
abbrev fk_d4 : List fx_V := [fz, fz, fc 0, fc 0]
theorem fk_v4 : ∀ j, j < 4 → defaultValue (tyX4 j) = vp_V (fk_d4.map fx_dv) j := by decide +kernel
theorem fk_g4 : ∀ w ∈ u_ws RX4 TX4 4, goodWord w = true := by decide +kernel
theorem fk_4 : fx_kf RX4 TX4 4 fk_d4 := ⟨fun w hw => fx_tbi (fk_in4 w hw) (fk_g4 w hw), ⟨tyX4, tyX4_ok, fk_v4⟩, nmX4, fx_tbi fk_ii4.1 rfl, fx_tbi fk_ii4.2 rfl, rfl, by decide +kernel⟩
theorem fk_in5 : ∀ w ∈ u_ws RX5 TX5 3, w ∈ lw_tbl := by decide +kernel
theorem fk_ii5 : Cond.instantiable RX5 3 ∈ lw_tbl ∧ Cond.initialized RX5 ∈ lw_tbl := by decide +kernel
abbrev fk_d5 : List fx_V := [fc 0, fz, fz]
theorem fk_v5 : ∀ j, j < 3 → defaultValue (tyX5 j) = vp_V (fk_d5.map fx_dv) j := by decide +kernel
theorem fk_g5 : ∀ w ∈ u_ws RX5 TX5 3, goodWord w = true := by decide +kernel
theorem fk_5 : fx_kf RX5 TX5 3 fk_d5 := ⟨fun w hw => fx_tbi (fk_in5 w hw) (fk_g5 w hw), ⟨tyX5, tyX5_ok, fk_v5⟩, nmX5, fx_tbi fk_ii5.1 rfl, fx_tbi fk_ii5.2 rfl, rfl, by decide +kernel⟩
theorem fk_in6 : ∀ w ∈ u_ws RX6 TX6 5, w ∈ lw_tbl := by decide +kernel
theorem fk_ii6 : Cond.instantiable RX6 5 ∈ lw_tbl ∧ Cond.initialized RX6 ∈ lw_tbl := by decide +kernel
abbrev fk_d6 : List fx_V := [fz, fz, fc 0, fc 0, fc 0]
theorem fk_v6 : ∀ j, j < 5 → defaultValue (tyX6 j) = vp_V (fk_d6.map fx_dv) j := by decide +kernel
theorem fk_g6 : ∀ w ∈ u_ws RX6 TX6 5, goodWord w = true := by decide +kernel
theorem fk_6 : fx_kf RX6 TX6 5 fk_d6 := ⟨fun w hw => fx_tbi (fk_in6 w hw) (fk_g6 w hw), ⟨tyX6, tyX6_ok, fk_v6⟩, nmX6, fx_tbi fk_ii6.1 rfl, fx_tbi fk_ii6.2 rfl, rfl, by decide +kernel⟩
theorem fk_in7 : ∀ w ∈ u_ws RX7 TX7 8, w ∈ lw_tbl := by decide +kernel
theorem fk_ii7 : Cond.instantiable RX7 8 ∈ lw_tbl ∧ Cond.initialized RX7 ∈ lw_tbl := by decide +kernel
abbrev fk_d7 : List fx_V := [fz, fz, fc 0, fc 0, fc 0, fc 0, fc 0, fl 0]
theorem fk_v7 : ∀ j, j < 8 → defaultValue (tyX7 j) = vp_V (fk_d7.map fx_dv) j := by decide +kernel
theorem fk_g7 : ∀ w ∈ u_ws RX7 TX7 8, goodWord w = true := by decide +kernel
theorem fk_7 : fx_kf RX7 TX7 8 fk_d7 := ⟨fun w hw => fx_tbi (fk_in7 w hw) (fk_g7 w hw), ⟨tyX7, tyX7_ok, fk_v7⟩, nmX7, fx_tbi fk_ii7.1 rfl, fx_tbi fk_ii7.2 rfl, rfl, by decide +kernel⟩
theorem fk_in8 : ∀ w ∈ u_ws RX8 TX8 11, w ∈ lw_tbl := by decide +kernel
theorem fk_ii8 : Cond.instantiable RX8 11 ∈ lw_tbl ∧ Cond.initialized RX8 ∈ lw_tbl := by decide +kernel
abbrev fk_d8 : List fx_V := [fz, fz, fz, fz, fz, fz, fz, fz, fz, fz, fz]
theorem fk_v8 : ∀ j, j < 11 → defaultValue (tyX8 j) = vp_V (fk_d8.map fx_dv) j := by decide +kernel
theorem fk_g8 : ∀ w ∈ u_ws RX8 TX8 11, goodWord w = true := by decide +kernel
theorem fk_8 : fx_kf RX8 TX8 11 fk_d8 := ⟨fun w hw => fx_tbi (fk_in8 w hw) (fk_g8 w hw), ⟨tyX8, tyX8_ok, fk_v8⟩, nmX8, fx_tbi fk_ii8.1 rfl, fx_tbi fk_ii8.2 rfl, rfl, by decide +kernel⟩
theorem fk_in9 : ∀ w ∈ u_ws RX9 TX9 16, w ∈ lw_tbl := by decide +kernel
theorem fk_ii9 : Cond.instantiable RX9 16 ∈ lw_tbl ∧ Cond.initialized RX9 ∈ lw_tbl := by decide +kernel
abbrev fk_d9 : List fx_V := [fz, fz, fz, fz, fz, fz, fz, fz, fz, fz, fz, fc 0, fc 0, fc 0, fc 0, fc 0]
theorem fk_v9 : ∀ j, j < 16 → defaultValue (tyX9 j) = vp_V (fk_d9.map fx_dv) j := by decide +kernel
theorem fk_g9 : ∀ w ∈ u_ws RX9 TX9 16, goodWord w = true := by decide +kernel
theorem fk_9 : fx_kf RX9 TX9 16 fk_d9 := ⟨fun w hw => fx_tbi (fk_in9 w hw) (fk_g9 w hw), ⟨tyX9, tyX9_ok, fk_v9⟩, nmX9, fx_tbi fk_ii9.1 rfl, fx_tbi fk_ii9.2 rfl, rfl, by decide +kernel⟩
theorem fk_in10 : ∀ w ∈ u_ws RX10 TX10 73, w ∈ lw_tbl := by decide +kernel
theorem fk_ii10 : Cond.instantiable RX10 73 ∈ lw_tbl ∧ Cond.initialized RX10 ∈ lw_tbl := by decide +kernel
abbrev fk_d10 : List fx_V := [fz, fz, fc 0, fc 0, fc 0, fc 0, fc 0, fc 0, fc 0, fc 0, fl 0, fz, fz, fz, fz, fz, fz, fz, fz, fz, fz, fz, fz, fz, fz, fz, fz, fz, fz, fz, fz, fz, fz, fz, fz, fz, fz, fc 0, fc 0, fc 0, fc 0, fc 0, fc 0, fc 0, fc 0, fc 0, fc 0, fc 0, fc 0, fc 0, fz, fz, fz, fc 0, fc 0, fz, fz, fc 0, fz, fz, fz, fz, fz, fz, fz, fz, fz, fz, fz, fc 0, fc 0, fz, fz]
theorem fk_v10 : ∀ j, j < 73 → defaultValue (tyX10 j) = vp_V (fk_d10.map fx_dv) j := by decide +kernel
theorem fk_g10 : ∀ w ∈ u_ws RX10 TX10 73, goodWord w = true := by decide +kernel
theorem fk_10 : fx_kf RX10 TX10 73 fk_d10 := ⟨fun w hw => fx_tbi (fk_in10 w hw) (fk_g10 w hw), ⟨tyX10, tyX10_ok, fk_v10⟩, nmX10, fx_tbi fk_ii10.1 rfl, fx_tbi fk_ii10.2 rfl, rfl, by decide +kernel⟩
theorem fx_clok {ci : Nat} {C : String} {T : u_T} {N : Nat} (hh : fx_cl[ci]? = some (C, T, N)) : ∃ fs, fx_cdl[ci]? = some fs ∧ fx_kf C T N fs := by
  rcases ci with _ | _ | _ | _ | _ | _ | _ | _ | _ | _ | _ | ci
  · cases hh; exact ⟨fk_d0, rfl, fk_0⟩
  · cases hh; exact ⟨fk_d1, rfl, fk_1⟩
  · cases hh; exact ⟨fk_d2, rfl, fk_2⟩
  · cases hh; exact ⟨fk_d3, rfl, fk_3⟩
  · cases hh; exact ⟨fk_d4, rfl, fk_4⟩
  · cases hh; exact ⟨fk_d5, rfl, fk_5⟩
  · cases hh; exact ⟨fk_d6, rfl, fk_6⟩
  · cases hh; exact ⟨fk_d7, rfl, fk_7⟩
  · cases hh; exact ⟨fk_d8, rfl, fk_8⟩
  · cases hh; exact ⟨fk_d9, rfl, fk_9⟩
  · cases hh; exact ⟨fk_d10, rfl, fk_10⟩
  · rw [List.getElem?_eq_none (by simp)] at hh
    cases hh
end
section
section FXA
variable {l : Launch} {X : fx_X} {Y : fx_Y} {B : fx_B} {mst : Nat → Option fx_S} {mt : Nat → Option fx_M} {p : Program} {e : Env} {R : Room} {s : State} {m : MethodId} {args : Array Value} {below : List Frame} {meth : Method} {c : Code} {Q : State → Prop} {cc : ByteArray} {nL : Nat} {own : String} {ini : Bool} {rt : Option FieldType} {cod : List fx_I} {mc msl : Nat}
variable {go : fx_O} {pc a b d ce sl : Nat} {tl : List fx_I} {loc : fx_L} {stk : List fx_V} {h : fx_H} {j : fx_J} {H : Heap} {locs : List Loc} {ls : Array Slot} {st : List Value}
def fx_gok (l : Launch) (X : fx_X) (Y : fx_Y) (p : Program) (e : Env) (R : Room) (s : State) (m : MethodId) (args : Array Value) (below : List Frame) (meth : Method) (c : Code) (Q : State → Prop) (nL : Nat) (cod : List fx_I) (mc msl : Nat) (go : fx_O) : Prop :=
  (∀ loc stk ce sl h j, go [] loc stk ce sl h j = false) ∧ ∀ at_ loc stk ce sl h j, go at_ loc stk ce sl h j = true → (∀ q ∈ at_, q ∈ cod) → ∀ H locs ls st, fx_st X Y nL loc stk h j H locs ls st → ce ≤ mc → sl ≤ msl → W p l e R s m args below meth c H locs ce sl Q (F0 m (fx_pc at_) ls st)
theorem fx_nxt (hgo : fx_gok l X Y p e R s m args below meth c Q nL cod mc msl go) (htl : ∀ q ∈ tl, q ∈ cod) {len : Nat} (ee : fx_nx (fun t => go t loc stk ce sl h j) pc len tl = true) (hs : fx_st X Y nL loc stk h j H locs ls st) (hce : ce ≤ mc) (hsl : sl ≤ msl) : W p l e R s m args below meth c H locs ce sl Q (F0 m (pc + len) ls st) := by
  obtain ⟨r, t, rfl, h1, h2⟩ := fx_nx_ok ee
  have K := hgo.2 _ _ _ _ _ _ _ h2 htl H locs ls st hs hce hsl
  rw [show fx_pc (r :: t) = pc + len from h1] at K
  exact K
theorem fx_jmp (hgo : fx_gok l X Y p e R s m args below meth c Q nL cod mc msl go) {t : Nat} (ee : go (fx_to cod t) loc stk ce sl h j = true) (hs : fx_st X Y nL loc stk h j H locs ls st) (hce : ce ≤ mc) (hsl : sl ≤ msl) : W p l e R s m args below meth c H locs ce sl Q (F0 m t ls st) := by
  cases ht : fx_to cod t with
  | nil => rw [ht, hgo.1] at ee; cases ee
  | cons q r =>
    obtain ⟨h1, h2⟩ := fx_to_ok ht
    rw [ht] at ee
    have K := hgo.2 _ _ _ _ _ _ _ ee h2 H locs ls st hs hce hsl
    rw [show fx_pc (q :: r) = t from h1] at K
    exact K
theorem fx_fin4 {a : Nat} (h : a < 4) : ((Fin.ofNat 4 a : Fin 4) : Nat) = a := Nat.mod_eq_of_lt h
theorem fx_six {b : Nat} (h : b < 6) : b = 0 ∨ b = 1 ∨ b = 2 ∨ b = 3 ∨ b = 4 ∨ b = 5 := by omega
theorem fx_form_int {b : Nat} {v : fx_V} (h : fx_form b v = true) (hb : b = 0 ∨ b = 1) : fx_int v = true := by
  rcases v with n | i | r | n
  · rfl
  · rfl
  · rcases hb with rfl | rfl <;> cases h
  · rcases hb with rfl | rfl <;> cases h
theorem fx_form_ref {X : fx_X} (hX : fx_xo X) {b : Nat} {v : fx_V} {w : Value} (h : fx_form b v = true) (hb : b = 2 ∨ b = 3) (hr : fx_rv X v w) : w = .null ∨ ∃ a, w = .ref a := by
  rcases v with n | i | r | n
  · rcases hb with rfl | rfl <;> cases h
  · rcases hb with rfl | rfl <;> cases h
  · cases r with
    | none => exact Or.inl hr
    | some k =>
      have hr : w = fx_ad X k := hr
      rw [hr]
      exact (hX k).2
  · rcases hb with rfl | rfl <;> cases h
theorem fx_form_long {X : fx_X} {b : Nat} {v : fx_V} {w : Value} (h : fx_form b v = true) (hb : b = 4 ∨ b = 5) (hr : fx_rv X v w) : ∃ z, w = .long z := by
  rcases v with n | i | r | n
  · rcases hb with rfl | rfl <;> cases h
  · rcases hb with rfl | rfl <;> cases h
  · rcases hb with rfl | rfl <;> cases h
  · exact ⟨_, hr⟩
theorem fx_s0 (F : fx_fs X Y B mst mt p s m args meth c cc nL own ini rt cod) (hX : fx_xo X) (hgo : fx_gok l X Y p e R s m args below meth c Q nL cod mc msl go) (hin : (pc, 0, a, b, d) ∈ cod) (htl : ∀ q ∈ tl, q ∈ cod) (ee : fx_k0 go pc a b tl loc stk ce sl h j = true) (hs : fx_st X Y nL loc stk h j H locs ls st) (hce : ce ≤ mc) (hsl : sl ≤ msl) : W p l e R s m args below meth c H locs ce sl Q (F0 m pc ls st) := by
  obtain ⟨hx, hb, -, -, -, -, -, -, -, -, hcod⟩ := F
  obtain ⟨hd, ha⟩ := hcod _ _ _ _ _ hin (by decide)
  have ha := ha.1 (Or.inl rfl)
  obtain ⟨⟨lv, hlv, hrn⟩, hst, hrh, hrj, hls⟩ := hs
  unfold fx_k0 at ee
  cases hv : fx_look loc a with
  | none => rw [hv] at ee; cases ee
  | some v =>
    rw [hv] at ee
    simp only at ee
    obtain ⟨e1, e2⟩ := fx_and ee
    obtain ⟨ef, eb⟩ := fx_and e1
    obtain ⟨k, x, hk, hrv⟩ := fx_rn_look hrn hv
    obtain ⟨v', e3, hrv', -⟩ := fx_nz_ok hrj hrv e2
    have hl := lv_at hlv k hk
    have K := fx_nxt hgo htl e3 (H := H) (locs := locs) (ls := ls) (st := x :: st) ⟨⟨lv, hlv, hrn⟩, ⟨hrv', hst⟩, hrh, hrj, hls⟩ hce hsl
    rcases fx_six (fx_blt eb) with rfl | rfl | rfl | rfl | rfl | rfl
    · obtain ⟨z, rfl⟩ := fx_rv_int hrv (fx_form_int ef (Or.inl rfl))
      exact lv_iload_n hx hb hd (fx_fin4 (ha (by omega))) hl K
    · obtain ⟨z, rfl⟩ := fx_rv_int hrv (fx_form_int ef (Or.inr rfl))
      exact lv_iload hx hb hd hl K
    · rcases fx_form_ref hX ef (Or.inl rfl) hrv with rfl | ⟨q, rfl⟩
      · exact lv_aload_nN hx hb hd (fx_fin4 (ha (by omega))) hl K
      · exact lv_aload_n hx hb hd (fx_fin4 (ha (by omega))) hl K
    · rcases fx_form_ref hX ef (Or.inr rfl) hrv with rfl | ⟨q, rfl⟩
      · exact lv_aloadN hx hb hd hl K
      · exact lv_aload hx hb hd hl K
    · obtain ⟨z, rfl⟩ := fx_form_long ef (Or.inl rfl) hrv
      exact lv_lload_n hx hb hd (fx_fin4 (ha (by omega))) hl K
    · obtain ⟨z, rfl⟩ := fx_form_long ef (Or.inr rfl) hrv
      exact lv_lload hx hb hd hl K
theorem fx_beqd (a b : Nat) : Nat.beq a b = (a == b) := by
  rw [Bool.eq_iff_iff]
  simp [Nat.beq_eq]
/-- a store into a slot of one -/
theorem fx_rn_store1 {X : fx_X} (hX : fx_xo X) {loc : fx_L} {lv : List (Nat × Value)} (hrn : fx_rn X loc lv) {a : Nat} {v : fx_V} {x : Value} (hrv : fx_rv X v x) : fx_rn X ((a, v) :: loc.filter (fun q => !(Nat.beq q.1 a || (Nat.beq (q.1 + 1) a && Nat.beq (fx_cat q.2) 2)))) ((a, x) :: lv.filter (fun q => !(q.1 == a) && !(q.1 + 1 == a && q.2.category == 2))) := by
  refine ⟨⟨rfl, hrv⟩, ?_⟩
  have h1 := fx_rn_filter hX (fun i k => !(i == a) && !(i + 1 == a && k == 2)) hrn
  have e : (fun q : Nat × fx_V => !(Nat.beq q.1 a || (Nat.beq (q.1 + 1) a && Nat.beq (fx_cat q.2) 2))) = (fun q : Nat × fx_V => !(q.1 == a) && !(q.1 + 1 == a && fx_cat q.2 == 2)) := by
    funext q
    rw [Bool.not_or]
    simp only [fx_beqd]
  rw [e]
  exact h1
theorem fx_rn_store2 {X : fx_X} (hX : fx_xo X) {loc : fx_L} {lv : List (Nat × Value)} (hrn : fx_rn X loc lv) {a : Nat} {v : fx_V} {x : Value} (hrv : fx_rv X v x) : fx_rn X ((a, v) :: loc.filter (fun q => !(Nat.beq q.1 a || (Nat.beq q.1 (a + 1) || (Nat.beq (q.1 + 1) a && Nat.beq (fx_cat q.2) 2))))) ((a, x) :: lv.filter (fun q => !(q.1 == a) && (!(q.1 == a + 1) && !(q.1 + 1 == a && q.2.category == 2)))) := by
  refine ⟨⟨rfl, hrv⟩, ?_⟩
  have h1 := fx_rn_filter hX (fun i k => !(i == a) && (!(i == a + 1) && !(i + 1 == a && k == 2))) hrn
  have e : (fun q : Nat × fx_V => !(Nat.beq q.1 a || (Nat.beq q.1 (a + 1) || (Nat.beq (q.1 + 1) a && Nat.beq (fx_cat q.2) 2)))) = (fun q : Nat × fx_V => !(q.1 == a) && (!(q.1 == a + 1) && !(q.1 + 1 == a && fx_cat q.2 == 2))) := by
    funext q
    rw [Bool.not_or, Bool.not_or]
    simp only [fx_beqd]
  rw [e]
  exact h1
theorem fx_store_ok {loc : fx_L} {a : Nat} {v : fx_V} {k : fx_L → Bool} (ee : fx_store loc a v k = true) : (fx_cat v = 1 ∧ k ((a, v) :: loc.filter (fun q => !(Nat.beq q.1 a || (Nat.beq (q.1 + 1) a && Nat.beq (fx_cat q.2) 2)))) = true) ∨ (fx_cat v = 2 ∧ k ((a, v) :: loc.filter (fun q => !(Nat.beq q.1 a || (Nat.beq q.1 (a + 1) || (Nat.beq (q.1 + 1) a && Nat.beq (fx_cat q.2) 2))))) = true) := by
  rcases v with n | i | r | n
  · have ee : fx_drop loc a (fun t => k ((a, fc n) :: t)) = true := ee
    rw [fx_drop_eq] at ee
    exact Or.inl ⟨rfl, ee⟩
  · have ee : fx_drop loc a (fun t => k ((a, fv i) :: t)) = true := ee
    rw [fx_drop_eq] at ee
    exact Or.inl ⟨rfl, ee⟩
  · have ee : fx_drop loc a (fun t => k ((a, .inr (.inr (.inl r))) :: t)) = true := ee
    rw [fx_drop_eq] at ee
    exact Or.inl ⟨rfl, ee⟩
  · have ee : fx_drop2 loc a (fun t => k ((a, fl n) :: t)) = true := ee
    rw [fx_drop2_eq] at ee
    exact Or.inr ⟨rfl, ee⟩
theorem fx_s11 (F : fx_fs X Y B mst mt p s m args meth c cc nL own ini rt cod) (hX : fx_xo X) (hgo : fx_gok l X Y p e R s m args below meth c Q nL cod mc msl go) (hin : (pc, 11, a, b, d) ∈ cod) (htl : ∀ q ∈ tl, q ∈ cod) (ee : fx_k11 go pc a b tl loc stk ce sl h j = true) (hs : fx_st X Y nL loc stk h j H locs ls st) (hce : ce ≤ mc) (hsl : sl ≤ msl) : W p l e R s m args below meth c H locs ce sl Q (F0 m pc ls st) := by
  obtain ⟨hx, hb, -, -, -, -, -, -, -, -, hcod⟩ := F
  obtain ⟨hd, ha⟩ := hcod _ _ _ _ _ hin (by decide)
  have hn := ha.2.2.2.2.2.2.2.2.2.2.2.2.2.2.2.2.1 rfl
  have ha := ha.1 (Or.inr rfl)
  obtain ⟨⟨lv, hlv, hrn⟩, hst, hrh, hrj, hls⟩ := hs
  cases stk with
  | nil => cases ee
  | cons v stk =>
    obtain ⟨x, st, rfl, hrv, hst⟩ := fx_rl_cons hst
    have ee : ((fx_form b v && Nat.blt b 6) && fx_store loc a v (fun loc => fx_nx (fun t => go t loc stk ce sl h j) pc (fx_odd b) tl)) = true := ee
    obtain ⟨e1, e2⟩ := fx_and ee
    obtain ⟨ef, eb⟩ := fx_and e1
    have hcat := fx_cat_of hX hrv
    have K1 : ∀ ls' : Array Slot, fx_cat v = 1 → lv_has ls' nL ((a, x) :: lv.filter (fun q => !(q.1 == a) && !(q.1 + 1 == a && q.2.category == 2))) → W p l e R s m args below meth c H locs ce sl Q (F0 m (pc + fx_odd b) ls' st) := by
      intro ls' hc hl'
      rcases fx_store_ok e2 with ⟨-, e3⟩ | ⟨hc2, -⟩
      · exact fx_nxt hgo htl e3 ⟨⟨_, hl', fx_rn_store1 hX hrn hrv⟩, hst, hrh, hrj, hls⟩ hce hsl
      · omega
    have K2 : ∀ ls' : Array Slot, fx_cat v = 2 → lv_has ls' nL ((a, x) :: lv.filter (fun q => !(q.1 == a) && (!(q.1 == a + 1) && !(q.1 + 1 == a && q.2.category == 2)))) → W p l e R s m args below meth c H locs ce sl Q (F0 m (pc + fx_odd b) ls' st) := by
      intro ls' hc hl'
      rcases fx_store_ok e2 with ⟨hc2, -⟩ | ⟨-, e3⟩
      · omega
      · exact fx_nxt hgo htl e3 ⟨⟨_, hl', fx_rn_store2 hX hrn hrv⟩, hst, hrh, hrj, hls⟩ hce hsl
    rcases fx_six (fx_blt eb) with rfl | rfl | rfl | rfl | rfl | rfl
    · obtain ⟨z, rfl⟩ := fx_rv_int hrv (fx_form_int ef (Or.inl rfl))
      exact lv_istore_n hx hb hd (fx_fin4 (ha (by omega))) hlv (by omega) rfl (fun ls' hl' => K1 ls' hcat.symm hl')
    · obtain ⟨z, rfl⟩ := fx_rv_int hrv (fx_form_int ef (Or.inr rfl))
      exact lv_istore hx hb hd hlv (by omega) rfl (fun ls' hl' => K1 ls' hcat.symm hl')
    · rcases fx_form_ref hX ef (Or.inl rfl) hrv with rfl | ⟨q, rfl⟩
      · exact lv_astore_nN hx hb hd (fx_fin4 (ha (by omega))) hlv (by omega) rfl (fun ls' hl' => K1 ls' hcat.symm hl')
      · exact lv_astore_n hx hb hd (fx_fin4 (ha (by omega))) hlv (by omega) rfl (fun ls' hl' => K1 ls' hcat.symm hl')
    · rcases fx_form_ref hX ef (Or.inr rfl) hrv with rfl | ⟨q, rfl⟩
      · exact lv_astoreN hx hb hd hlv (by omega) rfl (fun ls' hl' => K1 ls' hcat.symm hl')
      · exact lv_astore hx hb hd hlv (by omega) rfl (fun ls' hl' => K1 ls' hcat.symm hl')
    · obtain ⟨z, rfl⟩ := fx_form_long ef (Or.inl rfl) hrv
      exact lv_lstore_n hx hb hd (fx_fin4 (ha (by omega))) hlv (by omega) rfl (fun ls' hl' => K2 ls' hcat.symm hl')
    · obtain ⟨z, rfl⟩ := fx_form_long ef (Or.inr rfl) hrv
      exact lv_lstore hx hb hd hlv (by omega) rfl (fun ls' hl' => K2 ls' hcat.symm hl')
end FXA
end
section
section FXB
variable {l : Launch} {X : fx_X} {Y : fx_Y} {B : fx_B} {mst : Nat → Option fx_S} {mt : Nat → Option fx_M} {p : Program} {e : Env} {R : Room} {s : State} {m : MethodId} {args : Array Value} {below : List Frame} {meth : Method} {c : Code} {Q : State → Prop} {cc : ByteArray} {nL : Nat} {own : String} {ini : Bool} {rt : Option FieldType} {cod : List fx_I} {mc msl : Nat}
variable {go : fx_O} {pc a b d ce sl : Nat} {tl : List fx_I} {loc : fx_L} {stk : List fx_V} {h : fx_H} {j : fx_J} {H : Heap} {locs : List Loc} {ls : Array Slot} {st : List Value}
theorem fx_vaK (hc : fx_cx X Y B s) : va_K Y.1 fx_cl [] s := ⟨hc.1, fun k q hk => by simp at hk⟩
/-- an object of the picture, for the kit's rows -/
theorem fx_obj (hrh : fx_rh X Y h H) {r ci : Nat} {fs : List fx_V} (hg : fx_hget h r = some (.inr (.inl (ci, fs)))) : ∃ (C : String) (T : u_T) (N : Nat) (vs : List Value), fx_cl[ci]? = some (C, T, N) ∧ vs.length = N ∧ fx_rl X fs vs ∧ fx_ad X r = .ref (X.2.1 + r) ∧ va_P Y.1 fx_cl [(X.2.1 + r, .inr (ci, vs))] H ∧ r < h.1 := by
  obtain ⟨h1, h2, ⟨C, T, N⟩, vs, h3, h4, h5, h6⟩ := hrh.2.1 r _ hg
  refine ⟨C, T, N, vs, h3, h4, h5, fx_ad_lt h2, ?_, h1⟩
  intro k q hk
  cases k with
  | zero => cases hk; exact ⟨_, h3, h6⟩
  | succ k => simp at hk
theorem fx_s1 (F : fx_fs X Y B mst mt p s m args meth c cc nL own ini rt cod) (hgo : fx_gok l X Y p e R s m args below meth c Q nL cod mc msl go) (hin : (pc, 1, a, b, d) ∈ cod) (htl : ∀ q ∈ tl, q ∈ cod) (ee : fx_k1 go pc b d tl loc stk ce sl h j = true) (hs : fx_st X Y nL loc stk h j H locs ls st) (hce : ce ≤ mc) (hsl : sl ≤ msl) : W p l e R s m args below meth c H locs ce sl Q (F0 m pc ls st) := by
  obtain ⟨hx, hb, -, hown, hts, -, -, -, hcx, -, hcod⟩ := F
  obtain ⟨hd, ha⟩ := hcod _ _ _ _ _ hin (by decide)
  obtain ⟨C, T, N, hcl, hk, hlink⟩ := ha.2.1 rfl
  obtain ⟨hl0, hst, hrh, hrj, hls⟩ := hs
  rcases stk with _ | ⟨v, stk⟩
  · cases ee
  rcases v with n | i | (_ | r) | n
  · cases ee
  · cases ee
  · cases ee
  · obtain ⟨x, st, rfl, hrv, hst⟩ := fx_rl_cons hst
    cases hg : fx_hget h r with
    | none => simp [fx_k1, hg] at ee
    | some q =>
      rcases q with u | ⟨ci, fs⟩ | u
      · simp [fx_k1, hg] at ee
      · obtain ⟨C', T', N', vs, h1, h2, h3, h4, h5, -⟩ := fx_obj hrh hg
        cases hf : fx_nth fs d with
        | none => simp [fx_k1, hg, hf] at ee
        | some v =>
          simp only [fx_k1, hg, hf] at ee
          obtain ⟨e1, e2⟩ := fx_and ee
          have e1 := fx_beq e1
          subst e1
          have e3 : (C', T', N') = (C, T, N) := Option.some.inj (h1.symm.trans hcl)
          cases e3
          rw [fx_nth_eq] at hf
          obtain ⟨w, hw, hrw⟩ := fx_rl_get h3 hf
          have hrv : x = fx_ad X r := hrv
          rw [hrv, h4]
          obtain ⟨fs0, -, hkf⟩ := fx_clok hcl
          exact va_get (D := Y.1) (cl := fx_cl) (tys := []) (ci := ci) (C := C) (T := T) (N := N) (Ts := fx_tb) (v := w) hx hb hts hkf.1 hown (fx_vaK hcx) h5 0 rfl hcl d hk (hts _ hlink) (fun _ h9 => h9) hw hd (fx_nxt hgo htl e2 ⟨hl0, ⟨hrw, hst⟩, hrh, hrj, hls⟩ hce hsl)
      · simp [fx_k1, hg] at ee
  · cases ee
theorem fx_clen0 : fx_clen 0 = 1 ∧ fx_clen 1 = 2 ∧ fx_clen 2 = 3 ∧ fx_clen 3 = 2 ∧ fx_clen 4 = 3 ∧ fx_clen 5 = 1 ∧ fx_clen 6 = 3 ∧ fx_clen 7 = 1 := ⟨rfl, rfl, rfl, rfl, rfl, rfl, rfl, rfl⟩
theorem fx_s2 (F : fx_fs X Y B mst mt p s m args meth c cc nL own ini rt cod) (hgo : fx_gok l X Y p e R s m args below meth c Q nL cod mc msl go) (hin : (pc, 2, a, b, d) ∈ cod) (htl : ∀ q ∈ tl, q ∈ cod) (ee : (Nat.blt a 8 && fx_nx (fun t => go t loc (fx_cst a d :: stk) ce sl h j) pc (fx_clen a) tl) = true) (hs : fx_st X Y nL loc stk h j H locs ls st) (hce : ce ≤ mc) (hsl : sl ≤ msl) : W p l e R s m args below meth c H locs ce sl Q (F0 m pc ls st) := by
  obtain ⟨hx, hb, -, hown, hts, -, -, -, -, -, hcod⟩ := F
  obtain ⟨hd, ha⟩ := hcod _ _ _ _ _ hin (by decide)
  have ha := ha.2.2.1 rfl
  obtain ⟨hl0, hst, hrh, hrj, hls⟩ := hs
  obtain ⟨e1, e2⟩ := fx_and ee
  have hlt := fx_blt e1
  have K : ∀ w, fx_rv X (fx_cst a d) w → W p l e R s m args below meth c H locs ce sl Q (F0 m (pc + fx_clen a) ls (w :: st)) := fun w hw => fx_nxt hgo htl e2 ⟨hl0, ⟨hw, hst⟩, hrh, hrj, hls⟩ hce hsl
  rcases (by omega : a = 0 ∨ a = 1 ∨ a = 2 ∨ a = 3 ∨ a = 4 ∨ a = 5 ∨ a = 6 ∨ a = 7) with rfl | rfl | rfl | rfl | rfl | rfl | rfl | rfl
  · exact lv_iconst (v := Int32.ofNat d) hx hb hd (Int32.ofInt_toInt _) (K (.int (Int32.ofNat d)) rfl)
  · exact lv_bipush (v := Int32.ofNat d) hx hb hd (ha.1 rfl) (K (.int (Int32.ofNat d)) rfl)
  · exact lv_sipush (v := Int32.ofNat d) hx hb hd (ha.2.1 rfl) (K (.int (Int32.ofNat d)) rfl)
  · exact lv_ldc hx hb hown (hts _ (ha.2.2.1 (Or.inl rfl))) hd (K (.int (Int32.ofNat d)) rfl)
  · exact lv_ldcw hx hb hown (hts _ (ha.2.2.1 (Or.inr rfl))) hd (K (.int (Int32.ofNat d)) rfl)
  · exact lv_lconst (v := Int64.ofNat d) hx hb hd (by rw [show ((Fin.ofNat 2 d : Fin 2) : Nat) = d from Nat.mod_eq_of_lt (ha.2.2.2.1 rfl)]) (K (.long (Int64.ofNat d)) rfl)
  · exact lv_ldc2 hx hb hown (hts _ (ha.2.2.2.2 rfl)) hd (K (.long (Int64.ofNat d)) rfl)
  · exact lv_null hx hb hd (K .null rfl)
/-- the conditions, by what they say -/
theorem fx_con_ok (x y : Int32) : (fx_con 0 (fx_z x) (fx_z y) = decide (x = y)) ∧ (fx_con 1 (fx_z x) (fx_z y) = decide (¬ x = y)) ∧ (fx_con 2 (fx_z x) (fx_z y) = decide (x < y)) ∧ (fx_con 3 (fx_z x) (fx_z y) = decide (y ≤ x)) ∧ (fx_con 4 (fx_z x) (fx_z y) = decide (y < x)) ∧ (fx_con 5 (fx_z x) (fx_z y) = decide (x ≤ y)) := by
  have b1 : Nat.beq (fx_z x) (fx_z y) = decide (x = y) := by
    rw [Bool.eq_iff_iff, decide_eq_true_iff, fx_z_eq]
    exact ⟨fx_beq, fun q => by rw [q]; exact Nat.beq_refl _⟩
  have b2 : ∀ u v : Int32, Nat.blt (fx_z u) (fx_z v) = decide (u < v) := fun u v => by
    rw [Bool.eq_iff_iff, decide_eq_true_iff, fx_z_lt]
    exact ⟨fx_blt, fun q => Nat.ble_eq_true_of_le q⟩
  have b3 : ∀ u v : Int32, Nat.ble (fx_z u) (fx_z v) = decide (u ≤ v) := fun u v => by
    rw [Bool.eq_iff_iff, decide_eq_true_iff, fx_z_le]
    exact ⟨fx_ble, fun q => Nat.ble_eq_true_of_le q⟩
  refine ⟨b1, ?_, b2 x y, b3 y x, b2 y x, b3 x y⟩
  show (!Nat.beq (fx_z x) (fx_z y)) = _
  rw [b1]
  simp
theorem fx_off (pc b : Nat) : (pc : Int) + ((b : Int) - (pc : Int)) = (b : Int) := by omega
theorem fx_s3 (F : fx_fs X Y B mst mt p s m args meth c cc nL own ini rt cod) (hgo : fx_gok l X Y p e R s m args below meth c Q nL cod mc msl go) (hin : (pc, 3, a, b, d) ∈ cod) (htl : ∀ q ∈ tl, q ∈ cod) (ee : fx_k3 go cod pc a b tl loc stk ce sl h j = true) (hs : fx_st X Y nL loc stk h j H locs ls st) (hce : ce ≤ mc) (hsl : sl ≤ msl) : W p l e R s m args below meth c H locs ce sl Q (F0 m pc ls st) := by
  obtain ⟨hx, hb, -, hown, hts, -, -, -, -, -, hcod⟩ := F
  obtain ⟨hd, -⟩ := hcod _ _ _ _ _ hin (by decide)
  obtain ⟨hl0, hst, hrh, hrj, hls⟩ := hs
  rcases stk with _ | ⟨y, _ | ⟨x, stk⟩⟩
  · cases ee
  · cases ee
  obtain ⟨wy, st1, rfl, hry, hst1⟩ := fx_rl_cons hst
  obtain ⟨wx, st, rfl, hrx, hst2⟩ := fx_rl_cons hst1
  simp only [fx_k3] at ee
  obtain ⟨y', e1, hry', -⟩ := fx_nz_ok hrj hry ee
  obtain ⟨x', e2, hrx', -⟩ := fx_nz_ok hrj hrx e1
  obtain ⟨e3, e4⟩ := fx_and e2
  have ho := fx_blt e3
  obtain ⟨u, v, j', rfl, rfl, e5, hj'⟩ := fx_cmp_ok hrj ho hrx' hry' e4
  have KT : fx_con a (fx_z u) (fx_z v) = true → W p l e R s m args below meth c H locs ce sl Q (F0 m b ls st) := fun q => by
    rw [q, fx_if_t] at e5
    exact fx_jmp hgo e5 ⟨hl0, hst2, hrh, hj', hls⟩ hce hsl
  have KF : fx_con a (fx_z u) (fx_z v) = false → W p l e R s m args below meth c H locs ce sl Q (F0 m (pc + 3) ls st) := fun q => by
    rw [q, fx_if_f] at e5
    exact fx_nxt hgo htl e5 ⟨hl0, hst2, hrh, hj', hls⟩ hce hsl
  obtain ⟨c0, c1, c2, c3, c4, c5⟩ := fx_con_ok u v
  rcases (by omega : a = 0 ∨ a = 1 ∨ a = 2 ∨ a = 3 ∨ a = 4 ∨ a = 5) with rfl | rfl | rfl | rfl | rfl | rfl
  · exact lv_icmp_eq hx hb hd (fx_off pc b) (fun q => KT (by rw [c0]; exact decide_eq_true q)) (fun q => KF (by rw [c0]; exact decide_eq_false q))
  · exact lv_icmp_ne hx hb hd (fx_off pc b) (fun q => KT (by rw [c1]; exact decide_eq_true q)) (fun q => KF (by rw [c1]; exact decide_eq_false (fun q2 => q2 q)))
  · exact lv_icmp_lt hx hb hd (fx_off pc b) (fun q => KT (by rw [c2]; exact decide_eq_true q)) (fun q => KF (by rw [c2]; exact decide_eq_false q))
  · exact lv_icmp_ge hx hb hd (fx_off pc b) (fun q => KT (by rw [c3]; exact decide_eq_true q)) (fun q => KF (by rw [c3]; exact decide_eq_false q))
  · exact lv_icmp_gt hx hb hd (fx_off pc b) (fun q => KT (by rw [c4]; exact decide_eq_true q)) (fun q => KF (by rw [c4]; exact decide_eq_false q))
  · exact lv_icmp_le hx hb hd (fx_off pc b) (fun q => KT (by rw [c5]; exact decide_eq_true q)) (fun q => KF (by rw [c5]; exact decide_eq_false q))
theorem fx_s4 (F : fx_fs X Y B mst mt p s m args meth c cc nL own ini rt cod) (hgo : fx_gok l X Y p e R s m args below meth c Q nL cod mc msl go) (hin : (pc, 4, a, b, d) ∈ cod) (htl : ∀ q ∈ tl, q ∈ cod) (ee : fx_k4 go cod pc a b tl loc stk ce sl h j = true) (hs : fx_st X Y nL loc stk h j H locs ls st) (hce : ce ≤ mc) (hsl : sl ≤ msl) : W p l e R s m args below meth c H locs ce sl Q (F0 m pc ls st) := by
  obtain ⟨hx, hb, -, hown, hts, -, -, -, -, -, hcod⟩ := F
  obtain ⟨hd, -⟩ := hcod _ _ _ _ _ hin (by decide)
  obtain ⟨hl0, hst, hrh, hrj, hls⟩ := hs
  rcases stk with _ | ⟨x, stk⟩
  · cases ee
  obtain ⟨wx, st, rfl, hrx, hst2⟩ := fx_rl_cons hst
  simp only [fx_k4] at ee
  obtain ⟨x', e2, hrx', -⟩ := fx_nz_ok hrj hrx ee
  obtain ⟨e3, e4⟩ := fx_and e2
  have ho := fx_blt e3
  obtain ⟨u, v, j', rfl, hv, e5, hj'⟩ := fx_cmp_ok hrj ho hrx' (y := fc 0) (u := .int 0) rfl e4
  cases hv
  have KT : fx_con a (fx_z u) (fx_z 0) = true → W p l e R s m args below meth c H locs ce sl Q (F0 m b ls st) := fun q => by
    rw [q, fx_if_t] at e5
    exact fx_jmp hgo e5 ⟨hl0, hst2, hrh, hj', hls⟩ hce hsl
  have KF : fx_con a (fx_z u) (fx_z 0) = false → W p l e R s m args below meth c H locs ce sl Q (F0 m (pc + 3) ls st) := fun q => by
    rw [q, fx_if_f] at e5
    exact fx_nxt hgo htl e5 ⟨hl0, hst2, hrh, hj', hls⟩ hce hsl
  obtain ⟨c0, c1, c2, c3, c4, c5⟩ := fx_con_ok u 0
  rcases (by omega : a = 0 ∨ a = 1 ∨ a = 2 ∨ a = 3 ∨ a = 4 ∨ a = 5) with rfl | rfl | rfl | rfl | rfl | rfl
  · exact lv_if_eq hx hb hd (fx_off pc b) (fun q => KT (by rw [c0]; exact decide_eq_true q)) (fun q => KF (by rw [c0]; exact decide_eq_false q))
  · exact lv_if_ne hx hb hd (fx_off pc b) (fun q => KT (by rw [c1]; exact decide_eq_true q)) (fun q => KF (by rw [c1]; exact decide_eq_false (fun q2 => q2 q)))
  · exact lv_if_lt hx hb hd (fx_off pc b) (fun q => KT (by rw [c2]; exact decide_eq_true q)) (fun q => KF (by rw [c2]; exact decide_eq_false q))
  · exact lv_if_ge hx hb hd (fx_off pc b) (fun q => KT (by rw [c3]; exact decide_eq_true q)) (fun q => KF (by rw [c3]; exact decide_eq_false q))
  · exact lv_if_gt hx hb hd (fx_off pc b) (fun q => KT (by rw [c4]; exact decide_eq_true q)) (fun q => KF (by rw [c4]; exact decide_eq_false q))
  · exact lv_if_le hx hb hd (fx_off pc b) (fun q => KT (by rw [c5]; exact decide_eq_true q)) (fun q => KF (by rw [c5]; exact decide_eq_false q))
theorem fx_s5 (F : fx_fs X Y B mst mt p s m args meth c cc nL own ini rt cod) (hgo : fx_gok l X Y p e R s m args below meth c Q nL cod mc msl go) (hin : (pc, 5, a, b, d) ∈ cod) (ee : go (fx_to cod b) loc stk ce sl h j = true) (hs : fx_st X Y nL loc stk h j H locs ls st) (hce : ce ≤ mc) (hsl : sl ≤ msl) : W p l e R s m args below meth c H locs ce sl Q (F0 m pc ls st) := by
  obtain ⟨hx, hb, -, hown, hts, -, -, -, -, -, hcod⟩ := F
  obtain ⟨hd, -⟩ := hcod _ _ _ _ _ hin (by decide)
  exact lv_goto hx hb hd (fx_off pc b) (fx_jmp hgo ee hs hce hsl)
/-- the same place again, with what is known besides -/
theorem fx_again (hgo : fx_gok l X Y p e R s m args below meth c Q nL cod mc msl go) {q : fx_I} (hq : q ∈ cod) (htl : ∀ q ∈ tl, q ∈ cod) {v : fx_V} {i lo n : Nat} (hf : fx_few j v = some (i, lo, n)) (ee : fx_each j i lo n (fun j => go (q :: tl) loc stk ce sl h j) = true) (hs : fx_st X Y nL loc stk h j H locs ls st) (hce : ce ≤ mc) (hsl : sl ≤ msl) : W p l e R s m args below meth c H locs ce sl Q (F0 m q.1 ls st) := by
  obtain ⟨hl0, hst, hrh, hrj, hls⟩ := hs
  obtain ⟨h1, h2⟩ := fx_few_ok hrj hf
  obtain ⟨j', e1, hj'⟩ := fx_each_ok hrj ee h1 h2
  exact hgo.2 _ _ _ _ _ _ _ e1 (fun x hx => by
    rcases List.mem_cons.mp hx with rfl | hx
    · exact hq
    · exact htl x hx) H locs ls st ⟨hl0, hst, hrh, hj', hls⟩ hce hsl
theorem fx_s7 (F : fx_fs X Y B mst mt p s m args meth c cc nL own ini rt cod) (hX : fx_xo X) (h7 : X.1 7 = X.1 1 &&& 63) (hgo : fx_gok l X Y p e R s m args below meth c Q nL cod mc msl go) (hin : (pc, 7, a, b, d) ∈ cod) (htl : ∀ q ∈ tl, q ∈ cod) (ee : fx_k7 go pc a b tl loc stk ce sl h j = true) (hs : fx_st X Y nL loc stk h j H locs ls st) (hce : ce ≤ mc) (hsl : sl ≤ msl) : W p l e R s m args below meth c H locs ce sl Q (F0 m pc ls st) := by
  obtain ⟨hx, hb, -, hown, hts, -, -, -, -, -, hcod⟩ := F
  obtain ⟨hd, -⟩ := hcod _ _ _ _ _ hin (by decide)
  obtain ⟨⟨lv, hlv, hrn⟩, hst, hrh, hrj, hls⟩ := hs
  unfold fx_k7 at ee
  cases hv : fx_look loc a with
  | none => rw [hv] at ee; cases ee
  | some v =>
    rw [hv] at ee
    simp only at ee
    obtain ⟨k, x, hk, hrv⟩ := fx_rn_look hrn hv
    obtain ⟨v', e3, hrv', -⟩ := fx_nz_ok hrj hrv ee
    cases hw : fx_bis 0 v' (fc b) with
    | none => rw [hw] at e3; cases e3
    | some w =>
      rw [hw] at e3
      simp only at e3
      rw [fx_val_eq] at e3
      obtain ⟨z, z2, rfl, h2, hrw, -⟩ := fx_bis_ok h7 (by decide) hrv' (y := fc b) (t := .int (Int32.ofNat b)) rfl hw
      cases h2
      have hl := lv_at hlv k hk
      have hnL : a < nL := by rw [← hlv.1]; exact lv_lt hl
      refine lv_iinc (v := z + Int32.ofNat b) hx hb hd hlv hk (by rw [Int32.ofInt_toInt]) hnL rfl (fun ls' hl' => ?_)
      rcases fx_store_ok e3 with ⟨-, e4⟩ | ⟨hc, -⟩
      · exact fx_nxt hgo htl e4 ⟨⟨_, hl', fx_rn_store1 hX hrn hrw⟩, hst, hrh, hrj, hls⟩ hce hsl
      · rw [← fx_cat_of hX hrw] at hc
        cases hc
theorem fx_wbin {H : Heap} (hx : p.tables.exec = Jvm.exec) (hb : c.code = cc) {o : Nat} (ho : o < 11) {u v : Int32} {rest : List Value} (hd : decode cc pc = .ok (fx_bop o, 1)) (hne : o = 3 ∨ o = 4 → ¬ v = 0) (K : W p l e R s m args below meth c H locs ce sl Q (F0 m (pc + 1) ls (.int (fx_op o u v) :: rest))) : W p l e R s m args below meth c H locs ce sl Q (F0 m pc ls (.int v :: .int u :: rest)) := by
  rcases (by omega : o = 0 ∨ o = 1 ∨ o = 2 ∨ o = 3 ∨ o = 4 ∨ o = 5 ∨ o = 6 ∨ o = 7 ∨ o = 8 ∨ o = 9 ∨ o = 10) with rfl | rfl | rfl | rfl | rfl | rfl | rfl | rfl | rfl | rfl | rfl
  · exact lv_iadd hx hb hd K
  · exact lv_isub hx hb hd K
  · exact lv_imul hx hb hd K
  · exact lv_idiv hx hb hd (hne (by omega)) K
  · exact lv_irem hx hb hd (hne (by omega)) K
  · exact lv_iand hx hb hd K
  · exact lv_ior hx hb hd K
  · exact lv_ixor hx hb hd K
  · exact lv_ishl hx hb hd K
  · exact lv_ishr hx hb hd K
  · exact lv_iushr hx hb hd rfl K
theorem fx_s12 (F : fx_fs X Y B mst mt p s m args meth c cc nL own ini rt cod) (h7 : X.1 7 = X.1 1 &&& 63) (hgo : fx_gok l X Y p e R s m args below meth c Q nL cod mc msl go) (hin : (pc, 12, a, b, d) ∈ cod) (htl : ∀ q ∈ tl, q ∈ cod) (ee : fx_k12 go (pc, 12, a, b, d) pc a tl loc stk ce sl h j = true) (hs : fx_st X Y nL loc stk h j H locs ls st) (hce : ce ≤ mc) (hsl : sl ≤ msl) : W p l e R s m args below meth c H locs ce sl Q (F0 m pc ls st) := by
  obtain ⟨hx, hb, -, hown, hts, -, -, -, -, -, hcod⟩ := F
  obtain ⟨hd, ha⟩ := hcod _ _ _ _ _ hin (by decide)
  have ho := ha.2.2.2.2.2.1 rfl
  have hs0 := hs
  obtain ⟨hl0, hst, hrh, hrj, hls⟩ := hs
  rcases stk with _ | ⟨y, _ | ⟨x, stk⟩⟩
  · cases ee
  · cases ee
  obtain ⟨wy, st1, rfl, hry, hst1⟩ := fx_rl_cons hst
  obtain ⟨wx, st, rfl, hrx, hst2⟩ := fx_rl_cons hst1
  simp only [fx_k12] at ee
  obtain ⟨y', e1, hry', -⟩ := fx_nz_ok hrj hry ee
  obtain ⟨x', e2, hrx', -⟩ := fx_nz_ok hrj hrx e1
  cases hw : fx_bis a x' y' with
  | none => rw [hw] at e2; cases e2
  | some w =>
    rw [hw] at e2
    simp only at e2
    obtain ⟨u, v, rfl, rfl, hrw, hne⟩ := fx_bis_ok h7 ho hrx' hry' hw
    cases ht : fx_top w with
    | true =>
      rw [ht, fx_if_t] at e2
      cases hfx : fx_few j x' with
      | some q =>
        obtain ⟨i, lo, n⟩ := q
        rw [hfx] at e2
        exact fx_again hgo hin htl hfx e2 hs0 hce hsl
      | none =>
        rw [hfx] at e2
        simp only at e2
        cases hfy : fx_few j y' with
        | some q =>
          obtain ⟨i, lo, n⟩ := q
          rw [hfy] at e2
          exact fx_again hgo hin htl hfy e2 hs0 hce hsl
        | none =>
          rw [hfy] at e2
          exact fx_wbin hx hb ho hd hne (fx_nxt hgo htl e2 ⟨hl0, ⟨hrw, hst2⟩, hrh, hrj, hls⟩ hce hsl)
    | false =>
      rw [ht, fx_if_f, fx_val_eq] at e2
      exact fx_wbin hx hb ho hd hne (fx_nxt hgo htl e2 ⟨hl0, ⟨hrw, hst2⟩, hrh, hrj, hls⟩ hce hsl)
end FXB
end
section
section FXC
variable {l : Launch} {X : fx_X} {Y : fx_Y} {B : fx_B} {mst : Nat → Option fx_S} {mt : Nat → Option fx_M} {p : Program} {e : Env} {R : Room} {s : State} {m : MethodId} {args : Array Value} {below : List Frame} {meth : Method} {c : Code} {Q : State → Prop} {cc : ByteArray} {nL : Nat} {own : String} {ini : Bool} {rt : Option FieldType} {cod : List fx_I} {mc msl : Nat}
variable {go : fx_O} {pc a b d ce sl : Nat} {tl : List fx_I} {loc : fx_L} {stk : List fx_V} {h h' : fx_H} {j : fx_J} {H H1 : Heap} {locs : List Loc} {ls : Array Slot} {st : List Value}
theorem fx_rc.kept {cl : fx_C} {q : Nat} (hh : fx_rc X Y cl q H) (hq : H1[q]? = H[q]?) : fx_rc X Y cl q H1 := by
  rcases cl with u | ⟨ci, fs⟩ | ⟨ty, n, u⟩
  · exact hq.trans hh
  · obtain ⟨r, vs, h1, h2, h3, h4⟩ := hh
    exact ⟨r, vs, h1, h2, h3, h4.kept hq⟩
  · obtain ⟨f, h1, h2⟩ := hh
    exact ⟨f, hq.trans h1, h2⟩
theorem fx_rh_set (hrh : fx_rh X Y h H) {r : Nat} {c0 cl : fx_C} (e1 : h'.1 = h.1) (e2 : fx_hget h r = some c0) (e3 : fx_hget h' r = some cl) (e4 : ∀ i, i ≠ r → fx_hget h' i = fx_hget h i) (z : H1.size = H.size) (oq : ∀ q : Nat, q ≠ X.2.1 + r → H1[q]? = H[q]?) (hc : fx_rc X Y cl (X.2.1 + r) H1) : fx_rh X Y h' H1 := by
  obtain ⟨g1, g2, g3⟩ := hrh
  refine ⟨by rw [z, g1, e1], fun k x hk => ?_, fun q hq => ?_⟩
  · by_cases hkr : k = r
    · subst hkr
      rw [e3] at hk
      cases hk
      obtain ⟨b1, b2, -⟩ := g2 k _ e2
      exact ⟨by rw [e1]; exact b1, b2, hc⟩
    · rw [e4 k hkr] at hk
      obtain ⟨b1, b2, b3⟩ := g2 k x hk
      exact ⟨by rw [e1]; exact b1, b2, b3.kept (oq _ (by omega))⟩
  · rw [oq q (by omega)]
    exact g3 q hq
theorem fx_rh_new (hrh : fx_rh X Y h H) {cl : fx_C} (e1 : h'.1 = h.1 + 1) (e2 : h.1 < 1000000) (e3 : fx_hget h' h.1 = some cl) (e4 : ∀ i, i ≠ h.1 → fx_hget h' i = fx_hget h i) (z : H1.size = H.size + 1) (oq : ∀ q : Nat, q < H.size → H1[q]? = H[q]?) (hc : fx_rc X Y cl (X.2.1 + h.1) H1) : fx_rh X Y h' H1 := by
  obtain ⟨g1, g2, g3⟩ := hrh
  refine ⟨by rw [z, g1, e1]; omega, fun k x hk => ?_, fun q hq => ?_⟩
  · by_cases hkr : k = h.1
    · subst hkr
      rw [e3] at hk
      cases hk
      exact ⟨by omega, e2, hc⟩
    · rw [e4 k hkr] at hk
      obtain ⟨b1, b2, b3⟩ := g2 k x hk
      exact ⟨by omega, b2, b3.kept (oq _ (by omega))⟩
  · rw [oq q (by omega)]
    exact g3 q hq
theorem fx_clamp {n : Nat} (hn : n < 2147483648) : (Int32.ofNat n).toNatClampNeg = n := nI_clamp hn
theorem fx_inb {n len : Nat} (hn : n < len) (hl : len < 2147483648) : ¬ (Int32.ofNat n < 0 ∨ len ≤ (Int32.ofNat n).toNatClampNeg) := nI_in hn hl
theorem fx_arr (hrh : fx_rh X Y h H) {r ty n : Nat} {u : List (Nat × fx_V)} (hg : fx_hget h r = some (.inr (.inr (ty, n, u)))) : ∃ f : Nat → Value, H[X.2.1 + r]? = some (arrV (Y.2.1 ty) n f) ∧ n < 2147483648 ∧ ty < 4 ∧ (∀ i, fx_rv X (fx_aget ty u i) (f i)) ∧ fx_ad X r = .ref (X.2.1 + r) := by
  obtain ⟨h1, h2, f, h3, h4, h5, h6⟩ := hrh.2.1 r _ hg
  exact ⟨f, h3, h4, h5, h6, fx_ad_lt h2⟩
theorem fx_known {cA : ClassId} {n : Nat} {f : Nat → Value} : (arrV cA n f).vm ≠ .unknown := fun q => by cases q
/-- a load from an array, by the type of it -/
theorem fx_wald (hx : p.tables.exec = Jvm.exec) (hb : c.code = cc) {ty q : Nat} {cell : Cell} {n : Nat} {v : Value} {rest : List Value} (hcell : H[q]? = some cell) (harr : s.isArrayOf cell (fx_ty ty)) (hkn : cell.vm ≠ .unknown) (hty : fx_aty a ty = true) (hlt : n < cell.slots.size) (hsz : n < 2147483648) (hv : cell.slots[n]? = some v) (hd : decode cc pc = .ok (fx_aop a, 1)) (K : W p l e R s m args below meth c H locs ce sl Q (F0 m (pc + 1) ls (v :: rest))) : W p l e R s m args below meth c H locs ce sl Q (F0 m pc ls (.int (Int32.ofNat n) :: .ref q :: rest)) := by
  have hin : ¬ (Int32.ofNat n < 0 ∨ cell.slots.size ≤ (Int32.ofNat n).toNatClampNeg) := by
    rintro (h1 | h1)
    · exact nI_pos hsz h1
    · rw [fx_clamp hsz] at h1
      omega
  have hv' : cell.slots[(Int32.ofNat n).toNatClampNeg]? = some v := by rw [fx_clamp hsz]; exact hv
  rcases a with _ | _ | _ | a
  · have := fx_beq (show Nat.beq ty 0 = true from hty)
    subst this
    exact W.iald hx hb hcell harr hkn hin hv' rfl rfl hd K
  · rcases fx_or (show (Nat.beq ty 1 || Nat.beq ty 2) = true from hty) with q1 | q1
    · have := fx_beq q1
      subst this
      exact W.bald hx hb hcell harr hkn hin hv' rfl rfl hd K
    · have := fx_beq q1
      subst this
      exact W.zald hx hb hcell harr hkn hin hv' rfl rfl hd K
  · have := fx_beq (show Nat.beq ty 3 = true from hty)
    subst this
    exact W.lald hx hb hcell harr hkn hin hv' rfl rfl hd K
  · cases hty
theorem fx_s6 (F : fx_fs X Y B mst mt p s m args meth c cc nL own ini rt cod) (hXX : fx_xx X B) (hgo : fx_gok l X Y p e R s m args below meth c Q nL cod mc msl go) (hin : (pc, 6, a, b, d) ∈ cod) (htl : ∀ q ∈ tl, q ∈ cod) (ee : fx_k6 go (pc, 6, a, b, d) pc a tl loc stk ce sl h j = true) (hs : fx_st X Y nL loc stk h j H locs ls st) (hce : ce ≤ mc) (hsl : sl ≤ msl) : W p l e R s m args below meth c H locs ce sl Q (F0 m pc ls st) := by
  obtain ⟨hx, hb, -, hown, hts, -, -, -, hcx, -, hcod⟩ := F
  obtain ⟨hd, -⟩ := hcod _ _ _ _ _ hin (by decide)
  have hs0 := hs
  obtain ⟨hl0, hst, hrh, hrj, hls⟩ := hs
  rcases stk with _ | ⟨i, _ | ⟨v, stk⟩⟩
  · cases ee
  · cases ee
  rcases v with n | n | (_ | r) | n
  · cases ee
  · cases ee
  · cases ee
  · obtain ⟨wi, st1, rfl, hri, hst1⟩ := fx_rl_cons hst
    obtain ⟨wr, st2, rfl, hrr, hst2⟩ := fx_rl_cons hst1
    simp only [fx_k6] at ee
    obtain ⟨i', e1, hri', -⟩ := fx_nz_ok hrj hri ee
    rcases i' with n | n | n | n
    · have hri' : wi = .int (Int32.ofNat n) := hri'
      subst hri'
      have hrr : wr = fx_ad X r := hrr
      subst hrr
      simp only at e1
      have KK : ∀ v w, fx_rv X v w → fx_nx (fun t => go t loc (v :: stk) ce sl h j) pc 1 tl = true → W p l e R s m args below meth c H locs ce sl Q (F0 m (pc + 1) ls (w :: st2)) := fun v w hw e9 => fx_nxt hgo htl e9 ⟨hl0, ⟨hw, hst2⟩, hrh, hrj, hls⟩ hce hsl
      unfold fx_ld at e1
      cases hg : fx_hget h r with
      | none =>
        rw [hg] at e1
        simp only at e1
        cases hr : Nat.beq r 1000000 with
        | true =>
          have := fx_beq hr
          subst this
          rw [hr, fx_if_t] at e1
          obtain ⟨e2, e3⟩ := fx_and e1
          obtain ⟨e4, e5⟩ := fx_and e2
          obtain ⟨e6, e7⟩ := fx_and e3
          have ha0 := fx_beq e4
          subst ha0
          have hn6 := fx_blt e5
          have hn8 := fx_blt e6
          obtain ⟨hxo, -, hxs, h8, hL, hb0, -, -, hbl⟩ := hXX
          have hq := fx_iv_ok hrj 8
          rw [h8, fx_z_of] at hq
          have hbL : fx_b B.2.1 = B.2.1 + 2147483648 := by
            show (B.2.1 + 2147483648) % 4294967296 = _
            omega
          have hnL : n < B.2.1 := by omega
          obtain ⟨v', e8, hrv', -⟩ := fx_nz_ok (v := fv (n + 1)) (w := .int (X.1 (n + 1))) hrj rfl e7
          obtain ⟨scr, g1, g2, g3, g4, g5⟩ := hcx.2.2.2.2.2.2.2.2.2.2
          rw [hb0]
          refine fx_wald (ty := 0) (cell := scr) hx hb (by rw [hrh.2.2 _ hbl]; exact g1) g2 g3 rfl (by rw [g4]; exact hnL) (by omega) (g5 n hnL) hd (KK v' _ ?_ e8)
          rw [← hxs n hn6]
          exact hrv'
        | false =>
          rw [hr, fx_if_f] at e1
          obtain ⟨e2, e3⟩ := fx_and e1
          have := fx_beq e2
          subst this
          obtain ⟨e4, e5⟩ := fx_and e3
          have ha0 := fx_beq e4
          subst ha0
          obtain ⟨hxo, -, hxs, h8, hL, -, -, hb0, hbl⟩ := hXX
          cases hz : fx_nth fx_txt n with
          | none => rw [hz] at e5; cases e5
          | some z =>
            rw [hz] at e5
            simp only at e5
            rw [fx_nth_eq] at hz
            have hn : n < 123 := (List.getElem?_eq_some_iff.mp hz).1
            obtain ⟨cell, g1, g2, g3, g4, g5, g6, g7⟩ := hcx.2.2.2.2.2.2.2.2.2.1
            rw [hb0]
            refine fx_wald (ty := 1) (cell := cell) hx hb (by rw [hrh.2.2 _ (Nat.not_le.mp g7)]; exact g1) g2 g3 rfl (by omega) (by omega) (g6 n hn) hd (KK (fc z) _ ?_ e5)
            show Value.int _ = .int _
            rw [List.getD_eq_getElem?_getD, hz]
            rfl
      | some q =>
        rw [hg] at e1
        rcases q with u | u | ⟨ty, len, u⟩
        · cases e1
        · cases e1
        · simp only at e1
          obtain ⟨e2, e3⟩ := fx_and e1
          obtain ⟨e4, e5⟩ := fx_and e2
          have hlt := fx_blt e5
          obtain ⟨f, g1, g2, g3, g4, g5⟩ := fx_arr hrh hg
          rw [g5]
          have hrd : (arrV (Y.2.1 ty) len f).slots[n]? = some (f n) := arrV_read _ _ hlt
          have h4 := g4 n
          rw [fx_aget_def] at h4
          have K : W p l e R s m args below meth c H locs ce sl Q (F0 m (pc + 1) ls (f n :: st2)) := by
            cases hk : fx_look u n with
            | none =>
              rw [hk] at e3 h4
              exact KK _ _ h4 e3
            | some v =>
              rw [hk] at e3 h4
              simp only at e3 h4
              obtain ⟨-, e6⟩ := fx_and e3
              obtain ⟨v', e7, hrv', -⟩ := fx_nz_ok hrj h4 e6
              exact KK _ _ hrv' e7
          exact fx_wald hx hb g1 ((hcx.2.1 ty g3).1 len f) fx_known e4 (by rw [arrV_size]; exact hlt) (by omega) hrd hd K
    · simp only at e1
      cases hf : fx_few j (.inr (.inl n)) with
      | none => rw [hf] at e1; cases e1
      | some q =>
        obtain ⟨i2, lo, n2⟩ := q
        rw [hf] at e1
        exact fx_again hgo hin htl hf e1 hs0 hce hsl
    · cases e1
    · cases e1
  · cases ee
/-- a store into an array, by the type of it -/
theorem fx_wast (hx : p.tables.exec = Jvm.exec) (hb : c.code = cc) {ty q n len : Nat} {f : Nat → Value} {v : fx_V} {w : fx_V} {x : Value} {rest : List Value} (hcell : H[q]? = some (arrV (Y.2.1 ty) len f)) (harr : s.isArrayOf (arrV (Y.2.1 ty) len f) (fx_ty ty)) (hty : fx_aty a ty = true) (hlt : n < len) (hsz : len < 2147483648) (hrv : fx_rv X v x) (hn : fx_nar ty v = some w) (hd : decode cc pc = .ok (fx_asp a, 1)) (K : ∀ (H1 : Heap) (y : Value) (lc : Loc), lc.base = q → fx_rv X w y → H1[q]? = some (arrV (Y.2.1 ty) len (updV f n y)) → H1.size = H.size → (∀ z : Nat, z ≠ q → H1[z]? = H[z]?) → W p l e R s m args below meth c H1 (locs ++ [lc]) ce sl Q (F0 m (pc + 1) ls rest)) : W p l e R s m args below meth c H locs ce sl Q (F0 m pc ls (x :: .int (Int32.ofNat n) :: .ref q :: rest)) := by
  have hin : ¬ (Int32.ofNat n < 0 ∨ (arrV (Y.2.1 ty) len f).slots.size ≤ (Int32.ofNat n).toNatClampNeg) := by rw [arrV_size]; exact fx_inb hlt hsz
  have hcn : (Int32.ofNat n).toNatClampNeg = n := fx_clamp (by omega)
  rcases a with _ | _ | _ | a
  · have := fx_beq (show Nat.beq ty 0 = true from hty)
    subst this
    have hn : fx_if (fx_int v) (some v) none = some w := hn
    cases hi : fx_int v with
    | false => rw [hi, fx_if_f] at hn; cases hn
    | true =>
      rw [hi, fx_if_t] at hn
      cases hn
      obtain ⟨z, rfl⟩ := fx_rv_int hrv hi
      refine W.iast hx hb hcell harr fx_known hin rfl rfl hd (fun H1 g1 g2 g3 => K H1 (.int z) _ rfl hrv ?_ g2 g3)
      rw [g1, hcn, arrV_store]
  · rcases fx_or (show (Nat.beq ty 1 || Nat.beq ty 2) = true from hty) with q1 | q1
    · have := fx_beq q1
      subst this
      rcases v with k | k | k | k
      · have hn : fx_if (Nat.blt k 128) (some (fc k)) none = some w := hn
        cases hi : Nat.blt k 128 with
        | false => rw [hi, fx_if_f] at hn; cases hn
        | true =>
          rw [hi, fx_if_t] at hn
          cases hn
          have hrv : x = .int (Int32.ofNat k) := hrv
          subst hrv
          refine W.bast hx hb hcell harr fx_known hin rfl rfl hd (fun H1 g1 g2 g3 => K H1 (.int (Int32.ofNat k)) _ rfl rfl ?_ g2 g3)
          rw [g1, hcn, arrV_store, narrow_byte, fx_o_i2b (fx_blt hi)]
      · cases hn
        obtain ⟨z, rfl⟩ := fx_rv_var hrv
        refine W.bast hx hb hcell harr fx_known hin rfl rfl hd (fun H1 g1 g2 g3 => K H1 (.int z.toInt8.toInt32) _ rfl ⟨_, rfl⟩ ?_ g2 g3)
        rw [g1, hcn, arrV_store, narrow_byte]
      · cases hn
      · cases hn
    · have := fx_beq q1
      subst this
      rcases v with k | k | k | k
      · have hn : fx_if (Nat.blt k 2) (some (fc k)) none = some w := hn
        cases hi : Nat.blt k 2 with
        | false => rw [hi, fx_if_f] at hn; cases hn
        | true =>
          rw [hi, fx_if_t] at hn
          cases hn
          have hrv : x = .int (Int32.ofNat k) := hrv
          subst hrv
          refine W.zast hx hb hcell harr fx_known hin rfl rfl hd (fun H1 g1 g2 g3 => K H1 (.int (Int32.ofNat k)) _ rfl rfl ?_ g2 g3)
          have hk2 := fx_blt hi
          have : narrow .boolean (.int (Int32.ofNat k)) = .int (Int32.ofNat k) := by
            rcases (by omega : k = 0 ∨ k = 1) with rfl | rfl <;> rfl
          rw [g1, hcn, arrV_store, this]
      · cases hn
        obtain ⟨z, rfl⟩ := fx_rv_var hrv
        refine W.zast hx hb hcell harr fx_known hin rfl rfl hd (fun H1 g1 g2 g3 => K H1 (.int (z &&& 1)) _ rfl ⟨_, rfl⟩ ?_ g2 g3)
        rw [g1, hcn, arrV_store]
        rfl
      · cases hn
      · cases hn
  · have := fx_beq (show Nat.beq ty 3 = true from hty)
    subst this
    rcases v with k | k | k | k
    · cases hn
    · cases hn
    · cases hn
    · cases hn
      have hrv : x = .long (Int64.ofNat k) := hrv
      subst hrv
      refine W.last hx hb hcell harr fx_known hin rfl rfl hd (fun H1 g1 g2 g3 => K H1 (.long (Int64.ofNat k)) _ rfl rfl ?_ g2 g3)
      rw [g1, hcn, arrV_store]
  · cases hty
theorem fx_ls_add (hls : fx_ls X locs) {lc : Loc} {r : Nat} (hl : lc.base = X.2.1 + r) : fx_ls X (locs ++ [lc]) := by
  intro q hq
  rcases List.mem_append.mp hq with h1 | h1
  · exact hls q h1
  · rw [List.mem_singleton.mp h1, hl]
    omega
theorem fx_s8 (F : fx_fs X Y B mst mt p s m args meth c cc nL own ini rt cod) (hgo : fx_gok l X Y p e R s m args below meth c Q nL cod mc msl go) (hin : (pc, 8, a, b, d) ∈ cod) (htl : ∀ q ∈ tl, q ∈ cod) (ee : fx_k8 go (pc, 8, a, b, d) pc a tl loc stk ce sl h j = true) (hs : fx_st X Y nL loc stk h j H locs ls st) (hce : ce ≤ mc) (hsl : sl ≤ msl) : W p l e R s m args below meth c H locs ce sl Q (F0 m pc ls st) := by
  obtain ⟨hx, hb, -, hown, hts, -, -, -, hcx, -, hcod⟩ := F
  obtain ⟨hd, -⟩ := hcod _ _ _ _ _ hin (by decide)
  have hs0 := hs
  obtain ⟨hl0, hst, hrh, hrj, hls⟩ := hs
  rcases stk with _ | ⟨v, _ | ⟨i, _ | ⟨rf, stk⟩⟩⟩
  · cases ee
  · cases ee
  · cases ee
  rcases rf with n | n | (_ | r) | n
  · cases ee
  · cases ee
  · cases ee
  · obtain ⟨wv, st1, rfl, hrv, hst1⟩ := fx_rl_cons hst
    obtain ⟨wi, st2, rfl, hri, hst2⟩ := fx_rl_cons hst1
    obtain ⟨wr, st3, rfl, hrr, hst3⟩ := fx_rl_cons hst2
    simp only [fx_k8] at ee
    obtain ⟨i', e1, hri', -⟩ := fx_nz_ok hrj hri ee
    rcases i' with n | n | n | n
    · have hri' : wi = .int (Int32.ofNat n) := hri'
      subst hri'
      have hrr : wr = fx_ad X r := hrr
      subst hrr
      simp only at e1
      obtain ⟨v', e2, hrv', -⟩ := fx_nz_ok hrj hrv e1
      unfold fx_sto at e2
      cases hg : fx_hget h r with
      | none => rw [hg] at e2; cases e2
      | some q =>
        rw [hg] at e2
        rcases q with u | u | ⟨ty, len, u⟩
        · cases e2
        · cases e2
        · simp only at e2
          obtain ⟨e3, e4⟩ := fx_and e2
          obtain ⟨e5, e6⟩ := fx_and e3
          have hlt := fx_blt e6
          cases hn : fx_nar ty v' with
          | none => rw [hn] at e4; cases e4
          | some w =>
            rw [hn] at e4
            simp only at e4
            obtain ⟨u', e7, k1, k2⟩ := fx_aset_ok e4
            obtain ⟨h', e8, f1, ⟨c0, f2⟩, f3, f4⟩ := fx_hset_ok e7
            obtain ⟨f, g1, g2, g3, g4, g5⟩ := fx_arr hrh hg
            rw [g5]
            refine fx_wast (X := X) (Y := Y) hx hb g1 ((hcx.2.1 ty g3).1 len f) e5 hlt g2 hrv' hn hd (fun H1 y lc hlc hy q1 q2 q3 => ?_)
            refine fx_nxt hgo htl e8 ⟨hl0, hst3, fx_rh_set hrh f1 f2 f3 f4 q2 q3 ⟨_, q1, g2, g3, fun z => ?_⟩, hrj, fx_ls_add hls hlc⟩ hce hsl
            by_cases hz : z = n
            · subst hz
              rw [k1]
              simp only [updV, if_true]
              exact hy
            · rw [k2 z hz]
              simp only [updV, if_neg hz]
              exact g4 z
    · simp only at e1
      cases hf : fx_few j (.inr (.inl n)) with
      | none => rw [hf] at e1; cases e1
      | some q =>
        obtain ⟨i2, lo, n2⟩ := q
        rw [hf] at e1
        exact fx_again hgo hin htl hf e1 hs0 hce hsl
    · cases e1
    · cases e1
  · cases ee
end FXC
end
section
section FXD
variable {l : Launch} {X : fx_X} {Y : fx_Y} {B : fx_B} {mst : Nat → Option fx_S} {mt : Nat → Option fx_M} {p : Program} {e : Env} {R : Room} {s : State} {m : MethodId} {args : Array Value} {below : List Frame} {meth : Method} {c : Code} {Q : State → Prop} {cc : ByteArray} {nL : Nat} {own : String} {ini : Bool} {rt : Option FieldType} {cod : List fx_I} {mc msl : Nat}
variable {go : fx_O} {pc a b d ce sl dd : Nat} {tl : List fx_I} {loc : fx_L} {stk : List fx_V} {h h' : fx_H} {j : fx_J} {H H1 : Heap} {locs : List Loc} {ls : Array Slot} {st : List Value} {k : fx_K}
/-- what the end of the method gives -/
def fx_rt (l : Launch) (X : fx_X) (Y : fx_Y) (p : Program) (e : Env) (R : Room) (s : State) (m : MethodId) (args : Array Value) (below : List Frame) (meth : Method) (c : Code) (Q : State → Prop) (cc : ByteArray) (rt : Option FieldType) (mc msl : Nat) (k : fx_K) : Prop :=
  ∀ v w h j H locs ce sl pc ls, k v h j = true → fx_ro X v w → fx_rh X Y h H → fx_rj X j → fx_ls X locs → ce ≤ mc → sl ≤ msl → fx_rets rt cc pc w → W p l e R s m args below meth c H locs ce sl Q (F0 m pc ls w.toList)
theorem fx_s10 (F : fx_fs X Y B mst mt p s m args meth c cc nL own ini rt cod) (hrt : fx_rt l X Y p e R s m args below meth c Q cc rt mc msl k) (hin : (pc, 10, a, b, d) ∈ cod) (ee : fx_k10 k a b stk h j = true) (hs : fx_st X Y nL loc stk h j H locs ls st) (hce : ce ≤ mc) (hsl : sl ≤ msl) : W p l e R s m args below meth c H locs ce sl Q (F0 m pc ls st) := by
  obtain ⟨hx, hb, -, hown, hts, -, -, -, hcx, -, hcod⟩ := F
  obtain ⟨hd, ha⟩ := hcod _ _ _ _ _ hin (by decide)
  obtain ⟨hrk, hab⟩ := ha.2.2.2.2.1 rfl
  obtain ⟨hl0, hst, hrh, hrj, hls⟩ := hs
  unfold fx_k10 at ee
  cases h0 : Nat.beq a 0 with
  | true =>
    have := fx_beq h0
    subst this
    rw [h0, fx_if_t] at ee
    rcases stk with _ | ⟨v, _ | ⟨v2, stk⟩⟩
    · cases ee
    · simp only at ee
      obtain ⟨w, st1, rfl, hrv, hst1⟩ := fx_rl_cons hst
      have := fx_rl_nil hst1
      subst this
      obtain ⟨v', e1, hrv', -⟩ := fx_nz_ok hrj hrv ee
      obtain ⟨e2, e3⟩ := fx_and e1
      rcases v' with n | i | r | n
      · have hw : w = .int (Int32.ofNat n) := hrv'
        subst hw
        refine hrt (some (fc n)) (some (.int (Int32.ofNat n))) h j H locs ce sl pc ls e3 rfl hrh hrj hls hce hsl (Or.inr (Or.inl ?_))
        have e2 : (Nat.beq b 1 || ((Nat.beq b 2 && Nat.blt n 2) || ((Nat.beq b 4 && Nat.blt n 65536) || (Nat.beq b 5 && Nat.blt n 128)))) = true := e2
        rcases hrk with ⟨rfl, rfl⟩ | ⟨rfl, rfl⟩ | ⟨rfl, rfl⟩ | ⟨rfl, rfl⟩ | ⟨rfl, rfl⟩ | ⟨rfl, rfl⟩
        · cases e2
        · exact ⟨_, .int, rfl, rfl, rfl, hd⟩
        · have hn : n < 2 := by simpa using e2
          refine ⟨_, .boolean, rfl, rfl, ?_, hd⟩
          rcases (by omega : n = 0 ∨ n = 1) with rfl | rfl <;> rfl
        · cases e2
        · have hn : n < 65536 := by simpa using e2
          exact ⟨_, .char, rfl, rfl, fx_o_nc hn, hd⟩
        · have hn : n < 128 := by simpa using e2
          refine ⟨_, .byte, rfl, rfl, ?_, hd⟩
          rw [narrow_byte, fx_o_i2b hn]
      · have e2 : Nat.beq b 1 = true := e2
        have := fx_beq e2
        subst this
        obtain ⟨z, hz⟩ := fx_rv_var hrv'
        subst hz
        refine hrt (some (fv i)) (some (.int z)) h j H locs ce sl pc ls e3 hrv' hrh hrj hls hce hsl (Or.inr (Or.inl ?_))
        rcases hrk with ⟨q, rfl⟩ | ⟨q, rfl⟩ | ⟨q, rfl⟩ | ⟨q, rfl⟩ | ⟨q, rfl⟩ | ⟨q, rfl⟩
        · cases q
        · exact ⟨_, .int, rfl, rfl, rfl, hd⟩
        · cases q
        · cases q
        · cases q
        · cases q
      · cases e2
      · cases e2
    · cases ee
  | false =>
    rw [h0, fx_if_f] at ee
    cases h1 : Nat.beq a 1 with
    | true =>
      have := fx_beq h1
      subst this
      rw [h1, fx_if_t] at ee
      rcases stk with _ | ⟨v, stk⟩
      · simp only at ee
        have := fx_rl_nil hst
        subst this
        rcases hab with q | ⟨-, rfl⟩ | ⟨q, -⟩
        · cases q
        · refine hrt none none h j H locs ce sl pc ls ee trivial hrh hrj hls hce hsl (Or.inl ⟨rfl, ?_, hd⟩)
          rcases hrk with ⟨-, q⟩ | ⟨q, -⟩ | ⟨q, -⟩ | ⟨q, -⟩ | ⟨q, -⟩ | ⟨q, -⟩
          · exact q
          · cases q
          · cases q
          · cases q
          · cases q
          · cases q
        · cases q
      · cases ee
    | false =>
      rw [h1, fx_if_f] at ee
      rcases hab with q | ⟨q, -⟩ | ⟨q, hb3⟩
      · subst q; cases h0
      · subst q; cases h1
      · subst q
        subst hb3
        rcases stk with _ | ⟨v, _ | ⟨v2, stk⟩⟩
        · cases ee
        · rcases v with n | i | r | n
          · cases ee
          · cases ee
          · cases ee
          · simp only at ee
            obtain ⟨w, st1, rfl, hrv, hst1⟩ := fx_rl_cons hst
            have := fx_rl_nil hst1
            subst this
            have hw : w = .long (Int64.ofNat n) := hrv
            subst hw
            refine hrt (some (fl n)) (some (.long (Int64.ofNat n))) h j H locs ce sl pc ls ee rfl hrh hrj hls hce hsl (Or.inr (Or.inr ⟨_, rfl, ?_, hd⟩))
            rcases hrk with ⟨q, -⟩ | ⟨q, -⟩ | ⟨q, -⟩ | ⟨-, q⟩ | ⟨q, -⟩ | ⟨q, -⟩
            · cases q
            · cases q
            · cases q
            · exact q
            · cases q
            · cases q
        · rcases v with n | i | r | n <;> cases ee
theorem fx_s13 (F : fx_fs X Y B mst mt p s m args meth c cc nL own ini rt cod) (hgo : fx_gok l X Y p e R s m args below meth c Q nL cod mc msl go) (hin : (pc, 13, a, b, d) ∈ cod) (htl : ∀ q ∈ tl, q ∈ cod) (ee : fx_k13 go pc a tl loc stk ce sl h j = true) (hs : fx_st X Y nL loc stk h j H locs ls st) (hce : ce ≤ mc) (hsl : sl ≤ msl) : W p l e R s m args below meth c H locs ce sl Q (F0 m pc ls st) := by
  obtain ⟨hx, hb, -, hown, hts, -, -, -, hcx, -, hcod⟩ := F
  obtain ⟨hd, ha⟩ := hcod _ _ _ _ _ hin (by decide)
  have ho := ha.2.2.2.2.2.2.1 rfl
  obtain ⟨hl0, hst, hrh, hrj, hls⟩ := hs
  rcases stk with _ | ⟨x, stk⟩
  · cases ee
  obtain ⟨w, st1, rfl, hrv, hst1⟩ := fx_rl_cons hst
  simp only [fx_k13] at ee
  obtain ⟨x', e1, hrv', -⟩ := fx_nz_ok hrj hrv ee
  cases hu : fx_un a x' with
  | none => rw [hu] at e1; cases e1
  | some v =>
    rw [hu] at e1
    simp only at e1
    rw [fx_val_eq] at e1
    have K : ∀ w, fx_rv X v w → W p l e R s m args below meth c H locs ce sl Q (F0 m (pc + 1) ls (w :: st1)) := fun w hw => fx_nxt hgo htl e1 ⟨hl0, ⟨hw, hst1⟩, hrh, hrj, hls⟩ hce hsl
    rcases x' with n | i | r | n
    · have hw : w = .int (Int32.ofNat n) := hrv'
      subst hw
      rcases (by omega : a = 0 ∨ a = 1 ∨ a = 2 ∨ a = 3) with rfl | rfl | rfl | rfl
      · have hu : some (fc ((4294967296 - n % 4294967296) % 4294967296)) = some v := hu
        cases hu
        exact lv_ineg hx hb hd (K _ (by show Value.int _ = .int _; rw [fx_o_neg]))
      · have hu : fx_if (Nat.blt n 128) (some (fc n)) none = some v := hu
        cases hc : Nat.blt n 128 with
        | false => rw [hc, fx_if_f] at hu; cases hu
        | true =>
          rw [hc, fx_if_t] at hu
          cases hu
          exact lv_i2b hx hb hd (fx_o_i2b (fx_blt hc)) (K _ rfl)
      · have hu : fx_if (Nat.blt n 65536) (some (fc n)) none = some v := hu
        cases hc : Nat.blt n 65536 with
        | false => rw [hc, fx_if_f] at hu; cases hu
        | true =>
          rw [hc, fx_if_t] at hu
          cases hu
          exact lv_i2c hx hb hd (fx_o_i2c (fx_blt hc)) (K _ rfl)
      · have hu : fx_if (Nat.beq 3 3 && Nat.blt n 2147483648) (some (fl n)) none = some v := hu
        cases hc : Nat.blt n 2147483648 with
        | false => rw [hc] at hu; cases hu
        | true =>
          rw [hc] at hu
          cases hu
          exact lv_i2l hx hb hd (fx_o_i2l (fx_blt hc)) (K _ rfl)
    · obtain ⟨z, hz⟩ := fx_rv_var hrv'
      subst hz
      rcases (by omega : a = 0 ∨ a = 1 ∨ a = 2 ∨ a = 3) with rfl | rfl | rfl | rfl
      · cases hu
        exact lv_ineg hx hb hd (K _ ⟨_, rfl⟩)
      · cases hu
        exact lv_i2b hx hb hd rfl (K _ ⟨_, rfl⟩)
      · cases hu
        exact lv_i2c hx hb hd rfl (K _ ⟨_, rfl⟩)
      · cases hu
    · cases hu
    · cases hu
theorem fx_wput {ci f0 : Nat} {C : String} {T : u_T} {N : Nat} {vs : List Value} {q : Nat} {v : Value} {rest : List Value} (F : fx_fs X Y B mst mt p s m args meth c cc nL own ini rt cod) (hcl : fx_cl[ci]? = some (C, T, N)) (hk : f0 < N) (hlen : vs.length = N) (hob : t_OB q (Y.1.1 ci) N (Y.1.2 ci) H (vp_V vs)) (hlink : Cond.fieldLink own a (T f0).1 (T f0).2.1 (T f0).2.2.1 ∈ fx_tb) {ty : FieldType} (hp : parseFieldDescriptor (T f0).2.2.1 = some ty) (hn : narrow ty v = v) (hfit : fits ty v = true) (hfin : (T f0).2.2.2 = true → ini = true ∧ (T f0).1 = own) (hd : decode cc pc = .ok (.putfield a, 3))
    (K : ∀ (H1 : Heap) (lc : Loc), lc.base = q → t_OB q (Y.1.1 ci) N (Y.1.2 ci) H1 (vp_V (vs.set f0 v)) → H1.size = H.size → (∀ z : Nat, z ≠ q → H1[z]? = H[z]?) → W p l e R s m args below meth c H1 (locs ++ [lc]) ce sl Q (F0 m (pc + 3) ls rest)) : W p l e R s m args below meth c H locs ce sl Q (F0 m pc ls (v :: .ref q :: rest)) := by
  obtain ⟨hx, hb, -, hown, hts, -, hinit, -, hcx, -, -⟩ := F
  obtain ⟨fs0, -, hin, ⟨ty0, hty, -⟩, hnm, -⟩ := fx_clok hcl
  have hK := fx_vaK hcx
  have hap := va_apart (own := own) hts hin ty0 hty hnm hK hcl
  obtain ⟨cell, q1, q2, q3, q4⟩ := hob
  obtain ⟨hS, hfc, kC, hkC, hkind⟩ := hK.1 ci _ hcl
  obtain ⟨cf, kf, fi, f, hi, hsl⟩ := hS f0 hk
  have hlay := hts _ (hin _ (u_in_lay hk))
  unfold u_lay at hlay
  have hst := (u_facts hfc hkC (u_lays hts hin hk) hi).1
  have hl : f0 < vs.length := by omega
  have KK : ∀ H1 : Heap, H1[q]? = some (cell.setSlot f.slot v) → H1.size = H.size → (∀ z : Nat, z ≠ q → H1[z]? = H[z]?) → W p l e R s m args below meth c H1 (locs ++ [⟨q, f.slot⟩]) ce sl Q (F0 m (pc + 3) ls rest) := fun H1 g1 g2 g3 => by
    rw [hsl] at g1 ⊢
    exact K H1 _ rfl (t_OB.to (V := updV (vp_V vs) f0 v) ⟨_, g1, q2, q3, t_set q4 hap hk v⟩ (fun j _ => vp_updV_set hl v j)) g2 g3
  cases hff : (T f0).2.2.2 with
  | false =>
    rw [if_neg (by rw [hff]; decide)] at hlay
    have h6 := u_store hfc hkC hkind hlay hi hp hn hfit
    exact W.putK hx hb (f := f) ⟨hown, hts _ hlink, ⟨_, _, _, hi⟩, hst⟩ (by rw [q2]; exact h6) q1 q3 (by rw [hsl]; exact k2_hasslot (q4 f0 hk)) rfl rfl hd KK
  | true =>
    rw [if_pos hff] at hlay
    obtain ⟨hi0, hdecl⟩ := hfin hff
    have hcf : m.cls = cf := by
      obtain ⟨_, _, c', _, _, _, -, -, hf', -, -, -, hown2, -⟩ := Cond.laysFinal_spec hlay
      have e1 : c' = cf := by have := hi.symm.trans hf'; simp at this; exact this.1.symm
      rw [hdecl] at hown2
      rw [← e1]; exact Option.some.inj (hown.symm.trans hown2)
    have h6 := u_fits hfc hkC hkind (Or.inr hlay) hi hp hn hfit
    exact W.putFinK hx hb hown (hts _ hlink) hi hst hcf (hinit hi0) (by rw [q2]; exact h6) q1 q3 (by rw [hsl]; exact k2_hasslot (q4 f0 hk)) rfl rfl hd KK
theorem fx_fit_ok (hX : fx_xo X) {t : Nat} {ty : FieldType} (ht : fx_tag t ty) {v : fx_V} {w : Value} (hrv : fx_rv X v w) (hf : fx_fit t v = true) : narrow ty w = w ∧ fits ty w = true := by
  rcases ht with ⟨rfl, rfl⟩ | ⟨rfl, rfl⟩ | ⟨rfl, rfl⟩ | ⟨rfl, ht⟩
  · rcases v with n | i | r | n
    · have : w = _ := hrv
      subst this
      exact ⟨rfl, rfl⟩
    · obtain ⟨z, rfl⟩ := fx_rv_var hrv
      exact ⟨rfl, rfl⟩
    · cases hf
    · cases hf
  · rcases v with n | i | r | n
    · have hn : n < 2 := by
        have hf : (Nat.beq 2 0 || (Nat.beq 2 2 && Nat.blt n 2)) = true := hf
        simpa using hf
      have : w = _ := hrv
      subst this
      rcases (by omega : n = 0 ∨ n = 1) with rfl | rfl
      · exact ⟨rfl, rfl⟩
      · exact ⟨rfl, rfl⟩
    · cases hf
    · cases hf
    · cases hf
  · rcases v with n | i | r | n
    · cases hf
    · cases hf
    · cases hf
    · have : w = _ := hrv
      subst this
      exact ⟨rfl, rfl⟩
  · have hw : w = .null ∨ ∃ q, w = .ref q := by
      rcases v with n | i | r | n
      · cases hf
      · cases hf
      · cases r with
        | none => exact Or.inl hrv
        | some k =>
          have : w = _ := hrv
          subst this
          exact (hX k).2
      · cases hf
    rcases ht with ⟨n, rfl⟩ | ⟨n, rfl⟩ <;> rcases hw with rfl | ⟨q, rfl⟩ <;> exact ⟨rfl, rfl⟩
theorem fx_s14 (F : fx_fs X Y B mst mt p s m args meth c cc nL own ini rt cod) (hX : fx_xo X) (hgo : fx_gok l X Y p e R s m args below meth c Q nL cod mc msl go) (hin : (pc, 14, a, b, d) ∈ cod) (htl : ∀ q ∈ tl, q ∈ cod) (ee : fx_k14 go pc b d tl loc stk ce sl h j = true) (hs : fx_st X Y nL loc stk h j H locs ls st) (hce : ce ≤ mc) (hsl : sl ≤ msl) : W p l e R s m args below meth c H locs ce sl Q (F0 m pc ls st) := by
  have F0 := F
  obtain ⟨hx, hb, -, hown, hts, -, -, -, hcx, -, hcod⟩ := F
  obtain ⟨hd, ha⟩ := hcod _ _ _ _ _ hin (by decide)
  obtain ⟨⟨C, T, N, hcl, hk, hlink⟩, ⟨C2, T2, N2, ty, hcl2, -, hp, htag, hfin⟩⟩ := ha.2.2.2.2.2.2.2.1 rfl
  have e9 : (C2, T2, N2) = (C, T, N) := Option.some.inj (hcl2.symm.trans hcl)
  cases e9
  obtain ⟨hl0, hst, hrh, hrj, hls⟩ := hs
  rcases stk with _ | ⟨v, _ | ⟨rf, stk⟩⟩
  · cases ee
  · cases ee
  rcases rf with n | n | (_ | r) | n
  · cases ee
  · cases ee
  · cases ee
  · obtain ⟨wv, st1, rfl, hrv, hst1⟩ := fx_rl_cons hst
    obtain ⟨wr, st2, rfl, hrr, hst2⟩ := fx_rl_cons hst1
    have hrr : wr = fx_ad X r := hrr
    subst hrr
    cases hg : fx_hget h r with
    | none => simp [fx_k14, hg] at ee
    | some q =>
      rcases q with u | ⟨ci, fs⟩ | u
      · simp [fx_k14, hg] at ee
      · simp only [fx_k14, hg] at ee
        obtain ⟨e1, e2⟩ := fx_and ee
        obtain ⟨e3, e4⟩ := fx_and e1
        have e3 := fx_beq e3
        subst e3
        obtain ⟨e5, e6⟩ := fx_put_ok e2
        obtain ⟨h', e7, f1, ⟨c0, f2⟩, f3, f4⟩ := fx_hset_ok e6
        obtain ⟨g1, g2, ⟨C', T', N'⟩, vs, g3, g4, g5, g6⟩ := hrh.2.1 r _ hg
        have e8 : (C', T', N') = (C, T, N) := Option.some.inj (g3.symm.trans hcl)
        cases e8
        obtain ⟨hn, hfit⟩ := fx_fit_ok hX htag hrv e4
        rw [fx_ad_lt g2]
        refine fx_wput F0 hcl hk g4 g6 hlink hp hn hfit hfin hd (fun H1 lc hlc hob q2 q3 => ?_)
        exact fx_nxt hgo htl e7 ⟨hl0, hst2, fx_rh_set hrh f1 f2 f3 f4 q2 q3 ⟨_, vs.set (d / 8) wv, hcl, by rw [List.length_set]; exact g4, fx_rl_set hrv g5 (d / 8), hob⟩, hrj, fx_ls_add hls hlc⟩ hce hsl
      · simp [fx_k14, hg] at ee
  · cases ee
end FXD
end
section
section FXE
variable {l : Launch} {X : fx_X} {Y : fx_Y} {B : fx_B} {mst : Nat → Option fx_S} {mt : Nat → Option fx_M} {p : Program} {e : Env} {R : Room} {s : State} {m : MethodId} {args : Array Value} {below : List Frame} {meth : Method} {c : Code} {Q : State → Prop} {cc : ByteArray} {nL : Nat} {own : String} {ini : Bool} {rt : Option FieldType} {cod : List fx_I} {mc msl : Nat}
variable {go : fx_O} {pc a b d ce sl dd : Nat} {tl : List fx_I} {loc : fx_L} {stk : List fx_V} {h h' : fx_H} {j : fx_J} {H H1 : Heap} {locs : List Loc} {ls : Array Slot} {st : List Value} {k : fx_K}
theorem fx_s15 (F : fx_fs X Y B mst mt p s m args meth c cc nL own ini rt cod) (hX : fx_xo X) (hgo : fx_gok l X Y p e R s m args below meth c Q nL cod mc msl go) (hin : (pc, 15, a, b, d) ∈ cod) (htl : ∀ q ∈ tl, q ∈ cod) (ee : fx_k15 go pc a tl loc stk ce sl h j = true) (hs : fx_st X Y nL loc stk h j H locs ls st) (hce : ce ≤ mc) (hsl : sl ≤ msl) : W p l e R s m args below meth c H locs ce sl Q (F0 m pc ls st) := by
  obtain ⟨hx, hb, -, hown, hts, -, -, -, hcx, -, hcod⟩ := F
  obtain ⟨hd, ha⟩ := hcod _ _ _ _ _ hin (by decide)
  obtain ⟨hl0, hst, hrh, hrj, hls⟩ := hs
  unfold fx_k15 at ee
  cases hq : fx_stk a stk with
  | none => rw [hq] at ee; cases ee
  | some stk2 =>
    rw [hq] at ee
    simp only at ee
    have K : ∀ st2, fx_rl X stk2 st2 → W p l e R s m args below meth c H locs ce sl Q (F0 m (pc + 1) ls st2) := fun st2 h2 => fx_nxt hgo htl ee ⟨hl0, h2, hrh, hrj, hls⟩ hce hsl
    rcases stk with _ | ⟨v, stk⟩
    · cases hq
    obtain ⟨w, st1, rfl, hrv, hst1⟩ := fx_rl_cons hst
    have hcv := fx_cat_of hX hrv
    unfold fx_stk at hq
    simp only at hq
    cases h1 : Nat.beq (fx_cat v) 1 with
    | false => rw [h1, fx_if_f] at hq; cases hq
    | true =>
      rw [h1, fx_if_t] at hq
      have h1 := fx_beq h1
      have hcw : w.category = 1 := by rw [hcv, h1]
      rcases a with _ | _ | a
      · have hq : some (v :: v :: stk) = some stk2 := hq
        cases hq
        exact lv_dup hx hb hd hcw (K _ ⟨hrv, hrv, hst1⟩)
      · have hq : some stk = some stk2 := hq
        cases hq
        exact lv_pop hx hb hd hcw (K _ hst1)
      · rcases stk with _ | ⟨v2, stk⟩
        · cases hq
        obtain ⟨w2, st2, rfl, hrv2, hst2⟩ := fx_rl_cons hst1
        have hcv2 := fx_cat_of hX hrv2
        cases h2 : Nat.beq (fx_cat v2) 1 with
        | false =>
          rcases a with _ | _ | a
          · have hq : fx_if (Nat.beq (fx_cat v2) 1) (some (v :: v2 :: v :: v2 :: stk)) none = some stk2 := hq
            rw [h2, fx_if_f] at hq; cases hq
          · have hq : fx_if (Nat.beq (fx_cat v2) 1) (some (v :: v2 :: v :: stk)) none = some stk2 := hq
            rw [h2, fx_if_f] at hq; cases hq
          · rcases stk with _ | ⟨v3, stk⟩
            · have hq : fx_if (Nat.beq (fx_cat v2) 1) (none : Option (List fx_V)) none = some stk2 := hq
              rw [h2, fx_if_f] at hq; cases hq
            · have hq : fx_if (Nat.beq (fx_cat v2) 1) (fx_if (Nat.beq (fx_cat v3) 1 && Nat.beq (a + 4) 4) (some (v :: v2 :: v3 :: v :: stk)) none) none = some stk2 := hq
              rw [h2, fx_if_f] at hq; cases hq
        | true =>
          have h2' := fx_beq h2
          have hcw2 : w2.category = 1 := by rw [hcv2, h2']
          rcases a with _ | _ | a
          · have hq : fx_if (Nat.beq (fx_cat v2) 1) (some (v :: v2 :: v :: v2 :: stk)) none = some stk2 := hq
            rw [h2, fx_if_t] at hq
            cases hq
            exact lv_dup2_11 hx hb hd hcw hcw2 (K _ ⟨hrv, hrv2, hrv, hrv2, hst2⟩)
          · have hq : fx_if (Nat.beq (fx_cat v2) 1) (some (v :: v2 :: v :: stk)) none = some stk2 := hq
            rw [h2, fx_if_t] at hq
            cases hq
            exact lv_dup_x1 hx hb hd hcw hcw2 (K _ ⟨hrv, hrv2, hrv, hst2⟩)
          · rcases stk with _ | ⟨v3, stk⟩
            · have hq : fx_if (Nat.beq (fx_cat v2) 1) (none : Option (List fx_V)) none = some stk2 := hq
              rw [h2, fx_if_t] at hq; cases hq
            · have hq : fx_if (Nat.beq (fx_cat v2) 1) (fx_if (Nat.beq (fx_cat v3) 1 && Nat.beq (a + 4) 4) (some (v :: v2 :: v3 :: v :: stk)) none) none = some stk2 := hq
              rw [h2, fx_if_t] at hq
              obtain ⟨w3, st3, rfl, hrv3, hst3⟩ := fx_rl_cons hst2
              have hcv3 := fx_cat_of hX hrv3
              cases h3 : (Nat.beq (fx_cat v3) 1 && Nat.beq (a + 4) 4) with
              | false => rw [h3, fx_if_f] at hq; cases hq
              | true =>
                rw [h3, fx_if_t] at hq
                have hq3 := Option.some.inj hq
                obtain ⟨h4, h5⟩ := fx_and h3
                have h4 := fx_beq h4
                have h5 := fx_beq h5
                have h5 : a = 0 := by omega
                subst h5
                have hcw3 : w3.category = 1 := by rw [hcv3, h4]
                subst hq3
                exact lv_dup_x2 hx hb hd hcw hcw2 hcw3 (K _ ⟨hrv, hrv2, hrv3, hrv, hst3⟩)
theorem fx_s16 {E : fx_E} (hE : E.2.2.1 = fx_cd) (F : fx_fs X Y B mst mt p s m args meth c cc nL own ini rt cod) (hR : mc ≤ R.cells ∧ msl ≤ R.slots) (hgo : fx_gok l X Y p e R s m args below meth c Q nL cod mc msl go) (hin : (pc, 16, a, b, d) ∈ cod) (htl : ∀ q ∈ tl, q ∈ cod) (ee : fx_k16 E go pc b tl loc stk ce sl mc msl h j = true) (hs : fx_st X Y nL loc stk h j H locs ls st) : W p l e R s m args below meth c H locs ce sl Q (F0 m pc ls st) := by
  obtain ⟨hx, hb, -, hown, hts, -, -, -, hcx, -, hcod⟩ := F
  obtain ⟨hd, ha⟩ := hcod _ _ _ _ _ hin (by decide)
  obtain ⟨C, T, N, hcl, hlink⟩ := ha.2.2.2.2.2.2.2.2.1 rfl
  obtain ⟨hl0, hst, hrh, hrj, hls⟩ := hs
  obtain ⟨fs, hfs, hu, ⟨ty, hty, hdf⟩, -, hins, hini, hlen, hisd⟩ := fx_clok hcl
  have hfs' : E.2.2.1 b = some fs := by rw [hE]; show fx_nth fx_cdl b = _; rw [fx_nth_eq]; exact hfs
  simp only [fx_k16, hfs'] at ee
  obtain ⟨e1, e2⟩ := fx_and ee
  obtain ⟨e3, e4⟩ := fx_and e1
  have e3 := fx_ble e3
  have e4 := fx_ble e4
  obtain ⟨h', e5, f1, f2, f3, f4⟩ := fx_hnew_ok e2
  rw [fx_num_eq, fx_num_eq, fx_num_eq] at e5
  have hKn := hcx.1 b _ hcl
  refine W.newcK hx hb hown (hts _ hlink) (hts _ hins) (hts _ hini) rfl hd (by omega) (by rw [← hlen]; omega) hKn.2.1 (h := X.2.1 + h.1) hrh.1 (fun H1 kC hkC g1 g2 g3 => ?_)
  have hob := (u_born ty hts hu hKn hkC g1 hty).to (V' := vp_V (fs.map fx_dv)) hdf
  have K := fx_nxt hgo htl e5 (H := H1) (locs := locs) (ls := ls) (st := .ref (X.2.1 + h.1) :: st) ⟨hl0, ⟨(fx_ad_lt f2).symm, hst⟩, fx_rh_new hrh f1 f2 f3 f4 (by rw [g2, hrh.1]) (fun q hq => g3 q (by rw [← hrh.1]; exact hq)) ⟨_, _, hcl, by rw [List.length_map]; exact hlen, fx_isd_ok hisd, hob⟩, hrj, hls⟩ e3 e4
  rw [hlen] at K
  exact K
theorem fx_s17 (F : fx_fs X Y B mst mt p s m args meth c cc nL own ini rt cod) (hat : ∀ t, t < 4 → Cond.arrayClass (fx_ty t) ∈ fx_tb) (hR : mc ≤ R.cells ∧ msl ≤ R.slots) (hgo : fx_gok l X Y p e R s m args below meth c Q nL cod mc msl go) (hin : (pc, 17, a, b, d) ∈ cod) (htl : ∀ q ∈ tl, q ∈ cod) (ee : fx_k17 go pc a tl loc stk ce sl mc msl h j = true) (hs : fx_st X Y nL loc stk h j H locs ls st) : W p l e R s m args below meth c H locs ce sl Q (F0 m pc ls st) := by
  obtain ⟨hx, hb, -, hown, hts, -, -, -, hcx, -, hcod⟩ := F
  obtain ⟨hd, ha⟩ := hcod _ _ _ _ _ hin (by decide)
  obtain ⟨hl0, hst, hrh, hrj, hls⟩ := hs
  rcases stk with _ | ⟨v, stk⟩
  · cases ee
  rcases v with n | v | v | v
  · obtain ⟨w, st1, rfl, hrv, hst1⟩ := fx_rl_cons hst
    have hw : w = .int (Int32.ofNat n) := hrv
    subst hw
    simp only [fx_k17] at ee
    obtain ⟨e1, e2⟩ := fx_and ee
    obtain ⟨e3, e4⟩ := fx_and e1
    obtain ⟨e5, e6⟩ := fx_and e3
    obtain ⟨e7, e8⟩ := fx_and e4
    have hn := fx_ble e5
    have ha4 := fx_blt e6
    have e7 := fx_ble e7
    have e8 := fx_ble e8
    obtain ⟨h', e9, f1, f2, f3, f4⟩ := fx_hnew_ok e2
    rw [fx_num_eq, fx_num_eq, fx_num_eq] at e9
    have key : newarray.typeOf (fx_at a) = fx_ty a ∧ componentBytes (fx_ty a) ≤ 8 ∧ fx_rv X (fx_dft a) (defaultValue (fx_ty a)) := by
      rcases (by omega : a = 0 ∨ a = 1 ∨ a = 2 ∨ a = 3) with rfl | rfl | rfl | rfl
      · exact ⟨rfl, by decide, rfl⟩
      · exact ⟨rfl, by decide, rfl⟩
      · exact ⟨rfl, by decide, rfl⟩
      · exact ⟨rfl, by decide, rfl⟩
    obtain ⟨k1, k2, k3⟩ := key
    refine va_newaK (N := n) hx hb (by rw [k1]; exact hts _ (hat a ha4)) rfl hd rfl (nI_pos (by omega)) (fx_clamp (by omega)) ?_ (by omega) (by omega) (h := X.2.1 + h.1) hrh.1 (fun H1 cA g1 g2 g3 g4 g5 => ?_)
    · rw [k1]
      calc n * componentBytes (fx_ty a) ≤ n * 8 := Nat.mul_le_mul_left _ k2
        _ ≤ 536870912 := by omega
    · rw [k1] at g1 g5
      have hcA : cA = Y.2.1 a := Option.some.inj (g5.symm.trans (hcx.2.1 a ha4).2)
      subst hcA
      exact fx_nxt hgo htl e9 ⟨hl0, ⟨(fx_ad_lt f2).symm, hst1⟩, fx_rh_new hrh f1 f2 f3 f4 (by rw [g2, hrh.1]) (fun q hq => g3 q (by rw [← hrh.1]; exact hq)) ⟨_, g1, by omega, ha4, fun i => k3⟩, hrj, hls⟩ e7 e8
  · cases ee
  · cases ee
  · cases ee
theorem fx_s18 (F : fx_fs X Y B mst mt p s m args meth c cc nL own ini rt cod) (hXX : fx_xx X B) (hgo : fx_gok l X Y p e R s m args below meth c Q nL cod mc msl go) (hin : (pc, 18, a, b, d) ∈ cod) (htl : ∀ q ∈ tl, q ∈ cod) (ee : fx_k18 go pc tl loc stk ce sl h j = true) (hs : fx_st X Y nL loc stk h j H locs ls st) (hce : ce ≤ mc) (hsl : sl ≤ msl) : W p l e R s m args below meth c H locs ce sl Q (F0 m pc ls st) := by
  obtain ⟨hx, hb, -, hown, hts, -, -, -, hcx, -, hcod⟩ := F
  obtain ⟨hd, ha⟩ := hcod _ _ _ _ _ hin (by decide)
  obtain ⟨hl0, hst, hrh, hrj, hls⟩ := hs
  rcases stk with _ | ⟨v, stk⟩
  · cases ee
  rcases v with n | v | (_ | r) | v
  · cases ee
  · cases ee
  · cases ee
  · obtain ⟨w, st1, rfl, hrv, hst1⟩ := fx_rl_cons hst
    have hw : w = fx_ad X r := hrv
    subst hw
    cases hq : fx_len h r with
    | none => simp [fx_k18, hq] at ee
    | some v =>
      simp only [fx_k18, hq] at ee
      have K : ∀ w, fx_rv X v w → W p l e R s m args below meth c H locs ce sl Q (F0 m (pc + 1) ls (w :: st1)) := fun w hw => by
        obtain ⟨v', e1, hrv', -⟩ := fx_nz_ok hrj hw ee
        exact fx_nxt hgo htl e1 ⟨hl0, ⟨hrv', hst1⟩, hrh, hrj, hls⟩ hce hsl
      unfold fx_len at hq
      cases hg : fx_hget h r with
      | some q =>
        rw [hg] at hq
        rcases q with u | u | ⟨ty, len, u⟩
        · cases hq
        · cases hq
        · cases hq
          obtain ⟨f, g1, g2, g3, g4, g5⟩ := fx_arr hrh hg
          rw [g5]
          exact W.alen (n := Int32.ofNat len) hx hb g1 ((hcx.2.1 ty g3).1 len f) (by rw [arrV_size]) rfl rfl hd (K _ rfl)
      | none =>
        rw [hg] at hq
        simp only at hq
        obtain ⟨hxo, -, hxs, h8, hL, hb0, -, hb2, hbl⟩ := hXX
        cases hr : Nat.beq r 1000000 with
        | true =>
          have := fx_beq hr
          subst this
          rw [hr, fx_if_t] at hq
          cases hq
          obtain ⟨scr, g1, g2, g3, g4, g5⟩ := hcx.2.2.2.2.2.2.2.2.2.2
          rw [hb0]
          exact W.alen (n := Int32.ofNat B.2.1) hx hb (by rw [hrh.2.2 _ hbl]; exact g1) g2 (by rw [g4]) rfl rfl hd (K _ (by show Value.int _ = .int _; rw [h8]))
        | false =>
          rw [hr, fx_if_f] at hq
          cases hr2 : Nat.beq r 1000002 with
          | true =>
            have := fx_beq hr2
            subst this
            rw [hr2, fx_if_t] at hq
            cases hq
            obtain ⟨cell, g1, g2, g3, g4, g5, g6, g7⟩ := hcx.2.2.2.2.2.2.2.2.2.1
            rw [hb2]
            exact W.alen (n := Int32.ofNat 123) hx hb (by rw [hrh.2.2 _ (Nat.not_le.mp g7)]; exact g1) g2 g5 rfl rfl hd (K _ rfl)
          | false =>
            rw [hr2, fx_if_f] at hq
            cases hq
  · cases ee
theorem fx_s19 (F : fx_fs X Y B mst mt p s m args meth c cc nL own ini rt cod) (hgo : fx_gok l X Y p e R s m args below meth c Q nL cod mc msl go) (hin : (pc, 19, a, b, d) ∈ cod) (htl : ∀ q ∈ tl, q ∈ cod) (ee : fx_k19 go cod pc a b tl loc stk ce sl h j = true) (hs : fx_st X Y nL loc stk h j H locs ls st) (hce : ce ≤ mc) (hsl : sl ≤ msl) : W p l e R s m args below meth c H locs ce sl Q (F0 m pc ls st) := by
  obtain ⟨hx, hb, -, hown, hts, -, -, -, hcx, -, hcod⟩ := F
  obtain ⟨hd, ha⟩ := hcod _ _ _ _ _ hin (by decide)
  obtain ⟨hl0, hst, hrh, hrj, hls⟩ := hs
  rcases stk with _ | ⟨v, stk⟩
  · cases ee
  rcases v with n | v | (_ | r) | v
  · cases ee
  · cases ee
  · obtain ⟨w, st1, rfl, hrv, hst1⟩ := fx_rl_cons hst
    have hw : w = .null := hrv
    subst hw
    simp only [fx_k19] at ee
    rcases a with _ | a
    · exact lv_ifnullN hx hb hd (fx_off pc b) (fx_jmp hgo ee ⟨hl0, hst1, hrh, hrj, hls⟩ hce hsl)
    · obtain ⟨e1, e2⟩ := fx_and (a := Nat.beq (a + 1) 1) (b := fx_nx (fun t => go t loc stk ce sl h j) pc 3 tl) ee
      have := fx_beq e1
      have : a = 0 := by omega
      subst this
      exact lv_ifnonnullN hx hb hd (fx_nxt hgo htl e2 ⟨hl0, hst1, hrh, hrj, hls⟩ hce hsl)
  · obtain ⟨w, st1, rfl, hrv, hst1⟩ := fx_rl_cons hst
    have hw : w = fx_ad X r := hrv
    subst hw
    simp only [fx_k19] at ee
    obtain ⟨e0, ee⟩ := fx_and ee
    rw [fx_ad_lt (fx_blt e0)]
    rcases a with _ | _ | a
    · obtain ⟨e1, e2⟩ := fx_and (a := Nat.beq 0 0) (b := fx_nx (fun t => go t loc stk ce sl h j) pc 3 tl) ee
      exact lv_ifnull hx hb hd (fx_nxt hgo htl e2 ⟨hl0, hst1, hrh, hrj, hls⟩ hce hsl)
    · exact lv_ifnonnull hx hb hd (fx_off pc b) (fx_jmp hgo ee ⟨hl0, hst1, hrh, hrj, hls⟩ hce hsl)
    · obtain ⟨e1, e2⟩ := fx_and (a := Nat.beq (a + 2) 0) (b := fx_nx (fun t => go t loc stk ce sl h j) pc 3 tl) ee
      cases e1
  · cases ee
end FXE
end
section
section FXF
variable {l : Launch} {X : fx_X} {Y : fx_Y} {B : fx_B} {mst : Nat → Option fx_S} {mt : Nat → Option fx_M} {p : Program} {e : Env} {R : Room} {s : State} {m : MethodId} {args : Array Value} {below : List Frame} {meth : Method} {c : Code} {Q : State → Prop} {cc : ByteArray} {nL : Nat} {own : String} {ini : Bool} {rt : Option FieldType} {cod : List fx_I} {mc msl : Nat}
variable {go : fx_O} {pc a b d ce sl dd : Nat} {tl : List fx_I} {loc : fx_L} {stk : List fx_V} {h h' : fx_H} {j : fx_J} {H H1 : Heap} {locs : List Loc} {ls : Array Slot} {st : List Value} {k : fx_K}
/-- where a switch goes: keys from lo on, biased -/
def fx_tgt (ts : List Nat) (dft lo z : Nat) (t : Nat) : Prop := (lo ≤ z ∧ ts[z - lo]? = some t) ∨ ((z < lo ∨ lo + ts.length ≤ z) ∧ t = dft)
theorem fx_keys_ok (hj : fx_rj X j) {i : Nat} {g : Nat → fx_J → Bool} : ∀ {ts : List Nat} {lo : Nat}, fx_keys j i g ts lo = true → lo ≤ fx_z (X.1 i) → ∀ t, ts[fx_z (X.1 i) - lo]? = some t → ∃ j', g t j' = true ∧ fx_rj X j' := by
  intro ts
  induction ts with
  | nil => intro lo _ _ t ht; simp at ht
  | cons u ts ih =>
    intro lo ee hlo t ht
    obtain ⟨e1, e2⟩ := fx_and (a := fx_if (Nat.ble (fx_iv j i).1 lo && Nat.ble lo (fx_iv j i).2) (fx_with j i lo lo (g u)) true) (b := fx_keys j i g ts (lo + 1)) ee
    by_cases hz : fx_z (X.1 i) = lo
    · rw [hz, Nat.sub_self, List.getElem?_cons_zero] at ht
      cases ht
      have hq := fx_iv_ok hj i
      rw [hz] at hq
      rw [Nat.ble_eq_true_of_le hq.1, Nat.ble_eq_true_of_le hq.2] at e1
      exact fx_with_ok hj ⟨by omega, by omega⟩ e1
    · have e3 : fx_z (X.1 i) - lo = (fx_z (X.1 i) - (lo + 1)) + 1 := by omega
      rw [e3, List.getElem?_cons_succ] at ht
      exact ih e2 (by omega) t ht
theorem fx_sw_ok (hj : fx_rj X j) {x : fx_V} {w : Value} (hrv : fx_rv X x w) {dft lo : Nat} {ts : List Nat} {g : Nat → fx_J → Bool} (ee : fx_sw j x dft lo ts g = true) : ∃ (z : Int32) (t : Nat) (j' : fx_J), w = .int z ∧ fx_tgt ts dft lo (fx_z z) t ∧ g t j' = true ∧ fx_rj X j' := by
  rcases x with n | i | r | n
  · refine ⟨Int32.ofNat n, ?_⟩
    have ee : fx_if (Nat.ble lo (fx_b n)) (match fx_nth ts (fx_b n - lo) with
      | some t => g t j
      | none => g dft j) (g dft j) = true := ee
    cases hc : Nat.ble lo (fx_b n) with
    | false =>
      rw [hc, fx_if_f] at ee
      exact ⟨dft, j, hrv, Or.inr ⟨Or.inl (by rw [fx_z_of]; exact fx_nle hc), rfl⟩, ee, hj⟩
    | true =>
      rw [hc, fx_if_t] at ee
      have hc := fx_ble hc
      cases ht : fx_nth ts (fx_b n - lo) with
      | none =>
        rw [ht] at ee
        rw [fx_nth_eq] at ht
        have := List.getElem?_eq_none_iff.mp ht
        exact ⟨dft, j, hrv, Or.inr ⟨Or.inr (by rw [fx_z_of]; omega), rfl⟩, ee, hj⟩
      | some t =>
        rw [ht] at ee
        rw [fx_nth_eq] at ht
        exact ⟨t, j, hrv, Or.inl ⟨by rw [fx_z_of]; exact hc, by rw [fx_z_of]; exact ht⟩, ee, hj⟩
  · cases i with
    | zero => cases ee
    | succ i =>
      refine ⟨X.1 (i + 1), ?_⟩
      have ee : (fx_keys j (i + 1) g ts lo && ((Nat.beq lo 0 || fx_with j (i + 1) (fx_iv j (i + 1)).1 (fx_if (Nat.ble (fx_iv j (i + 1)).2 (lo - 1)) (fx_iv j (i + 1)).2 (lo - 1)) (g dft)) && fx_with j (i + 1) (fx_if (Nat.ble (lo + ts.length) (fx_iv j (i + 1)).1) (fx_iv j (i + 1)).1 (lo + ts.length)) (fx_iv j (i + 1)).2 (g dft))) = true := ee
      obtain ⟨e1, e2⟩ := fx_and ee
      obtain ⟨e3, e4⟩ := fx_and e2
      have hq := fx_iv_ok hj (i + 1)
      by_cases h1 : fx_z (X.1 (i + 1)) < lo
      · rcases fx_or e3 with e3 | e3
        · have := fx_beq e3
          omega
        · have hb : (fx_iv j (i + 1)).1 ≤ fx_z (X.1 (i + 1)) ∧ fx_z (X.1 (i + 1)) ≤ fx_if (Nat.ble (fx_iv j (i + 1)).2 (lo - 1)) (fx_iv j (i + 1)).2 (lo - 1) := by
            refine ⟨hq.1, ?_⟩
            cases hc : Nat.ble (fx_iv j (i + 1)).2 (lo - 1) with
            | true => rw [fx_if_t]; exact hq.2
            | false => rw [fx_if_f]; omega
          obtain ⟨j', g1, g2⟩ := fx_with_ok hj hb e3
          exact ⟨dft, j', hrv, Or.inr ⟨Or.inl h1, rfl⟩, g1, g2⟩
      · by_cases h2 : lo + ts.length ≤ fx_z (X.1 (i + 1))
        · have hb : fx_if (Nat.ble (lo + ts.length) (fx_iv j (i + 1)).1) (fx_iv j (i + 1)).1 (lo + ts.length) ≤ fx_z (X.1 (i + 1)) ∧ fx_z (X.1 (i + 1)) ≤ (fx_iv j (i + 1)).2 := by
            refine ⟨?_, hq.2⟩
            cases hc : Nat.ble (lo + ts.length) (fx_iv j (i + 1)).1 with
            | true => rw [fx_if_t]; exact hq.1
            | false => rw [fx_if_f]; omega
          obtain ⟨j', g1, g2⟩ := fx_with_ok hj hb e4
          exact ⟨dft, j', hrv, Or.inr ⟨Or.inr h2, rfl⟩, g1, g2⟩
        · have hl : fx_z (X.1 (i + 1)) - lo < ts.length := by omega
          obtain ⟨j', g1, g2⟩ := fx_keys_ok hj e1 (by omega) _ (List.getElem?_eq_getElem hl)
          exact ⟨_, j', hrv, Or.inl ⟨by omega, List.getElem?_eq_getElem hl⟩, g1, g2⟩
  · cases ee
  · cases ee
theorem fx_z_int (z : Int32) : (fx_z z : Int) = z.toInt + 2147483648 := by
  have h1 := z.le_toInt
  unfold fx_z
  omega
theorem fx_s20 {E : fx_E} (hE : E.2.1 = fx_swt) (F : fx_fs X Y B mst mt p s m args meth c cc nL own ini rt cod) {kd : Nat} (hkd : kd = 20 ∨ kd = 21) (hgo : fx_gok l X Y p e R s m args below meth c Q nL cod mc msl go) (hin : (pc, kd, a, b, d) ∈ cod) (ee : fx_k20 E go cod a b d loc stk ce sl h j = true) (hs : fx_st X Y nL loc stk h j H locs ls st) (hce : ce ≤ mc) (hsl : sl ≤ msl) : W p l e R s m args below meth c H locs ce sl Q (F0 m pc ls st) := by
  obtain ⟨hx, hb, -, hown, hts, -, -, -, hcx, -, hcod⟩ := F
  obtain ⟨hd, ha⟩ := hcod _ _ _ _ _ hin (by omega)
  obtain ⟨hb1, hb2, hb3⟩ := ha.2.2.2.2.2.2.2.2.2.1 hkd
  have hl2 := ha.2.2.2.2.2.2.2.2.2.2.2.2.2.2.2.2.2.1
  obtain ⟨hl0, hst, hrh, hrj, hls⟩ := hs
  rcases stk with _ | ⟨x, stk⟩
  · cases ee
  obtain ⟨w, st1, rfl, hrv, hst1⟩ := fx_rl_cons hst
  simp only [fx_k20] at ee
  obtain ⟨x', e1, hrv', -⟩ := fx_nz_ok hrj hrv ee
  obtain ⟨z, t, j', rfl, htg, e2, hj'⟩ := fx_sw_ok hrj hrv' e1
  rw [hE] at htg
  have K := fx_jmp hgo e2 (H := H) (locs := locs) (ls := ls) (st := st1) ⟨hl0, hst1, hrh, hj', hls⟩ hce hsl
  have hlo : fx_b b = b + 2147483648 := by
    show (b + 2147483648) % 4294967296 = _
    omega
  have hzi := fx_z_int z
  rw [hlo] at htg
  rcases hkd with rfl | rfl
  · rcases htg with ⟨h1, h2⟩ | ⟨h1, rfl⟩
    · have h3 : fx_z z - (b + 2147483648) < (fx_swt d).length := (List.getElem?_eq_some_iff.mp h2).1
      refine lv_tableIn (off := (t : Int) - (pc : Int)) hx hb hd (by omega) (by omega) ?_ (fx_off pc t) K
      have e5 : (z.toInt - (b : Int)).toNat = fx_z z - (b + 2147483648) := by omega
      rw [e5, List.getElem?_toArray, List.getElem?_map, h2]
      rfl
    · exact lv_tableOut hx hb hd (by omega) (fx_off pc t) K
  · have hl2 := hl2 rfl
    obtain ⟨t0, t1, hts2⟩ : ∃ t0 t1, fx_swt d = [t0, t1] := by
      rcases hq : fx_swt d with _ | ⟨t0, _ | ⟨t1, _ | ⟨t2, r⟩⟩⟩
      · rw [hq] at hl2; cases hl2
      · rw [hq] at hl2; cases hl2
      · exact ⟨t0, t1, rfl⟩
      · rw [hq] at hl2; simp at hl2
    have hd : decode cc pc = .ok (.lookupswitch ((a : Int) - (pc : Int)) #[((b : Int) + 0, (t0 : Int) - (pc : Int)), ((b : Int) + 1, (t1 : Int) - (pc : Int))], 9 + (3 - pc % 4) + 8 * (fx_swt d).length) := by
      rw [hd]
      simp only [fx_ins]
      rw [hts2]
      rfl
    rw [hts2] at htg
    refine lv_lookup (off := (t : Int) - (pc : Int)) hx hb hd (by simp; omega) ?_ (fx_off pc t) K
    simp only [Op.lookupswitch.offset_cons, Op.lookupswitch.offset_nil]
    rcases htg with ⟨h1, h2⟩ | ⟨h1, rfl⟩
    · have h3 : fx_z z - (b + 2147483648) < 2 := (List.getElem?_eq_some_iff.mp h2).1
      rcases (by omega : fx_z z - (b + 2147483648) = 0 ∨ fx_z z - (b + 2147483648) = 1) with h4 | h4
      · rw [h4] at h2
        cases h2
        rw [if_pos (by omega)]
      · rw [h4] at h2
        cases h2
        rw [if_neg (by omega), if_pos (by omega)]
    · have h1 : fx_z z < b + 2147483648 ∨ b + 2147483648 + 2 ≤ fx_z z := h1
      rw [if_neg (by omega), if_neg (by omega)]
theorem fx_cats_ok (hX : fx_xo X) : ∀ {stk : List fx_V} {st : List Value}, fx_rl X stk st → (st.map fun v => v.category).sum = fx_cats stk := by
  intro stk
  induction stk with
  | nil => intro st hh; rw [fx_rl_nil hh]; rfl
  | cons v stk ih =>
    intro st hh
    obtain ⟨w, st1, rfl, h1, h2⟩ := fx_rl_cons hh
    rw [List.map_cons, List.sum_cons, ih h2, fx_cat_of hX h1]
    rfl
theorem fx_s22 (F : fx_fs X Y B mst mt p s m args meth c cc nL own ini rt cod) (hX : fx_xo X) (hoi : Cond.instanceMethod Lib.objectInit ∈ fx_tb ∧ Cond.code Lib.objectInit ⟨#[0xb1]⟩ 1 none ∈ fx_tb) (hR : dd ≤ R.frames ∧ 60 * dd ≤ R.locals) (hgo : fx_gok l X Y p e R s m args below meth c Q nL cod mc msl go) (hin : (pc, 22, a, b, d) ∈ cod) (htl : ∀ q ∈ tl, q ∈ cod) (ee : fx_k22 go dd pc tl loc stk ce sl h j = true) (hs : fx_st X Y nL loc stk h j H locs ls st) (hce : ce ≤ mc) (hsl : sl ≤ msl) : W p l e R s m args below meth c H locs ce sl Q (F0 m pc ls st) := by
  obtain ⟨hx, hb, hml, hown, hts, -, -, -, hcx, -, hcod⟩ := F
  obtain ⟨hd, ha⟩ := hcod _ _ _ _ _ hin (by decide)
  have hlink := ha.2.2.2.2.2.2.2.2.2.2.1 rfl
  obtain ⟨hl0, hst, hrh, hrj, hls⟩ := hs
  rcases stk with _ | ⟨v, stk⟩
  · cases ee
  rcases v with n | v | (_ | r) | v
  · cases ee
  · cases ee
  · cases ee
  · obtain ⟨w, st1, rfl, hrv, hst1⟩ := fx_rl_cons hst
    have hw : w = fx_ad X r := hrv
    subst hw
    simp only [fx_k22] at ee
    obtain ⟨e1, e2⟩ := fx_and ee
    obtain ⟨e3, e4⟩ := fx_and e1
    obtain ⟨e5, e6⟩ := fx_and e4
    have e3 := fx_blt e3
    have e6 := fx_ble e6
    rw [fx_ad_lt (fx_blt e5)]
    have hsum := fx_cats_ok hX hst1
    obtain ⟨lv, hlv, hrn⟩ := hl0
    refine W.objInit hx hb hown (hts _ hlink) (hts _ hoi.1) (hts _ hoi.2) rfl (by rw [hml]; exact hlv.1) rfl hd (by omega) ?_ (fx_nxt hgo htl e2 ⟨⟨lv, hlv, hrn⟩, hst1, hrh, hrj, hls⟩ hce hsl)
    show 2 * 0 + (st1.map fun v => v.category).sum + 12 ≤ R.locals
    omega
  · cases ee
theorem fx_ints_ok {u : List (Nat × fx_V)} {sp : Nat} : ∀ {n : Nat}, fx_ints u sp n = true → ∀ i, i < n → fx_int (fx_aget 0 u (sp + i)) = true := by
  intro n
  induction n with
  | zero => intro _ i hi; omega
  | succ n ih =>
    intro ee i hi
    obtain ⟨e1, e2⟩ := fx_and (a := fx_int (fx_aget 0 u (sp + n))) (b := fx_ints u sp n) ee
    by_cases hn : i = n
    · subst hn; exact e1
    · exact ih e2 i (by omega)
theorem fx_s23 (F : fx_fs X Y B mst mt p s m args meth c cc nL own ini rt cod) (hX : fx_xo X) (hac : Cond.native arraycopyName ∈ fx_tb ∧ Cond.static arraycopyName ∈ fx_tb ∧ Cond.initialized "java/lang/System" ∈ fx_tb) (hR : dd ≤ R.frames ∧ 60 * dd ≤ R.locals) (hgo : fx_gok l X Y p e R s m args below meth c Q nL cod mc msl go) (hin : (pc, 23, a, b, d) ∈ cod) (htl : ∀ q ∈ tl, q ∈ cod) (ee : fx_k23 go dd pc tl loc stk ce sl h j = true) (hs : fx_st X Y nL loc stk h j H locs ls st) (hce : ce ≤ mc) (hsl : sl ≤ msl) : W p l e R s m args below meth c H locs ce sl Q (F0 m pc ls st) := by
  obtain ⟨hx, hb, hml, hown, hts, -, -, -, hcx, -, hcod⟩ := F
  obtain ⟨hd, ha⟩ := hcod _ _ _ _ _ hin (by decide)
  have hlink := ha.2.2.2.2.2.2.2.2.2.2.2.1 rfl
  obtain ⟨hl0, hst, hrh, hrj, hls⟩ := hs
  rcases stk with _ | ⟨v1, _ | ⟨v2, _ | ⟨v3, _ | ⟨v4, _ | ⟨v5, stk⟩⟩⟩⟩⟩
  · cases ee
  · rcases v1 with n | v | r | v <;> cases ee
  · rcases v1 with n | v | r | v
    · rcases v2 with dp | v | r | v <;> cases ee
    · cases ee
    · cases ee
    · cases ee
  · rcases v1 with n | v | r | v
    · rcases v2 with dp | v | r | v
      · rcases v3 with q | v | (_ | r) | v <;> cases ee
      · cases ee
      · cases ee
      · cases ee
    · cases ee
    · cases ee
    · cases ee
  · rcases v1 with n | v | r | v
    · rcases v2 with dp | v | r | v
      · rcases v3 with q | v | (_ | r) | v
        · cases ee
        · cases ee
        · cases ee
        · rcases v4 with sp | v | r4 | v <;> cases ee
        · cases ee
      · cases ee
      · cases ee
      · cases ee
    · cases ee
    · cases ee
    · cases ee
  · rcases v1 with n | v | r | v
    rotate_left
    · cases ee
    · cases ee
    · cases ee
    rcases v2 with dp | v | r | v
    rotate_left
    · cases ee
    · cases ee
    · cases ee
    rcases v3 with q | v | (_ | r) | v
    · cases ee
    · cases ee
    · cases ee
    rotate_left
    · cases ee
    rcases v4 with sp | v | r4 | v
    rotate_left
    · cases ee
    · cases ee
    · cases ee
    rcases v5 with q | v | (_ | r0) | v
    · cases ee
    · cases ee
    · cases ee
    rotate_left
    · cases ee
    obtain ⟨w1, st1, rfl, hr1, hst1⟩ := fx_rl_cons hst
    obtain ⟨w2, st2, rfl, hr2, hst2⟩ := fx_rl_cons hst1
    obtain ⟨w3, st3, rfl, hr3, hst3⟩ := fx_rl_cons hst2
    obtain ⟨w4, st4, rfl, hr4, hst4⟩ := fx_rl_cons hst3
    obtain ⟨w5, st5, rfl, hr5, hst5⟩ := fx_rl_cons hst4
    have hr1 : w1 = .int (Int32.ofNat n) := hr1
    have hr2 : w2 = .int (Int32.ofNat dp) := hr2
    have hr3 : w3 = fx_ad X r := hr3
    have hr4 : w4 = .int (Int32.ofNat sp) := hr4
    have hr5 : w5 = fx_ad X r0 := hr5
    subst hr1; subst hr2; subst hr3; subst hr4; subst hr5
    cases hg0 : fx_hget h r0 with
    | none => simp [fx_k23, hg0] at ee
    | some q0 =>
      rcases q0 with u | u | ⟨ty0, len0, u0⟩
      · simp [fx_k23, hg0] at ee
      · simp [fx_k23, hg0] at ee
      · cases ty0 with
        | succ t => simp [fx_k23, hg0] at ee
        | zero =>
          cases hg : fx_hget h r with
          | none => simp [fx_k23, hg0, hg] at ee
          | some q =>
            rcases q with u | u | ⟨ty, len, u⟩
            · simp [fx_k23, hg0, hg] at ee
            · simp [fx_k23, hg0, hg] at ee
            · cases ty with
              | succ t => simp [fx_k23, hg0, hg] at ee
              | zero =>
                simp only [fx_k23, hg0, hg] at ee
                obtain ⟨e1, e2⟩ := fx_and ee
                obtain ⟨e3, e4⟩ := fx_and e1
                obtain ⟨e5, e6⟩ := fx_and e3
                obtain ⟨e7, e8⟩ := fx_and e4
                obtain ⟨e9, e10⟩ := fx_and e8
                have e5 := fx_blt e5
                have e6 := fx_ble e6
                have e7 := fx_ble e7
                have e9 := fx_ble e9
                obtain ⟨u', e11, hu'⟩ := fx_copy_ok e2
                obtain ⟨h', e12, f1, ⟨c0, f2⟩, f3, f4⟩ := fx_hset_ok e11
                obtain ⟨fa, g1, g2, g3, g4, g5⟩ := fx_arr hrh hg0
                obtain ⟨fb, k1, k2, k3, k4, k5⟩ := fx_arr hrh hg
                rw [g5, k5]
                have hsum := fx_cats_ok hX hst5
                obtain ⟨lv, hlv, hrn⟩ := hl0
                have cn := fx_clamp (n := n) (by omega)
                have cs := fx_clamp (n := sp) (by omega)
                have cd := fx_clamp (n := dp) (by omega)
                have in_ := fx_o_int (n := n) (by omega)
                have is_ := fx_o_int (n := sp) (by omega)
                have id_ := fx_o_int (n := dp) (by omega)
                intro T hT XS
                obtain ⟨-, ks, hks, cm0, hkk0⟩ := (hcx.2.1 0 g3).1 len0 fa
                obtain ⟨vm', X', step⟩ := XS.arraycopy hx hown (hts _ hlink) (hts _ hac.1) (hts _ hac.2.1) (hts _ hac.2.2) (src := X.2.1 + r0) (dst := X.2.1 + r) (cs := arrV (Y.2.1 0) len0 fa) (cd := arrV (Y.2.1 0) len fb) (srcPos := Int32.ofNat sp) (destPos := Int32.ofNat dp) (n := Int32.ofNat n) (by rw [hT]; exact g1) (by rw [hT]; exact k1)
                  (fun _ h => by cases h) (fun _ h => by cases h) (fun h => by cases h) (fun h => by cases h) hks hks hkk0 hkk0 (by simp [refKind, fx_ty]) (nI_pos (by omega)) (nI_pos (by omega)) (nI_pos (by omega))
                  (by rw [in_, is_, arrV_size]; omega) (by rw [in_, id_, arrV_size]; omega)
                  (fun vm₁ _ i hi => by
                    rw [cn] at hi
                    have e : (arrV (Y.2.1 0) len0 fa).slots.getD ((Int32.ofNat sp).toNatClampNeg + i) .null = fa (sp + i) := by
                      rw [cs, Array.getD_eq_getD_getElem?, arrV_read _ _ (by omega)]
                      rfl
                    obtain ⟨z, hz⟩ := fx_rv_int (g4 (sp + i)) (fx_ints_ok e10 i hi)
                    rw [e, hz]
                    exact ⟨rfl, trivial⟩)
                  (g := F0 m pc ls (.int (Int32.ofNat n) :: .int (Int32.ofNat dp) :: .ref (X.2.1 + r) :: .int (Int32.ofNat sp) :: .ref (X.2.1 + r0) :: st5)) rfl (by rw [hml]; exact hlv.1) (rest := st5) rfl (by rw [hb]; exact hd) (by omega) (by
                    have hnw : nativeFrameWords "java/lang/System" "arraycopy" 5 = 7 := by decide
                    rw [hnw]
                    show 2 * 0 + _ + _ ≤ _
                    omega)
                have ec : copied (arrV (Y.2.1 0) len0 fa) (arrV (Y.2.1 0) len fb) (Int32.ofNat sp) (Int32.ofNat dp) (Int32.ofNat n) = arrV (Y.2.1 0) len (va_cpy fa fb sp dp n) := by
                  have := va_copied (fun z : Value => z) (Y.2.1 0) (Y.2.1 0) (n0 := len0) (n1 := len) (sp := sp) (dp := dp) (n := n) fa fb e7
                  show (arrV (Y.2.1 0) len fb).storeRun (Int32.ofNat dp).toNatClampNeg ((arrV (Y.2.1 0) len0 fa).stretch (Int32.ofNat sp).toNatClampNeg (Int32.ofNat n).toNatClampNeg) = _
                  rw [cn, cs, cd]
                  exact this
                rw [ec] at X' step
                have hl : X.2.1 + r < H.size := (Array.getElem?_eq_some_iff.mp k1).1
                have hheap : ((T.setVm vm').setCell (X.2.1 + r) (arrV (Y.2.1 0) len (va_cpy fa fb sp dp n))).heap = H.setIfInBounds (X.2.1 + r) (arrV (Y.2.1 0) len (va_cpy fa fb sp dp n)) := by rw [← hT]; rfl
                have oq : ∀ q : Nat, q ≠ X.2.1 + r → (H.setIfInBounds (X.2.1 + r) (arrV (Y.2.1 0) len (va_cpy fa fb sp dp n)))[q]? = H[q]? := fun q hq => by simp [Array.getElem?_setIfInBounds, Ne.symm hq]
                have K := fx_nxt hgo htl e12 (H := H.setIfInBounds (X.2.1 + r) (arrV (Y.2.1 0) len (va_cpy fa fb sp dp n))) (locs := locs ++ ((arrV (Y.2.1 0) len0 fa).stretch (Int32.ofNat sp).toNatClampNeg (Int32.ofNat n).toNatClampNeg).zipIdx.map fun q => ⟨X.2.1 + r, (Int32.ofNat dp).toNatClampNeg + q.2⟩) (ls := ls) (st := st5)
                  ⟨⟨lv, hlv, hrn⟩, hst5, fx_rh_set hrh f1 f2 f3 f4 (by simp) oq ⟨va_cpy fa fb sp dp n, by simp [Array.getElem?_setIfInBounds, hl], k2, k3, fun i => by
                    rw [hu' i]
                    unfold va_cpy
                    by_cases hi : dp ≤ i ∧ i < dp + n
                    · rw [if_pos hi, if_pos hi]; exact g4 _
                    · rw [if_neg hi, if_neg hi]; exact k4 _⟩, hrj, fun q hq => by
                    rcases List.mem_append.mp hq with h1 | h1
                    · exact hls q h1
                    · obtain ⟨z, -, hz⟩ := List.mem_map.mp h1
                      rw [← hz]
                      exact Nat.le_add_right _ _⟩ hce hsl
                obtain ⟨t, a1, b1⟩ := K _ hheap X'
                exact ⟨t, step t a1, b1⟩
theorem fx_s24 (F : fx_fs X Y B mst mt p s m args meth c cc nL own ini rt cod) (hgo : fx_gok l X Y p e R s m args below meth c Q nL cod mc msl go) (hin : (pc, 24, a, b, d) ∈ cod) (htl : ∀ q ∈ tl, q ∈ cod) (ee : fx_k24 go pc a tl loc stk ce sl h j = true) (hs : fx_st X Y nL loc stk h j H locs ls st) (hce : ce ≤ mc) (hsl : sl ≤ msl) : W p l e R s m args below meth c H locs ce sl Q (F0 m pc ls st) := by
  obtain ⟨hx, hb, hml, hown, hts, -, -, -, hcx, -, hcod⟩ := F
  obtain ⟨hd, ha⟩ := hcod _ _ _ _ _ hin (by decide)
  have ho := ha.2.2.2.2.2.2.2.2.2.2.2.2.1 rfl
  obtain ⟨hl0, hst, hrh, hrj, hls⟩ := hs
  rcases stk with _ | ⟨v1, _ | ⟨v2, stk⟩⟩
  · cases ee
  · rcases v1 with n | v | r | v <;> cases ee
  · rcases v1 with n | v | r | y
    · cases ee
    · cases ee
    · cases ee
    · rcases v2 with n | v | r | x
      · cases ee
      · cases ee
      · cases ee
      · obtain ⟨w1, st1, rfl, hr1, hst1⟩ := fx_rl_cons hst
        obtain ⟨w2, st2, rfl, hr2, hst2⟩ := fx_rl_cons hst1
        have hr1 : w1 = .long (Int64.ofNat y) := hr1
        have hr2 : w2 = .long (Int64.ofNat x) := hr2
        subst hr1; subst hr2
        cases hl : fx_lbin a x y with
        | none => simp [fx_k24, hl] at ee
        | some n =>
          simp only [fx_k24, hl] at ee
          rw [fx_num_eq] at ee
          have K := fx_nxt hgo htl ee (H := H) (locs := locs) (ls := ls) (st := .long (Int64.ofNat n) :: st2) ⟨hl0, ⟨rfl, hst2⟩, hrh, hrj, hls⟩ hce hsl
          rcases (by omega : a = 0 ∨ a = 1 ∨ a = 2 ∨ a = 3) with rfl | rfl | rfl | rfl
          · cases hl
            rw [fl_add] at K
            exact lv_ladd hx hb hd K
          · cases hl
            rw [fl_sub] at K
            exact lv_lsub hx hb hd K
          · cases hl
            rw [fl_mul] at K
            exact lv_lmul hx hb hd K
          · cases hl
theorem fx_s25 (F : fx_fs X Y B mst mt p s m args meth c cc nL own ini rt cod) (hXX : fx_xx X B) (hgo : fx_gok l X Y p e R s m args below meth c Q nL cod mc msl go) (hin : (pc, 25, a, b, d) ∈ cod) (htl : ∀ q ∈ tl, q ∈ cod) (ee : fx_k25 go pc b tl loc stk ce sl h j = true) (hs : fx_st X Y nL loc stk h j H locs ls st) (hce : ce ≤ mc) (hsl : sl ≤ msl) : W p l e R s m args below meth c H locs ce sl Q (F0 m pc ls st) := by
  obtain ⟨hx, hb, hml, hown, hts, -, -, -, hcx, -, hcod⟩ := F
  obtain ⟨hd, ha⟩ := hcod _ _ _ _ _ hin (by decide)
  have ha := ha.2.2.2.2.2.2.2.2.2.2.2.2.2.1 rfl
  obtain ⟨hl0, hst, hrh, hrj, hls⟩ := hs
  obtain ⟨hxo, -, hxs, h8, hL, hb0, hb1, hb2, hbl⟩ := hXX
  rcases stk with _ | ⟨v, stk⟩
  · cases ee
  rcases v with n | v | (_ | r) | v
  · cases ee
  · cases ee
  · cases ee
  · obtain ⟨w, st1, rfl, hrv, hst1⟩ := fx_rl_cons hst
    have hw : w = fx_ad X r := hrv
    subst hw
    simp only [fx_k25] at ee
    obtain ⟨e1, e2⟩ := fx_and ee
    have := fx_beq e1
    subst this
    rw [hb1]
    cases h0 : Nat.beq b 0 with
    | true =>
      have := fx_beq h0
      subst this
      rw [h0, fx_if_t] at e2
      obtain ⟨cf, kf, fi, f, cell, g1, g2, g3, g4, g5, g6⟩ := hcx.2.2.2.2.2.2.2.1
      exact W.getf hx hb hown (hts _ (ha.1 rfl)) g1 g2 (by rw [hrh.2.2 _ (Nat.not_le.mp g6)]; exact g3) g4 g5 rfl rfl hd (fx_nxt hgo htl e2 ⟨hl0, ⟨hb2.symm, hst1⟩, hrh, hrj, hls⟩ hce hsl)
    | false =>
      rw [h0, fx_if_f] at e2
      obtain ⟨e3, e4⟩ := fx_and e2
      have := fx_beq e3
      subst this
      obtain ⟨cf, kf, fi, f, cell, g1, g2, g3, g4, g5, g6⟩ := hcx.2.2.2.2.2.2.2.2.1
      exact W.getf hx hb hown (hts _ (ha.2 rfl)) g1 g2 (by rw [hrh.2.2 _ (Nat.not_le.mp g6)]; exact g3) g4 g5 rfl rfl hd (fx_nxt hgo htl e4 ⟨hl0, ⟨rfl, hst1⟩, hrh, hrj, hls⟩ hce hsl)
  · cases ee
theorem fx_wgs {C n d0 : String} {v : Value} {stt : List Value} (hx : p.tables.exec = Jvm.exec) (hb : c.code = cc) (hrh : fx_rh X Y h H) (hown : s.vm.findClass own = some m.cls) (hZ : va_Z C n d0 v (fun q => X.2.1 ≤ q) s Y.2.2.1) (hlink : (Cond.fieldLink own a C n d0).before args s = true) (hd : decode cc pc = .ok (.getstatic a, 3)) (K : W p l e R s m args below meth c H locs ce sl Q (F0 m (pc + 3) ls (v :: stt))) : W p l e R s m args below meth c H locs ce sl Q (F0 m pc ls stt) := by
  obtain ⟨cf, kf, fi, f, q, cell, h1, h2, h3, h4, h5, h6, h7, h8⟩ := hZ
  exact W.gets hx hb hown hlink h1 h2 h3 h4 (by rw [hrh.2.2 _ (Nat.not_le.mp h8)]; exact h5) (fun e => by rw [e] at h6; cases h6) h7 rfl hd K
theorem fx_s26 (F : fx_fs X Y B mst mt p s m args meth c cc nL own ini rt cod) (hgo : fx_gok l X Y p e R s m args below meth c Q nL cod mc msl go) (hin : (pc, 26, a, b, d) ∈ cod) (htl : ∀ q ∈ tl, q ∈ cod) (ee : fx_k26 go pc b tl loc stk ce sl h j = true) (hs : fx_st X Y nL loc stk h j H locs ls st) (hce : ce ≤ mc) (hsl : sl ≤ msl) : W p l e R s m args below meth c H locs ce sl Q (F0 m pc ls st) := by
  obtain ⟨hx, hb, hml, hown, hts, -, -, -, hcx, -, hcod⟩ := F
  obtain ⟨hd, ha⟩ := hcod _ _ _ _ _ hin (by decide)
  have ha := ha.2.2.2.2.2.2.2.2.2.2.2.2.2.2.1 rfl
  obtain ⟨hl0, hst, hrh, hrj, hls⟩ := hs
  unfold fx_k26 at ee
  cases h0 : Nat.beq b 0 with
  | true =>
    have := fx_beq h0
    subst this
    rw [h0, fx_if_t] at ee
    exact fx_wgs hx hb hrh hown hcx.2.2.2.2.1 (hts _ (ha.1 rfl)) hd (fx_nxt hgo htl ee ⟨hl0, ⟨rfl, hst⟩, hrh, hrj, hls⟩ hce hsl)
  | false =>
    rw [h0, fx_if_f] at ee
    obtain ⟨e3, e4⟩ := fx_and ee
    have := fx_beq e3
    subst this
    exact fx_wgs hx hb hrh hown hcx.2.2.2.2.2.1 (hts _ (ha.2 rfl)) hd (fx_nxt hgo htl e4 ⟨hl0, ⟨rfl, hst⟩, hrh, hrj, hls⟩ hce hsl)
theorem fx_s27 (F : fx_fs X Y B mst mt p s m args meth c cc nL own ini rt cod) (hXX : fx_xx X B) (hgo : fx_gok l X Y p e R s m args below meth c Q nL cod mc msl go) (hin : (pc, 27, a, b, d) ∈ cod) (htl : ∀ q ∈ tl, q ∈ cod) (ee : (Nat.beq a 39 && fx_nx (fun t => go t loc (fr 1000001 :: stk) ce sl h j) pc 2 tl) = true) (hs : fx_st X Y nL loc stk h j H locs ls st) (hce : ce ≤ mc) (hsl : sl ≤ msl) : W p l e R s m args below meth c H locs ce sl Q (F0 m pc ls st) := by
  obtain ⟨hx, hb, hml, hown, hts, -, -, -, hcx, -, hcod⟩ := F
  obtain ⟨hd, ha⟩ := hcod _ _ _ _ _ hin (by decide)
  obtain ⟨ho, -⟩ := ha.2.2.2.2.2.2.2.2.2.2.2.2.2.2.2.1 rfl
  obtain ⟨e0, ee⟩ := fx_and ee
  have e0 := fx_beq e0
  subst e0
  subst ho
  obtain ⟨hl0, hst, hrh, hrj, hls⟩ := hs
  obtain ⟨hxo, -, hxs, h8, hL, hb0, hb1, hb2, hbl⟩ := hXX
  exact va_ldcS hx hb hown hcx.2.2.2.1.1 hd (fx_nxt hgo htl ee ⟨hl0, ⟨hb1.symm, hst⟩, hrh, hrj, hls⟩ hce hsl)
theorem fx_s29 (F : fx_fs X Y B mst mt p s m args meth c cc nL own ini rt cod) (hX : fx_xo X) (hma : (Cond.static Lib.Math.max.name ∈ fx_tb ∧ Cond.code Lib.Math.max.name Lib.Math.max.code 2 (some .int) ∈ fx_tb) ∧ (Cond.static Lib.Math.min.name ∈ fx_tb ∧ Cond.code Lib.Math.min.name Lib.Math.min.code 2 (some .int) ∈ fx_tb) ∧ Cond.initialized "java/lang/Math" ∈ fx_tb) (hR : dd ≤ R.frames ∧ 60 * dd ≤ R.locals ∧ mc ≤ R.cells ∧ msl ≤ R.slots) (hgo : fx_gok l X Y p e R s m args below meth c Q nL cod mc msl go) (hin : (pc, 29, a, b, d) ∈ cod) (htl : ∀ q ∈ tl, q ∈ cod) (ee : fx_k29 go dd pc b tl loc stk ce sl h j = true) (hs : fx_st X Y nL loc stk h j H locs ls st) (hce : ce ≤ mc) (hsl : sl ≤ msl) : W p l e R s m args below meth c H locs ce sl Q (F0 m pc ls st) := by
  obtain ⟨hx, hb, hml, hown, hts, -, -, -, hcx, -, hcod⟩ := F
  obtain ⟨hd, ha⟩ := hcod _ _ _ _ _ hin (by decide)
  have ha := ha.2.2.2.2.2.2.2.2.2.2.2.2.2.2.2.2.2.2 rfl
  obtain ⟨hl0, hst, hrh, hrj, hls⟩ := hs
  rcases stk with _ | ⟨y, _ | ⟨x, stk⟩⟩
  · cases ee
  · cases ee
  obtain ⟨wy, st1, rfl, hry, hst1⟩ := fx_rl_cons hst
  obtain ⟨wx, st2, rfl, hrx, hst2⟩ := fx_rl_cons hst1
  simp only [fx_k29] at ee
  obtain ⟨y', e1, hry', -⟩ := fx_nz_ok hrj hry ee
  obtain ⟨x', e2, hrx', -⟩ := fx_nz_ok hrj hrx e1
  rcases y' with v | v | v | v
  · rcases x' with u | u | u | u
    · have hry' : wy = .int (Int32.ofNat v) := hry'
      have hrx' : wx = .int (Int32.ofNat u) := hrx'
      subst hry'; subst hrx'
      simp only at e2
      obtain ⟨e3, e4⟩ := fx_and e2
      obtain ⟨e5, e6⟩ := fx_and e3
      have e5 := fx_blt e5
      have e6 := fx_ble e6
      have hsum := fx_cats_ok hX hst2
      obtain ⟨lv, hlv, hrn⟩ := hl0
      have K : ∀ n, fx_nx (fun t => go t loc (fc n :: stk) ce sl h j) pc 3 tl = true → W p l e R s m args below meth c H locs ce sl Q (F0 m (pc + 3) ls (.int (Int32.ofNat n) :: st2)) := fun n q => fx_nxt hgo htl q ⟨⟨lv, hlv, hrn⟩, ⟨rfl, hst2⟩, hrh, hrj, hls⟩ hce hsl
      have hlt : ∀ n k : Nat, Nat.blt (fx_b n) (fx_b k) = decide (Int32.ofNat n < Int32.ofNat k) := fun n k => by
        rw [Bool.eq_iff_iff, decide_eq_true_iff, fx_z_lt, fx_z_of, fx_z_of]
        exact ⟨fx_blt, fun q => Nat.ble_eq_true_of_le q⟩
      cases h0 : Nat.beq b 0 with
      | true =>
        have := fx_beq h0
        subst this
        rw [h0, fx_if_t] at e4
        refine va_mmax hx hb (by rw [hml]; exact hlv.1.symm) hown (hts _ (ha.1 rfl)) (hts _ hma.1.1) (hts _ hma.2.2) (hts _ hma.1.2) (by omega) (by omega) (by omega) (by omega) hd ?_
        by_cases hq : Int32.ofNat u < Int32.ofNat v
        · rw [hlt, decide_eq_true hq, fx_if_t] at e4
          rw [if_pos hq]
          exact K v e4
        · rw [hlt, decide_eq_false hq, fx_if_f] at e4
          rw [if_neg hq]
          exact K u e4
      | false =>
        rw [h0, fx_if_f] at e4
        obtain ⟨e7, e8⟩ := fx_and e4
        have := fx_beq e7
        subst this
        refine va_mmin hx hb (by rw [hml]; exact hlv.1.symm) hown (hts _ (ha.2.1 rfl)) (hts _ hma.2.1.1) (hts _ hma.2.2) (hts _ hma.2.1.2) (by omega) (by omega) (by omega) (by omega) hd ?_
        by_cases hq : Int32.ofNat v < Int32.ofNat u
        · rw [hlt, decide_eq_true hq, fx_if_t] at e8
          rw [if_pos hq]
          exact K v e8
        · rw [hlt, decide_eq_false hq, fx_if_f] at e8
          rw [if_neg hq]
          exact K u e8
    · cases e2
    · cases e2
    · cases e2
  · cases e2
  · cases e2
  · cases e2
end FXF
end
section
abbrev fx_ws (S : fx_S) : List Cond := Cond.code S.1 S.2.1 S.2.2.1 S.2.2.2 :: fx_tb
theorem fx_goodin {S : fx_S} (hc : Cond.code S.1 S.2.1 S.2.2.1 S.2.2.2 ∈ fx_tb) : GoodIn fx_tb (fx_ws S) := fun w hw => by
  have hm : w ∈ fx_tb := by
    rcases List.mem_cons.mp hw with rfl | h1
    · exact hc
    · exact h1
  exact ⟨hm, good_of_word (List.mem_filter.mp hm).2⟩
def fx_rmx (d mc ms : Nat) : Room := { frames := d, cells := mc, slots := ms, locals := 60 * d }
def fx_mok (ms : Nat → Option fx_S) (mt : Nat → Option fx_M) (S : fx_S) (M : fx_M) : Prop := plainName S.1.cls = true ∧ Cond.code S.1 S.2.1 S.2.2.1 S.2.2.2 ∈ fx_tb ∧ Cond.initialized S.1.cls ∈ fx_tb ∧ (S.1.cls ≠ "java/lang/invoke/MethodHandle" ∧ S.1.cls ≠ "java/lang/invoke/VarHandle") ∧ S.2.2.1 ≤ 41 ∧ M.2.2.2.2.2 = S.2.2.1 ∧ (parseMethodDescriptor S.1.desc).map (fun d => d.parameters.length) = some (if M.2.2.2.2.1 = 0 then M.2.1 else M.2.1 - 1) ∧ fx_pc M.1 = 0 ∧
  ∀ pc kd a b d, (pc, kd, a, b, d) ∈ M.1 → kd ≠ 28 ∧ decode S.2.1 pc = .ok (fx_ins pc kd a b d) ∧ fx_an ms mt S.1.cls (S.1.name == "<init>") S.2.2.2 S.2.2.1 kd a b d
def fx_mall (ms : Nat → Option fx_S) (mt : Nat → Option fx_M) : Prop := ∀ c M, mt c = some M → ∃ S, ms c = some S ∧ fx_mok ms mt S M
def fx_Pc (X : fx_X) (Y : fx_Y) (B : fx_B) (as : List Value) (H : Heap) : Array Value → State → Prop := fun v U => v = as.toArray ∧ U.heap = H ∧ fx_cx X Y B U
def fx_Qc (KQ : Option Value → Heap → Prop) : Array Value → State → Outcome → State → Prop := fun _ _ o t => ∃ w, o = .returned w ∧ KQ w t.heap
def fx_met (l : Launch) (X : fx_X) (Y : fx_Y) (B : fx_B) (S : fx_S) (d mc ms : Nat) (as : List Value) (H : Heap) (KQ : Option Value → Heap → Prop) : Prop := Met l S.1 (fx_ws S) (fx_rmx d mc ms) (fx_Pc X Y B as H) (fx_Qc KQ) mc ms (fun q => X.2.1 ≤ q)
def fx_cu (l : Launch) (X : fx_X) (Y : fx_Y) (E : fx_E) (p : Program) (e : Env) (R : Room) (s : State) (m : MethodId) (args : Array Value) (below : List Frame) (meth : Method) (c : Code) (Q : State → Prop) (nL : Nat) (cod : List fx_I) (mc ms : Nat) : Prop :=
  ∀ q ∈ cod, q.2.1 = 28 → ∀ loc h j H locs ls ce sl, E.2.2.2.2 loc h j = true → fx_st X Y nL loc [] h j H locs ls [] → ce ≤ mc → sl ≤ ms → W p l e R s m args below meth c H locs ce sl Q (F0 m q.1 ls [])
def fx_snd (l : Launch) (X : fx_X) (Y : fx_Y) (B : fx_B) (mst : Nat → Option fx_S) (E : fx_E) (f : fx_G) : Prop :=
  (∀ d cod loc stk ce sl mc ms h j k, f d cod [] loc stk ce sl mc ms h j k = false) ∧
  ∀ d cod at_ loc stk ce sl mc ms h j k, f d cod at_ loc stk ce sl mc ms h j k = true → ∀ (p : Program) (e : Env) (R : Room) (s : State) (m : MethodId) (args : Array Value) (below : List Frame) (meth : Method) (c : Code) (Q : State → Prop) (cc : ByteArray) (nL : Nat) (own : String) (ini : Bool) (rt : Option FieldType),
    fx_fs X Y B mst E.1 p s m args meth c cc nL own ini rt cod → fx_rm R d mc ms → (∀ q ∈ at_, q ∈ cod) → fx_rt l X Y p e R s m args below meth c Q cc rt mc ms k → fx_cu l X Y E p e R s m args below meth c Q nL cod mc ms →
    ∀ H locs ls st, fx_st X Y nL loc stk h j H locs ls st → ce ≤ mc → sl ≤ ms → W p l e R s m args below meth c H locs ce sl Q (F0 m (fx_pc at_) ls st)
theorem fx_args_ok {X : fx_X} (hX : fx_xo X) : ∀ {as : List fx_V} {av : List Value} (i : Nat), fx_rl X as av → fx_rn X (fx_args as i) (lv_args i av) := by
  intro as
  induction as with
  | nil => intro av i h; rw [fx_rl_nil h]; trivial
  | cons v as ih =>
    intro av i h
    obtain ⟨w, av, rfl, h1, h2⟩ := fx_rl_cons h
    refine ⟨⟨rfl, h1⟩, ?_⟩
    have hc := fx_cat_of hX h1
    have e : (if w.category = 2 then i + 2 else i + 1) = i + fx_cat v := by
      rcases lv_cat w with q | q
      · rw [if_neg (by omega)]; omega
      · rw [if_pos q]; omega
    show fx_rn X (fx_args as (i + fx_cat v)) (lv_args (if w.category = 2 then i + 2 else i + 1) av)
    rw [e]
    exact ih _ h2
theorem fx_sl_len {X : fx_X} (hX : fx_xo X) : ∀ {as : List fx_V} {av : List Value}, fx_rl X as av → (lg_sl av).length = fx_cats as := by
  intro as
  induction as with
  | nil => intro av h; rw [fx_rl_nil h]; rfl
  | cons v as ih =>
    intro av h
    obtain ⟨w, av, rfl, h1, h2⟩ := fx_rl_cons h
    have hc := fx_cat_of hX h1
    have e : lg_sl (w :: av) = (if w.category = 2 then [.val w, .second] else [.val w]) ++ lg_sl av := rfl
    rw [e, List.length_append, ih h2]
    show _ = fx_cat v + fx_cats as
    rcases lv_cat w with q | q
    · rw [if_neg (by omega)]
      show 1 + _ = _
      omega
    · rw [if_pos q]
      show 2 + _ = _
      omega
theorem fx_blind {X : fx_X} {Y : fx_Y} {B : fx_B} {as : List Value} {H : Heap} : FrameBlind (fx_Pc X Y B as H) := fun a U g mk h => ⟨h.1, h.2.1, fx_cx.moved (U := U.calling g mk a) (State.WarmedH.refl U) h.2.2⟩
/-- a method's contract, by the executor -/
theorem fx_met_of {l : Launch} {X : fx_X} {Y : fx_Y} {B : fx_B} {mst : Nat → Option fx_S} {E : fx_E} {f : fx_G} (hf : fx_snd l X Y B mst E f) (hX : fx_xo X) {S : fx_S} {M : fx_M} (hM : fx_mok mst E.1 S M) {d mc ms : Nat} {as : List fx_V} {av : List Value} {h : fx_H} {j : fx_J} {k : fx_K} {H : Heap} (ee : f d M.1 M.1 (fx_args as 0) [] 0 0 mc ms h j k = true) (hra : fx_rl X as av) (hrh : fx_rh X Y h H) (hrj : fx_rj X j) (hcat : fx_cats as ≤ M.2.2.2.2.2) {KQ : Option Value → Heap → Prop} (hK : ∀ v w h' j' H', k v h' j' = true → fx_ro X v w → fx_rh X Y h' H' → fx_rj X j' → KQ w H') : fx_met l X Y B S d mc ms av H KQ := by
  obtain ⟨hpl, hcode, hini, hne, h41, hnl, hdesc, hpc, hall⟩ := hM
  refine Met.ofW (cc := S.2.1) (maxL := S.2.2.1) (ret := S.2.2.2) hpl rfl ?_
  intro p e s m args below meth c s₁ BB hml hv
  obtain ⟨rfl, hH, hcx⟩ := hv
  have hts0 := atoms_spec (ws := fx_ws S) BB.pre
  have hown : s.vm.findClass S.1.cls = some m.cls := findClass_of_methodNamed BB.named
  have hnm : meth.name = S.1.name := (name_of_methodNamed BB.named BB.method).1
  have hl := lv_entry av (n := S.2.2.1) (by rw [fx_sl_len hX hra, ← hnl]; exact hcat)
  rw [lg_entry_eq]
  generalize (lg_sl av ++ List.replicate (S.2.2.1 - (lg_sl av).length) Slot.unset).toArray = ls at hl ⊢
  have F : fx_fs X Y B mst E.1 p s m av.toArray meth c S.2.1 S.2.2.1 S.1.cls (S.1.name == "<init>") S.2.2.2 M.1 := ⟨BB.exec, BB.bytes, hml, hown, fun w hw => hts0 w (List.mem_cons_of_mem _ hw), BB.notSynchronized, fun q => by rw [hnm]; simpa using q, BB.returns, hcx, by rw [hH, hrh.1]; omega, fun pc kd a b d hin _ => (hall pc kd a b d hin).2⟩
  have K := hf.2 d M.1 M.1 (fx_args as 0) [] 0 0 mc ms h j k ee p e (fx_rmx d mc ms) s m av.toArray below meth c (MQ below (fx_Qc KQ) av.toArray s mc ms (fun q => X.2.1 ≤ q)) S.2.1 S.2.2.1 S.1.cls (S.1.name == "<init>") S.2.2.2 F ⟨Nat.le_refl _, Nat.le_refl _, Nat.le_refl _, Nat.le_refl _⟩ (fun _ hq => hq) ?_ ?_ s.heap [] ls [] ⟨⟨_, hl, fx_args_ok hX 0 hra⟩, trivial, by rw [hH]; exact hrh, hrj, fun q hq => by cases hq⟩ (Nat.zero_le _) (Nat.zero_le _)
  · rw [hpc] at K
    exact K
  · intro v w h' j' H' locs ce sl pc ls' hk hro hrh' hrj' hls hce hsl hrets
    have hb := BB.bytes
    have hx := BB.exec
    have hr := BB.returns
    have hlocks := BB.notSynchronized
    have hkq := hK v w h' j' H' hk hro hrh' hrj'
    refine W.widen (k := mc) (n := ms) hce hsl ?_
    rcases hrets with ⟨rfl, hrt, hd⟩ | ⟨z, ty, rfl, hrt, hn, hd⟩ | ⟨z, rfl, hrt, hd⟩
    · rw [hrt] at hr
      exact W.vret hx hb hr (fun t ht hW => ⟨none, rfl, by rw [ht]; exact hkq⟩) hls hd
    · rw [hrt] at hr
      exact W.zret hx hb hr hn (fun t ht hW => ⟨some (.int z), rfl, by rw [ht]; exact hkq⟩) hls hd
    · rw [hrt] at hr
      exact W.lret hx hb hr (fun t ht hW => ⟨some (.long z), rfl, by rw [ht]; exact hkq⟩) hls hd
  · intro q hq h28
    obtain ⟨pc, kd, a, b, d'⟩ := q
    exact absurd h28 (hall pc kd a b d' hq).1
/-- what a summary must be -/
def fx_sum (l : Launch) (X : fx_X) (Y : fx_Y) (B : fx_B) (mst : Nat → Option fx_S) (E : fx_E) : Prop := ∀ c S M as h v h', mst c = some S → E.1 c = some M → E.2.2.2.1 c as h = some (v, h') → ∀ av H, fx_rl X as av → fx_rh X Y h H → ∀ KQ : Option Value → Heap → Prop, (∀ w H', fx_ro X v w → fx_rh X Y h' H' → KQ w H') → fx_met l X Y B S 10 M.2.2.1 M.2.2.2.1 av H KQ
theorem fx_wcall {l : Launch} {X : fx_X} {p : Program} {e : Env} {R : Room} {s : State} {m : MethodId} {args : Array Value} {below : List Frame} {meth : Method} {c : Code} {Q : State → Prop} {H : Heap} {locs : List Loc} {ls : Array Slot} {ce sl mc ms pc : Nat} {st rest : List Value} {a0 : Array Value} {KQ : Option Value → Heap → Prop} (hls : fx_ls X locs) (hr : va_Run p l e R s m args below meth c H locs ce sl mc ms (F0 m pc ls st) rest (fx_Qc KQ a0) (fun q => X.2.1 ≤ q)) (hK : ∀ w H', KQ w H' → ∀ locs1, fx_ls X locs1 → W p l e R s m args below meth c H' locs1 (ce + mc) (sl + ms) Q (F0 m (pc + 3) ls (w.toList ++ rest))) : W p l e R s m args below meth c H locs ce sl Q (F0 m pc ls st) := by
  intro T hT XS
  obtain ⟨v, st₀, t, T', L, h0, X', hL, e1, e2, ⟨w, hw, hkq⟩, go⟩ := hr T hT XS
  cases hw
  obtain ⟨t2, a1, b1⟩ := hK v t.heap hkq (locs ++ L) (fun q hq => by
    rcases List.mem_append.mp hq with h1 | h1
    · exact hls q h1
    · exact hL q h1) T' e1 X'
  exact ⟨t2, go t2 a1, b1⟩
theorem fx_s9 {l : Launch} {X : fx_X} {Y : fx_Y} {B : fx_B} {mst : Nat → Option fx_S} {E : fx_E} {ih : fx_G} {p : Program} {e : Env} {R : Room} {s : State} {m : MethodId} {args : Array Value} {below : List Frame} {meth : Method} {c : Code} {Q : State → Prop} {cc : ByteArray} {nL : Nat} {own : String} {ini : Bool} {rt : Option FieldType} {cod : List fx_I} {mc msl : Nat} {go : fx_O} {pc a b d ce sl dd : Nat} {tl : List fx_I} {loc : fx_L} {stk : List fx_V} {h : fx_H} {j : fx_J} {H : Heap} {locs : List Loc} {ls : Array Slot} {st : List Value}
    (hf : fx_snd l X Y B mst E ih) (hXX : fx_xx X B) (hma : fx_mall mst E.1) (hsum : fx_sum l X Y B mst E) (F : fx_fs X Y B mst E.1 p s m args meth c cc nL own ini rt cod) (hR : fx_rm R dd mc msl) (hgo : fx_gok l X Y p e R s m args below meth c Q nL cod mc msl go) (hin : (pc, 9, a, b, d) ∈ cod) (htl : ∀ q ∈ tl, q ∈ cod) (ee : (Nat.blt a 5 && fx_call E ih dd (fun stk ce sl h j => fx_nx (fun t => go t loc stk ce sl h j) pc 3 tl) d stk ce sl mc msl h j) = true) (hs : fx_st X Y nL loc stk h j H locs ls st) : W p l e R s m args below meth c H locs ce sl Q (F0 m pc ls st) := by
  have hX := hXX.1
  obtain ⟨hx, hb, hml, hown, hts, -, -, -, hcx, hbs, hcod⟩ := F
  obtain ⟨hd, ha⟩ := hcod _ _ _ _ _ hin (by decide)
  obtain ⟨y, cc', nL', rt', M, hms, hmt, c0, c1, c2, c3, c4⟩ := ha.2.2.2.1 rfl
  obtain ⟨hl0, hst, hrh, hrj, hls⟩ := hs
  obtain ⟨e0, ee⟩ := fx_and ee
  have ha5 := fx_blt e0
  unfold fx_call at ee
  cases dd with
  | zero => cases ee
  | succ dd =>
    simp only [hmt] at ee
    obtain ⟨S, hS, hM⟩ := hma d M hmt
    cases hms.symm.trans hS
    obtain ⟨cod', na, mc', ms', t', nl'⟩ := M
    simp only at ee
    cases hsp : fx_split na stk with
    | none => rw [hsp] at ee; cases ee
    | some q =>
      obtain ⟨as, stk'⟩ := q
      rw [hsp] at ee
      simp only at ee
      obtain ⟨e1, e2⟩ := fx_and ee
      obtain ⟨e3, e4⟩ := fx_and e1
      obtain ⟨e5, e6⟩ := fx_and e4
      obtain ⟨e7, e8⟩ := fx_and e6
      obtain ⟨e9, e10⟩ := fx_and e8
      have e3 := fx_ble e3
      have e5 := fx_ble e5
      have e7 := fx_ble e7
      have e9 := fx_ble e9
      obtain ⟨bs, b1, b2, b3⟩ := fx_split_ok na [] stk as stk' hsp
      rw [List.append_nil] at b2
      subst b2
      subst b3
      obtain ⟨w1, w2, rfl, hw1, hw2⟩ := fx_rl_app hst
      have hra : fx_rl X as w1.reverse := by
        have := fx_rl_rev hw1
        rwa [List.reverse_reverse] at this
      generalize hav : w1.reverse = av at hra
      have hw1e : w1 = av.reverse := by rw [← hav, List.reverse_reverse]
      subst hw1e
      have hlen := fx_rl_len hra
      have hrest := fx_cats_ok hX hw2
      have hw8 : 2 * (F0 m pc ls (av.reverse ++ w2)).monitorRoom + (w2.map fun v => v.category).sum ≤ 8 := lv_room (by omega)
      obtain ⟨lv, hlv, hrn⟩ := hl0
      have h41 := hM.2.2.2.2.1
      have hdesc := hM.2.2.2.2.2.2.1
      -- what goes on behind it
      have hCont : ∀ (v : Option fx_V) (w : Option Value) (h' : fx_H) (j' : fx_J) (H' : Heap), fx_nx (fun t => go t loc (fx_ret stk' v) (ce + mc') (sl + ms') h' j') pc 3 tl = true → fx_ro X v w → fx_rh X Y h' H' → fx_rj X j' → ∀ locs1, fx_ls X locs1 → W p l e R s m args below meth c H' locs1 (ce + mc') (sl + ms') Q (F0 m (pc + 3) ls (w.toList ++ w2)) := by
        intro v w h' j' H' ek hro hrh' hrj' locs1 hls1
        refine fx_nxt hgo htl ek ⟨⟨lv, hlv, hrn⟩, ?_, hrh', hrj', hls1⟩ e5 e7
        cases v with
        | none =>
          cases w with
          | none => exact hw2
          | some w => exact False.elim hro
        | some v =>
          cases w with
          | none => exact False.elim hro
          | some w => exact ⟨hro, hw2⟩
      -- the contract
      obtain ⟨dm, KQ, hdm, hmet, hKQ⟩ : ∃ (dm : Nat) (KQ : Option Value → Heap → Prop), dm ≤ dd ∧ fx_met l X Y B (y, cc', nL', rt') dm mc' ms' av H KQ ∧ ∀ w H', KQ w H' → ∀ locs1, fx_ls X locs1 → W p l e R s m args below meth c H' locs1 (ce + mc') (sl + ms') Q (F0 m (pc + 3) ls (w.toList ++ w2)) := by
        cases hsm : fx_if (Nat.ble 10 dd) (E.2.2.2.1 d as h) none with
        | some q =>
          obtain ⟨v, h'⟩ := q
          rw [hsm] at e2
          simp only at e2
          rw [fx_num_eq, fx_num_eq] at e2
          cases h10 : Nat.ble 10 dd with
          | false => rw [h10, fx_if_f] at hsm; cases hsm
          | true =>
            rw [h10, fx_if_t] at hsm
            refine ⟨10, fun w H' => ∀ locs1, fx_ls X locs1 → W p l e R s m args below meth c H' locs1 (ce + mc') (sl + ms') Q (F0 m (pc + 3) ls (w.toList ++ w2)), fx_ble h10, hsum d _ _ as h v h' hms hmt hsm av H hra hrh _ (fun w H' hro hrh' => ?_), fun _ _ q => q⟩
            exact hCont v w h' j H' e2 hro hrh' hrj
        | none =>
          rw [hsm] at e2
          simp only at e2
          refine ⟨dd, fun w H' => ∀ locs1, fx_ls X locs1 → W p l e R s m args below meth c H' locs1 (ce + mc') (sl + ms') Q (F0 m (pc + 3) ls (w.toList ++ w2)), Nat.le_refl _, ?_, fun _ _ q => q⟩
          refine fx_met_of hf hX hM e2 hra hrh hrj e9 (fun v w h' j' H' hk hro hrh' hrj' => ?_)
          rw [fx_num_eq, fx_num_eq] at hk
          exact hCont v w h' j' H' hk hro hrh' hrj'
      obtain ⟨r1, r2, r3, r4⟩ := hR
      have hroom : (fx_rmx dm mc' ms').frames + 1 ≤ R.frames ∧ 8 + (nL' + 11) + (fx_rmx dm mc' ms').locals ≤ R.locals := by
        refine ⟨?_, ?_⟩
        · show dm + 1 ≤ R.frames
          omega
        · show 8 + (nL' + 11) + 60 * dm ≤ R.locals
          have : nL' ≤ 41 := h41
          omega
      have hGood := fx_goodin hM.2.1
      have hfit : ce + mc' ≤ R.cells ∧ sl + ms' ≤ R.slots := ⟨by omega, by omega⟩
      have hPS : ∀ U : State, U.heap = H → s.WarmedH U.vm → fx_Pc X Y B av H av.toArray U := fun U hU hW => ⟨rfl, hU, hcx.moved hW⟩
      have CF : CallFix p m c cc nL s args fx_tb own := ⟨hx, hb, hml, hown, hts⟩
      have hini : (Cond.initialized y.cls).before args s = true := hts _ hM.2.2.1
      have hne := hM.2.2.2.1
      have hdg : decode cc pc = .ok (fx_cop a b, 3) := hd
      rcases (by omega : a = 0 ∨ a = 1 ∨ a = 2 ∨ a = 3 ∨ a = 4) with rfl | rfl | rfl | rfl | rfl
      · obtain ⟨q1, q2, q3, q4⟩ := c0 rfl
        -- the first value
        have hrc : ∃ (r : Nat) (as' : List fx_V) (bA : Nat), as = fr r :: as' ∧ fx_ad X r = .ref bA ∧ ∃ cell : Cell, H[bA]? = some cell ∧ cell.vm.isStatics = false ∧ s.vm.findClass y.cls = some cell.cls := by
          have e10 : fx_rcv t' h as = true := e10
          have htn : t' ≠ 0 ∧ t' ≠ 1 := by
            rcases q4 with ⟨ci, T, N, g1, -, -⟩ | ⟨g1, -⟩
            · have g1 : t' = ci + 2 := g1
              omega
            · have g1 : t' = 99 := g1
              omega
          unfold fx_rcv at e10
          have h0 : Nat.beq t' 0 = false := by
            cases hb0 : Nat.beq t' 0 with
            | true => exact absurd (fx_beq hb0) htn.1
            | false => rfl
          have h1 : Nat.beq t' 1 = false := by
            cases hb0 : Nat.beq t' 1 with
            | true => exact absurd (fx_beq hb0) htn.2
            | false => rfl
          rw [h0, fx_if_f] at e10
          rcases as with _ | ⟨v, as'⟩
          · cases e10
          rcases v with n | n | (_ | r) | n
          · cases e10
          · cases e10
          · cases e10
          · simp only at e10
            rw [h1, fx_if_f] at e10
            rcases q4 with ⟨ci, T, N, g1, g2, g3⟩ | ⟨g1, g2⟩
            · have g1 : t' = ci + 2 := g1
              have g2 : t' ≠ 99 := g2
              have h99 : Nat.beq t' 99 = false := by
                cases hb0 : Nat.beq t' 99 with
                | true => exact absurd (fx_beq hb0) g2
                | false => rfl
              rw [h99, fx_if_f] at e10
              cases hg : fx_hget h r with
              | none => rw [hg] at e10; cases e10
              | some q =>
                rw [hg] at e10
                rcases q with u | ⟨ci', fs⟩ | u
                · cases e10
                · simp only at e10
                  have := fx_beq e10
                  have : ci' = ci := by omega
                  subst this
                  obtain ⟨C, T2, N2, vs, k1, k2, k3, k4, k5, k6⟩ := fx_obj hrh hg
                  have e8 : (C, T2, N2) = (y.cls, T, N) := Option.some.inj (k1.symm.trans g3)
                  cases e8
                  exact ⟨r, as', X.2.1 + r, rfl, k4, va_recv (fx_vaK hcx) k5 (ci := ci') (q0 := 0) k1 rfl⟩
                · cases e10
            · have g1 : t' = 99 := g1
              rw [show Nat.beq t' 99 = true by rw [g1]; rfl, fx_if_t] at e10
              rcases fx_or e10 with e10 | e10
              · have := fx_beq e10
                subst this
                obtain ⟨-, -, -, -, -, -, hb1, -, -⟩ := hXX
                obtain ⟨cell, k1, k2, k3, k4⟩ := hcx.2.2.2.2.2.2.1
                have hlt : B.2.2.2.1 < X.2.1 := Nat.not_le.mp k4
                exact ⟨1000001, as', B.2.2.2.1, rfl, hb1, cell, by rw [hrh.2.2 _ hlt]; exact k1, k2, by rw [g2]; exact k3⟩
              · have := fx_beq e10
                subst this
                obtain ⟨a2, b2, hb1, -, -, ⟨cell, k1, k2, k3, k4⟩, -⟩ := hcx.2.2.2.1.2
                have hlt : a2 < X.2.1 := Nat.not_le.mp k4
                exact ⟨1000004, as', a2, rfl, hb1, cell, by rw [hrh.2.2 _ hlt]; exact k1, k2, by rw [g2]; exact k3⟩
          · cases e10
        obtain ⟨r, as', bA, rfl, hbA, hcell⟩ := hrc
        obtain ⟨x0, As, rfl, hx0, hAs⟩ := fx_rl_cons hra
        have hx0 : x0 = fx_ad X r := hx0
        rw [hbA] at hx0
        subst hx0
        have hn : As.length = na - 1 := by
          simp only [List.length_cons] at hlen b1
          omega
        have htn : t' ≠ 0 := by
          rcases q4 with ⟨ci, T, N, g1, -, -⟩ | ⟨g1, -⟩
          · have g1 : t' = ci + 2 := g1
            omega
          · have g1 : t' = 99 := g1
            omega
        have hdesc : (parseMethodDescriptor y.desc).map (fun d => d.parameters.length) = some (na - 1) := by
          have := hdesc
          rw [if_neg htn] at this
          exact this
        have hrun := va_runV (e := e) (below := below) (meth := meth) (locs := locs) (cells := ce) (slots := sl) CF hmet ⟨callB_of (na - 1) hts hGood rfl rfl rfl hini (hts _ q1) ⟨hne.1, hne.2, hdesc⟩ hroom, hts _ q2, hts _ q3⟩ (b := bA) (As := As) ⟨fx_blind, hcell, hPS⟩ (g := F0 m pc ls ((Value.ref bA :: As).reverse ++ w2)) rfl hn hlv.1 (rest := w2) (by rw [List.reverse_cons, List.append_assoc]; rfl) hw8 hdg hfit
        exact fx_wcall hls hrun hKQ
      · obtain ⟨q1, q2, q3, q4, q5⟩ := c1 rfl
        have q4 : rt' = none := q4
        subst q4
        have q5 : t' = 1 := q5
        subst q5
        have hdesc : (parseMethodDescriptor y.desc).map (fun d => d.parameters.length) = some (na - 1) := hdesc
        have hrc : ∃ (r : Nat) (as' : List fx_V), as = fr r :: as' ∧ fx_ad X r = .ref (X.2.1 + r) := by
          have e10 : fx_rcv 1 h as = true := e10
          rcases as with _ | ⟨v, as'⟩
          · cases e10
          rcases v with n | n | (_ | r) | n
          · cases e10
          · cases e10
          · cases e10
          · cases hg : fx_hget h r with
            | none => simp [fx_rcv, hg, fx_if] at e10
            | some q =>
              obtain ⟨-, k2, -⟩ := hrh.2.1 r q hg
              exact ⟨r, as', rfl, fx_ad_lt k2⟩
          · cases e10
        obtain ⟨r, as', rfl, hbA⟩ := hrc
        obtain ⟨x0, As, rfl, hx0, hAs⟩ := fx_rl_cons hra
        have hx0 : x0 = fx_ad X r := hx0
        rw [hbA] at hx0
        subst hx0
        have hn : As.length = na - 1 := by
          simp only [List.length_cons] at hlen b1
          omega
        have hrun := va_runI (e := e) (below := below) (meth := meth) (locs := locs) (cells := ce) (slots := sl) CF hmet ⟨callB_of (na - 1) hts hGood rfl rfl rfl hini (hts _ q1) ⟨hne.1, hne.2, hdesc⟩ hroom, q3, hts _ q2⟩ (b := X.2.1 + r) (As := As) ⟨fx_blind, hPS⟩ (g := F0 m pc ls ((Value.ref (X.2.1 + r) :: As).reverse ++ w2)) rfl hn hlv.1 (rest := w2) (by rw [List.reverse_cons, List.append_assoc]; rfl) hw8 hdg hfit
        exact fx_wcall hls hrun hKQ
      · obtain ⟨q1, q2, q5⟩ := c2 rfl
        have q5 : t' = 0 := q5
        subst q5
        have hdesc : (parseMethodDescriptor y.desc).map (fun d => d.parameters.length) = some na := hdesc
        have hn : av.length = na := by omega
        have hrun := va_runS (e := e) (below := below) (meth := meth) (locs := locs) (cells := ce) (slots := sl) CF hmet ⟨callB_of na hts hGood rfl rfl rfl hini (hts _ q1) ⟨hne.1, hne.2, hdesc⟩ hroom, hts _ q2⟩ (As := av) ⟨fx_blind, hPS⟩ (g := F0 m pc ls (av.reverse ++ w2)) rfl hn hlv.1 (rest := w2) rfl hw8 hdg hfit
        exact fx_wcall hls hrun hKQ
      · obtain ⟨q1, q2, q3, q4, q5⟩ := c3 rfl
        have q4 : rt' = none := q4
        subst q4
        have q5 : t' = 1 := q5
        subst q5
        have hdesc : (parseMethodDescriptor y.desc).map (fun d => d.parameters.length) = some (na - 1) := hdesc
        have hnw := hcx.2.2.1 _ q1
        have hrc : ∃ (r : Nat) (as' : List fx_V), as = fr r :: as' ∧ fx_ad X r = .ref (X.2.1 + r) := by
          have e10 : fx_rcv 1 h as = true := e10
          rcases as with _ | ⟨v, as'⟩
          · cases e10
          rcases v with n | n | (_ | r) | n
          · cases e10
          · cases e10
          · cases e10
          · cases hg : fx_hget h r with
            | none => simp [fx_rcv, hg, fx_if] at e10
            | some q =>
              obtain ⟨-, k2, -⟩ := hrh.2.1 r q hg
              exact ⟨r, as', rfl, fx_ad_lt k2⟩
          · cases e10
        obtain ⟨r, as', rfl, hbA⟩ := hrc
        obtain ⟨x0, As, rfl, hx0, hAs⟩ := fx_rl_cons hra
        have hx0 : x0 = fx_ad X r := hx0
        rw [hbA] at hx0
        subst hx0
        have hn : As.length = na - 1 := by
          simp only [List.length_cons] at hlen b1
          omega
        have hrun := va_runIN (e := e) (below := below) (meth := meth) (locs := locs) (cells := ce) (slots := sl) CF hmet ⟨va_cnB (na - 1) hts hGood rfl rfl rfl hnw hini ⟨hne.1, hne.2, hdesc⟩ hroom, q3, hts _ q2⟩ (b := X.2.1 + r) (As := As) ⟨fx_blind, hPS⟩ (g := F0 m pc ls ((Value.ref (X.2.1 + r) :: As).reverse ++ w2)) rfl hn hlv.1 (rest := w2) (by rw [List.reverse_cons, List.append_assoc]; rfl) hw8 hdg hfit
        exact fx_wcall hls hrun hKQ
      · obtain ⟨q1, q2, q5⟩ := c4 rfl
        have q5 : t' = 0 := q5
        subst q5
        have hnw := hcx.2.2.1 _ q1
        have hdesc : (parseMethodDescriptor y.desc).map (fun d => d.parameters.length) = some na := hdesc
        have hn : av.length = na := by omega
        have hrun := va_runSN (e := e) (below := below) (meth := meth) (locs := locs) (cells := ce) (slots := sl) CF hmet ⟨va_cnB na hts hGood rfl rfl rfl hnw hini ⟨hne.1, hne.2, hdesc⟩ hroom, hts _ q2, trivial⟩ (As := av) ⟨fx_blind, hPS⟩ (g := F0 m pc ls (av.reverse ++ w2)) rfl hn hlv.1 (rest := w2) rfl hw8 hdg hfit
        exact fx_wcall hls hrun hKQ
end
section
/-- words that every run takes -/
def fx_wd : Prop := (∀ t, t < 4 → Cond.arrayClass (fx_ty t) ∈ fx_tb) ∧ (Cond.instanceMethod Lib.objectInit ∈ fx_tb ∧ Cond.code Lib.objectInit ⟨#[0xb1]⟩ 1 none ∈ fx_tb) ∧ (Cond.native arraycopyName ∈ fx_tb ∧ Cond.static arraycopyName ∈ fx_tb ∧ Cond.initialized "java/lang/System" ∈ fx_tb) ∧ ((Cond.static Lib.Math.max.name ∈ fx_tb ∧ Cond.code Lib.Math.max.name Lib.Math.max.code 2 (some .int) ∈ fx_tb) ∧ (Cond.static Lib.Math.min.name ∈ fx_tb ∧ Cond.code Lib.Math.min.name Lib.Math.min.code 2 (some .int) ∈ fx_tb) ∧ Cond.initialized "java/lang/Math" ∈ fx_tb)
set_option maxHeartbeats 4000000 in
/-- one instruction, whatever comes behind it -/
theorem fx_one_ok {l : Launch} {X : fx_X} {Y : fx_Y} {B : fx_B} {mst : Nat → Option fx_S} {E : fx_E} {ih : fx_G} (hf : fx_snd l X Y B mst E ih) (hXX : fx_xx X B) (hma : fx_mall mst E.1) (hsum : fx_sum l X Y B mst E) (hE1 : E.2.1 = fx_swt) (hE2 : E.2.2.1 = fx_cd) (hwd : fx_wd)
    {p : Program} {e : Env} {R : Room} {s : State} {m : MethodId} {args : Array Value} {below : List Frame} {meth : Method} {c : Code} {Q : State → Prop} {cc : ByteArray} {nL : Nat} {own : String} {ini : Bool} {rt : Option FieldType} {cod tl : List fx_I} {d mc ms pc kd a b c0 ce sl : Nat} {loc : fx_L} {stk : List fx_V} {h : fx_H} {j : fx_J} {k : fx_K} {go : fx_O} {H : Heap} {locs : List Loc} {ls : Array Slot} {st : List Value}
    (F : fx_fs X Y B mst E.1 p s m args meth c cc nL own ini rt cod) (hR : fx_rm R d mc ms) (hrt : fx_rt l X Y p e R s m args below meth c Q cc rt mc ms k) (hcu : fx_cu l X Y E p e R s m args below meth c Q nL cod mc ms) (hgo : fx_gok l X Y p e R s m args below meth c Q nL cod mc ms go) (hin : (pc, kd, a, b, c0) ∈ cod) (htl : ∀ q ∈ tl, q ∈ cod)
    (ee : fx_one E ih go d cod pc kd a b c0 tl loc stk ce sl mc ms h j k = true) (hs : fx_st X Y nL loc stk h j H locs ls st) (hce : ce ≤ mc) (hsl : sl ≤ ms) : W p l e R s m args below meth c H locs ce sl Q (F0 m pc ls st) := by
  obtain ⟨hX, h7, -⟩ := id hXX
  obtain ⟨w1, w2, w3, w4⟩ := hwd
  rcases Nat.lt_or_ge kd 30 with hk | hk
  · rcases (by omega : kd = 0 ∨ kd = 1 ∨ kd = 2 ∨ kd = 3 ∨ kd = 4 ∨ kd = 5 ∨ kd = 6 ∨ kd = 7 ∨ kd = 8 ∨ kd = 9 ∨ kd = 10 ∨ kd = 11 ∨ kd = 12 ∨ kd = 13 ∨ kd = 14 ∨ kd = 15 ∨ kd = 16 ∨ kd = 17 ∨ kd = 18 ∨ kd = 19 ∨ kd = 20 ∨ kd = 21 ∨ kd = 22 ∨ kd = 23 ∨ kd = 24 ∨ kd = 25 ∨ kd = 26 ∨ kd = 27 ∨ kd = 28 ∨ kd = 29) with rfl | rfl | rfl | rfl | rfl | rfl | rfl | rfl | rfl | rfl | rfl | rfl | rfl | rfl | rfl | rfl | rfl | rfl | rfl | rfl | rfl | rfl | rfl | rfl | rfl | rfl | rfl | rfl | rfl | rfl
    · exact fx_s0 F hX hgo hin htl ee hs hce hsl
    · exact fx_s1 F hgo hin htl ee hs hce hsl
    · exact fx_s2 F hgo hin htl ee hs hce hsl
    · exact fx_s3 F hgo hin htl ee hs hce hsl
    · exact fx_s4 F hgo hin htl ee hs hce hsl
    · exact fx_s5 F hgo hin ee hs hce hsl
    · exact fx_s6 F hXX hgo hin htl ee hs hce hsl
    · exact fx_s7 F hX h7 hgo hin htl ee hs hce hsl
    · exact fx_s8 F hgo hin htl ee hs hce hsl
    · exact fx_s9 hf hXX hma hsum F hR hgo hin htl ee hs
    · exact fx_s10 F hrt hin ee hs hce hsl
    · exact fx_s11 F hX hgo hin htl ee hs hce hsl
    · exact fx_s12 F h7 hgo hin htl ee hs hce hsl
    · exact fx_s13 F hgo hin htl ee hs hce hsl
    · exact fx_s14 F hX hgo hin htl ee hs hce hsl
    · exact fx_s15 F hX hgo hin htl ee hs hce hsl
    · exact fx_s16 hE2 F ⟨hR.2.2.1, hR.2.2.2⟩ hgo hin htl ee hs
    · exact fx_s17 F w1 ⟨hR.2.2.1, hR.2.2.2⟩ hgo hin htl ee hs
    · exact fx_s18 F hXX hgo hin htl ee hs hce hsl
    · exact fx_s19 F hgo hin htl ee hs hce hsl
    · exact fx_s20 hE1 F (Or.inl rfl) hgo hin ee hs hce hsl
    · exact fx_s20 hE1 F (Or.inr rfl) hgo hin ee hs hce hsl
    · exact fx_s22 F hX w2 ⟨hR.1, hR.2.1⟩ hgo hin htl ee hs hce hsl
    · exact fx_s23 F hX w3 ⟨hR.1, hR.2.1⟩ hgo hin htl ee hs hce hsl
    · exact fx_s24 F hgo hin htl ee hs hce hsl
    · exact fx_s25 F hXX hgo hin htl ee hs hce hsl
    · exact fx_s26 F hgo hin htl ee hs hce hsl
    · exact fx_s27 F hXX hgo hin htl ee hs hce hsl
    · have ee : fx_k28 E loc stk h j = true := ee
      obtain ⟨hl0, hst, hrh, hrj, hls⟩ := hs
      rcases stk with _ | ⟨v, stk⟩
      · have := fx_rl_nil hst
        subst this
        exact hcu _ hin rfl loc h j H locs ls ce sl ee ⟨hl0, hst, hrh, hrj, hls⟩ hce hsl
      · cases ee
    · exact fx_s29 F hX w4 hR hgo hin htl ee hs hce hsl
  · obtain ⟨q, rfl⟩ : ∃ q, kd = q + 30 := ⟨kd - 30, by omega⟩
    have ee : false = true := ee
    cases ee
theorem fx_step_ok {l : Launch} {X : fx_X} {Y : fx_Y} {B : fx_B} {mst : Nat → Option fx_S} {E : fx_E} {ih : fx_G} (hf : fx_snd l X Y B mst E ih) (hXX : fx_xx X B) (hma : fx_mall mst E.1) (hsum : fx_sum l X Y B mst E) (hE1 : E.2.1 = fx_swt) (hE2 : E.2.2.1 = fx_cd) (hwd : fx_wd) : fx_snd l X Y B mst E (fx_step E ih) := by
  refine ⟨fun d cod loc stk ce sl mc ms h j k => rfl, ?_⟩
  intro d cod at_ loc stk ce sl mc ms h j k ee p e R s m args below meth c Q cc nL own ini rt F hR hsub hrt hcu H locs ls st hs hce hsl
  rcases at_ with _ | ⟨⟨pc, kd, a, b, c0⟩, tl⟩
  · cases ee
  have hin : (pc, kd, a, b, c0) ∈ cod := hsub _ List.mem_cons_self
  have htl : ∀ q ∈ tl, q ∈ cod := fun q hq => hsub q (List.mem_cons_of_mem _ hq)
  have hgo : fx_gok l X Y p e R s m args below meth c Q nL cod mc ms (fun t loc stk ce sl h j => ih d cod t loc stk ce sl mc ms h j k) := ⟨fun loc stk ce sl h j => hf.1 _ _ _ _ _ _ _ _ _ _ _, fun at_ loc stk ce sl h j e9 hs9 H locs ls st hst h1 h2 => hf.2 _ _ _ _ _ _ _ _ _ _ _ _ e9 p e R s m args below meth c Q cc nL own ini rt F hR hs9 hrt hcu H locs ls st hst h1 h2⟩
  have ee : fx_one E ih (fun t loc stk ce sl h j => ih d cod t loc stk ce sl mc ms h j k) d cod pc kd a b c0 tl loc stk ce sl mc ms h j k = true := ee
  show W p l e R s m args below meth c H locs ce sl Q (F0 m pc ls st)
  exact fx_one_ok hf hXX hma hsum hE1 hE2 hwd F hR hrt hcu hgo hin htl ee hs hce hsl
theorem fx_go_ok {l : Launch} {X : fx_X} {Y : fx_Y} {B : fx_B} {mst : Nat → Option fx_S} {E : fx_E} (hXX : fx_xx X B) (hma : fx_mall mst E.1) (hsum : fx_sum l X Y B mst E) (hE1 : E.2.1 = fx_swt) (hE2 : E.2.2.1 = fx_cd) (hwd : fx_wd) : ∀ n, fx_snd l X Y B mst E (fx_go E n) := by
  intro n
  induction n with
  | zero => exact ⟨fun d cod loc stk ce sl mc ms h j k => rfl, fun d cod at_ loc stk ce sl mc ms h j k ee => by cases ee⟩
  | succ n ih => exact fx_step_ok ih hXX hma hsum hE1 hE2 hwd
end
section
def fx_cls : List String := ["FaceSenate$Acts", "FaceSenate$Formula", "FaceSenate$Looks", "FaceSenate$Plan", "FaceSenate$Reader", "FaceSenate$Shelf", "FaceSenate$Sitting", "FaceSenate$Tape", "FaceSenate$Trial", "FaceSenate", "FaceSenateModel", "java/lang/String", "java/lang/StringLatin1", "jdk/internal/util/Preconditions", "java/lang/Math", "java/lang/Integer", "java/util/Arrays", "FaceSenateLaw"]
noncomputable def fx_cn (o : Nat) : String := match fx_nth fx_cls o with
  | some n => n
  | none => ""
def fx_ft : List (Nat × (Nat × (Nat × (Nat × Nat)))) := [(0, 14, 0, 0, 498), (0, 20, 0, 1, 499), (0, 24, 0, 2, 501), (1, 9, 1, 0, 247), (1, 15, 1, 1, 248), (1, 18, 1, 2, 249), (1, 22, 1, 3, 250), (2, 9, 2, 0, 518), (2, 15, 2, 1, 519), (2, 18, 2, 2, 520), (2, 21, 2, 3, 521), (2, 25, 2, 4, 522), (2, 28, 2, 5, 523), (2, 31, 2, 6, 524), (2, 45, 6, 0, 399), (3, 9, 3, 0, 278), (3, 15, 3, 1, 280), (3, 19, 3, 2, 283), (3, 22, 3, 3, 285), (3, 25, 3, 4, 288), (3, 28, 3, 5, 291), (3, 31, 3, 6, 295), (3, 37, 3, 7, 298), (3, 41, 3, 8, 302), (3, 44, 3, 9, 306), (3, 48, 3, 10, 310), (3, 51, 3, 11, 313), (3, 54, 3, 12, 316), (3, 57, 3, 13, 320), (3, 60, 3, 14, 324), (3, 63, 3, 15, 327), (3, 66, 3, 16, 330), (3, 70, 3, 17, 332), (4, 12, 4, 0, 371), (4, 21, 4, 1, 373), (4, 25, 4, 2, 375), (4, 29, 4, 3, 377), (4, 38, 7, 4, 209), (4, 58, 3, 7, 299), (4, 74, 3, 8, 303), (4, 90, 7, 6, 213), (4, 93, 3, 9, 308), (4, 96, 3, 10, 311), (4, 99, 3, 11, 314), (4, 102, 3, 0, 279), (4, 110, 7, 7, 215), (4, 114, 3, 1, 281), (4, 118, 3, 12, 318), (4, 121, 3, 2, 284), (4, 127, 3, 4, 290), (4, 143, 3, 3, 287), (4, 146, 3, 5, 293), (4, 149, 3, 6, 297), (4, 152, 3, 16, 331), (4, 156, 3, 13, 321), (4, 159, 3, 14, 325), (4, 162, 3, 17, 333), (4, 165, 3, 15, 329), (4, 168, 1, 3, 251), (4, 189, 7, 5, 211), (5, 15, 5, 0, 487), (5, 21, 5, 1, 488), (5, 25, 5, 2, 489), (5, 29, 6, 0, 397), (5, 40, 6, 1, 402), (5, 43, 6, 2, 406), (5, 46, 6, 3, 410), (5, 49, 6, 4, 414), (6, 9, 6, 0, 396), (6, 15, 6, 1, 401), (6, 18, 6, 2, 405), (6, 22, 6, 3, 409), (6, 25, 6, 4, 413), (6, 28, 3, 4, 289), (6, 37, 3, 6, 296), (6, 38, 3, 15, 328), (7, 9, 7, 0, 203), (7, 15, 7, 1, 204), (7, 19, 7, 2, 205), (7, 23, 7, 3, 206), (7, 26, 7, 4, 208), (7, 29, 7, 5, 210), (7, 32, 7, 6, 212), (7, 35, 7, 7, 214), (8, 12, 8, 0, 436), (8, 18, 8, 1, 438), (8, 22, 8, 2, 440), (8, 25, 8, 3, 441), (8, 28, 8, 4, 442), (8, 31, 8, 5, 443), (8, 34, 8, 6, 444), (8, 37, 8, 7, 445), (8, 40, 8, 8, 446), (8, 43, 8, 9, 447), (8, 46, 8, 10, 448), (8, 57, 3, 9, 307), (8, 68, 6, 1, 403), (8, 83, 3, 12, 319), (8, 90, 6, 0, 400), (8, 102, 6, 3, 412), (8, 116, 3, 5, 294), (8, 119, 6, 2, 407), (8, 122, 3, 7, 300), (8, 135, 6, 4, 415), (8, 138, 3, 13, 322), (8, 141, 3, 14, 326), (8, 144, 3, 8, 304), (9, 10, 9, 0, 548), (9, 19, 9, 1, 549), (9, 26, 9, 2, 550), (9, 33, 9, 3, 551), (9, 40, 9, 4, 552), (9, 49, 9, 5, 553), (9, 56, 9, 6, 554), (9, 60, 9, 7, 555), (9, 64, 9, 8, 556), (9, 67, 9, 9, 557), (9, 70, 9, 10, 558), (9, 73, 9, 11, 559), (9, 77, 9, 12, 560), (9, 80, 9, 13, 561), (9, 83, 9, 14, 562), (9, 86, 9, 15, 563), (9, 93, 4, 0, 372), (9, 97, 7, 3, 207), (9, 108, 4, 2, 376), (9, 111, 4, 3, 378), (9, 112, 4, 1, 374), (9, 121, 3, 12, 317), (9, 131, 6, 0, 398), (9, 134, 6, 1, 404), (9, 137, 3, 3, 286), (9, 140, 3, 5, 292), (9, 143, 8, 1, 439), (9, 150, 6, 3, 411), (9, 157, 3, 11, 315), (9, 160, 3, 1, 282), (9, 194, 8, 0, 437), (9, 204, 6, 2, 408), (9, 302, 3, 13, 323), (9, 358, 3, 9, 309), (9, 361, 3, 10, 312), (9, 364, 6, 4, 416), (9, 367, 0, 1, 500), (9, 370, 0, 2, 502), (9, 373, 2, 6, 525), (9, 376, 3, 7, 301), (9, 380, 1, 3, 252), (9, 385, 3, 8, 305), (10, 7, 10, 0, 1254), (10, 13, 10, 1, 1255), (10, 16, 10, 5, 1259), (10, 20, 10, 11, 1265), (10, 24, 10, 12, 1266), (10, 27, 10, 13, 1267), (10, 30, 10, 14, 1268), (10, 33, 10, 15, 1269), (10, 36, 10, 16, 1270), (10, 39, 10, 17, 1271), (10, 42, 10, 18, 1272), (10, 45, 10, 19, 1273), (10, 48, 10, 20, 1274), (10, 51, 10, 21, 1275), (10, 54, 10, 22, 1276), (10, 57, 10, 23, 1277), (10, 60, 10, 24, 1278), (10, 63, 10, 25, 1279), (10, 66, 10, 26, 1280), (10, 69, 10, 27, 1281), (10, 73, 10, 28, 1282), (10, 76, 10, 29, 1283), (10, 79, 10, 30, 1284), (10, 83, 10, 31, 1285), (10, 86, 10, 32, 1286), (10, 89, 10, 33, 1287), (10, 92, 10, 34, 1288), (10, 95, 10, 35, 1289), (10, 98, 10, 36, 1290), (10, 101, 10, 50, 1304), (10, 104, 10, 51, 1305), (10, 107, 10, 52, 1306), (10, 110, 10, 55, 1309), (10, 113, 10, 56, 1310), (10, 116, 10, 58, 1312), (10, 119, 10, 59, 1313), (10, 122, 10, 60, 1314), (10, 125, 10, 61, 1315), (10, 128, 10, 62, 1316), (10, 131, 10, 63, 1317), (10, 134, 10, 64, 1318), (10, 137, 10, 65, 1319), (10, 140, 10, 66, 1320), (10, 143, 10, 67, 1321), (10, 146, 10, 68, 1322), (10, 149, 10, 71, 1325), (10, 152, 10, 72, 1326), (10, 161, 10, 3, 1257), (10, 164, 10, 4, 1258), (10, 215, 10, 7, 1261), (10, 218, 10, 6, 1260), (10, 225, 10, 8, 1262), (10, 232, 10, 10, 1264), (10, 243, 10, 9, 1263), (10, 274, 10, 38, 1292), (10, 277, 10, 39, 1293), (10, 280, 10, 2, 1256), (10, 283, 10, 37, 1291), (10, 330, 10, 42, 1296), (10, 336, 10, 41, 1295), (10, 339, 10, 40, 1294), (10, 363, 10, 43, 1297), (10, 366, 10, 44, 1298), (10, 369, 10, 45, 1299), (10, 372, 10, 46, 1300), (10, 375, 10, 47, 1301), (10, 378, 10, 48, 1302), (10, 381, 10, 49, 1303), (10, 401, 10, 53, 1307), (10, 404, 10, 54, 1308), (10, 407, 10, 69, 1323), (10, 410, 10, 57, 1311), (10, 525, 10, 70, 1324)]
def fx_ct : List (Nat × (Nat × (Nat × Nat))) := [(9, 317, 100000, 1182), (10, 528, 100000, 1933), (15, 265, 1431655765, 873), (15, 266, 858993459, 874), (15, 267, 252645135, 875)]
def fx_lt : List (Nat × (Nat × (Nat × Nat))) := [(7, 79, 27, 201), (7, 81, 97, 202), (10, 167, 1751215212, 1492), (10, 169, 25209, 1493), (10, 171, 7235441220320322420, 1494), (10, 173, 1836019556, 1495), (10, 175, 120282394289522, 1496), (10, 177, 6713202, 1497), (10, 179, 1717658469, 1498), (10, 181, 495874697571, 1499), (10, 183, 24948, 1500), (10, 185, 1819242347, 1501), (10, 187, 465624852596, 1502), (10, 189, 500085781608, 1503), (10, 191, 28518, 1504), (10, 193, 1685217655, 1505), (10, 195, 1852137842, 1506), (10, 197, 108187867505765, 1507), (10, 199, 108243534178420, 1508), (10, 201, 1852143475, 1509), (10, 203, 1937007984, 1510), (10, 205, 7499639, 1511), (10, 207, 109330212154734, 1512), (10, 209, 28530, 1513), (10, 211, 6385252, 1514), (10, 213, 7237492, 1515)]
def fx_kt : List (Nat × (Nat × (Nat × (Nat × Nat)))) := [(0, 0, 27, 232, 920), (0, 0, 30, 209, 925), (0, 0, 34, 210, 986), (0, 1, 11, 20, 480), (1, 2, 25, 260, 845), (1, 2, 29, 261, 848), (2, 0, 35, 264, 1195), (3, 0, 73, 13, 263), (3, 0, 82, 15, 270), (3, 0, 83, 16, 274), (3, 0, 93, 134, 868), (3, 0, 97, 128, 869), (3, 0, 110, 135, 911), (3, 2, 76, 14, 267), (3, 2, 102, 165, 870), (3, 3, 36, 12, 0), (4, 0, 32, 13, 617), (4, 0, 35, 211, 618), (4, 0, 41, 212, 702), (4, 0, 45, 241, 706), (4, 0, 49, 242, 715), (4, 0, 52, 243, 727), (4, 0, 55, 244, 739), (4, 0, 62, 245, 755), (4, 0, 66, 246, 760), (4, 0, 70, 247, 723), (4, 0, 77, 248, 776), (4, 0, 80, 249, 780), (4, 0, 83, 240, 710), (4, 0, 86, 272, 711), (4, 0, 106, 274, 731), (4, 0, 124, 275, 743), (4, 0, 130, 276, 747), (4, 0, 133, 277, 751), (4, 0, 136, 285, 735), (4, 0, 140, 273, 719), (4, 0, 173, 15, 759), (4, 0, 174, 278, 764), (4, 0, 178, 279, 769), (4, 0, 185, 16, 768), (4, 1, 11, 2, 145), (4, 1, 20, 11, 237), (4, 2, 181, 280, 773), (6, 0, 41, 128, 902), (7, 0, 41, 3, 150), (7, 0, 46, 5, 160), (7, 0, 54, 240, 622), (7, 0, 57, 266, 626), (7, 0, 64, 268, 633), (7, 0, 70, 270, 640), (7, 0, 75, 271, 645), (7, 2, 50, 10, 198), (7, 2, 61, 267, 630), (7, 2, 67, 269, 637), (8, 0, 50, 150, 817), (8, 0, 54, 227, 821), (8, 0, 71, 259, 826), (8, 0, 79, 148, 1091), (8, 0, 86, 233, 933), (8, 0, 105, 128, 937), (8, 0, 113, 129, 939), (8, 0, 126, 228, 841), (8, 2, 108, 165, 938), (8, 2, 147, 14, 788), (8, 3, 11, 17, 0), (8, 4, 132, 229, 0), (9, 0, 89, 22, 541), (9, 0, 102, 117, 601), (9, 0, 105, 118, 613), (9, 0, 113, 119, 784), (9, 0, 116, 120, 789), (9, 0, 119, 121, 793), (9, 0, 120, 122, 797), (9, 0, 124, 126, 809), (9, 0, 128, 127, 813), (9, 0, 146, 128, 833), (9, 0, 153, 129, 837), (9, 0, 163, 134, 860), (9, 0, 166, 135, 864), (9, 0, 170, 139, 881), (9, 0, 173, 140, 890), (9, 0, 176, 143, 898), (9, 0, 180, 145, 907), (9, 0, 184, 147, 916), (9, 0, 188, 148, 929), (9, 0, 191, 149, 942), (9, 0, 197, 150, 946), (9, 0, 207, 155, 962), (9, 0, 210, 156, 970), (9, 0, 214, 159, 966), (9, 0, 217, 160, 982), (9, 0, 221, 162, 994), (9, 0, 232, 166, 1010), (9, 0, 240, 170, 1023), (9, 0, 243, 171, 1031), (9, 0, 246, 172, 1035), (9, 0, 252, 234, 1027), (9, 0, 255, 176, 1046), (9, 0, 258, 177, 1050), (9, 0, 261, 179, 885), (9, 0, 264, 180, 1058), (9, 0, 267, 227, 1062), (9, 0, 270, 183, 1067), (9, 0, 273, 189, 1087), (9, 0, 276, 190, 1096), (9, 0, 280, 192, 1108), (9, 0, 283, 193, 1112), (9, 0, 286, 194, 1128), (9, 0, 290, 236, 1132), (9, 0, 299, 197, 1140), (9, 0, 311, 202, 1166), (9, 0, 315, 203, 1174), (9, 0, 318, 204, 1187), (9, 0, 321, 237, 1191), (9, 0, 324, 238, 1200), (9, 0, 328, 265, 1204), (9, 0, 332, 206, 1212), (9, 0, 335, 207, 1217), (9, 0, 350, 209, 1226), (9, 0, 354, 210, 1231), (9, 1, 18, 11, 389), (9, 1, 46, 20, 511), (9, 2, 200, 153, 951), (9, 2, 224, 163, 1002), (9, 2, 227, 165, 1009), (9, 2, 249, 173, 1039), (9, 2, 305, 199, 1152), (9, 2, 308, 200, 1155), (9, 2, 344, 14, 1221), (9, 3, 9, 1, 0), (9, 3, 25, 17, 0), (9, 3, 32, 18, 0), (9, 3, 39, 19, 0), (9, 3, 55, 21, 0), (10, 0, 155, 24, 1242), (10, 0, 158, 25, 1246), (10, 0, 221, 213, 1482), (10, 0, 249, 251, 1542), (10, 0, 253, 124, 1522), (10, 0, 257, 123, 1478), (10, 0, 260, 219, 1538), (10, 0, 263, 250, 1534), (10, 0, 266, 226, 1554), (10, 0, 270, 220, 1546), (10, 0, 286, 125, 1526), (10, 0, 289, 218, 1530), (10, 0, 292, 221, 1550), (10, 0, 296, 222, 1558), (10, 0, 299, 223, 1574), (10, 0, 302, 224, 1590), (10, 0, 306, 225, 1606), (10, 0, 309, 254, 1566), (10, 0, 313, 252, 1562), (10, 0, 317, 253, 1570), (10, 0, 321, 255, 1578), (10, 0, 324, 256, 1582), (10, 0, 327, 257, 1586), (10, 0, 333, 258, 1594), (10, 0, 342, 281, 1598), (10, 0, 345, 282, 1602), (10, 0, 348, 283, 1618), (10, 0, 351, 286, 1610), (10, 0, 354, 287, 1614), (10, 0, 357, 288, 1622), (10, 0, 360, 289, 1626), (10, 0, 384, 262, 1671), (10, 0, 391, 26, 1250), (10, 0, 398, 181, 1701), (10, 0, 416, 175, 1649), (10, 0, 423, 230, 1667), (10, 0, 426, 133, 1663), (10, 0, 429, 131, 1645), (10, 0, 432, 132, 1656), (10, 0, 438, 235, 1749), (10, 0, 441, 186, 1745), (10, 0, 444, 130, 1638), (10, 0, 447, 137, 1682), (10, 0, 450, 138, 1686), (10, 0, 453, 141, 1697), (10, 0, 456, 142, 1705), (10, 0, 459, 167, 1717), (10, 0, 462, 144, 1713), (10, 0, 465, 146, 1725), (10, 0, 468, 151, 1737), (10, 0, 471, 152, 1741), (10, 0, 477, 157, 1768), (10, 0, 480, 158, 1772), (10, 0, 483, 161, 1784), (10, 0, 486, 164, 1796), (10, 0, 489, 169, 1804), (10, 0, 492, 174, 1820), (10, 0, 495, 187, 1843), (10, 0, 501, 184, 1835), (10, 0, 504, 185, 1839), (10, 0, 507, 182, 1851), (10, 0, 510, 191, 1871), (10, 0, 516, 196, 1898), (10, 0, 519, 198, 1910), (10, 0, 529, 239, 1942), (10, 0, 532, 205, 1938), (10, 0, 535, 108, 1950), (10, 0, 538, 208, 1951), (10, 2, 228, 214, 1486), (10, 2, 236, 215, 1489), (10, 2, 240, 216, 1516), (10, 2, 246, 217, 1519), (10, 2, 387, 263, 1675), (10, 2, 394, 136, 1642), (10, 2, 413, 231, 1653), (10, 2, 420, 178, 1660), (10, 2, 435, 168, 1690), (10, 2, 474, 154, 1757), (10, 2, 498, 188, 1832), (10, 2, 513, 195, 1895), (10, 2, 522, 201, 1918), (11, 0, 335, 4, 154), (11, 0, 492, 6, 164), (11, 0, 505, 3, 653), (11, 0, 633, 284, 649), (11, 2, 495, 7, 168), (11, 2, 637, 290, 654), (11, 2, 1059, 9, 176), (12, 2, 9, 8, 171), (12, 2, 88, 291, 657), (12, 2, 95, 292, 664), (17, 0, 13, 27, 597), (17, 0, 17, 28, 1967), (17, 0, 18, 29, 605), (17, 0, 22, 30, 1971), (17, 0, 23, 31, 609), (17, 0, 27, 32, 1474), (17, 0, 28, 33, 801), (17, 0, 31, 34, 1630), (17, 0, 32, 35, 805), (17, 0, 36, 36, 1634), (17, 0, 37, 37, 856), (17, 0, 40, 38, 1678), (17, 0, 41, 39, 877), (17, 0, 44, 40, 1693), (17, 0, 45, 41, 894), (17, 0, 48, 42, 1709), (17, 0, 49, 43, 903), (17, 0, 52, 44, 1721), (17, 0, 53, 45, 912), (17, 0, 56, 46, 1733), (17, 0, 57, 47, 947), (17, 0, 60, 48, 1753), (17, 0, 61, 49, 954), (17, 0, 64, 50, 1760), (17, 0, 65, 51, 958), (17, 0, 69, 52, 1764), (17, 0, 70, 53, 974), (17, 0, 73, 54, 1776), (17, 0, 74, 55, 978), (17, 0, 78, 56, 1780), (17, 0, 79, 57, 990), (17, 0, 82, 58, 1788), (17, 0, 83, 59, 998), (17, 0, 86, 60, 1792), (17, 0, 87, 61, 1005), (17, 0, 90, 62, 1800), (17, 0, 91, 63, 1015), (17, 0, 94, 64, 1808), (17, 0, 95, 65, 1019), (17, 0, 98, 66, 1816), (17, 0, 99, 67, 1042), (17, 0, 102, 68, 1824), (17, 0, 103, 69, 1054), (17, 0, 106, 70, 1847), (17, 0, 107, 71, 1063), (17, 0, 110, 72, 1855), (17, 0, 111, 73, 1075), (17, 0, 114, 74, 1859), (17, 0, 115, 75, 1079), (17, 0, 118, 76, 1863), (17, 0, 119, 77, 1083), (17, 0, 122, 78, 1828), (17, 0, 123, 79, 1092), (17, 0, 126, 80, 1867), (17, 0, 127, 81, 1100), (17, 0, 130, 82, 1875), (17, 0, 131, 83, 1104), (17, 0, 135, 84, 1879), (17, 0, 136, 85, 1071), (17, 0, 139, 86, 1729), (17, 0, 140, 87, 1124), (17, 0, 143, 88, 1891), (17, 0, 144, 89, 1136), (17, 0, 147, 90, 1902), (17, 0, 148, 91, 1144), (17, 0, 151, 92, 1906), (17, 0, 152, 93, 1148), (17, 0, 155, 94, 1914), (17, 0, 156, 95, 1116), (17, 0, 159, 96, 1883), (17, 0, 160, 97, 1120), (17, 0, 163, 98, 1887), (17, 0, 164, 99, 1158), (17, 0, 167, 100, 1812), (17, 0, 168, 101, 1162), (17, 0, 172, 102, 1921), (17, 0, 173, 103, 1170), (17, 0, 177, 104, 1925), (17, 0, 178, 105, 1178), (17, 0, 181, 106, 1929), (17, 0, 182, 107, 1183), (17, 0, 185, 108, 1934), (17, 0, 186, 109, 1208), (17, 0, 189, 110, 1946), (17, 0, 190, 111, 1222), (17, 0, 193, 112, 1955), (17, 0, 194, 113, 1227), (17, 0, 197, 114, 1959), (17, 0, 198, 115, 1232), (17, 0, 201, 116, 1963), (17, 1, 9, 0, 131), (17, 1, 12, 23, 1238)]
def fx_nt : List (Nat × (Nat × (Nat × Nat))) := [(0, 9, 5, 478), (3, 34, 1, 241), (4, 9, 7, 143), (4, 18, 3, 235), (8, 9, 6, 434), (9, 7, 4, 137), (9, 16, 3, 388), (9, 23, 6, 390), (9, 30, 8, 428), (9, 37, 0, 472), (9, 44, 5, 510), (9, 53, 2, 512), (17, 7, 9, 129), (17, 10, 10, 1236)]
def fx_ot : List (Nat × (Nat × Nat)) := [(0, 3, 477), (1, 3, 246), (2, 3, 517), (3, 3, 240), (4, 3, 142), (5, 3, 483), (6, 3, 395), (7, 3, 148), (8, 3, 433), (9, 1, 134), (10, 1, 1241)]
def fx_at9 : List (Nat × (Nat × Nat)) := [(5, 34, 924), (6, 31, 545), (8, 96, 941), (9, 338, 1216)]
def fx_xt : List (Nat × (Nat × (Nat × Nat))) := [(11, 9, 0, 1975), (11, 15, 1, 1976)]
def fx_zt : List (Nat × (Nat × (Nat × Nat))) := [(11, 38, 0, 158), (11, 1053, 1, 174)]
def fx_mx : List (Nat × (Nat × (Nat × Nat))) := [(2, 39, 0, 1199), (3, 87, 1, 889), (3, 107, 2, 876), (5, 9, 0, 484), (8, 62, 0, 825), (8, 75, 2, 830), (8, 93, 1, 940), (9, 235, 2, 1014), (9, 293, 0, 855), (9, 296, 1, 854), (12, 38, 1, 661), (12, 92, 0, 660)]
def fx_msl : List (List fx_S) := [[(⟨"FaceSenate", "<init>", "()V"⟩, prog_1_method_1_code, 1, none), (⟨"FaceSenate$Reader", "<init>", "()V"⟩, prog_6_method_1_code, 1, none), (⟨"FaceSenate$Tape", "<init>", "()V"⟩, prog_9_method_1_code, 6, none), (⟨"java/lang/String", "length", "()I"⟩, prog_16_method_54_code, 1, some .int), (⟨"java/lang/String", "coder", "()B"⟩, prog_16_method_152_code, 1, some .byte), (⟨"java/lang/String", "charAt", "(I)C"⟩, prog_16_method_56_code, 2, some .char), (⟨"java/lang/String", "isLatin1", "()Z"⟩, prog_16_method_154_code, 1, some .boolean), (⟨"java/lang/StringLatin1", "charAt", "([BI)C"⟩, prog_17_method_2_code, 2, some .char), (⟨"java/lang/String", "checkIndex", "(II)V"⟩, prog_16_method_155_code, 2, none), (⟨"jdk/internal/util/Preconditions", "checkIndex", "(IILjava/util/function/BiFunction;)I"⟩, prog_21_method_11_code, 3, some .int), (⟨"FaceSenate$Tape", "codeWith", "(JI)J"⟩, prog_9_method_10_code, 3, some .long), (⟨"FaceSenate$Plan", "<init>", "()V"⟩, prog_5_method_1_code, 1, none), (⟨"FaceSenate$Formula", "<init>", "()V"⟩, prog_3_method_1_code, 1, none), (⟨"FaceSenate$Plan", "clear", "()V"⟩, prog_5_method_2_code, 1, none), (⟨"java/util/Arrays", "fill", "([II)V"⟩, prog_20_method_103_code, 4, none), (⟨"FaceSenate$Formula", "clear", "()V"⟩, prog_3_method_2_code, 1, none)], [(⟨"FaceSenate$Formula", "add", "(I)V"⟩, prog_3_method_3_code, 2, none), (⟨"FaceSenate$Sitting", "<init>", "()V"⟩, prog_8_method_1_code, 1, none), (⟨"FaceSenate$Trial", "<init>", "()V"⟩, prog_10_method_1_code, 1, none), (⟨"FaceSenate$Acts", "<init>", "()V"⟩, prog_2_method_1_code, 1, none), (⟨"FaceSenate$Shelf", "<init>", "(I)V"⟩, prog_7_method_1_code, 2, none), (⟨"FaceSenate$Looks", "<init>", "()V"⟩, prog_4_method_1_code, 1, none), (⟨"FaceSenate$Sitting", "begin", "(LFaceSenate$Plan;)V"⟩, prog_8_method_2_code, 2, none), (⟨"FaceSenateModel", "<init>", "()V"⟩, prog_12_method_1_code, 1, none), (⟨"FaceSenateModel", "clearBank", "()V"⟩, prog_12_method_16_code, 1, none), (⟨"FaceSenateModel", "startAnew", "()V"⟩, prog_12_method_52_code, 2, none), (⟨"FaceSenateModel", "many", "()I"⟩, prog_12_method_47_code, 1, some .int), (⟨"FaceSenate", "feed", "(IIIII)I"⟩, prog_1_method_2_code, 7, some .int), (⟨"FaceSenateModel", "feed", "(IIIII)I"⟩, prog_12_method_125_code, 8, some .int), (⟨"FaceSenate", "end", "(I)I"⟩, prog_1_method_3_code, 2, some .int), (⟨"FaceSenateModel", "end", "(I)I"⟩, prog_12_method_126_code, 2, some .int), (⟨"FaceSenate", "senate", "()I"⟩, prog_1_method_4_code, 2, some .int)], [(⟨"FaceSenateModel", "senate", "()I"⟩, prog_12_method_17_code, 2, some .int), (⟨"FaceSenate", "fault", "(I)I"⟩, prog_1_method_5_code, 2, some .int), (⟨"FaceSenateModel", "fault", "(I)I"⟩, prog_12_method_40_code, 2, some .int), (⟨"FaceSenate", "member", "(II)I"⟩, prog_1_method_6_code, 3, some .int), (⟨"FaceSenateModel", "member", "(II)I"⟩, prog_12_method_62_code, 3, some .int), (⟨"FaceSenate", "district", "(II)I"⟩, prog_1_method_7_code, 3, some .int), (⟨"FaceSenateModel", "district", "(II)I"⟩, prog_12_method_66_code, 3, some .int), (⟨"FaceSenate", "seat", "(II)I"⟩, prog_1_method_8_code, 3, some .int), (⟨"FaceSenateModel", "seat", "(II)I"⟩, prog_12_method_67_code, 3, some .int), (⟨"FaceSenate", "report", "()I"⟩, prog_1_method_9_code, 1, some .int), (⟨"FaceSenateModel", "report", "()I"⟩, prog_12_method_69_code, 1, some .int), (⟨"FaceSenate", "off", "()I"⟩, prog_1_method_10_code, 1, some .int), (⟨"FaceSenateModel", "off", "()I"⟩, prog_12_method_70_code, 1, some .int), (⟨"FaceSenate", "step", "()I"⟩, prog_1_method_11_code, 2, some .int), (⟨"FaceSenateModel", "step", "()I"⟩, prog_12_method_74_code, 1, some .int), (⟨"FaceSenate", "news", "(I)I"⟩, prog_1_method_12_code, 3, some .int)], [(⟨"FaceSenateModel", "news", "(I)I"⟩, prog_12_method_75_code, 3, some .int), (⟨"FaceSenate", "sit", "(II)I"⟩, prog_1_method_13_code, 4, some .int), (⟨"FaceSenateModel", "sit", "(II)I"⟩, prog_12_method_76_code, 4, some .int), (⟨"FaceSenate", "change", "(II)Z"⟩, prog_1_method_14_code, 3, some .boolean), (⟨"FaceSenateModel", "change", "(II)Z"⟩, prog_12_method_79_code, 3, some .boolean), (⟨"FaceSenate", "unseat", "(I)I"⟩, prog_1_method_15_code, 3, some .int), (⟨"FaceSenateModel", "unseat", "(I)I"⟩, prog_12_method_80_code, 3, some .int), (⟨"FaceSenate", "undo", "()Z"⟩, prog_1_method_16_code, 1, some .boolean), (⟨"FaceSenateModel", "undo", "()Z"⟩, prog_12_method_81_code, 1, some .boolean), (⟨"FaceSenate", "redo", "()Z"⟩, prog_1_method_17_code, 1, some .boolean), (⟨"FaceSenateModel", "redo", "()Z"⟩, prog_12_method_82_code, 1, some .boolean), (⟨"FaceSenate", "stand", "(II)I"⟩, prog_1_method_18_code, 7, some .int), (⟨"FaceSenateModel", "stand", "(II)I"⟩, prog_12_method_84_code, 5, some .int), (⟨"FaceSenate", "sample", "(II)I"⟩, prog_1_method_19_code, 5, some .int), (⟨"FaceSenateModel", "sample", "(II)I"⟩, prog_12_method_86_code, 5, some .int), (⟨"FaceSenate", "samples", "(I)I"⟩, prog_1_method_20_code, 4, some .int)], [(⟨"FaceSenateModel", "samples", "(I)I"⟩, prog_12_method_87_code, 4, some .int), (⟨"FaceSenate", "chain", "(II)I"⟩, prog_1_method_22_code, 6, some .int), (⟨"FaceSenateModel", "chain", "(II)I"⟩, prog_12_method_90_code, 5, some .int), (⟨"FaceSenate", "groups", "()I"⟩, prog_1_method_26_code, 4, some .int), (⟨"FaceSenateModel", "groups", "()I"⟩, prog_12_method_91_code, 5, some .int), (⟨"FaceSenate", "place", "(II)I"⟩, prog_1_method_28_code, 8, some .int), (⟨"FaceSenateModel", "place", "(II)I"⟩, prog_12_method_98_code, 7, some .int), (⟨"FaceSenate", "move", "(I)I"⟩, prog_1_method_30_code, 8, some .int), (⟨"FaceSenateModel", "move", "(I)I"⟩, prog_12_method_99_code, 6, some .int), (⟨"FaceSenate", "settled", "()I"⟩, prog_1_method_33_code, 2, some .int), (⟨"FaceSenateModel", "settled", "()I"⟩, prog_12_method_100_code, 2, some .int), (⟨"FaceSenate", "will", "(II)I"⟩, prog_1_method_34_code, 4, some .int), (⟨"FaceSenateModel", "will", "(II)I"⟩, prog_12_method_101_code, 5, some .int), (⟨"FaceSenate", "ahead", "(I)I"⟩, prog_1_method_35_code, 2, some .int), (⟨"FaceSenateModel", "ahead", "(I)I"⟩, prog_12_method_96_code, 2, some .int), (⟨"FaceSenate", "alike", "()I"⟩, prog_1_method_36_code, 2, some .int)], [(⟨"FaceSenateModel", "alike", "()I"⟩, prog_12_method_103_code, 4, some .int), (⟨"FaceSenate", "unrest", "(I)I"⟩, prog_1_method_37_code, 4, some .int), (⟨"FaceSenateModel", "unrest", "(I)I"⟩, prog_12_method_104_code, 4, some .int), (⟨"FaceSenate", "sways", "(III)I"⟩, prog_1_method_38_code, 4, some .int), (⟨"FaceSenateModel", "sways", "(III)I"⟩, prog_12_method_105_code, 7, some .int), (⟨"FaceSenate", "brightest", "()I"⟩, prog_1_method_32_code, 4, some .int), (⟨"FaceSenateModel", "brightest", "()I"⟩, prog_12_method_71_code, 3, some .int), (⟨"FaceSenate", "parties", "(II)I"⟩, prog_1_method_41_code, 4, some .int), (⟨"FaceSenateModel", "parties", "(II)I"⟩, prog_12_method_109_code, 8, some .int), (⟨"FaceSenate", "least", "(II)I"⟩, prog_1_method_43_code, 4, some .int), (⟨"FaceSenateModel", "least", "(II)I"⟩, prog_12_method_110_code, 4, some .int), (⟨"FaceSenate", "best", "(I)I"⟩, prog_1_method_44_code, 6, some .int), (⟨"FaceSenateModel", "best", "(I)I"⟩, prog_12_method_112_code, 4, some .int), (⟨"FaceSenate", "odds", "(II)I"⟩, prog_1_method_46_code, 5, some .int), (⟨"FaceSenateModel", "odds", "(II)I"⟩, prog_12_method_113_code, 5, some .int), (⟨"FaceSenate", "moved", "(I)I"⟩, prog_1_method_39_code, 6, some .int)], [(⟨"FaceSenateModel", "moved", "(I)I"⟩, prog_12_method_106_code, 6, some .int), (⟨"FaceSenate", "key", "()I"⟩, prog_1_method_40_code, 5, some .int), (⟨"FaceSenateModel", "key", "()I"⟩, prog_12_method_107_code, 5, some .int), (⟨"FaceSenate", "lies", "(I)I"⟩, prog_1_method_49_code, 2, some .int), (⟨"FaceSenateModel", "lies", "(I)I"⟩, prog_12_method_88_code, 2, some .int), (⟨"FaceSenate", "looks", "(IIIZ)I"⟩, prog_1_method_50_code, 5, some .int), (⟨"FaceSenateModel", "looks", "(IIIZ)I"⟩, prog_12_method_114_code, 5, some .int), (⟨"FaceSenate", "untell", "(I)Z"⟩, prog_1_method_51_code, 2, some .boolean), (⟨"FaceSenateModel", "untell", "(I)Z"⟩, prog_12_method_115_code, 2, some .boolean), (⟨"FaceSenate", "later", "(I)I"⟩, prog_1_method_52_code, 2, some .int), (⟨"FaceSenateModel", "later", "(I)I"⟩, prog_12_method_116_code, 2, some .int), (⟨"FaceSenate", "fits", "(I)I"⟩, prog_1_method_53_code, 2, some .int), (⟨"FaceSenateModel", "fits", "(I)I"⟩, prog_12_method_119_code, 4, some .int), (⟨"FaceSenate", "ask", "(III)I"⟩, prog_1_method_56_code, 9, some .int), (⟨"FaceSenateModel", "ask", "(III)I"⟩, prog_12_method_121_code, 9, some .int), (⟨"FaceSenate", "image", "(I)I"⟩, prog_1_method_59_code, 2, some .int)], [(⟨"FaceSenateModel", "image", "(I)I"⟩, prog_12_method_122_code, 3, some .int), (⟨"FaceSenate", "back", "(I)I"⟩, prog_1_method_60_code, 2, some .int), (⟨"FaceSenateModel", "back", "(I)I"⟩, prog_12_method_123_code, 3, some .int), (⟨"FaceSenate", "about", "(I)I"⟩, prog_1_method_61_code, 2, some .int), (⟨"FaceSenateModel", "about", "(I)I"⟩, prog_12_method_124_code, 2, some .int), (⟨"FaceSenate$Tape", "add", "(I)V"⟩, prog_9_method_2_code, 3, none), (⟨"FaceSenate$Reader", "read", "()V"⟩, prog_6_method_2_code, 3, none), (⟨"FaceSenate$Trial", "forgetLight", "()V"⟩, prog_10_method_12_code, 1, none), (⟨"FaceSenate$Acts", "clear", "()V"⟩, prog_2_method_2_code, 1, none), (⟨"FaceSenate$Shelf", "clear", "()V"⟩, prog_7_method_2_code, 2, none), (⟨"FaceSenate$Looks", "clear", "()V"⟩, prog_4_method_2_code, 1, none), (⟨"FaceSenateModel", "goOn", "()V"⟩, prog_12_method_9_code, 3, none), (⟨"FaceSenateModel", "isGood", "()Z"⟩, prog_12_method_6_code, 1, some .boolean), (⟨"FaceSenateModel", "readLine", "()V"⟩, prog_12_method_19_code, 3, none), (⟨"FaceSenate", "isMember", "(I)Z"⟩, prog_1_method_62_code, 2, some .boolean), (⟨"FaceSenate$Trial", "begin", "(LFaceSenate$Plan;LFaceSenate$Sitting;)V"⟩, prog_10_method_2_code, 3, none)], [(⟨"FaceSenate$Sitting", "facesOf", "(I)I"⟩, prog_8_method_5_code, 4, some .int), (⟨"FaceSenate$Trial", "brightAt", "(II)I"⟩, prog_10_method_11_code, 5, some .int), (⟨"FaceSenateModel", "isMember", "(I)Z"⟩, prog_12_method_49_code, 2, some .boolean), (⟨"FaceSenateModel", "beside", "(I)I"⟩, prog_12_method_55_code, 4, some .int), (⟨"FaceSenateModel", "facesOf", "(I)I"⟩, prog_12_method_56_code, 4, some .int), (⟨"FaceSenateModel", "brightAt", "(I)I"⟩, prog_12_method_58_code, 2, some .int), (⟨"FaceSenate$Plan", "membersOf", "(I)I"⟩, prog_5_method_4_code, 4, some .int), (⟨"FaceSenate$Plan", "offOf", "(ILFaceSenate$Sitting;)I"⟩, prog_5_method_5_code, 4, some .int), (⟨"FaceSenateModel", "isIn", "(III)Z"⟩, prog_12_method_41_code, 3, some .boolean), (⟨"FaceSenateModel", "membersOf", "(I)I"⟩, prog_12_method_63_code, 4, some .int), (⟨"FaceSenateModel", "offOf", "(I)I"⟩, prog_12_method_64_code, 2, some .int), (⟨"FaceSenate", "isSeat", "(I)Z"⟩, prog_1_method_64_code, 2, some .boolean), (⟨"FaceSenate$Sitting", "sitterOn", "(I)I"⟩, prog_8_method_6_code, 3, some .int), (⟨"FaceSenateModel", "isSeat", "(I)Z"⟩, prog_12_method_50_code, 2, some .boolean), (⟨"FaceSenateModel", "whoSits", "(I)I"⟩, prog_12_method_53_code, 3, some .int), (⟨"FaceSenate$Sitting", "together", "()I"⟩, prog_8_method_4_code, 1, some .int)], [(⟨"FaceSenateModel", "reportNow", "()I"⟩, prog_12_method_68_code, 1, some .int), (⟨"FaceSenate$Plan", "offOfAll", "(LFaceSenate$Sitting;)I"⟩, prog_5_method_6_code, 4, some .int), (⟨"FaceSenateModel", "allOff", "()I"⟩, prog_12_method_65_code, 3, some .int), (⟨"FaceSenate$Acts", "keep", "(LFaceSenate$Sitting;)V"⟩, prog_2_method_3_code, 2, none), (⟨"FaceSenate$Trial", "pass", "()I"⟩, prog_10_method_8_code, 3, some .int), (⟨"FaceSenate$Trial", "wince", "()I"⟩, prog_10_method_10_code, 3, some .int), (⟨"FaceSenate$Sitting", "take", "(LFaceSenate$Sitting;)V"⟩, prog_8_method_3_code, 2, none), (⟨"FaceSenateModel", "keepAct", "()V"⟩, prog_12_method_72_code, 2, none), (⟨"FaceSenateModel", "goInEarnest", "()I"⟩, prog_12_method_61_code, 4, some .int), (⟨"FaceSenate", "isWithin", "(II)Z"⟩, prog_1_method_67_code, 2, some .boolean), (⟨"FaceSenateModel", "isFace", "(I)Z"⟩, prog_12_method_51_code, 1, some .boolean), (⟨"FaceSenate", "canChange", "(II)Z"⟩, prog_1_method_65_code, 3, some .boolean), (⟨"FaceSenate$Sitting", "swap", "(II)V"⟩, prog_8_method_8_code, 4, none), (⟨"FaceSenateModel", "canChange", "(II)Z"⟩, prog_12_method_77_code, 3, some .boolean), (⟨"FaceSenateModel", "changeBoth", "(II)V"⟩, prog_12_method_78_code, 4, none), (⟨"FaceSenate", "isSeated", "(I)Z"⟩, prog_1_method_63_code, 2, some .boolean)], [(⟨"FaceSenate$Acts", "takeBack", "(LFaceSenate$Sitting;)Z"⟩, prog_2_method_4_code, 2, some .boolean), (⟨"FaceSenateModel", "exchange", "()V"⟩, prog_12_method_73_code, 3, none), (⟨"FaceSenate$Acts", "doAgain", "(LFaceSenate$Sitting;)Z"⟩, prog_2_method_5_code, 2, some .boolean), (⟨"FaceSenate", "isPart", "(I)Z"⟩, prog_1_method_66_code, 1, some .boolean), (⟨"FaceSenateModel", "offWith", "(II)I"⟩, prog_12_method_83_code, 5, some .int), (⟨"java/lang/Integer", "bitCount", "(I)I"⟩, prog_14_method_49_code, 1, some .int), (⟨"FaceSenate", "sampleOff", "(II)I"⟩, prog_1_method_21_code, 3, some .int), (⟨"FaceSenateModel", "everybody", "()I"⟩, prog_12_method_57_code, 1, some .int), (⟨"FaceSenateModel", "bitsOf", "(I)I"⟩, prog_12_method_43_code, 3, some .int), (⟨"FaceSenateModel", "awayOf", "(I)I"⟩, prog_12_method_85_code, 2, some .int), (⟨"FaceSenate", "ringOf", "(II)I"⟩, prog_1_method_23_code, 5, some .int), (⟨"FaceSenate", "layDown", "(I)V"⟩, prog_1_method_24_code, 2, none), (⟨"FaceSenate$Trial", "besideOf", "(I)I"⟩, prog_10_method_5_code, 2, some .int), (⟨"FaceSenate", "firstOf", "(I)I"⟩, prog_1_method_25_code, 2, some .int), (⟨"FaceSenateModel", "layFar", "(I)V"⟩, prog_12_method_89_code, 5, none), (⟨"FaceSenateModel", "areBeside", "(II)Z"⟩, prog_12_method_54_code, 5, some .boolean)], [(⟨"FaceSenate$Sitting", "seated", "()I"⟩, prog_8_method_7_code, 3, some .int), (⟨"FaceSenate", "groupOf", "(I)I"⟩, prog_1_method_27_code, 4, some .int), (⟨"FaceSenateModel", "has", "(II)Z"⟩, prog_12_method_42_code, 2, some .boolean), (⟨"FaceSenate$Plan", "seatCount", "()I"⟩, prog_5_method_3_code, 1, some .int), (⟨"FaceSenate", "reportSeated", "(II)I"⟩, prog_1_method_29_code, 3, some .int), (⟨"FaceSenateModel", "seats", "()I"⟩, prog_12_method_48_code, 1, some .int), (⟨"FaceSenateModel", "reportAt", "(II)I"⟩, prog_12_method_97_code, 3, some .int), (⟨"FaceSenate", "reportChanged", "(II)I"⟩, prog_1_method_31_code, 3, some .int), (⟨"FaceSenateModel", "keepNow", "()V"⟩, prog_12_method_92_code, 2, none), (⟨"FaceSenateModel", "reportBehind", "(I)I"⟩, prog_12_method_95_code, 4, some .int), (⟨"FaceSenateModel", "goStep", "()I"⟩, prog_12_method_60_code, 3, some .int), (⟨"FaceSenateModel", "bringBack", "()V"⟩, prog_12_method_93_code, 2, none), (⟨"FaceSenateModel", "isAhead", "(I)Z"⟩, prog_12_method_94_code, 1, some .boolean), (⟨"FaceSenate$Trial", "passAll", "(I)V"⟩, prog_10_method_7_code, 3, none), (⟨"FaceSenate$Trial", "allAlike", "()Z"⟩, prog_10_method_13_code, 2, some .boolean), (⟨"FaceSenateModel", "areAlike", "()Z"⟩, prog_12_method_102_code, 2, some .boolean)], [(⟨"FaceSenate$Trial", "keepFaces", "(I)V"⟩, prog_10_method_14_code, 2, none), (⟨"FaceSenate$Trial", "unlikeKept", "(I)I"⟩, prog_10_method_16_code, 4, some .int), (⟨"FaceSenate", "turn", "(IIII)I"⟩, prog_1_method_42_code, 9, some .int), (⟨"FaceSenateModel", "power", "(II)I"⟩, prog_12_method_46_code, 4, some .int), (⟨"FaceSenateModel", "reportByTurns", "(II)I"⟩, prog_12_method_108_code, 5, some .int), (⟨"FaceSenate", "goOnWith", "(II)V"⟩, prog_1_method_45_code, 4, none), (⟨"FaceSenateModel", "offBehind", "(II)I"⟩, prog_12_method_111_code, 5, some .int), (⟨"FaceSenate", "commonDivisor", "(II)I"⟩, prog_1_method_47_code, 4, some .int), (⟨"FaceSenate", "power", "(II)I"⟩, prog_1_method_48_code, 4, some .int), (⟨"FaceSenateModel", "divisor", "(II)I"⟩, prog_12_method_45_code, 5, some .int), (⟨"FaceSenate$Looks", "tell", "(IIIZI)I"⟩, prog_4_method_3_code, 6, some .int), (⟨"FaceSenate$Looks", "takeBack", "(II)Z"⟩, prog_4_method_4_code, 3, some .boolean), (⟨"FaceSenate", "fittingNews", "(I)I"⟩, prog_1_method_54_code, 5, some .int), (⟨"FaceSenateModel", "doesFit", "(II)Z"⟩, prog_12_method_118_code, 5, some .boolean), (⟨"FaceSenate", "facesThen", "(II)V"⟩, prog_1_method_57_code, 4, none), (⟨"FaceSenate", "mostLeft", "(II)I"⟩, prog_1_method_58_code, 6, some .int)], [(⟨"FaceSenateModel", "mostLike", "(III)I"⟩, prog_12_method_120_code, 7, some .int), (⟨"FaceSenate$Shelf", "put", "(ILFaceSenate$Sitting;)V"⟩, prog_7_method_3_code, 4, none), (⟨"FaceSenate$Shelf", "give", "(ILFaceSenate$Sitting;)Z"⟩, prog_7_method_4_code, 4, some .boolean), (⟨"FaceSenate$Tape", "toFirst", "()V"⟩, prog_9_method_3_code, 1, none), (⟨"FaceSenate$Reader", "line", "(Z)Z"⟩, prog_6_method_3_code, 2, some .boolean), (⟨"FaceSenateModel", "sign", "(I)I"⟩, prog_12_method_2_code, 2, some .int), (⟨"FaceSenateModel", "isLetter", "(I)Z"⟩, prog_12_method_3_code, 1, some .boolean), (⟨"FaceSenateModel", "isKept", "(J)Z"⟩, prog_12_method_7_code, 3, some .boolean), (⟨"FaceSenateModel", "isDigit", "(I)Z"⟩, prog_12_method_4_code, 1, some .boolean), (⟨"FaceSenateModel", "isSign", "(I)Z"⟩, prog_12_method_8_code, 1, some .boolean), (⟨"FaceSenateModel", "isFull", "()Z"⟩, prog_12_method_18_code, 1, some .boolean), (⟨"FaceSenateModel", "misplaced", "()V"⟩, prog_12_method_12_code, 1, none), (⟨"FaceSenateModel", "numeral", "(II)I"⟩, prog_12_method_14_code, 4, some .int), (⟨"FaceSenateModel", "after", "(JII)I"⟩, prog_12_method_15_code, 5, some .int), (⟨"FaceSenateModel", "readDistrict", "()V"⟩, prog_12_method_25_code, 2, none), (⟨"FaceSenateModel", "readMember", "()V"⟩, prog_12_method_27_code, 2, none)], [(⟨"FaceSenateModel", "readRule", "(I)V"⟩, prog_12_method_28_code, 2, none), (⟨"FaceSenateModel", "isSignHere", "(I)Z"⟩, prog_12_method_10_code, 2, some .boolean), (⟨"FaceSenateModel", "must", "(Z)V"⟩, prog_12_method_13_code, 2, none), (⟨"FaceSenate$Trial", "arrange", "()V"⟩, prog_10_method_3_code, 5, none), (⟨"FaceSenate$Formula", "worth", "([I)I"⟩, prog_3_method_4_code, 5, some .int), (⟨"FaceSenate", "within", "(II)I"⟩, prog_1_method_68_code, 2, some .int), (⟨"FaceSenateModel", "comes", "(I)I"⟩, prog_12_method_39_code, 5, some .int), (⟨"FaceSenateModel", "plain", "(I)I"⟩, prog_12_method_44_code, 1, some .int), (⟨"FaceSenate$Shelf", "dropFirst", "()V"⟩, prog_7_method_5_code, 1, none), (⟨"FaceSenate$Trial", "nextFace", "(LFaceSenate$Plan;I)I"⟩, prog_10_method_9_code, 3, some .int), (⟨"FaceSenate$Trial", "besideAny", "(I)I"⟩, prog_10_method_6_code, 4, some .int), (⟨"FaceSenateModel", "lookOf", "(I)I"⟩, prog_12_method_59_code, 3, some .int), (⟨"FaceSenate$Trial", "takeKept", "(I)V"⟩, prog_10_method_15_code, 2, none), (⟨"FaceSenate$Looks", "deepest", "(I)I"⟩, prog_4_method_6_code, 4, some .int), (⟨"FaceSenate", "allAreSo", "(III)Z"⟩, prog_1_method_55_code, 5, some .boolean), (⟨"FaceSenateModel", "faceBy", "(III)I"⟩, prog_12_method_117_code, 5, some .int)], [(⟨"FaceSenate$Tape", "toNext", "()V"⟩, prog_9_method_4_code, 2, none), (⟨"FaceSenate$Reader", "hallLine", "()Z"⟩, prog_6_method_4_code, 1, some .boolean), (⟨"FaceSenate$Reader", "refuse", "()Z"⟩, prog_6_method_21_code, 1, some .boolean), (⟨"FaceSenate$Reader", "districtLine", "()Z"⟩, prog_6_method_5_code, 2, some .boolean), (⟨"FaceSenate$Reader", "memberLine", "()Z"⟩, prog_6_method_6_code, 2, some .boolean), (⟨"FaceSenate$Reader", "isUntold", "(LFaceSenate$Formula;)Z"⟩, prog_6_method_12_code, 2, some .boolean), (⟨"FaceSenate$Reader", "level", "(LFaceSenate$Formula;II)Z"⟩, prog_6_method_13_code, 7, some .boolean), (⟨"FaceSenate$Reader", "skip", "(I)Z"⟩, prog_6_method_20_code, 2, some .boolean), (⟨"FaceSenate$Reader", "toothLine", "()Z"⟩, prog_6_method_10_code, 1, some .boolean), (⟨"FaceSenate$Reader", "drawLine", "()Z"⟩, prog_6_method_11_code, 1, some .boolean), (⟨"FaceSenateModel", "isWord", "(J)Z"⟩, prog_12_method_11_code, 3, some .boolean), (⟨"FaceSenateModel", "fails", "(II)V"⟩, prog_12_method_5_code, 3, none), (⟨"FaceSenateModel", "districtHere", "()I"⟩, prog_12_method_21_code, 1, some .int), (⟨"FaceSenateModel", "fresh", "(I)J"⟩, prog_12_method_22_code, 4, some .long), (⟨"FaceSenateModel", "here", "([JII)I"⟩, prog_12_method_20_code, 5, some .int), (⟨"FaceSenateModel", "known", "(I)I"⟩, prog_12_method_23_code, 2, some .int)], [(⟨"FaceSenateModel", "passes", "(J)Z"⟩, prog_12_method_24_code, 4, some .boolean), (⟨"FaceSenateModel", "readSeat", "()I"⟩, prog_12_method_26_code, 6, some .int), (⟨"FaceSenateModel", "e", "()V"⟩, prog_12_method_31_code, 2, none), (⟨"FaceSenate$Trial", "areBeside", "(II)Z"⟩, prog_10_method_4_code, 3, some .boolean), (⟨"FaceSenate$Formula", "operand", "(I[I)I"⟩, prog_3_method_5_code, 2, some .int), (⟨"FaceSenate$Formula", "joined", "(III)I"⟩, prog_3_method_6_code, 3, some .int), (⟨"FaceSenateModel", "asked", "(II)I"⟩, prog_12_method_38_code, 3, some .int), (⟨"FaceSenateModel", "two", "(III)I"⟩, prog_12_method_37_code, 3, some .int), (⟨"FaceSenate$Looks", "counts", "(II)Z"⟩, prog_4_method_5_code, 3, some .boolean), (⟨"FaceSenate$Looks", "areSo", "(IILFaceSenate$Sitting;)Z"⟩, prog_4_method_7_code, 5, some .boolean), (⟨"FaceSenate$Tape", "isAt", "(I)Z"⟩, prog_9_method_7_code, 2, some .boolean), (⟨"FaceSenate$Tape", "isLetter", "(I)Z"⟩, prog_9_method_8_code, 1, some .boolean), (⟨"FaceSenate$Tape", "readWord", "()V"⟩, prog_9_method_5_code, 2, none), (⟨"FaceSenate$Tape", "isDigit", "(I)Z"⟩, prog_9_method_9_code, 1, some .boolean), (⟨"FaceSenate$Tape", "readNumber", "()V"⟩, prog_9_method_6_code, 2, none), (⟨"java/lang/String", "indexOf", "(I)I"⟩, prog_16_method_79_code, 2, some .int)], [(⟨"FaceSenate$Reader", "isNumber", "(II)Z"⟩, prog_6_method_19_code, 3, some .boolean), (⟨"FaceSenate$Reader", "refuseBy", "(I)Z"⟩, prog_6_method_22_code, 2, some .boolean), (⟨"FaceSenate$Reader", "isNewName", "([JI)Z"⟩, prog_6_method_17_code, 3, some .boolean), (⟨"FaceSenate$Reader", "homeOf", "(I)Z"⟩, prog_6_method_7_code, 3, some .boolean), (⟨"FaceSenate$Reader", "stoicOf", "(I)Z"⟩, prog_6_method_8_code, 2, some .boolean), (⟨"FaceSenate$Reader", "seatOf", "(I)Z"⟩, prog_6_method_9_code, 5, some .boolean), (⟨"FaceSenate$Reader", "unit", "(LFaceSenate$Formula;I)Z"⟩, prog_6_method_15_code, 4, some .boolean), (⟨"FaceSenate$Reader", "negation", "(LFaceSenate$Formula;I)Z"⟩, prog_6_method_14_code, 3, some .boolean), (⟨"FaceSenate$Reader", "operatorOf", "(II)I"⟩, prog_6_method_16_code, 2, some .int), (⟨"FaceSenateModel", "pushE", "(II)V"⟩, prog_12_method_30_code, 3, none), (⟨"FaceSenateModel", "unit", "()Z"⟩, prog_12_method_33_code, 7, some .boolean), (⟨"FaceSenateModel", "behindUnit", "()Z"⟩, prog_12_method_36_code, 2, some .boolean), (⟨"java/lang/String", "indexOf", "(II)I"⟩, prog_16_method_80_code, 3, some .int), (⟨"FaceSenate$Reader", "placeOfName", "([JI)I"⟩, prog_6_method_18_code, 4, some .int), (⟨"FaceSenateModel", "wordHere", "()I"⟩, prog_12_method_32_code, 1, some .int), (⟨"FaceSenateModel", "emit", "(II)V"⟩, prog_12_method_29_code, 3, none)], [(⟨"FaceSenateModel", "rankHere", "()I"⟩, prog_12_method_34_code, 1, some .int), (⟨"FaceSenateModel", "isCompared", "()Z"⟩, prog_12_method_35_code, 2, some .boolean), (⟨"java/lang/StringLatin1", "indexOf", "([BIII)I"⟩, prog_17_method_22_code, 4, some .int), (⟨"java/lang/StringLatin1", "canEncode", "(I)Z"⟩, prog_17_method_4_code, 1, some .boolean), (⟨"java/lang/StringLatin1", "indexOfChar", "([BIII)I"⟩, prog_17_method_23_code, 6, some .int)]]
noncomputable def fx_mst (c : Nat) : Option fx_S := match fx_nth fx_msl (Nat.div c 16) with
  | none => none
  | some r => fx_nth r (Nat.mod c 16)
def fx_mol : List (List (Nat × (Nat × (Nat × (Nat × Nat))))) := [[(9, 133, 132, 0, 109), (4, 141, 140, 0, 110), (7, 147, 146, 0, 111), (11, 153, 151, 152, 112), (11, 157, 155, 156, 112), (11, 163, 161, 162, 112), (11, 167, 165, 166, 112), (12, 170, 169, 0, 113), (11, 173, 172, 0, 112), (13, 178, 177, 0, 114), (7, 200, 199, 0, 111), (3, 239, 238, 0, 116), (1, 245, 244, 0, 117), (3, 266, 264, 265, 116), (16, 269, 268, 0, 118), (1, 273, 271, 272, 117)], [(1, 277, 275, 276, 117), (6, 394, 393, 0, 119), (8, 432, 431, 0, 120), (0, 476, 475, 0, 121), (5, 482, 481, 0, 122), (2, 516, 515, 0, 124), (6, 544, 542, 543, 119), (10, 1240, 1239, 0, 126), (10, 1245, 1244, 41, 126), (10, 1249, 1248, 42, 126), (10, 1253, 1252, 43, 126), (9, 600, 598, 599, 109), (10, 1970, 1968, 1969, 126), (9, 608, 606, 607, 109), (10, 1974, 1972, 1973, 126), (9, 612, 610, 611, 109)], [(10, 1477, 1475, 1476, 126), (9, 804, 802, 803, 109), (10, 1633, 1631, 1632, 126), (9, 808, 806, 807, 109), (10, 1637, 1635, 1636, 126), (9, 859, 857, 858, 109), (10, 1681, 1679, 1680, 126), (9, 880, 878, 879, 109), (10, 1696, 1694, 1695, 126), (9, 897, 895, 896, 109), (10, 1712, 1710, 1711, 126), (9, 906, 904, 905, 109), (10, 1724, 1722, 1723, 126), (9, 915, 913, 914, 109), (10, 1736, 1734, 1735, 126), (9, 950, 948, 949, 109)], [(10, 1756, 1754, 1755, 126), (9, 957, 955, 956, 109), (10, 1763, 1761, 1762, 126), (9, 961, 959, 960, 109), (10, 1767, 1765, 1766, 126), (9, 977, 975, 976, 109), (10, 1779, 1777, 1778, 126), (9, 981, 979, 980, 109), (10, 1783, 1781, 1782, 126), (9, 993, 991, 992, 109), (10, 1791, 1789, 1790, 126), (9, 1001, 999, 1000, 109), (10, 1795, 1793, 1794, 126), (9, 1008, 1006, 1007, 109), (10, 1803, 1801, 1802, 126), (9, 1018, 1016, 1017, 109)], [(10, 1811, 1809, 1810, 126), (9, 1022, 1020, 1021, 109), (10, 1819, 1817, 1818, 126), (9, 1045, 1043, 1044, 109), (10, 1827, 1825, 1826, 126), (9, 1057, 1055, 1056, 109), (10, 1850, 1848, 1849, 126), (9, 1066, 1064, 1065, 109), (10, 1858, 1856, 1857, 126), (9, 1078, 1076, 1077, 109), (10, 1862, 1860, 1861, 126), (9, 1082, 1080, 1081, 109), (10, 1866, 1864, 1865, 126), (9, 1086, 1084, 1085, 109), (10, 1831, 1829, 1830, 126), (9, 1095, 1093, 1094, 109)], [(10, 1870, 1868, 1869, 126), (9, 1103, 1101, 1102, 109), (10, 1878, 1876, 1877, 126), (9, 1107, 1105, 1106, 109), (10, 1882, 1880, 1881, 126), (9, 1074, 1072, 1073, 109), (10, 1732, 1730, 1731, 126), (9, 1127, 1125, 1126, 109), (10, 1894, 1892, 1893, 126), (9, 1139, 1137, 1138, 109), (10, 1905, 1903, 1904, 126), (9, 1147, 1145, 1146, 109), (10, 1909, 1907, 1908, 126), (9, 1151, 1149, 1150, 109), (10, 1917, 1915, 1916, 126), (9, 1119, 1117, 1118, 109)], [(10, 1886, 1884, 1885, 126), (9, 1123, 1121, 1122, 109), (10, 1890, 1888, 1889, 126), (9, 1161, 1159, 1160, 109), (10, 1815, 1813, 1814, 126), (9, 1165, 1163, 1164, 109), (10, 1924, 1922, 1923, 126), (9, 1173, 1171, 1172, 109), (10, 1928, 1926, 1927, 126), (9, 1181, 1179, 1180, 109), (10, 1932, 1930, 1931, 126), (9, 1186, 1184, 1185, 109), (10, 1937, 1935, 1936, 126), (9, 1211, 1209, 1210, 109), (10, 1949, 1947, 1948, 126), (9, 1225, 1223, 1224, 109)], [(10, 1958, 1956, 1957, 126), (9, 1230, 1228, 1229, 109), (10, 1962, 1960, 1961, 126), (9, 1235, 1233, 1234, 109), (10, 1966, 1964, 1965, 126), (7, 604, 602, 603, 111), (4, 616, 614, 615, 110), (8, 787, 785, 786, 120), (0, 792, 790, 791, 121), (5, 796, 794, 795, 122), (2, 800, 798, 799, 124), (10, 1481, 1480, 44, 126), (10, 1525, 1524, 46, 126), (10, 1529, 1528, 47, 126), (9, 812, 811, 22, 109), (8, 816, 814, 815, 120)], [(6, 836, 834, 835, 119), (8, 840, 838, 839, 120), (10, 1641, 1640, 73, 126), (10, 1648, 1647, 74, 126), (10, 1659, 1658, 76, 126), (10, 1666, 1665, 77, 126), (3, 863, 861, 862, 116), (3, 867, 865, 866, 116), (10, 1644, 1643, 0, 126), (10, 1685, 1684, 80, 126), (10, 1689, 1688, 81, 126), (9, 884, 883, 24, 109), (6, 893, 891, 892, 119), (10, 1700, 1699, 82, 126), (10, 1708, 1707, 84, 126), (6, 901, 899, 900, 119)], [(10, 1716, 1715, 85, 126), (3, 910, 908, 909, 116), (10, 1728, 1727, 87, 126), (0, 919, 917, 918, 121), (8, 932, 930, 931, 120), (8, 945, 943, 944, 120), (6, 820, 818, 819, 119), (10, 1740, 1739, 88, 126), (10, 1744, 1743, 89, 126), (9, 953, 952, 0, 109), (10, 1759, 1758, 0, 126), (9, 965, 964, 26, 109), (6, 973, 971, 972, 119), (10, 1771, 1770, 92, 126), (10, 1775, 1774, 93, 126), (9, 969, 968, 27, 109)], [(0, 985, 983, 984, 121), (10, 1787, 1786, 94, 126), (0, 997, 995, 996, 121), (9, 1004, 1003, 0, 109), (10, 1799, 1798, 95, 126), (15, 872, 871, 0, 128), (9, 1013, 1012, 28, 109), (10, 1720, 1719, 86, 126), (10, 1692, 1691, 0, 126), (10, 1807, 1806, 96, 126), (9, 1026, 1025, 29, 109), (9, 1034, 1033, 30, 109), (8, 1038, 1036, 1037, 120), (9, 1041, 1040, 0, 109), (10, 1823, 1822, 97, 126), (10, 1652, 1651, 75, 126)], [(6, 1049, 1047, 1048, 119), (9, 1053, 1052, 31, 109), (10, 1662, 1661, 0, 126), (3, 888, 886, 887, 116), (9, 1061, 1060, 32, 109), (10, 1704, 1703, 83, 126), (10, 1854, 1853, 101, 126), (9, 1070, 1069, 33, 109), (10, 1838, 1837, 98, 126), (10, 1842, 1841, 99, 126), (10, 1748, 1747, 90, 126), (10, 1846, 1845, 100, 126), (10, 1834, 1833, 0, 126), (8, 1090, 1088, 1089, 120), (8, 1099, 1097, 1098, 120), (10, 1874, 1873, 102, 126)], [(8, 1111, 1109, 1110, 120), (8, 1115, 1113, 1114, 120), (9, 1131, 1130, 34, 109), (10, 1897, 1896, 0, 126), (10, 1901, 1900, 103, 126), (9, 1143, 1142, 35, 109), (10, 1913, 1912, 104, 126), (9, 1154, 1153, 0, 109), (9, 1157, 1156, 0, 109), (10, 1920, 1919, 0, 126), (2, 1169, 1167, 1168, 124), (2, 1177, 1175, 1176, 124), (9, 1190, 1189, 36, 109), (10, 1941, 1940, 105, 126), (9, 1215, 1214, 39, 109), (9, 1220, 1219, 40, 109)], [(10, 1954, 1953, 107, 126), (5, 928, 926, 927, 122), (5, 989, 987, 988, 122), (7, 621, 619, 620, 111), (4, 705, 704, 3, 110), (10, 1485, 1484, 45, 126), (10, 1488, 1487, 0, 126), (10, 1491, 1490, 0, 126), (10, 1518, 1517, 0, 126), (10, 1521, 1520, 0, 126), (10, 1533, 1532, 48, 126), (10, 1541, 1540, 50, 126), (10, 1549, 1548, 52, 126), (10, 1553, 1552, 53, 126), (10, 1561, 1560, 55, 126), (10, 1577, 1576, 59, 126)], [(10, 1593, 1592, 63, 126), (10, 1609, 1608, 67, 126), (10, 1557, 1556, 54, 126), (8, 824, 822, 823, 120), (1, 844, 842, 843, 117), (9, 853, 852, 0, 109), (10, 1670, 1669, 78, 126), (10, 1655, 1654, 0, 126), (5, 923, 921, 922, 122), (8, 936, 935, 25, 120), (8, 1030, 1028, 1029, 120), (10, 1752, 1751, 91, 126), (8, 1135, 1133, 1134, 120), (2, 1194, 1192, 1193, 124), (9, 1203, 1202, 38, 109), (10, 1945, 1944, 106, 126)], [(7, 625, 623, 624, 111), (4, 709, 708, 4, 110), (4, 718, 717, 6, 110), (4, 730, 729, 9, 110), (4, 742, 741, 12, 110), (4, 758, 757, 16, 110), (4, 763, 762, 17, 110), (4, 726, 725, 8, 110), (4, 779, 778, 20, 110), (4, 783, 782, 21, 110), (10, 1537, 1536, 49, 126), (10, 1545, 1544, 51, 126), (10, 1565, 1564, 56, 126), (10, 1573, 1572, 58, 126), (10, 1569, 1568, 57, 126), (10, 1581, 1580, 60, 126)], [(10, 1585, 1584, 61, 126), (10, 1589, 1588, 62, 126), (10, 1597, 1596, 64, 126), (8, 829, 828, 23, 120), (1, 847, 846, 0, 117), (1, 850, 849, 0, 117), (10, 1674, 1673, 79, 126), (10, 1677, 1676, 0, 126), (2, 1198, 1197, 37, 124), (2, 1207, 1205, 1206, 124), (7, 629, 628, 0, 111), (7, 632, 631, 0, 111), (7, 636, 635, 1, 111), (7, 639, 638, 0, 111), (7, 643, 642, 2, 111), (11, 648, 646, 647, 112)], [(4, 714, 713, 5, 110), (4, 722, 721, 7, 110), (4, 734, 733, 10, 110), (4, 746, 745, 13, 110), (4, 750, 749, 14, 110), (4, 754, 753, 15, 110), (4, 767, 766, 18, 110), (4, 772, 771, 19, 110), (4, 775, 774, 0, 110), (10, 1601, 1600, 65, 126), (10, 1605, 1604, 66, 126), (10, 1621, 1620, 70, 126), (11, 652, 650, 651, 112), (4, 738, 737, 11, 110), (10, 1613, 1612, 68, 126), (10, 1617, 1616, 69, 126)], [(10, 1625, 1624, 71, 126), (10, 1629, 1628, 72, 126), (12, 656, 655, 0, 113), (12, 659, 658, 0, 113), (12, 666, 665, 0, 113)]]
noncomputable def fx_mo (c : Nat) : Option (Nat × (Nat × (Nat × (Nat × Nat)))) := match fx_nth fx_mol (Nat.div c 16) with
  | none => none
  | some r => fx_nth r (Nat.mod c 16)
end
section
noncomputable def fx_wq (n : Nat) (w : Cond) : Bool := match fx_nth lw_tbl n with
  | some u => decide (u = w) && goodWord u
  | none => false
theorem fx_wq_ok {n : Nat} {w : Cond} (h : fx_wq n w = true) : w ∈ fx_tb := by
  unfold fx_wq at h
  cases hn : fx_nth lw_tbl n with
  | none => rw [hn] at h; cases h
  | some u =>
    rw [hn] at h
    obtain ⟨h1, h2⟩ := fx_and h
    have := of_decide_eq_true h1
    subst this
    rw [fx_nth_eq] at hn
    exact fx_tbi (List.mem_of_getElem? hn) h2
noncomputable def fx_has {α : Type} (l : List α) (f : α → Bool) : Bool := List.rec (motive := fun _ => Bool) false (fun a _ ih => f a || ih) l
theorem fx_has_ok {α : Type} {f : α → Bool} : ∀ {l : List α}, fx_has l f = true → ∃ a ∈ l, f a = true := by
  intro l
  induction l with
  | nil => intro h; cases h
  | cons a l ih =>
    intro h
    rcases fx_or (a := f a) (b := fx_has l f) h with h | h
    · exact ⟨a, List.mem_cons_self, h⟩
    · obtain ⟨b, h1, h2⟩ := ih h
      exact ⟨b, List.mem_cons_of_mem _ h1, h2⟩
theorem fx_all_ok {α : Type} {f : α → Bool} : ∀ {l : List α}, fx_all l f = true → ∀ a ∈ l, f a = true := by
  intro l
  induction l with
  | nil => intro _ a ha; cases ha
  | cons b l ih =>
    intro h a ha
    obtain ⟨h1, h2⟩ := fx_and (a := f b) (b := fx_all l f) h
    rcases List.mem_cons.mp ha with rfl | ha
    · exact h1
    · exact ih h2 a ha
-- the tables of words
noncomputable def fx_ftB (q : Nat × (Nat × (Nat × (Nat × Nat)))) : Bool := match fx_nth fx_cl q.2.2.1 with
  | none => false
  | some (_, T, N) => Nat.blt q.2.2.2.1 N && fx_wq q.2.2.2.2 (Cond.fieldLink (fx_cn q.1) q.2.1 (T q.2.2.2.1).1 (T q.2.2.2.1).2.1 (T q.2.2.2.1).2.2.1)
set_option maxRecDepth 100000 in
theorem fx_ft_all : fx_all fx_ft fx_ftB = true := by decide +kernel
theorem fx_ft_ok {o idx ci k : Nat} (h : fx_has fx_ft (fun q => Nat.beq q.1 o && (Nat.beq q.2.1 idx && (Nat.beq q.2.2.1 ci && Nat.beq q.2.2.2.1 k))) = true) : fx_fo (fx_cn o) idx ci k := by
  obtain ⟨⟨o', i', c', k', n'⟩, h1, h2⟩ := fx_has_ok h
  obtain ⟨e1, h2⟩ := fx_and h2
  obtain ⟨e2, h2⟩ := fx_and h2
  obtain ⟨e3, e4⟩ := fx_and h2
  have e1 := fx_beq e1
  have e2 := fx_beq e2
  have e3 := fx_beq e3
  have e4 := fx_beq e4
  simp only at e1 e2 e3 e4
  subst e1; subst e2; subst e3; subst e4
  have h3 := fx_all_ok fx_ft_all _ h1
  unfold fx_ftB at h3
  cases hc : fx_nth fx_cl c' with
  | none => simp only [hc] at h3; cases h3
  | some q =>
    obtain ⟨C, T, N⟩ := q
    simp only [hc] at h3
    obtain ⟨h4, h5⟩ := fx_and h3
    rw [fx_nth_eq] at hc
    exact ⟨C, T, N, hc, fx_blt h4, fx_wq_ok h5⟩
noncomputable def fx_ctB (q : Nat × (Nat × (Nat × Nat))) : Bool := fx_wq q.2.2.2 (Cond.constant (fx_cn q.1) q.2.1 (Int32.ofNat q.2.2.1))
set_option maxRecDepth 100000 in
theorem fx_ct_all : fx_all fx_ct fx_ctB = true := by decide +kernel
noncomputable def fx_ltB (q : Nat × (Nat × (Nat × Nat))) : Bool := fx_wq q.2.2.2 (Cond.constantLong (fx_cn q.1) q.2.1 (Int64.ofNat q.2.2.1))
set_option maxRecDepth 100000 in
theorem fx_lt_all : fx_all fx_lt fx_ltB = true := by decide +kernel
theorem fx_eq3 {l : List (Nat × (Nat × (Nat × Nat)))} {a b c : Nat} (h : fx_has l (fun q => Nat.beq q.1 a && (Nat.beq q.2.1 b && Nat.beq q.2.2.1 c)) = true) : ∃ n, (a, b, c, n) ∈ l := by
  obtain ⟨⟨o', i', c', n'⟩, h1, h2⟩ := fx_has_ok h
  obtain ⟨e1, h2⟩ := fx_and h2
  obtain ⟨e2, e3⟩ := fx_and h2
  have e1 := fx_beq e1
  have e2 := fx_beq e2
  have e3 := fx_beq e3
  simp only at e1 e2 e3
  subst e1; subst e2; subst e3
  exact ⟨n', h1⟩
theorem fx_eq2 {l : List (Nat × (Nat × Nat))} {a b : Nat} (h : fx_has l (fun q => Nat.beq q.1 a && Nat.beq q.2.1 b) = true) : ∃ n, (a, b, n) ∈ l := by
  obtain ⟨⟨o', i', n'⟩, h1, h2⟩ := fx_has_ok h
  obtain ⟨e1, e2⟩ := fx_and h2
  have e1 := fx_beq e1
  have e2 := fx_beq e2
  simp only at e1 e2
  subst e1; subst e2
  exact ⟨n', h1⟩
noncomputable def fx_ntB (q : Nat × (Nat × (Nat × Nat))) : Bool := match fx_nth fx_cl q.2.2.1 with
  | none => false
  | some (C, _, _) => fx_wq q.2.2.2 (Cond.classLink (fx_cn q.1) q.2.1 C)
set_option maxRecDepth 100000 in
theorem fx_nt_all : fx_all fx_nt fx_ntB = true := by decide +kernel
noncomputable def fx_otB (q : Nat × (Nat × Nat)) : Bool := fx_wq q.2.2 (Cond.methodLink (fx_cn q.1) q.2.1 Lib.objectInit)
set_option maxRecDepth 100000 in
theorem fx_ot_all : fx_all fx_ot fx_otB = true := by decide +kernel
noncomputable def fx_atB (q : Nat × (Nat × Nat)) : Bool := fx_wq q.2.2 (Cond.methodLink (fx_cn q.1) q.2.1 arraycopyName)
set_option maxRecDepth 100000 in
theorem fx_at_all : fx_all fx_at9 fx_atB = true := by decide +kernel
noncomputable def fx_xtB (q : Nat × (Nat × (Nat × Nat))) : Bool := fx_wq q.2.2.2 (fx_if (Nat.beq q.2.2.1 0) (Cond.fieldLink (fx_cn q.1) q.2.1 "java/lang/String" "value" "[B") (Cond.fieldLink (fx_cn q.1) q.2.1 "java/lang/String" "coder" "B"))
set_option maxRecDepth 100000 in
theorem fx_xt_all : fx_all fx_xt fx_xtB = true := by decide +kernel
noncomputable def fx_ztB (q : Nat × (Nat × (Nat × Nat))) : Bool := fx_wq q.2.2.2 (fx_if (Nat.beq q.2.2.1 0) (Cond.fieldLink (fx_cn q.1) q.2.1 "java/lang/String" "COMPACT_STRINGS" "Z") (Cond.fieldLink (fx_cn q.1) q.2.1 "jdk/internal/util/Preconditions" "SIOOBE_FORMATTER" "Ljava/util/function/BiFunction;"))
set_option maxRecDepth 100000 in
theorem fx_zt_all : fx_all fx_zt fx_ztB = true := by decide +kernel
noncomputable def fx_mxB (q : Nat × (Nat × (Nat × Nat))) : Bool := fx_wq q.2.2.2 (fx_if (Nat.beq q.2.2.1 0) (Cond.methodLink (fx_cn q.1) q.2.1 Lib.Math.max.name) (fx_if (Nat.beq q.2.2.1 1) (Cond.methodLink (fx_cn q.1) q.2.1 Lib.Math.min.name) (Cond.methodLink (fx_cn q.1) q.2.1 Lib.Math.abs.name)))
set_option maxRecDepth 100000 in
theorem fx_mx_all : fx_all fx_mx fx_mxB = true := by decide +kernel
-- calls
noncomputable def fx_tcB (t : Nat) (y : MethodName) : Bool := fx_if (Nat.beq t 99) (decide (y.cls = "java/lang/String")) (Nat.ble 2 t && (match fx_nth fx_cl (t - 2) with
  | some (C, _, _) => decide (C = y.cls)
  | none => false))
noncomputable def fx_ktB (q : Nat × (Nat × (Nat × (Nat × Nat)))) : Bool := match fx_mst q.2.2.2.1 with
  | none => false
  | some (y, _, _, rt) => match fx_mt q.2.2.2.1 with
    | none => false
    | some M => match fx_mo q.2.2.2.1 with
      | none => false
      | some (_, _, p2, p3, _) =>
        fx_if (Nat.beq q.2.1 0) ((fx_wq q.2.2.2.2 (Cond.methodLink (fx_cn q.1) q.2.2.1 y) && fx_wq p2 (Cond.instanceMethod y)) && (fx_wq p3 (Cond.selects y.cls y y) && fx_tcB M.2.2.2.2.1 y))
        (fx_if (Nat.beq q.2.1 1) ((fx_wq q.2.2.2.2 (Cond.methodLink (fx_cn q.1) q.2.2.1 y) && fx_wq p2 (Cond.instanceMethod y)) && (decide (y.name = "<init>") && (decide (rt = none) && Nat.beq M.2.2.2.2.1 1)))
        (fx_if (Nat.beq q.2.1 2) ((fx_wq q.2.2.2.2 (Cond.methodLink (fx_cn q.1) q.2.2.1 y) && fx_wq p2 (Cond.static y)) && Nat.beq M.2.2.2.2.1 0)
        (fx_if (Nat.beq q.2.1 3) ((decide ((fx_cn q.1, q.2.2.1, y, "FaceSenate") ∈ fx_nst) && fx_wq p2 (Cond.instanceMethod y)) && (decide (y.name = "<init>") && (decide (rt = none) && Nat.beq M.2.2.2.2.1 1)))
        (Nat.beq q.2.1 4 && ((decide ((fx_cn q.1, q.2.2.1, y, "FaceSenate") ∈ fx_nst) && fx_wq p2 (Cond.static y)) && Nat.beq M.2.2.2.2.1 0)))))
set_option maxRecDepth 100000 in
theorem fx_kt_all : fx_all fx_kt fx_ktB = true := by decide +kernel
end
section
noncomputable def fx_pfB (own : String) (ini : Bool) (ci k t : Nat) : Bool := match fx_nth fx_cl ci with
  | none => false
  | some (_, T, N) => (Nat.blt k N && (match parseFieldDescriptor (T k).2.2.1 with
    | some .int => Nat.beq t 0
    | some .boolean => Nat.beq t 2
    | some .long => Nat.beq t 3
    | some (.object _) => Nat.beq t 4
    | some (.array _) => Nat.beq t 4
    | _ => false)) && (!(T k).2.2.2 || (ini && decide ((T k).1 = own)))
theorem fx_pfB_ok {own : String} {ini : Bool} {ci k t : Nat} (h : fx_pfB own ini ci k t = true) : fx_pf own ini ci k t := by
  unfold fx_pfB at h
  cases hc : fx_nth fx_cl ci with
  | none => simp only [hc] at h; cases h
  | some q =>
    obtain ⟨C, T, N⟩ := q
    simp only [hc] at h
    obtain ⟨h1, h2⟩ := fx_and h
    obtain ⟨h3, h4⟩ := fx_and h1
    rw [fx_nth_eq] at hc
    have hfin : (T k).2.2.2 = true → ini = true ∧ (T k).1 = own := fun q => by
      rw [q] at h2
      obtain ⟨g1, g2⟩ := fx_and (a := ini) (b := decide ((T k).1 = own)) h2
      exact ⟨g1, of_decide_eq_true g2⟩
    cases hp : parseFieldDescriptor (T k).2.2.1 with
    | none => rw [hp] at h4; cases h4
    | some ty =>
      rw [hp] at h4
      refine ⟨C, T, N, ty, hc, fx_blt h3, hp, ?_, hfin⟩
      cases ty with
      | int => exact Or.inl ⟨fx_beq h4, rfl⟩
      | boolean => exact Or.inr (Or.inl ⟨fx_beq h4, rfl⟩)
      | long => exact Or.inr (Or.inr (Or.inl ⟨fx_beq h4, rfl⟩))
      | object n => exact Or.inr (Or.inr (Or.inr ⟨fx_beq h4, Or.inl ⟨n, rfl⟩⟩))
      | array n => exact Or.inr (Or.inr (Or.inr ⟨fx_beq h4, Or.inr ⟨n, rfl⟩⟩))
      | _ => cases h4
noncomputable def fx_rkB (b : Nat) (rt : Option FieldType) : Bool := match rt with
  | none => Nat.beq b 0
  | some .int => Nat.beq b 1
  | some .boolean => Nat.beq b 2
  | some .long => Nat.beq b 3
  | some .char => Nat.beq b 4
  | some .byte => Nat.beq b 5
  | _ => false
theorem fx_rkB_ok {b : Nat} {rt : Option FieldType} (h : fx_rkB b rt = true) : fx_rk b rt := by
  rcases rt with _ | ty
  · exact Or.inl ⟨fx_beq h, rfl⟩
  · cases ty with
    | int => exact Or.inr (Or.inl ⟨fx_beq h, rfl⟩)
    | boolean => exact Or.inr (Or.inr (Or.inl ⟨fx_beq h, rfl⟩))
    | long => exact Or.inr (Or.inr (Or.inr (Or.inl ⟨fx_beq h, rfl⟩)))
    | char => exact Or.inr (Or.inr (Or.inr (Or.inr (Or.inl ⟨fx_beq h, rfl⟩))))
    | byte => exact Or.inr (Or.inr (Or.inr (Or.inr (Or.inr ⟨fx_beq h, rfl⟩))))
    | _ => cases h
theorem fx_kt_ok {o a b c : Nat} (h : fx_has fx_kt (fun q => Nat.beq q.1 o && (Nat.beq q.2.1 a && (Nat.beq q.2.2.1 b && Nat.beq q.2.2.2.1 c))) = true) : fx_ca fx_mst fx_mt (fx_cn o) a b c := by
  obtain ⟨⟨o', a', b', c', n'⟩, h1, h2⟩ := fx_has_ok h
  obtain ⟨e1, h2⟩ := fx_and h2
  obtain ⟨e2, h2⟩ := fx_and h2
  obtain ⟨e3, e4⟩ := fx_and h2
  have e1 := fx_beq e1
  have e2 := fx_beq e2
  have e3 := fx_beq e3
  have e4 := fx_beq e4
  simp only at e1 e2 e3 e4
  subst e1; subst e2; subst e3; subst e4
  have h3 := fx_all_ok fx_kt_all _ h1
  unfold fx_ktB at h3
  simp only at h3
  cases hs : fx_mst c' with
  | none => rw [hs] at h3; cases h3
  | some S =>
    obtain ⟨y, cc, nL, rt⟩ := S
    rw [hs] at h3
    simp only at h3
    cases hm : fx_mt c' with
    | none => rw [hm] at h3; cases h3
    | some M =>
      rw [hm] at h3
      simp only at h3
      cases ho : fx_mo c' with
      | none => rw [ho] at h3; cases h3
      | some O =>
        obtain ⟨p0, p1, p2, p3, p4⟩ := O
        rw [ho] at h3
        simp only at h3
        refine ⟨y, cc, nL, rt, M, hs, hm, ?_, ?_, ?_, ?_, ?_⟩
        · intro q
          subst q
          obtain ⟨g1, g2⟩ := fx_and (a := fx_wq n' (Cond.methodLink (fx_cn o') b' y) && fx_wq p2 (Cond.instanceMethod y)) (b := fx_wq p3 (Cond.selects y.cls y y) && fx_tcB M.2.2.2.2.1 y) h3
          obtain ⟨g3, g4⟩ := fx_and g1
          obtain ⟨g5, g6⟩ := fx_and g2
          refine ⟨fx_wq_ok g3, fx_wq_ok g4, fx_wq_ok g5, ?_⟩
          unfold fx_tcB at g6
          cases h9 : Nat.beq M.2.2.2.2.1 99 with
          | true =>
            rw [h9, fx_if_t] at g6
            exact Or.inr ⟨fx_beq h9, of_decide_eq_true g6⟩
          | false =>
            rw [h9, fx_if_f] at g6
            obtain ⟨g7, g8⟩ := fx_and g6
            cases hc : fx_nth fx_cl (M.2.2.2.2.1 - 2) with
            | none => rw [hc] at g8; cases g8
            | some Q =>
              obtain ⟨C, T, N⟩ := Q
              rw [hc] at g8
              have := of_decide_eq_true g8
              subst this
              rw [fx_nth_eq] at hc
              have g7 := fx_ble g7
              exact Or.inl ⟨M.2.2.2.2.1 - 2, T, N, by omega, fx_bnq h9, hc⟩
        · intro q
          subst q
          obtain ⟨g1, g2⟩ := fx_and (a := fx_wq n' (Cond.methodLink (fx_cn o') b' y) && fx_wq p2 (Cond.instanceMethod y)) (b := decide (y.name = "<init>") && (decide (rt = none) && Nat.beq M.2.2.2.2.1 1)) h3
          obtain ⟨g3, g4⟩ := fx_and g1
          obtain ⟨g5, g6⟩ := fx_and g2
          obtain ⟨g7, g8⟩ := fx_and g6
          exact ⟨fx_wq_ok g3, fx_wq_ok g4, of_decide_eq_true g5, of_decide_eq_true g7, fx_beq g8⟩
        · intro q
          subst q
          obtain ⟨g1, g2⟩ := fx_and (a := fx_wq n' (Cond.methodLink (fx_cn o') b' y) && fx_wq p2 (Cond.static y)) (b := Nat.beq M.2.2.2.2.1 0) h3
          obtain ⟨g3, g4⟩ := fx_and g1
          exact ⟨fx_wq_ok g3, fx_wq_ok g4, fx_beq g2⟩
        · intro q
          subst q
          obtain ⟨g1, g2⟩ := fx_and (a := decide ((fx_cn o', b', y, "FaceSenate") ∈ fx_nst) && fx_wq p2 (Cond.instanceMethod y)) (b := decide (y.name = "<init>") && (decide (rt = none) && Nat.beq M.2.2.2.2.1 1)) h3
          obtain ⟨g3, g4⟩ := fx_and g1
          obtain ⟨g5, g6⟩ := fx_and g2
          obtain ⟨g7, g8⟩ := fx_and g6
          exact ⟨of_decide_eq_true g3, fx_wq_ok g4, of_decide_eq_true g5, of_decide_eq_true g7, fx_beq g8⟩
        · intro q
          subst q
          obtain ⟨g1, g2⟩ := fx_and (a := decide ((fx_cn o', b', y, "FaceSenate") ∈ fx_nst) && fx_wq p2 (Cond.static y)) (b := Nat.beq M.2.2.2.2.1 0) h3
          obtain ⟨g3, g4⟩ := fx_and g1
          exact ⟨of_decide_eq_true g3, fx_wq_ok g4, fx_beq g2⟩
noncomputable def fx_kwB (o a b c : Nat) : Bool := fx_if (Nat.beq a 1) (decide ((Int8.ofInt (Int32.ofNat c).toInt).toInt32 = Int32.ofNat c)) (fx_if (Nat.beq a 2) (decide ((Int16.ofInt (Int32.ofNat c).toInt).toInt32 = Int32.ofNat c)) (fx_if (Nat.beq a 3 || Nat.beq a 4) (fx_has fx_ct (fun q => Nat.beq q.1 o && (Nat.beq q.2.1 b && Nat.beq q.2.2.1 c))) (fx_if (Nat.beq a 5) (Nat.blt c 2) (fx_if (Nat.beq a 6) (fx_has fx_lt (fun q => Nat.beq q.1 o && (Nat.beq q.2.1 b && Nat.beq q.2.2.1 c))) true))))
theorem fx_kwB_ok {o a b c : Nat} (h : fx_kwB o a b c = true) : fx_kw (fx_cn o) a b c := by
  refine ⟨fun q => ?_, fun q => ?_, fun q => ?_, fun q => ?_, fun q => ?_⟩
  · subst q; exact of_decide_eq_true h
  · subst q; exact of_decide_eq_true h
  · have h : fx_has fx_ct (fun q => Nat.beq q.1 o && (Nat.beq q.2.1 b && Nat.beq q.2.2.1 c)) = true := by
      rcases q with q | q <;> subst q <;> exact h
    obtain ⟨n, hn⟩ := fx_eq3 h
    exact fx_wq_ok (fx_all_ok fx_ct_all _ hn)
  · subst q; exact fx_blt h
  · subst q
    obtain ⟨n, hn⟩ := fx_eq3 (show fx_has fx_lt (fun q => Nat.beq q.1 o && (Nat.beq q.2.1 b && Nat.beq q.2.2.1 c)) = true from h)
    exact fx_wq_ok (fx_all_ok fx_lt_all _ hn)
noncomputable def fx_anB (o : Nat) (ini : Bool) (rt : Option FieldType) (nL kd a b c : Nat) : Bool :=
  fx_if (Nat.beq kd 0) ((!(Nat.beq b 0 || (Nat.beq b 2 || Nat.beq b 4))) || Nat.blt a 4)
  (fx_if (Nat.beq kd 11) (((!(Nat.beq b 0 || (Nat.beq b 2 || Nat.beq b 4))) || Nat.blt a 4) && (Nat.blt (a + 1) nL || (Nat.blt a nL && Nat.blt b 4)))
  (fx_if (Nat.beq kd 1) (fx_has fx_ft (fun q => Nat.beq q.1 o && (Nat.beq q.2.1 a && (Nat.beq q.2.2.1 b && Nat.beq q.2.2.2.1 c))))
  (fx_if (Nat.beq kd 2) (fx_kwB o a b c)
  (fx_if (Nat.beq kd 9) (fx_has fx_kt (fun q => Nat.beq q.1 o && (Nat.beq q.2.1 a && (Nat.beq q.2.2.1 b && Nat.beq q.2.2.2.1 c))))
  (fx_if (Nat.beq kd 10) (fx_rkB b rt && (Nat.beq a 0 || ((Nat.beq a 1 && Nat.beq b 0) || (Nat.beq a 2 && Nat.beq b 3))))
  (fx_if (Nat.beq kd 12) (Nat.blt a 11)
  (fx_if (Nat.beq kd 13) (Nat.blt a 4)
  (fx_if (Nat.beq kd 14) (fx_has fx_ft (fun q => Nat.beq q.1 o && (Nat.beq q.2.1 a && (Nat.beq q.2.2.1 b && Nat.beq q.2.2.2.1 (c / 8)))) && fx_pfB (fx_cn o) ini b (c / 8) (c % 8))
  (fx_if (Nat.beq kd 16) (fx_has fx_nt (fun q => Nat.beq q.1 o && (Nat.beq q.2.1 a && Nat.beq q.2.2.1 b)))
  (fx_if (Nat.beq kd 20 || Nat.beq kd 21) ((Nat.blt b 2147483648 && (Nat.blt (b + (fx_swt c).length) 2147483648 && Nat.blt 0 (fx_swt c).length)) && (Nat.beq kd 20 || Nat.beq (fx_swt c).length 2))
  (fx_if (Nat.beq kd 22) (fx_has fx_ot (fun q => Nat.beq q.1 o && Nat.beq q.2.1 a))
  (fx_if (Nat.beq kd 23) (fx_has fx_at9 (fun q => Nat.beq q.1 o && Nat.beq q.2.1 a))
  (fx_if (Nat.beq kd 24) (Nat.blt a 4)
  (fx_if (Nat.beq kd 25) (fx_has fx_xt (fun q => Nat.beq q.1 o && (Nat.beq q.2.1 a && Nat.beq q.2.2.1 b)))
  (fx_if (Nat.beq kd 26) (fx_has fx_zt (fun q => Nat.beq q.1 o && (Nat.beq q.2.1 a && Nat.beq q.2.2.1 b)))
  (fx_if (Nat.beq kd 27) (Nat.beq o 7 && (Nat.beq a 39 || Nat.beq a 73)) (fx_if (Nat.beq kd 29) (fx_has fx_mx (fun q => Nat.beq q.1 o && (Nat.beq q.2.1 a && Nat.beq q.2.2.1 b))) (Nat.blt kd 28 || (Nat.beq kd 30 || Nat.beq kd 31)))))))))))))))))))
theorem fx_ld4 {a b : Nat} (h : ((!(Nat.beq b 0 || (Nat.beq b 2 || Nat.beq b 4))) || Nat.blt a 4) = true) : b = 0 ∨ b = 2 ∨ b = 4 → a < 4 := by
  intro q
  rcases fx_or h with h | h
  · rcases q with q | q | q <;> subst q <;> cases h
  · exact fx_blt h
theorem fx_anB_ok {o : Nat} {ini : Bool} {rt : Option FieldType} {nL kd a b c : Nat} (h : fx_anB o ini rt nL kd a b c = true) : kd ≠ 28 ∧ fx_an fx_mst fx_mt (fx_cn o) ini rt nL kd a b c := by
  by_cases hk : kd < 28 ∨ kd = 29 ∨ kd = 30 ∨ kd = 31
  · refine ⟨by omega, ?_⟩
    refine ⟨?_, ?_, ?_, ?_, ?_, ?_, ?_, ?_, ?_, ?_, ?_, ?_, ?_, ?_, ?_, ?_, ?_, ?_, ?_⟩
    · rintro (q | q)
      · subst q; exact fx_ld4 h
      · subst q; exact fx_ld4 (fx_and (a := ((!(Nat.beq b 0 || (Nat.beq b 2 || Nat.beq b 4))) || Nat.blt a 4)) h).1
    · intro q; subst q; exact fx_ft_ok h
    · intro q; subst q; exact fx_kwB_ok h
    · intro q; subst q; exact fx_kt_ok h
    · intro q
      subst q
      obtain ⟨h1, h2⟩ := fx_and (a := fx_rkB b rt) (b := (Nat.beq a 0 || ((Nat.beq a 1 && Nat.beq b 0) || (Nat.beq a 2 && Nat.beq b 3)))) h
      refine ⟨fx_rkB_ok h1, ?_⟩
      rcases fx_or h2 with h3 | h3
      · exact Or.inl (fx_beq h3)
      · rcases fx_or h3 with h3 | h3
        · obtain ⟨g1, g2⟩ := fx_and h3
          exact Or.inr (Or.inl ⟨fx_beq g1, fx_beq g2⟩)
        · obtain ⟨g1, g2⟩ := fx_and h3
          exact Or.inr (Or.inr ⟨fx_beq g1, fx_beq g2⟩)
    · intro q; subst q; exact fx_blt h
    · intro q; subst q; exact fx_blt h
    · intro q
      subst q
      obtain ⟨h1, h2⟩ := fx_and (a := fx_has fx_ft (fun q => Nat.beq q.1 o && (Nat.beq q.2.1 a && (Nat.beq q.2.2.1 b && Nat.beq q.2.2.2.1 (c / 8))))) (b := fx_pfB (fx_cn o) ini b (c / 8) (c % 8)) h
      exact ⟨fx_ft_ok h1, fx_pfB_ok h2⟩
    · intro q
      subst q
      obtain ⟨n, hn⟩ := fx_eq3 (show fx_has fx_nt (fun q => Nat.beq q.1 o && (Nat.beq q.2.1 a && Nat.beq q.2.2.1 b)) = true from h)
      have h3 := fx_all_ok fx_nt_all _ hn
      unfold fx_ntB at h3
      simp only at h3
      cases hc : fx_nth fx_cl b with
      | none => rw [hc] at h3; cases h3
      | some Q =>
        obtain ⟨C, T, N⟩ := Q
        rw [hc] at h3
        rw [fx_nth_eq] at hc
        exact ⟨C, T, N, hc, fx_wq_ok h3⟩
    · intro q
      have h : ((Nat.blt b 2147483648 && (Nat.blt (b + (fx_swt c).length) 2147483648 && Nat.blt 0 (fx_swt c).length)) && (Nat.beq kd 20 || Nat.beq (fx_swt c).length 2)) = true := by
        rcases q with q | q <;> subst q <;> exact h
      obtain ⟨h1, -⟩ := fx_and h
      obtain ⟨h1, h2⟩ := fx_and h1
      obtain ⟨h2, h3⟩ := fx_and h2
      exact ⟨fx_blt h1, fx_blt h2, fx_blt h3⟩
    · intro q
      subst q
      obtain ⟨n, hn⟩ := fx_eq2 (show fx_has fx_ot (fun q => Nat.beq q.1 o && Nat.beq q.2.1 a) = true from h)
      exact fx_wq_ok (fx_all_ok fx_ot_all _ hn)
    · intro q
      subst q
      obtain ⟨n, hn⟩ := fx_eq2 (show fx_has fx_at9 (fun q => Nat.beq q.1 o && Nat.beq q.2.1 a) = true from h)
      exact fx_wq_ok (fx_all_ok fx_at_all _ hn)
    · intro q; subst q; exact fx_blt h
    · intro q
      subst q
      obtain ⟨n, hn⟩ := fx_eq3 (show fx_has fx_xt (fun q => Nat.beq q.1 o && (Nat.beq q.2.1 a && Nat.beq q.2.2.1 b)) = true from h)
      have h3 := fx_wq_ok (fx_all_ok fx_xt_all _ hn)
      refine ⟨fun q => ?_, fun q => ?_⟩
      · subst q; exact h3
      · subst q; exact h3
    · intro q
      subst q
      obtain ⟨n, hn⟩ := fx_eq3 (show fx_has fx_zt (fun q => Nat.beq q.1 o && (Nat.beq q.2.1 a && Nat.beq q.2.2.1 b)) = true from h)
      have h3 := fx_wq_ok (fx_all_ok fx_zt_all _ hn)
      refine ⟨fun q => ?_, fun q => ?_⟩
      · subst q; exact h3
      · subst q; exact h3
    · intro q
      subst q
      obtain ⟨h1, h2⟩ := fx_and (a := Nat.beq o 7) (b := (Nat.beq a 39 || Nat.beq a 73)) h
      have h1 := fx_beq h1
      subst h1
      refine ⟨rfl, ?_⟩
      rcases fx_or h2 with h3 | h3
      · exact Or.inl (fx_beq h3)
      · exact Or.inr (fx_beq h3)
    · intro q
      subst q
      obtain ⟨-, h2⟩ := fx_and (a := ((!(Nat.beq b 0 || (Nat.beq b 2 || Nat.beq b 4))) || Nat.blt a 4)) (b := (Nat.blt (a + 1) nL || (Nat.blt a nL && Nat.blt b 4))) h
      rcases fx_or h2 with h3 | h3
      · exact Or.inl (fx_blt h3)
      · obtain ⟨g1, g2⟩ := fx_and h3
        exact Or.inr ⟨fx_blt g1, fx_blt g2⟩
    · intro q
      subst q
      obtain ⟨-, h2⟩ := fx_and (a := (Nat.blt b 2147483648 && (Nat.blt (b + (fx_swt c).length) 2147483648 && Nat.blt 0 (fx_swt c).length))) (b := (Nat.beq 21 20 || Nat.beq (fx_swt c).length 2)) h
      rcases fx_or h2 with h3 | h3
      · cases h3
      · exact fx_beq h3
    · intro q
      subst q
      obtain ⟨n, hn⟩ := fx_eq3 (show fx_has fx_mx (fun q => Nat.beq q.1 o && (Nat.beq q.2.1 a && Nat.beq q.2.2.1 b)) = true from h)
      have h3 := fx_wq_ok (fx_all_ok fx_mx_all _ hn)
      refine ⟨fun q => ?_, fun q => ?_, fun q => ?_⟩
      · subst q; exact h3
      · subst q; exact h3
      · subst q; exact h3
  · rcases (if hq : kd = 28 then Or.inl hq else Or.inr ⟨kd - 32, by omega⟩ : kd = 28 ∨ ∃ q, kd = q + 32) with rfl | ⟨q, rfl⟩
    · have h : (Nat.blt 28 28 || (Nat.beq 28 30 || Nat.beq 28 31)) = true := h
      cases h
    · have h : (Nat.blt (q + 32) 28 || (Nat.beq (q + 32) 30 || Nat.beq (q + 32) 31)) = true := h
      rcases fx_or h with h | h
      · have := fx_blt h
        omega
      · rcases fx_or h with h | h
        · have := fx_beq h
          omega
        · have := fx_beq h
          omega
noncomputable def fx_codB (o : Nat) (ini : Bool) (rt : Option FieldType) (nL : Nat) (cc : ByteArray) (cod : List fx_I) : Bool := fx_all cod (fun q => decide (decode cc q.1 = .ok (fx_ins q.1 q.2.1 q.2.2.1 q.2.2.2.1 q.2.2.2.2)) && fx_anB o ini rt nL q.2.1 q.2.2.1 q.2.2.2.1 q.2.2.2.2)
theorem fx_codB_ok {o : Nat} {ini : Bool} {rt : Option FieldType} {nL : Nat} {cc : ByteArray} {cod : List fx_I} (h : fx_codB o ini rt nL cc cod = true) : ∀ pc kd a b d, (pc, kd, a, b, d) ∈ cod → kd ≠ 28 ∧ decode cc pc = .ok (fx_ins pc kd a b d) ∧ fx_an fx_mst fx_mt (fx_cn o) ini rt nL kd a b d := by
  intro pc kd a b d hin
  obtain ⟨h1, h2⟩ := fx_and (fx_all_ok h _ hin)
  obtain ⟨h3, h4⟩ := fx_anB_ok h2
  exact ⟨h3, of_decide_eq_true h1, h4⟩
noncomputable def fx_mokB (c : Nat) : Bool := match fx_mt c with
  | none => true
  | some M => match fx_mst c with
    | none => false
    | some (y, cc, nL, rt) => match fx_mo c with
      | none => false
      | some (o, p1, _, _, p4) => (decide (fx_cn o = y.cls) && (plainName y.cls && (fx_wq p1 (Cond.code y cc nL rt) && fx_wq p4 (Cond.initialized y.cls)))) && ((decide (y.cls ≠ "java/lang/invoke/MethodHandle") && (decide (y.cls ≠ "java/lang/invoke/VarHandle") && (Nat.ble nL 41 && Nat.beq M.2.2.2.2.2 nL))) && ((decide ((parseMethodDescriptor y.desc).map (fun d => d.parameters.length) = some (if M.2.2.2.2.1 = 0 then M.2.1 else M.2.1 - 1)) && Nat.beq (fx_pc M.1) 0) && fx_codB o (y.name == "<init>") rt nL cc M.1))
theorem fx_mokB_ok {c : Nat} (h : fx_mokB c = true) {M : fx_M} (hm : fx_mt c = some M) : ∃ S, fx_mst c = some S ∧ fx_mok fx_mst fx_mt S M := by
  unfold fx_mokB at h
  rw [hm] at h
  simp only at h
  cases hs : fx_mst c with
  | none => rw [hs] at h; cases h
  | some S =>
    obtain ⟨y, cc, nL, rt⟩ := S
    rw [hs] at h
    simp only at h
    cases ho : fx_mo c with
    | none => rw [ho] at h; cases h
    | some O =>
      obtain ⟨o, p1, p2, p3, p4⟩ := O
      rw [ho] at h
      simp only at h
      obtain ⟨h1, h2⟩ := fx_and h
      obtain ⟨a1, h1⟩ := fx_and h1
      obtain ⟨a2, h1⟩ := fx_and h1
      obtain ⟨a3, a4⟩ := fx_and h1
      obtain ⟨h3, h4⟩ := fx_and h2
      obtain ⟨a5, h3⟩ := fx_and h3
      obtain ⟨a6, h3⟩ := fx_and h3
      obtain ⟨a7, a8⟩ := fx_and h3
      obtain ⟨h5, a9⟩ := fx_and h4
      obtain ⟨a10, a11⟩ := fx_and h5
      have e := of_decide_eq_true a1
      refine ⟨(y, cc, nL, rt), rfl, a2, fx_wq_ok a3, fx_wq_ok a4, ⟨of_decide_eq_true a5, of_decide_eq_true a6⟩, fx_ble a7, fx_beq a8, of_decide_eq_true a10, fx_beq a11, ?_⟩
      have := fx_codB_ok a9
      rw [e] at this
      exact this
end
section
set_option maxRecDepth 100000 in
theorem fx_c0 : fx_mokB 0 = true := by decide +kernel
set_option maxRecDepth 100000 in
theorem fx_c1 : fx_mokB 1 = true := by decide +kernel
set_option maxRecDepth 100000 in
theorem fx_c2 : fx_mokB 2 = true := by decide +kernel
set_option maxRecDepth 100000 in
theorem fx_c3 : fx_mokB 3 = true := by decide +kernel
set_option maxRecDepth 100000 in
theorem fx_c4 : fx_mokB 4 = true := by decide +kernel
set_option maxRecDepth 100000 in
theorem fx_c5 : fx_mokB 5 = true := by decide +kernel
set_option maxRecDepth 100000 in
theorem fx_c6 : fx_mokB 6 = true := by decide +kernel
set_option maxRecDepth 100000 in
theorem fx_c7 : fx_mokB 7 = true := by decide +kernel
set_option maxRecDepth 100000 in
theorem fx_c8 : fx_mokB 8 = true := by decide +kernel
set_option maxRecDepth 100000 in
theorem fx_c9 : fx_mokB 9 = true := by decide +kernel
set_option maxRecDepth 100000 in
theorem fx_c10 : fx_mokB 10 = true := by decide +kernel
set_option maxRecDepth 100000 in
theorem fx_c11 : fx_mokB 11 = true := by decide +kernel
set_option maxRecDepth 100000 in
theorem fx_c12 : fx_mokB 12 = true := by decide +kernel
set_option maxRecDepth 100000 in
theorem fx_c13 : fx_mokB 13 = true := by decide +kernel
set_option maxRecDepth 100000 in
theorem fx_c14 : fx_mokB 14 = true := by decide +kernel
set_option maxRecDepth 100000 in
theorem fx_c15 : fx_mokB 15 = true := by decide +kernel
theorem fx_ck0 : ∀ i, i < 16 → fx_mokB (0 + i) = true := by
  intro i hi
  rcases (by omega : i = 0 ∨ i = 1 ∨ i = 2 ∨ i = 3 ∨ i = 4 ∨ i = 5 ∨ i = 6 ∨ i = 7 ∨ i = 8 ∨ i = 9 ∨ i = 10 ∨ i = 11 ∨ i = 12 ∨ i = 13 ∨ i = 14 ∨ i = 15) with rfl | rfl | rfl | rfl | rfl | rfl | rfl | rfl | rfl | rfl | rfl | rfl | rfl | rfl | rfl | rfl
  · exact fx_c0
  · exact fx_c1
  · exact fx_c2
  · exact fx_c3
  · exact fx_c4
  · exact fx_c5
  · exact fx_c6
  · exact fx_c7
  · exact fx_c8
  · exact fx_c9
  · exact fx_c10
  · exact fx_c11
  · exact fx_c12
  · exact fx_c13
  · exact fx_c14
  · exact fx_c15
set_option maxRecDepth 100000 in
theorem fx_c16 : fx_mokB 16 = true := by decide +kernel
set_option maxRecDepth 100000 in
theorem fx_c17 : fx_mokB 17 = true := by decide +kernel
set_option maxRecDepth 100000 in
theorem fx_c18 : fx_mokB 18 = true := by decide +kernel
set_option maxRecDepth 100000 in
theorem fx_c19 : fx_mokB 19 = true := by decide +kernel
set_option maxRecDepth 100000 in
theorem fx_c20 : fx_mokB 20 = true := by decide +kernel
set_option maxRecDepth 100000 in
theorem fx_c21 : fx_mokB 21 = true := by decide +kernel
set_option maxRecDepth 100000 in
theorem fx_c22 : fx_mokB 22 = true := by decide +kernel
set_option maxRecDepth 100000 in
theorem fx_c23 : fx_mokB 23 = true := by decide +kernel
set_option maxRecDepth 100000 in
theorem fx_c24 : fx_mokB 24 = true := by decide +kernel
set_option maxRecDepth 100000 in
theorem fx_c25 : fx_mokB 25 = true := by decide +kernel
set_option maxRecDepth 100000 in
theorem fx_c26 : fx_mokB 26 = true := by decide +kernel
set_option maxRecDepth 100000 in
theorem fx_c27 : fx_mokB 27 = true := by decide +kernel
set_option maxRecDepth 100000 in
theorem fx_c28 : fx_mokB 28 = true := by decide +kernel
set_option maxRecDepth 100000 in
theorem fx_c29 : fx_mokB 29 = true := by decide +kernel
set_option maxRecDepth 100000 in
theorem fx_c30 : fx_mokB 30 = true := by decide +kernel
set_option maxRecDepth 100000 in
theorem fx_c31 : fx_mokB 31 = true := by decide +kernel
theorem fx_ck1 : ∀ i, i < 16 → fx_mokB (16 + i) = true := by
  intro i hi
  rcases (by omega : i = 0 ∨ i = 1 ∨ i = 2 ∨ i = 3 ∨ i = 4 ∨ i = 5 ∨ i = 6 ∨ i = 7 ∨ i = 8 ∨ i = 9 ∨ i = 10 ∨ i = 11 ∨ i = 12 ∨ i = 13 ∨ i = 14 ∨ i = 15) with rfl | rfl | rfl | rfl | rfl | rfl | rfl | rfl | rfl | rfl | rfl | rfl | rfl | rfl | rfl | rfl
  · exact fx_c16
  · exact fx_c17
  · exact fx_c18
  · exact fx_c19
  · exact fx_c20
  · exact fx_c21
  · exact fx_c22
  · exact fx_c23
  · exact fx_c24
  · exact fx_c25
  · exact fx_c26
  · exact fx_c27
  · exact fx_c28
  · exact fx_c29
  · exact fx_c30
  · exact fx_c31
set_option maxRecDepth 100000 in
theorem fx_c32 : fx_mokB 32 = true := by decide +kernel
set_option maxRecDepth 100000 in
theorem fx_c33 : fx_mokB 33 = true := by decide +kernel
set_option maxRecDepth 100000 in
theorem fx_c34 : fx_mokB 34 = true := by decide +kernel
set_option maxRecDepth 100000 in
theorem fx_c35 : fx_mokB 35 = true := by decide +kernel
set_option maxRecDepth 100000 in
theorem fx_c36 : fx_mokB 36 = true := by decide +kernel
set_option maxRecDepth 100000 in
theorem fx_c37 : fx_mokB 37 = true := by decide +kernel
set_option maxRecDepth 100000 in
theorem fx_c38 : fx_mokB 38 = true := by decide +kernel
set_option maxRecDepth 100000 in
theorem fx_c39 : fx_mokB 39 = true := by decide +kernel
set_option maxRecDepth 100000 in
theorem fx_c40 : fx_mokB 40 = true := by decide +kernel
set_option maxRecDepth 100000 in
theorem fx_c41 : fx_mokB 41 = true := by decide +kernel
set_option maxRecDepth 100000 in
theorem fx_c42 : fx_mokB 42 = true := by decide +kernel
set_option maxRecDepth 100000 in
theorem fx_c43 : fx_mokB 43 = true := by decide +kernel
set_option maxRecDepth 100000 in
theorem fx_c44 : fx_mokB 44 = true := by decide +kernel
set_option maxRecDepth 100000 in
theorem fx_c45 : fx_mokB 45 = true := by decide +kernel
set_option maxRecDepth 100000 in
theorem fx_c46 : fx_mokB 46 = true := by decide +kernel
set_option maxRecDepth 100000 in
theorem fx_c47 : fx_mokB 47 = true := by decide +kernel
theorem fx_ck2 : ∀ i, i < 16 → fx_mokB (32 + i) = true := by
  intro i hi
  rcases (by omega : i = 0 ∨ i = 1 ∨ i = 2 ∨ i = 3 ∨ i = 4 ∨ i = 5 ∨ i = 6 ∨ i = 7 ∨ i = 8 ∨ i = 9 ∨ i = 10 ∨ i = 11 ∨ i = 12 ∨ i = 13 ∨ i = 14 ∨ i = 15) with rfl | rfl | rfl | rfl | rfl | rfl | rfl | rfl | rfl | rfl | rfl | rfl | rfl | rfl | rfl | rfl
  · exact fx_c32
  · exact fx_c33
  · exact fx_c34
  · exact fx_c35
  · exact fx_c36
  · exact fx_c37
  · exact fx_c38
  · exact fx_c39
  · exact fx_c40
  · exact fx_c41
  · exact fx_c42
  · exact fx_c43
  · exact fx_c44
  · exact fx_c45
  · exact fx_c46
  · exact fx_c47
set_option maxRecDepth 100000 in
theorem fx_c48 : fx_mokB 48 = true := by decide +kernel
set_option maxRecDepth 100000 in
theorem fx_c49 : fx_mokB 49 = true := by decide +kernel
set_option maxRecDepth 100000 in
theorem fx_c50 : fx_mokB 50 = true := by decide +kernel
set_option maxRecDepth 100000 in
theorem fx_c51 : fx_mokB 51 = true := by decide +kernel
set_option maxRecDepth 100000 in
theorem fx_c52 : fx_mokB 52 = true := by decide +kernel
set_option maxRecDepth 100000 in
theorem fx_c53 : fx_mokB 53 = true := by decide +kernel
set_option maxRecDepth 100000 in
theorem fx_c54 : fx_mokB 54 = true := by decide +kernel
set_option maxRecDepth 100000 in
theorem fx_c55 : fx_mokB 55 = true := by decide +kernel
set_option maxRecDepth 100000 in
theorem fx_c56 : fx_mokB 56 = true := by decide +kernel
set_option maxRecDepth 100000 in
theorem fx_c57 : fx_mokB 57 = true := by decide +kernel
set_option maxRecDepth 100000 in
theorem fx_c58 : fx_mokB 58 = true := by decide +kernel
set_option maxRecDepth 100000 in
theorem fx_c59 : fx_mokB 59 = true := by decide +kernel
set_option maxRecDepth 100000 in
theorem fx_c60 : fx_mokB 60 = true := by decide +kernel
set_option maxRecDepth 100000 in
theorem fx_c61 : fx_mokB 61 = true := by decide +kernel
set_option maxRecDepth 100000 in
theorem fx_c62 : fx_mokB 62 = true := by decide +kernel
set_option maxRecDepth 100000 in
theorem fx_c63 : fx_mokB 63 = true := by decide +kernel
theorem fx_ck3 : ∀ i, i < 16 → fx_mokB (48 + i) = true := by
  intro i hi
  rcases (by omega : i = 0 ∨ i = 1 ∨ i = 2 ∨ i = 3 ∨ i = 4 ∨ i = 5 ∨ i = 6 ∨ i = 7 ∨ i = 8 ∨ i = 9 ∨ i = 10 ∨ i = 11 ∨ i = 12 ∨ i = 13 ∨ i = 14 ∨ i = 15) with rfl | rfl | rfl | rfl | rfl | rfl | rfl | rfl | rfl | rfl | rfl | rfl | rfl | rfl | rfl | rfl
  · exact fx_c48
  · exact fx_c49
  · exact fx_c50
  · exact fx_c51
  · exact fx_c52
  · exact fx_c53
  · exact fx_c54
  · exact fx_c55
  · exact fx_c56
  · exact fx_c57
  · exact fx_c58
  · exact fx_c59
  · exact fx_c60
  · exact fx_c61
  · exact fx_c62
  · exact fx_c63
end
section
set_option maxRecDepth 100000 in
theorem fx_c64 : fx_mokB 64 = true := by decide +kernel
set_option maxRecDepth 100000 in
theorem fx_c65 : fx_mokB 65 = true := by decide +kernel
set_option maxRecDepth 100000 in
theorem fx_c66 : fx_mokB 66 = true := by decide +kernel
set_option maxRecDepth 100000 in
theorem fx_c67 : fx_mokB 67 = true := by decide +kernel
set_option maxRecDepth 100000 in
theorem fx_c68 : fx_mokB 68 = true := by decide +kernel
set_option maxRecDepth 100000 in
theorem fx_c69 : fx_mokB 69 = true := by decide +kernel
set_option maxRecDepth 100000 in
theorem fx_c70 : fx_mokB 70 = true := by decide +kernel
set_option maxRecDepth 100000 in
theorem fx_c71 : fx_mokB 71 = true := by decide +kernel
set_option maxRecDepth 100000 in
theorem fx_c72 : fx_mokB 72 = true := by decide +kernel
set_option maxRecDepth 100000 in
theorem fx_c73 : fx_mokB 73 = true := by decide +kernel
set_option maxRecDepth 100000 in
theorem fx_c74 : fx_mokB 74 = true := by decide +kernel
set_option maxRecDepth 100000 in
theorem fx_c75 : fx_mokB 75 = true := by decide +kernel
set_option maxRecDepth 100000 in
theorem fx_c76 : fx_mokB 76 = true := by decide +kernel
set_option maxRecDepth 100000 in
theorem fx_c77 : fx_mokB 77 = true := by decide +kernel
set_option maxRecDepth 100000 in
theorem fx_c78 : fx_mokB 78 = true := by decide +kernel
set_option maxRecDepth 100000 in
theorem fx_c79 : fx_mokB 79 = true := by decide +kernel
theorem fx_ck4 : ∀ i, i < 16 → fx_mokB (64 + i) = true := by
  intro i hi
  rcases (by omega : i = 0 ∨ i = 1 ∨ i = 2 ∨ i = 3 ∨ i = 4 ∨ i = 5 ∨ i = 6 ∨ i = 7 ∨ i = 8 ∨ i = 9 ∨ i = 10 ∨ i = 11 ∨ i = 12 ∨ i = 13 ∨ i = 14 ∨ i = 15) with rfl | rfl | rfl | rfl | rfl | rfl | rfl | rfl | rfl | rfl | rfl | rfl | rfl | rfl | rfl | rfl
  · exact fx_c64
  · exact fx_c65
  · exact fx_c66
  · exact fx_c67
  · exact fx_c68
  · exact fx_c69
  · exact fx_c70
  · exact fx_c71
  · exact fx_c72
  · exact fx_c73
  · exact fx_c74
  · exact fx_c75
  · exact fx_c76
  · exact fx_c77
  · exact fx_c78
  · exact fx_c79
set_option maxRecDepth 100000 in
theorem fx_c80 : fx_mokB 80 = true := by decide +kernel
set_option maxRecDepth 100000 in
theorem fx_c81 : fx_mokB 81 = true := by decide +kernel
set_option maxRecDepth 100000 in
theorem fx_c82 : fx_mokB 82 = true := by decide +kernel
set_option maxRecDepth 100000 in
theorem fx_c83 : fx_mokB 83 = true := by decide +kernel
set_option maxRecDepth 100000 in
theorem fx_c84 : fx_mokB 84 = true := by decide +kernel
set_option maxRecDepth 100000 in
theorem fx_c85 : fx_mokB 85 = true := by decide +kernel
set_option maxRecDepth 100000 in
theorem fx_c86 : fx_mokB 86 = true := by decide +kernel
set_option maxRecDepth 100000 in
theorem fx_c87 : fx_mokB 87 = true := by decide +kernel
set_option maxRecDepth 100000 in
theorem fx_c88 : fx_mokB 88 = true := by decide +kernel
set_option maxRecDepth 100000 in
theorem fx_c89 : fx_mokB 89 = true := by decide +kernel
set_option maxRecDepth 100000 in
theorem fx_c90 : fx_mokB 90 = true := by decide +kernel
set_option maxRecDepth 100000 in
theorem fx_c91 : fx_mokB 91 = true := by decide +kernel
set_option maxRecDepth 100000 in
theorem fx_c92 : fx_mokB 92 = true := by decide +kernel
set_option maxRecDepth 100000 in
theorem fx_c93 : fx_mokB 93 = true := by decide +kernel
set_option maxRecDepth 100000 in
theorem fx_c94 : fx_mokB 94 = true := by decide +kernel
set_option maxRecDepth 100000 in
theorem fx_c95 : fx_mokB 95 = true := by decide +kernel
theorem fx_ck5 : ∀ i, i < 16 → fx_mokB (80 + i) = true := by
  intro i hi
  rcases (by omega : i = 0 ∨ i = 1 ∨ i = 2 ∨ i = 3 ∨ i = 4 ∨ i = 5 ∨ i = 6 ∨ i = 7 ∨ i = 8 ∨ i = 9 ∨ i = 10 ∨ i = 11 ∨ i = 12 ∨ i = 13 ∨ i = 14 ∨ i = 15) with rfl | rfl | rfl | rfl | rfl | rfl | rfl | rfl | rfl | rfl | rfl | rfl | rfl | rfl | rfl | rfl
  · exact fx_c80
  · exact fx_c81
  · exact fx_c82
  · exact fx_c83
  · exact fx_c84
  · exact fx_c85
  · exact fx_c86
  · exact fx_c87
  · exact fx_c88
  · exact fx_c89
  · exact fx_c90
  · exact fx_c91
  · exact fx_c92
  · exact fx_c93
  · exact fx_c94
  · exact fx_c95
set_option maxRecDepth 100000 in
theorem fx_c96 : fx_mokB 96 = true := by decide +kernel
set_option maxRecDepth 100000 in
theorem fx_c97 : fx_mokB 97 = true := by decide +kernel
set_option maxRecDepth 100000 in
theorem fx_c98 : fx_mokB 98 = true := by decide +kernel
set_option maxRecDepth 100000 in
theorem fx_c99 : fx_mokB 99 = true := by decide +kernel
set_option maxRecDepth 100000 in
theorem fx_c100 : fx_mokB 100 = true := by decide +kernel
set_option maxRecDepth 100000 in
theorem fx_c101 : fx_mokB 101 = true := by decide +kernel
set_option maxRecDepth 100000 in
theorem fx_c102 : fx_mokB 102 = true := by decide +kernel
set_option maxRecDepth 100000 in
theorem fx_c103 : fx_mokB 103 = true := by decide +kernel
set_option maxRecDepth 100000 in
theorem fx_c104 : fx_mokB 104 = true := by decide +kernel
set_option maxRecDepth 100000 in
theorem fx_c105 : fx_mokB 105 = true := by decide +kernel
set_option maxRecDepth 100000 in
theorem fx_c106 : fx_mokB 106 = true := by decide +kernel
set_option maxRecDepth 100000 in
theorem fx_c107 : fx_mokB 107 = true := by decide +kernel
set_option maxRecDepth 100000 in
theorem fx_c108 : fx_mokB 108 = true := by decide +kernel
set_option maxRecDepth 100000 in
theorem fx_c109 : fx_mokB 109 = true := by decide +kernel
set_option maxRecDepth 100000 in
theorem fx_c110 : fx_mokB 110 = true := by decide +kernel
set_option maxRecDepth 100000 in
theorem fx_c111 : fx_mokB 111 = true := by decide +kernel
theorem fx_ck6 : ∀ i, i < 16 → fx_mokB (96 + i) = true := by
  intro i hi
  rcases (by omega : i = 0 ∨ i = 1 ∨ i = 2 ∨ i = 3 ∨ i = 4 ∨ i = 5 ∨ i = 6 ∨ i = 7 ∨ i = 8 ∨ i = 9 ∨ i = 10 ∨ i = 11 ∨ i = 12 ∨ i = 13 ∨ i = 14 ∨ i = 15) with rfl | rfl | rfl | rfl | rfl | rfl | rfl | rfl | rfl | rfl | rfl | rfl | rfl | rfl | rfl | rfl
  · exact fx_c96
  · exact fx_c97
  · exact fx_c98
  · exact fx_c99
  · exact fx_c100
  · exact fx_c101
  · exact fx_c102
  · exact fx_c103
  · exact fx_c104
  · exact fx_c105
  · exact fx_c106
  · exact fx_c107
  · exact fx_c108
  · exact fx_c109
  · exact fx_c110
  · exact fx_c111
set_option maxRecDepth 100000 in
theorem fx_c112 : fx_mokB 112 = true := by decide +kernel
set_option maxRecDepth 100000 in
theorem fx_c113 : fx_mokB 113 = true := by decide +kernel
set_option maxRecDepth 100000 in
theorem fx_c114 : fx_mokB 114 = true := by decide +kernel
set_option maxRecDepth 100000 in
theorem fx_c115 : fx_mokB 115 = true := by decide +kernel
set_option maxRecDepth 100000 in
theorem fx_c116 : fx_mokB 116 = true := by decide +kernel
set_option maxRecDepth 100000 in
theorem fx_c117 : fx_mokB 117 = true := by decide +kernel
set_option maxRecDepth 100000 in
theorem fx_c118 : fx_mokB 118 = true := by decide +kernel
set_option maxRecDepth 100000 in
theorem fx_c119 : fx_mokB 119 = true := by decide +kernel
set_option maxRecDepth 100000 in
theorem fx_c120 : fx_mokB 120 = true := by decide +kernel
set_option maxRecDepth 100000 in
theorem fx_c121 : fx_mokB 121 = true := by decide +kernel
set_option maxRecDepth 100000 in
theorem fx_c122 : fx_mokB 122 = true := by decide +kernel
set_option maxRecDepth 100000 in
theorem fx_c123 : fx_mokB 123 = true := by decide +kernel
set_option maxRecDepth 100000 in
theorem fx_c124 : fx_mokB 124 = true := by decide +kernel
set_option maxRecDepth 100000 in
theorem fx_c125 : fx_mokB 125 = true := by decide +kernel
set_option maxRecDepth 100000 in
theorem fx_c126 : fx_mokB 126 = true := by decide +kernel
set_option maxRecDepth 100000 in
theorem fx_c127 : fx_mokB 127 = true := by decide +kernel
theorem fx_ck7 : ∀ i, i < 16 → fx_mokB (112 + i) = true := by
  intro i hi
  rcases (by omega : i = 0 ∨ i = 1 ∨ i = 2 ∨ i = 3 ∨ i = 4 ∨ i = 5 ∨ i = 6 ∨ i = 7 ∨ i = 8 ∨ i = 9 ∨ i = 10 ∨ i = 11 ∨ i = 12 ∨ i = 13 ∨ i = 14 ∨ i = 15) with rfl | rfl | rfl | rfl | rfl | rfl | rfl | rfl | rfl | rfl | rfl | rfl | rfl | rfl | rfl | rfl
  · exact fx_c112
  · exact fx_c113
  · exact fx_c114
  · exact fx_c115
  · exact fx_c116
  · exact fx_c117
  · exact fx_c118
  · exact fx_c119
  · exact fx_c120
  · exact fx_c121
  · exact fx_c122
  · exact fx_c123
  · exact fx_c124
  · exact fx_c125
  · exact fx_c126
  · exact fx_c127
end
section
set_option maxRecDepth 100000 in
theorem fx_c128 : fx_mokB 128 = true := by decide +kernel
set_option maxRecDepth 100000 in
theorem fx_c129 : fx_mokB 129 = true := by decide +kernel
set_option maxRecDepth 100000 in
theorem fx_c130 : fx_mokB 130 = true := by decide +kernel
set_option maxRecDepth 100000 in
theorem fx_c131 : fx_mokB 131 = true := by decide +kernel
set_option maxRecDepth 100000 in
theorem fx_c132 : fx_mokB 132 = true := by decide +kernel
set_option maxRecDepth 100000 in
theorem fx_c133 : fx_mokB 133 = true := by decide +kernel
set_option maxRecDepth 100000 in
theorem fx_c134 : fx_mokB 134 = true := by decide +kernel
set_option maxRecDepth 100000 in
theorem fx_c135 : fx_mokB 135 = true := by decide +kernel
set_option maxRecDepth 100000 in
theorem fx_c136 : fx_mokB 136 = true := by decide +kernel
set_option maxRecDepth 100000 in
theorem fx_c137 : fx_mokB 137 = true := by decide +kernel
set_option maxRecDepth 100000 in
theorem fx_c138 : fx_mokB 138 = true := by decide +kernel
set_option maxRecDepth 100000 in
theorem fx_c139 : fx_mokB 139 = true := by decide +kernel
set_option maxRecDepth 100000 in
theorem fx_c140 : fx_mokB 140 = true := by decide +kernel
set_option maxRecDepth 100000 in
theorem fx_c141 : fx_mokB 141 = true := by decide +kernel
set_option maxRecDepth 100000 in
theorem fx_c142 : fx_mokB 142 = true := by decide +kernel
set_option maxRecDepth 100000 in
theorem fx_c143 : fx_mokB 143 = true := by decide +kernel
theorem fx_ck8 : ∀ i, i < 16 → fx_mokB (128 + i) = true := by
  intro i hi
  rcases (by omega : i = 0 ∨ i = 1 ∨ i = 2 ∨ i = 3 ∨ i = 4 ∨ i = 5 ∨ i = 6 ∨ i = 7 ∨ i = 8 ∨ i = 9 ∨ i = 10 ∨ i = 11 ∨ i = 12 ∨ i = 13 ∨ i = 14 ∨ i = 15) with rfl | rfl | rfl | rfl | rfl | rfl | rfl | rfl | rfl | rfl | rfl | rfl | rfl | rfl | rfl | rfl
  · exact fx_c128
  · exact fx_c129
  · exact fx_c130
  · exact fx_c131
  · exact fx_c132
  · exact fx_c133
  · exact fx_c134
  · exact fx_c135
  · exact fx_c136
  · exact fx_c137
  · exact fx_c138
  · exact fx_c139
  · exact fx_c140
  · exact fx_c141
  · exact fx_c142
  · exact fx_c143
set_option maxRecDepth 100000 in
theorem fx_c144 : fx_mokB 144 = true := by decide +kernel
set_option maxRecDepth 100000 in
theorem fx_c145 : fx_mokB 145 = true := by decide +kernel
set_option maxRecDepth 100000 in
theorem fx_c146 : fx_mokB 146 = true := by decide +kernel
set_option maxRecDepth 100000 in
theorem fx_c147 : fx_mokB 147 = true := by decide +kernel
set_option maxRecDepth 100000 in
theorem fx_c148 : fx_mokB 148 = true := by decide +kernel
set_option maxRecDepth 100000 in
theorem fx_c149 : fx_mokB 149 = true := by decide +kernel
set_option maxRecDepth 100000 in
theorem fx_c150 : fx_mokB 150 = true := by decide +kernel
set_option maxRecDepth 100000 in
theorem fx_c151 : fx_mokB 151 = true := by decide +kernel
set_option maxRecDepth 100000 in
theorem fx_c152 : fx_mokB 152 = true := by decide +kernel
set_option maxRecDepth 100000 in
theorem fx_c153 : fx_mokB 153 = true := by decide +kernel
set_option maxRecDepth 100000 in
theorem fx_c154 : fx_mokB 154 = true := by decide +kernel
set_option maxRecDepth 100000 in
theorem fx_c155 : fx_mokB 155 = true := by decide +kernel
set_option maxRecDepth 100000 in
theorem fx_c156 : fx_mokB 156 = true := by decide +kernel
set_option maxRecDepth 100000 in
theorem fx_c157 : fx_mokB 157 = true := by decide +kernel
set_option maxRecDepth 100000 in
theorem fx_c158 : fx_mokB 158 = true := by decide +kernel
set_option maxRecDepth 100000 in
theorem fx_c159 : fx_mokB 159 = true := by decide +kernel
theorem fx_ck9 : ∀ i, i < 16 → fx_mokB (144 + i) = true := by
  intro i hi
  rcases (by omega : i = 0 ∨ i = 1 ∨ i = 2 ∨ i = 3 ∨ i = 4 ∨ i = 5 ∨ i = 6 ∨ i = 7 ∨ i = 8 ∨ i = 9 ∨ i = 10 ∨ i = 11 ∨ i = 12 ∨ i = 13 ∨ i = 14 ∨ i = 15) with rfl | rfl | rfl | rfl | rfl | rfl | rfl | rfl | rfl | rfl | rfl | rfl | rfl | rfl | rfl | rfl
  · exact fx_c144
  · exact fx_c145
  · exact fx_c146
  · exact fx_c147
  · exact fx_c148
  · exact fx_c149
  · exact fx_c150
  · exact fx_c151
  · exact fx_c152
  · exact fx_c153
  · exact fx_c154
  · exact fx_c155
  · exact fx_c156
  · exact fx_c157
  · exact fx_c158
  · exact fx_c159
set_option maxRecDepth 100000 in
theorem fx_c160 : fx_mokB 160 = true := by decide +kernel
set_option maxRecDepth 100000 in
theorem fx_c161 : fx_mokB 161 = true := by decide +kernel
set_option maxRecDepth 100000 in
theorem fx_c162 : fx_mokB 162 = true := by decide +kernel
set_option maxRecDepth 100000 in
theorem fx_c163 : fx_mokB 163 = true := by decide +kernel
set_option maxRecDepth 100000 in
theorem fx_c164 : fx_mokB 164 = true := by decide +kernel
set_option maxRecDepth 100000 in
theorem fx_c165 : fx_mokB 165 = true := by decide +kernel
set_option maxRecDepth 100000 in
theorem fx_c166 : fx_mokB 166 = true := by decide +kernel
set_option maxRecDepth 100000 in
theorem fx_c167 : fx_mokB 167 = true := by decide +kernel
set_option maxRecDepth 100000 in
theorem fx_c168 : fx_mokB 168 = true := by decide +kernel
set_option maxRecDepth 100000 in
theorem fx_c169 : fx_mokB 169 = true := by decide +kernel
set_option maxRecDepth 100000 in
theorem fx_c170 : fx_mokB 170 = true := by decide +kernel
set_option maxRecDepth 100000 in
theorem fx_c171 : fx_mokB 171 = true := by decide +kernel
set_option maxRecDepth 100000 in
theorem fx_c172 : fx_mokB 172 = true := by decide +kernel
set_option maxRecDepth 100000 in
theorem fx_c173 : fx_mokB 173 = true := by decide +kernel
set_option maxRecDepth 100000 in
theorem fx_c174 : fx_mokB 174 = true := by decide +kernel
set_option maxRecDepth 100000 in
theorem fx_c175 : fx_mokB 175 = true := by decide +kernel
theorem fx_ck10 : ∀ i, i < 16 → fx_mokB (160 + i) = true := by
  intro i hi
  rcases (by omega : i = 0 ∨ i = 1 ∨ i = 2 ∨ i = 3 ∨ i = 4 ∨ i = 5 ∨ i = 6 ∨ i = 7 ∨ i = 8 ∨ i = 9 ∨ i = 10 ∨ i = 11 ∨ i = 12 ∨ i = 13 ∨ i = 14 ∨ i = 15) with rfl | rfl | rfl | rfl | rfl | rfl | rfl | rfl | rfl | rfl | rfl | rfl | rfl | rfl | rfl | rfl
  · exact fx_c160
  · exact fx_c161
  · exact fx_c162
  · exact fx_c163
  · exact fx_c164
  · exact fx_c165
  · exact fx_c166
  · exact fx_c167
  · exact fx_c168
  · exact fx_c169
  · exact fx_c170
  · exact fx_c171
  · exact fx_c172
  · exact fx_c173
  · exact fx_c174
  · exact fx_c175
set_option maxRecDepth 100000 in
theorem fx_c176 : fx_mokB 176 = true := by decide +kernel
set_option maxRecDepth 100000 in
theorem fx_c177 : fx_mokB 177 = true := by decide +kernel
set_option maxRecDepth 100000 in
theorem fx_c178 : fx_mokB 178 = true := by decide +kernel
set_option maxRecDepth 100000 in
theorem fx_c179 : fx_mokB 179 = true := by decide +kernel
set_option maxRecDepth 100000 in
theorem fx_c180 : fx_mokB 180 = true := by decide +kernel
set_option maxRecDepth 100000 in
theorem fx_c181 : fx_mokB 181 = true := by decide +kernel
set_option maxRecDepth 100000 in
theorem fx_c182 : fx_mokB 182 = true := by decide +kernel
set_option maxRecDepth 100000 in
theorem fx_c183 : fx_mokB 183 = true := by decide +kernel
set_option maxRecDepth 100000 in
theorem fx_c184 : fx_mokB 184 = true := by decide +kernel
set_option maxRecDepth 100000 in
theorem fx_c185 : fx_mokB 185 = true := by decide +kernel
set_option maxRecDepth 100000 in
theorem fx_c186 : fx_mokB 186 = true := by decide +kernel
set_option maxRecDepth 100000 in
theorem fx_c187 : fx_mokB 187 = true := by decide +kernel
set_option maxRecDepth 100000 in
theorem fx_c188 : fx_mokB 188 = true := by decide +kernel
set_option maxRecDepth 100000 in
theorem fx_c189 : fx_mokB 189 = true := by decide +kernel
set_option maxRecDepth 100000 in
theorem fx_c190 : fx_mokB 190 = true := by decide +kernel
set_option maxRecDepth 100000 in
theorem fx_c191 : fx_mokB 191 = true := by decide +kernel
theorem fx_ck11 : ∀ i, i < 16 → fx_mokB (176 + i) = true := by
  intro i hi
  rcases (by omega : i = 0 ∨ i = 1 ∨ i = 2 ∨ i = 3 ∨ i = 4 ∨ i = 5 ∨ i = 6 ∨ i = 7 ∨ i = 8 ∨ i = 9 ∨ i = 10 ∨ i = 11 ∨ i = 12 ∨ i = 13 ∨ i = 14 ∨ i = 15) with rfl | rfl | rfl | rfl | rfl | rfl | rfl | rfl | rfl | rfl | rfl | rfl | rfl | rfl | rfl | rfl
  · exact fx_c176
  · exact fx_c177
  · exact fx_c178
  · exact fx_c179
  · exact fx_c180
  · exact fx_c181
  · exact fx_c182
  · exact fx_c183
  · exact fx_c184
  · exact fx_c185
  · exact fx_c186
  · exact fx_c187
  · exact fx_c188
  · exact fx_c189
  · exact fx_c190
  · exact fx_c191
end
section
set_option maxRecDepth 100000 in
theorem fx_c192 : fx_mokB 192 = true := by decide +kernel
set_option maxRecDepth 100000 in
theorem fx_c193 : fx_mokB 193 = true := by decide +kernel
set_option maxRecDepth 100000 in
theorem fx_c194 : fx_mokB 194 = true := by decide +kernel
set_option maxRecDepth 100000 in
theorem fx_c195 : fx_mokB 195 = true := by decide +kernel
set_option maxRecDepth 100000 in
theorem fx_c196 : fx_mokB 196 = true := by decide +kernel
set_option maxRecDepth 100000 in
theorem fx_c197 : fx_mokB 197 = true := by decide +kernel
set_option maxRecDepth 100000 in
theorem fx_c198 : fx_mokB 198 = true := by decide +kernel
set_option maxRecDepth 100000 in
theorem fx_c199 : fx_mokB 199 = true := by decide +kernel
set_option maxRecDepth 100000 in
theorem fx_c200 : fx_mokB 200 = true := by decide +kernel
set_option maxRecDepth 100000 in
theorem fx_c201 : fx_mokB 201 = true := by decide +kernel
set_option maxRecDepth 100000 in
theorem fx_c202 : fx_mokB 202 = true := by decide +kernel
set_option maxRecDepth 100000 in
theorem fx_c203 : fx_mokB 203 = true := by decide +kernel
set_option maxRecDepth 100000 in
theorem fx_c204 : fx_mokB 204 = true := by decide +kernel
set_option maxRecDepth 100000 in
theorem fx_c205 : fx_mokB 205 = true := by decide +kernel
set_option maxRecDepth 100000 in
theorem fx_c206 : fx_mokB 206 = true := by decide +kernel
set_option maxRecDepth 100000 in
theorem fx_c207 : fx_mokB 207 = true := by decide +kernel
theorem fx_ck12 : ∀ i, i < 16 → fx_mokB (192 + i) = true := by
  intro i hi
  rcases (by omega : i = 0 ∨ i = 1 ∨ i = 2 ∨ i = 3 ∨ i = 4 ∨ i = 5 ∨ i = 6 ∨ i = 7 ∨ i = 8 ∨ i = 9 ∨ i = 10 ∨ i = 11 ∨ i = 12 ∨ i = 13 ∨ i = 14 ∨ i = 15) with rfl | rfl | rfl | rfl | rfl | rfl | rfl | rfl | rfl | rfl | rfl | rfl | rfl | rfl | rfl | rfl
  · exact fx_c192
  · exact fx_c193
  · exact fx_c194
  · exact fx_c195
  · exact fx_c196
  · exact fx_c197
  · exact fx_c198
  · exact fx_c199
  · exact fx_c200
  · exact fx_c201
  · exact fx_c202
  · exact fx_c203
  · exact fx_c204
  · exact fx_c205
  · exact fx_c206
  · exact fx_c207
set_option maxRecDepth 100000 in
theorem fx_c208 : fx_mokB 208 = true := by decide +kernel
set_option maxRecDepth 100000 in
theorem fx_c209 : fx_mokB 209 = true := by decide +kernel
set_option maxRecDepth 100000 in
theorem fx_c210 : fx_mokB 210 = true := by decide +kernel
set_option maxRecDepth 100000 in
theorem fx_c211 : fx_mokB 211 = true := by decide +kernel
set_option maxRecDepth 100000 in
theorem fx_c212 : fx_mokB 212 = true := by decide +kernel
set_option maxRecDepth 100000 in
theorem fx_c213 : fx_mokB 213 = true := by decide +kernel
set_option maxRecDepth 100000 in
theorem fx_c214 : fx_mokB 214 = true := by decide +kernel
set_option maxRecDepth 100000 in
theorem fx_c215 : fx_mokB 215 = true := by decide +kernel
set_option maxRecDepth 100000 in
theorem fx_c216 : fx_mokB 216 = true := by decide +kernel
set_option maxRecDepth 100000 in
theorem fx_c217 : fx_mokB 217 = true := by decide +kernel
set_option maxRecDepth 100000 in
theorem fx_c218 : fx_mokB 218 = true := by decide +kernel
set_option maxRecDepth 100000 in
theorem fx_c219 : fx_mokB 219 = true := by decide +kernel
set_option maxRecDepth 100000 in
theorem fx_c220 : fx_mokB 220 = true := by decide +kernel
set_option maxRecDepth 100000 in
theorem fx_c221 : fx_mokB 221 = true := by decide +kernel
set_option maxRecDepth 100000 in
theorem fx_c222 : fx_mokB 222 = true := by decide +kernel
set_option maxRecDepth 100000 in
theorem fx_c223 : fx_mokB 223 = true := by decide +kernel
theorem fx_ck13 : ∀ i, i < 16 → fx_mokB (208 + i) = true := by
  intro i hi
  rcases (by omega : i = 0 ∨ i = 1 ∨ i = 2 ∨ i = 3 ∨ i = 4 ∨ i = 5 ∨ i = 6 ∨ i = 7 ∨ i = 8 ∨ i = 9 ∨ i = 10 ∨ i = 11 ∨ i = 12 ∨ i = 13 ∨ i = 14 ∨ i = 15) with rfl | rfl | rfl | rfl | rfl | rfl | rfl | rfl | rfl | rfl | rfl | rfl | rfl | rfl | rfl | rfl
  · exact fx_c208
  · exact fx_c209
  · exact fx_c210
  · exact fx_c211
  · exact fx_c212
  · exact fx_c213
  · exact fx_c214
  · exact fx_c215
  · exact fx_c216
  · exact fx_c217
  · exact fx_c218
  · exact fx_c219
  · exact fx_c220
  · exact fx_c221
  · exact fx_c222
  · exact fx_c223
set_option maxRecDepth 100000 in
theorem fx_c224 : fx_mokB 224 = true := by decide +kernel
set_option maxRecDepth 100000 in
theorem fx_c225 : fx_mokB 225 = true := by decide +kernel
set_option maxRecDepth 100000 in
theorem fx_c226 : fx_mokB 226 = true := by decide +kernel
set_option maxRecDepth 100000 in
theorem fx_c227 : fx_mokB 227 = true := by decide +kernel
set_option maxRecDepth 100000 in
theorem fx_c228 : fx_mokB 228 = true := by decide +kernel
set_option maxRecDepth 100000 in
theorem fx_c229 : fx_mokB 229 = true := by decide +kernel
set_option maxRecDepth 100000 in
theorem fx_c230 : fx_mokB 230 = true := by decide +kernel
set_option maxRecDepth 100000 in
theorem fx_c231 : fx_mokB 231 = true := by decide +kernel
set_option maxRecDepth 100000 in
theorem fx_c232 : fx_mokB 232 = true := by decide +kernel
set_option maxRecDepth 100000 in
theorem fx_c233 : fx_mokB 233 = true := by decide +kernel
set_option maxRecDepth 100000 in
theorem fx_c234 : fx_mokB 234 = true := by decide +kernel
set_option maxRecDepth 100000 in
theorem fx_c235 : fx_mokB 235 = true := by decide +kernel
set_option maxRecDepth 100000 in
theorem fx_c236 : fx_mokB 236 = true := by decide +kernel
set_option maxRecDepth 100000 in
theorem fx_c237 : fx_mokB 237 = true := by decide +kernel
set_option maxRecDepth 100000 in
theorem fx_c238 : fx_mokB 238 = true := by decide +kernel
set_option maxRecDepth 100000 in
theorem fx_c239 : fx_mokB 239 = true := by decide +kernel
theorem fx_ck14 : ∀ i, i < 16 → fx_mokB (224 + i) = true := by
  intro i hi
  rcases (by omega : i = 0 ∨ i = 1 ∨ i = 2 ∨ i = 3 ∨ i = 4 ∨ i = 5 ∨ i = 6 ∨ i = 7 ∨ i = 8 ∨ i = 9 ∨ i = 10 ∨ i = 11 ∨ i = 12 ∨ i = 13 ∨ i = 14 ∨ i = 15) with rfl | rfl | rfl | rfl | rfl | rfl | rfl | rfl | rfl | rfl | rfl | rfl | rfl | rfl | rfl | rfl
  · exact fx_c224
  · exact fx_c225
  · exact fx_c226
  · exact fx_c227
  · exact fx_c228
  · exact fx_c229
  · exact fx_c230
  · exact fx_c231
  · exact fx_c232
  · exact fx_c233
  · exact fx_c234
  · exact fx_c235
  · exact fx_c236
  · exact fx_c237
  · exact fx_c238
  · exact fx_c239
set_option maxRecDepth 100000 in
theorem fx_c240 : fx_mokB 240 = true := by decide +kernel
set_option maxRecDepth 100000 in
theorem fx_c241 : fx_mokB 241 = true := by decide +kernel
set_option maxRecDepth 100000 in
theorem fx_c242 : fx_mokB 242 = true := by decide +kernel
set_option maxRecDepth 100000 in
theorem fx_c243 : fx_mokB 243 = true := by decide +kernel
set_option maxRecDepth 100000 in
theorem fx_c244 : fx_mokB 244 = true := by decide +kernel
set_option maxRecDepth 100000 in
theorem fx_c245 : fx_mokB 245 = true := by decide +kernel
set_option maxRecDepth 100000 in
theorem fx_c246 : fx_mokB 246 = true := by decide +kernel
set_option maxRecDepth 100000 in
theorem fx_c247 : fx_mokB 247 = true := by decide +kernel
set_option maxRecDepth 100000 in
theorem fx_c248 : fx_mokB 248 = true := by decide +kernel
set_option maxRecDepth 100000 in
theorem fx_c249 : fx_mokB 249 = true := by decide +kernel
set_option maxRecDepth 100000 in
theorem fx_c250 : fx_mokB 250 = true := by decide +kernel
set_option maxRecDepth 100000 in
theorem fx_c251 : fx_mokB 251 = true := by decide +kernel
set_option maxRecDepth 100000 in
theorem fx_c252 : fx_mokB 252 = true := by decide +kernel
set_option maxRecDepth 100000 in
theorem fx_c253 : fx_mokB 253 = true := by decide +kernel
set_option maxRecDepth 100000 in
theorem fx_c254 : fx_mokB 254 = true := by decide +kernel
set_option maxRecDepth 100000 in
theorem fx_c255 : fx_mokB 255 = true := by decide +kernel
theorem fx_ck15 : ∀ i, i < 16 → fx_mokB (240 + i) = true := by
  intro i hi
  rcases (by omega : i = 0 ∨ i = 1 ∨ i = 2 ∨ i = 3 ∨ i = 4 ∨ i = 5 ∨ i = 6 ∨ i = 7 ∨ i = 8 ∨ i = 9 ∨ i = 10 ∨ i = 11 ∨ i = 12 ∨ i = 13 ∨ i = 14 ∨ i = 15) with rfl | rfl | rfl | rfl | rfl | rfl | rfl | rfl | rfl | rfl | rfl | rfl | rfl | rfl | rfl | rfl
  · exact fx_c240
  · exact fx_c241
  · exact fx_c242
  · exact fx_c243
  · exact fx_c244
  · exact fx_c245
  · exact fx_c246
  · exact fx_c247
  · exact fx_c248
  · exact fx_c249
  · exact fx_c250
  · exact fx_c251
  · exact fx_c252
  · exact fx_c253
  · exact fx_c254
  · exact fx_c255
end
section
set_option maxRecDepth 100000 in
theorem fx_c256 : fx_mokB 256 = true := by decide +kernel
set_option maxRecDepth 100000 in
theorem fx_c257 : fx_mokB 257 = true := by decide +kernel
set_option maxRecDepth 100000 in
theorem fx_c258 : fx_mokB 258 = true := by decide +kernel
set_option maxRecDepth 100000 in
theorem fx_c259 : fx_mokB 259 = true := by decide +kernel
set_option maxRecDepth 100000 in
theorem fx_c260 : fx_mokB 260 = true := by decide +kernel
set_option maxRecDepth 100000 in
theorem fx_c261 : fx_mokB 261 = true := by decide +kernel
set_option maxRecDepth 100000 in
theorem fx_c262 : fx_mokB 262 = true := by decide +kernel
set_option maxRecDepth 100000 in
theorem fx_c263 : fx_mokB 263 = true := by decide +kernel
set_option maxRecDepth 100000 in
theorem fx_c264 : fx_mokB 264 = true := by decide +kernel
set_option maxRecDepth 100000 in
theorem fx_c265 : fx_mokB 265 = true := by decide +kernel
set_option maxRecDepth 100000 in
theorem fx_c266 : fx_mokB 266 = true := by decide +kernel
set_option maxRecDepth 100000 in
theorem fx_c267 : fx_mokB 267 = true := by decide +kernel
set_option maxRecDepth 100000 in
theorem fx_c268 : fx_mokB 268 = true := by decide +kernel
set_option maxRecDepth 100000 in
theorem fx_c269 : fx_mokB 269 = true := by decide +kernel
set_option maxRecDepth 100000 in
theorem fx_c270 : fx_mokB 270 = true := by decide +kernel
set_option maxRecDepth 100000 in
theorem fx_c271 : fx_mokB 271 = true := by decide +kernel
theorem fx_ck16 : ∀ i, i < 16 → fx_mokB (256 + i) = true := by
  intro i hi
  rcases (by omega : i = 0 ∨ i = 1 ∨ i = 2 ∨ i = 3 ∨ i = 4 ∨ i = 5 ∨ i = 6 ∨ i = 7 ∨ i = 8 ∨ i = 9 ∨ i = 10 ∨ i = 11 ∨ i = 12 ∨ i = 13 ∨ i = 14 ∨ i = 15) with rfl | rfl | rfl | rfl | rfl | rfl | rfl | rfl | rfl | rfl | rfl | rfl | rfl | rfl | rfl | rfl
  · exact fx_c256
  · exact fx_c257
  · exact fx_c258
  · exact fx_c259
  · exact fx_c260
  · exact fx_c261
  · exact fx_c262
  · exact fx_c263
  · exact fx_c264
  · exact fx_c265
  · exact fx_c266
  · exact fx_c267
  · exact fx_c268
  · exact fx_c269
  · exact fx_c270
  · exact fx_c271
set_option maxRecDepth 100000 in
theorem fx_c272 : fx_mokB 272 = true := by decide +kernel
set_option maxRecDepth 100000 in
theorem fx_c273 : fx_mokB 273 = true := by decide +kernel
set_option maxRecDepth 100000 in
theorem fx_c274 : fx_mokB 274 = true := by decide +kernel
set_option maxRecDepth 100000 in
theorem fx_c275 : fx_mokB 275 = true := by decide +kernel
set_option maxRecDepth 100000 in
theorem fx_c276 : fx_mokB 276 = true := by decide +kernel
set_option maxRecDepth 100000 in
theorem fx_c277 : fx_mokB 277 = true := by decide +kernel
set_option maxRecDepth 100000 in
theorem fx_c278 : fx_mokB 278 = true := by decide +kernel
set_option maxRecDepth 100000 in
theorem fx_c279 : fx_mokB 279 = true := by decide +kernel
set_option maxRecDepth 100000 in
theorem fx_c280 : fx_mokB 280 = true := by decide +kernel
set_option maxRecDepth 100000 in
theorem fx_c281 : fx_mokB 281 = true := by decide +kernel
set_option maxRecDepth 100000 in
theorem fx_c282 : fx_mokB 282 = true := by decide +kernel
set_option maxRecDepth 100000 in
theorem fx_c283 : fx_mokB 283 = true := by decide +kernel
set_option maxRecDepth 100000 in
theorem fx_c284 : fx_mokB 284 = true := by decide +kernel
set_option maxRecDepth 100000 in
theorem fx_c285 : fx_mokB 285 = true := by decide +kernel
set_option maxRecDepth 100000 in
theorem fx_c286 : fx_mokB 286 = true := by decide +kernel
set_option maxRecDepth 100000 in
theorem fx_c287 : fx_mokB 287 = true := by decide +kernel
theorem fx_ck17 : ∀ i, i < 16 → fx_mokB (272 + i) = true := by
  intro i hi
  rcases (by omega : i = 0 ∨ i = 1 ∨ i = 2 ∨ i = 3 ∨ i = 4 ∨ i = 5 ∨ i = 6 ∨ i = 7 ∨ i = 8 ∨ i = 9 ∨ i = 10 ∨ i = 11 ∨ i = 12 ∨ i = 13 ∨ i = 14 ∨ i = 15) with rfl | rfl | rfl | rfl | rfl | rfl | rfl | rfl | rfl | rfl | rfl | rfl | rfl | rfl | rfl | rfl
  · exact fx_c272
  · exact fx_c273
  · exact fx_c274
  · exact fx_c275
  · exact fx_c276
  · exact fx_c277
  · exact fx_c278
  · exact fx_c279
  · exact fx_c280
  · exact fx_c281
  · exact fx_c282
  · exact fx_c283
  · exact fx_c284
  · exact fx_c285
  · exact fx_c286
  · exact fx_c287
set_option maxRecDepth 100000 in
theorem fx_c288 : fx_mokB 288 = true := by decide +kernel
set_option maxRecDepth 100000 in
theorem fx_c289 : fx_mokB 289 = true := by decide +kernel
set_option maxRecDepth 100000 in
theorem fx_c290 : fx_mokB 290 = true := by decide +kernel
set_option maxRecDepth 100000 in
theorem fx_c291 : fx_mokB 291 = true := by decide +kernel
set_option maxRecDepth 100000 in
theorem fx_c292 : fx_mokB 292 = true := by decide +kernel
set_option maxRecDepth 100000 in
theorem fx_c293 : fx_mokB 293 = true := by decide +kernel
set_option maxRecDepth 100000 in
theorem fx_c294 : fx_mokB 294 = true := by decide +kernel
set_option maxRecDepth 100000 in
theorem fx_c295 : fx_mokB 295 = true := by decide +kernel
set_option maxRecDepth 100000 in
theorem fx_c296 : fx_mokB 296 = true := by decide +kernel
set_option maxRecDepth 100000 in
theorem fx_c297 : fx_mokB 297 = true := by decide +kernel
set_option maxRecDepth 100000 in
theorem fx_c298 : fx_mokB 298 = true := by decide +kernel
set_option maxRecDepth 100000 in
theorem fx_c299 : fx_mokB 299 = true := by decide +kernel
set_option maxRecDepth 100000 in
theorem fx_c300 : fx_mokB 300 = true := by decide +kernel
set_option maxRecDepth 100000 in
theorem fx_c301 : fx_mokB 301 = true := by decide +kernel
set_option maxRecDepth 100000 in
theorem fx_c302 : fx_mokB 302 = true := by decide +kernel
set_option maxRecDepth 100000 in
theorem fx_c303 : fx_mokB 303 = true := by decide +kernel
theorem fx_ck18 : ∀ i, i < 16 → fx_mokB (288 + i) = true := by
  intro i hi
  rcases (by omega : i = 0 ∨ i = 1 ∨ i = 2 ∨ i = 3 ∨ i = 4 ∨ i = 5 ∨ i = 6 ∨ i = 7 ∨ i = 8 ∨ i = 9 ∨ i = 10 ∨ i = 11 ∨ i = 12 ∨ i = 13 ∨ i = 14 ∨ i = 15) with rfl | rfl | rfl | rfl | rfl | rfl | rfl | rfl | rfl | rfl | rfl | rfl | rfl | rfl | rfl | rfl
  · exact fx_c288
  · exact fx_c289
  · exact fx_c290
  · exact fx_c291
  · exact fx_c292
  · exact fx_c293
  · exact fx_c294
  · exact fx_c295
  · exact fx_c296
  · exact fx_c297
  · exact fx_c298
  · exact fx_c299
  · exact fx_c300
  · exact fx_c301
  · exact fx_c302
  · exact fx_c303
end
section
theorem fx_mt_lt {c : Nat} {M : fx_M} (h : fx_mt c = some M) : c < 304 := by
  rcases Nat.lt_or_ge c 304 with q | q
  · exact q
  · exfalso
    unfold fx_mt at h
    rw [fx_nth_eq] at h
    have h1 : fx_mtl.length = 19 := rfl
    have h2 : fx_mtl[c / 16]? = none := List.getElem?_eq_none (by
      rw [h1]
      show 19 ≤ c / 16
      omega)
    rw [h2] at h
    cases h
theorem fx_mall_ok : fx_mall fx_mst fx_mt := by
  intro c M hm
  have hc := fx_mt_lt hm
  have key : fx_mokB c = true := by
    rcases (by omega : c / 16 = 0 ∨ c / 16 = 1 ∨ c / 16 = 2 ∨ c / 16 = 3 ∨ c / 16 = 4 ∨ c / 16 = 5 ∨ c / 16 = 6 ∨ c / 16 = 7 ∨ c / 16 = 8 ∨ c / 16 = 9 ∨ c / 16 = 10 ∨ c / 16 = 11 ∨ c / 16 = 12 ∨ c / 16 = 13 ∨ c / 16 = 14 ∨ c / 16 = 15 ∨ c / 16 = 16 ∨ c / 16 = 17 ∨ c / 16 = 18) with q | q | q | q | q | q | q | q | q | q | q | q | q | q | q | q | q | q | q
    · have := fx_ck0 (c - 0) (by omega)
      rwa [show 0 + (c - 0) = c by omega] at this
    · have := fx_ck1 (c - 16) (by omega)
      rwa [show 16 + (c - 16) = c by omega] at this
    · have := fx_ck2 (c - 32) (by omega)
      rwa [show 32 + (c - 32) = c by omega] at this
    · have := fx_ck3 (c - 48) (by omega)
      rwa [show 48 + (c - 48) = c by omega] at this
    · have := fx_ck4 (c - 64) (by omega)
      rwa [show 64 + (c - 64) = c by omega] at this
    · have := fx_ck5 (c - 80) (by omega)
      rwa [show 80 + (c - 80) = c by omega] at this
    · have := fx_ck6 (c - 96) (by omega)
      rwa [show 96 + (c - 96) = c by omega] at this
    · have := fx_ck7 (c - 112) (by omega)
      rwa [show 112 + (c - 112) = c by omega] at this
    · have := fx_ck8 (c - 128) (by omega)
      rwa [show 128 + (c - 128) = c by omega] at this
    · have := fx_ck9 (c - 144) (by omega)
      rwa [show 144 + (c - 144) = c by omega] at this
    · have := fx_ck10 (c - 160) (by omega)
      rwa [show 160 + (c - 160) = c by omega] at this
    · have := fx_ck11 (c - 176) (by omega)
      rwa [show 176 + (c - 176) = c by omega] at this
    · have := fx_ck12 (c - 192) (by omega)
      rwa [show 192 + (c - 192) = c by omega] at this
    · have := fx_ck13 (c - 208) (by omega)
      rwa [show 208 + (c - 208) = c by omega] at this
    · have := fx_ck14 (c - 224) (by omega)
      rwa [show 224 + (c - 224) = c by omega] at this
    · have := fx_ck15 (c - 240) (by omega)
      rwa [show 240 + (c - 240) = c by omega] at this
    · have := fx_ck16 (c - 256) (by omega)
      rwa [show 256 + (c - 256) = c by omega] at this
    · have := fx_ck17 (c - 272) (by omega)
      rwa [show 272 + (c - 272) = c by omega] at this
    · have := fx_ck18 (c - 288) (by omega)
      rwa [show 288 + (c - 288) = c by omega] at this
  exact fx_mokB_ok key hm
set_option maxRecDepth 100000 in
theorem fx_wd_b : (fx_wq 262 (Cond.arrayClass (fx_ty 0)) && (fx_wq 233 (Cond.arrayClass (fx_ty 1)) && (fx_wq 497 (Cond.arrayClass (fx_ty 2)) && fx_wq 234 (Cond.arrayClass (fx_ty 3))))) = true ∧ (fx_wq 135 (Cond.instanceMethod Lib.objectInit) && fx_wq 136 (Cond.code Lib.objectInit ⟨#[0xb1]⟩ 1 none)) = true ∧ (fx_wq 547 (Cond.native arraycopyName) && (fx_wq 546 (Cond.static arraycopyName) && fx_wq 125 (Cond.initialized "java/lang/System"))) = true ∧ (fx_wq 485 (Cond.static Lib.Math.max.name) && (fx_wq 486 (Cond.code Lib.Math.max.name Lib.Math.max.code 2 (some .int)) && (fx_wq 662 (Cond.static Lib.Math.min.name) && (fx_wq 663 (Cond.code Lib.Math.min.name Lib.Math.min.code 2 (some .int)) && fx_wq 123 (Cond.initialized "java/lang/Math"))))) = true := by decide +kernel
theorem fx_wd_ok : fx_wd := by
  obtain ⟨h1, h2, h3, h4⟩ := fx_wd_b
  obtain ⟨a0, h1⟩ := fx_and h1
  obtain ⟨a1, h1⟩ := fx_and h1
  obtain ⟨a2, a3⟩ := fx_and h1
  obtain ⟨b0, b1⟩ := fx_and h2
  obtain ⟨c0, h3⟩ := fx_and h3
  obtain ⟨c1, c2⟩ := fx_and h3
  obtain ⟨d0, h4⟩ := fx_and h4
  obtain ⟨d1, h4⟩ := fx_and h4
  obtain ⟨d2, h4⟩ := fx_and h4
  obtain ⟨d3, d4⟩ := fx_and h4
  refine ⟨fun t ht => ?_, ⟨fx_wq_ok b0, fx_wq_ok b1⟩, ⟨fx_wq_ok c0, fx_wq_ok c1, fx_wq_ok c2⟩, ⟨fx_wq_ok d0, fx_wq_ok d1⟩, ⟨fx_wq_ok d2, fx_wq_ok d3⟩, fx_wq_ok d4⟩
  rcases (by omega : t = 0 ∨ t = 1 ∨ t = 2 ∨ t = 3) with rfl | rfl | rfl | rfl
  · exact fx_wq_ok a0
  · exact fx_wq_ok a1
  · exact fx_wq_ok a2
  · exact fx_wq_ok a3
end
section
/-! runs over plain numbers, no picture of unknown ones: rx_run says that the machine comes to an end from here, with an answer and a heap that K allows -/
noncomputable def rx_b (P : Prop) : Bool := @decide P (Classical.propDecidable P)
theorem rx_b_iff {P : Prop} : rx_b P = true ↔ P := by
  unfold rx_b
  exact @decide_eq_true_iff P (Classical.propDecidable P)
noncomputable def rx_n (z : Int32) : Nat := fx_b (fx_z z)
theorem rx_n_of (z : Int32) : Int32.ofNat (rx_n z) = z := fx_of_z z
theorem rx_b_lt (n : Nat) : fx_b n < 4294967296 := Nat.mod_lt _ (by decide)
theorem rx_n_lt (z : Int32) : rx_n z < 4294967296 := rx_b_lt _
theorem rx_n_b (z : Int32) : fx_b (rx_n z) = fx_z z := fx_b_b _ (fx_z_max z)
def rx_l (z : Int64) : Nat := z.toUInt64.toNat
theorem rx_l_of (z : Int64) : Int64.ofNat (rx_l z) = z := by
  unfold rx_l
  apply Int64.toBitVec_inj.1
  simp
abbrev rx_K : Type := Option fx_V → fx_H → Prop
def rx_run (l : Launch) (X : fx_X) (Y : fx_Y) (B : fx_B) (d : Nat) (cod at_ : List fx_I) (loc : fx_L) (stk : List fx_V) (h : fx_H) (K : rx_K) : Prop :=
  ∀ (p : Program) (e : Env) (R : Room) (s : State) (m : MethodId) (args : Array Value) (below : List Frame) (meth : Method) (c : Code) (Q : State → Prop) (cc : ByteArray) (nL : Nat) (own : String) (ini : Bool) (rt : Option FieldType),
    fx_fs X Y B fx_mst fx_mt p s m args meth c cc nL own ini rt cod → fx_rm R d 0 0 → (∀ q ∈ at_, q ∈ cod) → fx_rt l X Y p e R s m args below meth c Q cc rt 0 0 (fun v h' _ => rx_b (K v h')) →
    ∀ H locs ls st, fx_st X Y nL loc stk h [] H locs ls st → W p l e R s m args below meth c H locs 0 0 Q (F0 m (fx_pc at_) ls st)
noncomputable def rx_go (l : Launch) (X : fx_X) (Y : fx_Y) (B : fx_B) (d : Nat) (cod : List fx_I) (K : rx_K) : fx_O := fun at_ loc stk ce sl h j => rx_b (at_ ≠ [] ∧ ce = 0 ∧ sl = 0 ∧ j = [] ∧ rx_run l X Y B d cod at_ loc stk h K)
def rx_ih : fx_G := fun _ _ _ _ _ _ _ _ _ _ _ _ => false
noncomputable def rx_E : fx_E := (fx_mt, fx_swt, fx_cd, (fun _ _ _ => none), (fun _ _ _ => false))
section RX
variable {l : Launch} {X : fx_X} {Y : fx_Y} {B : fx_B} {d : Nat} {cod : List fx_I} {K : rx_K} {loc : fx_L} {stk : List fx_V} {h : fx_H} {pc a b c : Nat} {tl : List fx_I}
theorem rx_go_iff {at_ : List fx_I} : rx_go l X Y B d cod K at_ loc stk 0 0 h [] = true ↔ (at_ ≠ [] ∧ rx_run l X Y B d cod at_ loc stk h K) := by
  unfold rx_go
  rw [rx_b_iff]
  exact ⟨fun q => ⟨q.1, q.2.2.2.2⟩, fun q => ⟨q.1, rfl, rfl, rfl, q.2⟩⟩
theorem rx_gok {p : Program} {e : Env} {R : Room} {s : State} {m : MethodId} {args : Array Value} {below : List Frame} {meth : Method} {c : Code} {Q : State → Prop} {cc : ByteArray} {nL : Nat} {own : String} {ini : Bool} {rt : Option FieldType} (F : fx_fs X Y B fx_mst fx_mt p s m args meth c cc nL own ini rt cod) (hR : fx_rm R d 0 0) (hrt : fx_rt l X Y p e R s m args below meth c Q cc rt 0 0 (fun v h' _ => rx_b (K v h'))) : fx_gok l X Y p e R s m args below meth c Q nL cod 0 0 (rx_go l X Y B d cod K) := by
  refine ⟨fun loc stk ce sl h j => ?_, fun at_ loc stk ce sl h j e9 hs9 H locs ls st hst h1 h2 => ?_⟩
  · cases hq : rx_go l X Y B d cod K [] loc stk ce sl h j with
    | false => rfl
    | true => exact absurd rfl (rx_b_iff.mp hq).1
  · obtain ⟨-, rfl, rfl, rfl, hr⟩ := rx_b_iff.mp e9
    exact hr p e R s m args below meth c Q cc nL own ini rt F hR hs9 hrt H locs ls st hst
/-- one instruction of the executor, the rest any run -/
theorem rx_one (hXX : fx_xx X B) (hma : fx_mall fx_mst fx_mt) (hwd : fx_wd) {kd : Nat} (ee : fx_one rx_E rx_ih (rx_go l X Y B d cod K) d cod pc kd a b c tl loc stk 0 0 0 0 h [] (fun v h' _ => rx_b (K v h')) = true) : rx_run l X Y B d cod ((pc, kd, a, b, c) :: tl) loc stk h K := by
  intro p e R s m args below meth c0 Q cc nL own ini rt F hR hsub hrt H locs ls st hs
  have hf : fx_snd l X Y B fx_mst rx_E rx_ih := ⟨fun _ _ _ _ _ _ _ _ _ _ _ => rfl, fun _ _ _ _ _ _ _ _ _ _ _ _ q => by cases q⟩
  have hsum : fx_sum l X Y B fx_mst rx_E := fun _ _ _ _ _ _ _ _ _ q => by cases q
  have hcu : fx_cu l X Y rx_E p e R s m args below meth c0 Q nL cod 0 0 := fun _ _ _ _ _ _ _ _ _ _ _ q => by cases q
  exact fx_one_ok hf hXX hma hsum rfl rfl hwd F hR hrt hcu (rx_gok F hR hrt) (hsub _ List.mem_cons_self) (fun q hq => hsub q (List.mem_cons_of_mem _ hq)) ee hs (Nat.le_refl _) (Nat.le_refl _)
/-- a cut in front of an instruction -/
theorem rx_skip {r : fx_I} {t : List fx_I} (hr : r.1 = pc) (k : rx_run l X Y B d cod (r :: t) loc stk h K) : rx_run l X Y B d cod ((pc, 28, a, b, c) :: r :: t) loc stk h K := by
  intro p e R s m args below meth c0 Q cc nL own ini rt F hR hsub hrt H locs ls st hs
  have K1 := k p e R s m args below meth c0 Q cc nL own ini rt F hR (fun q hq => hsub q (List.mem_cons_of_mem _ hq)) hrt H locs ls st hs
  rw [show fx_pc (r :: t) = pc from hr] at K1
  exact K1
/-- weaker ends -/
theorem rx_mono {at_ : List fx_I} {K2 : rx_K} (k : rx_run l X Y B d cod at_ loc stk h K) (hK : ∀ v h', K v h' → K2 v h') : rx_run l X Y B d cod at_ loc stk h K2 := by
  intro p e R s m args below meth c0 Q cc nL own ini rt F hR hsub hrt H locs ls st hs
  exact k p e R s m args below meth c0 Q cc nL own ini rt F hR hsub (fun v w h' j' H' locs' ce sl pc' ls' hk => hrt v w h' j' H' locs' ce sl pc' ls' (rx_b_iff.mpr (hK _ _ (rx_b_iff.mp hk)))) H locs ls st hs
abbrev rx_nx (l : Launch) (X : fx_X) (Y : fx_Y) (B : fx_B) (d : Nat) (cod : List fx_I) (K : rx_K) (pc len : Nat) (tl : List fx_I) (loc : fx_L) (stk : List fx_V) (h : fx_H) : Prop := fx_nx (fun t => rx_go l X Y B d cod K t loc stk 0 0 h []) pc len tl = true
theorem rx_bin {o x y : Nat} (hne : o = 3 ∨ o = 4 → ¬ Int32.ofNat y = 0) (hn : rx_nx l X Y B d cod K pc 1 tl loc (fc (rx_n (fx_op o (Int32.ofNat x) (Int32.ofNat y))) :: stk) h) : rx_run l X Y B d cod ((pc, 12, o, b, c) :: tl) loc (fc y :: fc x :: stk) h K := by
  intro p e R s m args below meth c0 Q cc nL own ini rt F hR hsub hrt H locs ls st hs
  have hgo := rx_gok F hR hrt
  obtain ⟨hx, hb, -, -, -, -, -, -, -, -, hcod⟩ := F
  obtain ⟨hd, ha⟩ := hcod _ _ _ _ _ (hsub _ List.mem_cons_self) (by decide)
  have ho := ha.2.2.2.2.2.1 rfl
  obtain ⟨hl0, hst, hrh, hrj, hls⟩ := hs
  obtain ⟨wy, st1, rfl, hry, hst1⟩ := fx_rl_cons hst
  obtain ⟨wx, st, rfl, hrx, hst2⟩ := fx_rl_cons hst1
  have hry : wy = .int (Int32.ofNat y) := hry
  have hrx : wx = .int (Int32.ofNat x) := hrx
  subst hry; subst hrx
  exact fx_wbin hx hb ho hd hne (fx_nxt hgo (fun q hq => hsub q (List.mem_cons_of_mem _ hq)) hn ⟨hl0, ⟨by show Value.int _ = .int (Int32.ofNat (rx_n _)); rw [rx_n_of], hst2⟩, hrh, hrj, hls⟩ (Nat.le_refl _) (Nat.le_refl _))
def rx_uop (o : Nat) (z : Int32) : Int32 := match o with
  | 0 => - z
  | 1 => z.toInt8.toInt32
  | _ => (z.toUInt32 % 65536).toInt32
theorem rx_un {o x : Nat} (ho : o < 3) (hn : rx_nx l X Y B d cod K pc 1 tl loc (fc (rx_n (rx_uop o (Int32.ofNat x))) :: stk) h) : rx_run l X Y B d cod ((pc, 13, o, b, c) :: tl) loc (fc x :: stk) h K := by
  intro p e R s m args below meth c0 Q cc nL own ini rt F hR hsub hrt H locs ls st hs
  have hgo := rx_gok F hR hrt
  obtain ⟨hx, hb, -, -, -, -, -, -, -, -, hcod⟩ := F
  obtain ⟨hd, ha⟩ := hcod _ _ _ _ _ (hsub _ List.mem_cons_self) (by decide)
  obtain ⟨hl0, hst, hrh, hrj, hls⟩ := hs
  obtain ⟨wx, st, rfl, hrx, hst2⟩ := fx_rl_cons hst
  have hrx : wx = .int (Int32.ofNat x) := hrx
  subst hrx
  have KK := fx_nxt hgo (fun q hq => hsub q (List.mem_cons_of_mem _ hq)) hn (H := H) (locs := locs) (ls := ls) (st := .int (rx_uop o (Int32.ofNat x)) :: st) ⟨hl0, ⟨by show Value.int _ = .int (Int32.ofNat (rx_n _)); rw [rx_n_of], hst2⟩, hrh, hrj, hls⟩ (Nat.le_refl _) (Nat.le_refl _)
  rcases (by omega : o = 0 ∨ o = 1 ∨ o = 2) with rfl | rfl | rfl
  · exact lv_ineg hx hb hd KK
  · exact lv_i2b hx hb hd rfl KK
  · exact lv_i2c hx hb hd rfl KK
theorem rx_i2l {x : Nat} (hn : ∀ n, rx_nx l X Y B d cod K pc 1 tl loc (fl n :: stk) h) : rx_run l X Y B d cod ((pc, 13, 3, b, c) :: tl) loc (fc x :: stk) h K := by
  intro p e R s m args below meth c0 Q cc nL own ini rt F hR hsub hrt H locs ls st hs
  have hgo := rx_gok F hR hrt
  obtain ⟨hx, hb, -, -, -, -, -, -, -, -, hcod⟩ := F
  obtain ⟨hd, ha⟩ := hcod _ _ _ _ _ (hsub _ List.mem_cons_self) (by decide)
  obtain ⟨hl0, hst, hrh, hrj, hls⟩ := hs
  obtain ⟨wx, st, rfl, hrx, hst2⟩ := fx_rl_cons hst
  have hrx : wx = .int (Int32.ofNat x) := hrx
  subst hrx
  exact lv_i2l hx hb hd rfl (fx_nxt hgo (fun q hq => hsub q (List.mem_cons_of_mem _ hq)) (hn (rx_l (Int32.ofNat x).toInt64)) ⟨hl0, ⟨by show Value.long _ = .long (Int64.ofNat (rx_l _)); rw [rx_l_of], hst2⟩, hrh, hrj, hls⟩ (Nat.le_refl _) (Nat.le_refl _))
theorem rx_lbin {o x y : Nat} (hn : ∀ n, rx_nx l X Y B d cod K pc 1 tl loc (fl n :: stk) h) : rx_run l X Y B d cod ((pc, 24, o, b, c) :: tl) loc (fl y :: fl x :: stk) h K := by
  intro p e R s m args below meth c0 Q cc nL own ini rt F hR hsub hrt H locs ls st hs
  have hgo := rx_gok F hR hrt
  obtain ⟨hx, hb, -, -, -, -, -, -, -, -, hcod⟩ := F
  obtain ⟨hd, ha⟩ := hcod _ _ _ _ _ (hsub _ List.mem_cons_self) (by decide)
  have ho := ha.2.2.2.2.2.2.2.2.2.2.2.2.1 rfl
  obtain ⟨hl0, hst, hrh, hrj, hls⟩ := hs
  obtain ⟨wy, st1, rfl, hry, hst1⟩ := fx_rl_cons hst
  obtain ⟨wx, st, rfl, hrx, hst2⟩ := fx_rl_cons hst1
  have hry : wy = .long (Int64.ofNat y) := hry
  have hrx : wx = .long (Int64.ofNat x) := hrx
  subst hry; subst hrx
  have KK : ∀ z : Int64, W p l e R s m args below meth c0 H locs 0 0 Q (F0 m (pc + 1) ls (.long z :: st)) := fun z => fx_nxt hgo (fun q hq => hsub q (List.mem_cons_of_mem _ hq)) (hn (rx_l z)) ⟨hl0, ⟨by show Value.long _ = .long (Int64.ofNat (rx_l _)); rw [rx_l_of], hst2⟩, hrh, hrj, hls⟩ (Nat.le_refl _) (Nat.le_refl _)
  rcases (by omega : o = 0 ∨ o = 1 ∨ o = 2 ∨ o = 3) with rfl | rfl | rfl | rfl
  · exact lv_ladd hx hb hd (KK _)
  · exact lv_lsub hx hb hd (KK _)
  · exact lv_lmul hx hb hd (KK _)
  · exact lv_lor hx hb hd (KK _)
theorem rx_lshl {x y : Nat} (hn : ∀ n, rx_nx l X Y B d cod K pc 1 tl loc (fl n :: stk) h) : rx_run l X Y B d cod ((pc, 31, a, b, c) :: tl) loc (fc y :: fl x :: stk) h K := by
  intro p e R s m args below meth c0 Q cc nL own ini rt F hR hsub hrt H locs ls st hs
  have hgo := rx_gok F hR hrt
  obtain ⟨hx, hb, -, -, -, -, -, -, -, -, hcod⟩ := F
  obtain ⟨hd, ha⟩ := hcod _ _ _ _ _ (hsub _ List.mem_cons_self) (by decide)
  obtain ⟨hl0, hst, hrh, hrj, hls⟩ := hs
  obtain ⟨wy, st1, rfl, hry, hst1⟩ := fx_rl_cons hst
  obtain ⟨wx, st, rfl, hrx, hst2⟩ := fx_rl_cons hst1
  have hry : wy = .int (Int32.ofNat y) := hry
  have hrx : wx = .long (Int64.ofNat x) := hrx
  subst hry; subst hrx
  exact lv_lshl hx hb hd rfl (fx_nxt hgo (fun q hq => hsub q (List.mem_cons_of_mem _ hq)) (hn (rx_l _)) ⟨hl0, ⟨by show Value.long _ = .long (Int64.ofNat (rx_l _)); rw [rx_l_of], hst2⟩, hrh, hrj, hls⟩ (Nat.le_refl _) (Nat.le_refl _))
end RX
end
section
/-- what a code must do from here, for every frame (the executor's soundness, as a property of one place) -/
def rx_sem (l : Launch) (X : fx_X) (Y : fx_Y) (B : fx_B) (d : Nat) (cod at_ : List fx_I) (loc : fx_L) (stk : List fx_V) (ce sl mc ms : Nat) (h : fx_H) (j : fx_J) (k : fx_K) : Prop :=
  ∀ (p : Program) (e : Env) (R : Room) (s : State) (m : MethodId) (args : Array Value) (below : List Frame) (meth : Method) (c : Code) (Q : State → Prop) (cc : ByteArray) (nL : Nat) (own : String) (ini : Bool) (rt : Option FieldType),
    fx_fs X Y B fx_mst fx_mt p s m args meth c cc nL own ini rt cod → fx_rm R d mc ms → (∀ q ∈ at_, q ∈ cod) → fx_rt l X Y p e R s m args below meth c Q cc rt mc ms k → fx_cu l X Y rx_E p e R s m args below meth c Q nL cod mc ms →
    ∀ H locs ls st, fx_st X Y nL loc stk h j H locs ls st → ce ≤ mc → sl ≤ ms → W p l e R s m args below meth c H locs ce sl Q (F0 m (fx_pc at_) ls st)
noncomputable def rx_ihs (l : Launch) (X : fx_X) (Y : fx_Y) (B : fx_B) : fx_G := fun d cod at_ loc stk ce sl mc ms h j k => rx_b (at_ ≠ [] ∧ rx_sem l X Y B d cod at_ loc stk ce sl mc ms h j k)
theorem rx_snd {l : Launch} {X : fx_X} {Y : fx_Y} {B : fx_B} : fx_snd l X Y B fx_mst rx_E (rx_ihs l X Y B) := by
  refine ⟨fun d cod loc stk ce sl mc ms h j k => ?_, fun d cod at_ loc stk ce sl mc ms h j k ee p e R s m args below meth c Q cc nL own ini rt F hR hs hrt hcu H locs ls st hst h1 h2 => ?_⟩
  · cases hq : rx_ihs l X Y B d cod [] loc stk ce sl mc ms h j k with
    | false => rfl
    | true => exact absurd rfl (rx_b_iff.mp hq).1
  · exact (rx_b_iff.mp ee).2 p e R s m args below meth c Q cc nL own ini rt F hR hs hrt hcu H locs ls st hst h1 h2
/-- a method's contract: a code (its own, cuts put in) that runs so from its start -/
def rx_met (l : Launch) (X : fx_X) (Y : fx_Y) (B : fx_B) (c d : Nat) (as : List fx_V) (h : fx_H) (K : rx_K) : Prop := ∀ M, fx_mt c = some M → ∃ cod, (∀ q ∈ cod, q.2.1 ≠ 28 → q ∈ M.1) ∧ cod ≠ [] ∧ fx_pc cod = fx_pc M.1 ∧ rx_run l X Y B d cod cod (fx_args as 0) [] h K
section RXC
variable {l : Launch} {X : fx_X} {Y : fx_Y} {B : fx_B} {d : Nat} {cod : List fx_I} {K : rx_K} {loc : fx_L} {stk : List fx_V} {h : fx_H} {pc a b c : Nat} {tl : List fx_I}
theorem rx_deep {d2 : Nat} (hd : d ≤ d2) {at_ : List fx_I} (k : rx_run l X Y B d cod at_ loc stk h K) : rx_run l X Y B d2 cod at_ loc stk h K := by
  intro p e R s m args below meth c0 Q cc nL own ini rt F hR hsub hrt H locs ls st hs
  exact k p e R s m args below meth c0 Q cc nL own ini rt F ⟨by have := hR.1; omega, by have := hR.2.1; omega, hR.2.2.1, hR.2.2.2⟩ hsub hrt H locs ls st hs
theorem rx_met_deep {d2 : Nat} (hd : d ≤ d2) {as : List fx_V} (k : rx_met l X Y B c d as h K) : rx_met l X Y B c d2 as h K := by
  intro M hM
  obtain ⟨cod, h1, h2, h3, h4⟩ := k M hM
  exact ⟨cod, h1, h2, h3, rx_deep hd h4⟩
theorem rx_met_mono {as : List fx_V} {K2 : rx_K} (k : rx_met l X Y B c d as h K) (hK : ∀ v h', K v h' → K2 v h') : rx_met l X Y B c d as h K2 := by
  intro M hM
  obtain ⟨cod, h1, h2, h3, h4⟩ := k M hM
  exact ⟨cod, h1, h2, h3, rx_mono h4 hK⟩
theorem rx_rj0 {X : fx_X} : fx_rj X [] := fun i q hq => by simp at hq
theorem rx_ble {a b : Nat} (h : a ≤ b) : Nat.ble a b = true := Nat.ble_eq_true_of_le h
theorem rx_call (hXX : fx_xx X B) (hma : fx_mall fx_mst fx_mt) {M : fx_M} (hmt : fx_mt c = some M) {as st : List fx_V} (hsp : fx_split M.2.1 stk = some (as, st)) (h8 : fx_cats st ≤ 8) (hm0 : M.2.2.1 = 0) (hs0 : M.2.2.2.1 = 0) (hM1 : M.1 ≠ []) (hnl : fx_cats as ≤ M.2.2.2.2.2) (hrc : fx_rcv M.2.2.2.2.1 h as = true) (ha5 : a < 5) {Kc : rx_K} (hk : rx_met l X Y B c d as h Kc) (hn : ∀ v h', Kc v h' → rx_nx l X Y B (d + 1) cod K pc 3 tl loc (fx_ret st v) h') : rx_run l X Y B (d + 1) cod ((pc, 9, a, b, c) :: tl) loc stk h K := by
  intro p e R s m args below meth c0 Q cc nL own ini rt F hR hsub hrt H locs ls st0 hs
  have hsum : fx_sum l X Y B fx_mst rx_E := fun _ _ _ _ _ _ _ _ _ q => by cases q
  refine fx_s9 rx_snd hXX hma hsum F hR (rx_gok F hR hrt) (hsub _ List.mem_cons_self) (fun q hq => hsub q (List.mem_cons_of_mem _ hq)) ?_ hs
  obtain ⟨cod2, g1, g2, g3, g4⟩ := hk M hmt
  obtain ⟨cod', na, mc', ms', t', nl'⟩ := M
  have hm0 : mc' = 0 := hm0
  have hs0 : ms' = 0 := hs0
  subst hm0; subst hs0
  have hne : cod' ≠ [] := hM1
  have hsp : fx_split na stk = some (as, st) := hsp
  have hnl : fx_cats as ≤ nl' := hnl
  have hrc : fx_rcv t' h as = true := hrc
  have hmt : fx_mt c = some (cod', na, 0, 0, t', nl') := hmt
  have g1 : ∀ q ∈ cod2, q.2.1 ≠ 28 → q ∈ cod' := g1
  have g3 : fx_pc cod2 = fx_pc cod' := g3
  have key : rx_ihs l X Y B d cod' cod' (fx_args as 0) [] 0 0 0 0 h [] (fun v h' j' => fx_num (0 + 0) (fun ce => fx_num (0 + 0) (fun sl => fx_nx (fun t => rx_go l X Y B (d + 1) cod K t loc (fx_ret st v) ce sl h' j') pc 3 tl))) = true := by
    refine rx_b_iff.mpr ⟨hne, ?_⟩
    intro p e R s m args below meth c0 Q cc nL own ini rt F hR hsub hrt hcu H locs ls st0 hs _ _
    rw [← g3]
    refine g4 p e R s m args below meth c0 Q cc nL own ini rt ?_ hR (fun q hq => hq) ?_ H locs ls st0 hs
    · obtain ⟨f1, f2, f3, f4, f5, f6, f7, f8, f9, f10, f11⟩ := F
      exact ⟨f1, f2, f3, f4, f5, f6, f7, f8, f9, f10, fun pc kd a b d hin hk => f11 pc kd a b d (g1 _ hin hk) hk⟩
    · intro v w h' j' H' locs' ce sl pc' ls' hk' hro hrh hrj hls hce hsl hrets
      exact hrt v w h' [] H' locs' ce sl pc' ls' (hn v h' (rx_b_iff.mp hk')) hro hrh rx_rj0 hls hce hsl hrets
  have e8 : Nat.ble (fx_cats st) 8 = true := rx_ble h8
  have e9 : Nat.ble (fx_cats as) nl' = true := rx_ble hnl
  rw [show Nat.blt a 5 = true from rx_ble ha5, Bool.true_and]
  unfold fx_call
  simp only [show rx_E.1 c = some (cod', na, 0, 0, t', nl') from hmt, hsp, e8, e9, hrc, Bool.true_and, Nat.add_zero]
  have e10 : fx_if (Nat.ble 10 d) (rx_E.2.2.2.1 c as h) none = none := by
    cases Nat.ble 10 d <;> rfl
  rw [e10]
  exact key
end RXC
end
section
/-! an analysis over intervals: ints are constants or numbered ones (their numbers stand in a list), the heap is a table of what its places may hold, and what is known of some places now -/
abbrev ai_J : Type := List (Nat × (Nat × (Nat × (Nat × Nat))))
abbrev ai_F : Type := Nat ⊕ ((Nat × Nat) ⊕ List (Option Nat))
abbrev ai_C : Type := (Nat × List ai_F) ⊕ (Nat × (Nat × List (Nat × Nat)))
abbrev ai_T : Type := List (List ai_C)
/-- an interval (biased), or this value (a long: 0 any, 1 none of ai_WL, c + 2 the number c) -/
abbrev ai_S : Type := (Nat × Nat) ⊕ fx_V
abbrev ai_R : Type := List (Nat × (ai_S × (Nat × Nat)))
/-- a loop's head: what falls (0 a slot, 1 a place; which; 0 upwards, 1 downwards), locals, places -/
abbrev ai_A : Type := (Nat × (Nat × Nat)) × (ai_R × ai_R)
abbrev ai_M : Type := List Nat × List Nat
/-- a contract: values, places ahead; answer, places behind; what it writes; how deep -/
abbrev ai_I : Type := (List ai_S × List (Nat × ai_S)) × ((Option ai_S × List (Nat × ai_S)) × (ai_M × Nat))
/-- table, contracts by method, inlined ones, what may be written, what the code itself (without its calls) may write, heads by pc -/
abbrev ai_E : Type := ai_T × ((Nat → List ai_I) × ((Nat → Bool) × (ai_M × (ai_M × (Nat → List ai_A)))))
abbrev ai_K : Type := Option fx_V → fx_L → ai_J → Nat → Bool
abbrev ai_O : Type := List fx_I → fx_L → List fx_V → fx_L → ai_J → Nat → Bool
abbrev ai_G : Type := Nat → Bool → List fx_I → List fx_I → fx_L → List fx_V → fx_L → ai_J → Nat → List Nat → ai_K → Bool
noncomputable def ai_cell (T : ai_T) (k : Nat) : Option ai_C := match fx_nth T (Nat.div k 16) with
  | none => none
  | some r => fx_nth r (Nat.mod k 16)
noncomputable def ai_max (a b : Nat) : Nat := fx_if (Nat.ble a b) b a
noncomputable def ai_min (a b : Nat) : Nat := fx_if (Nat.ble a b) a b
/-- the interval of a value -/
noncomputable def ai_rng (J : ai_J) (v : fx_V) (k : Nat → Nat → Bool) : Bool := match v with
  | .inl n => fx_num (fx_b n) (fun x => k x x)
  | .inr (.inl i) => (match fx_look J i with
    | some (lo, hi, _, _) => k lo hi
    | none => k 0 4294967295)
  | _ => false
/-- a new number in an interval -/
noncomputable def ai_var (J : ai_J) (n lo hi s o : Nat) (k : fx_V → ai_J → Nat → Bool) : Bool := fx_num lo (fun lo => fx_num hi (fun hi => fx_num s (fun s => fx_num o (fun o => fx_num (n + 1) (fun m => k (fv n) ((n, lo, hi, s, o) :: J) m)))))
noncomputable def ai_new (J : ai_J) (n lo hi s o : Nat) (k : fx_V → ai_J → Nat → Bool) : Bool := fx_if (Nat.beq lo hi && Nat.beq o 0) (fx_num (fx_b lo) (fun x => k (fc x) J n)) (ai_var J n lo hi s o k)
noncomputable def ai_ref1 (J : ai_J) (i lo hi : Nat) (k : ai_J → Bool) : Bool := match fx_look J i with
  | some (l0, h0, s, o) => fx_num (ai_max l0 lo) (fun lo => fx_num (ai_min h0 hi) (fun hi => fx_if (Nat.ble lo hi) (k ((i, lo, hi, s, o) :: J)) true))
  | none => k J
/-- a value is within lo .. hi -/
noncomputable def ai_ref (J : ai_J) (v : fx_V) (lo hi : Nat) (k : ai_J → Bool) : Bool := match v with
  | .inl n => fx_if (Nat.ble lo (fx_b n) && Nat.ble (fx_b n) hi) (k J) true
  | .inr (.inl i) => (match fx_look J i with
    | some (l0, h0, s, o) => fx_num (ai_max l0 lo) (fun lo => fx_num (ai_min h0 hi) (fun hi => fx_if (Nat.ble lo hi) (fx_if (Nat.beq o 0) (k ((i, lo, hi, s, o) :: J)) (ai_ref1 ((i, lo, hi, s, o) :: J) s (lo + 2147483648 - o) (hi + 2147483648 - o) k)) true))
    | none => k J)
  | _ => k J
noncomputable def ai_neg (o : Nat) : Nat := fx_if (Nat.beq o 0) 1 (fx_if (Nat.beq o 1) 0 (fx_if (Nat.beq o 2) 3 (fx_if (Nat.beq o 3) 2 (fx_if (Nat.beq o 4) 5 4))))
/-- the truth of x q y, x in a .. b, y in c .. d: then k -/
noncomputable def ai_tr (q : Nat) (J : ai_J) (x y : fx_V) (a b c d : Nat) (k : ai_J → Bool) : Bool :=
  fx_if (Nat.beq q 0) (ai_ref J x c d (fun J => ai_ref J y a b k))
  (fx_if (Nat.beq q 1) (fx_if (Nat.beq c d) (fx_if (Nat.ble (b - a) 2 && (Nat.blt a c && Nat.blt c b)) (k J) ((Nat.beq c 0 || ai_ref J x a (c - 1) k) && ai_ref J x (c + 1) b k)) (fx_if (Nat.beq a b) ((Nat.beq a 0 || ai_ref J y c (a - 1) k) && ai_ref J y (a + 1) d k) (k J)))
  (fx_if (Nat.beq q 2) (Nat.beq d 0 || ai_ref J x 0 (d - 1) (fun J => ai_ref J y (a + 1) 4294967295 k))
  (fx_if (Nat.beq q 3) (ai_ref J x c 4294967295 (fun J => ai_ref J y 0 b k))
  (fx_if (Nat.beq q 4) (Nat.beq b 0 || ai_ref J x (c + 1) 4294967295 (fun J => ai_ref J y 0 (b - 1) k))
    (ai_ref J x 0 d (fun J => ai_ref J y a 4294967295 k))))))
noncomputable def ai_cmp (o : Nat) (J : ai_J) (x y : fx_V) (k : Bool → ai_J → Bool) : Bool := ai_rng J x (fun a b => ai_rng J y (fun c d => ai_tr o J x y a b c d (k true) && ai_tr (ai_neg o) J x y a b c d (k false)))
noncomputable def ai_src (v : fx_V) : Nat := match v with
  | .inr (.inl i) => i
  | _ => 0
noncomputable def ai_isv (v : fx_V) : Bool := match v with
  | .inr (.inl _) => true
  | _ => false
noncomputable def ai_mask (m : Nat) : Nat := fx_if (Nat.blt m 128) 127 (fx_if (Nat.blt m 1024) 1023 2147483647)
noncomputable def ai_add (J : ai_J) (n : Nat) (x y : fx_V) (a b c d : Nat) (k : fx_V → ai_J → Nat → Bool) : Bool := fx_if (Nat.ble 2147483648 (a + c) && Nat.blt (b + d) 6442450944) (ai_new J n (a + c - 2147483648) (b + d - 2147483648) (fx_if (ai_isv x && Nat.beq c d) (ai_src x) (fx_if (ai_isv y && Nat.beq a b) (ai_src y) 0)) (fx_if (ai_isv x && Nat.beq c d) c (fx_if (ai_isv y && Nat.beq a b) a 0)) k) (ai_new J n 0 4294967295 0 0 k)
noncomputable def ai_sub (J : ai_J) (n : Nat) (x : fx_V) (a b c d : Nat) (k : fx_V → ai_J → Nat → Bool) : Bool := fx_if (Nat.ble d (a + 2147483648) && Nat.blt (b + 2147483648) (c + 4294967296)) (ai_new J n (a + 2147483648 - d) (b + 2147483648 - c) (fx_if (ai_isv x && Nat.beq c d) (ai_src x) 0) (fx_if (ai_isv x && Nat.beq c d) (4294967296 - c) 0) k) (ai_new J n 0 4294967295 0 0 k)
/-- both not below 0 -/
noncomputable def ai_pos (J : ai_J) (n o a b c d : Nat) (k : fx_V → ai_J → Nat → Bool) : Bool :=
  fx_if (Nat.beq o 2) (fx_if (Nat.blt ((b - 2147483648) * (d - 2147483648)) 2147483648) (ai_new J n ((a - 2147483648) * (c - 2147483648) + 2147483648) ((b - 2147483648) * (d - 2147483648) + 2147483648) 0 0 k) (ai_new J n 0 4294967295 0 0 k))
  (fx_if (Nat.beq o 3) (ai_new J n ((a - 2147483648) / (d - 2147483648) + 2147483648) ((b - 2147483648) / (c - 2147483648) + 2147483648) 0 0 k)
  (fx_if (Nat.beq o 4) (ai_new J n 2147483648 (ai_min b (d - 1)) 0 0 k)
  (fx_if (Nat.beq o 5) (ai_new J n 2147483648 (ai_min b d) 0 0 k)
  (fx_if (Nat.beq o 6 || Nat.beq o 7) (ai_new J n 2147483648 (ai_mask (ai_max (b - 2147483648) (d - 2147483648)) + 2147483648) 0 0 k)
  (fx_if (Nat.beq o 8) (fx_if (Nat.blt d 2147483680 && Nat.blt (Nat.shiftLeft (b - 2147483648) (d - 2147483648)) 2147483648) (ai_new J n (Nat.shiftLeft (a - 2147483648) (c - 2147483648) + 2147483648) (Nat.shiftLeft (b - 2147483648) (d - 2147483648) + 2147483648) 0 0 k) (ai_new J n 0 4294967295 0 0 k))
    (fx_if (Nat.blt d 2147483680) (ai_new J n (Nat.shiftRight (a - 2147483648) (d - 2147483648) + 2147483648) (Nat.shiftRight (b - 2147483648) (c - 2147483648) + 2147483648) 0 0 k) (ai_new J n 0 4294967295 0 0 k)))))))
/-- one of them may be below 0 -/
noncomputable def ai_any (J : ai_J) (n o a b c d : Nat) (k : fx_V → ai_J → Nat → Bool) : Bool :=
  fx_if (Nat.beq o 5) (fx_if (Nat.ble 2147483648 a) (ai_new J n 2147483648 b 0 0 k) (fx_if (Nat.ble 2147483648 c) (ai_new J n 2147483648 d 0 0 k) (ai_new J n 0 4294967295 0 0 k)))
  (fx_if (Nat.beq o 10 && (Nat.beq c d && (Nat.blt 2147483648 c && Nat.blt c 2147483680))) (ai_new J n 2147483648 (Nat.shiftRight 4294967295 (c - 2147483648) + 2147483648) 0 0 k) (ai_new J n 0 4294967295 0 0 k))
noncomputable def ai_bin (o : Nat) (J : ai_J) (n : Nat) (x y : fx_V) (k : fx_V → ai_J → Nat → Bool) : Bool := ai_rng J x (fun a b => ai_rng J y (fun c d =>
  fx_if (Nat.beq o 0) (ai_add J n x y a b c d k) (fx_if (Nat.beq o 1) (ai_sub J n x a b c d k)
  ((!(Nat.beq o 3 || Nat.beq o 4) || (Nat.blt 2147483648 c || Nat.blt d 2147483648)) && fx_if (Nat.ble 2147483648 a && Nat.ble 2147483648 c) (ai_pos J n o a b c d k) (ai_any J n o a b c d k)))))
noncomputable def ai_un (o : Nat) (J : ai_J) (n : Nat) (x : fx_V) (k : fx_V → ai_J → Nat → Bool) : Bool := ai_rng J x (fun a b =>
  fx_if (Nat.beq o 0) (fx_if (Nat.beq a 0) (ai_new J n 0 4294967295 0 0 k) (ai_new J n (4294967296 - b) (4294967296 - a) 0 0 k))
  (fx_if (Nat.beq o 1) (fx_if (Nat.ble 2147483520 a && Nat.ble b 2147483775) (k x J n) (ai_new J n 2147483520 2147483775 0 0 k))
  (fx_if (Nat.beq o 2) (fx_if (Nat.ble 2147483648 a && Nat.ble b 2147549183) (k x J n) (ai_new J n 2147483648 2147549183 0 0 k)) (k (fl 0) J n))))
noncomputable def ai_math (o : Nat) (J : ai_J) (n a b c d : Nat) (k : fx_V → ai_J → Nat → Bool) : Bool := fx_if (Nat.beq o 0) (ai_new J n (ai_max a c) (ai_max b d) 0 0 k) (ai_new J n (ai_min a c) (ai_min b d) 0 0 k)
noncomputable def ai_abs (J : ai_J) (n : Nat) (x : fx_V) (k : fx_V → ai_J → Nat → Bool) : Bool := ai_rng J x (fun a b => fx_if (Nat.ble 2147483648 a) (k x J n) (fx_if (Nat.beq a 0) (ai_new J n 0 4294967295 0 0 k) (ai_new J n 2147483648 (ai_max (4294967296 - a) b) 0 0 k)))
/-- does a value keep to a spec -/
noncomputable def ai_fit (J : ai_J) (v : fx_V) (s : ai_S) : Bool := match s with
  | .inl (lo, hi) => ai_rng J v (fun a b => Nat.ble lo a && Nat.ble b hi)
  | .inr (.inr (.inr (.inr m))) => (match v with
    | .inr (.inr (.inr k)) => Nat.beq m 0 || Nat.beq k m
    | _ => false)
  | .inr (.inr (.inl _)) => false
  | .inr w => fx_veq v w
noncomputable def ai_mem (l : List Nat) (x : Nat) : Bool := List.rec (motive := fun _ => Bool) false (fun a _ ih => Nat.beq a x || ih) l
/-- what the table says of a place -/
noncomputable def ai_tab (T : ai_T) (p : Nat) : Option ai_F := match ai_cell T (Nat.div p 4096) with
  | some (.inl (_, fs)) => fx_nth fs (Nat.mod p 4096)
  | some (.inr (ty, len, L)) => fx_if (Nat.blt (Nat.mod p 4096) len) (fx_if (Nat.beq ty 3) (some (.inl 0)) (match fx_nth L (Nat.mod (Nat.mod p 4096) L.length) with
    | some q => some (.inr (.inl q))
    | none => none)) none
  | none => none
/-- does what is known of a place keep to a spec -/
noncomputable def ai_has (T : ai_T) (F : fx_L) (J : ai_J) (p : Nat) (s : ai_S) : Bool := match fx_look F p with
  | some v => ai_fit J v s
  | none => (match ai_tab T p with
    | some (.inr (.inl (a, b))) => (match s with
      | .inl (lo, hi) => Nat.ble lo a && Nat.ble b hi
      | _ => false)
    | _ => false)
noncomputable def ai_fits (J : ai_J) (vs : List fx_V) : List ai_S → Bool := List.rec (motive := fun _ => List ai_S → Bool) (fun ss => match ss with
    | [] => true
    | _ => false) (fun v _ ih ss => match ss with
    | [] => false
    | s :: ss => ai_fit J v s && ih ss) vs
/-- what stays known behind writes -/
noncomputable def ai_keep (m : ai_M) (F : fx_L) (k : fx_L → Bool) : Bool := List.rec (motive := fun _ => (fx_L → Bool) → Bool) (fun k => k []) (fun q _ ih k => ih (fun t => fx_if (ai_mem m.1 q.1 || ai_mem m.2 (Nat.div q.1 4096)) (k t) (k (q :: t)))) F k
/-- places that a contract tells -/
noncomputable def ai_tell (l : List (Nat × ai_S)) : fx_L → ai_J → Nat → (fx_L → ai_J → Nat → Bool) → Bool := List.rec (motive := fun _ => fx_L → ai_J → Nat → (fx_L → ai_J → Nat → Bool) → Bool) (fun F J n k => k F J n) (fun q _ ih F J n k => match q.2 with
    | .inl (lo, hi) => ai_var J n lo hi 0 0 (fun v J n => ih ((q.1, v) :: F) J n k)
    | .inr v => ih ((q.1, v) :: F) J n k) l
noncomputable def ai_ans (r : Option ai_S) (J : ai_J) (n : Nat) (k : Option fx_V → ai_J → Nat → Bool) : Bool := match r with
  | none => k none J n
  | some (.inl (lo, hi)) => ai_new J n lo hi 0 0 (fun v J n => k (some v) J n)
  | some (.inr v) => k (some v) J n
noncomputable def ai_join (L : List (Nat × Nat)) (i : Nat) (n : Nat) : Option (Nat × Nat) := Nat.rec (motive := fun _ => Option (Nat × Nat)) (fx_nth L (Nat.mod i L.length)) (fun m ih => match ih with
    | none => none
    | some (lo, hi) => match fx_nth L (Nat.mod (i + (m + 1)) L.length) with
      | none => none
      | some (a, b) => some (ai_min lo a, ai_max hi b)) n
noncomputable def ai_span (L : List (Nat × Nat)) (c d : Nat) : Option (Nat × Nat) := fx_if (Nat.beq L.length 1) (fx_nth L 0) (fx_if (Nat.ble (d - c) L.length) (ai_join L c (d - c)) (ai_join L 0 L.length))
/-- may values of a .. b be put at c .. d -/
noncomputable def ai_into (L : List (Nat × Nat)) (c d a b : Nat) : Bool := fx_if (Nat.beq L.length 1) (match fx_nth L 0 with
    | some (lo, hi) => Nat.ble lo a && Nat.ble b hi
    | none => false) (Nat.ble (d - c) 2000 && Nat.rec (motive := fun _ => Bool) true (fun m ih => (match fx_nth L (Nat.mod (c + m) L.length) with
    | some (lo, hi) => Nat.ble lo a && Nat.ble b hi
    | none => false) && ih) (d - c + 1))
noncomputable def ai_out (r : Nat) (F : fx_L) (k : fx_L → Bool) : Bool := List.rec (motive := fun _ => (fx_L → Bool) → Bool) (fun k => k []) (fun q _ ih k => ih (fun t => fx_if (Nat.beq (Nat.div q.1 4096) r) (k t) (k (q :: t)))) F k
/-- x is so much above the number b (biased): through the numbers that were made of others -/
noncomputable def ai_ch (J : ai_J) (b : Nat) (f : Nat) : Nat → Option Nat := Nat.rec (motive := fun _ => Nat → Option Nat) (fun _ => none) (fun _ ih i => fx_if (Nat.beq i b) (some 2147483648) (match fx_look J i with
    | some (_, _, s, o) => fx_if (Nat.beq o 0) none (match ih s with
      | some t => fx_if (Nat.ble 2147483648 (o + t)) (some (o + t - 2147483648)) none
      | none => none)
    | none => none)) f
noncomputable def ai_rel (J : ai_J) (v : fx_V) (r : Nat × Nat) : Bool := fx_if (Nat.beq r.2 0) true (match v with
  | .inr (.inl i) => (match ai_ch J r.1 6 i with
    | some t => Nat.beq t r.2
    | none => false)
  | _ => false)
/-- the words that begin lines -/
def ai_WL : List Nat := [1751215212, 7235441220320322420, 120282394289522, 1819242347, 465624852596, 500085781608, 1685217655]
noncomputable def ai_lcmp (x y : Nat) : Option Nat := fx_if (Nat.beq x y) (some 0) (fx_if (Nat.blt x y) (some 4294967295) (some 1))
end
section
noncomputable def ai_k0 (go : ai_O) (pc a b : Nat) (tl : List fx_I) (loc : fx_L) (stk : List fx_V) (F : fx_L) (J : ai_J) (n : Nat) : Bool := match fx_look loc a with
  | none => false
  | some v => (fx_form b v && Nat.blt b 6) && fx_nx (fun t => go t loc (v :: stk) F J n) pc (fx_odd b) tl
noncomputable def ai_k1 (E : ai_E) (go : ai_O) (pc b c : Nat) (tl : List fx_I) (loc : fx_L) (stk : List fx_V) (F : fx_L) (J : ai_J) (n : Nat) : Bool := match stk with
  | .inr (.inr (.inl (some r))) :: st => (match ai_cell E.1 r with
    | some (.inl (ci, fs)) => (Nat.beq ci b && Nat.blt c 4096) && fx_num (r * 4096 + c) (fun p => match fx_look F p with
      | some v => fx_nx (fun t => go t loc (v :: st) F J n) pc 3 tl
      | none => (match fx_nth fs c with
        | some (.inl _) => fx_nx (fun t => go t loc (fl 0 :: st) F J n) pc 3 tl
        | some (.inr (.inl (lo, hi))) => ai_new J n lo hi 0 0 (fun v J n => fx_nx (fun t => go t loc (v :: st) ((p, v) :: F) J n) pc 3 tl)
        | some (.inr (.inr rs)) => fx_all rs (fun o => fx_nx (fun t => go t loc (.inr (.inr (.inl o)) :: st) ((p, .inr (.inr (.inl o))) :: F) J n) pc 3 tl)
        | none => false))
    | _ => false)
  | _ => false
noncomputable def ai_cst (a c : Nat) : fx_V := fx_if (Nat.blt a 5) (fc c) (fx_if (Nat.blt a 7) (fl (c + 2)) fz)
noncomputable def ai_k2 (go : ai_O) (pc a c : Nat) (tl : List fx_I) (loc : fx_L) (stk : List fx_V) (F : fx_L) (J : ai_J) (n : Nat) : Bool := (Nat.blt a 8 && Nat.blt c 4294967296 || (Nat.beq a 5 || Nat.beq a 6)) && fx_nx (fun t => go t loc (ai_cst a c :: stk) F J n) pc (fx_clen a) tl
noncomputable def ai_k3 (go : ai_O) (cod : List fx_I) (pc a b : Nat) (tl : List fx_I) (loc : fx_L) (stk : List fx_V) (F : fx_L) (J : ai_J) (n : Nat) : Bool := match stk with
  | y :: x :: st => Nat.blt a 6 && ai_cmp a J x y (fun t J => fx_if t (go (fx_to cod b) loc st F J n) (fx_nx (fun t => go t loc st F J n) pc 3 tl))
  | _ => false
noncomputable def ai_k4 (go : ai_O) (cod : List fx_I) (pc a b : Nat) (tl : List fx_I) (loc : fx_L) (stk : List fx_V) (F : fx_L) (J : ai_J) (n : Nat) : Bool := match stk with
  | x :: st => Nat.blt a 6 && ai_cmp a J x (fc 0) (fun t J => fx_if t (go (fx_to cod b) loc st F J n) (fx_nx (fun t => go t loc st F J n) pc 3 tl))
  | _ => false
noncomputable def ai_k6 (E : ai_E) (go : ai_O) (pc a : Nat) (tl : List fx_I) (loc : fx_L) (stk : List fx_V) (F : fx_L) (J : ai_J) (n : Nat) : Bool := match stk with
  | i :: .inr (.inr (.inl (some r))) :: st => ai_rng J i (fun c d => match ai_cell E.1 r with
    | some (.inr (ty, len, L)) => ((fx_aty a ty && Nat.blt len 4096) && (Nat.ble 2147483648 c && Nat.blt d (len + 2147483648))) && fx_if (Nat.beq ty 3) (fx_nx (fun t => go t loc (fl 0 :: st) F J n) pc 1 tl)
      (fx_if (Nat.beq c d) (fx_num (r * 4096 + (c - 2147483648)) (fun p => match fx_look F p with
        | some v => fx_nx (fun t => go t loc (v :: st) F J n) pc 1 tl
        | none => (match fx_nth L (Nat.mod (c - 2147483648) L.length) with
          | some (lo, hi) => ai_new J n lo hi 0 0 (fun v J n => fx_nx (fun t => go t loc (v :: st) ((p, v) :: F) J n) pc 1 tl)
          | none => false)))
        (match ai_span L (c - 2147483648) (d - 2147483648) with
          | some (lo, hi) => ai_new J n lo hi 0 0 (fun v J n => fx_nx (fun t => go t loc (v :: st) F J n) pc 1 tl)
          | none => false))
    | some (.inl _) => false
    | none => (Nat.beq r 1000005 && (Nat.beq a 1 && (Nat.ble 2147483648 c && Nat.blt d 2147483659))) && ai_new J n 2147483648 2147483775 0 0 (fun v J n => fx_nx (fun t => go t loc (v :: st) F J n) pc 1 tl))
  | _ => false
noncomputable def ai_k7 (go : ai_O) (pc a b : Nat) (tl : List fx_I) (loc : fx_L) (stk : List fx_V) (F : fx_L) (J : ai_J) (n : Nat) : Bool := match fx_look loc a with
  | none => false
  | some v => (fx_int v && Nat.blt b 4294967296) && ai_bin 0 J n v (fc b) (fun w J n => fx_store loc a w (fun loc => fx_nx (fun t => go t loc stk F J n) pc 3 tl))
noncomputable def ai_nar (ty x y : Nat) : Bool := Nat.beq ty 0 || ((Nat.beq ty 1 && (Nat.ble 2147483520 x && Nat.ble y 2147483775)) || (Nat.beq ty 2 && (Nat.ble 2147483648 x && Nat.ble y 2147483649)))
noncomputable def ai_k8 (E : ai_E) (go : ai_O) (pc a : Nat) (tl : List fx_I) (loc : fx_L) (stk : List fx_V) (F : fx_L) (J : ai_J) (n : Nat) : Bool := match stk with
  | v :: i :: .inr (.inr (.inl (some r))) :: st => ai_rng J i (fun c d => match ai_cell E.1 r with
    | some (.inr (ty, len, L)) => (((fx_aty a ty && Nat.blt len 4096) && (ai_mem E.2.2.2.1.2 r && ai_mem E.2.2.2.2.1.2 r)) && (Nat.ble 2147483648 c && Nat.blt d (len + 2147483648))) &&
      fx_if (Nat.beq ty 3) (Nat.beq (fx_cat v) 2 && ai_out r F (fun F => fx_nx (fun t => go t loc st F J n) pc 1 tl))
      (ai_rng J v (fun x y => fx_if (ai_nar ty x y) (ai_into L (c - 2147483648) (d - 2147483648) x y && fx_if (Nat.beq c d) (fx_num (r * 4096 + (c - 2147483648)) (fun p => fx_nx (fun t => go t loc st ((p, v) :: F) J n) pc 1 tl)) (ai_out r F (fun F => fx_nx (fun t => go t loc st F J n) pc 1 tl)))
        (fx_if (Nat.beq ty 1) (ai_into L (c - 2147483648) (d - 2147483648) 2147483520 2147483775) (ai_into L (c - 2147483648) (d - 2147483648) 2147483648 2147483649) && ai_out r F (fun F => fx_nx (fun t => go t loc st F J n) pc 1 tl))))
    | _ => false)
  | _ => false
noncomputable def ai_rok (b a d : Nat) : Bool := Nat.beq b 1 || ((Nat.beq b 2 && (Nat.ble 2147483648 a && Nat.ble d 2147483649)) || ((Nat.beq b 4 && (Nat.ble 2147483648 a && Nat.ble d 2147549183)) || (Nat.beq b 5 && (Nat.ble 2147483648 a && Nat.ble d 2147483775))))
noncomputable def ai_k10 (k : ai_K) (a b : Nat) (stk : List fx_V) (F : fx_L) (J : ai_J) (n : Nat) : Bool := fx_if (Nat.beq a 0) (match stk with
    | [v] => ai_rng J v (fun x y => ai_rok b x y && k (some v) F J n)
    | _ => false) (fx_if (Nat.beq a 1) (match stk with
    | [] => k none F J n
    | _ => false) (match stk with
    | [.inr (.inr (.inr n0))] => k (some (fl n0)) F J n
    | _ => false))
noncomputable def ai_k11 (go : ai_O) (pc a b : Nat) (tl : List fx_I) (loc : fx_L) (stk : List fx_V) (F : fx_L) (J : ai_J) (n : Nat) : Bool := match stk with
  | v :: st => (fx_form b v && Nat.blt b 6) && fx_store loc a v (fun loc => fx_nx (fun t => go t loc st F J n) pc (fx_odd b) tl)
  | _ => false
noncomputable def ai_k12 (go : ai_O) (pc a : Nat) (tl : List fx_I) (loc : fx_L) (stk : List fx_V) (F : fx_L) (J : ai_J) (n : Nat) : Bool := match stk with
  | y :: x :: st => Nat.blt a 11 && ai_bin a J n x y (fun w J n => fx_nx (fun t => go t loc (w :: st) F J n) pc 1 tl)
  | _ => false
noncomputable def ai_k13 (go : ai_O) (pc a : Nat) (tl : List fx_I) (loc : fx_L) (stk : List fx_V) (F : fx_L) (J : ai_J) (n : Nat) : Bool := match stk with
  | x :: st => Nat.blt a 4 && ai_un a J n x (fun w J n => fx_nx (fun t => go t loc (w :: st) F J n) pc 1 tl)
  | _ => false
noncomputable def ai_isin (o : Option Nat) (rs : List (Option Nat)) : Bool := List.rec (motive := fun _ => Bool) false (fun a _ ih => (match a, o with
  | none, none => true
  | some x, some y => Nat.beq x y
  | _, _ => false) || ih) rs
noncomputable def ai_k14 (E : ai_E) (go : ai_O) (pc b c : Nat) (tl : List fx_I) (loc : fx_L) (stk : List fx_V) (F : fx_L) (J : ai_J) (n : Nat) : Bool := match stk with
  | v :: .inr (.inr (.inl (some r))) :: st => (match ai_cell E.1 r with
    | some (.inl (ci, fs)) => (Nat.beq ci b && Nat.blt (Nat.div c 8) 4096) && fx_num (r * 4096 + Nat.div c 8) (fun p => (ai_mem E.2.2.2.1.1 p && ai_mem E.2.2.2.2.1.1 p) && ((match fx_nth fs (Nat.div c 8) with
      | some (.inl _) => Nat.beq (fx_cat v) 2 && Nat.beq (Nat.mod c 8) 3
      | some (.inr (.inl (lo, hi))) => ai_fit J v (.inl (lo, hi)) && (Nat.beq (Nat.mod c 8) 0 || (Nat.beq (Nat.mod c 8) 2 && (Nat.ble 2147483648 lo && Nat.ble hi 2147483649)))
      | some (.inr (.inr rs)) => (match v with
        | .inr (.inr (.inl o)) => ai_isin o rs && Nat.beq (Nat.mod c 8) 4
        | _ => false)
      | none => false) && fx_nx (fun t => go t loc st ((p, v) :: F) J n) pc 3 tl))
    | _ => false)
  | _ => false
noncomputable def ai_k15 (go : ai_O) (pc a : Nat) (tl : List fx_I) (loc : fx_L) (stk : List fx_V) (F : fx_L) (J : ai_J) (n : Nat) : Bool := match fx_stk a stk with
  | some stk => fx_nx (fun t => go t loc stk F J n) pc 1 tl
  | none => false
noncomputable def ai_k18 (E : ai_E) (go : ai_O) (pc : Nat) (tl : List fx_I) (loc : fx_L) (stk : List fx_V) (F : fx_L) (J : ai_J) (n : Nat) : Bool := match stk with
  | .inr (.inr (.inl (some r))) :: st => (match ai_cell E.1 r with
    | some (.inr (_, len, _)) => Nat.blt len 4096 && fx_nx (fun t => go t loc (fc len :: st) F J n) pc 1 tl
    | some (.inl _) => false
    | none => Nat.beq r 1000005 && fx_nx (fun t => go t loc (fc 11 :: st) F J n) pc 1 tl)
  | _ => false
noncomputable def ai_k19 (go : ai_O) (cod : List fx_I) (pc a b : Nat) (tl : List fx_I) (loc : fx_L) (stk : List fx_V) (F : fx_L) (J : ai_J) (n : Nat) : Bool := match stk with
  | .inr (.inr (.inl none)) :: st => fx_if (Nat.beq a 0) (go (fx_to cod b) loc st F J n) (Nat.beq a 1 && fx_nx (fun t => go t loc st F J n) pc 3 tl)
  | .inr (.inr (.inl (some r))) :: st => Nat.blt r 1000000 && fx_if (Nat.beq a 1) (go (fx_to cod b) loc st F J n) (Nat.beq a 0 && fx_nx (fun t => go t loc st F J n) pc 3 tl)
  | _ => false
noncomputable def ai_keys (J : ai_J) (x : fx_V) (lo hi : Nat) (go : Nat → ai_J → Bool) (ts : List Nat) : Nat → Bool := List.rec (motive := fun _ => Nat → Bool) (fun _ => true) (fun t _ ih q => fx_if (Nat.ble lo q && Nat.ble q hi) (ai_ref J x q q (go t)) true && ih (q + 1)) ts
noncomputable def ai_sw (J : ai_J) (x : fx_V) (dft q : Nat) (ts : List Nat) (go : Nat → ai_J → Bool) : Bool := ai_rng J x (fun lo hi => ai_keys J x lo hi go ts q && ((Nat.beq q 0 || ai_ref J x 0 (q - 1) (go dft)) && ai_ref J x (q + ts.length) 4294967295 (go dft)))
noncomputable def ai_k20 (go : ai_O) (cod : List fx_I) (a b c : Nat) (loc : fx_L) (stk : List fx_V) (F : fx_L) (J : ai_J) (n : Nat) : Bool := match stk with
  | x :: st => ai_sw J x a (fx_b b) (fx_swt c) (fun t J => go (fx_to cod t) loc st F J n)
  | _ => false
noncomputable def ai_k23 (E : ai_E) (go : ai_O) (d pc : Nat) (tl : List fx_I) (loc : fx_L) (stk : List fx_V) (F : fx_L) (J : ai_J) (n : Nat) : Bool := match stk with
  | v :: dp :: .inr (.inr (.inl (some r))) :: sp :: .inr (.inr (.inl (some r0))) :: st => ai_rng J v (fun n0 n1 => ai_rng J dp (fun d0 d1 => ai_rng J sp (fun s0 s1 => match ai_cell E.1 r0 with
    | some (.inr (0, len0, [q0])) => (match ai_cell E.1 r with
      | some (.inr (0, len, [q])) => (((Nat.blt 0 d && Nat.ble (fx_cats st) 8) && (ai_mem E.2.2.2.1.2 r && ai_mem E.2.2.2.2.1.2 r)) && ((Nat.ble 2147483648 n0 && (Nat.ble 2147483648 d0 && Nat.ble 2147483648 s0)) && ((Nat.ble (s1 + n1) (len0 + 4294967296) && Nat.ble (d1 + n1) (len + 4294967296)) && (Nat.ble q.1 q0.1 && Nat.ble q0.2 q.2)))) && ai_out r F (fun F => fx_nx (fun t => go t loc st F J n) pc 3 tl)
      | _ => false)
    | _ => false)))
  | _ => false
noncomputable def ai_k24 (go : ai_O) (pc : Nat) (tl : List fx_I) (loc : fx_L) (stk : List fx_V) (F : fx_L) (J : ai_J) (n : Nat) : Bool := match stk with
  | .inr (.inr (.inr _)) :: .inr (.inr (.inr _)) :: st => fx_nx (fun t => go t loc (fl 0 :: st) F J n) pc 1 tl
  | _ => false
noncomputable def ai_k25 (go : ai_O) (pc b : Nat) (tl : List fx_I) (loc : fx_L) (stk : List fx_V) (F : fx_L) (J : ai_J) (n : Nat) : Bool := match stk with
  | .inr (.inr (.inl (some r))) :: st => Nat.beq r 1000004 && fx_if (Nat.beq b 0) (fx_nx (fun t => go t loc (fr 1000005 :: st) F J n) pc 3 tl) (Nat.beq b 1 && fx_nx (fun t => go t loc (fc 0 :: st) F J n) pc 3 tl)
  | _ => false
noncomputable def ai_k29 (go : ai_O) (d pc b : Nat) (tl : List fx_I) (loc : fx_L) (stk : List fx_V) (F : fx_L) (J : ai_J) (n : Nat) : Bool := fx_if (Nat.beq b 2) (match stk with
  | x :: st => (Nat.blt 0 d && Nat.ble (fx_cats st) 8) && ai_abs J n x (fun w J n => fx_nx (fun t => go t loc (w :: st) F J n) pc 3 tl)
  | _ => false) (match stk with
  | y :: x :: st => ((Nat.blt b 2 && Nat.blt 0 d) && Nat.ble (fx_cats st) 8) && ai_rng J x (fun a b0 => ai_rng J y (fun c d0 => ai_math b J n a b0 c d0 (fun w J n => fx_nx (fun t => go t loc (w :: st) F J n) pc 3 tl)))
  | _ => false)
noncomputable def ai_k30 (go : ai_O) (pc : Nat) (tl : List fx_I) (loc : fx_L) (stk : List fx_V) (F : fx_L) (J : ai_J) (n : Nat) : Bool := match stk with
  | .inr (.inr (.inr y)) :: .inr (.inr (.inr x)) :: st => fx_if (Nat.ble 2 x && (Nat.ble 2 y && (Nat.blt x 9223372036854775808 && Nat.blt y 9223372036854775808))) (match ai_lcmp x y with
      | some z => fx_nx (fun t => go t loc (fc z :: st) F J n) pc 1 tl
      | none => false)
    (fx_if (Nat.beq x 1 && (Nat.ble 2 y && ai_mem ai_WL (y - 2))) (fx_nx (fun t => go t loc (fc 1 :: st) F J n) pc 1 tl && fx_nx (fun t => go t loc (fc 4294967295 :: st) F J n) pc 1 tl)
      (ai_new J n 2147483647 2147483649 0 0 (fun v J n => fx_nx (fun t => go t loc (v :: st) F J n) pc 1 tl)))
  | _ => false
noncomputable def ai_k31 (go : ai_O) (pc : Nat) (tl : List fx_I) (loc : fx_L) (stk : List fx_V) (F : fx_L) (J : ai_J) (n : Nat) : Bool := match stk with
  | x :: .inr (.inr (.inr _)) :: st => fx_int x && fx_nx (fun t => go t loc (fl 0 :: st) F J n) pc 1 tl
  | _ => false
noncomputable def ai_rcv (T : ai_T) (t : Nat) (as : List fx_V) : Bool := fx_if (Nat.beq t 0) true (match as with
  | .inr (.inr (.inl (some r))) :: _ => fx_if (Nat.beq t 99) (Nat.beq r 1000004) (match ai_cell T r with
    | some (.inl (ci, _)) => Nat.beq (ci + 2) t && Nat.ble 2 t
    | _ => false)
  | _ => false)
noncomputable def ai_call (E : ai_E) (ih : ai_G) (d : Nat) (nx : List fx_V → fx_L → ai_J → Nat → Bool) (c : Nat) (stk : List fx_V) (F : fx_L) (J : ai_J) (n : Nat) : Bool := match d with
  | 0 => false
  | d + 1 => match fx_mt c with
    | none => false
    | some (cod, na, mc, ms, t, nl) => match fx_split na stk with
      | none => false
      | some (as, st) => (Nat.ble (fx_cats st) 8 && (Nat.beq mc 0 && (Nat.beq ms 0 && (Nat.ble (fx_cats as) nl && ai_rcv E.1 t as)))) && fx_if (E.2.2.1 c)
        (ih d true cod cod (fx_args as 0) [] F J n [] (fun v F J n => nx (fx_ret st v) F J n))
        (Nat.blt 0 cod.length && fx_has (E.2.1 c) (fun I => ((ai_fits J as I.1.1 && fx_all I.1.2 (fun q => ai_has E.1 F J q.1 q.2)) && (Nat.ble I.2.2.2 d && (fx_all I.2.2.1.1 (ai_mem E.2.2.2.1.1) && fx_all I.2.2.1.2 (ai_mem E.2.2.2.1.2)))) && ai_keep I.2.2.1 F (fun F => ai_tell I.2.1.2 F J n (fun F J n => ai_ans I.2.1.1 J n (fun v J n => nx (fx_ret st v) F J n)))))
/-- each value of lo .. lo + n -/
noncomputable def ai_each (J : ai_J) (v : fx_V) (lo n : Nat) (k : ai_J → Bool) : Bool := Nat.rec (motive := fun _ => Bool) (ai_ref J v lo lo k) (fun m ih => ai_ref J v (lo + (m + 1)) (lo + (m + 1)) k && ih) n
noncomputable def ai_okr (g : Nat) (J : ai_J) (loc : fx_L) (R : ai_R) : Bool := fx_all R (fun q => match fx_look loc q.1 with
  | some v => (ai_fit J v q.2.1 && ai_rel J v q.2.2) && (Nat.beq q.2.2.2 0 || Nat.blt q.2.2.1 g)
  | none => false)
noncomputable def ai_mkl (own g : Nat) (R : ai_R) : Nat → ai_J → (fx_L → ai_J → Nat → Bool) → Bool := List.rec (motive := fun _ => Nat → ai_J → (fx_L → ai_J → Nat → Bool) → Bool) (fun n J k => k [] J n) (fun q _ ih n J k => match q.2.1 with
    | .inl (lo, hi) => fx_num (n + 1) (fun m => ih m ((n, lo, hi, fx_if (Nat.beq (q.1 + 1) own) (g, 2147483648) q.2.2) :: J) (fun L J m => k ((q.1, fv n) :: L) J m))
    | .inr v => ih n J (fun L J m => k ((q.1, v) :: L) J m)) R
noncomputable def ai_idx (x : Nat) (l : List Nat) : Nat → Option Nat := List.rec (motive := fun _ => Nat → Option Nat) (fun _ => none) (fun a _ ih g => fx_if (Nat.beq a x) (some g) (ih (g + 1))) l
noncomputable def ai_dec (J : ai_J) (v : fx_V) (g dir : Nat) : Bool := match v with
  | .inr (.inl i) => (match ai_ch J g 6 i with
    | some t => fx_if (Nat.beq dir 0) (Nat.blt 2147483648 t) (Nat.blt t 2147483648)
    | none => false)
  | _ => false
/-- back to a loop's head -/
noncomputable def ai_back (loc F : fx_L) (J : ai_J) (A : ai_A) (g : Nat) : Bool := match fx_look (fx_if (Nat.beq A.1.1 0) loc F) A.1.2.1 with
  | none => false
  | some v => fx_int v && ai_dec J v g A.1.2.2
/-- into a loop's head -/
noncomputable def ai_enter (ih : ai_G) (d : Nat) (cod tl : List fx_I) (loc F : fx_L) (ctx : List Nat) (k : ai_K) (A : ai_A) (x : Nat) : Bool := match fx_look (fx_if (Nat.beq A.1.1 0) loc F) A.1.2.1 with
  | none => false
  | some v => fx_int v && ai_mkl (fx_if (Nat.beq A.1.1 0) (A.1.2.1 + 1) 0) ctx.length A.2.1 (ctx.length + 1) [] (fun loc' J' n' => ai_mkl (fx_if (Nat.beq A.1.1 0) 0 (A.1.2.1 + 1)) ctx.length A.2.2 n' J' (fun F' J' n' => ih d false cod tl loc' [] F' J' n' (ctx ++ [x]) k))
noncomputable def ai_pick (ih : ai_G) (d : Nat) (cod tl : List fx_I) (loc F : fx_L) (J : ai_J) (ctx : List Nat) (k : ai_K) (As : List ai_A) : Nat → Bool := List.rec (motive := fun _ => Nat → Bool) (fun _ => false) (fun A _ ihp x => match ai_idx x ctx 0 with
  | some g => fx_if (ai_okr g J loc A.2.1 && ai_okr g J F A.2.2) (ai_back loc F J A g) (ihp (x + 1))
  | none => fx_if (ai_okr ctx.length J loc A.2.1 && ai_okr ctx.length J F A.2.2) (ai_enter ih d cod tl loc F ctx k A x) (ihp (x + 1))) As
noncomputable def ai_k28 (E : ai_E) (ih : ai_G) (d : Nat) (inl : Bool) (cod : List fx_I) (pc b : Nat) (tl : List fx_I) (loc : fx_L) (stk : List fx_V) (F : fx_L) (J : ai_J) (n : Nat) (ctx : List Nat) (k : ai_K) : Bool := fx_if (Nat.beq b 1) (match stk with
    | v :: _ => ai_rng J v (fun lo hi => Nat.ble (hi - lo) 1100 && ai_each J v lo (hi - lo) (fun J => fx_nx (fun t => ih d inl cod t loc stk F J n ctx k) pc 0 tl))
    | _ => false) (match stk with
    | [] => (!inl && Nat.blt (E.2.2.2.2.2 pc).length 64) && fx_nx (fun t => ai_pick ih d cod t loc F J ctx k (E.2.2.2.2.2 pc) (pc * 64)) pc 0 tl
    | _ => false)
noncomputable def ai_ga (E : ai_E) (go : ai_O) (cod : List fx_I) (pc kd a b c : Nat) (tl : List fx_I) (loc : fx_L) (stk : List fx_V) (F : fx_L) (J : ai_J) (n : Nat) : Bool :=
  fx_if (Nat.beq kd 0) (ai_k0 go pc a b tl loc stk F J n) (fx_if (Nat.beq kd 1) (ai_k1 E go pc b c tl loc stk F J n) (fx_if (Nat.beq kd 2) (ai_k2 go pc a c tl loc stk F J n) (ai_k3 go cod pc a b tl loc stk F J n)))
noncomputable def ai_gb (E : ai_E) (go : ai_O) (cod : List fx_I) (pc kd a b : Nat) (tl : List fx_I) (loc : fx_L) (stk : List fx_V) (F : fx_L) (J : ai_J) (n : Nat) : Bool :=
  fx_if (Nat.beq kd 4) (ai_k4 go cod pc a b tl loc stk F J n) (fx_if (Nat.beq kd 5) (go (fx_to cod b) loc stk F J n) (fx_if (Nat.beq kd 6) (ai_k6 E go pc a tl loc stk F J n) (ai_k7 go pc a b tl loc stk F J n)))
noncomputable def ai_gc (E : ai_E) (ih : ai_G) (go : ai_O) (d pc kd a b c : Nat) (tl : List fx_I) (loc : fx_L) (stk : List fx_V) (F : fx_L) (J : ai_J) (n : Nat) (k : ai_K) : Bool :=
  fx_if (Nat.beq kd 8) (ai_k8 E go pc a tl loc stk F J n) (fx_if (Nat.beq kd 9) (Nat.blt a 5 && ai_call E ih d (fun stk F J n => fx_nx (fun t => go t loc stk F J n) pc 3 tl) c stk F J n) (fx_if (Nat.beq kd 10) (ai_k10 k a b stk F J n) (ai_k11 go pc a b tl loc stk F J n)))
noncomputable def ai_gd (E : ai_E) (go : ai_O) (pc kd a b c : Nat) (tl : List fx_I) (loc : fx_L) (stk : List fx_V) (F : fx_L) (J : ai_J) (n : Nat) : Bool :=
  fx_if (Nat.beq kd 12) (ai_k12 go pc a tl loc stk F J n) (fx_if (Nat.beq kd 13) (ai_k13 go pc a tl loc stk F J n) (fx_if (Nat.beq kd 14) (ai_k14 E go pc b c tl loc stk F J n) (ai_k15 go pc a tl loc stk F J n)))
noncomputable def ai_ge (E : ai_E) (ih : ai_G) (go : ai_O) (inl : Bool) (cod : List fx_I) (d pc kd a b c : Nat) (tl : List fx_I) (loc : fx_L) (stk : List fx_V) (F : fx_L) (J : ai_J) (n : Nat) (ctx : List Nat) (k : ai_K) : Bool :=
  fx_if (Nat.beq kd 18) (ai_k18 E go pc tl loc stk F J n) (fx_if (Nat.beq kd 19) (ai_k19 go cod pc a b tl loc stk F J n)
    (fx_if (Nat.beq kd 20 || Nat.beq kd 21) (ai_k20 go cod a b c loc stk F J n) (fx_if (Nat.beq kd 23) (ai_k23 E go d pc tl loc stk F J n) (fx_if (Nat.beq kd 24) (ai_k24 go pc tl loc stk F J n)
      (fx_if (Nat.beq kd 25) (ai_k25 go pc b tl loc stk F J n) (fx_if (Nat.beq kd 26) (Nat.beq b 0 && fx_nx (fun t => go t loc (fc 1 :: stk) F J n) pc 3 tl) (fx_if (Nat.beq kd 27) (Nat.beq a 73 && fx_nx (fun t => go t loc (fr 1000004 :: stk) F J n) pc 2 tl)
        (fx_if (Nat.beq kd 28) (ai_k28 E ih d inl cod pc b tl loc stk F J n ctx k) (fx_if (Nat.beq kd 29) (ai_k29 go d pc b tl loc stk F J n) (fx_if (Nat.beq kd 30) (ai_k30 go pc tl loc stk F J n) (Nat.beq kd 31 && ai_k31 go pc tl loc stk F J n)))))))))))
noncomputable def ai_one (E : ai_E) (ih : ai_G) (go : ai_O) (d : Nat) (inl : Bool) (cod : List fx_I) (pc kd a b c : Nat) (tl : List fx_I) (loc : fx_L) (stk : List fx_V) (F : fx_L) (J : ai_J) (n : Nat) (ctx : List Nat) (k : ai_K) : Bool :=
  fx_if (Nat.blt kd 4) (ai_ga E go cod pc kd a b c tl loc stk F J n) (fx_if (Nat.blt kd 8) (ai_gb E go cod pc kd a b tl loc stk F J n) (fx_if (Nat.blt kd 12) (ai_gc E ih go d pc kd a b c tl loc stk F J n k) (fx_if (Nat.blt kd 16) (ai_gd E go pc kd a b c tl loc stk F J n) (ai_ge E ih go inl cod d pc kd a b c tl loc stk F J n ctx k))))
noncomputable def ai_step (E : ai_E) (ih : ai_G) : ai_G := fun d inl cod at_ loc stk F J n ctx k => match at_ with
  | [] => false
  | (pc, kd, a, b, c) :: tl => ai_one E ih (fun t loc stk F J n => ih d inl cod t loc stk F J n ctx k) d inl cod pc kd a b c tl loc stk F J n ctx k
noncomputable def ai_go (E : ai_E) (n : Nat) : ai_G := Nat.rec (motive := fun _ => ai_G) (fun _ _ _ _ _ _ _ _ _ _ _ => false) (fun _ ih => ai_step E ih) n
/-- the code with its cuts -/
noncomputable def ai_aug (cs : List (Nat × Nat)) (cod : List fx_I) : List fx_I := List.rec (motive := fun _ => List fx_I) [] (fun q _ ih => match fx_look cs q.1 with
  | some b => (q.1, 28, 0, b, 0) :: q :: ih
  | none => q :: ih) cod
noncomputable def ai_begin (l : List ai_S) : Nat → ai_J → (List fx_V → ai_J → Nat → Bool) → Bool := List.rec (motive := fun _ => Nat → ai_J → (List fx_V → ai_J → Nat → Bool) → Bool) (fun n J k => k [] J n) (fun s _ ih n J k => match s with
    | .inl (lo, hi) => ai_var J n lo hi 0 0 (fun v J n => ih n J (fun vs J n => k (v :: vs) J n))
    | .inr v => ih n J (fun vs J n => k (v :: vs) J n)) l
noncomputable def ai_end (T : ai_T) (I : ai_I) : ai_K := fun v F J _ => (match I.2.1.1, v with
  | none, none => true
  | some s, some v => ai_fit J v s
  | _, _ => false) && fx_all I.2.1.2 (fun q => ai_has T F J q.1 q.2)
/-- a case holds: method c, its cuts, its contract -/
noncomputable def ai_inst (E : ai_E) (f c : Nat) (cs : List (Nat × Nat)) (I : ai_I) : Bool := match fx_mt c with
  | none => false
  | some M => ai_begin I.1.1 0 [] (fun vs J n => ai_tell I.1.2 [] J n (fun F J n => ai_go E f I.2.2.2 false (ai_aug cs M.1) (ai_aug cs M.1) (fx_args vs 0) [] F J n [] (ai_end E.1 I)))
end
section
/-! what the analysis says of plain states -/
def ai_lo (m n : Nat) : Prop := match m with
  | 0 => True
  | 1 => ∀ c ∈ ai_WL, Int64.ofNat n ≠ Int64.ofNat c
  | c + 2 => Int64.ofNat n = Int64.ofNat c
def ai_v (ρ : List Nat) (v w : fx_V) : Prop := match v with
  | .inl n => n < 4294967296 ∧ w = fc n
  | .inr (.inl i) => ∃ x, ρ[i]? = some x ∧ x < 4294967296 ∧ w = fc (fx_b x)
  | .inr (.inr (.inl o)) => w = .inr (.inr (.inl o))
  | .inr (.inr (.inr m)) => ∃ n, w = fl n ∧ ai_lo m n
def ai_vl (ρ : List Nat) : List fx_V → List fx_V → Prop
  | [], [] => True
  | v :: vs, w :: ws => ai_v ρ v w ∧ ai_vl ρ vs ws
  | _, _ => False
def ai_l (ρ : List Nat) (L : fx_L) (f : Nat → Option fx_V) : Prop := ∀ i v, fx_look L i = some v → ∃ w, f i = some w ∧ ai_v ρ v w
noncomputable def ai_pl (h : fx_H) (p : Nat) : Option fx_V := match fx_hget h (p / 4096) with
  | some (.inr (.inl (_, fs))) => fs[p % 4096]?
  | some (.inr (.inr (ty, len, u))) => if p % 4096 < len then some (fx_aget ty u (p % 4096)) else none
  | _ => none
def ai_j (ρ : List Nat) (J : ai_J) : Prop := ∀ q ∈ J, ∃ x, ρ[q.1]? = some x ∧ q.2.1 ≤ x ∧ x ≤ q.2.2.1 ∧ (q.2.2.2.2 ≠ 0 → ∃ y, ρ[q.2.2.2.1]? = some y ∧ x + 2147483648 = y + q.2.2.2.2)
/-- an int within lo .. hi -/
def ai_iv (lo hi : Nat) (w : fx_V) : Prop := ∃ n, w = fc n ∧ n < 4294967296 ∧ lo ≤ fx_b n ∧ fx_b n ≤ hi
def ai_fo (s : ai_F) (w : fx_V) : Prop := match s with
  | .inl _ => ∃ n, w = fl n
  | .inr (.inl (lo, hi)) => ai_iv lo hi w
  | .inr (.inr rs) => ∃ o, w = .inr (.inr (.inl o)) ∧ o ∈ rs
def ai_ao (ty len : Nat) (L : List (Nat × Nat)) (u : List (Nat × fx_V)) : Prop := ∀ i, i < len → if ty = 3 then ∃ n, fx_aget ty u i = fl n else ∃ q, L[i % L.length]? = some q ∧ ai_iv q.1 q.2 (fx_aget ty u i)
def ai_co (c : ai_C) (x : fx_C) : Prop := match c, x with
  | .inl (ci, fs), .inr (.inl (cj, ws)) => ci = cj ∧ ∀ (i : Nat) (s : ai_F), fs[i]? = some s → ∃ w : fx_V, ws[i]? = some w ∧ ai_fo s w
  | .inr (ty, len, L), .inr (.inr (ty2, len2, u)) => ty = ty2 ∧ len = len2 ∧ ai_ao ty len L u
  | _, _ => False
def ai_inv (T : ai_T) (h : fx_H) : Prop := ∀ k c, ai_cell T k = some c → ∃ x, fx_hget h k = some x ∧ ai_co c x
def ai_fr (m : ai_M) (h h' : fx_H) : Prop := ∀ p, ai_mem m.1 p = false → ai_mem m.2 (p / 4096) = false → ai_pl h' p = ai_pl h p
def ai_sp (s : ai_S) (w : fx_V) : Prop := match s with
  | .inl (lo, hi) => ai_iv lo hi w
  | .inr v => ai_v [] v w
def ai_as : List ai_S → List fx_V → Prop
  | [], [] => True
  | s :: ss, w :: ws => ai_sp s w ∧ ai_as ss ws
  | _, _ => False
def ai_at (h : fx_H) (q : Nat × ai_S) : Prop := ∃ w, ai_pl h q.1 = some w ∧ ai_sp q.2 w
def ai_res (r : Option ai_S) (v : Option fx_V) : Prop := match r, v with
  | none, none => True
  | some s, some v => ai_sp s v
  | _, _ => False
def ai_vo (ρ : List Nat) (v w : Option fx_V) : Prop := match v, w with
  | none, none => True
  | some v, some w => ai_v ρ v w
  | _, _ => False
/-- lists grow at their ends -/
theorem ai_ext {ρ τ : List Nat} {i x : Nat} (h : ρ[i]? = some x) : (ρ ++ τ)[i]? = some x := by
  rw [List.getElem?_append_left]
  · exact h
  · rcases Nat.lt_or_ge i ρ.length with q | q
    · exact q
    · rw [List.getElem?_eq_none q] at h; cases h
theorem ai_v.ext {ρ τ : List Nat} {v w : fx_V} (h : ai_v ρ v w) : ai_v (ρ ++ τ) v w := by
  rcases v with n | i | o | n
  · exact h
  · obtain ⟨x, h1, h2⟩ := h
    exact ⟨x, ai_ext h1, h2⟩
  · exact h
  · exact h
theorem ai_vl.ext {ρ τ : List Nat} : ∀ {vs ws : List fx_V}, ai_vl ρ vs ws → ai_vl (ρ ++ τ) vs ws := by
  intro vs
  induction vs with
  | nil => intro ws h; cases ws with
    | nil => trivial
    | cons w ws => exact h
  | cons v vs ih => intro ws h; cases ws with
    | nil => exact h
    | cons w ws => exact ⟨h.1.ext, ih h.2⟩
theorem ai_l.ext {ρ τ : List Nat} {L : fx_L} {f : Nat → Option fx_V} (h : ai_l ρ L f) : ai_l (ρ ++ τ) L f := fun i v hv => by
  obtain ⟨w, h1, h2⟩ := h i v hv
  exact ⟨w, h1, h2.ext⟩
theorem ai_j.ext {ρ τ : List Nat} {J : ai_J} (h : ai_j ρ J) : ai_j (ρ ++ τ) J := fun q hq => by
  obtain ⟨x, h1, h2, h3, h4⟩ := h q hq
  refine ⟨x, ai_ext h1, h2, h3, fun q => ?_⟩
  obtain ⟨y, h5, h6⟩ := h4 q
  exact ⟨y, ai_ext h5, h6⟩
theorem ai_vl_cons {ρ : List Nat} {v : fx_V} {vs ws : List fx_V} (h : ai_vl ρ (v :: vs) ws) : ∃ w ws', ws = w :: ws' ∧ ai_v ρ v w ∧ ai_vl ρ vs ws' := by
  cases ws with
  | nil => exact False.elim h
  | cons w ws => exact ⟨w, ws, rfl, h.1, h.2⟩
theorem ai_vl_nil {ρ : List Nat} {ws : List fx_V} (h : ai_vl ρ [] ws) : ws = [] := by
  cases ws with
  | nil => rfl
  | cons w ws => exact False.elim h
theorem ai_look_mem {α : Type} {l : List (Nat × α)} {i : Nat} {v : α} (h : fx_look l i = some v) : (i, v) ∈ l := by
  induction l with
  | nil => cases h
  | cons q l ih =>
    rw [fx_look_cons] at h
    cases hc : Nat.beq q.1 i with
    | true =>
      rw [hc, fx_if_t] at h
      cases h
      rw [← fx_beq hc]
      exact List.mem_cons_self
    | false =>
      rw [hc, fx_if_f] at h
      exact List.mem_cons_of_mem _ (ih h)
theorem ai_b_b {n : Nat} (h : n < 4294967296) : fx_b (fx_b n) = n := fx_b_b n h
theorem ai_max_le {a b : Nat} : ai_max a b = max a b := by
  unfold ai_max
  cases h : Nat.ble a b with
  | true => rw [fx_if_t, Nat.max_eq_right (fx_ble h)]
  | false => rw [fx_if_f, Nat.max_eq_left (Nat.le_of_lt (fx_nle h))]
theorem ai_min_le {a b : Nat} : ai_min a b = min a b := by
  unfold ai_min
  cases h : Nat.ble a b with
  | true => rw [fx_if_t, Nat.min_eq_left (fx_ble h)]
  | false => rw [fx_if_f, Nat.min_eq_right (Nat.le_of_lt (fx_nle h))]
/-- the interval of a value -/
theorem ai_rng_ok {ρ : List Nat} {J : ai_J} {v w : fx_V} {k : Nat → Nat → Bool} (hv : ai_v ρ v w) (hj : ai_j ρ J) (h : ai_rng J v k = true) : ∃ n a b, w = fc n ∧ n < 4294967296 ∧ a ≤ fx_b n ∧ fx_b n ≤ b ∧ k a b = true ∧ fx_int v = true := by
  rcases v with n | i | o | n
  · obtain ⟨h1, h2⟩ := hv
    have h : fx_num (fx_b n) (fun x => k x x) = true := h
    rw [fx_num_eq] at h
    exact ⟨n, _, _, h2, h1, Nat.le_refl _, Nat.le_refl _, h, rfl⟩
  · obtain ⟨x, h1, h2, h3⟩ := hv
    have h : (match fx_look J i with
      | some (lo, hi, _, _) => k lo hi
      | none => k 0 4294967295) = true := h
    cases hl : fx_look J i with
    | none =>
      rw [hl] at h
      exact ⟨_, _, _, h3, rx_b_lt _, Nat.zero_le _, by have := rx_b_lt (fx_b x); omega, h, rfl⟩
    | some q =>
      obtain ⟨lo, hi, s, o⟩ := q
      rw [hl] at h
      obtain ⟨y, g1, g2, g3, -⟩ := hj _ (ai_look_mem hl)
      have : y = x := Option.some.inj (g1.symm.trans h1)
      subst this
      refine ⟨_, _, _, h3, rx_b_lt _, ?_, ?_, h, rfl⟩
      · rw [ai_b_b h2]; exact g2
      · rw [ai_b_b h2]; exact g3
  · cases h
  · cases h
/-- the number of an int, and a proof that it is one -/
theorem ai_v_num {ρ : List Nat} {v : fx_V} {n : Nat} (hv : ai_v ρ v (fc n)) : n < 4294967296 := by
  rcases v with m | i | o | m
  · obtain ⟨h1, h2⟩ := hv
    rw [Sum.inl.inj h2]
    exact h1
  · obtain ⟨x, h1, h2, h3⟩ := hv
    rw [Sum.inl.inj h3]
    exact rx_b_lt _
  · cases hv
  · obtain ⟨m, h, -⟩ := hv
    cases h
/-- a new number -/
theorem ai_var_ok {ρ : List Nat} {J : ai_J} {n lo hi s o : Nat} {k : fx_V → ai_J → Nat → Bool} (hn : ρ.length = n) (hj : ai_j ρ J) (h : ai_var J n lo hi s o k = true) {x : Nat} (hx : x < 4294967296) (h1 : lo ≤ x) (h2 : x ≤ hi) (h3 : o ≠ 0 → ∃ y, ρ[s]? = some y ∧ x + 2147483648 = y + o) : ∃ v J' n', k v J' n' = true ∧ (ρ ++ [x]).length = n' ∧ ai_j (ρ ++ [x]) J' ∧ ai_v (ρ ++ [x]) v (fc (fx_b x)) := by
  unfold ai_var at h
  rw [fx_num_eq, fx_num_eq, fx_num_eq, fx_num_eq, fx_num_eq] at h
  have hg : (ρ ++ [x])[n]? = some x := by rw [← hn, List.getElem?_append_right (Nat.le_refl _), Nat.sub_self]; rfl
  refine ⟨_, _, _, h, by rw [List.length_append, hn]; rfl, ?_, ⟨x, hg, hx, rfl⟩⟩
  intro q hq
  rcases List.mem_cons.mp hq with rfl | hq
  · refine ⟨x, hg, h1, h2, fun q => ?_⟩
    obtain ⟨y, g1, g2⟩ := h3 q
    exact ⟨y, ai_ext g1, g2⟩
  · exact hj.ext q hq
theorem ai_new_ok {ρ : List Nat} {J : ai_J} {n lo hi s o : Nat} {k : fx_V → ai_J → Nat → Bool} (hn : ρ.length = n) (hj : ai_j ρ J) (h : ai_new J n lo hi s o k = true) {x : Nat} (hx : x < 4294967296) (h1 : lo ≤ x) (h2 : x ≤ hi) (h3 : o ≠ 0 → ∃ y, ρ[s]? = some y ∧ x + 2147483648 = y + o) : ∃ v J' n' τ, k v J' n' = true ∧ (ρ ++ τ).length = n' ∧ ai_j (ρ ++ τ) J' ∧ ai_v (ρ ++ τ) v (fc (fx_b x)) := by
  unfold ai_new at h
  cases hc : (Nat.beq lo hi && Nat.beq o 0) with
  | true =>
    rw [hc, fx_if_t, fx_num_eq] at h
    have := fx_beq (fx_and hc).1
    have : x = lo := by omega
    subst this
    exact ⟨_, _, _, [], h, by rw [List.append_nil]; exact hn, by rw [List.append_nil]; exact hj, ⟨rx_b_lt _, rfl⟩⟩
  | false =>
    rw [hc, fx_if_f] at h
    obtain ⟨v, J', n', g1, g2, g3, g4⟩ := ai_var_ok hn hj h hx h1 h2 h3
    exact ⟨v, J', n', [x], g1, g2, g3, g4⟩
/-- any number of the interval, from a plain int -/
theorem ai_new_iv {ρ : List Nat} {J : ai_J} {n lo hi : Nat} {k : fx_V → ai_J → Nat → Bool} (hn : ρ.length = n) (hj : ai_j ρ J) (h : ai_new J n lo hi 0 0 k = true) {w : fx_V} (hw : ai_iv lo hi w) : ∃ v J' n' τ, k v J' n' = true ∧ (ρ ++ τ).length = n' ∧ ai_j (ρ ++ τ) J' ∧ ai_v (ρ ++ τ) v w := by
  obtain ⟨m, rfl, h1, h2, h3⟩ := hw
  obtain ⟨v, J', n', τ, g1, g2, g3, g4⟩ := ai_new_ok hn hj h (rx_b_lt m) h2 h3 (fun q => absurd rfl q)
  rw [ai_b_b h1] at g4
  exact ⟨v, J', n', τ, g1, g2, g3, g4⟩
/-- a value is known to be within lo .. hi -/
theorem ai_ref1_ok {ρ : List Nat} {J : ai_J} {i lo hi x : Nat} {k : ai_J → Bool} (hj : ai_j ρ J) (hx : ρ[i]? = some x) (h1 : lo ≤ x) (h2 : x ≤ hi) (h : ai_ref1 J i lo hi k = true) : ∃ J', k J' = true ∧ ai_j ρ J' := by
  unfold ai_ref1 at h
  cases hl : fx_look J i with
  | none => rw [hl] at h; exact ⟨J, h, hj⟩
  | some q =>
    obtain ⟨l0, h0, s, o⟩ := q
    rw [hl] at h
    simp only [fx_num_eq] at h
    obtain ⟨y, g1, g2, g3, g4⟩ := hj _ (ai_look_mem hl)
    have : y = x := Option.some.inj (g1.symm.trans hx)
    subst this
    simp only at g2 g3 g4
    rw [ai_max_le, ai_min_le] at h
    rw [rx_ble (by omega : max l0 lo ≤ min h0 hi), fx_if_t] at h
    refine ⟨_, h, fun q hq => ?_⟩
    rcases List.mem_cons.mp hq with rfl | hq
    · exact ⟨y, g1, by simp only; omega, by simp only; omega, g4⟩
    · exact hj q hq
theorem ai_ref_ok {ρ : List Nat} {J : ai_J} {v : fx_V} {n lo hi : Nat} {k : ai_J → Bool} (hj : ai_j ρ J) (hv : ai_v ρ v (fc n)) (h1 : lo ≤ fx_b n) (h2 : fx_b n ≤ hi) (h : ai_ref J v lo hi k = true) : ∃ J', k J' = true ∧ ai_j ρ J' := by
  rcases v with m | i | o | m
  · obtain ⟨-, e⟩ := hv
    rw [Sum.inl.inj e] at h1 h2
    have h : fx_if (Nat.ble lo (fx_b m) && Nat.ble (fx_b m) hi) (k J) true = true := h
    rw [rx_ble h1, rx_ble h2] at h
    exact ⟨J, h, hj⟩
  · obtain ⟨x, g1, g2, g3⟩ := hv
    rw [Sum.inl.inj g3] at h1 h2
    rw [ai_b_b g2] at h1 h2
    have h : (match fx_look J i with
    | some (l0, h0, s, o) => fx_num (ai_max l0 lo) (fun lo => fx_num (ai_min h0 hi) (fun hi => fx_if (Nat.ble lo hi) (fx_if (Nat.beq o 0) (k ((i, lo, hi, s, o) :: J)) (ai_ref1 ((i, lo, hi, s, o) :: J) s (lo + 2147483648 - o) (hi + 2147483648 - o) k)) true))
    | none => k J) = true := h
    cases hl : fx_look J i with
    | none => rw [hl] at h; exact ⟨J, h, hj⟩
    | some q =>
      obtain ⟨l0, h0, s, o⟩ := q
      rw [hl] at h
      simp only [fx_num_eq] at h
      obtain ⟨y, k1, k2, k3, k4⟩ := hj _ (ai_look_mem hl)
      have : y = x := Option.some.inj (k1.symm.trans g1)
      subst this
      simp only at k2 k3 k4
      rw [ai_max_le, ai_min_le] at h
      rw [rx_ble (by omega : max l0 lo ≤ min h0 hi), fx_if_t] at h
      have hj' : ai_j ρ ((i, max l0 lo, min h0 hi, s, o) :: J) := fun q hq => by
        rcases List.mem_cons.mp hq with rfl | hq
        · exact ⟨y, k1, by simp only; omega, by simp only; omega, k4⟩
        · exact hj q hq
      cases ho : Nat.beq o 0 with
      | true => rw [ho, fx_if_t] at h; exact ⟨_, h, hj'⟩
      | false =>
        rw [ho, fx_if_f] at h
        obtain ⟨z, e1, e2⟩ := k4 (fx_bnq ho)
        exact ai_ref1_ok hj' e1 (by omega) (by omega) h
  · cases hv
  · obtain ⟨m, e, -⟩ := hv
    cases e
end
section
theorem ai_con0 (x y : Nat) : fx_con 0 x y = Nat.beq x y := rfl
theorem ai_con1 (x y : Nat) : fx_con 1 x y = !Nat.beq x y := rfl
theorem ai_con2 (x y : Nat) : fx_con 2 x y = Nat.blt x y := rfl
theorem ai_con3 (x y : Nat) : fx_con 3 x y = Nat.ble y x := rfl
theorem ai_con4 (x y : Nat) : fx_con 4 x y = Nat.blt y x := rfl
theorem ai_con5 (x y : Nat) : fx_con 5 x y = Nat.ble x y := rfl
theorem ai_nb {x y : Nat} : Nat.ble (x + 1) y = !Nat.ble y x := by
  cases h : Nat.ble y x with
  | true =>
    have := fx_ble h
    cases h2 : Nat.ble (x + 1) y with
    | true => have := fx_ble h2; omega
    | false => rfl
  | false =>
    have := fx_nle h
    exact rx_ble (by omega)
theorem ai_con_neg {o : Nat} (ho : o < 6) (x y : Nat) : fx_con (ai_neg o) x y = !fx_con o x y := by
  rcases (by omega : o = 0 ∨ o = 1 ∨ o = 2 ∨ o = 3 ∨ o = 4 ∨ o = 5) with rfl | rfl | rfl | rfl | rfl | rfl
  · rfl
  · show Nat.beq x y = !(!Nat.beq x y)
    rw [Bool.not_not]
  · show Nat.ble y x = !Nat.ble (x + 1) y
    rw [ai_nb, Bool.not_not]
  · show Nat.ble (x + 1) y = !Nat.ble y x
    exact ai_nb
  · show Nat.ble x y = !Nat.ble (y + 1) x
    rw [ai_nb, Bool.not_not]
  · show Nat.ble (y + 1) x = !Nat.ble x y
    exact ai_nb
theorem ai_tr_ok {ρ : List Nat} {J : ai_J} {q n m a b c d : Nat} {x y : fx_V} {k : ai_J → Bool} (hq : q < 6) (hj : ai_j ρ J) (hx : ai_v ρ x (fc n)) (hy : ai_v ρ y (fc m)) (h1 : a ≤ fx_b n) (h2 : fx_b n ≤ b) (h3 : c ≤ fx_b m) (h4 : fx_b m ≤ d) (hc : fx_con q (fx_b n) (fx_b m) = true) (h : ai_tr q J x y a b c d k = true) : ∃ J', k J' = true ∧ ai_j ρ J' := by
  have bn := rx_b_lt n
  have bm := rx_b_lt m
  have two : ∀ {lo hi lo2 hi2 : Nat}, lo ≤ fx_b n → fx_b n ≤ hi → lo2 ≤ fx_b m → fx_b m ≤ hi2 → ai_ref J x lo hi (fun J => ai_ref J y lo2 hi2 k) = true → ∃ J', k J' = true ∧ ai_j ρ J' := fun e1 e2 e3 e4 e5 => by
    obtain ⟨J', e6, e7⟩ := ai_ref_ok hj hx e1 e2 e5
    exact ai_ref_ok e7 hy e3 e4 e6
  rcases (by omega : q = 0 ∨ q = 1 ∨ q = 2 ∨ q = 3 ∨ q = 4 ∨ q = 5) with rfl | rfl | rfl | rfl | rfl | rfl
  · rw [ai_con0] at hc
    have hc := fx_beq hc
    have h : ai_ref J x c d (fun J => ai_ref J y a b k) = true := h
    exact two (by omega) (by omega) (by omega) (by omega) h
  · rw [ai_con1] at hc
    have hne : fx_b n ≠ fx_b m := by
      cases hb : Nat.beq (fx_b n) (fx_b m) with
      | true => rw [hb] at hc; cases hc
      | false => exact fx_bnq hb
    have h : fx_if (Nat.beq c d) (fx_if (Nat.ble (b - a) 2 && (Nat.blt a c && Nat.blt c b)) (k J) ((Nat.beq c 0 || ai_ref J x a (c - 1) k) && ai_ref J x (c + 1) b k)) (fx_if (Nat.beq a b) ((Nat.beq a 0 || ai_ref J y c (a - 1) k) && ai_ref J y (a + 1) d k) (k J)) = true := h
    cases e1 : Nat.beq c d with
    | true =>
      rw [e1, fx_if_t] at h
      have e1 := fx_beq e1
      cases e2 : (Nat.ble (b - a) 2 && (Nat.blt a c && Nat.blt c b)) with
      | true => rw [e2, fx_if_t] at h; exact ⟨J, h, hj⟩
      | false =>
        rw [e2, fx_if_f] at h
        obtain ⟨g1, g2⟩ := fx_and h
        rcases Nat.lt_or_ge (fx_b n) c with q | q
        · rcases fx_or g1 with g1 | g1
          · have := fx_beq g1
            omega
          · exact ai_ref_ok hj hx h1 (by omega) g1
        · exact ai_ref_ok hj hx (by omega) h2 g2
    | false =>
      rw [e1, fx_if_f] at h
      cases e2 : Nat.beq a b with
      | true =>
        rw [e2, fx_if_t] at h
        have e2 := fx_beq e2
        obtain ⟨g1, g2⟩ := fx_and h
        rcases Nat.lt_or_ge (fx_b m) a with q | q
        · rcases fx_or g1 with g1 | g1
          · have := fx_beq g1
            omega
          · exact ai_ref_ok hj hy h3 (by omega) g1
        · exact ai_ref_ok hj hy (by omega) h4 g2
      | false => rw [e2, fx_if_f] at h; exact ⟨J, h, hj⟩
  · rw [ai_con2] at hc
    have hc := fx_blt hc
    have h : (Nat.beq d 0 || ai_ref J x 0 (d - 1) (fun J => ai_ref J y (a + 1) 4294967295 k)) = true := h
    rcases fx_or h with g | g
    · have := fx_beq g
      omega
    · exact two (Nat.zero_le _) (by omega) (by omega) (by omega) g
  · rw [ai_con3] at hc
    have hc := fx_ble hc
    have h : ai_ref J x c 4294967295 (fun J => ai_ref J y 0 b k) = true := h
    exact two (by omega) (by omega) (by omega) (by omega) h
  · rw [ai_con4] at hc
    have hc := fx_blt hc
    have h : (Nat.beq b 0 || ai_ref J x (c + 1) 4294967295 (fun J => ai_ref J y 0 (b - 1) k)) = true := h
    rcases fx_or h with g | g
    · have := fx_beq g
      omega
    · exact two (by omega) (by omega) (by omega) (by omega) g
  · rw [ai_con5] at hc
    have hc := fx_ble hc
    have h : ai_ref J x 0 d (fun J => ai_ref J y a 4294967295 k) = true := h
    exact two (by omega) (by omega) (by omega) (by omega) h
theorem ai_cmp_ok {ρ : List Nat} {J : ai_J} {o : Nat} {x y w u : fx_V} {k : Bool → ai_J → Bool} (ho : o < 6) (hj : ai_j ρ J) (hx : ai_v ρ x w) (hy : ai_v ρ y u) (h : ai_cmp o J x y k = true) : ∃ n m J', w = fc n ∧ u = fc m ∧ k (fx_con o (fx_b n) (fx_b m)) J' = true ∧ ai_j ρ J' := by
  obtain ⟨n, a, b, rfl, -, h1, h2, h, -⟩ := ai_rng_ok hx hj h
  obtain ⟨m, c, d, rfl, -, h3, h4, h, -⟩ := ai_rng_ok hy hj h
  obtain ⟨e1, e2⟩ := fx_and h
  cases hc : fx_con o (fx_b n) (fx_b m) with
  | true =>
    obtain ⟨J', g1, g2⟩ := ai_tr_ok ho hj hx hy h1 h2 h3 h4 hc e1
    exact ⟨n, m, J', rfl, rfl, by rw [hc]; exact g1, g2⟩
  | false =>
    have hno : ai_neg o < 6 := by
      rcases (by omega : o = 0 ∨ o = 1 ∨ o = 2 ∨ o = 3 ∨ o = 4 ∨ o = 5) with rfl | rfl | rfl | rfl | rfl | rfl <;> decide
    obtain ⟨J', g1, g2⟩ := ai_tr_ok hno hj hx hy h1 h2 h3 h4 (by rw [ai_con_neg ho, hc]; rfl) e2
    exact ⟨n, m, J', rfl, rfl, by rw [hc]; exact g1, g2⟩
/-! arithmetic -/
theorem ai_z_add {u v : Int32} (h1 : 2147483648 ≤ fx_z u + fx_z v) (h2 : fx_z u + fx_z v < 6442450944) : fx_z (u + v) = fx_z u + fx_z v - 2147483648 := by
  have a1 := u.le_toInt
  have a2 := v.le_toInt
  unfold fx_z at *
  have e : (u + v).toInt = (u.toInt + v.toInt).bmod (2 ^ 32) := Int32.toInt_add u v
  have hs : ((2 ^ 32 : Nat) : Int) = 4294967296 := rfl
  simp only [Int.bmod, hs] at e
  omega
theorem ai_z_sub {u v : Int32} (h1 : fx_z v ≤ fx_z u + 2147483648) (h2 : fx_z u + 2147483648 < fx_z v + 4294967296) : fx_z (u - v) = fx_z u + 2147483648 - fx_z v := by
  have a1 := u.le_toInt
  have a2 := v.le_toInt
  unfold fx_z at *
  have e : (u - v).toInt = (u.toInt - v.toInt).bmod (2 ^ 32) := Int32.toInt_sub u v
  have hs : ((2 ^ 32 : Nat) : Int) = 4294967296 := rfl
  simp only [Int.bmod, hs] at e
  omega
theorem ai_z_neg {u : Int32} (h : fx_z u ≠ 0) : fx_z (- u) = 4294967296 - fx_z u := by
  have a1 := u.le_toInt
  have a2 := u.toInt_lt
  unfold fx_z at *
  have e : (- u).toInt = (- u.toInt).bmod (2 ^ 32) := Int32.toInt_neg u
  have hs : ((2 ^ 32 : Nat) : Int) = 4294967296 := rfl
  simp only [Int.bmod, hs] at e
  omega
/-- a number that is not below 0 -/
theorem ai_z_nat {u : Int32} (h : 2147483648 ≤ fx_z u) : u = Int32.ofNat (fx_z u - 2147483648) ∧ fx_z u - 2147483648 < 2147483648 := by
  have hm := fx_z_max u
  refine ⟨?_, by omega⟩
  rw [fx_z_eq, fx_z_of]
  show _ = (fx_z u - 2147483648 + 2147483648) % 4294967296
  omega
theorem ai_z_of {n : Nat} (h : n < 2147483648) : fx_z (Int32.ofNat n) = n + 2147483648 := by
  rw [fx_z_of]
  show (n + 2147483648) % 4294967296 = _
  omega
theorem ai_isv_ok {ρ : List Nat} {v : fx_V} {n : Nat} (h : ai_isv v = true) (hv : ai_v ρ v (fc n)) : ρ[ai_src v]? = some (fx_b n) := by
  rcases v with m | i | o | m
  · cases h
  · obtain ⟨x, g1, g2, g3⟩ := hv
    rw [Sum.inl.inj g3]
    rw [ai_b_b g2]
    exact g1
  · cases h
  · cases h
/-- what a step of arithmetic gives -/
def ai_got (ρ : List Nat) (k : fx_V → ai_J → Nat → Bool) (w : fx_V) : Prop := ∃ v J' n' τ, k v J' n' = true ∧ (ρ ++ τ).length = n' ∧ ai_j (ρ ++ τ) J' ∧ ai_v (ρ ++ τ) v w
theorem ai_got_z {ρ : List Nat} {J : ai_J} {n lo hi s o : Nat} {k : fx_V → ai_J → Nat → Bool} (hn : ρ.length = n) (hj : ai_j ρ J) (z : Int32) (h : ai_new J n lo hi s o k = true) (h1 : lo ≤ fx_z z) (h2 : fx_z z ≤ hi) (h3 : o ≠ 0 → ∃ y, ρ[s]? = some y ∧ fx_z z + 2147483648 = y + o) : ai_got ρ k (fc (rx_n z)) := ai_new_ok hn hj h (fx_z_max z) h1 h2 h3
theorem ai_got_full {ρ : List Nat} {J : ai_J} {n : Nat} {k : fx_V → ai_J → Nat → Bool} (hn : ρ.length = n) (hj : ai_j ρ J) (z : Int32) (h : ai_new J n 0 4294967295 0 0 k = true) : ai_got ρ k (fc (rx_n z)) := ai_got_z hn hj z h (Nat.zero_le _) (by have := fx_z_max z; omega) (fun q => absurd rfl q)
theorem ai_add_ok {ρ : List Nat} {J : ai_J} {n n1 n2 a b c d : Nat} {x y : fx_V} {k : fx_V → ai_J → Nat → Bool} (hn : ρ.length = n) (hj : ai_j ρ J) (hx : ai_v ρ x (fc n1)) (hy : ai_v ρ y (fc n2)) (h1 : a ≤ fx_b n1) (h2 : fx_b n1 ≤ b) (h3 : c ≤ fx_b n2) (h4 : fx_b n2 ≤ d) (h : ai_add J n x y a b c d k = true) : ai_got ρ k (fc (rx_n (Int32.ofNat n1 + Int32.ofNat n2))) := by
  unfold ai_add at h
  have e1 := fx_z_of n1
  have e2 := fx_z_of n2
  cases hc : (Nat.ble 2147483648 (a + c) && Nat.blt (b + d) 6442450944) with
  | false => rw [hc, fx_if_f] at h; exact ai_got_full hn hj _ h
  | true =>
    rw [hc, fx_if_t] at h
    obtain ⟨g1, g2⟩ := fx_and hc
    have g1 := fx_ble g1
    have g2 := fx_blt g2
    have ez := ai_z_add (u := Int32.ofNat n1) (v := Int32.ofNat n2) (by omega) (by omega)
    refine ai_got_z hn hj _ h (by omega) (by omega) (fun q => ?_)
    cases c1 : (ai_isv x && Nat.beq c d) with
    | true =>
      obtain ⟨k1, k2⟩ := fx_and c1
      have k2 := fx_beq k2
      rw [fx_if_t, fx_if_t]
      exact ⟨_, ai_isv_ok k1 hx, by omega⟩
    | false =>
      rw [c1, fx_if_f] at q
      rw [fx_if_f, fx_if_f]
      cases c2 : (ai_isv y && Nat.beq a b) with
      | true =>
        obtain ⟨k1, k2⟩ := fx_and c2
        have k2 := fx_beq k2
        rw [fx_if_t, fx_if_t]
        exact ⟨_, ai_isv_ok k1 hy, by omega⟩
      | false => rw [c2, fx_if_f] at q; exact absurd rfl q
theorem ai_sub_ok {ρ : List Nat} {J : ai_J} {n n1 n2 a b c d : Nat} {x : fx_V} {k : fx_V → ai_J → Nat → Bool} (hn : ρ.length = n) (hj : ai_j ρ J) (hx : ai_v ρ x (fc n1)) (h1 : a ≤ fx_b n1) (h2 : fx_b n1 ≤ b) (h3 : c ≤ fx_b n2) (h4 : fx_b n2 ≤ d) (h : ai_sub J n x a b c d k = true) : ai_got ρ k (fc (rx_n (Int32.ofNat n1 - Int32.ofNat n2))) := by
  unfold ai_sub at h
  have e1 := fx_z_of n1
  have e2 := fx_z_of n2
  have bm := rx_b_lt n2
  cases hc : (Nat.ble d (a + 2147483648) && Nat.blt (b + 2147483648) (c + 4294967296)) with
  | false => rw [hc, fx_if_f] at h; exact ai_got_full hn hj _ h
  | true =>
    rw [hc, fx_if_t] at h
    obtain ⟨g1, g2⟩ := fx_and hc
    have g1 := fx_ble g1
    have g2 := fx_blt g2
    have ez := ai_z_sub (u := Int32.ofNat n1) (v := Int32.ofNat n2) (by omega) (by omega)
    refine ai_got_z hn hj _ h (by omega) (by omega) (fun q => ?_)
    cases c1 : (ai_isv x && Nat.beq c d) with
    | true =>
      obtain ⟨k1, k2⟩ := fx_and c1
      have k2 := fx_beq k2
      rw [fx_if_t, fx_if_t]
      exact ⟨_, ai_isv_ok k1 hx, by omega⟩
    | false => rw [c1, fx_if_f] at q; exact absurd rfl q
theorem ai_mask_ok {m : Nat} (h : m < 2147483648) : ∃ i, i ≤ 31 ∧ ai_mask m + 1 = 2 ^ i ∧ m < 2 ^ i := by
  unfold ai_mask
  cases h1 : Nat.blt m 128 with
  | true => exact ⟨7, by omega, rfl, fx_blt h1⟩
  | false =>
    rw [fx_if_f]
    cases h2 : Nat.blt m 1024 with
    | true => exact ⟨10, by omega, rfl, fx_blt h2⟩
    | false => exact ⟨31, by omega, rfl, h⟩
theorem ai_pos_ok {ρ : List Nat} {J : ai_J} {n o a b c d : Nat} {u v : Int32} {k : fx_V → ai_J → Nat → Bool} (hn : ρ.length = n) (hj : ai_j ρ J) (ho : o < 11) (ho2 : 2 ≤ o) (hne : o = 3 ∨ o = 4 → 2147483648 < c) (ha : 2147483648 ≤ a) (hc : 2147483648 ≤ c) (h1 : a ≤ fx_z u) (h2 : fx_z u ≤ b) (h3 : c ≤ fx_z v) (h4 : fx_z v ≤ d) (h : ai_pos J n o a b c d k = true) : ai_got ρ k (fc (rx_n (fx_op o u v))) := by
  obtain ⟨eu, lu⟩ := ai_z_nat (u := u) (by omega)
  obtain ⟨ev, lv⟩ := ai_z_nat (u := v) (by omega)
  generalize hxx : fx_z u - 2147483648 = x at eu lu
  generalize hyy : fx_z v - 2147483648 = y at ev lv
  have xb : x ≤ b - 2147483648 := by rw [← hxx]; exact Nat.sub_le_sub_right h2 _
  have yd : y ≤ d - 2147483648 := by rw [← hyy]; exact Nat.sub_le_sub_right h4 _
  have fin : ∀ {m lo hi : Nat}, m < 2147483648 → fx_op o u v = Int32.ofNat m → ai_new J n lo hi 0 0 k = true → lo ≤ m + 2147483648 → m + 2147483648 ≤ hi → ai_got ρ k (fc (rx_n (fx_op o u v))) := fun e1 e2 e3 e4 e5 => by
    rw [e2]
    have ez := ai_z_of e1
    exact ai_got_z hn hj _ e3 (by omega) (by omega) (fun q => absurd rfl q)
  rcases (by omega : o = 2 ∨ o = 3 ∨ o = 4 ∨ o = 5 ∨ o = 6 ∨ o = 7 ∨ o = 8 ∨ o = 9 ∨ o = 10) with rfl | rfl | rfl | rfl | rfl | rfl | rfl | rfl | rfl
  · unfold ai_pos at h
    rw [show Nat.beq 2 2 = true from rfl, fx_if_t] at h
    cases e : Nat.blt ((b - 2147483648) * (d - 2147483648)) 2147483648 with
    | false => rw [e, fx_if_f] at h; exact ai_got_full hn hj _ h
    | true =>
      rw [e, fx_if_t] at h
      have e := fx_blt e
      have m1 : x * y ≤ (b - 2147483648) * (d - 2147483648) := Nat.mul_le_mul (by omega) (by omega)
      have m2 : (a - 2147483648) * (c - 2147483648) ≤ x * y := Nat.mul_le_mul (by omega) (by omega)
      refine fin (m := x * y) (by omega) ?_ h (by omega) (by omega)
      show u * v = _
      rw [eu, ev, Int32.ofNat_mul]
  · have hc2 := hne (Or.inl rfl)
    unfold ai_pos at h
    rw [show Nat.beq 3 2 = false from rfl, fx_if_f, show Nat.beq 3 3 = true from rfl, fx_if_t] at h
    have m1 : x / y ≤ (b - 2147483648) / (c - 2147483648) := Nat.div_le_div (by omega) (by omega) (by omega)
    have m2 : (a - 2147483648) / (d - 2147483648) ≤ x / y := Nat.div_le_div (by omega) (by omega) (by omega)
    have m3 : x / y ≤ x := Nat.div_le_self x y
    refine fin (m := x / y) (by omega) ?_ h (by omega) (by omega)
    show u / v = _
    rw [eu, ev, fx_o_div lu lv]
  · have hc2 := hne (Or.inr rfl)
    have h : ai_new J n 2147483648 (ai_min b (d - 1)) 0 0 k = true := h
    rw [ai_min_le] at h
    have m1 : x % y ≤ x := Nat.mod_le x y
    have m2 : x % y < y := Nat.mod_lt x (by omega)
    refine fin (m := x % y) (by omega) ?_ h (by omega) (by omega)
    show u - u / v * v = _
    rw [eu, ev, fx_o_rem lu lv]
  · have h : ai_new J n 2147483648 (ai_min b d) 0 0 k = true := h
    rw [ai_min_le] at h
    have m1 : Nat.land x y ≤ x := Nat.and_le_left
    have m2 : Nat.land x y ≤ y := Nat.and_le_right
    refine fin (m := Nat.land x y) (by omega) ?_ h (by omega) (by omega)
    show u &&& v = _
    rw [eu, ev, fx_o_and]
  · unfold ai_pos at h
    rw [show Nat.beq 6 2 = false from rfl, fx_if_f, show Nat.beq 6 3 = false from rfl, fx_if_f, show Nat.beq 6 4 = false from rfl, fx_if_f, show Nat.beq 6 5 = false from rfl, fx_if_f, show (Nat.beq 6 6 || Nat.beq 6 7) = true from rfl, fx_if_t] at h
    rw [ai_max_le] at h
    rcases Nat.lt_or_ge (max (b - 2147483648) (d - 2147483648)) 2147483648 with q | q
    · obtain ⟨i, hi, e1, e2⟩ := ai_mask_ok q
      have m1 : Nat.lor x y < 2 ^ i := Nat.or_lt_two_pow (Nat.lt_of_le_of_lt (Nat.le_trans xb (Nat.le_max_left _ _)) e2) (Nat.lt_of_le_of_lt (Nat.le_trans yd (Nat.le_max_right _ _)) e2)
      have m3 : 2 ^ i ≤ 2 ^ 31 := Nat.pow_le_pow_right (by decide) hi
      have m4 : 2 ^ 31 = 2147483648 := rfl
      refine fin (m := Nat.lor x y) (by omega) ?_ h (by omega) (by omega)
      show u ||| v = _
      rw [eu, ev, fx_o_or]
    · have m1 : Nat.lor x y < 2 ^ 31 := Nat.or_lt_two_pow (by omega) (by omega)
      have m4 : 2 ^ 31 = 2147483648 := rfl
      have e9 : ai_mask (max (b - 2147483648) (d - 2147483648)) = 2147483647 := by
        generalize max (b - 2147483648) (d - 2147483648) = t at q
        unfold ai_mask
        cases h1 : Nat.blt t 128 with
        | true => have := fx_blt h1; omega
        | false =>
          rw [fx_if_f]
          cases h2 : Nat.blt t 1024 with
          | true => have := fx_blt h2; omega
          | false => rfl
      rw [e9] at h
      refine fin (m := Nat.lor x y) (by omega) ?_ h (by omega) (by omega)
      show u ||| v = _
      rw [eu, ev, fx_o_or]
  · unfold ai_pos at h
    rw [show Nat.beq 7 2 = false from rfl, fx_if_f, show Nat.beq 7 3 = false from rfl, fx_if_f, show Nat.beq 7 4 = false from rfl, fx_if_f, show Nat.beq 7 5 = false from rfl, fx_if_f, show (Nat.beq 7 6 || Nat.beq 7 7) = true from rfl, fx_if_t] at h
    rw [ai_max_le] at h
    rcases Nat.lt_or_ge (max (b - 2147483648) (d - 2147483648)) 2147483648 with q | q
    · obtain ⟨i, hi, e1, e2⟩ := ai_mask_ok q
      have m1 : Nat.xor x y < 2 ^ i := Nat.xor_lt_two_pow (Nat.lt_of_le_of_lt (Nat.le_trans xb (Nat.le_max_left _ _)) e2) (Nat.lt_of_le_of_lt (Nat.le_trans yd (Nat.le_max_right _ _)) e2)
      have m3 : 2 ^ i ≤ 2 ^ 31 := Nat.pow_le_pow_right (by decide) hi
      have m4 : 2 ^ 31 = 2147483648 := rfl
      refine fin (m := Nat.xor x y) (by omega) ?_ h (by omega) (by omega)
      show u ^^^ v = _
      rw [eu, ev, fx_o_xor]
    · have m1 : Nat.xor x y < 2 ^ 31 := Nat.xor_lt_two_pow (by omega) (by omega)
      have m4 : 2 ^ 31 = 2147483648 := rfl
      have e9 : ai_mask (max (b - 2147483648) (d - 2147483648)) = 2147483647 := by
        generalize max (b - 2147483648) (d - 2147483648) = t at q
        unfold ai_mask
        cases h1 : Nat.blt t 128 with
        | true => have := fx_blt h1; omega
        | false =>
          rw [fx_if_f]
          cases h2 : Nat.blt t 1024 with
          | true => have := fx_blt h2; omega
          | false => rfl
      rw [e9] at h
      refine fin (m := Nat.xor x y) (by omega) ?_ h (by omega) (by omega)
      show u ^^^ v = _
      rw [eu, ev, fx_o_xor]
  · have h : fx_if (Nat.blt d 2147483680 && Nat.blt (Nat.shiftLeft (b - 2147483648) (d - 2147483648)) 2147483648) (ai_new J n (Nat.shiftLeft (a - 2147483648) (c - 2147483648) + 2147483648) (Nat.shiftLeft (b - 2147483648) (d - 2147483648) + 2147483648) 0 0 k) (ai_new J n 0 4294967295 0 0 k) = true := h
    cases e : (Nat.blt d 2147483680 && Nat.blt (Nat.shiftLeft (b - 2147483648) (d - 2147483648)) 2147483648) with
    | false => rw [e, fx_if_f] at h; exact ai_got_full hn hj _ h
    | true =>
      rw [e, fx_if_t] at h
      obtain ⟨g1, g2⟩ := fx_and e
      have g1 := fx_blt g1
      have g2 := fx_blt g2
      have sh : ∀ p q : Nat, Nat.shiftLeft p q = p * 2 ^ q := fun p q => Nat.shiftLeft_eq p q
      rw [sh] at g2
      rw [sh, sh] at h
      have m1 : x * 2 ^ y ≤ (b - 2147483648) * 2 ^ (d - 2147483648) := Nat.mul_le_mul (by omega) (Nat.pow_le_pow_right (by decide) (by omega))
      have m2 : (a - 2147483648) * 2 ^ (c - 2147483648) ≤ x * 2 ^ y := Nat.mul_le_mul (by omega) (Nat.pow_le_pow_right (by decide) (by omega))
      refine fin (m := x * 2 ^ y) (by omega) ?_ h (by omega) (by omega)
      show u <<< (v &&& 31) = _
      rw [eu, ev, ← fx_o_shl (by omega), fx_o_mod, sh]
  · have h : fx_if (Nat.blt d 2147483680) (ai_new J n (Nat.shiftRight (a - 2147483648) (d - 2147483648) + 2147483648) (Nat.shiftRight (b - 2147483648) (c - 2147483648) + 2147483648) 0 0 k) (ai_new J n 0 4294967295 0 0 k) = true := h
    cases e : Nat.blt d 2147483680 with
    | false => rw [e, fx_if_f] at h; exact ai_got_full hn hj _ h
    | true =>
      rw [e, fx_if_t] at h
      have g1 := fx_blt e
      have sh : ∀ p q : Nat, Nat.shiftRight p q = p / 2 ^ q := fun p q => Nat.shiftRight_eq_div_pow p q
      rw [sh, sh] at h
      have pp : ∀ q : Nat, 0 < 2 ^ q := fun q => Nat.two_pow_pos q
      have m1 : x / 2 ^ y ≤ (b - 2147483648) / 2 ^ (c - 2147483648) := Nat.div_le_div (by omega) (Nat.pow_le_pow_right (by decide) (by omega)) (Nat.ne_of_gt (pp _))
      have m2 : (a - 2147483648) / 2 ^ (d - 2147483648) ≤ x / 2 ^ y := Nat.div_le_div (by omega) (Nat.pow_le_pow_right (by decide) (by omega)) (Nat.ne_of_gt (pp _))
      have m3 : x / 2 ^ y ≤ x := Nat.div_le_self _ _
      refine fin (m := x / 2 ^ y) (by omega) ?_ h (by omega) (by omega)
      show u >>> (v &&& 31) = _
      rw [eu, ev, ← fx_o_shr lu (by omega), sh]
  · have h : fx_if (Nat.blt d 2147483680) (ai_new J n (Nat.shiftRight (a - 2147483648) (d - 2147483648) + 2147483648) (Nat.shiftRight (b - 2147483648) (c - 2147483648) + 2147483648) 0 0 k) (ai_new J n 0 4294967295 0 0 k) = true := h
    cases e : Nat.blt d 2147483680 with
    | false => rw [e, fx_if_f] at h; exact ai_got_full hn hj _ h
    | true =>
      rw [e, fx_if_t] at h
      have g1 := fx_blt e
      have sh : ∀ p q : Nat, Nat.shiftRight p q = p / 2 ^ q := fun p q => Nat.shiftRight_eq_div_pow p q
      rw [sh, sh] at h
      have pp : ∀ q : Nat, 0 < 2 ^ q := fun q => Nat.two_pow_pos q
      have m1 : x / 2 ^ y ≤ (b - 2147483648) / 2 ^ (c - 2147483648) := Nat.div_le_div (by omega) (Nat.pow_le_pow_right (by decide) (by omega)) (Nat.ne_of_gt (pp _))
      have m2 : (a - 2147483648) / 2 ^ (d - 2147483648) ≤ x / 2 ^ y := Nat.div_le_div (by omega) (Nat.pow_le_pow_right (by decide) (by omega)) (Nat.ne_of_gt (pp _))
      have m3 : x / 2 ^ y ≤ x := Nat.div_le_self _ _
      refine fin (m := x / 2 ^ y) (by omega) ?_ h (by omega) (by omega)
      show (u.toUInt32 >>> (v.toUInt32 &&& Int32.toUInt32 31)).toInt32 = _
      rw [eu, ev, fx_o_ushr (by omega) (by omega), sh]
theorem ai_any_ok {ρ : List Nat} {J : ai_J} {n o n1 n2 a b c d : Nat} {k : fx_V → ai_J → Nat → Bool} (hn : ρ.length = n) (hj : ai_j ρ J) (c1 : n1 < 4294967296) (c2 : n2 < 4294967296) (h1 : a ≤ fx_b n1) (h2 : fx_b n1 ≤ b) (h3 : c ≤ fx_b n2) (h4 : fx_b n2 ≤ d) (h : ai_any J n o a b c d k = true) : ai_got ρ k (fc (rx_n (fx_op o (Int32.ofNat n1) (Int32.ofNat n2)))) := by
  have bb : ∀ {m : Nat}, m < 4294967296 → 2147483648 ≤ fx_b m → fx_b m = m + 2147483648 := fun {m} e1 e2 => by
    have e3 : fx_b m = (m + 2147483648) % 4294967296 := rfl
    omega
  unfold ai_any at h
  cases e5 : Nat.beq o 5 with
  | true =>
    have := fx_beq e5
    subst this
    rw [e5, fx_if_t] at h
    have hz : ∀ {m : Nat}, m < 2147483648 → Nat.land n1 n2 = m → fx_z (fx_op 5 (Int32.ofNat n1) (Int32.ofNat n2)) = m + 2147483648 := fun {m} g1 g2 => by
      show fx_z (Int32.ofNat n1 &&& Int32.ofNat n2) = _
      rw [← fx_o_and, g2, ai_z_of g1]
    cases e6 : Nat.ble 2147483648 a with
    | true =>
      rw [e6, fx_if_t] at h
      have e6 := fx_ble e6
      have e7 := bb c1 (by omega)
      have m1 : Nat.land n1 n2 ≤ n1 := Nat.and_le_left
      have bl := rx_b_lt n1
      have e8 := hz (m := Nat.land n1 n2) (by omega) rfl
      exact ai_got_z hn hj _ h (by omega) (by omega) (fun q => absurd rfl q)
    | false =>
      rw [e6, fx_if_f] at h
      cases e9 : Nat.ble 2147483648 c with
      | true =>
        rw [e9, fx_if_t] at h
        have e9 := fx_ble e9
        have e7 := bb c2 (by omega)
        have m1 : Nat.land n1 n2 ≤ n2 := Nat.and_le_right
        have bl := rx_b_lt n2
        have e8 := hz (m := Nat.land n1 n2) (by omega) rfl
        exact ai_got_z hn hj _ h (by omega) (by omega) (fun q => absurd rfl q)
      | false => rw [e9, fx_if_f] at h; exact ai_got_full hn hj _ h
  | false =>
    rw [e5, fx_if_f] at h
    cases e6 : (Nat.beq o 10 && (Nat.beq c d && (Nat.blt 2147483648 c && Nat.blt c 2147483680))) with
    | false => rw [e6, fx_if_f] at h; exact ai_got_full hn hj _ h
    | true =>
      rw [e6, fx_if_t] at h
      obtain ⟨g1, g2⟩ := fx_and e6
      obtain ⟨g2, g3⟩ := fx_and g2
      obtain ⟨g3, g4⟩ := fx_and g3
      have g1 := fx_beq g1
      have g2 := fx_beq g2
      have g3 := fx_blt g3
      have g4 := fx_blt g4
      subst g1
      have e7 := bb c2 (by omega)
      have sh : ∀ p q : Nat, Nat.shiftRight p q = p / 2 ^ q := fun p q => Nat.shiftRight_eq_div_pow p q
      rw [sh] at h
      have m1 : n1 / 2 ^ n2 ≤ 4294967295 / 2 ^ (c - 2147483648) := by
        rw [show c - 2147483648 = n2 by omega]
        exact Nat.div_le_div_right (by omega)
      have m2 : n1 / 2 ^ n2 ≤ n1 / 2 ^ 1 := Nat.div_le_div_left (Nat.pow_le_pow_right (by decide) (by omega)) (by decide)
      have m3 : n1 / 2 ^ 1 < 2147483648 := by omega
      have e8 : fx_z (fx_op 10 (Int32.ofNat n1) (Int32.ofNat n2)) = n1 / 2 ^ n2 + 2147483648 := by
        show fx_z ((Int32.ofNat n1).toUInt32 >>> ((Int32.ofNat n2).toUInt32 &&& Int32.toUInt32 31)).toInt32 = _
        rw [fx_o_ushr c1 (by omega), sh, ai_z_of (by omega)]
      exact ai_got_z hn hj _ h (by rw [e8]; exact Nat.le_add_left _ _) (by rw [e8]; exact Nat.add_le_add_right m1 _) (fun q => absurd rfl q)
theorem ai_bin_ok {ρ : List Nat} {J : ai_J} {n o : Nat} {x y w u : fx_V} {k : fx_V → ai_J → Nat → Bool} (hn : ρ.length = n) (hj : ai_j ρ J) (ho : o < 11) (hx : ai_v ρ x w) (hy : ai_v ρ y u) (h : ai_bin o J n x y k = true) : ∃ n1 n2, w = fc n1 ∧ u = fc n2 ∧ (o = 3 ∨ o = 4 → ¬ Int32.ofNat n2 = 0) ∧ ai_got ρ k (fc (rx_n (fx_op o (Int32.ofNat n1) (Int32.ofNat n2)))) := by
  obtain ⟨n1, a, b, rfl, c1, h1, h2, h, -⟩ := ai_rng_ok hx hj h
  obtain ⟨n2, c, d, rfl, c2, h3, h4, h, -⟩ := ai_rng_ok hy hj h
  have e1 := fx_z_of n1
  have e2 := fx_z_of n2
  refine ⟨n1, n2, rfl, rfl, ?_⟩
  cases q0 : Nat.beq o 0 with
  | true =>
    have := fx_beq q0
    subst this
    exact ⟨by omega, ai_add_ok hn hj hx hy h1 h2 h3 h4 h⟩
  | false =>
    rw [q0, fx_if_f] at h
    cases q1 : Nat.beq o 1 with
    | true =>
      have := fx_beq q1
      subst this
      exact ⟨by omega, ai_sub_ok hn hj hx h1 h2 h3 h4 h⟩
    | false =>
      rw [q1, fx_if_f] at h
      obtain ⟨g1, g2⟩ := fx_and h
      have hdiv : o = 3 ∨ o = 4 → (2147483648 < c ∨ d < 2147483648) := fun q => by
        rcases fx_or g1 with g3 | g3
        · rcases q with q | q <;> subst q <;> cases g3
        · rcases fx_or g3 with g3 | g3
          · exact Or.inl (fx_blt g3)
          · exact Or.inr (fx_blt g3)
      have hz : o = 3 ∨ o = 4 → ¬ Int32.ofNat n2 = 0 := fun q e => by
        have e3 := congrArg fx_z e
        rw [show fx_z 0 = 2147483648 from rfl] at e3
        have := hdiv q
        omega
      refine ⟨hz, ?_⟩
      have b0 := fx_bnq q0
      have b1 := fx_bnq q1
      cases q2 : (Nat.ble 2147483648 a && Nat.ble 2147483648 c) with
      | true =>
        rw [q2, fx_if_t] at g2
        obtain ⟨g3, g4⟩ := fx_and q2
        have g3 := fx_ble g3
        have g4 := fx_ble g4
        exact ai_pos_ok hn hj ho (by omega) (fun q => by have := hdiv q; omega) g3 g4 (by omega) (by omega) (by omega) (by omega) g2
      | false =>
        rw [q2, fx_if_f] at g2
        exact ai_any_ok hn hj c1 c2 h1 h2 h3 h4 g2
end
section
theorem ai_z_i2b (z : Int32) : 2147483520 ≤ fx_z z.toInt8.toInt32 ∧ fx_z z.toInt8.toInt32 ≤ 2147483775 ∧ (2147483520 ≤ fx_z z → fx_z z ≤ 2147483775 → z.toInt8.toInt32 = z) := by
  have e : z.toInt8.toInt32.toInt = z.toInt.bmod 256 := by rw [Int8.toInt_toInt32, Int32.toInt_toInt8]
  have hz := z.le_toInt
  refine ⟨?_, ?_, fun h1 h2 => ?_⟩
  · unfold fx_z
    rw [e]
    simp only [Int.bmod]
    omega
  · unfold fx_z
    rw [e]
    simp only [Int.bmod]
    omega
  · apply Int32.toInt_inj.1
    rw [e]
    unfold fx_z at h1 h2
    simp only [Int.bmod]
    omega
theorem ai_i2c_of (n : Nat) : ((Int32.ofNat n).toUInt32 % 65536).toInt32 = Int32.ofNat (n % 65536) := by
  apply Int32.toBitVec_inj.1
  rw [Int32.toBitVec_ofNat']
  show ((Int32.ofNat n).toUInt32 % 65536).toBitVec = _
  rw [UInt32.toBitVec_mod]
  apply BitVec.eq_of_toNat_eq
  show ((Int32.ofNat n).toBitVec % (65536 : UInt32).toBitVec).toNat = _
  rw [Int32.toBitVec_ofNat']
  simp [BitVec.toNat_ofNat]
  omega
theorem ai_un_ok {ρ : List Nat} {J : ai_J} {n o : Nat} {x w : fx_V} {k : fx_V → ai_J → Nat → Bool} (hn : ρ.length = n) (hj : ai_j ρ J) (ho : o < 4) (hx : ai_v ρ x w) (h : ai_un o J n x k = true) : ∃ n1, w = fc n1 ∧ (o < 3 → ai_got ρ k (fc (rx_n (rx_uop o (Int32.ofNat n1))))) ∧ (o = 3 → k (fl 0) J n = true) := by
  obtain ⟨n1, a, b, rfl, c1, h1, h2, h, -⟩ := ai_rng_ok hx hj h
  have e1 := fx_z_of n1
  have same : ∀ z : Int32, z = Int32.ofNat n1 → k x J n = true → ai_got ρ k (fc (rx_n z)) := fun z e g => by
    refine ⟨x, J, n, [], g, by rw [List.append_nil]; exact hn, by rw [List.append_nil]; exact hj, ?_⟩
    rw [List.append_nil, e]
    have e2 : rx_n (Int32.ofNat n1) = n1 := by
      unfold rx_n
      rw [e1, ai_b_b c1]
    rw [e2]
    exact hx
  refine ⟨n1, rfl, fun ho3 => ?_, fun q => by subst q; exact h⟩
  rcases (by omega : o = 0 ∨ o = 1 ∨ o = 2) with rfl | rfl | rfl
  · have h : fx_if (Nat.beq a 0) (ai_new J n 0 4294967295 0 0 k) (ai_new J n (4294967296 - b) (4294967296 - a) 0 0 k) = true := h
    cases e : Nat.beq a 0 with
    | true => rw [e, fx_if_t] at h; exact ai_got_full hn hj _ h
    | false =>
      rw [e, fx_if_f] at h
      have e := fx_bnq e
      have ez := ai_z_neg (u := Int32.ofNat n1) (by omega)
      exact ai_got_z hn hj (- Int32.ofNat n1) h (by omega) (by omega) (fun q => absurd rfl q)
  · have h : fx_if (Nat.ble 2147483520 a && Nat.ble b 2147483775) (k x J n) (ai_new J n 2147483520 2147483775 0 0 k) = true := h
    obtain ⟨z1, z2, z3⟩ := ai_z_i2b (Int32.ofNat n1)
    cases e : (Nat.ble 2147483520 a && Nat.ble b 2147483775) with
    | true =>
      rw [e, fx_if_t] at h
      obtain ⟨g1, g2⟩ := fx_and e
      have g1 := fx_ble g1
      have g2 := fx_ble g2
      exact same _ (z3 (by omega) (by omega)) h
    | false =>
      rw [e, fx_if_f] at h
      exact ai_got_z hn hj (Int32.ofNat n1).toInt8.toInt32 h z1 z2 (fun q => absurd rfl q)
  · have h : fx_if (Nat.ble 2147483648 a && Nat.ble b 2147549183) (k x J n) (ai_new J n 2147483648 2147549183 0 0 k) = true := h
    have e9 : rx_uop 2 (Int32.ofNat n1) = Int32.ofNat (n1 % 65536) := ai_i2c_of n1
    cases e : (Nat.ble 2147483648 a && Nat.ble b 2147549183) with
    | true =>
      rw [e, fx_if_t] at h
      obtain ⟨g1, g2⟩ := fx_and e
      have g1 := fx_ble g1
      have g2 := fx_ble g2
      refine same _ ?_ h
      rw [e9]
      have e3 : fx_b n1 = (n1 + 2147483648) % 4294967296 := rfl
      rw [show n1 % 65536 = n1 by omega]
    | false =>
      rw [e, fx_if_f] at h
      rw [e9]
      have ez := ai_z_of (n := n1 % 65536) (by omega)
      exact ai_got_z hn hj _ h (by omega) (by omega) (fun q => absurd rfl q)
theorem ai_abs_ok {ρ : List Nat} {J : ai_J} {n : Nat} {x w : fx_V} {k : fx_V → ai_J → Nat → Bool} (hn : ρ.length = n) (hj : ai_j ρ J) (hx : ai_v ρ x w) (h : ai_abs J n x k = true) : ∃ n1, w = fc n1 ∧ ai_got ρ k (fc (rx_n (if 0 ≤ Int32.ofNat n1 then Int32.ofNat n1 else 0 - Int32.ofNat n1))) := by
  obtain ⟨n1, a, b, rfl, c1, h1, h2, h, -⟩ := ai_rng_ok hx hj h
  have e1 := fx_z_of n1
  have hle : ∀ z : Int32, 0 ≤ z ↔ 2147483648 ≤ fx_z z := fun z => by rw [fx_z_le]; exact Iff.rfl
  refine ⟨n1, rfl, ?_⟩
  cases e : Nat.ble 2147483648 a with
  | true =>
    rw [e, fx_if_t] at h
    have e := fx_ble e
    rw [if_pos ((hle _).mpr (by omega))]
    refine ⟨x, J, n, [], h, by rw [List.append_nil]; exact hn, by rw [List.append_nil]; exact hj, ?_⟩
    rw [List.append_nil]
    have e2 : rx_n (Int32.ofNat n1) = n1 := by
      unfold rx_n
      rw [e1, ai_b_b c1]
    rw [e2]
    exact hx
  | false =>
    rw [e, fx_if_f] at h
    cases e2 : Nat.beq a 0 with
    | true => rw [e2, fx_if_t] at h; exact ai_got_full hn hj _ h
    | false =>
      rw [e2, fx_if_f, ai_max_le] at h
      have e2 := fx_bnq e2
      by_cases q : 0 ≤ Int32.ofNat n1
      · rw [if_pos q]
        have := (hle _).mp q
        exact ai_got_z hn hj _ h (by omega) (by omega) (fun q => absurd rfl q)
      · rw [if_neg q]
        have q2 : ¬ 2147483648 ≤ fx_z (Int32.ofNat n1) := fun t => q ((hle _).mpr t)
        have ez := ai_z_sub (u := 0) (v := Int32.ofNat n1) (by rw [show fx_z 0 = 2147483648 from rfl]; omega) (by rw [show fx_z 0 = 2147483648 from rfl]; omega)
        rw [show fx_z 0 = 2147483648 from rfl] at ez
        exact ai_got_z hn hj _ h (by omega) (by omega) (fun q => absurd rfl q)
/-- specs -/
theorem ai_fit_ok {ρ : List Nat} {J : ai_J} {v w : fx_V} {s : ai_S} (hj : ai_j ρ J) (hv : ai_v ρ v w) (h : ai_fit J v s = true) : ai_sp s w := by
  rcases s with ⟨lo, hi⟩ | u
  · simp only [ai_fit] at h
    obtain ⟨n, a, b, rfl, c1, h1, h2, h, -⟩ := ai_rng_ok hv hj h
    obtain ⟨g1, g2⟩ := fx_and h
    have g1 := fx_ble g1
    have g2 := fx_ble g2
    exact ⟨n, rfl, c1, Nat.le_trans g1 h1, Nat.le_trans h2 g2⟩
  · have hX : ∀ {v2 : fx_V}, fx_veq v v2 = true → v = v2 := fun q => fx_veq_ok (X := (fun _ => 0, 0, fun _ => .null)) q
    rcases u with m | i | o | m
    · have := hX (show fx_veq v (fc m) = true from h)
      subst this
      exact hv
    · cases h
    · have := hX (show fx_veq v (.inr (.inr (.inl o))) = true from h)
      subst this
      exact hv
    · rcases v with n | i | o | n
      · cases h
      · cases h
      · cases h
      · simp only [ai_fit] at h
        obtain ⟨q, rfl, hq⟩ := hv
        rcases fx_or h with t | t
        · have := fx_beq t
          subst this
          exact ⟨q, rfl, trivial⟩
        · have := fx_beq t
          subst this
          exact ⟨q, rfl, hq⟩
end
section
/-- locals: every entry -/
def ai_lm (ρ : List Nat) (L : fx_L) (f : Nat → Option fx_V) : Prop := ∀ q ∈ L, ∃ w, f q.1 = some w ∧ ai_v ρ q.2 w
theorem ai_lm.ext {ρ τ : List Nat} {L : fx_L} {f : Nat → Option fx_V} (h : ai_lm ρ L f) : ai_lm (ρ ++ τ) L f := fun q hq => by
  obtain ⟨w, h1, h2⟩ := h q hq
  exact ⟨w, h1, h2.ext⟩
def ai_st (T : ai_T) (ρ : List Nat) (loc : fx_L) (stk : List fx_V) (F : fx_L) (J : ai_J) (n : Nat) (cloc : fx_L) (cstk : List fx_V) (h : fx_H) : Prop := ρ.length = n ∧ ai_lm ρ loc (fx_look cloc) ∧ ai_vl ρ stk cstk ∧ ai_l ρ F (ai_pl h) ∧ ai_j ρ J ∧ ai_inv T h
/-- the frame, and what holds of every heap on the way -/
def ai_hf (E : ai_E) (P : fx_H → Prop) (h0 h : fx_H) : Prop := ai_fr E.2.2.2.1 h0 h ∧ P h
def ai_gok (l : Launch) (X : fx_X) (Y : fx_Y) (B : fx_B) (E : ai_E) (P : fx_H → Prop) (h0 : fx_H) (d : Nat) (cod : List fx_I) (K : rx_K) (ρ : List Nat) (go : ai_O) : Prop :=
  (∀ loc stk F J n, go [] loc stk F J n = false) ∧ ∀ at_ loc stk F J n τ cloc cstk h, go at_ loc stk F J n = true → ai_st E.1 (ρ ++ τ) loc stk F J n cloc cstk h → ai_hf E P h0 h → rx_run l X Y B d cod at_ cloc cstk h K
theorem ai_cat {ρ : List Nat} {v w : fx_V} (h : ai_v ρ v w) : fx_cat w = fx_cat v := by
  rcases v with n | i | o | n
  · obtain ⟨-, rfl⟩ := h; rfl
  · obtain ⟨x, -, -, rfl⟩ := h; rfl
  · have : w = _ := h
    subst this; rfl
  · obtain ⟨m, rfl, -⟩ := h; rfl
theorem ai_form {ρ : List Nat} {v w : fx_V} (h : ai_v ρ v w) (b : Nat) : fx_form b w = fx_form b v := by
  rcases v with n | i | o | n
  · obtain ⟨-, rfl⟩ := h; rfl
  · obtain ⟨x, -, -, rfl⟩ := h; rfl
  · have : w = _ := h
    subst this; rfl
  · obtain ⟨m, rfl, -⟩ := h; rfl
theorem ai_nz {ρ : List Nat} {v w : fx_V} (h : ai_v ρ v w) (k : fx_V → Bool) : fx_nz [] w k = k w := by
  rcases v with n | i | o | n
  · obtain ⟨-, rfl⟩ := h; rfl
  · obtain ⟨x, -, -, rfl⟩ := h; rfl
  · have : w = _ := h
    subst this
    cases o <;> rfl
  · obtain ⟨m, rfl, -⟩ := h; rfl
theorem ai_look_pass (g : Nat → Nat → Bool) {i : Nat} {w : fx_V} : ∀ {l : fx_L}, fx_look l i = some w → g i (fx_cat w) = true → fx_look (l.filter (fun q => g q.1 (fx_cat q.2))) i = some w := by
  intro l
  induction l with
  | nil => intro h; cases h
  | cons q l ih =>
    intro h hg
    rw [fx_look_cons] at h
    cases hc : Nat.beq q.1 i with
    | true =>
      rw [hc, fx_if_t] at h
      cases h
      have := fx_beq hc
      subst this
      rw [List.filter_cons_of_pos (p := fun q : Nat × fx_V => g q.1 (fx_cat q.2)) hg, fx_look_cons, Nat.beq_refl, fx_if_t]
    | false =>
      rw [hc, fx_if_f] at h
      cases hf : g q.1 (fx_cat q.2) with
      | true => rw [List.filter_cons_of_pos (p := fun q : Nat × fx_V => g q.1 (fx_cat q.2)) hf, fx_look_cons, hc, fx_if_f]; exact ih h hg
      | false => rw [List.filter_cons_of_neg (p := fun q : Nat × fx_V => g q.1 (fx_cat q.2)) (by show ¬ g q.1 (fx_cat q.2) = true; rw [hf]; simp)]; exact ih h hg
/-- a store into a slot: what the analysis keeps is so of the plain locals too -/
theorem ai_store {ρ : List Nat} {loc cloc : fx_L} {a : Nat} {v w : fx_V} {k : fx_L → Bool} (hl : ai_lm ρ loc (fx_look cloc)) (hv : ai_v ρ v w) (h : fx_store loc a v k = true) : ∃ loc' cloc', k loc' = true ∧ ai_lm ρ loc' (fx_look cloc') ∧ ∀ k2 : fx_L → Bool, fx_store cloc a w k2 = k2 cloc' := by
  have gen : ∀ g : Nat → Nat → Bool, (∀ i c, g i c = true → i ≠ a) → ai_lm ρ ((a, v) :: loc.filter (fun q => g q.1 (fx_cat q.2))) (fx_look ((a, w) :: cloc.filter (fun q => g q.1 (fx_cat q.2)))) := fun g hg q hq => by
    rcases List.mem_cons.mp hq with rfl | hq
    · exact ⟨w, fx_look_hit _ _ _, hv⟩
    · obtain ⟨q1, q2⟩ := List.mem_filter.mp hq
      obtain ⟨u, e1, e2⟩ := hl q q1
      have e3 : g q.1 (fx_cat u) = true := by rw [ai_cat e2]; exact q2
      refine ⟨u, ?_, e2⟩
      rw [fx_look_miss _ _ (Ne.symm (hg _ _ q2))]
      exact ai_look_pass g e1 e3
  have hc := ai_cat hv
  rcases fx_store_ok h with ⟨e1, e2⟩ | ⟨e1, e2⟩
  · refine ⟨_, _, e2, gen (fun i c => !(Nat.beq i a || (Nat.beq (i + 1) a && Nat.beq c 2))) (fun i c q e => ?_), fun k2 => ?_⟩
    · subst e
      have q : (!(Nat.beq i i || (Nat.beq (i + 1) i && Nat.beq c 2))) = true := q
      rw [Nat.beq_refl] at q
      cases q
    · rw [e1] at hc
      rcases w with n | i | o | n
      · exact fx_drop_eq a cloc (fun t => k2 ((a, fc n) :: t))
      · exact fx_drop_eq a cloc (fun t => k2 ((a, fv i) :: t))
      · exact fx_drop_eq a cloc (fun t => k2 ((a, .inr (.inr (.inl o))) :: t))
      · cases hc
  · refine ⟨_, _, e2, gen (fun i c => !(Nat.beq i a || (Nat.beq i (a + 1) || (Nat.beq (i + 1) a && Nat.beq c 2)))) (fun i c q e => ?_), fun k2 => ?_⟩
    · subst e
      have q : (!(Nat.beq i i || (Nat.beq i (i + 1) || (Nat.beq (i + 1) i && Nat.beq c 2)))) = true := q
      rw [Nat.beq_refl] at q
      cases q
    · rw [e1] at hc
      rcases w with n | i | o | n
      · cases hc
      · cases hc
      · cases hc
      · exact fx_drop2_eq a cloc (fun t => k2 ((a, fl n) :: t))
section AIS
variable {l : Launch} {X : fx_X} {Y : fx_Y} {B : fx_B} {E : ai_E} {P : fx_H → Prop} {h0 : fx_H} {d : Nat} {cod : List fx_I} {K : rx_K} {go : ai_O}
variable {pc a b c n len : Nat} {tl : List fx_I} {loc cloc F : fx_L} {stk cstk : List fx_V} {J : ai_J} {ρ τ : List Nat} {h : fx_H}
theorem ai_nx (hgo : ai_gok l X Y B E P h0 d cod K ρ go) (ee : fx_nx (fun t => go t loc stk F J n) pc len tl = true) (hs : ai_st E.1 (ρ ++ τ) loc stk F J n cloc cstk h) (hf : ai_hf E P h0 h) : rx_nx l X Y B d cod K pc len tl cloc cstk h := by
  obtain ⟨r, t, rfl, h1, h2⟩ := fx_nx_ok ee
  show (Nat.beq r.1 (pc + len) && rx_go l X Y B d cod K (r :: t) cloc cstk 0 0 h []) = true
  rw [h1, Nat.beq_refl, Bool.true_and]
  exact rx_go_iff.mpr ⟨by simp, hgo.2 _ _ _ _ _ _ _ _ _ _ h2 hs hf⟩
theorem ai_nx0 (hgo : ai_gok l X Y B E P h0 d cod K ρ go) (ee : fx_nx (fun t => go t loc stk F J n) pc len tl = true) (hs : ai_st E.1 ρ loc stk F J n cloc cstk h) (hf : ai_hf E P h0 h) : rx_nx l X Y B d cod K pc len tl cloc cstk h := ai_nx (τ := []) hgo ee (by rw [List.append_nil]; exact hs) hf
theorem ai_jmp (hgo : ai_gok l X Y B E P h0 d cod K ρ go) {t : Nat} (ee : go (fx_to cod t) loc stk F J n = true) (hs : ai_st E.1 ρ loc stk F J n cloc cstk h) (hf : ai_hf E P h0 h) : rx_go l X Y B d cod K (fx_to cod t) cloc cstk 0 0 h [] = true := by
  refine rx_go_iff.mpr ⟨fun q => ?_, hgo.2 _ _ _ _ _ _ [] _ _ _ ee (by rw [List.append_nil]; exact hs) hf⟩
  rw [q, hgo.1] at ee
  cases ee
theorem ai_s0 (hXX : fx_xx X B) (hma : fx_mall fx_mst fx_mt) (hwd : fx_wd) (hgo : ai_gok l X Y B E P h0 d cod K ρ go) (ee : ai_k0 go pc a b tl loc stk F J n = true) (hs : ai_st E.1 ρ loc stk F J n cloc cstk h) (hf : ai_hf E P h0 h) : rx_run l X Y B d cod ((pc, 0, a, b, c) :: tl) cloc cstk h K := by
  refine rx_one hXX hma hwd ?_
  show fx_k0 (rx_go l X Y B d cod K) pc a b tl cloc cstk 0 0 h [] = true
  obtain ⟨s1, s2, s3, s4, s5, s6⟩ := hs
  unfold ai_k0 at ee
  cases hl : fx_look loc a with
  | none => rw [hl] at ee; cases ee
  | some v =>
    rw [hl] at ee
    simp only at ee
    obtain ⟨e1, e2⟩ := fx_and ee
    obtain ⟨e3, e4⟩ := fx_and e1
    obtain ⟨w, g1, g2⟩ := s2 _ (ai_look_mem hl)
    unfold fx_k0
    rw [g1]
    simp only
    rw [ai_form g2, e3, e4, ai_nz g2, Bool.true_and, Bool.true_and]
    exact ai_nx0 hgo e2 ⟨s1, s2, ⟨g2, s3⟩, s4, s5, s6⟩ hf
theorem ai_s11 (hXX : fx_xx X B) (hma : fx_mall fx_mst fx_mt) (hwd : fx_wd) (hgo : ai_gok l X Y B E P h0 d cod K ρ go) (ee : ai_k11 go pc a b tl loc stk F J n = true) (hs : ai_st E.1 ρ loc stk F J n cloc cstk h) (hf : ai_hf E P h0 h) : rx_run l X Y B d cod ((pc, 11, a, b, c) :: tl) cloc cstk h K := by
  refine rx_one hXX hma hwd ?_
  show fx_k11 (rx_go l X Y B d cod K) pc a b tl cloc cstk 0 0 h [] = true
  obtain ⟨s1, s2, s3, s4, s5, s6⟩ := hs
  cases stk with
  | nil => cases ee
  | cons v stk =>
    obtain ⟨w, cstk, rfl, g1, g2⟩ := ai_vl_cons s3
    have ee : ((fx_form b v && Nat.blt b 6) && fx_store loc a v (fun loc => fx_nx (fun t => go t loc stk F J n) pc (fx_odd b) tl)) = true := ee
    obtain ⟨e1, e2⟩ := fx_and ee
    obtain ⟨e3, e4⟩ := fx_and e1
    obtain ⟨loc', cloc', k1, k2, k3⟩ := ai_store s2 g1 e2
    show ((fx_form b w && Nat.blt b 6) && fx_store cloc a w (fun loc => fx_nx (fun t => rx_go l X Y B d cod K t loc cstk 0 0 h []) pc (fx_odd b) tl)) = true
    rw [ai_form g1, e3, e4, k3, Bool.true_and, Bool.true_and]
    exact ai_nx0 hgo k1 ⟨s1, k2, g2, s4, s5, s6⟩ hf
theorem ai_s2 (hXX : fx_xx X B) (hma : fx_mall fx_mst fx_mt) (hwd : fx_wd) (hgo : ai_gok l X Y B E P h0 d cod K ρ go) (ee : ai_k2 go pc a c tl loc stk F J n = true) (hs : ai_st E.1 ρ loc stk F J n cloc cstk h) (hf : ai_hf E P h0 h) : rx_run l X Y B d cod ((pc, 2, a, b, c) :: tl) cloc cstk h K := by
  refine rx_one hXX hma hwd ?_
  show (Nat.blt a 8 && fx_nx (fun t => rx_go l X Y B d cod K t cloc (fx_cst a c :: cstk) 0 0 h []) pc (fx_clen a) tl) = true
  obtain ⟨s1, s2, s3, s4, s5, s6⟩ := hs
  obtain ⟨e1, e2⟩ := fx_and ee
  have h8 : Nat.blt a 8 = true ∧ (Nat.blt c 4294967296 = true ∨ a = 5 ∨ a = 6) := by
    rcases fx_or e1 with e3 | e3
    · obtain ⟨g1, g2⟩ := fx_and e3
      exact ⟨g1, Or.inl g2⟩
    · rcases fx_or e3 with e3 | e3
      · have := fx_beq e3
        subst this
        exact ⟨rfl, Or.inr (Or.inl rfl)⟩
      · have := fx_beq e3
        subst this
        exact ⟨rfl, Or.inr (Or.inr rfl)⟩
  have hv : ai_v ρ (ai_cst a c) (fx_cst a c) := by
    have := fx_blt h8.1
    rcases (by omega : a < 5 ∨ a = 5 ∨ a = 6 ∨ a = 7) with q | rfl | rfl | rfl
    · have e9 : fx_cst a c = fc c := by
        unfold fx_cst
        rw [show Nat.blt a 5 = true from rx_ble q, fx_if_t]
      have e8 : ai_cst a c = fc c := by
        unfold ai_cst
        rw [show Nat.blt a 5 = true from rx_ble q, fx_if_t]
      rw [e9, e8]
      refine ⟨?_, rfl⟩
      rcases h8.2 with t | t | t
      · exact fx_blt t
      · omega
      · omega
    · exact ⟨c, rfl, rfl⟩
    · exact ⟨c, rfl, rfl⟩
    · rfl
  rw [h8.1, Bool.true_and]
  exact ai_nx0 hgo e2 ⟨s1, s2, ⟨hv, s3⟩, s4, s5, s6⟩ hf
theorem ai_s3 (hXX : fx_xx X B) (hma : fx_mall fx_mst fx_mt) (hwd : fx_wd) (hgo : ai_gok l X Y B E P h0 d cod K ρ go) (ee : ai_k3 go cod pc a b tl loc stk F J n = true) (hs : ai_st E.1 ρ loc stk F J n cloc cstk h) (hf : ai_hf E P h0 h) : rx_run l X Y B d cod ((pc, 3, a, b, c) :: tl) cloc cstk h K := by
  refine rx_one hXX hma hwd ?_
  show fx_k3 (rx_go l X Y B d cod K) cod pc a b tl cloc cstk 0 0 h [] = true
  obtain ⟨s1, s2, s3, s4, s5, s6⟩ := hs
  rcases stk with _ | ⟨y, _ | ⟨x, stk⟩⟩
  · cases ee
  · cases ee
  obtain ⟨u, cstk1, rfl, gy, g2⟩ := ai_vl_cons s3
  obtain ⟨w, cstk, rfl, gx, g3⟩ := ai_vl_cons g2
  obtain ⟨e1, e2⟩ := fx_and (a := Nat.blt a 6) ee
  obtain ⟨n1, n2, J', rfl, rfl, k1, k2⟩ := ai_cmp_ok (fx_blt e1) s5 gx gy e2
  show (Nat.blt a 6 && fx_if (fx_con a (fx_b n1) (fx_b n2)) (rx_go l X Y B d cod K (fx_to cod b) cloc cstk 0 0 h []) (fx_nx (fun t => rx_go l X Y B d cod K t cloc cstk 0 0 h []) pc 3 tl)) = true
  rw [e1, Bool.true_and]
  cases hc : fx_con a (fx_b n1) (fx_b n2) with
  | true =>
    rw [hc, fx_if_t] at k1
    rw [fx_if_t]
    exact ai_jmp hgo k1 ⟨s1, s2, g3, s4, k2, s6⟩ hf
  | false =>
    rw [hc, fx_if_f] at k1
    rw [fx_if_f]
    exact ai_nx0 hgo k1 ⟨s1, s2, g3, s4, k2, s6⟩ hf
theorem ai_s4 (hXX : fx_xx X B) (hma : fx_mall fx_mst fx_mt) (hwd : fx_wd) (hgo : ai_gok l X Y B E P h0 d cod K ρ go) (ee : ai_k4 go cod pc a b tl loc stk F J n = true) (hs : ai_st E.1 ρ loc stk F J n cloc cstk h) (hf : ai_hf E P h0 h) : rx_run l X Y B d cod ((pc, 4, a, b, c) :: tl) cloc cstk h K := by
  refine rx_one hXX hma hwd ?_
  show fx_k4 (rx_go l X Y B d cod K) cod pc a b tl cloc cstk 0 0 h [] = true
  obtain ⟨s1, s2, s3, s4, s5, s6⟩ := hs
  rcases stk with _ | ⟨x, stk⟩
  · cases ee
  obtain ⟨w, cstk, rfl, gx, g3⟩ := ai_vl_cons s3
  obtain ⟨e1, e2⟩ := fx_and (a := Nat.blt a 6) ee
  obtain ⟨n1, n2, J', rfl, e3, k1, k2⟩ := ai_cmp_ok (fx_blt e1) s5 gx (y := fc 0) (u := fc 0) ⟨by decide, rfl⟩ e2
  cases e3
  show (Nat.blt a 6 && fx_if (fx_con a (fx_b n1) (fx_b 0)) (rx_go l X Y B d cod K (fx_to cod b) cloc cstk 0 0 h []) (fx_nx (fun t => rx_go l X Y B d cod K t cloc cstk 0 0 h []) pc 3 tl)) = true
  rw [e1, Bool.true_and]
  cases hc : fx_con a (fx_b n1) (fx_b 0) with
  | true =>
    rw [hc, fx_if_t] at k1
    rw [fx_if_t]
    exact ai_jmp hgo k1 ⟨s1, s2, g3, s4, k2, s6⟩ hf
  | false =>
    rw [hc, fx_if_f] at k1
    rw [fx_if_f]
    exact ai_nx0 hgo k1 ⟨s1, s2, g3, s4, k2, s6⟩ hf
theorem ai_s5 (hXX : fx_xx X B) (hma : fx_mall fx_mst fx_mt) (hwd : fx_wd) (hgo : ai_gok l X Y B E P h0 d cod K ρ go) (ee : go (fx_to cod b) loc stk F J n = true) (hs : ai_st E.1 ρ loc stk F J n cloc cstk h) (hf : ai_hf E P h0 h) : rx_run l X Y B d cod ((pc, 5, a, b, c) :: tl) cloc cstk h K := by
  refine rx_one hXX hma hwd ?_
  show rx_go l X Y B d cod K (fx_to cod b) cloc cstk 0 0 h [] = true
  exact ai_jmp hgo ee hs hf
theorem ai_s12 (hXX : fx_xx X B) (hma : fx_mall fx_mst fx_mt) (hwd : fx_wd) (hgo : ai_gok l X Y B E P h0 d cod K ρ go) (ee : ai_k12 go pc a tl loc stk F J n = true) (hs : ai_st E.1 ρ loc stk F J n cloc cstk h) (hf : ai_hf E P h0 h) : rx_run l X Y B d cod ((pc, 12, a, b, c) :: tl) cloc cstk h K := by
  obtain ⟨s1, s2, s3, s4, s5, s6⟩ := hs
  rcases stk with _ | ⟨y, _ | ⟨x, stk⟩⟩
  · cases ee
  · cases ee
  obtain ⟨u, cstk1, rfl, gy, g2⟩ := ai_vl_cons s3
  obtain ⟨w, cstk, rfl, gx, g3⟩ := ai_vl_cons g2
  obtain ⟨e1, e2⟩ := fx_and (a := Nat.blt a 11) ee
  obtain ⟨n1, n2, rfl, rfl, hne, v, J', n', τ, k1, k2, k3, k4⟩ := ai_bin_ok s1 s5 (fx_blt e1) gx gy e2
  exact rx_bin hne (ai_nx hgo k1 ⟨k2, s2.ext, ⟨k4, g3.ext⟩, s4.ext, k3, s6⟩ hf)
theorem ai_s13 (hXX : fx_xx X B) (hma : fx_mall fx_mst fx_mt) (hwd : fx_wd) (hgo : ai_gok l X Y B E P h0 d cod K ρ go) (ee : ai_k13 go pc a tl loc stk F J n = true) (hs : ai_st E.1 ρ loc stk F J n cloc cstk h) (hf : ai_hf E P h0 h) : rx_run l X Y B d cod ((pc, 13, a, b, c) :: tl) cloc cstk h K := by
  obtain ⟨s1, s2, s3, s4, s5, s6⟩ := hs
  rcases stk with _ | ⟨x, stk⟩
  · cases ee
  obtain ⟨w, cstk, rfl, gx, g3⟩ := ai_vl_cons s3
  obtain ⟨e1, e2⟩ := fx_and (a := Nat.blt a 4) ee
  have e1 := fx_blt e1
  obtain ⟨n1, rfl, k5, k6⟩ := ai_un_ok s1 s5 e1 gx e2
  rcases (by omega : a < 3 ∨ a = 3) with q | rfl
  · obtain ⟨v, J', n', τ, k1, k2, k3, k4⟩ := k5 q
    exact rx_un q (ai_nx hgo k1 ⟨k2, s2.ext, ⟨k4, g3.ext⟩, s4.ext, k3, s6⟩ hf)
  · exact rx_i2l (fun m => ai_nx0 hgo (k6 rfl) ⟨s1, s2, ⟨⟨m, rfl, trivial⟩, g3⟩, s4, s5, s6⟩ hf)
theorem ai_s7 (hXX : fx_xx X B) (hma : fx_mall fx_mst fx_mt) (hwd : fx_wd) (hgo : ai_gok l X Y B E P h0 d cod K ρ go) (ee : ai_k7 go pc a b tl loc stk F J n = true) (hs : ai_st E.1 ρ loc stk F J n cloc cstk h) (hf : ai_hf E P h0 h) : rx_run l X Y B d cod ((pc, 7, a, b, c) :: tl) cloc cstk h K := by
  refine rx_one hXX hma hwd ?_
  show fx_k7 (rx_go l X Y B d cod K) pc a b tl cloc cstk 0 0 h [] = true
  obtain ⟨s1, s2, s3, s4, s5, s6⟩ := hs
  unfold ai_k7 at ee
  cases hl : fx_look loc a with
  | none => rw [hl] at ee; cases ee
  | some v =>
    rw [hl] at ee
    simp only at ee
    obtain ⟨e1, e2⟩ := fx_and ee
    obtain ⟨e3, e4⟩ := fx_and e1
    obtain ⟨w, g1, g2⟩ := s2 _ (ai_look_mem hl)
    obtain ⟨n1, n2, rfl, e5, -, w', J', n', τ, k1, k2, k3, k4⟩ := ai_bin_ok (o := 0) s1 s5 (by decide) g2 (y := fc b) (u := fc b) ⟨fx_blt e4, rfl⟩ e2
    cases e5
    have e6 : rx_n (fx_op 0 (Int32.ofNat n1) (Int32.ofNat b)) = Nat.mod (Nat.add n1 b) 4294967296 := by
      show rx_n (Int32.ofNat n1 + Int32.ofNat b) = _
      rw [← fx_o_add]
      unfold rx_n
      rw [fx_z_of]
      exact ai_b_b (Nat.mod_lt _ (by decide))
    rw [e6] at k4
    obtain ⟨loc', cloc', j1, j2, j3⟩ := ai_store (ai_lm.ext s2) k4 k1
    unfold fx_k7
    rw [g1]
    show fx_val (fc (Nat.mod (Nat.add n1 b) 4294967296)) (fun w => fx_store cloc a w (fun loc => fx_nx (fun t => rx_go l X Y B d cod K t loc cstk 0 0 h []) pc 3 tl)) = true
    rw [fx_val_eq, j3]
    exact ai_nx hgo j1 ⟨k2, j2, s3.ext, s4.ext, k3, s6⟩ hf
end AIS
end
section
theorem fw_put {α : Type} (a : α) : ∀ (l : List α) (n : Nat), n < l.length → ∀ k : List α → Bool, fx_put a l n k = k (l.set n a) := by
  intro l
  induction l with
  | nil => intro n hn; simp at hn
  | cons b l ih =>
    intro n hn k
    cases n with
    | zero => rfl
    | succ n => exact ih n (Nat.lt_of_succ_lt_succ hn) (fun t => k (b :: t))
theorem fw_hset {h : fx_H} {k : Nat} {c0 : fx_C} (c : fx_C) (hg : fx_hget h k = some c0) : ∃ h', h'.1 = h.1 ∧ fx_hget h' k = some c ∧ (∀ i, i ≠ k → fx_hget h' i = fx_hget h i) ∧ ∀ kk : fx_H → Bool, fx_hset h k c kk = kk h' := by
  obtain ⟨n, rows⟩ := h
  rw [fx_hget_eq] at hg
  cases hr : rows[k / 16]? with
  | none => rw [hr] at hg; cases hg
  | some r =>
    rw [hr] at hg
    have hg : r[k % 16]? = some c0 := hg
    have l1 : k % 16 < r.length := (List.getElem?_eq_some_iff.mp hg).1
    have l2 : k / 16 < rows.length := (List.getElem?_eq_some_iff.mp hr).1
    have eq : ∀ kk : fx_H → Bool, fx_hset (n, rows) k c kk = kk (n, rows.set (k / 16) (r.set (k % 16) c)) := fun kk => by
      unfold fx_hset
      simp only
      rw [show fx_nth rows (Nat.div k 16) = some r by rw [fx_nth_eq]; exact hr]
      simp only
      rw [show k.mod 16 = k % 16 from rfl, show k.div 16 = k / 16 from rfl, fw_put _ _ _ l1, fw_put _ _ _ l2]
    have e1 : fx_hset (n, rows) k c (fun _ => true) = true := by rw [eq]
    refine ⟨(n, rows.set (k / 16) (r.set (k % 16) c)), rfl, ?_, ?_, eq⟩
    · rw [fx_hget_eq, List.getElem?_set_self l2]
      exact List.getElem?_set_self l1
    · intro i hi
      rw [fx_hget_eq, fx_hget_eq]
      by_cases hq : i / 16 = k / 16
      · rw [hq, List.getElem?_set_self l2, hr]
        show (r.set (k % 16) c)[i % 16]? = r[i % 16]?
        rw [List.getElem?_set_ne]
        intro hm
        apply hi
        rw [← Nat.div_add_mod i 16, ← Nat.div_add_mod k 16, hq, hm]
      · rw [List.getElem?_set_ne (Ne.symm hq)]
theorem fw_aset (ty : Nat) (u : List (Nat × fx_V)) (n : Nat) (v : fx_V) : ∃ u', fx_aget ty u' n = v ∧ (∀ i, i ≠ n → fx_aget ty u' i = fx_aget ty u i) ∧ ∀ k : List (Nat × fx_V) → Bool, fx_aset ty u n v k = k u' := by
  have X0 : fx_X := (fun _ => 0, 0, fun _ => .null)
  unfold fx_aset
  cases h1 : fx_veq v (fx_aget ty u n) with
  | true => exact ⟨u, (fx_veq_ok (X := X0) h1).symm, fun _ _ => rfl, fun k => by rw [fx_if_t]⟩
  | false =>
    cases h2 : fx_veq v (fx_dft ty) with
    | true =>
      refine ⟨u.filter (fun q => !(Nat.beq q.1 n)), ?_, fun i hi => ?_, fun k => by rw [fx_if_f, fx_without_eq, fx_if_t]⟩
      · rw [fx_aget_def, fx_look_gone]
        exact (fx_veq_ok (X := X0) h2).symm
      · rw [fx_aget_def, fx_aget_def, fx_look_out i n hi]
    | false =>
      refine ⟨(n, v) :: u.filter (fun q => !(Nat.beq q.1 n)), ?_, fun i hi => ?_, fun k => by rw [fx_if_f, fx_without_eq, fx_if_f]⟩
      · rw [fx_aget_def, fx_look_hit]
      · rw [fx_aget_def, fx_aget_def, fx_look_miss _ _ (Ne.symm hi), fx_look_out i n hi]
theorem fw_copy (s d : List (Nat × fx_V)) (sp dp : Nat) : ∀ n : Nat, ∃ u, (∀ i, fx_aget 0 u i = if dp ≤ i ∧ i < dp + n then fx_aget 0 s (sp + (i - dp)) else fx_aget 0 d i) ∧ ∀ k : List (Nat × fx_V) → Bool, fx_copy s d sp dp n k = k u := by
  intro n
  induction n with
  | zero => exact ⟨d, fun i => by rw [if_neg (by omega)], fun k => rfl⟩
  | succ n ih =>
    obtain ⟨u, h1, h2⟩ := ih
    obtain ⟨u', h3, h4, h5⟩ := fw_aset 0 u (dp + n) (fx_aget 0 s (sp + n))
    refine ⟨u', fun i => ?_, fun k => ?_⟩
    · by_cases hi : i = dp + n
      · subst hi
        rw [h3, if_pos (by omega), show dp + n - dp = n by omega]
      · rw [h4 i hi, h1 i]
        by_cases hc : dp ≤ i ∧ i < dp + n
        · rw [if_pos hc, if_pos (by omega)]
        · rw [if_neg hc, if_neg (by omega)]
    · have e : fx_copy s d sp dp (n + 1) k = fx_copy s d sp dp n (fun u => fx_aset 0 u (dp + n) (fx_aget 0 s (sp + n)) k) := rfl
      rw [e, h2, h5]
/-- places: cell and index -/
theorem ai_p1 {r i : Nat} (hi : i < 4096) : (r * 4096 + i) / 4096 = r := by omega
theorem ai_p2 {r i : Nat} (hi : i < 4096) : (r * 4096 + i) % 4096 = i := by omega
theorem ai_pl_obj {h : fx_H} {r ci i : Nat} {ws : List fx_V} (hg : fx_hget h r = some (.inr (.inl (ci, ws)))) (hi : i < 4096) : ai_pl h (r * 4096 + i) = ws[i]? := by
  unfold ai_pl
  rw [ai_p1 hi, ai_p2 hi, hg]
theorem ai_pl_arr {h : fx_H} {r ty len i : Nat} {u : List (Nat × fx_V)} (hg : fx_hget h r = some (.inr (.inr (ty, len, u)))) (hi : i < 4096) (hl : i < len) : ai_pl h (r * 4096 + i) = some (fx_aget ty u i) := by
  unfold ai_pl
  rw [ai_p1 hi, ai_p2 hi, hg]
  simp only
  rw [if_pos hl]
theorem ai_pl_off {h h' : fx_H} {r : Nat} (e4 : ∀ i, i ≠ r → fx_hget h' i = fx_hget h i) {p : Nat} (hp : p / 4096 ≠ r) : ai_pl h' p = ai_pl h p := by
  unfold ai_pl
  rw [e4 _ hp]
theorem ai_inv_set {T : ai_T} {h h' : fx_H} {r : Nat} {x : fx_C} (hI : ai_inv T h) (e3 : fx_hget h' r = some x) (e4 : ∀ i, i ≠ r → fx_hget h' i = fx_hget h i) (hx : ∀ c, ai_cell T r = some c → ai_co c x) : ai_inv T h' := by
  intro k c hc
  by_cases hk : k = r
  · subst hk
    exact ⟨x, e3, hx c hc⟩
  · obtain ⟨y, h1, h2⟩ := hI k c hc
    exact ⟨y, by rw [e4 k hk]; exact h1, h2⟩
theorem ai_mem_ok {l : List Nat} {x : Nat} (h : ai_mem l x = true) : x ∈ l := by
  induction l with
  | nil => cases h
  | cons a l ih =>
    rcases fx_or (a := Nat.beq a x) (b := ai_mem l x) h with h | h
    · rw [fx_beq h]; exact List.mem_cons_self
    · exact List.mem_cons_of_mem _ (ih h)
theorem ai_fr_trans {m : ai_M} {h0 h h' : fx_H} (h1 : ai_fr m h0 h) (h2 : ai_fr m h h') : ai_fr m h0 h' := fun p a b => (h2 p a b).trans (h1 p a b)
theorem ai_fr_refl {m : ai_M} {h : fx_H} : ai_fr m h h := fun _ _ _ => rfl
theorem ai_fr_sub {m m2 : ai_M} {h h' : fx_H} (h1 : ai_fr m h h') (g1 : ∀ p ∈ m.1, ai_mem m2.1 p = true) (g2 : ∀ p ∈ m.2, ai_mem m2.2 p = true) : ai_fr m2 h h' := fun p a b => by
  refine h1 p ?_ ?_
  · cases hc : ai_mem m.1 p with
    | false => rfl
    | true => rw [g1 p (ai_mem_ok hc)] at a; cases a
  · cases hc : ai_mem m.2 (p / 4096) with
    | false => rfl
    | true => rw [g2 _ (ai_mem_ok hc)] at b; cases b
theorem ai_fr_arr {m : ai_M} {h h' : fx_H} {r : Nat} (hm : ai_mem m.2 r = true) (e4 : ∀ i, i ≠ r → fx_hget h' i = fx_hget h i) : ai_fr m h h' := fun p a b => by
  refine ai_pl_off e4 (fun q => ?_)
  rw [q, hm] at b
  cases b
/-- facts behind a store into an array: those of other cells stay -/
theorem ai_out_ok {r : Nat} : ∀ {F : fx_L} {k : fx_L → Bool}, ai_out r F k = true → k (F.filter (fun q => !(Nat.beq (Nat.div q.1 4096) r))) = true := by
  intro F
  induction F with
  | nil => intro k h; exact h
  | cons q F ih =>
    intro k h
    have e := ih (k := fun t => fx_if (Nat.beq (Nat.div q.1 4096) r) (k t) (k (q :: t))) h
    cases hc : Nat.beq (Nat.div q.1 4096) r with
    | true =>
      simp only [hc, fx_if_t] at e
      rw [List.filter_cons_of_neg (by simp [hc])]
      exact e
    | false =>
      simp only [hc, fx_if_f] at e
      rw [List.filter_cons_of_pos (by simp [hc])]
      exact e
theorem ai_look_key (g : Nat → Bool) {i : Nat} {v : fx_V} : ∀ {l : fx_L}, fx_look (l.filter (fun q => g q.1)) i = some v → fx_look l i = some v ∧ g i = true := by
  intro l
  induction l with
  | nil => intro h; cases h
  | cons q l ih =>
    intro h
    cases hf : g q.1 with
    | false =>
      rw [List.filter_cons_of_neg (by simp [hf])] at h
      obtain ⟨h1, h2⟩ := ih h
      refine ⟨?_, h2⟩
      rw [fx_look_cons]
      cases hc : Nat.beq q.1 i with
      | true => rw [fx_beq hc, h2] at hf; cases hf
      | false => exact h1
    | true =>
      rw [List.filter_cons_of_pos (by simp [hf]), fx_look_cons] at h
      rw [fx_look_cons]
      cases hc : Nat.beq q.1 i with
      | true => rw [hc, fx_if_t] at h; rw [fx_if_t, ← fx_beq hc]; exact ⟨h, hf⟩
      | false => rw [hc, fx_if_f] at h; rw [fx_if_f]; exact ih h
theorem ai_l_out {ρ : List Nat} {F : fx_L} {h h' : fx_H} {r : Nat} (hF : ai_l ρ F (ai_pl h)) (e4 : ∀ i, i ≠ r → fx_hget h' i = fx_hget h i) : ai_l ρ (F.filter (fun q => !(Nat.beq (Nat.div q.1 4096) r))) (ai_pl h') := fun i v hv => by
  obtain ⟨h1, h2⟩ := ai_look_key (fun p => !(Nat.beq (Nat.div p 4096) r)) hv
  obtain ⟨w, g1, g2⟩ := hF i v h1
  refine ⟨w, ?_, g2⟩
  rw [ai_pl_off e4 (fun q => ?_)]
  · exact g1
  · rw [show Nat.div i 4096 = r from q, Nat.beq_refl] at h2
    cases h2
theorem ai_l_cons {ρ : List Nat} {F : fx_L} {f g : Nat → Option fx_V} {p : Nat} {v w : fx_V} (hF : ai_l ρ F f) (hp : g p = some w) (hv : ai_v ρ v w) (ho : ∀ q, q ≠ p → g q = f q) : ai_l ρ ((p, v) :: F) g := fun i u hu => by
  rw [fx_look_cons] at hu
  cases hc : Nat.beq p i with
  | true =>
    have := fx_beq hc
    subst this
    rw [hc, fx_if_t] at hu
    cases hu
    exact ⟨w, hp, hv⟩
  | false =>
    rw [hc, fx_if_f] at hu
    obtain ⟨w2, h1, h2⟩ := hF i u hu
    exact ⟨w2, by rw [ho i (Ne.symm (fx_bnq hc))]; exact h1, h2⟩
/-- intervals of arrays -/
theorem ai_join_ok {L : List (Nat × Nat)} {i : Nat} : ∀ {n lo hi : Nat}, ai_join L i n = some (lo, hi) → ∀ m, m ≤ n → ∃ q, L[(i + m) % L.length]? = some q ∧ lo ≤ q.1 ∧ q.2 ≤ hi := by
  intro n
  induction n with
  | zero =>
    intro lo hi h m hm
    have h : fx_nth L (Nat.mod i L.length) = some (lo, hi) := h
    rw [fx_nth_eq] at h
    have : m = 0 := by omega
    subst this
    exact ⟨(lo, hi), h, Nat.le_refl _, Nat.le_refl _⟩
  | succ n ih =>
    intro lo hi h m hm
    have h : (match ai_join L i n with
      | none => none
      | some (lo, hi) => match fx_nth L (Nat.mod (i + (n + 1)) L.length) with
        | none => none
        | some (a, b) => some (ai_min lo a, ai_max hi b)) = some (lo, hi) := h
    cases h1 : ai_join L i n with
    | none => rw [h1] at h; cases h
    | some q =>
      obtain ⟨lo1, hi1⟩ := q
      rw [h1] at h
      simp only at h
      cases h2 : fx_nth L (Nat.mod (i + (n + 1)) L.length) with
      | none => rw [h2] at h; cases h
      | some q =>
        obtain ⟨a, b⟩ := q
        rw [h2] at h
        simp only [ai_min_le, ai_max_le] at h
        cases h
        by_cases hq : m = n + 1
        · subst hq
          rw [fx_nth_eq] at h2
          exact ⟨(a, b), h2, by simp only; omega, by simp only; omega⟩
        · obtain ⟨q, g1, g2, g3⟩ := ih h1 m (by omega)
          exact ⟨q, g1, by omega, by omega⟩
theorem ai_span_ok {L : List (Nat × Nat)} {c d lo hi i : Nat} (h : ai_span L c d = some (lo, hi)) (h1 : c ≤ i) (h2 : i ≤ d) : ∃ q, L[i % L.length]? = some q ∧ lo ≤ q.1 ∧ q.2 ≤ hi := by
  unfold ai_span at h
  cases e1 : Nat.beq L.length 1 with
  | true =>
    rw [e1, fx_if_t, fx_nth_eq] at h
    have e1 := fx_beq e1
    refine ⟨(lo, hi), ?_, Nat.le_refl _, Nat.le_refl _⟩
    rw [show i % L.length = 0 by rw [e1]; omega]
    exact h
  | false =>
    rw [e1, fx_if_f] at h
    cases e2 : Nat.ble (d - c) L.length with
    | true =>
      rw [e2, fx_if_t] at h
      obtain ⟨q, g1, g2, g3⟩ := ai_join_ok h (i - c) (by omega)
      rw [show c + (i - c) = i by omega] at g1
      exact ⟨q, g1, g2, g3⟩
    | false =>
      rw [e2, fx_if_f] at h
      have hl : 0 < L.length := by
        rcases Nat.eq_zero_or_pos L.length with q | q
        · exfalso
          obtain ⟨q, g1, -⟩ := ai_join_ok h 0 (Nat.zero_le _)
          have := (List.getElem?_eq_some_iff.mp g1).1
          omega
        · exact q
      obtain ⟨q, g1, g2, g3⟩ := ai_join_ok h (i % L.length) (Nat.le_of_lt (Nat.mod_lt _ hl))
      rw [Nat.zero_add, Nat.mod_mod] at g1
      exact ⟨q, g1, g2, g3⟩
theorem ai_into_ok {L : List (Nat × Nat)} {c d a b i : Nat} (h : ai_into L c d a b = true) (h1 : c ≤ i) (h2 : i ≤ d) : ∃ q, L[i % L.length]? = some q ∧ q.1 ≤ a ∧ b ≤ q.2 := by
  unfold ai_into at h
  have one : ∀ {j : Nat}, (match fx_nth L j with
      | some (lo, hi) => Nat.ble lo a && Nat.ble b hi
      | none => false) = true → ∃ q, L[j]? = some q ∧ q.1 ≤ a ∧ b ≤ q.2 := fun {j} e => by
    cases hj : fx_nth L j with
    | none => rw [hj] at e; cases e
    | some q =>
      obtain ⟨lo, hi⟩ := q
      rw [hj] at e
      obtain ⟨g1, g2⟩ := fx_and e
      rw [fx_nth_eq] at hj
      exact ⟨_, hj, fx_ble g1, fx_ble g2⟩
  cases e1 : Nat.beq L.length 1 with
  | true =>
    rw [e1, fx_if_t] at h
    have e1 := fx_beq e1
    obtain ⟨q, g1, g2⟩ := one h
    rw [show i % L.length = 0 by rw [e1]; omega]
    exact ⟨q, g1, g2⟩
  | false =>
    rw [e1, fx_if_f] at h
    obtain ⟨-, h⟩ := fx_and h
    have all : ∀ n, (Nat.rec (motive := fun _ => Bool) true (fun m ih => (match fx_nth L (Nat.mod (c + m) L.length) with
        | some (lo, hi) => Nat.ble lo a && Nat.ble b hi
        | none => false) && ih) n) = true → ∀ m, m < n → ∃ q, L[(c + m) % L.length]? = some q ∧ q.1 ≤ a ∧ b ≤ q.2 := by
      intro n
      induction n with
      | zero => intro _ m hm; omega
      | succ n ih =>
        intro e m hm
        obtain ⟨g1, g2⟩ := fx_and e
        by_cases hq : m = n
        · subst hq
          exact one g1
        · exact ih g2 m (by omega)
    obtain ⟨q, g1, g2⟩ := all (d - c + 1) h (i - c) (by omega)
    rw [show c + (i - c) = i by omega] at g1
    exact ⟨q, g1, g2⟩
end
section
section AIT
variable {l : Launch} {X : fx_X} {Y : fx_Y} {B : fx_B} {E : ai_E} {P : fx_H → Prop} {h0 : fx_H} {d : Nat} {cod : List fx_I} {K : rx_K} {go : ai_O}
variable {pc a b c n len : Nat} {tl : List fx_I} {loc cloc F : fx_L} {stk cstk : List fx_V} {J : ai_J} {ρ τ : List Nat} {h : fx_H}
/-- an object of the table -/
theorem ai_obj {T : ai_T} {r ci : Nat} {fs : List ai_F} (hI : ai_inv T h) (hc : ai_cell T r = some (.inl (ci, fs))) : ∃ ws : List fx_V, fx_hget h r = some (.inr (.inl (ci, ws))) ∧ ∀ (i : Nat) (s : ai_F), fs[i]? = some s → ∃ w : fx_V, ws[i]? = some w ∧ ai_fo s w := by
  obtain ⟨x, h1, h2⟩ := hI r _ hc
  rcases x with u | ⟨cj, ws⟩ | u
  · exact False.elim h2
  · obtain ⟨e, h3⟩ := h2
    subst e
    exact ⟨ws, h1, h3⟩
  · exact False.elim h2
theorem ai_arr {T : ai_T} {r ty len : Nat} {L : List (Nat × Nat)} (hI : ai_inv T h) (hc : ai_cell T r = some (.inr (ty, len, L))) : ∃ u, fx_hget h r = some (.inr (.inr (ty, len, u))) ∧ ai_ao ty len L u := by
  obtain ⟨x, h1, h2⟩ := hI r _ hc
  rcases x with u | u | ⟨ty2, len2, u⟩
  · exact False.elim h2
  · exact False.elim h2
  · obtain ⟨e1, e2, h3⟩ := h2
    subst e1; subst e2
    exact ⟨u, h1, h3⟩
theorem ai_isref {ρ : List Nat} {o : Option Nat} {w : fx_V} (h : ai_v ρ (.inr (.inr (.inl o))) w) : w = .inr (.inr (.inl o)) := h
theorem ai_s1 (hXX : fx_xx X B) (hma : fx_mall fx_mst fx_mt) (hwd : fx_wd) (hgo : ai_gok l X Y B E P h0 d cod K ρ go) (ee : ai_k1 E go pc b c tl loc stk F J n = true) (hs : ai_st E.1 ρ loc stk F J n cloc cstk h) (hf : ai_hf E P h0 h) : rx_run l X Y B d cod ((pc, 1, a, b, c) :: tl) cloc cstk h K := by
  refine rx_one hXX hma hwd ?_
  show fx_k1 (rx_go l X Y B d cod K) pc b c tl cloc cstk 0 0 h [] = true
  obtain ⟨s1, s2, s3, s4, s5, s6⟩ := hs
  rcases stk with _ | ⟨v, stk⟩
  · cases ee
  rcases v with m | i | (_ | r) | m
  · cases ee
  · cases ee
  · cases ee
  · obtain ⟨w, cstk, rfl, g1, g2⟩ := ai_vl_cons s3
    have := ai_isref g1
    subst this
    simp only [ai_k1] at ee
    cases hc : ai_cell E.1 r with
    | none => rw [hc] at ee; cases ee
    | some q =>
      rw [hc] at ee
      rcases q with ⟨ci, fs⟩ | q
      · simp only [fx_num_eq] at ee
        obtain ⟨e1, e2⟩ := fx_and ee
        obtain ⟨e3, e4⟩ := fx_and e1
        have e4 := fx_blt e4
        obtain ⟨ws, k1, k2⟩ := ai_obj s6 hc
        have hp := ai_pl_obj k1 e4
        -- a value at that place is enough
        have fin : ∀ w, ws[c]? = some w → rx_nx l X Y B d cod K pc 3 tl cloc (w :: cstk) h → fx_k1 (rx_go l X Y B d cod K) pc b c tl cloc (.inr (.inr (.inl (some r))) :: cstk) 0 0 h [] = true := fun w hw hn => by
          simp only [fx_k1, k1, e3, Bool.true_and]
          rw [show fx_nth ws c = some w by rw [fx_nth_eq]; exact hw]
          exact hn
        cases hF : fx_look F (r * 4096 + c) with
        | some v =>
          rw [hF] at e2
          obtain ⟨w, j1, j2⟩ := s4 _ _ hF
          rw [hp] at j1
          exact fin w j1 (ai_nx0 hgo e2 ⟨s1, s2, ⟨j2, g2⟩, s4, s5, s6⟩ hf)
        | none =>
          rw [hF] at e2
          simp only at e2
          cases hn : fx_nth fs c with
          | none => rw [hn] at e2; cases e2
          | some sp =>
            rw [hn] at e2
            rw [fx_nth_eq] at hn
            obtain ⟨w, j1, j2⟩ := k2 c sp hn
            rcases sp with z | ⟨lo, hi⟩ | rs
            · obtain ⟨m, rfl⟩ := j2
              exact fin _ j1 (ai_nx0 hgo e2 ⟨s1, s2, ⟨⟨m, rfl, trivial⟩, g2⟩, s4, s5, s6⟩ hf)
            · obtain ⟨v, J', n', τ, t1, t2, t3, t4⟩ := ai_new_iv s1 s5 e2 j2
              refine fin w j1 (ai_nx hgo t1 ⟨t2, s2.ext, ⟨t4, g2.ext⟩, ?_, t3, s6⟩ hf)
              exact ai_l_cons s4.ext (by rw [hp]; exact j1) t4 (fun _ _ => rfl)
            · obtain ⟨o, rfl, ho⟩ := j2
              have e5 := fx_all_ok e2 o ho
              refine fin _ j1 (ai_nx0 hgo e5 ⟨s1, s2, ⟨rfl, g2⟩, ?_, s5, s6⟩ hf)
              exact ai_l_cons s4 (by rw [hp]; exact j1) rfl (fun _ _ => rfl)
      · cases ee
  · cases ee
theorem ai_s14 (hXX : fx_xx X B) (hma : fx_mall fx_mst fx_mt) (hwd : fx_wd) (hPm : ∀ h h', P h → ai_fr E.2.2.2.2.1 h h' → P h') (hgo : ai_gok l X Y B E P h0 d cod K ρ go) (ee : ai_k14 E go pc b c tl loc stk F J n = true) (hs : ai_st E.1 ρ loc stk F J n cloc cstk h) (hf : ai_hf E P h0 h) : rx_run l X Y B d cod ((pc, 14, a, b, c) :: tl) cloc cstk h K := by
  refine rx_one hXX hma hwd ?_
  show fx_k14 (rx_go l X Y B d cod K) pc b c tl cloc cstk 0 0 h [] = true
  obtain ⟨s1, s2, s3, s4, s5, s6⟩ := hs
  rcases stk with _ | ⟨v, _ | ⟨rf, stk⟩⟩
  · cases ee
  · cases ee
  rcases rf with m | i | (_ | r) | m
  · cases ee
  · cases ee
  · cases ee
  · obtain ⟨w, cstk1, rfl, gv, g1⟩ := ai_vl_cons s3
    obtain ⟨wr, cstk, rfl, gr, g2⟩ := ai_vl_cons g1
    have := ai_isref gr
    subst this
    simp only [ai_k14] at ee
    cases hc : ai_cell E.1 r with
    | none => rw [hc] at ee; cases ee
    | some q =>
      rw [hc] at ee
      rcases q with ⟨ci, fs⟩ | q
      · simp only [fx_num_eq] at ee
        obtain ⟨e1, e2⟩ := fx_and ee
        obtain ⟨e3, e4⟩ := fx_and e1
        obtain ⟨e5, e6⟩ := fx_and e2
        obtain ⟨e5, e5d⟩ := fx_and e5
        obtain ⟨e7, e8⟩ := fx_and e6
        have e4 := fx_blt e4
        obtain ⟨ws, k1, k2⟩ := ai_obj s6 hc
        have e4 : c / 8 < 4096 := e4
        -- the value keeps to the table, and to the field's type
        have hval : ∃ sp, fs[c / 8]? = some sp ∧ ai_fo sp w ∧ fx_fit (Nat.mod c 8) w = true := by
          cases hn : fx_nth fs (Nat.div c 8) with
          | none => rw [hn] at e7; cases e7
          | some sp =>
            rw [hn] at e7
            rw [fx_nth_eq] at hn
            refine ⟨sp, hn, ?_⟩
            rcases sp with z | ⟨lo, hi⟩ | rs
            · obtain ⟨q1, q2⟩ := fx_and e7
              have q1 := fx_beq q1
              have q2 := fx_beq q2
              rcases v with m | i | o | m
              · cases q1
              · cases q1
              · cases q1
              · obtain ⟨m2, rfl, -⟩ := gv
                exact ⟨⟨m2, rfl⟩, by rw [q2]; rfl⟩
            · obtain ⟨q1, q2⟩ := fx_and e7
              obtain ⟨m, rfl, q3, q4, q5⟩ := ai_fit_ok s5 gv q1
              refine ⟨⟨m, rfl, q3, q4, q5⟩, ?_⟩
              rcases fx_or q2 with q6 | q6
              · show (Nat.beq (Nat.mod c 8) 0 || (Nat.beq (Nat.mod c 8) 2 && Nat.blt m 2)) = true
                rw [q6]; rfl
              · obtain ⟨q7, q8⟩ := fx_and q6
                obtain ⟨q8, q9⟩ := fx_and q8
                have q8 := fx_ble q8
                have q9 := fx_ble q9
                have e9 : fx_b m = (m + 2147483648) % 4294967296 := rfl
                have hm : m < 2 := by omega
                show (Nat.beq (Nat.mod c 8) 0 || (Nat.beq (Nat.mod c 8) 2 && Nat.blt m 2)) = true
                rw [q7, show Nat.blt m 2 = true from rx_ble hm]
                exact Bool.or_true _
            · rcases v with m | i | o | m
              · cases e7
              · cases e7
              · obtain ⟨q1, q2⟩ := fx_and e7
                have q2 := fx_beq q2
                have := ai_isref gv
                subst this
                refine ⟨⟨o, rfl, ?_⟩, by rw [q2]; rfl⟩
                have isin : ∀ {rs : List (Option Nat)}, ai_isin o rs = true → o ∈ rs := by
                  intro rs
                  induction rs with
                  | nil => intro q; cases q
                  | cons a rs ih =>
                    intro q
                    rcases fx_or (b := ai_isin o rs) q with q | q
                    · cases a with
                      | none =>
                        cases o with
                        | none => exact List.mem_cons_self
                        | some y => cases q
                      | some x =>
                        cases o with
                        | none => cases q
                        | some y =>
                          have := fx_beq (show Nat.beq x y = true from q)
                          subst this
                          exact List.mem_cons_self
                    · exact List.mem_cons_of_mem _ (ih q)
                exact isin q1
              · cases e7
        obtain ⟨sp, v1, v2, v3⟩ := hval
        obtain ⟨w0, u1, -⟩ := k2 _ _ v1
        have hlt : c / 8 < ws.length := (List.getElem?_eq_some_iff.mp u1).1
        obtain ⟨h', f1, f3, f4, f5⟩ := fw_hset (.inr (.inl (ci, ws.set (c / 8) w))) k1
        simp only [fx_k14, k1, e3, v3, Bool.true_and]
        rw [fw_put w ws (Nat.div c 8) hlt, show Nat.div c 8 = c / 8 from rfl, f5]
        have hpl : ai_pl h' (r * 4096 + c / 8) = some w := by
          rw [ai_pl_obj f3 e4, List.getElem?_set_self hlt]
        have hoff : ∀ p, p ≠ r * 4096 + c / 8 → ai_pl h' p = ai_pl h p := fun p hp => by
          by_cases hq : p / 4096 = r
          · have hp2 : p % 4096 ≠ c / 8 := fun t => hp (by omega)
            unfold ai_pl
            rw [hq, f3, k1]
            simp only
            rw [List.getElem?_set_ne (Ne.symm hp2)]
          · exact ai_pl_off f4 hq
        refine ai_nx0 hgo e8 ⟨s1, s2, g2, ai_l_cons s4 hpl gv hoff, s5, ?_⟩ ?_
        · refine ai_inv_set s6 f3 f4 (fun c2 hc2 => ?_)
          rw [hc] at hc2
          cases hc2
          refine ⟨rfl, fun i s hi => ?_⟩
          by_cases hq : i = c / 8
          · subst hq
            rw [v1] at hi
            cases hi
            exact ⟨w, List.getElem?_set_self hlt, v2⟩
          · obtain ⟨w2, z1, z2⟩ := k2 i s hi
            exact ⟨w2, by rw [List.getElem?_set_ne (Ne.symm hq)]; exact z1, z2⟩
        · rw [show Nat.div c 8 = c / 8 from rfl] at e5 e5d
          refine ⟨ai_fr_trans hf.1 (fun p q1 q2 => hoff p (fun t => ?_)), hPm _ _ hf.2 (fun p q1 q2 => hoff p (fun t => ?_))⟩
          · rw [t, e5] at q1
            cases q1
          · rw [t, e5d] at q1
            cases q1
      · cases ee
  · cases ee
theorem ai_s6 (hXX : fx_xx X B) (hma : fx_mall fx_mst fx_mt) (hwd : fx_wd) (hgo : ai_gok l X Y B E P h0 d cod K ρ go) (ee : ai_k6 E go pc a tl loc stk F J n = true) (hs : ai_st E.1 ρ loc stk F J n cloc cstk h) (hf : ai_hf E P h0 h) (hout : ∀ m st, cstk = fc m :: fr 1000005 :: st → m < 11 → (∀ z, z < 128 → rx_nx l X Y B d cod K pc 1 tl cloc (fc z :: st) h) → a = 1 → rx_run l X Y B d cod ((pc, 6, a, b, c) :: tl) cloc cstk h K) : rx_run l X Y B d cod ((pc, 6, a, b, c) :: tl) cloc cstk h K := by
  obtain ⟨s1, s2, s3, s4, s5, s6⟩ := hs
  rcases stk with _ | ⟨i, _ | ⟨rf, stk⟩⟩
  · cases ee
  · cases ee
  rcases rf with m | m | (_ | r) | m
  · cases ee
  · cases ee
  · cases ee
  · obtain ⟨wi, cstk1, rfl, gi, g1⟩ := ai_vl_cons s3
    obtain ⟨wr, cstk, rfl, gr, g2⟩ := ai_vl_cons g1
    have := ai_isref gr
    subst this
    simp only [ai_k6] at ee
    obtain ⟨m, c1, d1, rfl, hm, h1, h2, ee, -⟩ := ai_rng_ok gi s5 ee
    have eb : fx_b m = (m + 2147483648) % 4294967296 := rfl
    cases hc : ai_cell E.1 r with
    | none =>
      rw [hc] at ee
      simp only at ee
      obtain ⟨e1, e2⟩ := fx_and ee
      obtain ⟨e3, e4⟩ := fx_and e1
      obtain ⟨e5, e6⟩ := fx_and e4
      obtain ⟨e6, e7⟩ := fx_and e6
      have := fx_beq e3
      subst this
      have e5 := fx_beq e5
      have e6 := fx_ble e6
      have e7 := fx_blt e7
      refine hout m cstk rfl (by omega) (fun z hz => ?_) e5
      have eb2 : fx_b z = (z + 2147483648) % 4294967296 := rfl
      obtain ⟨v, J', n', τ, t1, t2, t3, t4⟩ := ai_new_iv s1 s5 e2 (w := fc z) ⟨z, rfl, by omega, by omega, by omega⟩
      exact ai_nx hgo t1 ⟨t2, s2.ext, ⟨t4, g2.ext⟩, s4.ext, t3, s6⟩ hf
    | some q =>
      rw [hc] at ee
      rcases q with q | ⟨ty, len, L⟩
      · cases ee
      · simp only at ee
        obtain ⟨e1, e2⟩ := fx_and ee
        obtain ⟨e3, e4⟩ := fx_and e1
        obtain ⟨e5, e6⟩ := fx_and e3
        obtain ⟨e7, e8⟩ := fx_and e4
        have e6 := fx_blt e6
        have e7 := fx_ble e7
        have e8 := fx_blt e8
        have hml : m < len := by omega
        have hm0 : fx_b m = m + 2147483648 := by omega
        obtain ⟨u, k1, k2⟩ := ai_arr s6 hc
        have hp := ai_pl_arr k1 (i := m) (by omega) hml
        have k3 := k2 m hml
        have fin : rx_nx l X Y B d cod K pc 1 tl cloc (fx_aget ty u m :: cstk) h → rx_run l X Y B d cod ((pc, 6, a, b, c) :: tl) cloc (fc m :: .inr (.inr (.inl (some r))) :: cstk) h K := fun hn => by
          refine rx_one hXX hma hwd ?_
          show fx_ld a h [] r m (fun v => fx_nx (fun t => rx_go l X Y B d cod K t cloc (v :: cstk) 0 0 h []) pc 1 tl) = true
          unfold fx_ld
          rw [k1]
          simp only
          rw [e5, show Nat.blt m len = true from rx_ble hml, Bool.true_and, Bool.true_and]
          rw [fx_aget_def] at k3 hn
          cases hk : fx_look u m with
          | none => rw [hk] at hn; exact hn
          | some v =>
            rw [hk] at k3 hn
            simp only at k3 hn ⊢
            by_cases ht : ty = 3
            · subst ht
              rw [if_pos rfl] at k3
              obtain ⟨m3, rfl⟩ := k3
              exact hn
            · rw [if_neg ht] at k3
              obtain ⟨q, -, m3, rfl, -⟩ := k3
              have : Nat.beq ty 3 = false := by
                cases hb : Nat.beq ty 3 with
                | true => exact absurd (fx_beq hb) ht
                | false => rfl
              rw [this]
              exact hn
        cases ht : Nat.beq ty 3 with
        | true =>
          have := fx_beq ht
          subst this
          rw [ht, fx_if_t] at e2
          rw [if_pos rfl] at k3
          obtain ⟨m3, k3⟩ := k3
          refine fin ?_
          rw [k3]
          exact ai_nx0 hgo e2 ⟨s1, s2, ⟨⟨m3, rfl, trivial⟩, g2⟩, s4, s5, s6⟩ hf
        | false =>
          rw [ht, fx_if_f] at e2
          rw [if_neg (fx_bnq ht)] at k3
          obtain ⟨q, k4, k5⟩ := k3
          cases hcd : Nat.beq c1 d1 with
          | true =>
            rw [hcd, fx_if_t, fx_num_eq] at e2
            have hcd := fx_beq hcd
            have hcm : c1 - 2147483648 = m := by omega
            rw [hcm] at e2
            cases hF : fx_look F (r * 4096 + m) with
            | some v =>
              rw [hF] at e2
              obtain ⟨w, j1, j2⟩ := s4 _ _ hF
              rw [hp] at j1
              cases j1
              exact fin (ai_nx0 hgo e2 ⟨s1, s2, ⟨j2, g2⟩, s4, s5, s6⟩ hf)
            | none =>
              rw [hF] at e2
              simp only at e2
              rw [show fx_nth L (Nat.mod m L.length) = some q by rw [fx_nth_eq]; exact k4] at e2
              obtain ⟨v, J', n', τ, t1, t2, t3, t4⟩ := ai_new_iv s1 s5 e2 k5
              refine fin (ai_nx hgo t1 ⟨t2, s2.ext, ⟨t4, g2.ext⟩, ?_, t3, s6⟩ hf)
              exact ai_l_cons s4.ext hp t4 (fun _ _ => rfl)
          | false =>
            rw [hcd, fx_if_f] at e2
            cases hsp : ai_span L (c1 - 2147483648) (d1 - 2147483648) with
            | none => rw [hsp] at e2; cases e2
            | some q2 =>
              obtain ⟨lo, hi⟩ := q2
              rw [hsp] at e2
              obtain ⟨q3, j1, j2, j3⟩ := ai_span_ok hsp (i := m) (by omega) (by omega)
              rw [k4] at j1
              cases j1
              obtain ⟨m3, l1, l2, l3, l4⟩ := k5
              obtain ⟨v, J', n', τ, t1, t2, t3, t4⟩ := ai_new_iv s1 s5 e2 (w := fx_aget ty u m) ⟨m3, l1, l2, by omega, by omega⟩
              exact fin (ai_nx hgo t1 ⟨t2, s2.ext, ⟨t4, g2.ext⟩, s4.ext, t3, s6⟩ hf)
  · cases ee
end AIT
end
section
def ai_kok (E : ai_E) (P : fx_H → Prop) (h0 : fx_H) (K : rx_K) (inl : Bool) (ρ : List Nat) (k : ai_K) : Prop := ∀ v F J n ρ' w h, (inl = true → ∃ τ, ρ' = ρ ++ τ) → k v F J n = true → ai_vo ρ' v w → ρ'.length = n → ai_l ρ' F (ai_pl h) → ai_j ρ' J → ai_inv E.1 h → ai_hf E P h0 h → K w h
theorem ai_vl_cats {ρ : List Nat} : ∀ {vs ws : List fx_V}, ai_vl ρ vs ws → fx_cats ws = fx_cats vs := by
  intro vs
  induction vs with
  | nil => intro ws h; rw [ai_vl_nil h]
  | cons v vs ih =>
    intro ws h
    obtain ⟨w, ws', rfl, h1, h2⟩ := ai_vl_cons h
    show fx_cat w + fx_cats ws' = fx_cat v + fx_cats vs
    rw [ai_cat h1, ih h2]
theorem ai_stk {ρ : List Nat} {a : Nat} {st st' cst : List fx_V} (hv : ai_vl ρ st cst) (h : fx_stk a st = some st') : ∃ cst', fx_stk a cst = some cst' ∧ ai_vl ρ st' cst' := by
  rcases st with _ | ⟨v, st⟩
  · cases h
  obtain ⟨w, cst, rfl, g1, g2⟩ := ai_vl_cons hv
  have c1 := ai_cat g1
  unfold fx_stk at h ⊢
  simp only at h ⊢
  rw [c1]
  cases e1 : Nat.beq (fx_cat v) 1 with
  | false => rw [e1, fx_if_f] at h; cases h
  | true =>
    rw [e1, fx_if_t] at h
    rw [fx_if_t]
    cases e2 : Nat.beq a 0 with
    | true =>
      rw [e2, fx_if_t] at h
      cases h
      exact ⟨_, rfl, g1, g1, g2⟩
    | false =>
      rw [e2, fx_if_f] at h
      rw [fx_if_f]
      cases e3 : Nat.beq a 1 with
      | true =>
        rw [e3, fx_if_t] at h
        cases h
        exact ⟨_, rfl, g2⟩
      | false =>
        rw [e3, fx_if_f] at h
        rw [fx_if_f]
        rcases st with _ | ⟨v2, st⟩
        · cases h
        obtain ⟨w2, cst, rfl, g3, g4⟩ := ai_vl_cons g2
        have c2 := ai_cat g3
        simp only at h ⊢
        rw [c2]
        cases e4 : Nat.beq (fx_cat v2) 1 with
        | false => rw [e4, fx_if_f] at h; cases h
        | true =>
          rw [e4, fx_if_t] at h
          rw [fx_if_t]
          cases e5 : Nat.beq a 2 with
          | true =>
            rw [e5, fx_if_t] at h
            cases h
            exact ⟨_, rfl, g1, g3, g1, g3, g4⟩
          | false =>
            rw [e5, fx_if_f] at h
            rw [fx_if_f]
            cases e6 : Nat.beq a 3 with
            | true =>
              rw [e6, fx_if_t] at h
              cases h
              exact ⟨_, rfl, g1, g3, g1, g4⟩
            | false =>
              rw [e6, fx_if_f] at h
              rw [fx_if_f]
              rcases st with _ | ⟨v3, st⟩
              · cases h
              obtain ⟨w3, cst, rfl, g5, g6⟩ := ai_vl_cons g4
              have c3 := ai_cat g5
              simp only at h ⊢
              rw [c3]
              cases e7 : (Nat.beq (fx_cat v3) 1 && Nat.beq a 4) with
              | false => rw [e7, fx_if_f] at h; cases h
              | true =>
                rw [e7, fx_if_t] at h
                cases h
                exact ⟨_, rfl, g1, g3, g5, g1, g6⟩
section AIU
variable {l : Launch} {X : fx_X} {Y : fx_Y} {B : fx_B} {E : ai_E} {P : fx_H → Prop} {h0 : fx_H} {d : Nat} {cod : List fx_I} {K : rx_K} {go : ai_O}
variable {pc a b c n len : Nat} {tl : List fx_I} {loc cloc F : fx_L} {stk cstk : List fx_V} {J : ai_J} {ρ τ : List Nat} {h : fx_H}
theorem ai_s10 (hXX : fx_xx X B) (hma : fx_mall fx_mst fx_mt) (hwd : fx_wd) {k : ai_K} {inl : Bool} (hk : ai_kok E P h0 K inl ρ k) (ee : ai_k10 k a b stk F J n = true) (hs : ai_st E.1 ρ loc stk F J n cloc cstk h) (hf : ai_hf E P h0 h) : rx_run l X Y B d cod ((pc, 10, a, b, c) :: tl) cloc cstk h K := by
  refine rx_one hXX hma hwd ?_
  show fx_k10 (fun v h' _ => rx_b (K v h')) a b cstk h [] = true
  obtain ⟨s1, s2, s3, s4, s5, s6⟩ := hs
  have fin : ∀ v w, k v F J n = true → ai_vo ρ v w → rx_b (K w h) = true := fun v w e1 e2 => rx_b_iff.mpr (hk v F J n ρ w h (fun _ => ⟨[], (List.append_nil ρ).symm⟩) e1 e2 s1 s4 s5 s6 hf)
  unfold ai_k10 at ee
  unfold fx_k10
  cases e1 : Nat.beq a 0 with
  | true =>
    rw [e1, fx_if_t] at ee
    rw [fx_if_t]
    rcases stk with _ | ⟨v, _ | ⟨v2, stk⟩⟩
    · cases ee
    · obtain ⟨w, ws, rfl, g1, g2⟩ := ai_vl_cons s3
      have := ai_vl_nil g2
      subst this
      obtain ⟨m, x, y, rfl, hm, h1, h2, ee, -⟩ := ai_rng_ok g1 s5 ee
      obtain ⟨e2, e3⟩ := fx_and ee
      show (fx_rok b (fc m) && rx_b (K (some (fc m)) h)) = true
      rw [fin (some v) (some (fc m)) e3 g1, Bool.and_true]
      have eb : fx_b m = (m + 2147483648) % 4294967296 := rfl
      show (Nat.beq b 1 || ((Nat.beq b 2 && Nat.blt m 2) || ((Nat.beq b 4 && Nat.blt m 65536) || (Nat.beq b 5 && Nat.blt m 128)))) = true
      rcases fx_or e2 with e2 | e2
      · rw [e2]; rfl
      · rcases fx_or e2 with e2 | e2
        · obtain ⟨q1, q2⟩ := fx_and e2
          obtain ⟨q2, q3⟩ := fx_and q2
          have q2 := fx_ble q2
          have q3 := fx_ble q3
          rw [q1, show Nat.blt m 2 = true from rx_ble (by omega)]
          simp
        · rcases fx_or e2 with e2 | e2
          · obtain ⟨q1, q2⟩ := fx_and e2
            obtain ⟨q2, q3⟩ := fx_and q2
            have q2 := fx_ble q2
            have q3 := fx_ble q3
            rw [q1, show Nat.blt m 65536 = true from rx_ble (by omega)]
            simp
          · obtain ⟨q1, q2⟩ := fx_and e2
            obtain ⟨q2, q3⟩ := fx_and q2
            have q2 := fx_ble q2
            have q3 := fx_ble q3
            rw [q1, show Nat.blt m 128 = true from rx_ble (by omega)]
            simp
    · cases ee
  | false =>
    rw [e1, fx_if_f] at ee
    rw [fx_if_f]
    cases e2 : Nat.beq a 1 with
    | true =>
      rw [e2, fx_if_t] at ee
      rw [fx_if_t]
      rcases stk with _ | ⟨v, stk⟩
      · have := ai_vl_nil s3
        subst this
        exact fin none none ee trivial
      · cases ee
    | false =>
      rw [e2, fx_if_f] at ee
      rw [fx_if_f]
      rcases stk with _ | ⟨v, _ | ⟨v2, stk⟩⟩
      · cases ee
      · rcases v with m | m | m | m
        · cases ee
        · cases ee
        · cases ee
        · obtain ⟨w, ws, rfl, ⟨m2, rfl, m3⟩, g2⟩ := ai_vl_cons s3
          have := ai_vl_nil g2
          subst this
          exact fin (some (fl m)) (some (fl m2)) ee ⟨m2, rfl, m3⟩
      · rcases v with m | m | m | m <;> cases ee
theorem ai_s15 (hXX : fx_xx X B) (hma : fx_mall fx_mst fx_mt) (hwd : fx_wd) (hgo : ai_gok l X Y B E P h0 d cod K ρ go) (ee : ai_k15 go pc a tl loc stk F J n = true) (hs : ai_st E.1 ρ loc stk F J n cloc cstk h) (hf : ai_hf E P h0 h) : rx_run l X Y B d cod ((pc, 15, a, b, c) :: tl) cloc cstk h K := by
  refine rx_one hXX hma hwd ?_
  show fx_k15 (rx_go l X Y B d cod K) pc a tl cloc cstk 0 0 h [] = true
  obtain ⟨s1, s2, s3, s4, s5, s6⟩ := hs
  unfold ai_k15 at ee
  cases hq : fx_stk a stk with
  | none => rw [hq] at ee; cases ee
  | some st' =>
    rw [hq] at ee
    obtain ⟨cst', g1, g2⟩ := ai_stk s3 hq
    unfold fx_k15
    rw [g1]
    exact ai_nx0 hgo ee ⟨s1, s2, g2, s4, s5, s6⟩ hf
theorem ai_s19 (hXX : fx_xx X B) (hma : fx_mall fx_mst fx_mt) (hwd : fx_wd) (hgo : ai_gok l X Y B E P h0 d cod K ρ go) (ee : ai_k19 go cod pc a b tl loc stk F J n = true) (hs : ai_st E.1 ρ loc stk F J n cloc cstk h) (hf : ai_hf E P h0 h) : rx_run l X Y B d cod ((pc, 19, a, b, c) :: tl) cloc cstk h K := by
  refine rx_one hXX hma hwd ?_
  show fx_k19 (rx_go l X Y B d cod K) cod pc a b tl cloc cstk 0 0 h [] = true
  obtain ⟨s1, s2, s3, s4, s5, s6⟩ := hs
  rcases stk with _ | ⟨v, stk⟩
  · cases ee
  rcases v with m | m | (_ | r) | m
  · cases ee
  · cases ee
  · obtain ⟨w, cstk, rfl, g1, g2⟩ := ai_vl_cons s3
    have := ai_isref g1
    subst this
    have ee : fx_if (Nat.beq a 0) (go (fx_to cod b) loc stk F J n) (Nat.beq a 1 && fx_nx (fun t => go t loc stk F J n) pc 3 tl) = true := ee
    show fx_if (Nat.beq a 0) (rx_go l X Y B d cod K (fx_to cod b) cloc cstk 0 0 h []) (Nat.beq a 1 && fx_nx (fun t => rx_go l X Y B d cod K t cloc cstk 0 0 h []) pc 3 tl) = true
    cases e1 : Nat.beq a 0 with
    | true =>
      rw [e1, fx_if_t] at ee
      rw [fx_if_t]
      exact ai_jmp hgo ee ⟨s1, s2, g2, s4, s5, s6⟩ hf
    | false =>
      rw [e1, fx_if_f] at ee
      rw [fx_if_f]
      obtain ⟨e2, e3⟩ := fx_and ee
      rw [e2, Bool.true_and]
      exact ai_nx0 hgo e3 ⟨s1, s2, g2, s4, s5, s6⟩ hf
  · obtain ⟨w, cstk, rfl, g1, g2⟩ := ai_vl_cons s3
    have := ai_isref g1
    subst this
    have ee : (Nat.blt r 1000000 && fx_if (Nat.beq a 1) (go (fx_to cod b) loc stk F J n) (Nat.beq a 0 && fx_nx (fun t => go t loc stk F J n) pc 3 tl)) = true := ee
    show (Nat.blt r 1000000 && fx_if (Nat.beq a 1) (rx_go l X Y B d cod K (fx_to cod b) cloc cstk 0 0 h []) (Nat.beq a 0 && fx_nx (fun t => rx_go l X Y B d cod K t cloc cstk 0 0 h []) pc 3 tl)) = true
    obtain ⟨e0, ee⟩ := fx_and ee
    rw [e0, Bool.true_and]
    cases e1 : Nat.beq a 1 with
    | true =>
      rw [e1, fx_if_t] at ee
      rw [fx_if_t]
      exact ai_jmp hgo ee ⟨s1, s2, g2, s4, s5, s6⟩ hf
    | false =>
      rw [e1, fx_if_f] at ee
      rw [fx_if_f]
      obtain ⟨e2, e3⟩ := fx_and ee
      rw [e2, Bool.true_and]
      exact ai_nx0 hgo e3 ⟨s1, s2, g2, s4, s5, s6⟩ hf
  · cases ee
theorem ai_s24 (hXX : fx_xx X B) (hma : fx_mall fx_mst fx_mt) (hwd : fx_wd) (hgo : ai_gok l X Y B E P h0 d cod K ρ go) (ee : ai_k24 go pc tl loc stk F J n = true) (hs : ai_st E.1 ρ loc stk F J n cloc cstk h) (hf : ai_hf E P h0 h) : rx_run l X Y B d cod ((pc, 24, a, b, c) :: tl) cloc cstk h K := by
  obtain ⟨s1, s2, s3, s4, s5, s6⟩ := hs
  rcases stk with _ | ⟨v, _ | ⟨v2, stk⟩⟩
  · cases ee
  · rcases v with m | m | m | m <;> cases ee
  · rcases v with m | m | m | m
    · cases ee
    · cases ee
    · cases ee
    · rcases v2 with m2 | m2 | m2 | m2
      · cases ee
      · cases ee
      · cases ee
      · obtain ⟨w, cstk1, rfl, ⟨y, rfl, -⟩, g1⟩ := ai_vl_cons s3
        obtain ⟨w2, cstk, rfl, ⟨x, rfl, -⟩, g2⟩ := ai_vl_cons g1
        exact rx_lbin (fun q => ai_nx0 hgo ee ⟨s1, s2, ⟨⟨q, rfl, trivial⟩, g2⟩, s4, s5, s6⟩ hf)
theorem ai_s31 (hXX : fx_xx X B) (hma : fx_mall fx_mst fx_mt) (hwd : fx_wd) (hgo : ai_gok l X Y B E P h0 d cod K ρ go) (ee : ai_k31 go pc tl loc stk F J n = true) (hs : ai_st E.1 ρ loc stk F J n cloc cstk h) (hf : ai_hf E P h0 h) : rx_run l X Y B d cod ((pc, 31, a, b, c) :: tl) cloc cstk h K := by
  obtain ⟨s1, s2, s3, s4, s5, s6⟩ := hs
  rcases stk with _ | ⟨v, _ | ⟨v2, stk⟩⟩
  · cases ee
  · cases ee
  · rcases v2 with m2 | m2 | m2 | m2
    · cases ee
    · cases ee
    · cases ee
    · obtain ⟨w, cstk1, rfl, gv, g1⟩ := ai_vl_cons s3
      obtain ⟨w2, cstk, rfl, ⟨x, rfl, -⟩, g2⟩ := ai_vl_cons g1
      obtain ⟨e1, e2⟩ := fx_and (a := fx_int v) ee
      have hw : ∃ y, w = fc y := by
        rcases v with m | m | m | m
        · exact ⟨m, gv.2⟩
        · obtain ⟨z, -, -, rfl⟩ := gv
          exact ⟨_, rfl⟩
        · cases e1
        · cases e1
      obtain ⟨y, rfl⟩ := hw
      exact rx_lshl (fun q => ai_nx0 hgo e2 ⟨s1, s2, ⟨⟨q, rfl, trivial⟩, g2⟩, s4, s5, s6⟩ hf)
theorem ai_s20 (hXX : fx_xx X B) (hma : fx_mall fx_mst fx_mt) (hwd : fx_wd) {kd : Nat} (hkd : kd = 20 ∨ kd = 21) (hgo : ai_gok l X Y B E P h0 d cod K ρ go) (ee : ai_k20 go cod a b c loc stk F J n = true) (hs : ai_st E.1 ρ loc stk F J n cloc cstk h) (hf : ai_hf E P h0 h) : rx_run l X Y B d cod ((pc, kd, a, b, c) :: tl) cloc cstk h K := by
  refine rx_one hXX hma hwd ?_
  have key : fx_k20 rx_E (rx_go l X Y B d cod K) cod a b c cloc cstk 0 0 h [] = true := by
    obtain ⟨s1, s2, s3, s4, s5, s6⟩ := hs
    rcases stk with _ | ⟨x, stk⟩
    · cases ee
    obtain ⟨w, cstk, rfl, g1, g2⟩ := ai_vl_cons s3
    have ee : ai_sw J x a (fx_b b) (fx_swt c) (fun t J => go (fx_to cod t) loc stk F J n) = true := ee
    obtain ⟨m, lo, hi, rfl, hm, h1, h2, ee, -⟩ := ai_rng_ok g1 s5 ee
    obtain ⟨e1, e2⟩ := fx_and ee
    obtain ⟨e3, e4⟩ := fx_and e2
    have bm := rx_b_lt m
    have go1 : ∀ {t : Nat} {J' : ai_J}, go (fx_to cod t) loc stk F J' n = true → ai_j ρ J' → rx_go l X Y B d cod K (fx_to cod t) cloc cstk 0 0 h [] = true := fun q1 q2 => ai_jmp hgo q1 ⟨s1, s2, g2, s4, q2, s6⟩ hf
    have keys : ∀ (ts : List Nat) (q : Nat), ai_keys J x lo hi (fun t J => go (fx_to cod t) loc stk F J n) ts q = true → ∀ i t, ts[i]? = some t → fx_b m = q + i → rx_go l X Y B d cod K (fx_to cod t) cloc cstk 0 0 h [] = true := by
      intro ts
      induction ts with
      | nil => intro q _ i t ht; simp at ht
      | cons t0 ts ih =>
        intro q hq i t ht hb
        obtain ⟨f1, f2⟩ := fx_and (a := fx_if (Nat.ble lo q && Nat.ble q hi) (ai_ref J x q q (fun J => go (fx_to cod t0) loc stk F J n)) true) (b := ai_keys J x lo hi (fun t J => go (fx_to cod t) loc stk F J n) ts (q + 1)) hq
        cases i with
        | zero =>
          rw [List.getElem?_cons_zero] at ht
          cases ht
          rw [rx_ble (by omega : lo ≤ q), rx_ble (by omega : q ≤ hi), Bool.true_and, fx_if_t] at f1
          obtain ⟨J', j1, j2⟩ := ai_ref_ok s5 g1 (by omega) (by omega) f1
          exact go1 j1 j2
        | succ i =>
          rw [List.getElem?_cons_succ] at ht
          exact ih (q + 1) f2 i t ht (by omega)
    show fx_if (Nat.ble (fx_b b) (fx_b m)) (match fx_nth (fx_swt c) (fx_b m - fx_b b) with
      | some t => rx_go l X Y B d cod K (fx_to cod t) cloc cstk 0 0 h []
      | none => rx_go l X Y B d cod K (fx_to cod a) cloc cstk 0 0 h []) (rx_go l X Y B d cod K (fx_to cod a) cloc cstk 0 0 h []) = true
    cases hb : Nat.ble (fx_b b) (fx_b m) with
    | true =>
      rw [fx_if_t]
      have hb := fx_ble hb
      cases ht : fx_nth (fx_swt c) (fx_b m - fx_b b) with
      | some t =>
        rw [fx_nth_eq] at ht
        exact keys _ _ e1 _ t ht (by omega)
      | none =>
        rw [fx_nth_eq] at ht
        have := List.getElem?_eq_none_iff.mp ht
        obtain ⟨J', j1, j2⟩ := ai_ref_ok s5 g1 (by omega) (by omega) e4
        exact go1 j1 j2
    | false =>
      rw [fx_if_f]
      have hb := fx_nle hb
      rcases fx_or e3 with e3 | e3
      · have := fx_beq e3
        omega
      · obtain ⟨J', j1, j2⟩ := ai_ref_ok s5 g1 (by omega) (by omega) e3
        exact go1 j1 j2
  rcases hkd with rfl | rfl
  · exact key
  · exact key
end AIU
end
section
section RXD
variable {l : Launch} {X : fx_X} {Y : fx_Y} {B : fx_B} {d : Nat} {cod : List fx_I} {K : rx_K} {loc : fx_L} {stk : List fx_V} {h : fx_H} {pc a b c : Nat} {tl : List fx_I}
theorem rx_lit2 (hn : rx_nx l X Y B d cod K pc 2 tl loc (fr 1000004 :: stk) h) : rx_run l X Y B d cod ((pc, 27, 73, b, c) :: tl) loc stk h K := by
  intro p e R s m args below meth c0 Q cc nL own ini rt F hR hsub hrt H locs ls st hs
  have hgo := rx_gok F hR hrt
  obtain ⟨hx, hb, -, hown, -, -, -, -, hcx, -, hcod⟩ := F
  obtain ⟨hd, ha⟩ := hcod _ _ _ _ _ (hsub _ List.mem_cons_self) (by decide)
  obtain ⟨ho, -⟩ := ha.2.2.2.2.2.2.2.2.2.2.2.2.2.2.2.1 rfl
  subst ho
  obtain ⟨hl0, hst, hrh, hrj, hls⟩ := hs
  obtain ⟨a2, b2, h1, h2, h3, -⟩ := hcx.2.2.2.1.2
  exact va_ldcS hx hb hown h3 hd (fx_nxt hgo (fun q hq => hsub q (List.mem_cons_of_mem _ hq)) hn ⟨hl0, ⟨h1.symm, hst⟩, hrh, hrj, hls⟩ (Nat.le_refl _) (Nat.le_refl _))
theorem rx_gstr (hn : rx_nx l X Y B d cod K pc 3 tl loc (fx_if (Nat.beq b 0) (fr 1000005) (fc 0) :: stk) h) (hb2 : b < 2) : rx_run l X Y B d cod ((pc, 25, a, b, c) :: tl) loc (fr 1000004 :: stk) h K := by
  intro p e R s m args below meth c0 Q cc nL own ini rt F hR hsub hrt H locs ls st hs
  have hgo := rx_gok F hR hrt
  obtain ⟨hx, hb, -, hown, hts, -, -, -, hcx, -, hcod⟩ := F
  obtain ⟨hd, ha⟩ := hcod _ _ _ _ _ (hsub _ List.mem_cons_self) (by decide)
  have ha := ha.2.2.2.2.2.2.2.2.2.2.2.2.2.1 rfl
  obtain ⟨hl0, hst, hrh, hrj, hls⟩ := hs
  obtain ⟨w, st1, rfl, hrv, hst1⟩ := fx_rl_cons hst
  have hw : w = fx_ad X 1000004 := hrv
  subst hw
  obtain ⟨a2, b2, h1, h2, h3, h4, h5, h6, h7⟩ := hcx.2.2.2.1.2
  rw [h1]
  rcases (by omega : b = 0 ∨ b = 1) with rfl | rfl
  · obtain ⟨cf, kf, fi, f, cell, g1, g2, g3, g4, g5, g6⟩ := h5
    exact W.getf hx hb hown (hts _ (ha.1 rfl)) g1 g2 (by rw [hrh.2.2 _ (Nat.not_le.mp g6)]; exact g3) g4 g5 rfl rfl hd (fx_nxt hgo (fun q hq => hsub q (List.mem_cons_of_mem _ hq)) hn ⟨hl0, ⟨h2.symm, hst1⟩, hrh, hrj, hls⟩ (Nat.le_refl _) (Nat.le_refl _))
  · obtain ⟨cf, kf, fi, f, cell, g1, g2, g3, g4, g5, g6⟩ := h6
    exact W.getf hx hb hown (hts _ (ha.2 rfl)) g1 g2 (by rw [hrh.2.2 _ (Nat.not_le.mp g6)]; exact g3) g4 g5 rfl rfl hd (fx_nxt hgo (fun q hq => hsub q (List.mem_cons_of_mem _ hq)) hn ⟨hl0, ⟨rfl, hst1⟩, hrh, hrj, hls⟩ (Nat.le_refl _) (Nat.le_refl _))
theorem rx_len2 (hn : rx_nx l X Y B d cod K pc 1 tl loc (fc 11 :: stk) h) : rx_run l X Y B d cod ((pc, 18, a, b, c) :: tl) loc (fr 1000005 :: stk) h K := by
  intro p e R s m args below meth c0 Q cc nL own ini rt F hR hsub hrt H locs ls st hs
  have hgo := rx_gok F hR hrt
  obtain ⟨hx, hb, -, hown, hts, -, -, -, hcx, -, hcod⟩ := F
  obtain ⟨hd, ha⟩ := hcod _ _ _ _ _ (hsub _ List.mem_cons_self) (by decide)
  obtain ⟨hl0, hst, hrh, hrj, hls⟩ := hs
  obtain ⟨w, st1, rfl, hrv, hst1⟩ := fx_rl_cons hst
  have hw : w = fx_ad X 1000005 := hrv
  subst hw
  obtain ⟨a2, b2, h1, h2, h3, h4, h5, h6, cell, g1, g2, g3, g4, g5, g6, g7⟩ := hcx.2.2.2.1.2
  rw [h2]
  exact W.alen (n := Int32.ofNat 11) hx hb (by rw [hrh.2.2 _ (Nat.not_le.mp g7)]; exact g1) g2 g5 rfl rfl hd (fx_nxt hgo (fun q hq => hsub q (List.mem_cons_of_mem _ hq)) hn ⟨hl0, ⟨rfl, hst1⟩, hrh, hrj, hls⟩ (Nat.le_refl _) (Nat.le_refl _))
theorem rx_txt2_lt : ∀ n, n < 11 → fx_txt2.getD n 0 < 128 := by decide +kernel
theorem rx_ld2 {m : Nat} (hm : m < 11) (hn : ∀ z, z < 128 → rx_nx l X Y B d cod K pc 1 tl loc (fc z :: stk) h) : rx_run l X Y B d cod ((pc, 6, 1, b, c) :: tl) loc (fc m :: fr 1000005 :: stk) h K := by
  intro p e R s mm args below meth c0 Q cc nL own ini rt F hR hsub hrt H locs ls st hs
  have hgo := rx_gok F hR hrt
  obtain ⟨hx, hb, -, hown, hts, -, -, -, hcx, -, hcod⟩ := F
  obtain ⟨hd, ha⟩ := hcod _ _ _ _ _ (hsub _ List.mem_cons_self) (by decide)
  obtain ⟨hl0, hst, hrh, hrj, hls⟩ := hs
  obtain ⟨wi, st1, rfl, hri, hst1⟩ := fx_rl_cons hst
  obtain ⟨w, st2, rfl, hrv, hst2⟩ := fx_rl_cons hst1
  have hri : wi = .int (Int32.ofNat m) := hri
  have hw : w = fx_ad X 1000005 := hrv
  subst hw; subst hri
  obtain ⟨a2, b2, h1, h2, h3, h4, h5, h6, cell, g1, g2, g3, g4, g5, g6, g7⟩ := hcx.2.2.2.1.2
  rw [h2]
  exact fx_wald (ty := 1) (cell := cell) hx hb (by rw [hrh.2.2 _ (Nat.not_le.mp g7)]; exact g1) g2 g3 rfl (by omega) (by omega) (g6 m hm) hd (fx_nxt hgo (fun q hq => hsub q (List.mem_cons_of_mem _ hq)) (hn _ (rx_txt2_lt m hm)) ⟨hl0, ⟨rfl, hst2⟩, hrh, hrj, hls⟩ (Nat.le_refl _) (Nat.le_refl _))
/-- words for Math.abs -/
def rx_wa : Prop := Cond.static Lib.Math.abs.name ∈ fx_tb ∧ Cond.code Lib.Math.abs.name Lib.Math.abs.code 1 (some .int) ∈ fx_tb ∧ Cond.initialized "java/lang/Math" ∈ fx_tb
theorem rx_abs (hX : fx_xo X) (hw : rx_wa) (hd0 : 0 < d) (h8 : fx_cats stk ≤ 8) {x : Nat} (hn : rx_nx l X Y B d cod K pc 3 tl loc (fc (rx_n (if 0 ≤ Int32.ofNat x then Int32.ofNat x else 0 - Int32.ofNat x)) :: stk) h) : rx_run l X Y B d cod ((pc, 29, a, 2, c) :: tl) loc (fc x :: stk) h K := by
  intro p e R s m args below meth c0 Q cc nL own ini rt F hR hsub hrt H locs ls st hs
  have hgo := rx_gok F hR hrt
  obtain ⟨hx, hb, hml, hown, hts, -, -, -, hcx, -, hcod⟩ := F
  obtain ⟨hd, ha⟩ := hcod _ _ _ _ _ (hsub _ List.mem_cons_self) (by decide)
  have ha := ha.2.2.2.2.2.2.2.2.2.2.2.2.2.2.2.2.2.2 rfl
  obtain ⟨hl0, hst, hrh, hrj, hls⟩ := hs
  obtain ⟨wx, st2, rfl, hrx, hst2⟩ := fx_rl_cons hst
  have hrx : wx = .int (Int32.ofNat x) := hrx
  subst hrx
  have hsum := fx_cats_ok hX hst2
  obtain ⟨lv, hlv, hrn⟩ := hl0
  obtain ⟨r1, r2, r3, r4⟩ := hR
  exact va_mabs hx hb (by rw [hml]; exact hlv.1.symm) hown (hts _ (ha.2.2 rfl)) (hts _ hw.1) (hts _ hw.2.2) (hts _ hw.2.1) (by omega) (by omega) (by omega) (by omega) hd (fx_nxt hgo (fun q hq => hsub q (List.mem_cons_of_mem _ hq)) hn ⟨⟨lv, hlv, hrn⟩, ⟨by show Value.int _ = .int (Int32.ofNat (rx_n _)); rw [rx_n_of], hst2⟩, hrh, hrj, hls⟩ (Nat.le_refl _) (Nat.le_refl _))
theorem rx_lcmp {x y : Nat} (h1 : Int64.ofNat y < Int64.ofNat x → rx_nx l X Y B d cod K pc 1 tl loc (fc 1 :: stk) h) (h2 : Int64.ofNat x = Int64.ofNat y → rx_nx l X Y B d cod K pc 1 tl loc (fc 0 :: stk) h) (h3 : ¬ Int64.ofNat y < Int64.ofNat x → ¬ Int64.ofNat x = Int64.ofNat y → rx_nx l X Y B d cod K pc 1 tl loc (fc 4294967295 :: stk) h) : rx_run l X Y B d cod ((pc, 30, a, b, c) :: tl) loc (fl y :: fl x :: stk) h K := by
  intro p e R s m args below meth c0 Q cc nL own ini rt F hR hsub hrt H locs ls st hs
  have hgo := rx_gok F hR hrt
  obtain ⟨hx, hb, -, -, -, -, -, -, -, -, hcod⟩ := F
  obtain ⟨hd, ha⟩ := hcod _ _ _ _ _ (hsub _ List.mem_cons_self) (by decide)
  obtain ⟨hl0, hst, hrh, hrj, hls⟩ := hs
  obtain ⟨wy, st1, rfl, hry, hst1⟩ := fx_rl_cons hst
  obtain ⟨wx, st, rfl, hrx, hst2⟩ := fx_rl_cons hst1
  have hry : wy = .long (Int64.ofNat y) := hry
  have hrx : wx = .long (Int64.ofNat x) := hrx
  subst hry; subst hrx
  have KK : ∀ z, rx_nx l X Y B d cod K pc 1 tl loc (fc z :: stk) h → W p l e R s m args below meth c0 H locs 0 0 Q (F0 m (pc + 1) ls (.int (Int32.ofNat z) :: st)) := fun z q1 => fx_nxt hgo (fun q hq => hsub q (List.mem_cons_of_mem _ hq)) q1 ⟨hl0, ⟨rfl, hst2⟩, hrh, hrj, hls⟩ (Nat.le_refl _) (Nat.le_refl _)
  refine W.lcmp hx hb hd ?_
  by_cases q1 : Int64.ofNat y < Int64.ofNat x
  · have e1 : lg_cmp (Int64.ofNat x) (Int64.ofNat y) = Int32.ofNat 1 := by simp [lg_cmp, q1]
    rw [e1]
    exact KK 1 (h1 q1)
  · by_cases q2 : Int64.ofNat x = Int64.ofNat y
    · have e1 : lg_cmp (Int64.ofNat x) (Int64.ofNat y) = Int32.ofNat 0 := by simp [lg_cmp, q1, q2]
      rw [e1]
      exact KK 0 (h2 q2)
    · have e1 : lg_cmp (Int64.ofNat x) (Int64.ofNat y) = Int32.ofNat 4294967295 := by
        simp only [lg_cmp, q1, q2, if_false]
        rfl
      rw [e1]
      exact KK 4294967295 (h3 q1 q2)
/-- a store of an int into bytes or booleans -/
theorem rx_bst {ty len i x r : Nat} {u : List (Nat × fx_V)} (hg : fx_hget h r = some (.inr (.inr (ty, len, u)))) (hty : ty = 1 ∨ ty = 2) (hi : i < len) (hn : ∀ z, z < 4294967296 → (ty = 1 → 2147483520 ≤ fx_b z ∧ fx_b z ≤ 2147483775 ∧ (2147483520 ≤ fx_b x → fx_b x ≤ 2147483775 → x < 4294967296 → z = x)) → (ty = 2 → 2147483648 ≤ fx_b z ∧ fx_b z ≤ 2147483649 ∧ (x < 2 → z = x)) → fx_aset ty u i (fc z) (fun u' => fx_hset h r (.inr (.inr (ty, len, u'))) (fun h' => fx_nx (fun t => rx_go l X Y B d cod K t loc stk 0 0 h' []) pc 1 tl)) = true) : rx_run l X Y B d cod ((pc, 8, 1, b, c) :: tl) loc (fc x :: fc i :: fr r :: stk) h K := by
  intro p e R s m args below meth c0 Q cc nL own ini rt F hR hsub hrt H locs ls st hs
  have hgo := rx_gok F hR hrt
  obtain ⟨hx, hb, -, hown, hts, -, -, -, hcx, -, hcod⟩ := F
  obtain ⟨hd, -⟩ := hcod _ _ _ _ _ (hsub _ List.mem_cons_self) (by decide)
  obtain ⟨hl0, hst, hrh, hrj, hls⟩ := hs
  obtain ⟨wv, st1, rfl, hrv, hst1⟩ := fx_rl_cons hst
  obtain ⟨wi, st2, rfl, hri, hst2⟩ := fx_rl_cons hst1
  obtain ⟨wr, st3, rfl, hrr, hst3⟩ := fx_rl_cons hst2
  have hrv : wv = .int (Int32.ofNat x) := hrv
  have hri : wi = .int (Int32.ofNat i) := hri
  have hrr : wr = fx_ad X r := hrr
  subst hrv; subst hri; subst hrr
  obtain ⟨f, g1, g2, g3, g4, g5⟩ := fx_arr hrh hg
  rw [g5]
  have hin : ¬ (Int32.ofNat i < 0 ∨ (arrV (Y.2.1 ty) len f).slots.size ≤ (Int32.ofNat i).toNatClampNeg) := by rw [arrV_size]; exact fx_inb hi g2
  have hcn : (Int32.ofNat i).toNatClampNeg = i := fx_clamp (by omega)
  have harr := (hcx.2.1 ty g3).1 len f
  -- what goes on, for a number that is held
  have fin : ∀ (z : Nat), fx_aset ty u i (fc z) (fun u' => fx_hset h r (.inr (.inr (ty, len, u'))) (fun h' => fx_nx (fun t => rx_go l X Y B d cod K t loc stk 0 0 h' []) pc 1 tl)) = true → ∀ (H1 : Heap) (lc : Loc), lc.base = X.2.1 + r → H1[X.2.1 + r]? = some (arrV (Y.2.1 ty) len (updV f i (.int (Int32.ofNat z)))) → H1.size = H.size → (∀ q : Nat, q ≠ X.2.1 + r → H1[q]? = H[q]?) → W p l e R s m args below meth c0 H1 (locs ++ [lc]) 0 0 Q (F0 m (pc + 1) ls st3) := fun z ez H1 lc hlc q1 q2 q3 => by
    obtain ⟨u', e7, k1, k2⟩ := fx_aset_ok ez
    obtain ⟨h', e8, f1, ⟨c00, f2⟩, f3, f4⟩ := fx_hset_ok e7
    refine fx_nxt hgo (fun q hq => hsub q (List.mem_cons_of_mem _ hq)) e8 ⟨hl0, hst3, fx_rh_set hrh f1 f2 f3 f4 q2 q3 ⟨_, q1, g2, g3, fun y => ?_⟩, hrj, fx_ls_add hls hlc⟩ (Nat.le_refl _) (Nat.le_refl _)
    by_cases hy : y = i
    · subst hy
      rw [k1]
      simp only [updV, if_true]
      rfl
    · rw [k2 y hy]
      simp only [updV, if_neg hy]
      exact g4 y
  rcases hty with rfl | rfl
  · obtain ⟨z1, z2, z3⟩ := ai_z_i2b (Int32.ofNat x)
    refine W.bast hx hb g1 harr fx_known hin rfl rfl hd (fun H1 q1 q2 q3 => fin (rx_n (Int32.ofNat x).toInt8.toInt32) (hn _ (rx_n_lt _) (fun _ => ?_) (fun q => by cases q)) H1 _ rfl ?_ q2 q3)
    · rw [rx_n_b]
      refine ⟨z1, z2, fun q1 q2 q3 => ?_⟩
      rw [z3 (by rw [fx_z_of]; exact q1) (by rw [fx_z_of]; exact q2)]
      unfold rx_n
      rw [fx_z_of, ai_b_b q3]
    · rw [q1, hcn, arrV_store, narrow_byte, rx_n_of]
  · refine W.zast hx hb g1 harr fx_known hin rfl rfl hd (fun H1 q1 q2 q3 => fin (rx_n (Int32.ofNat x &&& 1)) (hn _ (rx_n_lt _) (fun q => by cases q) (fun _ => ?_)) H1 _ rfl ?_ q2 q3)
    · have e1 : Int32.ofNat x &&& 1 = Int32.ofNat (Nat.land x 1) := (fx_o_and x 1).symm
      have e2 : Nat.land x 1 ≤ 1 := Nat.and_le_right
      rw [rx_n_b, e1, ai_z_of (by omega)]
      refine ⟨by omega, by omega, fun q => ?_⟩
      unfold rx_n
      rw [ai_z_of (by omega)]
      rcases (by omega : x = 0 ∨ x = 1) with rfl | rfl
      · rfl
      · rfl
    · rw [q1, hcn, arrV_store, rx_n_of]
      rfl
end RXD
end
section
theorem ai_l63 {n : Nat} (h : n < 9223372036854775808) : (Int64.ofNat n).toInt = (n : Int) := by
  rw [Int64.toInt_ofNat']
  have hs : ((2 ^ 64 : Nat) : Int) = 18446744073709551616 := rfl
  simp only [Int.bmod, hs]
  omega
section AIW
variable {l : Launch} {X : fx_X} {Y : fx_Y} {B : fx_B} {E : ai_E} {P : fx_H → Prop} {h0 : fx_H} {d : Nat} {cod : List fx_I} {K : rx_K} {go : ai_O}
variable {pc a b c n len : Nat} {tl : List fx_I} {loc cloc F : fx_L} {stk cstk : List fx_V} {J : ai_J} {ρ τ : List Nat} {h : fx_H}
theorem ai_s18 (hXX : fx_xx X B) (hma : fx_mall fx_mst fx_mt) (hwd : fx_wd) (hgo : ai_gok l X Y B E P h0 d cod K ρ go) (ee : ai_k18 E go pc tl loc stk F J n = true) (hs : ai_st E.1 ρ loc stk F J n cloc cstk h) (hf : ai_hf E P h0 h) : rx_run l X Y B d cod ((pc, 18, a, b, c) :: tl) cloc cstk h K := by
  obtain ⟨s1, s2, s3, s4, s5, s6⟩ := hs
  rcases stk with _ | ⟨v, stk⟩
  · cases ee
  rcases v with m | m | (_ | r) | m
  · cases ee
  · cases ee
  · cases ee
  · obtain ⟨w, cstk, rfl, g1, g2⟩ := ai_vl_cons s3
    have := ai_isref g1
    subst this
    simp only [ai_k18] at ee
    cases hc : ai_cell E.1 r with
    | none =>
      rw [hc] at ee
      obtain ⟨e1, e2⟩ := fx_and ee
      have := fx_beq e1
      subst this
      exact rx_len2 (ai_nx0 hgo e2 ⟨s1, s2, ⟨⟨by decide, rfl⟩, g2⟩, s4, s5, s6⟩ hf)
    | some q =>
      rw [hc] at ee
      rcases q with q | ⟨ty, len, L⟩
      · cases ee
      · obtain ⟨e1, e2⟩ := fx_and (a := Nat.blt len 4096) ee
        have e1 := fx_blt e1
        obtain ⟨u, k1, k2⟩ := ai_arr s6 hc
        refine rx_one hXX hma hwd ?_
        show (match fx_len h r with
          | some v => fx_nz [] v (fun v => fx_nx (fun t => rx_go l X Y B d cod K t cloc (v :: cstk) 0 0 h []) pc 1 tl)
          | none => false) = true
        have e3 : fx_len h r = some (fc len) := by
          unfold fx_len
          rw [k1]
        rw [e3]
        exact ai_nx0 hgo e2 ⟨s1, s2, ⟨⟨by omega, rfl⟩, g2⟩, s4, s5, s6⟩ hf
  · cases ee
theorem ai_s25 (hXX : fx_xx X B) (hma : fx_mall fx_mst fx_mt) (hwd : fx_wd) (hgo : ai_gok l X Y B E P h0 d cod K ρ go) (ee : ai_k25 go pc b tl loc stk F J n = true) (hs : ai_st E.1 ρ loc stk F J n cloc cstk h) (hf : ai_hf E P h0 h) : rx_run l X Y B d cod ((pc, 25, a, b, c) :: tl) cloc cstk h K := by
  obtain ⟨s1, s2, s3, s4, s5, s6⟩ := hs
  rcases stk with _ | ⟨v, stk⟩
  · cases ee
  rcases v with m | m | (_ | r) | m
  · cases ee
  · cases ee
  · cases ee
  · obtain ⟨w, cstk, rfl, g1, g2⟩ := ai_vl_cons s3
    have := ai_isref g1
    subst this
    obtain ⟨e1, e2⟩ := fx_and (a := Nat.beq r 1000004) ee
    have := fx_beq e1
    subst this
    cases e3 : Nat.beq b 0 with
    | true =>
      rw [e3, fx_if_t] at e2
      have := fx_beq e3
      subst this
      exact rx_gstr (ai_nx0 hgo e2 ⟨s1, s2, ⟨rfl, g2⟩, s4, s5, s6⟩ hf) (by decide)
    | false =>
      rw [e3, fx_if_f] at e2
      obtain ⟨e4, e5⟩ := fx_and e2
      have := fx_beq e4
      subst this
      exact rx_gstr (ai_nx0 hgo e5 ⟨s1, s2, ⟨⟨by decide, rfl⟩, g2⟩, s4, s5, s6⟩ hf) (by decide)
  · cases ee
theorem ai_s26 (hXX : fx_xx X B) (hma : fx_mall fx_mst fx_mt) (hwd : fx_wd) (hgo : ai_gok l X Y B E P h0 d cod K ρ go) (ee : (Nat.beq b 0 && fx_nx (fun t => go t loc (fc 1 :: stk) F J n) pc 3 tl) = true) (hs : ai_st E.1 ρ loc stk F J n cloc cstk h) (hf : ai_hf E P h0 h) : rx_run l X Y B d cod ((pc, 26, a, b, c) :: tl) cloc cstk h K := by
  obtain ⟨s1, s2, s3, s4, s5, s6⟩ := hs
  obtain ⟨e1, e2⟩ := fx_and ee
  have := fx_beq e1
  subst this
  refine rx_one hXX hma hwd ?_
  show fx_nx (fun t => rx_go l X Y B d cod K t cloc (fc 1 :: cstk) 0 0 h []) pc 3 tl = true
  exact ai_nx0 hgo e2 ⟨s1, s2, ⟨⟨by decide, rfl⟩, s3⟩, s4, s5, s6⟩ hf
theorem ai_s27 (hXX : fx_xx X B) (hma : fx_mall fx_mst fx_mt) (hwd : fx_wd) (hgo : ai_gok l X Y B E P h0 d cod K ρ go) (ee : (Nat.beq a 73 && fx_nx (fun t => go t loc (fr 1000004 :: stk) F J n) pc 2 tl) = true) (hs : ai_st E.1 ρ loc stk F J n cloc cstk h) (hf : ai_hf E P h0 h) : rx_run l X Y B d cod ((pc, 27, a, b, c) :: tl) cloc cstk h K := by
  obtain ⟨s1, s2, s3, s4, s5, s6⟩ := hs
  obtain ⟨e1, e2⟩ := fx_and ee
  have := fx_beq e1
  subst this
  exact rx_lit2 (ai_nx0 hgo e2 ⟨s1, s2, ⟨rfl, s3⟩, s4, s5, s6⟩ hf)
theorem ai_s30 (hXX : fx_xx X B) (hma : fx_mall fx_mst fx_mt) (hwd : fx_wd) (hgo : ai_gok l X Y B E P h0 d cod K ρ go) (ee : ai_k30 go pc tl loc stk F J n = true) (hs : ai_st E.1 ρ loc stk F J n cloc cstk h) (hf : ai_hf E P h0 h) : rx_run l X Y B d cod ((pc, 30, a, b, c) :: tl) cloc cstk h K := by
  obtain ⟨s1, s2, s3, s4, s5, s6⟩ := hs
  rcases stk with _ | ⟨v, _ | ⟨v2, stk⟩⟩
  · cases ee
  · rcases v with m | m | m | m <;> cases ee
  · rcases v with m | m | m | m
    · cases ee
    · cases ee
    · cases ee
    · rcases v2 with m2 | m2 | m2 | m2
      · cases ee
      · cases ee
      · cases ee
      · obtain ⟨w, cstk1, rfl, ⟨y, rfl, ly⟩, g1⟩ := ai_vl_cons s3
        obtain ⟨w2, cstk, rfl, ⟨x, rfl, lx⟩, g2⟩ := ai_vl_cons g1
        have ef : fx_if (Nat.ble 2 m2 && (Nat.ble 2 m && (Nat.blt m2 9223372036854775808 && Nat.blt m 9223372036854775808))) (match ai_lcmp m2 m with
            | some z => fx_nx (fun t => go t loc (fc z :: stk) F J n) pc 1 tl
            | none => false)
          (fx_if (Nat.beq m2 1 && (Nat.ble 2 m && ai_mem ai_WL (m - 2))) (fx_nx (fun t => go t loc (fc 1 :: stk) F J n) pc 1 tl && fx_nx (fun t => go t loc (fc 4294967295 :: stk) F J n) pc 1 tl)
            (ai_new J n 2147483647 2147483649 0 0 (fun v J n => fx_nx (fun t => go t loc (v :: stk) F J n) pc 1 tl))) = true := ee
        have kon : ∀ z, z < 4294967296 → fx_nx (fun t => go t loc (fc z :: stk) F J n) pc 1 tl = true → rx_nx l X Y B d cod K pc 1 tl cloc (fc z :: cstk) h := fun z hz q => ai_nx0 hgo q ⟨s1, s2, ⟨⟨hz, rfl⟩, g2⟩, s4, s5, s6⟩ hf
        cases c1 : (Nat.ble 2 m2 && (Nat.ble 2 m && (Nat.blt m2 9223372036854775808 && Nat.blt m 9223372036854775808))) with
        | true =>
          rw [c1, fx_if_t] at ef
          obtain ⟨b1, c2⟩ := fx_and c1
          obtain ⟨b2, c3⟩ := fx_and c2
          obtain ⟨b3, b4⟩ := fx_and c3
          obtain ⟨p, rfl⟩ : ∃ p, m2 = p + 2 := ⟨m2 - 2, by have := fx_ble b1; omega⟩
          obtain ⟨q, rfl⟩ : ∃ q, m = q + 2 := ⟨m - 2, by have := fx_ble b2; omega⟩
          have b3 := fx_blt b3
          have b4 := fx_blt b4
          have lx : Int64.ofNat x = Int64.ofNat p := lx
          have ly : Int64.ofNat y = Int64.ofNat q := ly
          have ep := ai_l63 (n := p) (by omega)
          have eq := ai_l63 (n := q) (by omega)
          unfold ai_lcmp at ef
          refine rx_lcmp (fun t => ?_) (fun t => ?_) (fun t1 t2 => ?_)
          · rw [lx, ly, Int64.lt_iff_toInt_lt, ep, eq] at t
            have e1 : Nat.beq (p + 2) (q + 2) = false := by
              cases hb : Nat.beq (p + 2) (q + 2) with
              | true => have := fx_beq hb; omega
              | false => rfl
            have e2 : Nat.blt (p + 2) (q + 2) = false := by
              cases hb : Nat.blt (p + 2) (q + 2) with
              | true => have := fx_blt hb; omega
              | false => rfl
            rw [e1, fx_if_f, e2, fx_if_f] at ef
            exact kon 1 (by decide) ef
          · rw [lx, ly] at t
            have t := congrArg Int64.toInt t
            rw [ep, eq] at t
            have : p = q := by omega
            subst this
            rw [Nat.beq_refl, fx_if_t] at ef
            exact kon 0 (by decide) ef
          · rw [lx, ly, Int64.lt_iff_toInt_lt, ep, eq] at t1
            rw [lx, ly] at t2
            have t3 : p ≠ q := fun h => t2 (by rw [h])
            have e1 : Nat.beq (p + 2) (q + 2) = false := by
              cases hb : Nat.beq (p + 2) (q + 2) with
              | true => have := fx_beq hb; omega
              | false => rfl
            have e2 : Nat.blt (p + 2) (q + 2) = true := rx_ble (by omega)
            rw [e1, fx_if_f, e2, fx_if_t] at ef
            exact kon 4294967295 (by decide) ef
        | false =>
          rw [c1, fx_if_f] at ef
          cases c4 : (Nat.beq m2 1 && (Nat.ble 2 m && ai_mem ai_WL (m - 2))) with
          | true =>
            rw [c4, fx_if_t] at ef
            obtain ⟨b1, c5⟩ := fx_and c4
            obtain ⟨b2, b3⟩ := fx_and c5
            have := fx_beq b1
            subst this
            obtain ⟨q, rfl⟩ : ∃ q, m = q + 2 := ⟨m - 2, by have := fx_ble b2; omega⟩
            have lx : ∀ c ∈ ai_WL, Int64.ofNat x ≠ Int64.ofNat c := lx
            have ly : Int64.ofNat y = Int64.ofNat q := ly
            obtain ⟨d1, d2⟩ := fx_and ef
            refine rx_lcmp (fun _ => kon 1 (by decide) d1) (fun t => ?_) (fun _ _ => kon 4294967295 (by decide) d2)
            exact absurd (t.trans ly) (lx q (ai_mem_ok (by rw [show q + 2 - 2 = q by omega] at b3; exact b3)))
          | false =>
            rw [c4, fx_if_f] at ef
            have gen : ∀ z, z < 4294967296 → 2147483647 ≤ fx_b z → fx_b z ≤ 2147483649 → rx_nx l X Y B d cod K pc 1 tl cloc (fc z :: cstk) h := fun z q3 q1 q2 => by
              obtain ⟨v, J', n', τ, t1, t2, t3, t4⟩ := ai_new_iv s1 s5 ef (w := fc z) ⟨z, rfl, q3, q1, q2⟩
              exact ai_nx hgo t1 ⟨t2, s2.ext, ⟨t4, g2.ext⟩, s4.ext, t3, s6⟩ hf
            exact rx_lcmp (fun _ => gen 1 (by decide) (by decide) (by decide)) (fun _ => gen 0 (by decide) (by decide) (by decide)) (fun _ _ => gen 4294967295 (by decide) (by decide) (by decide))
theorem ai_s29 (hXX : fx_xx X B) (hma : fx_mall fx_mst fx_mt) (hwd : fx_wd) (hwa : rx_wa) (hgo : ai_gok l X Y B E P h0 d cod K ρ go) (ee : ai_k29 go d pc b tl loc stk F J n = true) (hs : ai_st E.1 ρ loc stk F J n cloc cstk h) (hf : ai_hf E P h0 h) : rx_run l X Y B d cod ((pc, 29, a, b, c) :: tl) cloc cstk h K := by
  obtain ⟨s1, s2, s3, s4, s5, s6⟩ := hs
  unfold ai_k29 at ee
  cases e0 : Nat.beq b 2 with
  | true =>
    rw [e0, fx_if_t] at ee
    have := fx_beq e0
    subst this
    rcases stk with _ | ⟨x, stk⟩
    · cases ee
    obtain ⟨w, cstk, rfl, gx, g2⟩ := ai_vl_cons s3
    obtain ⟨e1, e2⟩ := fx_and (b := ai_abs J n x (fun w J n => fx_nx (fun t => go t loc (w :: stk) F J n) pc 3 tl)) ee
    obtain ⟨e3, e4⟩ := fx_and e1
    obtain ⟨n1, rfl, v, J', n', τ, t1, t2, t3, t4⟩ := ai_abs_ok s1 s5 gx e2
    exact rx_abs hXX.1 hwa (fx_blt e3) (by rw [ai_vl_cats g2]; exact fx_ble e4) (ai_nx hgo t1 ⟨t2, s2.ext, ⟨t4, g2.ext⟩, s4.ext, t3, s6⟩ hf)
  | false =>
    rw [e0, fx_if_f] at ee
    rcases stk with _ | ⟨y, _ | ⟨x, stk⟩⟩
    · cases ee
    · cases ee
    obtain ⟨u, cstk1, rfl, gy, g1⟩ := ai_vl_cons s3
    obtain ⟨w, cstk, rfl, gx, g2⟩ := ai_vl_cons g1
    obtain ⟨e1, e2⟩ := fx_and (a := (Nat.blt b 2 && Nat.blt 0 d) && Nat.ble (fx_cats stk) 8) ee
    obtain ⟨e3, e4⟩ := fx_and e1
    obtain ⟨e3, e5⟩ := fx_and e3
    obtain ⟨n1, x1, x2, rfl, c1, h1, h2, e21, -⟩ := ai_rng_ok gx s5 e2
    obtain ⟨n2, y1, y2, rfl, c2, h3, h4, e22, -⟩ := ai_rng_ok gy s5 e21
    have hb := fx_blt e3
    refine rx_one hXX hma hwd ?_
    show ((Nat.blt 0 d && Nat.ble (fx_cats cstk) 8) && fx_if (Nat.beq b 0) (fx_if (Nat.blt (fx_b n1) (fx_b n2)) (fx_nx (fun t => rx_go l X Y B d cod K t cloc (fc n2 :: cstk) 0 0 h []) pc 3 tl) (fx_nx (fun t => rx_go l X Y B d cod K t cloc (fc n1 :: cstk) 0 0 h []) pc 3 tl)) (Nat.beq b 1 && fx_if (Nat.blt (fx_b n2) (fx_b n1)) (fx_nx (fun t => rx_go l X Y B d cod K t cloc (fc n2 :: cstk) 0 0 h []) pc 3 tl) (fx_nx (fun t => rx_go l X Y B d cod K t cloc (fc n1 :: cstk) 0 0 h []) pc 3 tl))) = true
    rw [e5, ai_vl_cats g2, e4, Bool.true_and, Bool.true_and]
    have fin : ∀ {lo hi z : Nat}, ai_new J n lo hi 0 0 (fun w J n => fx_nx (fun t => go t loc (w :: stk) F J n) pc 3 tl) = true → z < 4294967296 → lo ≤ fx_b z → fx_b z ≤ hi → fx_nx (fun t => rx_go l X Y B d cod K t cloc (fc z :: cstk) 0 0 h []) pc 3 tl = true := fun q1 q2 q3 q4 => by
      obtain ⟨v, J', n', τ, t1, t2, t3, t4⟩ := ai_new_iv s1 s5 q1 (w := fc _) ⟨_, rfl, q2, q3, q4⟩
      exact ai_nx hgo t1 ⟨t2, s2.ext, ⟨t4, g2.ext⟩, s4.ext, t3, s6⟩ hf
    unfold ai_math at e22
    cases e6 : Nat.beq b 0 with
    | true =>
      rw [e6, fx_if_t, ai_max_le, ai_max_le] at e22
      rw [fx_if_t]
      cases e7 : Nat.blt (fx_b n1) (fx_b n2) with
      | true =>
        have e7 := fx_blt e7
        rw [fx_if_t]
        exact fin e22 c2 (by omega) (by omega)
      | false =>
        have e7 := fx_nlt e7
        rw [fx_if_f]
        exact fin e22 c1 (by omega) (by omega)
    | false =>
      rw [e6, fx_if_f, ai_min_le, ai_min_le] at e22
      rw [fx_if_f]
      have e8 := fx_bnq e6
      have : b = 1 := by omega
      subst this
      rw [show Nat.beq 1 1 = true from rfl, Bool.true_and]
      cases e7 : Nat.blt (fx_b n2) (fx_b n1) with
      | true =>
        have e7 := fx_blt e7
        rw [fx_if_t]
        exact fin e22 c2 (by omega) (by omega)
      | false =>
        have e7 := fx_nlt e7
        rw [fx_if_f]
        exact fin e22 c1 (by omega) (by omega)
theorem ai_s8 (hXX : fx_xx X B) (hma : fx_mall fx_mst fx_mt) (hwd : fx_wd) (hPm : ∀ h h', P h → ai_fr E.2.2.2.2.1 h h' → P h') (hgo : ai_gok l X Y B E P h0 d cod K ρ go) (ee : ai_k8 E go pc a tl loc stk F J n = true) (hs : ai_st E.1 ρ loc stk F J n cloc cstk h) (hf : ai_hf E P h0 h) : rx_run l X Y B d cod ((pc, 8, a, b, c) :: tl) cloc cstk h K := by
  obtain ⟨s1, s2, s3, s4, s5, s6⟩ := hs
  rcases stk with _ | ⟨v, _ | ⟨i, _ | ⟨rf, stk⟩⟩⟩
  · cases ee
  · cases ee
  · cases ee
  rcases rf with m | m | (_ | r) | m
  · cases ee
  · cases ee
  · cases ee
  · obtain ⟨wv, cstk1, rfl, gv, g1⟩ := ai_vl_cons s3
    obtain ⟨wi, cstk2, rfl, gi, g2⟩ := ai_vl_cons g1
    obtain ⟨wr, cstk, rfl, gr, g3⟩ := ai_vl_cons g2
    have := ai_isref gr
    subst this
    simp only [ai_k8] at ee
    obtain ⟨m, c1, d1, rfl, hm, h1, h2, ee, -⟩ := ai_rng_ok gi s5 ee
    have eb : fx_b m = (m + 2147483648) % 4294967296 := rfl
    cases hc : ai_cell E.1 r with
    | none => rw [hc] at ee; cases ee
    | some q =>
      rw [hc] at ee
      rcases q with q | ⟨ty, len, L⟩
      · cases ee
      · simp only at ee
        obtain ⟨e1, e2⟩ := fx_and ee
        obtain ⟨e3, e4⟩ := fx_and e1
        obtain ⟨e5, e6⟩ := fx_and e3
        obtain ⟨e5, e9⟩ := fx_and e5
        obtain ⟨e6, e6d⟩ := fx_and e6
        obtain ⟨e7, e8⟩ := fx_and e4
        have e9 := fx_blt e9
        have e7 := fx_ble e7
        have e8 := fx_blt e8
        have hml : m < len := by omega
        obtain ⟨u, k1, k2⟩ := ai_arr s6 hc
        -- what is so behind a store of w at m
        have upd : ∀ (w : fx_V) (_P : Unit), (if ty = 3 then ∃ q, w = fl q else ∃ q, L[m % L.length]? = some q ∧ ai_iv q.1 q.2 w) → (∀ u' h', fx_aget ty u' m = w → (∀ i, i ≠ m → fx_aget ty u' i = fx_aget ty u i) → fx_hget h' r = some (.inr (.inr (ty, len, u'))) → (∀ i, i ≠ r → fx_hget h' i = fx_hget h i) → ai_inv E.1 h' → ai_hf E P h0 h' → fx_nx (fun t => rx_go l X Y B d cod K t cloc cstk 0 0 h' []) pc 1 tl = true) → fx_aset ty u m w (fun u' => fx_hset h r (.inr (.inr (ty, len, u'))) (fun h' => fx_nx (fun t => rx_go l X Y B d cod K t cloc cstk 0 0 h' []) pc 1 tl)) = true := fun w _ hw hh => by
          obtain ⟨u', a1, a2, a3⟩ := fw_aset ty u m w
          obtain ⟨h', f1, f3, f4, f5⟩ := fw_hset (.inr (.inr (ty, len, u'))) k1
          rw [a3, f5]
          refine hh u' h' a1 a2 f3 f4 ?_ ⟨ai_fr_trans hf.1 (ai_fr_arr e6 f4), hPm _ _ hf.2 (ai_fr_arr e6d f4)⟩
          refine ai_inv_set s6 f3 f4 (fun c2 hc2 => ?_)
          rw [hc] at hc2
          cases hc2
          refine ⟨rfl, rfl, fun i hi => ?_⟩
          by_cases hq : i = m
          · subst hq
            rw [a1]
            exact hw
          · rw [a2 i hq]
            exact k2 i hi
        -- facts of other cells
        have out : ∀ (w : fx_V), (if ty = 3 then ∃ q, w = fl q else ∃ q, L[m % L.length]? = some q ∧ ai_iv q.1 q.2 w) → ai_out r F (fun F => fx_nx (fun t => go t loc stk F J n) pc 1 tl) = true → fx_aset ty u m w (fun u' => fx_hset h r (.inr (.inr (ty, len, u'))) (fun h' => fx_nx (fun t => rx_go l X Y B d cod K t cloc cstk 0 0 h' []) pc 1 tl)) = true := fun w hw ho => upd w () hw (fun u' h' a1 a2 f3 f4 q1 q2 => ai_nx0 hgo (ai_out_ok ho) ⟨s1, s2, g3, ai_l_out s4 f4, s5, q1⟩ q2)
        cases ht : Nat.beq ty 3 with
        | true =>
          have := fx_beq ht
          subst this
          rw [ht, fx_if_t] at e2
          obtain ⟨e10, e11⟩ := fx_and e2
          have e10 := fx_beq e10
          have hw : ∃ q, wv = fl q := by
            rcases v with q | q | q | q
            · cases e10
            · cases e10
            · cases e10
            · obtain ⟨q, h, -⟩ := gv
              exact ⟨q, h⟩
          obtain ⟨q, rfl⟩ := hw
          refine rx_one hXX hma hwd ?_
          show fx_sto a h r m (fl q) (fun h => fx_nx (fun t => rx_go l X Y B d cod K t cloc cstk 0 0 h []) pc 1 tl) = true
          unfold fx_sto
          rw [k1]
          simp only
          rw [e5, show Nat.blt m len = true from rx_ble hml, Bool.true_and, Bool.true_and]
          exact out (fl q) (by rw [if_pos rfl]; exact ⟨q, rfl⟩) e11
        | false =>
          rw [ht, fx_if_f] at e2
          have ht3 := fx_bnq ht
          obtain ⟨x, y1, y2, rfl, hx, l1, l2, e2, -⟩ := ai_rng_ok gv s5 e2
          have ebx : fx_b x = (x + 2147483648) % 4294967296 := rfl
          have ha1 : ty = 0 ∨ (a = 1 ∧ (ty = 1 ∨ ty = 2)) := by
            unfold fx_aty at e5
            cases q0 : Nat.beq a 0 with
            | true =>
              rw [q0, fx_if_t] at e5
              exact Or.inl (fx_beq e5)
            | false =>
              rw [q0, fx_if_f] at e5
              cases q1 : Nat.beq a 1 with
              | true =>
                rw [q1, fx_if_t] at e5
                refine Or.inr ⟨fx_beq q1, ?_⟩
                rcases fx_or e5 with t | t
                · exact Or.inl (fx_beq t)
                · exact Or.inr (fx_beq t)
              | false =>
                rw [q1, fx_if_f] at e5
                exact absurd (fx_beq (fx_and e5).2) ht3
          cases e10 : ai_nar ty y1 y2 with
          | true =>
            rw [e10, fx_if_t] at e2
            obtain ⟨e11, e12⟩ := fx_and e2
            obtain ⟨q, j1, j2, j3⟩ := ai_into_ok e11 (i := m) (by omega) (by omega)
            have hw : if ty = 3 then ∃ q, (fc x : fx_V) = fl q else ∃ q, L[m % L.length]? = some q ∧ ai_iv q.1 q.2 (fc x) := by
              rw [if_neg ht3]
              exact ⟨q, j1, x, rfl, hx, by omega, by omega⟩
            have main : fx_aset ty u m (fc x) (fun u' => fx_hset h r (.inr (.inr (ty, len, u'))) (fun h' => fx_nx (fun t => rx_go l X Y B d cod K t cloc cstk 0 0 h' []) pc 1 tl)) = true := by
              cases hcd : Nat.beq c1 d1 with
              | false =>
                rw [hcd, fx_if_f] at e12
                exact out (fc x) hw e12
              | true =>
                rw [hcd, fx_if_t, fx_num_eq] at e12
                have hcd := fx_beq hcd
                have hcm : c1 - 2147483648 = m := by omega
                rw [hcm] at e12
                refine upd (fc x) () hw (fun u' h' a1 a2 f3 f4 q1 q2 => ai_nx0 hgo e12 ⟨s1, s2, g3, ?_, s5, q1⟩ q2)
                refine ai_l_cons s4 (w := fc x) ?_ gv (fun p hp => ?_)
                · rw [ai_pl_arr f3 (by omega) hml, a1]
                · by_cases hq : p / 4096 = r
                  · have hq2 : p % 4096 ≠ m := fun t => hp (by omega)
                    unfold ai_pl
                    rw [hq, f3, k1]
                    simp only
                    rw [a2 _ hq2]
                  · exact ai_pl_off f4 hq
            rcases ha1 with rfl | ⟨rfl, hty⟩
            · refine rx_one hXX hma hwd ?_
              show fx_sto a h r m (fc x) (fun h => fx_nx (fun t => rx_go l X Y B d cod K t cloc cstk 0 0 h []) pc 1 tl) = true
              unfold fx_sto
              rw [k1]
              simp only
              rw [e5, show Nat.blt m len = true from rx_ble hml, Bool.true_and, Bool.true_and]
              exact main
            · refine rx_bst k1 hty hml (fun z z1 z2 z3 => ?_)
              have hzx : z = x := by
                rcases hty with rfl | rfl
                · obtain ⟨t1, t2⟩ := fx_and (show (Nat.ble 2147483520 y1 && Nat.ble y2 2147483775) = true by
                    rcases fx_or (show (false || ((true && (Nat.ble 2147483520 y1 && Nat.ble y2 2147483775)) || (false && (Nat.ble 2147483648 y1 && Nat.ble y2 2147483649)))) = true from e10) with t | t
                    · cases t
                    · rcases fx_or t with t | t
                      · exact t
                      · cases t)
                  have t1 := fx_ble t1
                  have t2 := fx_ble t2
                  exact (z2 rfl).2.2 (by omega) (by omega) hx
                · obtain ⟨t1, t2⟩ := fx_and (show (Nat.ble 2147483648 y1 && Nat.ble y2 2147483649) = true by
                    rcases fx_or (show (false || ((false && (Nat.ble 2147483520 y1 && Nat.ble y2 2147483775)) || (true && (Nat.ble 2147483648 y1 && Nat.ble y2 2147483649)))) = true from e10) with t | t
                    · cases t
                    · rcases fx_or t with t | t
                      · cases t
                      · exact t)
                  have t1 := fx_ble t1
                  have t2 := fx_ble t2
                  exact (z3 rfl).2.2 (by omega)
              rw [hzx]
              exact main
          | false =>
            rw [e10, fx_if_f] at e2
            obtain ⟨e11, e12⟩ := fx_and e2
            rcases ha1 with rfl | ⟨rfl, hty⟩
            · cases e10
            · refine rx_bst k1 hty hml (fun z z1 z2 z3 => out (fc z) ?_ e12)
              rw [if_neg ht3]
              rcases hty with rfl | rfl
              · obtain ⟨p1, p2, -⟩ := z2 rfl
                rw [show Nat.beq 1 1 = true from rfl, fx_if_t] at e11
                obtain ⟨q, j1, j2, j3⟩ := ai_into_ok e11 (i := m) (by omega) (by omega)
                exact ⟨q, j1, z, rfl, z1, by omega, by omega⟩
              · obtain ⟨p1, p2, -⟩ := z3 rfl
                rw [show Nat.beq 2 1 = false from rfl, fx_if_f] at e11
                obtain ⟨q, j1, j2, j3⟩ := ai_into_ok e11 (i := m) (by omega) (by omega)
                exact ⟨q, j1, z, rfl, z1, by omega, by omega⟩
  · cases ee
theorem ai_s23 (hXX : fx_xx X B) (hma : fx_mall fx_mst fx_mt) (hwd : fx_wd) (hPm : ∀ h h', P h → ai_fr E.2.2.2.2.1 h h' → P h') (hgo : ai_gok l X Y B E P h0 d cod K ρ go) (ee : ai_k23 E go d pc tl loc stk F J n = true) (hs : ai_st E.1 ρ loc stk F J n cloc cstk h) (hf : ai_hf E P h0 h) : rx_run l X Y B d cod ((pc, 23, a, b, c) :: tl) cloc cstk h K := by
  refine rx_one hXX hma hwd ?_
  show fx_k23 (rx_go l X Y B d cod K) d pc tl cloc cstk 0 0 h [] = true
  obtain ⟨s1, s2, s3, s4, s5, s6⟩ := hs
  rcases stk with _ | ⟨v, _ | ⟨dp, _ | ⟨rf, _ | ⟨sp, _ | ⟨rf0, stk⟩⟩⟩⟩⟩
  · cases ee
  · cases ee
  · cases ee
  · rcases rf with m | m | (_ | r) | m <;> cases ee
  · rcases rf with m | m | (_ | r) | m <;> cases ee
  rcases rf with m | m | (_ | r) | m
  · cases ee
  · cases ee
  · cases ee
  · rcases rf0 with m | m | (_ | r0) | m
    · cases ee
    · cases ee
    · cases ee
    · obtain ⟨w1, c1, rfl, g1, t1⟩ := ai_vl_cons s3
      obtain ⟨w2, c2, rfl, g2, t2⟩ := ai_vl_cons t1
      obtain ⟨w3, c3, rfl, g3, t3⟩ := ai_vl_cons t2
      obtain ⟨w4, c4, rfl, g4, t4⟩ := ai_vl_cons t3
      obtain ⟨w5, cst, rfl, g5, t5⟩ := ai_vl_cons t4
      have := ai_isref g3
      subst this
      have := ai_isref g5
      subst this
      simp only [ai_k23] at ee
      obtain ⟨n1, a1, b1, rfl, i1, j1, k1, ee, -⟩ := ai_rng_ok g1 s5 ee
      obtain ⟨n2, a2, b2, rfl, i2, j2, k2, ee, -⟩ := ai_rng_ok g2 s5 ee
      obtain ⟨n3, a3, b3, rfl, i3, j3, k3, ee, -⟩ := ai_rng_ok g4 s5 ee
      have e1 : fx_b n1 = (n1 + 2147483648) % 4294967296 := rfl
      have e2 : fx_b n2 = (n2 + 2147483648) % 4294967296 := rfl
      have e3 : fx_b n3 = (n3 + 2147483648) % 4294967296 := rfl
      cases hc0 : ai_cell E.1 r0 with
      | none => rw [hc0] at ee; cases ee
      | some q =>
        rw [hc0] at ee
        rcases q with q | ⟨_ | ty0, len0, _ | ⟨q0, _ | ⟨q1, L0⟩⟩⟩
        · cases ee
        · cases ee
        · simp only at ee
          cases hc : ai_cell E.1 r with
          | none => rw [hc] at ee; cases ee
          | some q =>
            rw [hc] at ee
            rcases q with q | ⟨_ | ty, len, _ | ⟨q, _ | ⟨q1, L⟩⟩⟩
            · cases ee
            · cases ee
            · simp only at ee
              obtain ⟨f1, f2⟩ := fx_and ee
              obtain ⟨f3, f4⟩ := fx_and f1
              obtain ⟨f5, f6⟩ := fx_and f3
              obtain ⟨f6, f6d⟩ := fx_and f6
              obtain ⟨f7, f8⟩ := fx_and f4
              obtain ⟨f9, f10⟩ := fx_and f7
              obtain ⟨f11, f12⟩ := fx_and f10
              obtain ⟨f13, f14⟩ := fx_and f8
              obtain ⟨f15, f16⟩ := fx_and f13
              obtain ⟨f17, f18⟩ := fx_and f14
              obtain ⟨f19, f20⟩ := fx_and f5
              have f9 := fx_ble f9
              have f11 := fx_ble f11
              have f12 := fx_ble f12
              have f15 := fx_ble f15
              have f16 := fx_ble f16
              have f17 := fx_ble f17
              have f18 := fx_ble f18
              obtain ⟨u0, p1, p2⟩ := ai_arr s6 hc0
              obtain ⟨u, p3, p4⟩ := ai_arr s6 hc
              have hl1 : ∀ i, i % ([q0] : List (Nat × Nat)).length = 0 := fun i => by show i % 1 = 0; omega
              have hint : fx_ints u0 n3 n1 = true := by
                have key : ∀ m, m ≤ n1 → fx_ints u0 n3 m = true := by
                  intro m
                  induction m with
                  | zero => intro _; rfl
                  | succ m ih =>
                    intro hm
                    show (fx_int (fx_aget 0 u0 (n3 + m)) && fx_ints u0 n3 m) = true
                    rw [ih (by omega), Bool.and_true]
                    have p5 := p2 (n3 + m) (by omega)
                    rw [if_neg (by decide)] at p5
                    obtain ⟨q2, -, m2, p6, -⟩ := p5
                    rw [p6]
                    rfl
                exact key n1 (Nat.le_refl _)
              obtain ⟨u', o1, o2⟩ := fw_copy u0 u n3 n2 n1
              obtain ⟨h', y1, y3, y4, y5⟩ := fw_hset (.inr (.inr (0, len, u'))) p3
              show (match fx_hget h r0 with
                | some (.inr (.inr (0, len0, u0))) => (match fx_hget h r with
                  | some (.inr (.inr (0, len, u))) => ((Nat.blt 0 d && Nat.ble (fx_cats cst) 8) && (Nat.ble (n3 + n1) len0 && (Nat.ble (n2 + n1) len && fx_ints u0 n3 n1))) && fx_copy u0 u n3 n2 n1 (fun u => fx_hset h r (.inr (.inr (0, len, u))) (fun h => fx_nx (fun t => rx_go l X Y B d cod K t cloc cst 0 0 h []) pc 3 tl))
                  | _ => false)
                | _ => false) = true
              rw [p1, p3]
              simp only
              rw [f19, ai_vl_cats t5, f20, rx_ble (by omega : n3 + n1 ≤ len0), rx_ble (by omega : n2 + n1 ≤ len), hint, o2, y5]
              simp only [Bool.true_and]
              refine ai_nx0 hgo (ai_out_ok f2) ⟨s1, s2, t5, ai_l_out s4 y4, s5, ?_⟩ ⟨ai_fr_trans hf.1 (ai_fr_arr f6 y4), hPm _ _ hf.2 (ai_fr_arr f6d y4)⟩
              refine ai_inv_set s6 y3 y4 (fun c2 hc2 => ?_)
              rw [hc] at hc2
              cases hc2
              refine ⟨rfl, rfl, fun i hi => ?_⟩
              rw [if_neg (by decide), o1 i]
              refine ⟨q, by rw [show i % ([q] : List (Nat × Nat)).length = 0 by show i % 1 = 0; omega]; rfl, ?_⟩
              by_cases hq : n2 ≤ i ∧ i < n2 + n1
              · rw [if_pos hq]
                have p5 := p2 (n3 + (i - n2)) (by omega)
                rw [if_neg (by decide)] at p5
                obtain ⟨q2, p6, m2, p7, p8, p9, p10⟩ := p5
                rw [hl1] at p6
                cases p6
                exact ⟨m2, p7, p8, by omega, by omega⟩
              · rw [if_neg hq]
                have p5 := p4 i hi
                rw [if_neg (by decide)] at p5
                obtain ⟨q2, p6, p7⟩ := p5
                rw [show i % ([q] : List (Nat × Nat)).length = 0 by show i % 1 = 0; omega] at p6
                cases p6
                exact p7
            · cases ee
            · cases ee
            · cases ee
            · cases ee
        · cases ee
        · cases ee
        · cases ee
        · cases ee
    · cases ee
  · cases ee
end AIW
end
section
/-! calls -/
theorem ai_args_ok {ρ : List Nat} : ∀ {as ws : List fx_V} (i : Nat), ai_vl ρ as ws → ai_lm ρ (fx_args as i) (fx_look (fx_args ws i)) := by
  have pos : ∀ (ws : List fx_V) (i j : Nat) (w : fx_V), fx_look (fx_args ws i) j = some w → i ≤ j := by
    intro ws
    induction ws with
    | nil => intro i j w h; cases h
    | cons x ws ih =>
      intro i j w h
      have h : fx_look ((i, x) :: fx_args ws (i + fx_cat x)) j = some w := h
      rw [fx_look_cons] at h
      cases hc : Nat.beq i j with
      | true => exact Nat.le_of_eq (fx_beq hc)
      | false =>
        rw [hc, fx_if_f] at h
        have := ih _ _ _ h
        omega
  intro as
  induction as with
  | nil => intro ws i h q hq; cases hq
  | cons v as ih =>
    intro ws i h
    obtain ⟨w, ws', rfl, h1, h2⟩ := ai_vl_cons h
    intro q hq
    have hq : q ∈ (i, v) :: fx_args as (i + fx_cat v) := hq
    show ∃ w_1, fx_look ((i, w) :: fx_args ws' (i + fx_cat w)) q.1 = some w_1 ∧ ai_v ρ q.2 w_1
    rcases List.mem_cons.mp hq with rfl | hq
    · exact ⟨w, fx_look_hit _ _ _, h1⟩
    · obtain ⟨w2, g1, g2⟩ := ih (i + fx_cat v) h2 q hq
      have g3 := pos _ _ _ _ g1
      have hcat : 1 ≤ fx_cat v := by
        rcases v with n | n | n | n
        · exact Nat.le_refl 1
        · exact Nat.le_refl 1
        · exact Nat.le_refl 1
        · exact (by decide : 1 ≤ 2)
      refine ⟨w2, ?_, g2⟩
      rw [fx_look_miss _ _ (by omega), ai_cat h1]
      exact g1
theorem ai_vl_app {ρ : List Nat} : ∀ {a b cs : List fx_V}, ai_vl ρ (a ++ b) cs → ∃ c1 c2, cs = c1 ++ c2 ∧ ai_vl ρ a c1 ∧ ai_vl ρ b c2 := by
  intro a
  induction a with
  | nil => intro b cs h; exact ⟨[], cs, rfl, trivial, h⟩
  | cons v a ih =>
    intro b cs h
    obtain ⟨w, ws, rfl, h1, h2⟩ := ai_vl_cons (vs := a ++ b) h
    obtain ⟨c1, c2, rfl, h3, h4⟩ := ih h2
    exact ⟨w :: c1, c2, rfl, ⟨h1, h3⟩, h4⟩
theorem ai_vl_len {ρ : List Nat} : ∀ {a c : List fx_V}, ai_vl ρ a c → c.length = a.length := by
  intro a
  induction a with
  | nil => intro c h; rw [ai_vl_nil h]
  | cons v a ih =>
    intro c h
    obtain ⟨w, ws, rfl, h1, h2⟩ := ai_vl_cons h
    simp [ih h2]
theorem ai_split {ρ : List Nat} : ∀ {n : Nat} {stk as st cstk : List fx_V}, ai_vl ρ stk cstk → fx_split n stk = some (as, st) → ∃ cas cst, fx_split n cstk = some (cas, cst) ∧ ai_vl ρ as cas ∧ ai_vl ρ st cst := by
  have gen : ∀ (n : Nat) (acc cacc stk as st cstk : List fx_V), ai_vl ρ acc cacc → ai_vl ρ stk cstk → Nat.rec (motive := fun _ => List fx_V → List fx_V → Option (List fx_V × List fx_V)) (fun acc st => some (acc, st)) (fun _ ih acc st => match st with
      | [] => none
      | v :: st => ih (v :: acc) st) n acc stk = some (as, st) → ∃ cas cst, Nat.rec (motive := fun _ => List fx_V → List fx_V → Option (List fx_V × List fx_V)) (fun acc st => some (acc, st)) (fun _ ih acc st => match st with
      | [] => none
      | v :: st => ih (v :: acc) st) n cacc cstk = some (cas, cst) ∧ ai_vl ρ as cas ∧ ai_vl ρ st cst := by
    intro n
    induction n with
    | zero =>
      intro acc cacc stk as st cstk h1 h2 h
      cases h
      exact ⟨cacc, cstk, rfl, h1, h2⟩
    | succ n ih =>
      intro acc cacc stk as st cstk h1 h2 h
      cases stk with
      | nil => cases h
      | cons v stk =>
        obtain ⟨w, ws, rfl, g1, g2⟩ := ai_vl_cons h2
        exact ih (v :: acc) (w :: cacc) stk as st ws ⟨g1, h1⟩ g2 h
  intro n stk as st cstk hv h
  exact gen n [] [] stk as st cstk trivial hv h
/-- facts that a contract tells, put behind others -/
theorem ai_tell_ok {h : fx_H} {k : fx_L → ai_J → Nat → Bool} : ∀ {l : List (Nat × ai_S)} {F : fx_L} {J : ai_J} {n : Nat} {ρ : List Nat}, (∀ q ∈ l, ai_at h q) → ρ.length = n → ai_l ρ F (ai_pl h) → ai_j ρ J → ai_tell l F J n k = true → ∃ F' J' n' τ, k F' J' n' = true ∧ (ρ ++ τ).length = n' ∧ ai_l (ρ ++ τ) F' (ai_pl h) ∧ ai_j (ρ ++ τ) J' := by
  intro l
  induction l with
  | nil => intro F J n ρ _ h1 h2 h3 e; exact ⟨F, J, n, [], e, by rw [List.append_nil]; exact h1, by rw [List.append_nil]; exact h2, by rw [List.append_nil]; exact h3⟩
  | cons q l ih =>
    intro F J n ρ hl h1 h2 h3 e
    obtain ⟨w, g1, g2⟩ := hl q List.mem_cons_self
    have hl' : ∀ q ∈ l, ai_at h q := fun z hz => hl z (List.mem_cons_of_mem _ hz)
    obtain ⟨p, s⟩ := q
    rcases s with ⟨lo, hi⟩ | v
    · have e : ai_var J n lo hi 0 0 (fun v J n => ai_tell l ((p, v) :: F) J n k) = true := e
      obtain ⟨m, rfl, g3, g4, g5⟩ := g2
      obtain ⟨v, J', n', k1, k2, k3, k4⟩ := ai_var_ok h1 h3 e (rx_b_lt m) g4 g5 (fun q => absurd rfl q)
      rw [ai_b_b g3] at k4
      obtain ⟨F', J'', n'', τ, j1, j2, j3, j4⟩ := ih hl' k2 (ai_l_cons h2.ext g1 k4 (fun _ _ => rfl)) k3 k1
      rw [List.append_assoc] at j2 j3 j4
      exact ⟨F', J'', n'', _, j1, j2, j3, j4⟩
    · have e : ai_tell l ((p, v) :: F) J n k = true := e
      have g2 : ai_v ([] ++ ρ) v w := (show ai_v [] v w from g2).ext
      rw [List.nil_append] at g2
      exact ih hl' h1 (ai_l_cons h2 g1 g2 (fun _ _ => rfl)) h3 e
theorem ai_ans_ok {r : Option ai_S} {k : Option fx_V → ai_J → Nat → Bool} {J : ai_J} {n : Nat} {ρ : List Nat} {v : Option fx_V} (hv : ai_res r v) (h1 : ρ.length = n) (h3 : ai_j ρ J) (e : ai_ans r J n k = true) : ∃ v' J' n' τ, k v' J' n' = true ∧ (ρ ++ τ).length = n' ∧ ai_j (ρ ++ τ) J' ∧ ai_vo (ρ ++ τ) v' v := by
  have nil : ∀ (v' : Option fx_V), k v' J n = true → ai_vo ρ v' v → ∃ v' J' n' τ, k v' J' n' = true ∧ (ρ ++ τ).length = n' ∧ ai_j (ρ ++ τ) J' ∧ ai_vo (ρ ++ τ) v' v := fun v' q1 q2 => ⟨v', J, n, [], q1, by rw [List.append_nil]; exact h1, by rw [List.append_nil]; exact h3, by rw [List.append_nil]; exact q2⟩
  rcases r with _ | ⟨lo, hi⟩ | u
  · cases v with
    | none => exact nil none e trivial
    | some v => exact False.elim hv
  · cases v with
    | none => exact False.elim hv
    | some v =>
      simp only [ai_ans] at e
      obtain ⟨v', J', n', τ, k1, k2, k3, k4⟩ := ai_new_iv h1 h3 e (show ai_iv lo hi v from hv)
      exact ⟨some v', J', n', τ, k1, k2, k3, k4⟩
  · cases v with
    | none => exact False.elim hv
    | some v =>
      have hv : ai_v ([] ++ ρ) u v := (show ai_v [] u v from hv).ext
      rw [List.nil_append] at hv
      exact nil (some u) e hv
theorem ai_keep_ok {m : ai_M} : ∀ {F : fx_L} {k : fx_L → Bool}, ai_keep m F k = true → k (F.filter (fun q => !(ai_mem m.1 q.1 || ai_mem m.2 (Nat.div q.1 4096)))) = true := by
  intro F
  induction F with
  | nil => intro k h; exact h
  | cons q F ih =>
    intro k h
    have e := ih (k := fun t => fx_if (ai_mem m.1 q.1 || ai_mem m.2 (Nat.div q.1 4096)) (k t) (k (q :: t))) h
    cases hc : (ai_mem m.1 q.1 || ai_mem m.2 (Nat.div q.1 4096)) with
    | true =>
      simp only [hc, fx_if_t] at e
      rw [List.filter_cons_of_neg (by simp [hc])]
      exact e
    | false =>
      simp only [hc, fx_if_f] at e
      rw [List.filter_cons_of_pos (by simp [hc])]
      exact e
theorem ai_l_keep {m : ai_M} {ρ : List Nat} {F : fx_L} {h h' : fx_H} (hF : ai_l ρ F (ai_pl h)) (hf : ai_fr m h h') : ai_l ρ (F.filter (fun q => !(ai_mem m.1 q.1 || ai_mem m.2 (Nat.div q.1 4096)))) (ai_pl h') := fun i v hv => by
  obtain ⟨h1, h2⟩ := ai_look_key (fun p => !(ai_mem m.1 p || ai_mem m.2 (Nat.div p 4096))) hv
  obtain ⟨w, g1, g2⟩ := hF i v h1
  have h2 : (ai_mem m.1 i || ai_mem m.2 (Nat.div i 4096)) = false := by simpa using h2
  rw [Bool.or_eq_false_iff] at h2
  exact ⟨w, by rw [hf i h2.1 h2.2]; exact g1, g2⟩
theorem ai_fits_ok {ρ : List Nat} {J : ai_J} (hj : ai_j ρ J) : ∀ {vs ws : List fx_V} {ss : List ai_S}, ai_vl ρ vs ws → ai_fits J vs ss = true → ai_as ss ws := by
  intro vs
  induction vs with
  | nil =>
    intro ws ss h e
    rw [ai_vl_nil h]
    cases ss with
    | nil => trivial
    | cons s ss => cases e
  | cons v vs ih =>
    intro ws ss h e
    obtain ⟨w, ws', rfl, h1, h2⟩ := ai_vl_cons h
    cases ss with
    | nil => cases e
    | cons s ss =>
      obtain ⟨e1, e2⟩ := fx_and (a := ai_fit J v s) (b := ai_fits J vs ss) e
      exact ⟨ai_fit_ok hj h1 e1, ih h2 e2⟩
/-- the table speaks of a place -/
theorem ai_tab_ok {T : ai_T} {h : fx_H} {p a b : Nat} (hI : ai_inv T h) (e : ai_tab T p = some (.inr (.inl (a, b)))) : ∃ w, ai_pl h p = some w ∧ ai_iv a b w := by
  unfold ai_tab at e
  cases hc : ai_cell T (Nat.div p 4096) with
  | none => rw [hc] at e; cases e
  | some q =>
    rw [hc] at e
    rcases q with ⟨ci, fs⟩ | ⟨ty, len, L⟩
    · simp only at e
      obtain ⟨ws, k1, k2⟩ := ai_obj hI hc
      rw [fx_nth_eq] at e
      obtain ⟨w, j1, j2⟩ := k2 _ _ e
      refine ⟨w, ?_, j2⟩
      unfold ai_pl
      rw [show fx_hget h (p / 4096) = _ from k1]
      exact j1
    · simp only at e
      cases e1 : Nat.blt (Nat.mod p 4096) len with
      | false => rw [e1, fx_if_f] at e; cases e
      | true =>
        rw [e1, fx_if_t] at e
        have e1 : p % 4096 < len := fx_blt e1
        cases e2 : Nat.beq ty 3 with
        | true => rw [e2, fx_if_t] at e; cases e
        | false =>
          rw [e2, fx_if_f] at e
          obtain ⟨u, k1, k2⟩ := ai_arr hI hc
          cases e3 : fx_nth L (Nat.mod (Nat.mod p 4096) L.length) with
          | none => rw [e3] at e; cases e
          | some q =>
            rw [e3] at e
            cases e
            have k3 := k2 _ e1
            rw [if_neg (fx_bnq e2)] at k3
            obtain ⟨q, j1, j2⟩ := k3
            rw [fx_nth_eq] at e3
            have e3 : L[p % 4096 % L.length]? = some (a, b) := e3
            rw [e3] at j1
            cases j1
            refine ⟨_, ?_, j2⟩
            unfold ai_pl
            rw [show fx_hget h (p / 4096) = _ from k1]
            simp only
            rw [if_pos e1]
theorem ai_has_ok {T : ai_T} {ρ : List Nat} {F : fx_L} {J : ai_J} {h : fx_H} {p : Nat} {s : ai_S} (hI : ai_inv T h) (hF : ai_l ρ F (ai_pl h)) (hj : ai_j ρ J) (e : ai_has T F J p s = true) : ai_at h (p, s) := by
  unfold ai_has at e
  cases hl : fx_look F p with
  | some v =>
    rw [hl] at e
    obtain ⟨w, g1, g2⟩ := hF p v hl
    exact ⟨w, g1, ai_fit_ok hj g2 e⟩
  | none =>
    rw [hl] at e
    simp only at e
    cases ht : ai_tab T p with
    | none => rw [ht] at e; cases e
    | some q =>
      rw [ht] at e
      rcases q with z | ⟨a, b⟩ | rs
      · cases e
      · simp only at e
        rcases s with ⟨lo, hi⟩ | s
        · obtain ⟨e1, e2⟩ := fx_and e
          have e1 := fx_ble e1
          have e2 := fx_ble e2
          obtain ⟨w, g1, m, g2, g3, g4, g5⟩ := ai_tab_ok hI ht
          exact ⟨w, g1, m, g2, g3, by omega, by omega⟩
        · cases e
      · cases e
/-- a contract holds -/
def ai_con (l : Launch) (X : fx_X) (Y : fx_Y) (B : fx_B) (T : ai_T) (P : fx_H → Prop) (c : Nat) (I : ai_I) : Prop := ∀ (ws : List fx_V) (h : fx_H), ai_as I.1.1 ws → (∀ q ∈ I.1.2, ai_at h q) → ai_inv T h → P h → rx_met l X Y B c I.2.2.2 ws h (fun v h' => ai_res I.2.1.1 v ∧ (∀ q ∈ I.2.1.2, ai_at h' q) ∧ ai_inv T h' ∧ ai_fr I.2.2.1 h h' ∧ P h')
end
section
/-! loops -/
theorem rx_of_sub {l : Launch} {X : fx_X} {Y : fx_Y} {B : fx_B} {d : Nat} {cod at_ : List fx_I} {K : rx_K} {loc : fx_L} {stk : List fx_V} {h : fx_H} (k : (∀ q ∈ at_, q ∈ cod) → rx_run l X Y B d cod at_ loc stk h K) : rx_run l X Y B d cod at_ loc stk h K := by
  intro p e R s m args below meth c0 Q cc nL own ini rt F hR hsub hrt H locs ls st hs
  exact k hsub p e R s m args below meth c0 Q cc nL own ini rt F hR hsub hrt H locs ls st hs
theorem rx_same {l : Launch} {X : fx_X} {Y : fx_Y} {B : fx_B} {d : Nat} {cod at_ at2 : List fx_I} {K : rx_K} {loc : fx_L} {stk : List fx_V} {h : fx_H} (hp : fx_pc at2 = fx_pc at_) (h2 : ∀ q ∈ at2, q ∈ cod) (k : rx_run l X Y B d cod at2 loc stk h K) : rx_run l X Y B d cod at_ loc stk h K := by
  intro p e R s m args below meth c0 Q cc nL own ini rt F hR hsub hrt H locs ls st hs
  rw [← hp]
  exact k p e R s m args below meth c0 Q cc nL own ini rt F hR h2 hrt H locs ls st hs
/-- a head's entries, of plain values; ghosts are the first g numbers -/
def ai_hr (R : ai_R) (g : Nat) (ρ : List Nat) (f : Nat → Option fx_V) : Prop := ∀ q ∈ R, ∃ w, f q.1 = some w ∧ ai_sp q.2.1 w ∧ (q.2.2.2 ≠ 0 → ∃ m z, w = fc m ∧ q.2.2.1 < g ∧ ρ[q.2.2.1]? = some z ∧ fx_b m + 2147483648 = z + q.2.2.2)
noncomputable def ai_rk (A : ai_A) (cloc : fx_L) (h : fx_H) : Option fx_V := fx_if (Nat.beq A.1.1 0) (fx_look cloc A.1.2.1) (ai_pl h A.1.2.1)
def ai_hd (E : ai_E) (P : fx_H → Prop) (h0 : fx_H) (A : ai_A) (g : Nat) (ρ : List Nat) (y : Nat) (cloc : fx_L) (h : fx_H) : Prop := ai_hr A.2.1 g ρ (fx_look cloc) ∧ ai_hr A.2.2 g ρ (ai_pl h) ∧ (∃ m, ai_rk A cloc h = some (fc m) ∧ m < 4294967296 ∧ fx_b m = y) ∧ ai_inv E.1 h ∧ ai_hf E P h0 h
def ai_ms (dir y : Nat) : Nat := if dir = 0 then 4294967296 - y else y
/-- what is known of the loops that we are in -/
def ai_ctx (l : Launch) (X : fx_X) (Y : fx_Y) (B : fx_B) (E : ai_E) (P : fx_H → Prop) (h0 : fx_H) (d : Nat) (cod : List fx_I) (K : rx_K) (ρ : List Nat) (ctx : List Nat) : Prop := ctx.length ≤ ρ.length ∧ ∀ g x, ctx[g]? = some x → ∃ y, ρ[g]? = some y ∧ ∀ pc i A, x = pc * 64 + i → i < 64 → (E.2.2.2.2.2 pc)[i]? = some A → ∀ y' cloc h at_, ai_ms A.1.2.2 y' < ai_ms A.1.2.2 y → ai_hd E P h0 A g ρ y' cloc h → fx_pc at_ = pc → rx_run l X Y B d cod at_ cloc [] h K
theorem ai_hr.sub {R : ai_R} {g : Nat} {ρ ρ2 : List Nat} {f : Nat → Option fx_V} (hh : ai_hr R g ρ f) (he : ∀ b, b < g → ρ2[b]? = ρ[b]?) : ai_hr R g ρ2 f := fun q hq => by
  obtain ⟨w, h1, h2, h3⟩ := hh q hq
  refine ⟨w, h1, h2, fun q0 => ?_⟩
  obtain ⟨m, z, e1, e2, e3, e4⟩ := h3 q0
  exact ⟨m, z, e1, e2, by rw [he _ e2]; exact e3, e4⟩
theorem ai_hd.sub {E : ai_E} {P : fx_H → Prop} {h0 : fx_H} {A : ai_A} {g : Nat} {ρ ρ2 : List Nat} {y : Nat} {cloc : fx_L} {h : fx_H} (hh : ai_hd E P h0 A g ρ y cloc h) (he : ∀ b, b < g → ρ2[b]? = ρ[b]?) : ai_hd E P h0 A g ρ2 y cloc h := ⟨hh.1.sub he, hh.2.1.sub he, hh.2.2⟩
theorem ai_ctx.ext {l : Launch} {X : fx_X} {Y : fx_Y} {B : fx_B} {E : ai_E} {P : fx_H → Prop} {h0 : fx_H} {d : Nat} {cod : List fx_I} {K : rx_K} {ρ τ : List Nat} {ctx : List Nat} (hc : ai_ctx l X Y B E P h0 d cod K ρ ctx) : ai_ctx l X Y B E P h0 d cod K (ρ ++ τ) ctx := by
  refine ⟨by rw [List.length_append]; have := hc.1; omega, fun g x hx => ?_⟩
  obtain ⟨y, h1, h2⟩ := hc.2 g x hx
  have hg : g < ctx.length := (List.getElem?_eq_some_iff.mp hx).1
  have hl := hc.1
  refine ⟨y, ai_ext h1, fun pc i A e1 e2 e3 y' cloc h at_ e4 e5 e6 => h2 pc i A e1 e2 e3 y' cloc h at_ e4 (e5.sub (fun b hb => ?_)) e6⟩
  rw [List.getElem?_append_left (by omega)]
theorem ai_ch_ok {ρ : List Nat} {J : ai_J} {b : Nat} (hj : ai_j ρ J) : ∀ {f i t x : Nat}, ai_ch J b f i = some t → ρ[i]? = some x → ∃ z, ρ[b]? = some z ∧ x + 2147483648 = z + t := by
  intro f
  induction f with
  | zero => intro i t x h; cases h
  | succ f ih =>
    intro i t x h hx
    have h : fx_if (Nat.beq i b) (some 2147483648) (match fx_look J i with
      | some (_, _, s, o) => fx_if (Nat.beq o 0) none (match ai_ch J b f s with
        | some t => fx_if (Nat.ble 2147483648 (o + t)) (some (o + t - 2147483648)) none
        | none => none)
      | none => none) = some t := h
    cases hb : Nat.beq i b with
    | true =>
      rw [hb, fx_if_t] at h
      cases h
      rw [← fx_beq hb]
      exact ⟨x, hx, rfl⟩
    | false =>
      rw [hb, fx_if_f] at h
      cases hl : fx_look J i with
      | none => rw [hl] at h; cases h
      | some q =>
        obtain ⟨lo, hi, s, o⟩ := q
        rw [hl] at h
        simp only at h
        cases ho : Nat.beq o 0 with
        | true => rw [ho, fx_if_t] at h; cases h
        | false =>
          rw [ho, fx_if_f] at h
          obtain ⟨y, g1, g2, g3, g4⟩ := hj _ (ai_look_mem hl)
          have : y = x := Option.some.inj (g1.symm.trans hx)
          subst this
          obtain ⟨z, g5, g6⟩ := g4 (fx_bnq ho)
          simp only at g6 g5
          cases hr : ai_ch J b f s with
          | none => rw [hr] at h; cases h
          | some t2 =>
            rw [hr] at h
            simp only at h
            obtain ⟨u, k1, k2⟩ := ih hr g5
            cases hq : Nat.ble 2147483648 (o + t2) with
            | false => rw [hq, fx_if_f] at h; cases h
            | true =>
              rw [hq, fx_if_t] at h
              have h := Option.some.inj h
              have := fx_ble hq
              exact ⟨u, k1, by omega⟩
theorem ai_okr_ok {g : Nat} {J : ai_J} {L : fx_L} {R : ai_R} {ρ : List Nat} {f : Nat → Option fx_V} (hj : ai_j ρ J) (hL : ∀ i v, fx_look L i = some v → ∃ w, f i = some w ∧ ai_v ρ v w) (h : ai_okr g J L R = true) : ai_hr R g ρ f := by
  intro q hq
  have h1 := fx_all_ok h q hq
  cases hl : fx_look L q.1 with
  | none => simp only [hl] at h1; cases h1
  | some v =>
    simp only [hl] at h1
    obtain ⟨h2, h3⟩ := fx_and h1
    obtain ⟨h4, h5⟩ := fx_and h2
    obtain ⟨w, g1, g2⟩ := hL _ _ hl
    refine ⟨w, g1, ai_fit_ok hj g2 h4, fun q0 => ?_⟩
    have hg : q.2.2.1 < g := by
      rcases fx_or h3 with t | t
      · exact absurd (fx_beq t) q0
      · exact fx_blt t
    unfold ai_rel at h5
    have e0 : Nat.beq q.2.2.2 0 = false := by
      cases hb : Nat.beq q.2.2.2 0 with
      | true => exact absurd (fx_beq hb) q0
      | false => rfl
    rw [e0, fx_if_f] at h5
    rcases v with m | i | o | m
    · cases h5
    · simp only at h5
      obtain ⟨x, k1, k2, k3⟩ := g2
      cases hc : ai_ch J q.2.2.1 6 i with
      | none => rw [hc] at h5; cases h5
      | some t =>
        rw [hc] at h5
        have h5 := fx_beq h5
        obtain ⟨z, j1, j2⟩ := ai_ch_ok hj hc k1
        exact ⟨_, z, k3, hg, j1, by rw [ai_b_b k2]; omega⟩
    · cases h5
    · cases h5
theorem ai_mkl_ok {own g : Nat} {f : Nat → Option fx_V} : ∀ {R : ai_R} {n : Nat} {J : ai_J} {k : fx_L → ai_J → Nat → Bool} {ρ : List Nat}, ρ.length = n → ai_j ρ J → ai_hr R g ρ f → (∀ q ∈ R, q.1 + 1 = own → ∃ m, f q.1 = some (fc m) ∧ m < 4294967296 ∧ ρ[g]? = some (fx_b m)) → ai_mkl own g R n J k = true → ∃ L J' n' τ, k L J' n' = true ∧ (ρ ++ τ).length = n' ∧ ai_j (ρ ++ τ) J' ∧ ai_lm (ρ ++ τ) L f := by
  intro R
  induction R with
  | nil => intro n J k ρ h1 h2 h3 h4 h; exact ⟨[], J, n, [], h, by rw [List.append_nil]; exact h1, by rw [List.append_nil]; exact h2, fun q hq => by cases hq⟩
  | cons q R ih =>
    intro n J k ρ h1 h2 h3 h4 h
    obtain ⟨w, g1, g2, g3⟩ := h3 q List.mem_cons_self
    have h3' : ai_hr R g ρ f := fun z hz => h3 z (List.mem_cons_of_mem _ hz)
    have h4' : ∀ q ∈ R, q.1 + 1 = own → ∃ m, f q.1 = some (fc m) ∧ m < 4294967296 ∧ ρ[g]? = some (fx_b m) := fun z hz => h4 z (List.mem_cons_of_mem _ hz)
    obtain ⟨i, s, r⟩ := q
    rcases s with ⟨lo, hi⟩ | v
    · have h : fx_num (n + 1) (fun m => ai_mkl own g R m ((n, lo, hi, fx_if (Nat.beq (i + 1) own) (g, 2147483648) r) :: J) (fun L J m => k ((i, fv n) :: L) J m)) = true := h
      rw [fx_num_eq] at h
      obtain ⟨m, rfl, m1, m2, m3⟩ := g2
      have hg : (ρ ++ [fx_b m])[n]? = some (fx_b m) := by rw [← h1, List.getElem?_append_right (Nat.le_refl _), Nat.sub_self]; rfl
      have hj : ai_j (ρ ++ [fx_b m]) ((n, lo, hi, fx_if (Nat.beq (i + 1) own) (g, 2147483648) r) :: J) := by
        intro q hq
        rcases List.mem_cons.mp hq with rfl | hq
        · refine ⟨fx_b m, hg, m2, m3, fun q0 => ?_⟩
          simp only at q0 ⊢
          cases ho : Nat.beq (i + 1) own with
          | true =>
            obtain ⟨m', e1, e2, e3⟩ := h4 _ List.mem_cons_self (fx_beq ho)
            simp only at e1
            rw [g1] at e1
            cases e1
            rw [fx_if_t]
            exact ⟨_, ai_ext e3, rfl⟩
          | false =>
            rw [ho, fx_if_f] at q0
            rw [fx_if_f]
            obtain ⟨m', z, e1, e2, e3, e4⟩ := g3 q0
            cases e1
            exact ⟨z, ai_ext e3, e4⟩
        · exact h2.ext q hq
      have h3x : ai_hr R g (ρ ++ [fx_b m]) f := fun q hq => by
        obtain ⟨w, e1, e2, e3⟩ := h3' q hq
        refine ⟨w, e1, e2, fun q0 => ?_⟩
        obtain ⟨m', z, e4, e5, e6, e7⟩ := e3 q0
        exact ⟨m', z, e4, e5, ai_ext e6, e7⟩
      obtain ⟨L, J', n', τ, k1, k2, k3, k4⟩ := ih (by rw [List.length_append, h1]; rfl) hj h3x (fun q hq e => by
        obtain ⟨m', e1, e2, e3⟩ := h4' q hq e
        exact ⟨m', e1, e2, ai_ext e3⟩) h
      rw [List.append_assoc] at k2 k3 k4
      refine ⟨_, J', n', _, k1, k2, k3, fun q hq => ?_⟩
      rcases List.mem_cons.mp hq with rfl | hq
      · refine ⟨_, g1, fx_b m, ?_, rx_b_lt _, by rw [ai_b_b m1]⟩
        rw [← List.append_assoc]
        exact ai_ext hg
      · exact k4 q hq
    · have h : ai_mkl own g R n J (fun L J m => k ((i, v) :: L) J m) = true := h
      obtain ⟨L, J', n', τ, k1, k2, k3, k4⟩ := ih h1 h2 h3' h4' h
      refine ⟨_, J', n', τ, k1, k2, k3, fun q hq => ?_⟩
      rcases List.mem_cons.mp hq with rfl | hq
      · have g2 : ai_v ([] ++ (ρ ++ τ)) v w := (show ai_v [] v w from g2).ext
        exact ⟨w, g1, g2⟩
      · exact k4 q hq
theorem ai_idx_ok {x : Nat} : ∀ {l : List Nat} {g i : Nat}, ai_idx x l g = some i → ∃ j, i = g + j ∧ l[j]? = some x := by
  intro l
  induction l with
  | nil => intro g i h; cases h
  | cons a l ih =>
    intro g i h
    have h : fx_if (Nat.beq a x) (some g) (ai_idx x l (g + 1)) = some i := h
    cases hc : Nat.beq a x with
    | true =>
      rw [hc, fx_if_t] at h
      cases h
      exact ⟨0, rfl, by rw [List.getElem?_cons_zero, fx_beq hc]⟩
    | false =>
      rw [hc, fx_if_f] at h
      obtain ⟨j, e1, e2⟩ := ih h
      exact ⟨j + 1, by omega, by rw [List.getElem?_cons_succ]; exact e2⟩
end
section
/-! the analysis is sound -/
def ai_snd (l : Launch) (X : fx_X) (Y : fx_Y) (B : fx_B) (E : ai_E) (P : fx_H → Prop) (f : ai_G) : Prop :=
  (∀ d inl cod loc stk F J n ctx k, f d inl cod [] loc stk F J n ctx k = false) ∧
  ∀ d inl cod at_ loc stk F J n ctx k, f d inl cod at_ loc stk F J n ctx k = true → ∀ (h0 : fx_H) (K : rx_K) (ρ : List Nat), ai_kok E P h0 K inl ρ k → ∀ cloc cstk h, ai_st E.1 ρ loc stk F J n cloc cstk h → ai_hf E P h0 h → (inl = false → ai_ctx l X Y B E P h0 d cod K ρ ctx) → rx_run l X Y B d cod at_ cloc cstk h K
theorem ai_kok.ext {E : ai_E} {P : fx_H → Prop} {h0 : fx_H} {K : rx_K} {inl : Bool} {ρ τ : List Nat} {k : ai_K} (hk : ai_kok E P h0 K inl ρ k) : ai_kok E P h0 K inl (ρ ++ τ) k := fun v F J n ρ' w h e => hk v F J n ρ' w h (fun q => by
  obtain ⟨t, rfl⟩ := e q
  exact ⟨τ ++ t, by rw [List.append_assoc]⟩)
theorem ai_kok.top {E : ai_E} {P : fx_H → Prop} {h0 : fx_H} {K : rx_K} {ρ ρ2 : List Nat} {k : ai_K} (hk : ai_kok E P h0 K false ρ k) : ai_kok E P h0 K false ρ2 k := fun v F J n ρ' w h _ => hk v F J n ρ' w h (fun q => by cases q)
section AIM
variable {l : Launch} {X : fx_X} {Y : fx_Y} {B : fx_B} {E : ai_E} {P : fx_H → Prop} {ih : ai_G}
theorem ai_gok_of (hih : ai_snd l X Y B E P ih) {d : Nat} {inl : Bool} {cod : List fx_I} {ctx : List Nat} {k : ai_K} {h0 : fx_H} {K : rx_K} {ρ : List Nat} (hk : ai_kok E P h0 K inl ρ k) (hc : inl = false → ai_ctx l X Y B E P h0 d cod K ρ ctx) : ai_gok l X Y B E P h0 d cod K ρ (fun t loc stk F J n => ih d inl cod t loc stk F J n ctx k) :=
  ⟨fun _ _ _ _ _ => hih.1 _ _ _ _ _ _ _ _ _ _, fun at_ loc stk F J n τ cloc cstk h e hs hf => hih.2 _ _ _ _ _ _ _ _ _ _ _ e h0 K (ρ ++ τ) hk.ext cloc cstk h hs hf (fun q => (hc q).ext)⟩
theorem ai_each_ok {ρ : List Nat} {J : ai_J} {v : fx_V} {m lo : Nat} {k : ai_J → Bool} (hj : ai_j ρ J) (hv : ai_v ρ v (fc m)) : ∀ {n : Nat}, ai_each J v lo n k = true → lo ≤ fx_b m → fx_b m ≤ lo + n → ∃ J', k J' = true ∧ ai_j ρ J' := by
  intro n
  induction n with
  | zero => intro h h1 h2; exact ai_ref_ok hj hv h1 (by omega) h
  | succ n ih =>
    intro h h1 h2
    obtain ⟨e1, e2⟩ := fx_and (a := ai_ref J v (lo + (n + 1)) (lo + (n + 1)) k) (b := ai_each J v lo n k) h
    by_cases hq : fx_b m = lo + (n + 1)
    · exact ai_ref_ok hj hv (by omega) (by omega) e1
    · exact ih e2 h1 (by omega)
theorem ai_rank {E : ai_E} {A : ai_A} {ρ : List Nat} {loc F cloc : fx_L} {h : fx_H} {v : fx_V} (s2 : ai_lm ρ loc (fx_look cloc)) (s4 : ai_l ρ F (ai_pl h)) (hl : fx_look (fx_if (Nat.beq A.1.1 0) loc F) A.1.2.1 = some v) : ∃ w, ai_rk A cloc h = some w ∧ ai_v ρ v w := by
  unfold ai_rk
  cases hc : Nat.beq A.1.1 0 with
  | true =>
    rw [hc, fx_if_t] at hl
    rw [fx_if_t]
    exact s2 _ (ai_look_mem hl)
  | false =>
    rw [hc, fx_if_f] at hl
    rw [fx_if_f]
    exact s4 _ _ hl
theorem ai_int_num {ρ : List Nat} {v w : fx_V} (hi : fx_int v = true) (hv : ai_v ρ v w) : ∃ m, w = fc m ∧ m < 4294967296 := by
  rcases v with m | i | o | m
  · exact ⟨m, hv.2, hv.1⟩
  · obtain ⟨x, h1, h2, h3⟩ := hv
    exact ⟨_, h3, rx_b_lt _⟩
  · cases hi
  · cases hi
/-- a loop's head, reached for the first time or again -/
theorem ai_pick_ok (hih : ai_snd l X Y B E P ih) {d : Nat} {cod tl : List fx_I} {loc F : fx_L} {J : ai_J} {n : Nat} {ctx : List Nat} {k : ai_K} {h0 : fx_H} {K : rx_K} {ρ : List Nat} {cloc : fx_L} {h : fx_H} {pc : Nat} (hk : ai_kok E P h0 K false ρ k) (hc : ai_ctx l X Y B E P h0 d cod K ρ ctx) (hs : ai_st E.1 ρ loc [] F J n cloc [] h) (hf : ai_hf E P h0 h) (htl : ∀ q ∈ tl, q ∈ cod) (hpc : fx_pc tl = pc) : ∀ (As : List ai_A) (i : Nat), i + As.length < 64 → (∀ j A, As[j]? = some A → (E.2.2.2.2.2 pc)[i + j]? = some A) → ai_pick ih d cod tl loc F J ctx k As (pc * 64 + i) = true → rx_run l X Y B d cod tl cloc [] h K := by
  intro As
  induction As with
  | nil => intro i _ _ e; cases e
  | cons A As ihp =>
    intro i hlen hAs e
    obtain ⟨s1, s2, s3, s4, s5, s6⟩ := id hs
    have hlen : i + (As.length + 1) < 64 := hlen
    have hA : (E.2.2.2.2.2 pc)[i]? = some A := hAs 0 A (by rw [List.getElem?_cons_zero])
    have rest : ai_pick ih d cod tl loc F J ctx k As (pc * 64 + i + 1) = true → rx_run l X Y B d cod tl cloc [] h K := fun e2 => ihp (i + 1) (by omega) (fun j A2 hj => by
      have := hAs (j + 1) A2 (by rw [List.getElem?_cons_succ]; exact hj)
      rwa [show i + (j + 1) = i + 1 + j by omega] at this) e2
    have lk : ∀ i v, fx_look loc i = some v → ∃ w, fx_look cloc i = some w ∧ ai_v ρ v w := fun i v hv => s2 _ (ai_look_mem hv)
    have e : (match ai_idx (pc * 64 + i) ctx 0 with
      | some g => fx_if (ai_okr g J loc A.2.1 && ai_okr g J F A.2.2) (ai_back loc F J A g) (ai_pick ih d cod tl loc F J ctx k As (pc * 64 + i + 1))
      | none => fx_if (ai_okr ctx.length J loc A.2.1 && ai_okr ctx.length J F A.2.2) (ai_enter ih d cod tl loc F ctx k A (pc * 64 + i)) (ai_pick ih d cod tl loc F J ctx k As (pc * 64 + i + 1))) = true := e
    cases hx : ai_idx (pc * 64 + i) ctx 0 with
    | some g =>
      rw [hx] at e
      simp only at e
      cases ho : (ai_okr g J loc A.2.1 && ai_okr g J F A.2.2) with
      | false => rw [ho, fx_if_f] at e; exact rest e
      | true =>
        rw [ho, fx_if_t] at e
        obtain ⟨o1, o2⟩ := fx_and ho
        have r1 := ai_okr_ok s5 lk o1
        have r2 := ai_okr_ok s5 s4 o2
        obtain ⟨j, e1, e2⟩ := ai_idx_ok hx
        rw [Nat.zero_add] at e1
        subst e1
        obtain ⟨y, g1, g2⟩ := hc.2 _ _ e2
        unfold ai_back at e
        cases hl : fx_look (fx_if (Nat.beq A.1.1 0) loc F) A.1.2.1 with
        | none => rw [hl] at e; cases e
        | some v =>
          rw [hl] at e
          obtain ⟨e3, e4⟩ := fx_and (a := fx_int v) e
          obtain ⟨w, k1, k2⟩ := ai_rank (E := E) s2 s4 hl
          obtain ⟨m, rfl, hm⟩ := ai_int_num e3 k2
          refine g2 pc i A rfl (by omega) hA (fx_b m) cloc h tl ?_ ⟨r1, r2, ⟨m, k1, hm, rfl⟩, s6, hf⟩ hpc
          unfold ai_dec at e4
          rcases v with x | x | x | x
          · cases e4
          · simp only at e4
            obtain ⟨x0, q1, q2, q3⟩ := k2
            have q3 := Sum.inl.inj q3
            rw [q3]
            cases hch : ai_ch J g 6 x with
            | none => rw [hch] at e4; cases e4
            | some t =>
              rw [hch] at e4
              simp only at e4
              obtain ⟨z, z1, z2⟩ := ai_ch_ok s5 hch q1
              have : z = y := Option.some.inj (z1.symm.trans g1)
              subst this
              rw [ai_b_b q2]
              unfold ai_ms
              cases hd : Nat.beq A.1.2.2 0 with
              | true =>
                rw [hd, fx_if_t] at e4
                have e4 := fx_blt e4
                rw [if_pos (fx_beq hd), if_pos (fx_beq hd)]
                omega
              | false =>
                rw [hd, fx_if_f] at e4
                have e4 := fx_blt e4
                rw [if_neg (fx_bnq hd), if_neg (fx_bnq hd)]
                omega
          · cases e4
          · cases e4
    | none =>
      rw [hx] at e
      simp only at e
      cases ho : (ai_okr ctx.length J loc A.2.1 && ai_okr ctx.length J F A.2.2) with
      | false => rw [ho, fx_if_f] at e; exact rest e
      | true =>
        rw [ho, fx_if_t] at e
        obtain ⟨o1, o2⟩ := fx_and ho
        have r1 := ai_okr_ok s5 lk o1
        have r2 := ai_okr_ok s5 s4 o2
        unfold ai_enter at e
        cases hl : fx_look (fx_if (Nat.beq A.1.1 0) loc F) A.1.2.1 with
        | none => rw [hl] at e; cases e
        | some v =>
          rw [hl] at e
          obtain ⟨e3, e4⟩ := fx_and (a := fx_int v) e
          obtain ⟨w, k1, k2⟩ := ai_rank (E := E) s2 s4 hl
          obtain ⟨m, rfl, hm⟩ := ai_int_num e3 k2
          -- every state of the head runs, by what falls
          have claim : ∀ N y, ai_ms A.1.2.2 y < N → ∀ cloc h, ai_hd E P h0 A ctx.length ρ y cloc h → rx_run l X Y B d cod tl cloc [] h K := by
            intro N
            induction N with
            | zero => intro y hy; omega
            | succ N ihN =>
              intro y hy cloc h hh
              obtain ⟨t1, t2, ⟨m, t3, t4, t5⟩, t6, t7⟩ := hh
              have hlen2 := hc.1
              have hG : (ρ.take ctx.length).length = ctx.length := by rw [List.length_take]; omega
              have hGb : ∀ b, b < ctx.length → (ρ.take ctx.length ++ [y])[b]? = ρ[b]? := fun b hb => by
                rw [List.getElem?_append_left (by omega), List.getElem?_take_of_lt hb]
              have hGg : (ρ.take ctx.length ++ [y])[ctx.length]? = some y := by
                rw [List.getElem?_append_right (by omega), hG, Nat.sub_self]; rfl
              have hGl : (ρ.take ctx.length ++ [y]).length = ctx.length + 1 := by rw [List.length_append, hG]; rfl
              -- the locals
              have own1 : ∀ q ∈ A.2.1, q.1 + 1 = fx_if (Nat.beq A.1.1 0) (A.1.2.1 + 1) 0 → ∃ m, fx_look cloc q.1 = some (fc m) ∧ m < 4294967296 ∧ (ρ.take ctx.length ++ [y])[ctx.length]? = some (fx_b m) := fun q hq e5 => by
                unfold ai_rk at t3
                cases hb : Nat.beq A.1.1 0 with
                | true =>
                  rw [hb, fx_if_t] at e5 t3
                  have : q.1 = A.1.2.1 := by omega
                  rw [this]
                  exact ⟨m, t3, t4, by rw [hGg, t5]⟩
                | false => rw [hb, fx_if_f] at e5; omega
              obtain ⟨L, J1, n1, τ1, j1, j2, j3, j4⟩ := ai_mkl_ok (f := fx_look cloc) hGl (fun q hq => by cases hq) (t1.sub hGb) own1 e4
              have hGb1 : ∀ b, b < ctx.length → (ρ.take ctx.length ++ [y] ++ τ1)[b]? = ρ[b]? := fun b hb => by
                rw [List.getElem?_append_left (by omega)]; exact hGb b hb
              have own2 : ∀ q ∈ A.2.2, q.1 + 1 = fx_if (Nat.beq A.1.1 0) 0 (A.1.2.1 + 1) → ∃ m, ai_pl h q.1 = some (fc m) ∧ m < 4294967296 ∧ (ρ.take ctx.length ++ [y] ++ τ1)[ctx.length]? = some (fx_b m) := fun q hq e5 => by
                unfold ai_rk at t3
                cases hb : Nat.beq A.1.1 0 with
                | true => rw [hb, fx_if_t] at e5; omega
                | false =>
                  rw [hb, fx_if_f] at e5 t3
                  have : q.1 = A.1.2.1 := by omega
                  rw [this]
                  exact ⟨m, t3, t4, by rw [ai_ext hGg, t5]⟩
              obtain ⟨F2, J2, n2, τ2, i1, i2, i3, i4⟩ := ai_mkl_ok (f := ai_pl h) j2 j3 (t2.sub hGb1) own2 j1
              have hb2 : ∀ b, b < ctx.length → (ρ.take ctx.length ++ [y] ++ τ1 ++ τ2)[b]? = ρ[b]? := fun b hb => by
                rw [List.getElem?_append_left (by rw [j2]; rw [List.length_append] at j2; omega)]; exact hGb1 b hb
              have hg2 : (ρ.take ctx.length ++ [y] ++ τ1 ++ τ2)[ctx.length]? = some y := ai_ext (ai_ext hGg)
              refine hih.2 _ _ _ _ _ _ _ _ _ _ _ i1 h0 K (ρ.take ctx.length ++ [y] ++ τ1 ++ τ2) hk.top cloc [] h ⟨i2, j4.ext, trivial, fun i v hv => i4 _ (ai_look_mem hv), i3, t6⟩ t7 (fun _ => ⟨?_, fun g x hx2 => ?_⟩)
              · simp only [List.length_append, hG, List.length_cons, List.length_nil]
                omega
              · rcases Nat.lt_or_ge g ctx.length with hg | hg
                · rw [List.getElem?_append_left hg] at hx2
                  obtain ⟨y0, g1, g2⟩ := hc.2 g x hx2
                  refine ⟨y0, by rw [hb2 g hg]; exact g1, fun pc2 i2 A2 q1 q2 q3 y' cloc' h' at_ q4 q5 q6 => g2 pc2 i2 A2 q1 q2 q3 y' cloc' h' at_ q4 (q5.sub (fun b hb => (hb2 b (by omega)).symm)) q6⟩
                · have hgl : g < (ctx ++ [pc * 64 + i]).length := (List.getElem?_eq_some_iff.mp hx2).1
                  rw [List.length_append] at hgl
                  have hgl : g < ctx.length + 1 := hgl
                  have : g = ctx.length := by omega
                  subst this
                  rw [List.getElem?_append_right (Nat.le_refl _), Nat.sub_self] at hx2
                  have hx2 : pc * 64 + i = x := Option.some.inj hx2
                  refine ⟨y, hg2, fun pc2 i2 A2 q1 q2 q3 y' cloc' h' at_ q4 q5 q6 => ?_⟩
                  have : pc2 = pc := by omega
                  subst this
                  have : i2 = i := by omega
                  subst this
                  rw [hA] at q3
                  cases q3
                  exact rx_same (at2 := tl) (by rw [hpc, q6]) htl (ihN y' (by omega) cloc' h' (q5.sub (fun b hb => (hb2 b hb).symm)))
          exact claim (ai_ms A.1.2.2 (fx_b m) + 1) (fx_b m) (Nat.lt_succ_self _) cloc h ⟨r1, r2, ⟨m, k1, hm, rfl⟩, s6, hf⟩
theorem ai_s28 (hXX : fx_xx X B) (hma : fx_mall fx_mst fx_mt) (hwd : fx_wd) (hwa : rx_wa) (hih : ai_snd l X Y B E P ih) {d : Nat} {inl : Bool} {cod tl : List fx_I} {loc F : fx_L} {stk : List fx_V} {J : ai_J} {n : Nat} {ctx : List Nat} {k : ai_K} {h0 : fx_H} {K : rx_K} {ρ : List Nat} {cloc : fx_L} {cstk : List fx_V} {h : fx_H} {pc a b c : Nat} (hk : ai_kok E P h0 K inl ρ k) (hc : inl = false → ai_ctx l X Y B E P h0 d cod K ρ ctx) (hs : ai_st E.1 ρ loc stk F J n cloc cstk h) (hf : ai_hf E P h0 h) (ee : ai_k28 E ih d inl cod pc b tl loc stk F J n ctx k = true) : rx_run l X Y B d cod ((pc, 28, a, b, c) :: tl) cloc cstk h K := by
  unfold ai_k28 at ee
  refine rx_of_sub (fun hsub => ?_)
  have htl : ∀ q ∈ tl, q ∈ cod := fun q hq => hsub q (List.mem_cons_of_mem _ hq)
  obtain ⟨s1, s2, s3, s4, s5, s6⟩ := id hs
  cases hb : Nat.beq b 1 with
  | true =>
    rw [hb, fx_if_t] at ee
    rcases stk with _ | ⟨v, stk⟩
    · cases ee
    obtain ⟨w, cst, rfl, g1, g2⟩ := ai_vl_cons s3
    obtain ⟨m, lo, hi, rfl, hm, h1, h2, ee, -⟩ := ai_rng_ok g1 s5 ee
    obtain ⟨-, e2⟩ := fx_and ee
    obtain ⟨J', j1, j2⟩ := ai_each_ok s5 g1 e2 h1 (by omega)
    obtain ⟨r, t, rfl, q1, q2⟩ := fx_nx_ok j1
    exact rx_skip q1 (hih.2 _ _ _ _ _ _ _ _ _ _ _ q2 h0 K ρ hk cloc _ h ⟨s1, s2, s3, s4, j2, s6⟩ hf hc)
  | false =>
    rw [hb, fx_if_f] at ee
    rcases stk with _ | ⟨v, stk⟩
    · have := ai_vl_nil s3
      subst this
      obtain ⟨e1, e2⟩ := fx_and (a := (!inl && Nat.blt (E.2.2.2.2.2 pc).length 64)) ee
      obtain ⟨e3, e4⟩ := fx_and e1
      have hi : inl = false := by simpa using e3
      subst hi
      obtain ⟨r, t, rfl, q1, q2⟩ := fx_nx_ok e2
      exact rx_skip q1 (ai_pick_ok hih hk (hc rfl) hs hf htl q1 (E.2.2.2.2.2 pc) 0 (by have := fx_blt e4; omega) (fun j A hj => by rw [Nat.zero_add]; exact hj) q2)
    · cases ee
theorem ai_s9 (hXX : fx_xx X B) (hma : fx_mall fx_mst fx_mt) (hwd : fx_wd) (hwa : rx_wa) (hih : ai_snd l X Y B E P ih) (hcon : ∀ c I, I ∈ E.2.1 c → ai_con l X Y B E.1 P c I) {d : Nat} {cod tl : List fx_I} {loc F : fx_L} {stk : List fx_V} {J : ai_J} {n : Nat} {h0 : fx_H} {K : rx_K} {ρ : List Nat} {cloc : fx_L} {cstk : List fx_V} {h : fx_H} {pc a b c : Nat} {go : ai_O} (hgo : ai_gok l X Y B E P h0 d cod K ρ go) (hs : ai_st E.1 ρ loc stk F J n cloc cstk h) (hf : ai_hf E P h0 h) (ee : (Nat.blt a 5 && ai_call E ih d (fun stk F J n => fx_nx (fun t => go t loc stk F J n) pc 3 tl) c stk F J n) = true) : rx_run l X Y B d cod ((pc, 9, a, b, c) :: tl) cloc cstk h K := by
  obtain ⟨e0, ee⟩ := fx_and ee
  have ha5 := fx_blt e0
  obtain ⟨s1, s2, s3, s4, s5, s6⟩ := id hs
  unfold ai_call at ee
  cases d with
  | zero => cases ee
  | succ d =>
    simp only at ee
    cases hm : fx_mt c with
    | none => rw [hm] at ee; cases ee
    | some M =>
      obtain ⟨cod', na, mc, ms, t, nl⟩ := M
      rw [hm] at ee
      simp only at ee
      cases hsp : fx_split na stk with
      | none => rw [hsp] at ee; cases ee
      | some q =>
        obtain ⟨as, st⟩ := q
        rw [hsp] at ee
        simp only at ee
        obtain ⟨e1, e2⟩ := fx_and ee
        obtain ⟨e3, e4⟩ := fx_and e1
        obtain ⟨e5, e6⟩ := fx_and e4
        obtain ⟨e7, e8⟩ := fx_and e6
        obtain ⟨e9, e10⟩ := fx_and e8
        have e3 := fx_ble e3
        have e5 := fx_beq e5
        have e7 := fx_beq e7
        have e9 := fx_ble e9
        obtain ⟨cas, cst, p1, p2, p3⟩ := ai_split s3 hsp
        have hrc : fx_rcv t h cas = true := by
          unfold ai_rcv at e10
          unfold fx_rcv
          cases h00 : Nat.beq t 0 with
          | true => rfl
          | false =>
            rw [h00, fx_if_f] at e10
            rw [fx_if_f]
            rcases as with _ | ⟨v, as⟩
            · cases e10
            rcases v with m | m | (_ | r) | m
            · cases e10
            · cases e10
            · cases e10
            · obtain ⟨w, cas', rfl, k1, k2⟩ := ai_vl_cons p2
              have := ai_isref k1
              subst this
              simp only at e10 ⊢
              cases h99 : Nat.beq t 99 with
              | true =>
                rw [h99, fx_if_t] at e10
                have h1 : Nat.beq t 1 = false := by rw [fx_beq h99]; rfl
                rw [h1, fx_if_f, fx_if_t, e10]
                exact Bool.or_true _
              | false =>
                rw [h99, fx_if_f] at e10
                cases hc : ai_cell E.1 r with
                | none => rw [hc] at e10; cases e10
                | some q =>
                  rw [hc] at e10
                  rcases q with ⟨ci, fs⟩ | q
                  · obtain ⟨e11, e12⟩ := fx_and (a := Nat.beq (ci + 2) t) e10
                    have e12 := fx_ble e12
                    obtain ⟨ws, k3, -⟩ := ai_obj s6 hc
                    have h1 : Nat.beq t 1 = false := by
                      cases hb : Nat.beq t 1 with
                      | true => have := fx_beq hb; omega
                      | false => rfl
                    rw [h1, fx_if_f, fx_if_f, k3]
                    exact e11
                  · cases e10
            · cases e10
        have cont : ∀ (v' : Option fx_V) (w : Option fx_V) (F' : fx_L) (J' : ai_J) (n' : Nat) (τ : List Nat) (h' : fx_H), fx_nx (fun t => go t loc (fx_ret st v') F' J' n') pc 3 tl = true → (ρ ++ τ).length = n' → ai_l (ρ ++ τ) F' (ai_pl h') → ai_j (ρ ++ τ) J' → ai_vo (ρ ++ τ) v' w → ai_inv E.1 h' → ai_hf E P h0 h' → rx_nx l X Y B (d + 1) cod K pc 3 tl cloc (fx_ret cst w) h' := fun v' w F' J' n' τ h' q1 q2 q3 q4 q5 q6 q7 => by
          refine ai_nx hgo q1 ⟨q2, s2.ext, ?_, q3, q4, q6⟩ q7
          cases v' with
          | none => cases w with
            | none => exact p3.ext
            | some w => exact False.elim q5
          | some v' => cases w with
            | none => exact False.elim q5
            | some w => exact ⟨q5, p3.ext⟩
        have hnl : fx_cats cas ≤ nl := by rw [ai_vl_cats p2]; exact e9
        have h8 : fx_cats cst ≤ 8 := by rw [ai_vl_cats p3]; exact e3
        cases hin : E.2.2.1 c with
        | true =>
          rw [hin, fx_if_t] at e2
          have hne : cod' ≠ [] := fun q => by
            subst q
            rw [hih.1] at e2
            cases e2
          refine rx_call (M := (cod', na, mc, ms, t, nl)) hXX hma hm p1 h8 e5 e7 hne hnl hrc ha5 (Kc := fun w h' => ∃ v' F' J' n' τ, fx_nx (fun t => go t loc (fx_ret st v') F' J' n') pc 3 tl = true ∧ (ρ ++ τ).length = n' ∧ ai_l (ρ ++ τ) F' (ai_pl h') ∧ ai_j (ρ ++ τ) J' ∧ ai_vo (ρ ++ τ) v' w ∧ ai_inv E.1 h' ∧ ai_hf E P h0 h') ?_ ?_
          · intro M hM
            rw [hm] at hM
            cases hM
            refine ⟨cod', fun q hq _ => hq, hne, rfl, ?_⟩
            refine hih.2 d true cod' cod' (fx_args as 0) [] F J n [] _ e2 h0 _ ρ ?_ (fx_args cas 0) [] h ⟨s1, ai_args_ok 0 p2, trivial, s4, s5, s6⟩ hf (fun q => by cases q)
            intro v' F' J' n' ρ' w h' q0 q1 q2 q3 q4 q5 q6 q7
            obtain ⟨τ, rfl⟩ := q0 rfl
            exact ⟨v', F', J', n', τ, q1, q3, q4, q5, q2, q6, q7⟩
          · rintro w h' ⟨v', F', J', n', τ, q1, q2, q3, q4, q5, q6, q7⟩
            exact cont v' w F' J' n' τ h' q1 q2 q3 q4 q5 q6 q7
        | false =>
          rw [hin, fx_if_f] at e2
          obtain ⟨e2a, e2⟩ := fx_and e2
          obtain ⟨I, hI, e2⟩ := fx_has_ok e2
          obtain ⟨f1, f2⟩ := fx_and e2
          obtain ⟨f3, f4⟩ := fx_and f1
          obtain ⟨f5, f6⟩ := fx_and f3
          obtain ⟨f7, f8⟩ := fx_and f4
          obtain ⟨f9, f10⟩ := fx_and f8
          have f7 := fx_ble f7
          have hargs := ai_fits_ok s5 p2 f5
          have hpre : ∀ q ∈ I.1.2, ai_at h q := fun q hq => ai_has_ok s6 s4 s5 (fx_all_ok f6 q hq)
          have hcall := hcon c I hI cas h hargs hpre s6 hf.2
          have hne : cod' ≠ [] := fun q => by
            rw [q] at e2a
            cases e2a
          refine rx_call (M := (cod', na, mc, ms, t, nl)) hXX hma hm p1 h8 e5 e7 hne hnl hrc ha5 (rx_met_deep f7 hcall) ?_
          rintro w h' ⟨r1, r2, r3, r4, r5⟩
          have f2 := ai_keep_ok f2
          have hk2 := ai_l_keep s4 r4
          obtain ⟨F1, J1, n1, τ1, t1, t2, t3, t4⟩ := ai_tell_ok r2 s1 hk2 s5 f2
          obtain ⟨v', J2, n2, τ2, u1, u2, u3, u4⟩ := ai_ans_ok r1 t2 t4 t1
          rw [List.append_assoc] at u2 u3 u4
          have t3' := t3.ext (τ := τ2)
          rw [List.append_assoc] at t3'
          exact cont v' w F1 J2 n2 (τ1 ++ τ2) h' u1 u2 t3' u3 u4 r3 ⟨ai_fr_trans hf.1 (ai_fr_sub r4 (fun p hp => fx_all_ok f9 p hp) (fun p hp => fx_all_ok f10 p hp)), r5⟩
end AIM
end
section
section AIN
variable {l : Launch} {X : fx_X} {Y : fx_Y} {B : fx_B} {E : ai_E} {P : fx_H → Prop} {ih : ai_G}
set_option maxHeartbeats 4000000 in
theorem ai_step_ok (hXX : fx_xx X B) (hma : fx_mall fx_mst fx_mt) (hwd : fx_wd) (hwa : rx_wa) (hcon : ∀ c I, I ∈ E.2.1 c → ai_con l X Y B E.1 P c I) (hPm : ∀ h h', P h → ai_fr E.2.2.2.2.1 h h' → P h') (hih : ai_snd l X Y B E P ih) : ai_snd l X Y B E P (ai_step E ih) := by
  refine ⟨fun d inl cod loc stk F J n ctx k => rfl, ?_⟩
  intro d inl cod at_ loc stk F J n ctx k ee h0 K ρ hk cloc cstk h hs hf hc
  rcases at_ with _ | ⟨⟨pc, kd, a, b, c⟩, tl⟩
  · cases ee
  have hgo := ai_gok_of hih hk hc
  have ee : ai_one E ih (fun t loc stk F J n => ih d inl cod t loc stk F J n ctx k) d inl cod pc kd a b c tl loc stk F J n ctx k = true := ee
  generalize (fun t loc stk F J n => ih d inl cod t loc stk F J n ctx k : ai_O) = go at hgo ee
  rcases Nat.lt_or_ge kd 32 with hkd | hkd
  · rcases (by omega : kd = 0 ∨ kd = 1 ∨ kd = 2 ∨ kd = 3 ∨ kd = 4 ∨ kd = 5 ∨ kd = 6 ∨ kd = 7 ∨ kd = 8 ∨ kd = 9 ∨ kd = 10 ∨ kd = 11 ∨ kd = 12 ∨ kd = 13 ∨ kd = 14 ∨ kd = 15 ∨ kd = 16 ∨ kd = 17 ∨ kd = 18 ∨ kd = 19 ∨ kd = 20 ∨ kd = 21 ∨ kd = 22 ∨ kd = 23 ∨ kd = 24 ∨ kd = 25 ∨ kd = 26 ∨ kd = 27 ∨ kd = 28 ∨ kd = 29 ∨ kd = 30 ∨ kd = 31) with rfl | rfl | rfl | rfl | rfl | rfl | rfl | rfl | rfl | rfl | rfl | rfl | rfl | rfl | rfl | rfl | rfl | rfl | rfl | rfl | rfl | rfl | rfl | rfl | rfl | rfl | rfl | rfl | rfl | rfl | rfl | rfl
    · exact ai_s0 hXX hma hwd hgo ee hs hf
    · exact ai_s1 hXX hma hwd hgo ee hs hf
    · exact ai_s2 hXX hma hwd hgo ee hs hf
    · exact ai_s3 hXX hma hwd hgo ee hs hf
    · exact ai_s4 hXX hma hwd hgo ee hs hf
    · exact ai_s5 hXX hma hwd hgo ee hs hf
    · refine ai_s6 hXX hma hwd hgo ee hs hf (fun m st e1 e2 e3 e4 => ?_)
      subst e1; subst e4
      exact rx_ld2 e2 e3
    · exact ai_s7 hXX hma hwd hgo ee hs hf
    · exact ai_s8 hXX hma hwd hPm hgo ee hs hf
    · exact ai_s9 hXX hma hwd hwa hih hcon hgo hs hf ee
    · exact ai_s10 hXX hma hwd hk ee hs hf
    · exact ai_s11 hXX hma hwd hgo ee hs hf
    · exact ai_s12 hXX hma hwd hgo ee hs hf
    · exact ai_s13 hXX hma hwd hgo ee hs hf
    · exact ai_s14 hXX hma hwd hPm hgo ee hs hf
    · exact ai_s15 hXX hma hwd hgo ee hs hf
    · have ee : false = true := ee
      cases ee
    · have ee : false = true := ee
      cases ee
    · exact ai_s18 hXX hma hwd hgo ee hs hf
    · exact ai_s19 hXX hma hwd hgo ee hs hf
    · exact ai_s20 hXX hma hwd (Or.inl rfl) hgo ee hs hf
    · exact ai_s20 hXX hma hwd (Or.inr rfl) hgo ee hs hf
    · have ee : false = true := ee
      cases ee
    · exact ai_s23 hXX hma hwd hPm hgo ee hs hf
    · exact ai_s24 hXX hma hwd hgo ee hs hf
    · exact ai_s25 hXX hma hwd hgo ee hs hf
    · exact ai_s26 hXX hma hwd hgo ee hs hf
    · exact ai_s27 hXX hma hwd hgo ee hs hf
    · exact ai_s28 hXX hma hwd hwa hih hk hc hs hf ee
    · exact ai_s29 hXX hma hwd hwa hgo ee hs hf
    · exact ai_s30 hXX hma hwd hgo ee hs hf
    · exact ai_s31 hXX hma hwd hgo ee hs hf
  · obtain ⟨q, rfl⟩ : ∃ q, kd = q + 32 := ⟨kd - 32, by omega⟩
    have ee : false = true := ee
    cases ee
theorem ai_go_ok (hXX : fx_xx X B) (hma : fx_mall fx_mst fx_mt) (hwd : fx_wd) (hwa : rx_wa) (hcon : ∀ c I, I ∈ E.2.1 c → ai_con l X Y B E.1 P c I) (hPm : ∀ h h', P h → ai_fr E.2.2.2.2.1 h h' → P h') : ∀ n, ai_snd l X Y B E P (ai_go E n) := by
  intro n
  induction n with
  | zero => exact ⟨fun d inl cod loc stk F J n ctx k => rfl, fun d inl cod at_ loc stk F J n ctx k ee => by cases ee⟩
  | succ n ih => exact ai_step_ok hXX hma hwd hwa hcon hPm ih
theorem ai_aug_ok {cs : List (Nat × Nat)} : ∀ {cod : List fx_I} {q : fx_I}, q ∈ ai_aug cs cod → q.2.1 ≠ 28 → q ∈ cod := by
  intro cod
  induction cod with
  | nil => intro q hq; cases hq
  | cons x cod ih =>
    intro q hq hk
    have hq : q ∈ (match fx_look cs x.1 with
      | some b => (x.1, 28, 0, b, 0) :: x :: ai_aug cs cod
      | none => x :: ai_aug cs cod) := hq
    cases hl : fx_look cs x.1 with
    | some b =>
      rw [hl] at hq
      rcases List.mem_cons.mp hq with rfl | hq
      · exact absurd rfl hk
      · rcases List.mem_cons.mp hq with rfl | hq
        · exact List.mem_cons_self
        · exact List.mem_cons_of_mem _ (ih hq hk)
    | none =>
      rw [hl] at hq
      rcases List.mem_cons.mp hq with rfl | hq
      · exact List.mem_cons_self
      · exact List.mem_cons_of_mem _ (ih hq hk)
theorem ai_aug_pc {cs : List (Nat × Nat)} {cod : List fx_I} : fx_pc (ai_aug cs cod) = fx_pc cod := by
  cases cod with
  | nil => rfl
  | cons x cod =>
    show fx_pc (match fx_look cs x.1 with
      | some b => (x.1, 28, 0, b, 0) :: x :: ai_aug cs cod
      | none => x :: ai_aug cs cod) = x.1
    cases fx_look cs x.1 <;> rfl
theorem ai_begin_ok {k : List fx_V → ai_J → Nat → Bool} : ∀ {ss : List ai_S} {ws : List fx_V} {J : ai_J} {n : Nat} {ρ : List Nat}, ai_as ss ws → ρ.length = n → ai_j ρ J → ai_begin ss n J k = true → ∃ vs J' n' τ, k vs J' n' = true ∧ (ρ ++ τ).length = n' ∧ ai_j (ρ ++ τ) J' ∧ ai_vl (ρ ++ τ) vs ws := by
  intro ss
  induction ss generalizing k with
  | nil =>
    intro ws J n ρ h h1 h2 e
    cases ws with
    | nil => exact ⟨[], J, n, [], e, by rw [List.append_nil]; exact h1, by rw [List.append_nil]; exact h2, trivial⟩
    | cons w ws => exact False.elim h
  | cons s ss ih =>
    intro ws J n ρ h h1 h2 e
    cases ws with
    | nil => exact False.elim h
    | cons w ws =>
      obtain ⟨g1, g2⟩ := h
      rcases s with ⟨lo, hi⟩ | v
      · have e : ai_var J n lo hi 0 0 (fun v J n => ai_begin ss n J (fun vs J n => k (v :: vs) J n)) = true := e
        obtain ⟨m, rfl, m1, m2, m3⟩ := g1
        obtain ⟨v, J', n', k1, k2, k3, k4⟩ := ai_var_ok h1 h2 e (rx_b_lt m) m2 m3 (fun q => absurd rfl q)
        rw [ai_b_b m1] at k4
        obtain ⟨vs, J2, n2, τ, j1, j2, j3, j4⟩ := ih g2 k2 k3 k1
        have k5 := k4.ext (τ := τ)
        rw [List.append_assoc] at j2 j3 j4 k5
        exact ⟨_, J2, n2, _, j1, j2, j3, k5, j4⟩
      · have e : ai_begin ss n J (fun vs J n => k (v :: vs) J n) = true := e
        obtain ⟨vs, J2, n2, τ, j1, j2, j3, j4⟩ := ih g2 h1 h2 e
        have g1 : ai_v ([] ++ (ρ ++ τ)) v w := (show ai_v [] v w from g1).ext
        exact ⟨_, J2, n2, τ, j1, j2, j3, g1, j4⟩
/-- a case that is checked gives its contract -/
theorem ai_inst_ok (hXX : fx_xx X B) (hma : fx_mall fx_mst fx_mt) (hwd : fx_wd) (hwa : rx_wa) (hcon : ∀ c I, I ∈ E.2.1 c → ai_con l X Y B E.1 P c I) (hPm : ∀ h h', P h → ai_fr E.2.2.2.2.1 h h' → P h') {f c : Nat} {cs : List (Nat × Nat)} {I : ai_I} (hm : E.2.2.2.1 = I.2.2.1) (ee : ai_inst E f c cs I = true) : ai_con l X Y B E.1 P c I := by
  intro ws h h1 h2 h3 h4 M hM
  unfold ai_inst at ee
  rw [hM] at ee
  simp only at ee
  obtain ⟨vs, J, n, τ, k1, k2, k3, k4⟩ := ai_begin_ok (ρ := []) h1 rfl (fun q hq => by cases hq) ee
  obtain ⟨F, J2, n2, τ2, j1, j2, j3, j4⟩ := ai_tell_ok h2 k2 (fun i v hv => by cases hv) k3 k1
  have hsnd := ai_go_ok hXX hma hwd hwa hcon hPm f
  have hne : ai_aug cs M.1 ≠ [] := fun q => by
    rw [q, hsnd.1] at j1
    cases j1
  refine ⟨ai_aug cs M.1, fun q hq hk => ai_aug_ok hq hk, hne, ai_aug_pc, ?_⟩
  refine hsnd.2 _ _ _ _ _ _ _ _ _ _ _ j1 h _ ([] ++ τ ++ τ2) ?_ (fx_args ws 0) [] h ⟨j2, ai_args_ok 0 k4.ext, trivial, j3, j4, h3⟩ ⟨ai_fr_refl, h4⟩ (fun _ => ⟨Nat.zero_le _, fun g x hx => by simp at hx⟩)
  intro v F' J' n' ρ' w h' _ q1 q2 q3 q4 q5 q6 q7
  unfold ai_end at q1
  obtain ⟨q8, q9⟩ := fx_and q1
  refine ⟨?_, fun q hq => ai_has_ok q6 q4 q5 (fx_all_ok q9 q hq), q6, by rw [← hm]; exact q7.1, q7.2⟩
  cases hr : I.2.1.1 with
  | none =>
    rw [hr] at q8
    cases v with
    | none => cases w with
      | none => trivial
      | some w => exact False.elim q2
    | some v => cases q8
  | some s =>
    rw [hr] at q8
    cases v with
    | none => cases q8
    | some v => cases w with
      | none => exact False.elim q2
      | some w => exact ai_fit_ok q5 q2 q8
end AIN
end
