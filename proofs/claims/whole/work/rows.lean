section
-- ===== PART A: goes FIRST, ahead of the names: the tables' words, and 'selects' of the private methods out of them =====
/-- a private method of a class that the tables say can be made, by its rows of tables_1 -/
def lw_okq (q : MethodName × Nat) : Prop := (q.1.cls ≠ "java/lang/invoke/MethodHandle" ∧ q.1.cls ≠ "java/lang/invoke/VarHandle") ∧ Cond.instantiable q.1.cls q.2 ∈ tables_1 ∧ Cond.privateMethod q.1 ∈ tables_1 ∧ Cond.instanceMethod q.1 ∈ tables_1
theorem lw_p0 : lw_okq (⟨"BareThursday", "finding", "(I)I"⟩, 7) := ⟨⟨by decide +kernel, by decide +kernel⟩, List.mem_of_getElem? (i := 16) (by decide +kernel), List.mem_of_getElem? (i := 147) (by decide +kernel), List.mem_of_getElem? (i := 148) (by decide +kernel)⟩
theorem lw_p1 : lw_okq (⟨"BareThursday$Town", "isSetOfOthers", "(II)Z"⟩, 12) := ⟨⟨by decide +kernel, by decide +kernel⟩, List.mem_of_getElem? (i := 24) (by decide +kernel), List.mem_of_getElem? (i := 208) (by decide +kernel), List.mem_of_getElem? (i := 209) (by decide +kernel)⟩
theorem lw_p2 : lw_okq (⟨"BareThursday$Town", "seeEachOther", "(II)V"⟩, 12) := ⟨⟨by decide +kernel, by decide +kernel⟩, List.mem_of_getElem? (i := 24) (by decide +kernel), List.mem_of_getElem? (i := 298) (by decide +kernel), List.mem_of_getElem? (i := 299) (by decide +kernel)⟩
theorem lw_p3 : lw_okq (⟨"BareThursday$Town", "comeToKnow", "(II)V"⟩, 12) := ⟨⟨by decide +kernel, by decide +kernel⟩, List.mem_of_getElem? (i := 24) (by decide +kernel), List.mem_of_getElem? (i := 304) (by decide +kernel), List.mem_of_getElem? (i := 305) (by decide +kernel)⟩
theorem lw_p4 : lw_okq (⟨"BareThursday$Town", "goBy", "(I)V"⟩, 12) := ⟨⟨by decide +kernel, by decide +kernel⟩, List.mem_of_getElem? (i := 24) (by decide +kernel), List.mem_of_getElem? (i := 308) (by decide +kernel), List.mem_of_getElem? (i := 309) (by decide +kernel)⟩
theorem lw_p5 : lw_okq (⟨"BareThursday$Town", "mingle", "(II)V"⟩, 12) := ⟨⟨by decide +kernel, by decide +kernel⟩, List.mem_of_getElem? (i := 24) (by decide +kernel), List.mem_of_getElem? (i := 312) (by decide +kernel), List.mem_of_getElem? (i := 313) (by decide +kernel)⟩
theorem lw_p6 : lw_okq (⟨"BareThursday$Town", "mutualPairs", "([I)I"⟩, 12) := ⟨⟨by decide +kernel, by decide +kernel⟩, List.mem_of_getElem? (i := 24) (by decide +kernel), List.mem_of_getElem? (i := 333) (by decide +kernel), List.mem_of_getElem? (i := 334) (by decide +kernel)⟩
theorem lw_p7 : lw_okq (⟨"BareThursday", "mostJoyous", "(IIII)I"⟩, 7) := ⟨⟨by decide +kernel, by decide +kernel⟩, List.mem_of_getElem? (i := 16) (by decide +kernel), List.mem_of_getElem? (i := 385) (by decide +kernel), List.mem_of_getElem? (i := 386) (by decide +kernel)⟩
theorem lw_p8 : lw_okq (⟨"BareThursday", "staysJoyless", "(II)Z"⟩, 7) := ⟨⟨by decide +kernel, by decide +kernel⟩, List.mem_of_getElem? (i := 16) (by decide +kernel), List.mem_of_getElem? (i := 403) (by decide +kernel), List.mem_of_getElem? (i := 404) (by decide +kernel)⟩
theorem lw_p9 : lw_okq (⟨"BareThursday", "fitting", "(IIII)I"⟩, 7) := ⟨⟨by decide +kernel, by decide +kernel⟩, List.mem_of_getElem? (i := 16) (by decide +kernel), List.mem_of_getElem? (i := 423) (by decide +kernel), List.mem_of_getElem? (i := 424) (by decide +kernel)⟩
theorem lw_p10 : lw_okq (⟨"BareThursday", "meetsAsTold", "(II)Z"⟩, 7) := ⟨⟨by decide +kernel, by decide +kernel⟩, List.mem_of_getElem? (i := 16) (by decide +kernel), List.mem_of_getElem? (i := 431) (by decide +kernel), List.mem_of_getElem? (i := 432) (by decide +kernel)⟩
theorem lw_p11 : lw_okq (⟨"BareThursday$Tape", "nextToken", "()V"⟩, 6) := ⟨⟨by decide +kernel, by decide +kernel⟩, List.mem_of_getElem? (i := 77) (by decide +kernel), List.mem_of_getElem? (i := 503) (by decide +kernel), List.mem_of_getElem? (i := 504) (by decide +kernel)⟩
theorem lw_p12 : lw_okq (⟨"BareThursday$Tape", "passWord", "()V"⟩, 6) := ⟨⟨by decide +kernel, by decide +kernel⟩, List.mem_of_getElem? (i := 77) (by decide +kernel), List.mem_of_getElem? (i := 510) (by decide +kernel), List.mem_of_getElem? (i := 511) (by decide +kernel)⟩
theorem lw_p13 : lw_okq (⟨"BareThursday$Tape", "passNumber", "()V"⟩, 6) := ⟨⟨by decide +kernel, by decide +kernel⟩, List.mem_of_getElem? (i := 77) (by decide +kernel), List.mem_of_getElem? (i := 517) (by decide +kernel), List.mem_of_getElem? (i := 518) (by decide +kernel)⟩
theorem lw_p14 : lw_okq (⟨"BareThursday$Tape", "readItem", "(LBareThursday$Town;)Z"⟩, 6) := ⟨⟨by decide +kernel, by decide +kernel⟩, List.mem_of_getElem? (i := 77) (by decide +kernel), List.mem_of_getElem? (i := 522) (by decide +kernel), List.mem_of_getElem? (i := 523) (by decide +kernel)⟩
theorem lw_p15 : lw_okq (⟨"BareThursday$Tape", "kindOfWord", "()I"⟩, 6) := ⟨⟨by decide +kernel, by decide +kernel⟩, List.mem_of_getElem? (i := 77) (by decide +kernel), List.mem_of_getElem? (i := 526) (by decide +kernel), List.mem_of_getElem? (i := 527) (by decide +kernel)⟩
def lw_privs_1 : List (MethodName × Nat) := [(⟨"BareThursday", "finding", "(I)I"⟩, 7), (⟨"BareThursday$Town", "isSetOfOthers", "(II)Z"⟩, 12), (⟨"BareThursday$Town", "seeEachOther", "(II)V"⟩, 12), (⟨"BareThursday$Town", "comeToKnow", "(II)V"⟩, 12), (⟨"BareThursday$Town", "goBy", "(I)V"⟩, 12), (⟨"BareThursday$Town", "mingle", "(II)V"⟩, 12), (⟨"BareThursday$Town", "mutualPairs", "([I)I"⟩, 12), (⟨"BareThursday", "mostJoyous", "(IIII)I"⟩, 7), (⟨"BareThursday", "staysJoyless", "(II)Z"⟩, 7), (⟨"BareThursday", "fitting", "(IIII)I"⟩, 7), (⟨"BareThursday", "meetsAsTold", "(II)Z"⟩, 7), (⟨"BareThursday$Tape", "nextToken", "()V"⟩, 6), (⟨"BareThursday$Tape", "passWord", "()V"⟩, 6), (⟨"BareThursday$Tape", "passNumber", "()V"⟩, 6), (⟨"BareThursday$Tape", "readItem", "(LBareThursday$Town;)Z"⟩, 6), (⟨"BareThursday$Tape", "kindOfWord", "()I"⟩, 6)]
theorem lw_r1 : ∀ q ∈ lw_privs_1, lw_okq q := List.forall_mem_cons.mpr ⟨lw_p0, List.forall_mem_cons.mpr ⟨lw_p1, List.forall_mem_cons.mpr ⟨lw_p2, List.forall_mem_cons.mpr ⟨lw_p3, List.forall_mem_cons.mpr ⟨lw_p4, List.forall_mem_cons.mpr ⟨lw_p5, List.forall_mem_cons.mpr ⟨lw_p6, List.forall_mem_cons.mpr ⟨lw_p7, List.forall_mem_cons.mpr ⟨lw_p8, List.forall_mem_cons.mpr ⟨lw_p9, List.forall_mem_cons.mpr ⟨lw_p10, List.forall_mem_cons.mpr ⟨lw_p11, List.forall_mem_cons.mpr ⟨lw_p12, List.forall_mem_cons.mpr ⟨lw_p13, List.forall_mem_cons.mpr ⟨lw_p14, List.forall_mem_cons.mpr ⟨lw_p15, fun _ h => absurd h List.not_mem_nil⟩⟩⟩⟩⟩⟩⟩⟩⟩⟩⟩⟩⟩⟩⟩⟩
theorem lw_p16 : lw_okq (⟨"BareThursday$Tape", "isWord", "(Ljava/lang/String;)Z"⟩, 6) := ⟨⟨by decide +kernel, by decide +kernel⟩, List.mem_of_getElem? (i := 77) (by decide +kernel), List.mem_of_getElem? (i := 531) (by decide +kernel), List.mem_of_getElem? (i := 532) (by decide +kernel)⟩
theorem lw_p17 : lw_okq (⟨"BareThursday$Tape", "readOne", "(ILBareThursday$Town;)Z"⟩, 6) := ⟨⟨by decide +kernel, by decide +kernel⟩, List.mem_of_getElem? (i := 77) (by decide +kernel), List.mem_of_getElem? (i := 589) (by decide +kernel), List.mem_of_getElem? (i := 590) (by decide +kernel)⟩
theorem lw_p18 : lw_okq (⟨"BareThursday$Tape", "isNumberBelow", "(I)Z"⟩, 6) := ⟨⟨by decide +kernel, by decide +kernel⟩, List.mem_of_getElem? (i := 77) (by decide +kernel), List.mem_of_getElem? (i := 595) (by decide +kernel), List.mem_of_getElem? (i := 596) (by decide +kernel)⟩
theorem lw_p19 : lw_okq (⟨"BareThursday$Tape", "readMet", "(LBareThursday$Town;)Z"⟩, 6) := ⟨⟨by decide +kernel, by decide +kernel⟩, List.mem_of_getElem? (i := 77) (by decide +kernel), List.mem_of_getElem? (i := 604) (by decide +kernel), List.mem_of_getElem? (i := 605) (by decide +kernel)⟩
theorem lw_p20 : lw_okq (⟨"BareThursday$Tape", "readBell", "(LBareThursday$Town;)Z"⟩, 6) := ⟨⟨by decide +kernel, by decide +kernel⟩, List.mem_of_getElem? (i := 77) (by decide +kernel), List.mem_of_getElem? (i := 614) (by decide +kernel), List.mem_of_getElem? (i := 615) (by decide +kernel)⟩
theorem lw_p21 : lw_okq (⟨"BareThursdayModel", "no", "(I)I"⟩, 18) := ⟨⟨by decide +kernel, by decide +kernel⟩, List.mem_of_getElem? (i := 709) (by decide +kernel), List.mem_of_getElem? (i := 781) (by decide +kernel), List.mem_of_getElem? (i := 782) (by decide +kernel)⟩
theorem lw_p22 : lw_okq (⟨"BareThursdayModel", "adds", "(I)V"⟩, 18) := ⟨⟨by decide +kernel, by decide +kernel⟩, List.mem_of_getElem? (i := 709) (by decide +kernel), List.mem_of_getElem? (i := 786) (by decide +kernel), List.mem_of_getElem? (i := 787) (by decide +kernel)⟩
theorem lw_p23 : lw_okq (⟨"BareThursdayModel", "puts", "(III)V"⟩, 18) := ⟨⟨by decide +kernel, by decide +kernel⟩, List.mem_of_getElem? (i := 709) (by decide +kernel), List.mem_of_getElem? (i := 790) (by decide +kernel), List.mem_of_getElem? (i := 791) (by decide +kernel)⟩
theorem lw_p24 : lw_okq (⟨"BareThursdayModel", "isPerson", "(I)Z"⟩, 18) := ⟨⟨by decide +kernel, by decide +kernel⟩, List.mem_of_getElem? (i := 709) (by decide +kernel), List.mem_of_getElem? (i := 798) (by decide +kernel), List.mem_of_getElem? (i := 799) (by decide +kernel)⟩
theorem lw_p25 : lw_okq (⟨"BareThursdayModel", "walksOf", "(I)I"⟩, 18) := ⟨⟨by decide +kernel, by decide +kernel⟩, List.mem_of_getElem? (i := 709) (by decide +kernel), List.mem_of_getElem? (i := 802) (by decide +kernel), List.mem_of_getElem? (i := 803) (by decide +kernel)⟩
theorem lw_p26 : lw_okq (⟨"BareThursdayModel", "get", "(II)I"⟩, 18) := ⟨⟨by decide +kernel, by decide +kernel⟩, List.mem_of_getElem? (i := 709) (by decide +kernel), List.mem_of_getElem? (i := 806) (by decide +kernel), List.mem_of_getElem? (i := 807) (by decide +kernel)⟩
theorem lw_p27 : lw_okq (⟨"BareThursdayModel", "isBare", "()Z"⟩, 18) := ⟨⟨by decide +kernel, by decide +kernel⟩, List.mem_of_getElem? (i := 709) (by decide +kernel), List.mem_of_getElem? (i := 810) (by decide +kernel), List.mem_of_getElem? (i := 811) (by decide +kernel)⟩
theorem lw_p28 : lw_okq (⟨"BareThursdayModel", "shiftsOf", "(I)I"⟩, 18) := ⟨⟨by decide +kernel, by decide +kernel⟩, List.mem_of_getElem? (i := 709) (by decide +kernel), List.mem_of_getElem? (i := 814) (by decide +kernel), List.mem_of_getElem? (i := 815) (by decide +kernel)⟩
theorem lw_p29 : lw_okq (⟨"BareThursdayModel", "shinesOf", "(I)I"⟩, 18) := ⟨⟨by decide +kernel, by decide +kernel⟩, List.mem_of_getElem? (i := 709) (by decide +kernel), List.mem_of_getElem? (i := 818) (by decide +kernel), List.mem_of_getElem? (i := 819) (by decide +kernel)⟩
theorem lw_p30 : lw_okq (⟨"BareThursdayModel", "gladdensOf", "(I)I"⟩, 18) := ⟨⟨by decide +kernel, by decide +kernel⟩, List.mem_of_getElem? (i := 709) (by decide +kernel), List.mem_of_getElem? (i := 822) (by decide +kernel), List.mem_of_getElem? (i := 823) (by decide +kernel)⟩
theorem lw_p31 : lw_okq (⟨"BareThursdayModel", "canBe", "(III)Z"⟩, 18) := ⟨⟨by decide +kernel, by decide +kernel⟩, List.mem_of_getElem? (i := 709) (by decide +kernel), List.mem_of_getElem? (i := 833) (by decide +kernel), List.mem_of_getElem? (i := 834) (by decide +kernel)⟩
def lw_privs_2 : List (MethodName × Nat) := [(⟨"BareThursday$Tape", "isWord", "(Ljava/lang/String;)Z"⟩, 6), (⟨"BareThursday$Tape", "readOne", "(ILBareThursday$Town;)Z"⟩, 6), (⟨"BareThursday$Tape", "isNumberBelow", "(I)Z"⟩, 6), (⟨"BareThursday$Tape", "readMet", "(LBareThursday$Town;)Z"⟩, 6), (⟨"BareThursday$Tape", "readBell", "(LBareThursday$Town;)Z"⟩, 6), (⟨"BareThursdayModel", "no", "(I)I"⟩, 18), (⟨"BareThursdayModel", "adds", "(I)V"⟩, 18), (⟨"BareThursdayModel", "puts", "(III)V"⟩, 18), (⟨"BareThursdayModel", "isPerson", "(I)Z"⟩, 18), (⟨"BareThursdayModel", "walksOf", "(I)I"⟩, 18), (⟨"BareThursdayModel", "get", "(II)I"⟩, 18), (⟨"BareThursdayModel", "isBare", "()Z"⟩, 18), (⟨"BareThursdayModel", "shiftsOf", "(I)I"⟩, 18), (⟨"BareThursdayModel", "shinesOf", "(I)I"⟩, 18), (⟨"BareThursdayModel", "gladdensOf", "(I)I"⟩, 18), (⟨"BareThursdayModel", "canBe", "(III)Z"⟩, 18)]
theorem lw_r2 : ∀ q ∈ lw_privs_2, lw_okq q := List.forall_mem_cons.mpr ⟨lw_p16, List.forall_mem_cons.mpr ⟨lw_p17, List.forall_mem_cons.mpr ⟨lw_p18, List.forall_mem_cons.mpr ⟨lw_p19, List.forall_mem_cons.mpr ⟨lw_p20, List.forall_mem_cons.mpr ⟨lw_p21, List.forall_mem_cons.mpr ⟨lw_p22, List.forall_mem_cons.mpr ⟨lw_p23, List.forall_mem_cons.mpr ⟨lw_p24, List.forall_mem_cons.mpr ⟨lw_p25, List.forall_mem_cons.mpr ⟨lw_p26, List.forall_mem_cons.mpr ⟨lw_p27, List.forall_mem_cons.mpr ⟨lw_p28, List.forall_mem_cons.mpr ⟨lw_p29, List.forall_mem_cons.mpr ⟨lw_p30, List.forall_mem_cons.mpr ⟨lw_p31, fun _ h => absurd h List.not_mem_nil⟩⟩⟩⟩⟩⟩⟩⟩⟩⟩⟩⟩⟩⟩⟩⟩
theorem lw_p32 : lw_okq (⟨"BareThursdayModel", "mindsOf", "(II)Z"⟩, 18) := ⟨⟨by decide +kernel, by decide +kernel⟩, List.mem_of_getElem? (i := 709) (by decide +kernel), List.mem_of_getElem? (i := 844) (by decide +kernel), List.mem_of_getElem? (i := 845) (by decide +kernel)⟩
theorem lw_p33 : lw_okq (⟨"BareThursdayModel", "areTwo", "(II)Z"⟩, 18) := ⟨⟨by decide +kernel, by decide +kernel⟩, List.mem_of_getElem? (i := 709) (by decide +kernel), List.mem_of_getElem? (i := 852) (by decide +kernel), List.mem_of_getElem? (i := 853) (by decide +kernel)⟩
theorem lw_p34 : lw_okq (⟨"BareThursdayModel", "farOf", "(II)I"⟩, 18) := ⟨⟨by decide +kernel, by decide +kernel⟩, List.mem_of_getElem? (i := 709) (by decide +kernel), List.mem_of_getElem? (i := 856) (by decide +kernel), List.mem_of_getElem? (i := 857) (by decide +kernel)⟩
theorem lw_p35 : lw_okq (⟨"BareThursdayModel", "hasMet", "(II)Z"⟩, 18) := ⟨⟨by decide +kernel, by decide +kernel⟩, List.mem_of_getElem? (i := 709) (by decide +kernel), List.mem_of_getElem? (i := 871) (by decide +kernel), List.mem_of_getElem? (i := 872) (by decide +kernel)⟩
theorem lw_p36 : lw_okq (⟨"BareThursdayModel", "doesKnow", "(II)Z"⟩, 18) := ⟨⟨by decide +kernel, by decide +kernel⟩, List.mem_of_getElem? (i := 709) (by decide +kernel), List.mem_of_getElem? (i := 875) (by decide +kernel), List.mem_of_getElem? (i := 876) (by decide +kernel)⟩
theorem lw_p37 : lw_okq (⟨"BareThursdayModel", "wouldSee", "(II)Z"⟩, 18) := ⟨⟨by decide +kernel, by decide +kernel⟩, List.mem_of_getElem? (i := 709) (by decide +kernel), List.mem_of_getElem? (i := 879) (by decide +kernel), List.mem_of_getElem? (i := 880) (by decide +kernel)⟩
theorem lw_p38 : lw_okq (⟨"BareThursdayModel", "goes", "(I)V"⟩, 18) := ⟨⟨by decide +kernel, by decide +kernel⟩, List.mem_of_getElem? (i := 709) (by decide +kernel), List.mem_of_getElem? (i := 888) (by decide +kernel), List.mem_of_getElem? (i := 889) (by decide +kernel)⟩
theorem lw_p39 : lw_okq (⟨"BareThursdayModel", "day", "()V"⟩, 18) := ⟨⟨by decide +kernel, by decide +kernel⟩, List.mem_of_getElem? (i := 709) (by decide +kernel), List.mem_of_getElem? (i := 892) (by decide +kernel), List.mem_of_getElem? (i := 893) (by decide +kernel)⟩
theorem lw_p40 : lw_okq (⟨"BareThursdayModel", "goesOn", "(IZ)V"⟩, 18) := ⟨⟨by decide +kernel, by decide +kernel⟩, List.mem_of_getElem? (i := 709) (by decide +kernel), List.mem_of_getElem? (i := 896) (by decide +kernel), List.mem_of_getElem? (i := 897) (by decide +kernel)⟩
theorem lw_p41 : lw_okq (⟨"BareThursdayModel", "barefaced", "(II)V"⟩, 18) := ⟨⟨by decide +kernel, by decide +kernel⟩, List.mem_of_getElem? (i := 709) (by decide +kernel), List.mem_of_getElem? (i := 900) (by decide +kernel), List.mem_of_getElem? (i := 901) (by decide +kernel)⟩
theorem lw_p42 : lw_okq (⟨"BareThursdayModel", "comesToKnow", "(II)V"⟩, 18) := ⟨⟨by decide +kernel, by decide +kernel⟩, List.mem_of_getElem? (i := 709) (by decide +kernel), List.mem_of_getElem? (i := 904) (by decide +kernel), List.mem_of_getElem? (i := 905) (by decide +kernel)⟩
theorem lw_p43 : lw_okq (⟨"BareThursdayModel", "passesBy", "(I)V"⟩, 18) := ⟨⟨by decide +kernel, by decide +kernel⟩, List.mem_of_getElem? (i := 709) (by decide +kernel), List.mem_of_getElem? (i := 908) (by decide +kernel), List.mem_of_getElem? (i := 909) (by decide +kernel)⟩
theorem lw_p44 : lw_okq (⟨"BareThursdayModel", "meets", "(II)V"⟩, 18) := ⟨⟨by decide +kernel, by decide +kernel⟩, List.mem_of_getElem? (i := 709) (by decide +kernel), List.mem_of_getElem? (i := 912) (by decide +kernel), List.mem_of_getElem? (i := 913) (by decide +kernel)⟩
theorem lw_p45 : lw_okq (⟨"BareThursdayModel", "whoKnow", "()I"⟩, 18) := ⟨⟨by decide +kernel, by decide +kernel⟩, List.mem_of_getElem? (i := 709) (by decide +kernel), List.mem_of_getElem? (i := 920) (by decide +kernel), List.mem_of_getElem? (i := 921) (by decide +kernel)⟩
theorem lw_p46 : lw_okq (⟨"BareThursdayModel", "pairs", "(I)I"⟩, 18) := ⟨⟨by decide +kernel, by decide +kernel⟩, List.mem_of_getElem? (i := 709) (by decide +kernel), List.mem_of_getElem? (i := 924) (by decide +kernel), List.mem_of_getElem? (i := 925) (by decide +kernel)⟩
theorem lw_p47 : lw_okq (⟨"BareThursdayModel", "worn", "()I"⟩, 18) := ⟨⟨by decide +kernel, by decide +kernel⟩, List.mem_of_getElem? (i := 709) (by decide +kernel), List.mem_of_getElem? (i := 928) (by decide +kernel), List.mem_of_getElem? (i := 929) (by decide +kernel)⟩
def lw_privs_3 : List (MethodName × Nat) := [(⟨"BareThursdayModel", "mindsOf", "(II)Z"⟩, 18), (⟨"BareThursdayModel", "areTwo", "(II)Z"⟩, 18), (⟨"BareThursdayModel", "farOf", "(II)I"⟩, 18), (⟨"BareThursdayModel", "hasMet", "(II)Z"⟩, 18), (⟨"BareThursdayModel", "doesKnow", "(II)Z"⟩, 18), (⟨"BareThursdayModel", "wouldSee", "(II)Z"⟩, 18), (⟨"BareThursdayModel", "goes", "(I)V"⟩, 18), (⟨"BareThursdayModel", "day", "()V"⟩, 18), (⟨"BareThursdayModel", "goesOn", "(IZ)V"⟩, 18), (⟨"BareThursdayModel", "barefaced", "(II)V"⟩, 18), (⟨"BareThursdayModel", "comesToKnow", "(II)V"⟩, 18), (⟨"BareThursdayModel", "passesBy", "(I)V"⟩, 18), (⟨"BareThursdayModel", "meets", "(II)V"⟩, 18), (⟨"BareThursdayModel", "whoKnow", "()I"⟩, 18), (⟨"BareThursdayModel", "pairs", "(I)I"⟩, 18), (⟨"BareThursdayModel", "worn", "()I"⟩, 18)]
theorem lw_r3 : ∀ q ∈ lw_privs_3, lw_okq q := List.forall_mem_cons.mpr ⟨lw_p32, List.forall_mem_cons.mpr ⟨lw_p33, List.forall_mem_cons.mpr ⟨lw_p34, List.forall_mem_cons.mpr ⟨lw_p35, List.forall_mem_cons.mpr ⟨lw_p36, List.forall_mem_cons.mpr ⟨lw_p37, List.forall_mem_cons.mpr ⟨lw_p38, List.forall_mem_cons.mpr ⟨lw_p39, List.forall_mem_cons.mpr ⟨lw_p40, List.forall_mem_cons.mpr ⟨lw_p41, List.forall_mem_cons.mpr ⟨lw_p42, List.forall_mem_cons.mpr ⟨lw_p43, List.forall_mem_cons.mpr ⟨lw_p44, List.forall_mem_cons.mpr ⟨lw_p45, List.forall_mem_cons.mpr ⟨lw_p46, List.forall_mem_cons.mpr ⟨lw_p47, fun _ h => absurd h List.not_mem_nil⟩⟩⟩⟩⟩⟩⟩⟩⟩⟩⟩⟩⟩⟩⟩⟩
theorem lw_p48 : lw_okq (⟨"BareThursdayModel", "passedAll", "()I"⟩, 18) := ⟨⟨by decide +kernel, by decide +kernel⟩, List.mem_of_getElem? (i := 709) (by decide +kernel), List.mem_of_getElem? (i := 932) (by decide +kernel), List.mem_of_getElem? (i := 933) (by decide +kernel)⟩
theorem lw_p49 : lw_okq (⟨"BareThursdayModel", "thenAt", "(II)I"⟩, 18) := ⟨⟨by decide +kernel, by decide +kernel⟩, List.mem_of_getElem? (i := 709) (by decide +kernel), List.mem_of_getElem? (i := 940) (by decide +kernel), List.mem_of_getElem? (i := 941) (by decide +kernel)⟩
theorem lw_p50 : lw_okq (⟨"BareThursdayModel", "setsAside", "()V"⟩, 18) := ⟨⟨by decide +kernel, by decide +kernel⟩, List.mem_of_getElem? (i := 709) (by decide +kernel), List.mem_of_getElem? (i := 944) (by decide +kernel), List.mem_of_getElem? (i := 945) (by decide +kernel)⟩
theorem lw_p51 : lw_okq (⟨"BareThursdayModel", "laysBack", "()V"⟩, 18) := ⟨⟨by decide +kernel, by decide +kernel⟩, List.mem_of_getElem? (i := 709) (by decide +kernel), List.mem_of_getElem? (i := 948) (by decide +kernel), List.mem_of_getElem? (i := 949) (by decide +kernel)⟩
theorem lw_p52 : lw_okq (⟨"BareThursdayModel", "firstBy", "(III)I"⟩, 18) := ⟨⟨by decide +kernel, by decide +kernel⟩, List.mem_of_getElem? (i := 709) (by decide +kernel), List.mem_of_getElem? (i := 960) (by decide +kernel), List.mem_of_getElem? (i := 961) (by decide +kernel)⟩
theorem lw_p53 : lw_okq (⟨"BareThursdayModel", "isSo", "(III)Z"⟩, 18) := ⟨⟨by decide +kernel, by decide +kernel⟩, List.mem_of_getElem? (i := 709) (by decide +kernel), List.mem_of_getElem? (i := 964) (by decide +kernel), List.mem_of_getElem? (i := 965) (by decide +kernel)⟩
theorem lw_p54 : lw_okq (⟨"BareThursdayModel", "isAsked", "(II)Z"⟩, 18) := ⟨⟨by decide +kernel, by decide +kernel⟩, List.mem_of_getElem? (i := 709) (by decide +kernel), List.mem_of_getElem? (i := 980) (by decide +kernel), List.mem_of_getElem? (i := 981) (by decide +kernel)⟩
theorem lw_p55 : lw_okq (⟨"BareThursdayModel", "gladdestBy", "(IIII)I"⟩, 18) := ⟨⟨by decide +kernel, by decide +kernel⟩, List.mem_of_getElem? (i := 709) (by decide +kernel), List.mem_of_getElem? (i := 984) (by decide +kernel), List.mem_of_getElem? (i := 985) (by decide +kernel)⟩
theorem lw_p56 : lw_okq (⟨"BareThursdayModel", "joyWith", "(II)I"⟩, 18) := ⟨⟨by decide +kernel, by decide +kernel⟩, List.mem_of_getElem? (i := 709) (by decide +kernel), List.mem_of_getElem? (i := 1000) (by decide +kernel), List.mem_of_getElem? (i := 1001) (by decide +kernel)⟩
theorem lw_p57 : lw_okq (⟨"BareThursdayModel", "isCircle", "(II)Z"⟩, 18) := ⟨⟨by decide +kernel, by decide +kernel⟩, List.mem_of_getElem? (i := 709) (by decide +kernel), List.mem_of_getElem? (i := 1008) (by decide +kernel), List.mem_of_getElem? (i := 1009) (by decide +kernel)⟩
theorem lw_p58 : lw_okq (⟨"BareThursdayModel", "wrongTold", "(II)I"⟩, 18) := ⟨⟨by decide +kernel, by decide +kernel⟩, List.mem_of_getElem? (i := 709) (by decide +kernel), List.mem_of_getElem? (i := 1016) (by decide +kernel), List.mem_of_getElem? (i := 1017) (by decide +kernel)⟩
theorem lw_p59 : lw_okq (⟨"BareThursdayModel", "wrongSheet", "(I)I"⟩, 18) := ⟨⟨by decide +kernel, by decide +kernel⟩, List.mem_of_getElem? (i := 709) (by decide +kernel), List.mem_of_getElem? (i := 1020) (by decide +kernel), List.mem_of_getElem? (i := 1021) (by decide +kernel)⟩
theorem lw_p60 : lw_okq (⟨"BareThursdayModel", "allThatFit", "(IIII)I"⟩, 18) := ⟨⟨by decide +kernel, by decide +kernel⟩, List.mem_of_getElem? (i := 709) (by decide +kernel), List.mem_of_getElem? (i := 1027) (by decide +kernel), List.mem_of_getElem? (i := 1028) (by decide +kernel)⟩
theorem lw_p61 : lw_okq (⟨"BareThursdayModel", "told", "(II)I"⟩, 18) := ⟨⟨by decide +kernel, by decide +kernel⟩, List.mem_of_getElem? (i := 709) (by decide +kernel), List.mem_of_getElem? (i := 1031) (by decide +kernel), List.mem_of_getElem? (i := 1032) (by decide +kernel)⟩
theorem lw_p62 : lw_okq (⟨"BareThursdayModel", "draw", "()I"⟩, 18) := ⟨⟨by decide +kernel, by decide +kernel⟩, List.mem_of_getElem? (i := 709) (by decide +kernel), List.mem_of_getElem? (i := 1043) (by decide +kernel), List.mem_of_getElem? (i := 1044) (by decide +kernel)⟩
theorem lw_p63 : lw_okq (⟨"BareThursdayModel", "nextToken", "()V"⟩, 18) := ⟨⟨by decide +kernel, by decide +kernel⟩, List.mem_of_getElem? (i := 709) (by decide +kernel), List.mem_of_getElem? (i := 1069) (by decide +kernel), List.mem_of_getElem? (i := 1070) (by decide +kernel)⟩
def lw_privs_4 : List (MethodName × Nat) := [(⟨"BareThursdayModel", "passedAll", "()I"⟩, 18), (⟨"BareThursdayModel", "thenAt", "(II)I"⟩, 18), (⟨"BareThursdayModel", "setsAside", "()V"⟩, 18), (⟨"BareThursdayModel", "laysBack", "()V"⟩, 18), (⟨"BareThursdayModel", "firstBy", "(III)I"⟩, 18), (⟨"BareThursdayModel", "isSo", "(III)Z"⟩, 18), (⟨"BareThursdayModel", "isAsked", "(II)Z"⟩, 18), (⟨"BareThursdayModel", "gladdestBy", "(IIII)I"⟩, 18), (⟨"BareThursdayModel", "joyWith", "(II)I"⟩, 18), (⟨"BareThursdayModel", "isCircle", "(II)Z"⟩, 18), (⟨"BareThursdayModel", "wrongTold", "(II)I"⟩, 18), (⟨"BareThursdayModel", "wrongSheet", "(I)I"⟩, 18), (⟨"BareThursdayModel", "allThatFit", "(IIII)I"⟩, 18), (⟨"BareThursdayModel", "told", "(II)I"⟩, 18), (⟨"BareThursdayModel", "draw", "()I"⟩, 18), (⟨"BareThursdayModel", "nextToken", "()V"⟩, 18)]
theorem lw_r4 : ∀ q ∈ lw_privs_4, lw_okq q := List.forall_mem_cons.mpr ⟨lw_p48, List.forall_mem_cons.mpr ⟨lw_p49, List.forall_mem_cons.mpr ⟨lw_p50, List.forall_mem_cons.mpr ⟨lw_p51, List.forall_mem_cons.mpr ⟨lw_p52, List.forall_mem_cons.mpr ⟨lw_p53, List.forall_mem_cons.mpr ⟨lw_p54, List.forall_mem_cons.mpr ⟨lw_p55, List.forall_mem_cons.mpr ⟨lw_p56, List.forall_mem_cons.mpr ⟨lw_p57, List.forall_mem_cons.mpr ⟨lw_p58, List.forall_mem_cons.mpr ⟨lw_p59, List.forall_mem_cons.mpr ⟨lw_p60, List.forall_mem_cons.mpr ⟨lw_p61, List.forall_mem_cons.mpr ⟨lw_p62, List.forall_mem_cons.mpr ⟨lw_p63, fun _ h => absurd h List.not_mem_nil⟩⟩⟩⟩⟩⟩⟩⟩⟩⟩⟩⟩⟩⟩⟩⟩
theorem lw_p64 : lw_okq (⟨"BareThursdayModel", "readsItem", "()Z"⟩, 18) := ⟨⟨by decide +kernel, by decide +kernel⟩, List.mem_of_getElem? (i := 709) (by decide +kernel), List.mem_of_getElem? (i := 1085) (by decide +kernel), List.mem_of_getElem? (i := 1086) (by decide +kernel)⟩
theorem lw_p65 : lw_okq (⟨"BareThursdayModel", "wordOf", "([C)I"⟩, 18) := ⟨⟨by decide +kernel, by decide +kernel⟩, List.mem_of_getElem? (i := 709) (by decide +kernel), List.mem_of_getElem? (i := 1089) (by decide +kernel), List.mem_of_getElem? (i := 1090) (by decide +kernel)⟩
theorem lw_p66 : lw_okq (⟨"BareThursdayModel", "readsPerson", "(I)Z"⟩, 18) := ⟨⟨by decide +kernel, by decide +kernel⟩, List.mem_of_getElem? (i := 709) (by decide +kernel), List.mem_of_getElem? (i := 1093) (by decide +kernel), List.mem_of_getElem? (i := 1094) (by decide +kernel)⟩
theorem lw_p67 : lw_okq (⟨"BareThursdayModel", "takesNumber", "(II)I"⟩, 18) := ⟨⟨by decide +kernel, by decide +kernel⟩, List.mem_of_getElem? (i := 709) (by decide +kernel), List.mem_of_getElem? (i := 1097) (by decide +kernel), List.mem_of_getElem? (i := 1098) (by decide +kernel)⟩
theorem lw_p68 : lw_okq (⟨"BareThursdayModel", "readsMet", "()Z"⟩, 18) := ⟨⟨by decide +kernel, by decide +kernel⟩, List.mem_of_getElem? (i := 709) (by decide +kernel), List.mem_of_getElem? (i := 1101) (by decide +kernel), List.mem_of_getElem? (i := 1102) (by decide +kernel)⟩
def lw_privs_5 : List (MethodName × Nat) := [(⟨"BareThursdayModel", "readsItem", "()Z"⟩, 18), (⟨"BareThursdayModel", "wordOf", "([C)I"⟩, 18), (⟨"BareThursdayModel", "readsPerson", "(I)Z"⟩, 18), (⟨"BareThursdayModel", "takesNumber", "(II)I"⟩, 18), (⟨"BareThursdayModel", "readsMet", "()Z"⟩, 18)]
theorem lw_r5 : ∀ q ∈ lw_privs_5, lw_okq q := List.forall_mem_cons.mpr ⟨lw_p64, List.forall_mem_cons.mpr ⟨lw_p65, List.forall_mem_cons.mpr ⟨lw_p66, List.forall_mem_cons.mpr ⟨lw_p67, List.forall_mem_cons.mpr ⟨lw_p68, fun _ h => absurd h List.not_mem_nil⟩⟩⟩⟩⟩
def lw_privs : List (MethodName × Nat) := lw_privs_1 ++ (lw_privs_2 ++ (lw_privs_3 ++ (lw_privs_4 ++ (lw_privs_5))))
def lw_tbl : List Cond := k2_sels lw_privs ++ tables_1
theorem lw_privs_ok : ∀ q ∈ lw_privs, lw_okq q := by
  show ∀ q ∈ lw_privs_1 ++ (lw_privs_2 ++ (lw_privs_3 ++ (lw_privs_4 ++ (lw_privs_5)))), lw_okq q
  exact List.forall_mem_append.mpr ⟨lw_r1, List.forall_mem_append.mpr ⟨lw_r2, List.forall_mem_append.mpr ⟨lw_r3, List.forall_mem_append.mpr ⟨lw_r4, lw_r5⟩⟩⟩⟩
-- ===== end of PART A; then your names; then what follows =====
end
section
/-! names, fields, words: out of the printed names of this claim and its tables, by wip/whole/gen_names.py -/
def RX0 : String := "BareThursday$Kinds"
def TX0 : u_T := fun k => match k with
  | _ => ("", "", "", false)
def tyX0 : Nat → FieldType := fun k => match k with
  | _ => .int
abbrev wsX00 : List Cond := u_ws RX0 TX0 0
theorem nmX0 : ∀ a, a < 0 → ∀ b, b < 0 → a ≠ b → (TX0 a).2.1 ≠ (TX0 b).2.1 := by decide +kernel
theorem tyX0_ok : ∀ k, k < 0 → parseFieldDescriptor (TX0 k).2.2.1 = some (tyX0 k) := by decide +kernel
abbrev cX0_above : ByteArray := prog_2_method_2_code
def yX0_above : MethodName := ⟨RX0, "above", "(I)I"⟩
abbrev cX0_isUnder : ByteArray := prog_2_method_3_code
def yX0_isUnder : MethodName := ⟨RX0, "isUnder", "(II)Z"⟩
abbrev cX0_walk : ByteArray := prog_2_method_4_code
def yX0_walk : MethodName := ⟨RX0, "walk", "(II)I"⟩
abbrev cX0_shift : ByteArray := prog_2_method_5_code
def yX0_shift : MethodName := ⟨RX0, "shift", "(II)I"⟩
abbrev cX0_mind : ByteArray := prog_2_method_6_code
def yX0_mind : MethodName := ⟨RX0, "mind", "(IIIZ)Z"⟩
abbrev cX0_shine : ByteArray := prog_2_method_7_code
def yX0_shine : MethodName := ⟨RX0, "shine", "(I)I"⟩
abbrev cX0_gladden : ByteArray := prog_2_method_8_code
def yX0_gladden : MethodName := ⟨RX0, "gladden", "(II)I"⟩
def RX1 : String := "BareThursday$Sheets"
def TX1 : u_T := fun k => match k with
  | 0 => ("BareThursday$Sheets", "bits", "[I", true)
  | 1 => ("BareThursday$Sheets", "lengths", "[I", true)
  | _ => ("BareThursday$Sheets", "numbers", "[I", true)
def tyX1 : Nat → FieldType := fun k => match k with
  | 0 => .array .int
  | 1 => .array .int
  | _ => .array .int
abbrev wsX10 : List Cond := u_ws RX1 TX1 3
theorem nmX1 : ∀ a, a < 3 → ∀ b, b < 3 → a ≠ b → (TX1 a).2.1 ≠ (TX1 b).2.1 := by decide +kernel
theorem tyX1_ok : ∀ k, k < 3 → parseFieldDescriptor (TX1 k).2.2.1 = some (tyX1 k) := by decide +kernel
abbrev cX1_init : ByteArray := prog_3_method_1_code
def yX1_init : MethodName := ⟨RX1, "<init>", "()V"⟩
abbrev cX1_lay : ByteArray := prog_3_method_2_code
def yX1_lay : MethodName := ⟨RX1, "lay", "(III)V"⟩
abbrev cX1_isMissing : ByteArray := prog_3_method_3_code
def yX1_isMissing : MethodName := ⟨RX1, "isMissing", "(I)Z"⟩
abbrev cX1_bits : ByteArray := prog_3_method_4_code
def yX1_bits : MethodName := ⟨RX1, "bits", "(I)I"⟩
abbrev cX1_length : ByteArray := prog_3_method_5_code
def yX1_length : MethodName := ⟨RX1, "length", "(I)I"⟩
abbrev cX1_number : ByteArray := prog_3_method_6_code
def yX1_number : MethodName := ⟨RX1, "number", "(II)I"⟩
abbrev cX1_put : ByteArray := prog_3_method_7_code
def yX1_put : MethodName := ⟨RX1, "put", "(III)V"⟩
abbrev cX1_lowest : ByteArray := prog_3_method_8_code
def yX1_lowest : MethodName := ⟨RX1, "lowest", "(II)I"⟩
abbrev cX1_hasPart : ByteArray := prog_3_method_9_code
def yX1_hasPart : MethodName := ⟨RX1, "hasPart", "(III)Z"⟩
abbrev cX1_move : ByteArray := prog_3_method_10_code
def yX1_move : MethodName := ⟨RX1, "move", "(IIIII)V"⟩
def RX2 : String := "BareThursday$Tape"
def TX2 : u_T := fun k => match k with
  | 0 => ("BareThursday$Tape", "bytes", "[I", true)
  | 1 => ("BareThursday$Tape", "length", "I", false)
  | 2 => ("BareThursday$Tape", "token", "I", false)
  | 3 => ("BareThursday$Tape", "begin", "I", false)
  | 4 => ("BareThursday$Tape", "end", "I", false)
  | _ => ("BareThursday$Tape", "number", "I", false)
def tyX2 : Nat → FieldType := fun k => match k with
  | 0 => .array .int
  | 1 => .int
  | 2 => .int
  | 3 => .int
  | 4 => .int
  | _ => .int
abbrev wsX20 : List Cond := u_ws RX2 TX2 6
theorem nmX2 : ∀ a, a < 6 → ∀ b, b < 6 → a ≠ b → (TX2 a).2.1 ≠ (TX2 b).2.1 := by decide +kernel
theorem tyX2_ok : ∀ k, k < 6 → parseFieldDescriptor (TX2 k).2.2.1 = some (tyX2 k) := by decide +kernel
abbrev cX2_init : ByteArray := prog_4_method_1_code
def yX2_init : MethodName := ⟨RX2, "<init>", "()V"⟩
abbrev cX2_length : ByteArray := prog_4_method_2_code
def yX2_length : MethodName := ⟨RX2, "length", "()I"⟩
abbrev cX2_room : ByteArray := prog_4_method_3_code
def yX2_room : MethodName := ⟨RX2, "room", "()I"⟩
abbrev cX2_empty : ByteArray := prog_4_method_4_code
def yX2_empty : MethodName := ⟨RX2, "empty", "()I"⟩
abbrev cX2_add : ByteArray := prog_4_method_5_code
def yX2_add : MethodName := ⟨RX2, "add", "(I)V"⟩
abbrev cX2_readText : ByteArray := prog_4_method_6_code
def yX2_readText : MethodName := ⟨RX2, "readText", "(LBareThursday$Town;)I"⟩
abbrev cX2_readItem : ByteArray := prog_4_method_7_code
def yX2_readItem : MethodName := ⟨RX2, "readItem", "(LBareThursday$Town;)Z"⟩
abbrev cX2_kindOfWord : ByteArray := prog_4_method_8_code
def yX2_kindOfWord : MethodName := ⟨RX2, "kindOfWord", "()I"⟩
abbrev cX2_readOne : ByteArray := prog_4_method_9_code
def yX2_readOne : MethodName := ⟨RX2, "readOne", "(ILBareThursday$Town;)Z"⟩
abbrev cX2_readMet : ByteArray := prog_4_method_10_code
def yX2_readMet : MethodName := ⟨RX2, "readMet", "(LBareThursday$Town;)Z"⟩
abbrev cX2_readBell : ByteArray := prog_4_method_11_code
def yX2_readBell : MethodName := ⟨RX2, "readBell", "(LBareThursday$Town;)Z"⟩
abbrev cX2_isNumberBelow : ByteArray := prog_4_method_12_code
def yX2_isNumberBelow : MethodName := ⟨RX2, "isNumberBelow", "(I)Z"⟩
abbrev cX2_isWord : ByteArray := prog_4_method_13_code
def yX2_isWord : MethodName := ⟨RX2, "isWord", "(Ljava/lang/String;)Z"⟩
abbrev cX2_nextToken : ByteArray := prog_4_method_14_code
def yX2_nextToken : MethodName := ⟨RX2, "nextToken", "()V"⟩
abbrev cX2_passWord : ByteArray := prog_4_method_15_code
def yX2_passWord : MethodName := ⟨RX2, "passWord", "()V"⟩
abbrev cX2_passNumber : ByteArray := prog_4_method_16_code
def yX2_passNumber : MethodName := ⟨RX2, "passNumber", "()V"⟩
abbrev cX2_isLetter : ByteArray := prog_4_method_17_code
def yX2_isLetter : MethodName := ⟨RX2, "isLetter", "(I)Z"⟩
abbrev cX2_isDigit : ByteArray := prog_4_method_18_code
def yX2_isDigit : MethodName := ⟨RX2, "isDigit", "(I)Z"⟩
def RX3 : String := "BareThursday$Town"
def TX3 : u_T := fun k => match k with
  | 0 => ("BareThursday$Town", "people", "I", false)
  | 1 => ("BareThursday$Town", "day", "I", false)
  | 2 => ("BareThursday$Town", "joy", "I", false)
  | 3 => ("BareThursday$Town", "z", "I", false)
  | 4 => ("BareThursday$Town", "spots", "[I", true)
  | 5 => ("BareThursday$Town", "kind", "[I", true)
  | 6 => ("BareThursday$Town", "cell", "[I", true)
  | 7 => ("BareThursday$Town", "guise", "[I", true)
  | 8 => ("BareThursday$Town", "met", "[I", true)
  | 9 => ("BareThursday$Town", "knows", "[I", true)
  | 10 => ("BareThursday$Town", "out", "[I", true)
  | _ => ("BareThursday$Town", "passes", "[I", true)
def tyX3 : Nat → FieldType := fun k => match k with
  | 0 => .int
  | 1 => .int
  | 2 => .int
  | 3 => .int
  | 4 => .array .int
  | 5 => .array .int
  | 6 => .array .int
  | 7 => .array .int
  | 8 => .array .int
  | 9 => .array .int
  | 10 => .array .int
  | _ => .array .int
abbrev wsX30 : List Cond := u_ws RX3 TX3 12
theorem nmX3 : ∀ a, a < 12 → ∀ b, b < 12 → a ≠ b → (TX3 a).2.1 ≠ (TX3 b).2.1 := by decide +kernel
theorem tyX3_ok : ∀ k, k < 12 → parseFieldDescriptor (TX3 k).2.2.1 = some (tyX3 k) := by decide +kernel
abbrev cX3_init : ByteArray := prog_5_method_1_code
def yX3_init : MethodName := ⟨RX3, "<init>", "()V"⟩
abbrev cX3_become : ByteArray := prog_5_method_2_code
def yX3_become : MethodName := ⟨RX3, "become", "(LBareThursday$Town;)V"⟩
abbrev cX3_isTheDay : ByteArray := prog_5_method_3_code
def yX3_isTheDay : MethodName := ⟨RX3, "isTheDay", "(I)Z"⟩
abbrev cX3_isThere : ByteArray := prog_5_method_4_code
def yX3_isThere : MethodName := ⟨RX3, "isThere", "(I)Z"⟩
abbrev cX3_areTwo : ByteArray := prog_5_method_5_code
def yX3_areTwo : MethodName := ⟨RX3, "areTwo", "(II)Z"⟩
abbrev cX3_isFull : ByteArray := prog_5_method_6_code
def yX3_isFull : MethodName := ⟨RX3, "isFull", "()Z"⟩
abbrev cX3_everybody : ByteArray := prog_5_method_7_code
def yX3_everybody : MethodName := ⟨RX3, "everybody", "()I"⟩
abbrev cX3_add : ByteArray := prog_5_method_8_code
def yX3_add : MethodName := ⟨RX3, "add", "(II)I"⟩
abbrev cX3_trait : ByteArray := prog_5_method_9_code
def yX3_trait : MethodName := ⟨RX3, "trait", "(II)I"⟩
abbrev cX3_canBecome : ByteArray := prog_5_method_10_code
def yX3_canBecome : MethodName := ⟨RX3, "canBecome", "(III)Z"⟩
abbrev cX3_isSetOfOthers : ByteArray := prog_5_method_11_code
def yX3_isSetOfOthers : MethodName := ⟨RX3, "isSetOfOthers", "(II)Z"⟩
abbrev cX3_put : ByteArray := prog_5_method_12_code
def yX3_put : MethodName := ⟨RX3, "put", "(III)V"⟩
abbrev cX3_putOut : ByteArray := prog_5_method_13_code
def yX3_putOut : MethodName := ⟨RX3, "putOut", "(I)V"⟩
abbrev cX3_distance : ByteArray := prog_5_method_14_code
def yX3_distance : MethodName := ⟨RX3, "distance", "(II)I"⟩
abbrev cX3_peopleAt : ByteArray := prog_5_method_15_code
def yX3_peopleAt : MethodName := ⟨RX3, "peopleAt", "(I)I"⟩
abbrev cX3_mindsGuise : ByteArray := prog_5_method_16_code
def yX3_mindsGuise : MethodName := ⟨RX3, "mindsGuise", "(II)Z"⟩
abbrev cX3_mindedGuises : ByteArray := prog_5_method_17_code
def yX3_mindedGuises : MethodName := ⟨RX3, "mindedGuises", "(I)I"⟩
abbrev cX3_bothMet : ByteArray := prog_5_method_18_code
def yX3_bothMet : MethodName := ⟨RX3, "bothMet", "(II)Z"⟩
abbrev cX3_bothKnow : ByteArray := prog_5_method_19_code
def yX3_bothKnow : MethodName := ⟨RX3, "bothKnow", "(II)Z"⟩
abbrev cX3_wouldSee : ByteArray := prog_5_method_20_code
def yX3_wouldSee : MethodName := ⟨RX3, "wouldSee", "(II)Z"⟩
abbrev cX3_knowers : ByteArray := prog_5_method_21_code
def yX3_knowers : MethodName := ⟨RX3, "knowers", "()I"⟩
abbrev cX3_knowingPairs : ByteArray := prog_5_method_22_code
def yX3_knowingPairs : MethodName := ⟨RX3, "knowingPairs", "()I"⟩
abbrev cX3_metPairs : ByteArray := prog_5_method_23_code
def yX3_metPairs : MethodName := ⟨RX3, "metPairs", "()I"⟩
abbrev cX3_mutualPairs : ByteArray := prog_5_method_24_code
def yX3_mutualPairs : MethodName := ⟨RX3, "mutualPairs", "([I)I"⟩
abbrev cX3_isCircle : ByteArray := prog_5_method_25_code
def yX3_isCircle : MethodName := ⟨RX3, "isCircle", "(IZ)Z"⟩
abbrev cX3_wornGuises : ByteArray := prog_5_method_26_code
def yX3_wornGuises : MethodName := ⟨RX3, "wornGuises", "()I"⟩
abbrev cX3_passedInAll : ByteArray := prog_5_method_27_code
def yX3_passedInAll : MethodName := ⟨RX3, "passedInAll", "()I"⟩
abbrev cX3_heldSpots : ByteArray := prog_5_method_28_code
def yX3_heldSpots : MethodName := ⟨RX3, "heldSpots", "()I"⟩
abbrev cX3_isMutual : ByteArray := prog_5_method_29_code
def yX3_isMutual : MethodName := ⟨RX3, "isMutual", "([III)Z"⟩
abbrev cX3_holds : ByteArray := prog_5_method_30_code
def yX3_holds : MethodName := ⟨RX3, "holds", "(II)Z"⟩
abbrev cX3_hasDays : ByteArray := prog_5_method_31_code
def yX3_hasDays : MethodName := ⟨RX3, "hasDays", "(I)Z"⟩
abbrev cX3_skipDays : ByteArray := prog_5_method_32_code
def yX3_skipDays : MethodName := ⟨RX3, "skipDays", "(I)V"⟩
abbrev cX3_passDays : ByteArray := prog_5_method_33_code
def yX3_passDays : MethodName := ⟨RX3, "passDays", "(I)V"⟩
abbrev cX3_passDay : ByteArray := prog_5_method_34_code
def yX3_passDay : MethodName := ⟨RX3, "passDay", "()V"⟩
abbrev cX3_mingle : ByteArray := prog_5_method_35_code
def yX3_mingle : MethodName := ⟨RX3, "mingle", "(II)V"⟩
abbrev cX3_meetEachOther : ByteArray := prog_5_method_36_code
def yX3_meetEachOther : MethodName := ⟨RX3, "meetEachOther", "(II)V"⟩
abbrev cX3_seeEachOther : ByteArray := prog_5_method_37_code
def yX3_seeEachOther : MethodName := ⟨RX3, "seeEachOther", "(II)V"⟩
abbrev cX3_comeToKnow : ByteArray := prog_5_method_38_code
def yX3_comeToKnow : MethodName := ⟨RX3, "comeToKnow", "(II)V"⟩
abbrev cX3_goBy : ByteArray := prog_5_method_39_code
def yX3_goBy : MethodName := ⟨RX3, "goBy", "(I)V"⟩
abbrev cX3_draw : ByteArray := prog_5_method_40_code
def yX3_draw : MethodName := ⟨RX3, "draw", "()I"⟩
def RX4 : String := "BareThursday"
def TX4 : u_T := fun k => match k with
  | 0 => ("BareThursday", "town", "LBareThursday$Town;", true)
  | 1 => ("BareThursday", "trial", "LBareThursday$Town;", true)
  | 2 => ("BareThursday", "kept", "LBareThursday$Town;", true)
  | 3 => ("BareThursday", "isKept", "Z", false)
  | 4 => ("BareThursday", "tape", "LBareThursday$Tape;", true)
  | 5 => ("BareThursday", "sheets", "LBareThursday$Sheets;", true)
  | _ => ("BareThursday", "found", "[I", true)
def tyX4 : Nat → FieldType := fun k => match k with
  | 0 => .object "BareThursday$Town"
  | 1 => .object "BareThursday$Town"
  | 2 => .object "BareThursday$Town"
  | 3 => .boolean
  | 4 => .object "BareThursday$Tape"
  | 5 => .object "BareThursday$Sheets"
  | _ => .array .int
abbrev wsX40 : List Cond := u_ws RX4 TX4 7
theorem nmX4 : ∀ a, a < 7 → ∀ b, b < 7 → a ≠ b → (TX4 a).2.1 ≠ (TX4 b).2.1 := by decide +kernel
theorem tyX4_ok : ∀ k, k < 7 → parseFieldDescriptor (TX4 k).2.2.1 = some (tyX4 k) := by decide +kernel
abbrev cX4_init : ByteArray := prog_1_method_1_code
def yX4_init : MethodName := ⟨RX4, "<init>", "()V"⟩
abbrev cX4_person : ByteArray := prog_1_method_2_code
def yX4_person : MethodName := ⟨RX4, "person", "(II)I"⟩
abbrev cX4_of : ByteArray := prog_1_method_3_code
def yX4_of : MethodName := ⟨RX4, "of", "(II)I"⟩
abbrev cX4_change : ByteArray := prog_1_method_4_code
def yX4_change : MethodName := ⟨RX4, "change", "(III)I"⟩
abbrev cX4_minds : ByteArray := prog_1_method_5_code
def yX4_minds : MethodName := ⟨RX4, "minds", "(II)I"⟩
abbrev cX4_far : ByteArray := prog_1_method_6_code
def yX4_far : MethodName := ⟨RX4, "far", "(II)I"⟩
abbrev cX4_who : ByteArray := prog_1_method_7_code
def yX4_who : MethodName := ⟨RX4, "who", "(I)I"⟩
abbrev cX4_two : ByteArray := prog_1_method_8_code
def yX4_two : MethodName := ⟨RX4, "two", "(III)I"⟩
abbrev cX4_go : ByteArray := prog_1_method_9_code
def yX4_go : MethodName := ⟨RX4, "go", "(I)I"⟩
abbrev cX4_now : ByteArray := prog_1_method_10_code
def yX4_now : MethodName := ⟨RX4, "now", "(I)I"⟩
abbrev cX4_ahead : ByteArray := prog_1_method_11_code
def yX4_ahead : MethodName := ⟨RX4, "ahead", "(III)I"⟩
abbrev cX4_joy : ByteArray := prog_1_method_12_code
def yX4_joy : MethodName := ⟨RX4, "joy", "(I)I"⟩
abbrev cX4_when : ByteArray := prog_1_method_13_code
def yX4_when : MethodName := ⟨RX4, "when", "(III)I"⟩
abbrev cX4_isSo : ByteArray := prog_1_method_14_code
def yX4_isSo : MethodName := ⟨RX4, "isSo", "(LBareThursday$Town;III)Z"⟩
abbrev cX4_known : ByteArray := prog_1_method_15_code
def yX4_known : MethodName := ⟨RX4, "known", "()I"⟩
abbrev cX4_passed : ByteArray := prog_1_method_16_code
def yX4_passed : MethodName := ⟨RX4, "passed", "(II)I"⟩
abbrev cX4_standFor : ByteArray := prog_1_method_17_code
def yX4_standFor : MethodName := ⟨RX4, "standFor", "(II)I"⟩
abbrev cX4_guiseFor : ByteArray := prog_1_method_18_code
def yX4_guiseFor : MethodName := ⟨RX4, "guiseFor", "(II)I"⟩
abbrev cX4_kindFor : ByteArray := prog_1_method_19_code
def yX4_kindFor : MethodName := ⟨RX4, "kindFor", "(II)I"⟩
abbrev cX4_mostJoyous : ByteArray := prog_1_method_20_code
def yX4_mostJoyous : MethodName := ⟨RX4, "mostJoyous", "(IIII)I"⟩
abbrev cX4_dark : ByteArray := prog_1_method_21_code
def yX4_dark : MethodName := ⟨RX4, "dark", "(I)I"⟩
abbrev cX4_staysJoyless : ByteArray := prog_1_method_22_code
def yX4_staysJoyless : MethodName := ⟨RX4, "staysJoyless", "(II)Z"⟩
abbrev cX4_circle : ByteArray := prog_1_method_23_code
def yX4_circle : MethodName := ⟨RX4, "circle", "(I)I"⟩
abbrev cX4_fits : ByteArray := prog_1_method_24_code
def yX4_fits : MethodName := ⟨RX4, "fits", "(II)I"⟩
abbrev cX4_kinds : ByteArray := prog_1_method_25_code
def yX4_kinds : MethodName := ⟨RX4, "kinds", "(II)I"⟩
abbrev cX4_fitting : ByteArray := prog_1_method_26_code
def yX4_fitting : MethodName := ⟨RX4, "fitting", "(IIII)I"⟩
abbrev cX4_meetsAsTold : ByteArray := prog_1_method_27_code
def yX4_meetsAsTold : MethodName := ⟨RX4, "meetsAsTold", "(II)Z"⟩
abbrev cX4_night : ByteArray := prog_1_method_28_code
def yX4_night : MethodName := ⟨RX4, "night", "(I)I"⟩
abbrev cX4_odds : ByteArray := prog_1_method_29_code
def yX4_odds : MethodName := ⟨RX4, "odds", "(III)J"⟩
abbrev cX4_divisorWithGuises : ByteArray := prog_1_method_30_code
def yX4_divisorWithGuises : MethodName := ⟨RX4, "divisorWithGuises", "(I)I"⟩
abbrev cX4_seed : ByteArray := prog_1_method_31_code
def yX4_seed : MethodName := ⟨RX4, "seed", "(I)I"⟩
abbrev cX4_feed : ByteArray := prog_1_method_32_code
def yX4_feed : MethodName := ⟨RX4, "feed", "(II)I"⟩
abbrev cX4_wipe : ByteArray := prog_1_method_33_code
def yX4_wipe : MethodName := ⟨RX4, "wipe", "()I"⟩
abbrev cX4_text : ByteArray := prog_1_method_34_code
def yX4_text : MethodName := ⟨RX4, "text", "()I"⟩
abbrev cX4_hold : ByteArray := prog_1_method_35_code
def yX4_hold : MethodName := ⟨RX4, "hold", "(II)I"⟩
abbrev cX4_as : ByteArray := prog_1_method_36_code
def yX4_as : MethodName := ⟨RX4, "as", "(II)I"⟩
abbrev cX4_sheet : ByteArray := prog_1_method_37_code
def yX4_sheet : MethodName := ⟨RX4, "sheet", "(III)I"⟩
abbrev cX4_write : ByteArray := prog_1_method_38_code
def yX4_write : MethodName := ⟨RX4, "write", "(III)I"⟩
abbrev cX4_copy : ByteArray := prog_1_method_39_code
def yX4_copy : MethodName := ⟨RX4, "copy", "(IIIII)I"⟩
abbrev cX4_load : ByteArray := prog_1_method_40_code
def yX4_load : MethodName := ⟨RX4, "load", "(I)I"⟩
abbrev cX4_judge : ByteArray := prog_1_method_41_code
def yX4_judge : MethodName := ⟨RX4, "judge", "(I)I"⟩
abbrev cX4_image : ByteArray := prog_1_method_42_code
def yX4_image : MethodName := ⟨RX4, "image", "()I"⟩
abbrev cX4_undo : ByteArray := prog_1_method_43_code
def yX4_undo : MethodName := ⟨RX4, "undo", "()I"⟩
abbrev cX4_tear : ByteArray := prog_1_method_44_code
def yX4_tear : MethodName := ⟨RX4, "tear", "()I"⟩
abbrev cX4_count : ByteArray := prog_1_method_45_code
def yX4_count : MethodName := ⟨RX4, "count", "(I)I"⟩
abbrev cX4_status : ByteArray := prog_1_method_46_code
def yX4_status : MethodName := ⟨RX4, "status", "(I)I"⟩
abbrev cX4_finding : ByteArray := prog_1_method_47_code
def yX4_finding : MethodName := ⟨RX4, "finding", "(I)I"⟩
abbrev cX4_isIn : ByteArray := prog_1_method_48_code
def yX4_isIn : MethodName := ⟨RX4, "isIn", "(II)Z"⟩
abbrev cX4_bit : ByteArray := prog_1_method_49_code
def yX4_bit : MethodName := ⟨RX4, "bit", "(Z)I"⟩
def RX5 : String := "BareThursdayModel"
def TX5 : u_T := fun k => match k with
  | 0 => ("BareThursdayModel", "s", "[I", true)
  | 1 => ("BareThursdayModel", "kept", "[I", true)
  | 2 => ("BareThursdayModel", "aside", "[I", true)
  | 3 => ("BareThursdayModel", "isKept", "Z", false)
  | 4 => ("BareThursdayModel", "found", "[I", true)
  | 5 => ("BareThursdayModel", "tape", "[I", true)
  | 6 => ("BareThursdayModel", "taped", "I", false)
  | 7 => ("BareThursdayModel", "token", "I", false)
  | 8 => ("BareThursdayModel", "begun", "I", false)
  | 9 => ("BareThursdayModel", "ended", "I", false)
  | 10 => ("BareThursdayModel", "value", "J", false)
  | 11 => ("BareThursdayModel", "letters", "[C", true)
  | 12 => ("BareThursdayModel", "more", "[C", true)
  | 13 => ("BareThursdayModel", "others", "[C", true)
  | 14 => ("BareThursdayModel", "widths", "[I", true)
  | 15 => ("BareThursdayModel", "sizes", "[I", true)
  | 16 => ("BareThursdayModel", "cells", "[I", true)
  | _ => ("BareThursdayModel", "carried", "[I", true)
def tyX5 : Nat → FieldType := fun k => match k with
  | 0 => .array .int
  | 1 => .array .int
  | 2 => .array .int
  | 3 => .boolean
  | 4 => .array .int
  | 5 => .array .int
  | 6 => .int
  | 7 => .int
  | 8 => .int
  | 9 => .int
  | 10 => .long
  | 11 => .array .char
  | 12 => .array .char
  | 13 => .array .char
  | 14 => .array .int
  | 15 => .array .int
  | 16 => .array .int
  | _ => .array .int
abbrev wsX50 : List Cond := u_ws RX5 TX5 18
theorem nmX5 : ∀ a, a < 18 → ∀ b, b < 18 → a ≠ b → (TX5 a).2.1 ≠ (TX5 b).2.1 := by decide +kernel
theorem tyX5_ok : ∀ k, k < 18 → parseFieldDescriptor (TX5 k).2.2.1 = some (tyX5 k) := by decide +kernel
abbrev cX5_init : ByteArray := prog_7_method_1_code
def yX5_init : MethodName := ⟨RX5, "<init>", "()V"⟩
abbrev cX5_no : ByteArray := prog_7_method_2_code
def yX5_no : MethodName := ⟨RX5, "no", "(I)I"⟩
abbrev cX5_in1 : ByteArray := prog_7_method_3_code
def yX5_in1 : MethodName := ⟨RX5, "in1", "(III)Z"⟩
abbrev cX5_less : ByteArray := prog_7_method_4_code
def yX5_less : MethodName := ⟨RX5, "less", "(II)I"⟩
abbrev cX5_bits : ByteArray := prog_7_method_5_code
def yX5_bits : MethodName := ⟨RX5, "bits", "(I)I"⟩
abbrev cX5_isCell : ByteArray := prog_7_method_6_code
def yX5_isCell : MethodName := ⟨RX5, "isCell", "(I)Z"⟩
abbrev cX5_isGuise : ByteArray := prog_7_method_7_code
def yX5_isGuise : MethodName := ⟨RX5, "isGuise", "(I)Z"⟩
abbrev cX5_isPerson : ByteArray := prog_7_method_8_code
def yX5_isPerson : MethodName := ⟨RX5, "isPerson", "(I)Z"⟩
abbrev cX5_areTwo : ByteArray := prog_7_method_9_code
def yX5_areTwo : MethodName := ⟨RX5, "areTwo", "(II)Z"⟩
abbrev cX5_get : ByteArray := prog_7_method_10_code
def yX5_get : MethodName := ⟨RX5, "get", "(II)I"⟩
abbrev cX5_puts : ByteArray := prog_7_method_11_code
def yX5_puts : MethodName := ⟨RX5, "puts", "(III)V"⟩
abbrev cX5_setsAside : ByteArray := prog_7_method_12_code
def yX5_setsAside : MethodName := ⟨RX5, "setsAside", "()V"⟩
abbrev cX5_laysBack : ByteArray := prog_7_method_13_code
def yX5_laysBack : MethodName := ⟨RX5, "laysBack", "()V"⟩
abbrev cX5_isBare : ByteArray := prog_7_method_14_code
def yX5_isBare : MethodName := ⟨RX5, "isBare", "()Z"⟩
abbrev cX5_walksOf : ByteArray := prog_7_method_15_code
def yX5_walksOf : MethodName := ⟨RX5, "walksOf", "(I)I"⟩
abbrev cX5_shiftsOf : ByteArray := prog_7_method_16_code
def yX5_shiftsOf : MethodName := ⟨RX5, "shiftsOf", "(I)I"⟩
abbrev cX5_mindsOf : ByteArray := prog_7_method_17_code
def yX5_mindsOf : MethodName := ⟨RX5, "mindsOf", "(II)Z"⟩
abbrev cX5_shinesOf : ByteArray := prog_7_method_18_code
def yX5_shinesOf : MethodName := ⟨RX5, "shinesOf", "(I)I"⟩
abbrev cX5_gladdensOf : ByteArray := prog_7_method_19_code
def yX5_gladdensOf : MethodName := ⟨RX5, "gladdensOf", "(I)I"⟩
abbrev cX5_farOf : ByteArray := prog_7_method_20_code
def yX5_farOf : MethodName := ⟨RX5, "farOf", "(II)I"⟩
abbrev cX5_hasMet : ByteArray := prog_7_method_21_code
def yX5_hasMet : MethodName := ⟨RX5, "hasMet", "(II)Z"⟩
abbrev cX5_doesKnow : ByteArray := prog_7_method_22_code
def yX5_doesKnow : MethodName := ⟨RX5, "doesKnow", "(II)Z"⟩
abbrev cX5_wouldSee : ByteArray := prog_7_method_23_code
def yX5_wouldSee : MethodName := ⟨RX5, "wouldSee", "(II)Z"⟩
abbrev cX5_meets : ByteArray := prog_7_method_24_code
def yX5_meets : MethodName := ⟨RX5, "meets", "(II)V"⟩
abbrev cX5_comesToKnow : ByteArray := prog_7_method_25_code
def yX5_comesToKnow : MethodName := ⟨RX5, "comesToKnow", "(II)V"⟩
abbrev cX5_passesBy : ByteArray := prog_7_method_26_code
def yX5_passesBy : MethodName := ⟨RX5, "passesBy", "(I)V"⟩
abbrev cX5_barefaced : ByteArray := prog_7_method_27_code
def yX5_barefaced : MethodName := ⟨RX5, "barefaced", "(II)V"⟩
abbrev cX5_goesOn : ByteArray := prog_7_method_28_code
def yX5_goesOn : MethodName := ⟨RX5, "goesOn", "(IZ)V"⟩
abbrev cX5_day : ByteArray := prog_7_method_29_code
def yX5_day : MethodName := ⟨RX5, "day", "()V"⟩
abbrev cX5_goes : ByteArray := prog_7_method_30_code
def yX5_goes : MethodName := ⟨RX5, "goes", "(I)V"⟩
abbrev cX5_adds : ByteArray := prog_7_method_31_code
def yX5_adds : MethodName := ⟨RX5, "adds", "(I)V"⟩
abbrev cX5_person : ByteArray := prog_7_method_32_code
def yX5_person : MethodName := ⟨RX5, "person", "(II)I"⟩
abbrev cX5_of : ByteArray := prog_7_method_33_code
def yX5_of : MethodName := ⟨RX5, "of", "(II)I"⟩
abbrev cX5_canBe : ByteArray := prog_7_method_34_code
def yX5_canBe : MethodName := ⟨RX5, "canBe", "(III)Z"⟩
abbrev cX5_change : ByteArray := prog_7_method_35_code
def yX5_change : MethodName := ⟨RX5, "change", "(III)I"⟩
abbrev cX5_minds : ByteArray := prog_7_method_36_code
def yX5_minds : MethodName := ⟨RX5, "minds", "(II)I"⟩
abbrev cX5_far : ByteArray := prog_7_method_37_code
def yX5_far : MethodName := ⟨RX5, "far", "(II)I"⟩
abbrev cX5_who : ByteArray := prog_7_method_38_code
def yX5_who : MethodName := ⟨RX5, "who", "(I)I"⟩
abbrev cX5_two : ByteArray := prog_7_method_39_code
def yX5_two : MethodName := ⟨RX5, "two", "(III)I"⟩
abbrev cX5_go : ByteArray := prog_7_method_40_code
def yX5_go : MethodName := ⟨RX5, "go", "(I)I"⟩
abbrev cX5_passedAll : ByteArray := prog_7_method_41_code
def yX5_passedAll : MethodName := ⟨RX5, "passedAll", "()I"⟩
abbrev cX5_whoKnow : ByteArray := prog_7_method_42_code
def yX5_whoKnow : MethodName := ⟨RX5, "whoKnow", "()I"⟩
abbrev cX5_pairs : ByteArray := prog_7_method_43_code
def yX5_pairs : MethodName := ⟨RX5, "pairs", "(I)I"⟩
abbrev cX5_worn : ByteArray := prog_7_method_44_code
def yX5_worn : MethodName := ⟨RX5, "worn", "()I"⟩
abbrev cX5_now : ByteArray := prog_7_method_45_code
def yX5_now : MethodName := ⟨RX5, "now", "(I)I"⟩
abbrev cX5_thenAt : ByteArray := prog_7_method_46_code
def yX5_thenAt : MethodName := ⟨RX5, "thenAt", "(II)I"⟩
abbrev cX5_ahead : ByteArray := prog_7_method_47_code
def yX5_ahead : MethodName := ⟨RX5, "ahead", "(III)I"⟩
abbrev cX5_joy : ByteArray := prog_7_method_48_code
def yX5_joy : MethodName := ⟨RX5, "joy", "(I)I"⟩
abbrev cX5_isSo : ByteArray := prog_7_method_49_code
def yX5_isSo : MethodName := ⟨RX5, "isSo", "(III)Z"⟩
abbrev cX5_firstBy : ByteArray := prog_7_method_50_code
def yX5_firstBy : MethodName := ⟨RX5, "firstBy", "(III)I"⟩
abbrev cX5_when : ByteArray := prog_7_method_51_code
def yX5_when : MethodName := ⟨RX5, "when", "(III)I"⟩
abbrev cX5_known : ByteArray := prog_7_method_52_code
def yX5_known : MethodName := ⟨RX5, "known", "()I"⟩
abbrev cX5_passed : ByteArray := prog_7_method_53_code
def yX5_passed : MethodName := ⟨RX5, "passed", "(II)I"⟩
abbrev cX5_gladdestBy : ByteArray := prog_7_method_54_code
def yX5_gladdestBy : MethodName := ⟨RX5, "gladdestBy", "(IIII)I"⟩
abbrev cX5_isAsked : ByteArray := prog_7_method_55_code
def yX5_isAsked : MethodName := ⟨RX5, "isAsked", "(II)Z"⟩
abbrev cX5_standFor : ByteArray := prog_7_method_56_code
def yX5_standFor : MethodName := ⟨RX5, "standFor", "(II)I"⟩
abbrev cX5_guiseFor : ByteArray := prog_7_method_57_code
def yX5_guiseFor : MethodName := ⟨RX5, "guiseFor", "(II)I"⟩
abbrev cX5_kindFor : ByteArray := prog_7_method_58_code
def yX5_kindFor : MethodName := ⟨RX5, "kindFor", "(II)I"⟩
abbrev cX5_joyWith : ByteArray := prog_7_method_59_code
def yX5_joyWith : MethodName := ⟨RX5, "joyWith", "(II)I"⟩
abbrev cX5_dark : ByteArray := prog_7_method_60_code
def yX5_dark : MethodName := ⟨RX5, "dark", "(I)I"⟩
abbrev cX5_isCircle : ByteArray := prog_7_method_61_code
def yX5_isCircle : MethodName := ⟨RX5, "isCircle", "(II)Z"⟩
abbrev cX5_circle : ByteArray := prog_7_method_62_code
def yX5_circle : MethodName := ⟨RX5, "circle", "(I)I"⟩
abbrev cX5_isSheet : ByteArray := prog_7_method_63_code
def yX5_isSheet : MethodName := ⟨RX5, "isSheet", "(I)Z"⟩
abbrev cX5_wrongSheet : ByteArray := prog_7_method_64_code
def yX5_wrongSheet : MethodName := ⟨RX5, "wrongSheet", "(I)I"⟩
abbrev cX5_wrongTold : ByteArray := prog_7_method_65_code
def yX5_wrongTold : MethodName := ⟨RX5, "wrongTold", "(II)I"⟩
abbrev cX5_told : ByteArray := prog_7_method_66_code
def yX5_told : MethodName := ⟨RX5, "told", "(II)I"⟩
abbrev cX5_allThatFit : ByteArray := prog_7_method_67_code
def yX5_allThatFit : MethodName := ⟨RX5, "allThatFit", "(IIII)I"⟩
abbrev cX5_fits : ByteArray := prog_7_method_68_code
def yX5_fits : MethodName := ⟨RX5, "fits", "(II)I"⟩
abbrev cX5_kinds : ByteArray := prog_7_method_69_code
def yX5_kinds : MethodName := ⟨RX5, "kinds", "(II)I"⟩
abbrev cX5_draw : ByteArray := prog_7_method_70_code
def yX5_draw : MethodName := ⟨RX5, "draw", "()I"⟩
abbrev cX5_night : ByteArray := prog_7_method_71_code
def yX5_night : MethodName := ⟨RX5, "night", "(I)I"⟩
abbrev cX5_odds : ByteArray := prog_7_method_72_code
def yX5_odds : MethodName := ⟨RX5, "odds", "(III)J"⟩
abbrev cX5_seed : ByteArray := prog_7_method_73_code
def yX5_seed : MethodName := ⟨RX5, "seed", "(I)I"⟩
abbrev cX5_feed : ByteArray := prog_7_method_74_code
def yX5_feed : MethodName := ⟨RX5, "feed", "(II)I"⟩
abbrev cX5_wipe : ByteArray := prog_7_method_75_code
def yX5_wipe : MethodName := ⟨RX5, "wipe", "()I"⟩
abbrev cX5_isLetter : ByteArray := prog_7_method_76_code
def yX5_isLetter : MethodName := ⟨RX5, "isLetter", "(I)Z"⟩
abbrev cX5_isDigit : ByteArray := prog_7_method_77_code
def yX5_isDigit : MethodName := ⟨RX5, "isDigit", "(I)Z"⟩
abbrev cX5_nextToken : ByteArray := prog_7_method_78_code
def yX5_nextToken : MethodName := ⟨RX5, "nextToken", "()V"⟩
abbrev cX5_wordOf : ByteArray := prog_7_method_79_code
def yX5_wordOf : MethodName := ⟨RX5, "wordOf", "([C)I"⟩
abbrev cX5_takesNumber : ByteArray := prog_7_method_80_code
def yX5_takesNumber : MethodName := ⟨RX5, "takesNumber", "(II)I"⟩
abbrev cX5_readsPerson : ByteArray := prog_7_method_81_code
def yX5_readsPerson : MethodName := ⟨RX5, "readsPerson", "(I)Z"⟩
abbrev cX5_readsMet : ByteArray := prog_7_method_82_code
def yX5_readsMet : MethodName := ⟨RX5, "readsMet", "()Z"⟩
abbrev cX5_readsItem : ByteArray := prog_7_method_83_code
def yX5_readsItem : MethodName := ⟨RX5, "readsItem", "()Z"⟩
abbrev cX5_text : ByteArray := prog_7_method_84_code
def yX5_text : MethodName := ⟨RX5, "text", "()I"⟩
abbrev cX5_isSpot : ByteArray := prog_7_method_85_code
def yX5_isSpot : MethodName := ⟨RX5, "isSpot", "(I)Z"⟩
abbrev cX5_hold : ByteArray := prog_7_method_86_code
def yX5_hold : MethodName := ⟨RX5, "hold", "(II)I"⟩
abbrev cX5_above : ByteArray := prog_7_method_87_code
def yX5_above : MethodName := ⟨RX5, "above", "(I)I"⟩
abbrev cX5_as : ByteArray := prog_7_method_88_code
def yX5_as : MethodName := ⟨RX5, "as", "(II)I"⟩
abbrev cX5_sheet : ByteArray := prog_7_method_89_code
def yX5_sheet : MethodName := ⟨RX5, "sheet", "(III)I"⟩
abbrev cX5_write : ByteArray := prog_7_method_90_code
def yX5_write : MethodName := ⟨RX5, "write", "(III)I"⟩
abbrev cX5_copy : ByteArray := prog_7_method_91_code
def yX5_copy : MethodName := ⟨RX5, "copy", "(IIIII)I"⟩
abbrev cX5_load : ByteArray := prog_7_method_92_code
def yX5_load : MethodName := ⟨RX5, "load", "(I)I"⟩
abbrev cX5_judge : ByteArray := prog_7_method_93_code
def yX5_judge : MethodName := ⟨RX5, "judge", "(I)I"⟩
abbrev cX5_image : ByteArray := prog_7_method_94_code
def yX5_image : MethodName := ⟨RX5, "image", "()I"⟩
abbrev cX5_undo : ByteArray := prog_7_method_95_code
def yX5_undo : MethodName := ⟨RX5, "undo", "()I"⟩
abbrev cX5_tear : ByteArray := prog_7_method_96_code
def yX5_tear : MethodName := ⟨RX5, "tear", "()I"⟩
abbrev cX5_count : ByteArray := prog_7_method_97_code
def yX5_count : MethodName := ⟨RX5, "count", "(I)I"⟩
abbrev cX5_status : ByteArray := prog_7_method_98_code
def yX5_status : MethodName := ⟨RX5, "status", "(I)I"⟩
def RJx145de : String := "java/io/Serializable"
def TJx145de : u_T := fun k => match k with
  | _ => ("", "", "", false)
def tyJx145de : Nat → FieldType := fun k => match k with
  | _ => .int
abbrev wsJx145de0 : List Cond := u_ws RJx145de TJx145de 0
def RJx9f9b0 : String := "java/lang/CharSequence"
def TJx9f9b0 : u_T := fun k => match k with
  | _ => ("", "", "", false)
def tyJx9f9b0 : Nat → FieldType := fun k => match k with
  | _ => .int
abbrev wsJx9f9b00 : List Cond := u_ws RJx9f9b0 TJx9f9b0 0
def RJxb160c : String := "java/lang/Comparable"
def TJxb160c : u_T := fun k => match k with
  | _ => ("", "", "", false)
def tyJxb160c : Nat → FieldType := fun k => match k with
  | _ => .int
abbrev wsJxb160c0 : List Cond := u_ws RJxb160c TJxb160c 0
def RJ6 : String := "java/lang/Integer"
def TJ6 : u_T := fun k => match k with
  | _ => ("", "", "", false)
def tyJ6 : Nat → FieldType := fun k => match k with
  | _ => .int
abbrev wsJ60 : List Cond := u_ws RJ6 TJ6 0
abbrev cJ6_bitCount_0f7a4 : ByteArray := prog_8_method_49_code
def yJ6_bitCount_0f7a4 : MethodName := ⟨RJ6, "bitCount", "(I)I"⟩
def RJ9 : String := "java/lang/Math"
def TJ9 : u_T := fun k => match k with
  | _ => ("", "", "", false)
def tyJ9 : Nat → FieldType := fun k => match k with
  | _ => .int
abbrev wsJ90 : List Cond := u_ws RJ9 TJ9 0
abbrev cJ9_abs_0f7a4 : ByteArray := prog_9_method_59_code
def yJ9_abs_0f7a4 : MethodName := ⟨RJ9, "abs", "(I)I"⟩
abbrev cJ9_min_7cf53 : ByteArray := prog_9_method_69_code
def yJ9_min_7cf53 : MethodName := ⟨RJ9, "min", "(II)I"⟩
def RJ0 : String := "java/lang/String"
def TJ0 : u_T := fun k => match k with
  | _ => ("", "", "", false)
def tyJ0 : Nat → FieldType := fun k => match k with
  | _ => .int
abbrev wsJ00 : List Cond := u_ws RJ0 TJ0 0
abbrev cJ0_length_8abf5 : ByteArray := prog_10_method_54_code
def yJ0_length_8abf5 : MethodName := ⟨RJ0, "length", "()I"⟩
abbrev cJ0_charAt_5068e : ByteArray := prog_10_method_56_code
def yJ0_charAt_5068e : MethodName := ⟨RJ0, "charAt", "(I)C"⟩
abbrev cJ0_coder_7d493 : ByteArray := prog_10_method_152_code
def yJ0_coder_7d493 : MethodName := ⟨RJ0, "coder", "()B"⟩
abbrev cJ0_isLatin1_aae02 : ByteArray := prog_10_method_154_code
def yJ0_isLatin1_aae02 : MethodName := ⟨RJ0, "isLatin1", "()Z"⟩
abbrev cJ0_checkIndex_df160 : ByteArray := prog_10_method_155_code
def yJ0_checkIndex_df160 : MethodName := ⟨RJ0, "checkIndex", "(II)V"⟩
def RJ1 : String := "java/lang/StringLatin1"
def TJ1 : u_T := fun k => match k with
  | _ => ("", "", "", false)
def tyJ1 : Nat → FieldType := fun k => match k with
  | _ => .int
abbrev wsJ10 : List Cond := u_ws RJ1 TJ1 0
abbrev cJ1_charAt_3b067 : ByteArray := prog_11_method_2_code
def yJ1_charAt_3b067 : MethodName := ⟨RJ1, "charAt", "([BI)C"⟩
def RJ2 : String := "java/lang/StringUTF16"
def TJ2 : u_T := fun k => match k with
  | _ => ("", "", "", false)
def tyJ2 : Nat → FieldType := fun k => match k with
  | _ => .int
abbrev wsJ20 : List Cond := u_ws RJ2 TJ2 0
abbrev cJ2_getChar_3b067 : ByteArray := prog_12_method_5_code
def yJ2_getChar_3b067 : MethodName := ⟨RJ2, "getChar", "([BI)C"⟩
abbrev cJ2_length_9d52b : ByteArray := prog_12_method_6_code
def yJ2_length_9d52b : MethodName := ⟨RJ2, "length", "([B)I"⟩
abbrev cJ2_charAt_3b067 : ByteArray := prog_12_method_83_code
def yJ2_charAt_3b067 : MethodName := ⟨RJ2, "charAt", "([BI)C"⟩
abbrev cJ2_checkIndex_2214a : ByteArray := prog_12_method_91_code
def yJ2_checkIndex_2214a : MethodName := ⟨RJ2, "checkIndex", "(I[B)V"⟩
def RJ10 : String := "java/lang/System"
def TJ10 : u_T := fun k => match k with
  | _ => ("", "", "", false)
def tyJ10 : Nat → FieldType := fun k => match k with
  | _ => .int
abbrev wsJ100 : List Cond := u_ws RJ10 TJ10 0
def RJxfd54e : String := "java/lang/constant/Constable"
def TJxfd54e : u_T := fun k => match k with
  | _ => ("", "", "", false)
def tyJxfd54e : Nat → FieldType := fun k => match k with
  | _ => .int
abbrev wsJxfd54e0 : List Cond := u_ws RJxfd54e TJxfd54e 0
def RJx3cf43 : String := "java/lang/constant/ConstantDesc"
def TJx3cf43 : u_T := fun k => match k with
  | _ => ("", "", "", false)
def tyJx3cf43 : Nat → FieldType := fun k => match k with
  | _ => .int
abbrev wsJx3cf430 : List Cond := u_ws RJx3cf43 TJx3cf43 0
def RJ7 : String := "java/util/Arrays"
def TJ7 : u_T := fun k => match k with
  | _ => ("", "", "", false)
def tyJ7 : Nat → FieldType := fun k => match k with
  | _ => .int
abbrev wsJ70 : List Cond := u_ws RJ7 TJ7 0
abbrev cJ7_rangeCheck_23922 : ByteArray := prog_14_method_30_code
def yJ7_rangeCheck_23922 : MethodName := ⟨RJ7, "rangeCheck", "(III)V"⟩
abbrev cJ7_fill_53178 : ByteArray := prog_14_method_103_code
def yJ7_fill_53178 : MethodName := ⟨RJ7, "fill", "([II)V"⟩
abbrev cJ7_fill_fda19 : ByteArray := prog_14_method_104_code
def yJ7_fill_fda19 : MethodName := ⟨RJ7, "fill", "([IIII)V"⟩
def RJ3 : String := "jdk/internal/util/Preconditions"
def TJ3 : u_T := fun k => match k with
  | _ => ("", "", "", false)
def tyJ3 : Nat → FieldType := fun k => match k with
  | _ => .int
abbrev wsJ30 : List Cond := u_ws RJ3 TJ3 0
abbrev cJ3_checkIndex_8e157 : ByteArray := prog_15_method_11_code
def yJ3_checkIndex_8e157 : MethodName := ⟨RJ3, "checkIndex", "(IILjava/util/function/BiFunction;)I"⟩
def RL : String := "BareThursdayLaw"
abbrev cL_law : ByteArray := code
def yL_law : MethodName := ⟨RL, "law", "([I)Z"⟩
def wA : List Cond := lw_tbl.filter goodWord
theorem wA_of {w : Cond} (h : w ∈ lw_tbl) (g : goodWord w = true) : w ∈ wA := List.mem_filter.mpr ⟨h, g⟩
theorem wA_tbl {w : Cond} (h : w ∈ wA) : w ∈ lw_tbl := (List.mem_filter.mp h).1
theorem wA_good {w : Cond} (h : w ∈ wA) : goodWord w = true := (List.mem_filter.mp h).2
theorem tb_sub {w : Cond} (h : w ∈ tables_1) : w ∈ lw_tbl := List.mem_append_right _ h
theorem kA0 {w : Cond} {i : Nat} (h : (k2_sels lw_privs)[i]? = some w) (g : goodWord w = true) : w ∈ wA := wA_of (List.mem_append_left _ (List.mem_of_getElem? h)) g
theorem kA1 {w : Cond} {i : Nat} (h : tables_1_1[i]? = some w) (g : goodWord w = true) : w ∈ wA := wA_of (tb_sub (List.mem_append_left _ (List.mem_of_getElem? h))) g
theorem kA2 {w : Cond} {i : Nat} (h : tables_1_2[i]? = some w) (g : goodWord w = true) : w ∈ wA := wA_of (tb_sub (List.mem_append_right _ (List.mem_append_left _ (List.mem_of_getElem? h)))) g
theorem kA3 {w : Cond} {i : Nat} (h : tables_1_3[i]? = some w) (g : goodWord w = true) : w ∈ wA := wA_of (tb_sub (List.mem_append_right _ (List.mem_append_right _ (List.mem_append_left _ (List.mem_of_getElem? h))))) g
theorem kA4 {w : Cond} {i : Nat} (h : tables_1_4[i]? = some w) (g : goodWord w = true) : w ∈ wA := wA_of (tb_sub (List.mem_append_right _ (List.mem_append_right _ (List.mem_append_right _ (List.mem_append_left _ (List.mem_of_getElem? h)))))) g
theorem kA5 {w : Cond} {i : Nat} (h : tables_1_5[i]? = some w) (g : goodWord w = true) : w ∈ wA := wA_of (tb_sub (List.mem_append_right _ (List.mem_append_right _ (List.mem_append_right _ (List.mem_append_right _ (List.mem_of_getElem? h)))))) g
theorem k1_0 : (Jvm.Cond.initialized "BareThursdayLaw") ∈ wA := kA1 (i := 0) rfl rfl
theorem k1_1 : (Jvm.Cond.initialized "BareThursday") ∈ wA := kA1 (i := 1) rfl rfl
theorem k1_2 : (Jvm.Cond.initialized "BareThursday$Town") ∈ wA := kA1 (i := 2) rfl rfl
theorem k1_3 : (Jvm.Cond.initialized "java/util/Arrays") ∈ wA := kA1 (i := 3) rfl rfl
theorem k1_4 : (Jvm.Cond.initialized "BareThursday$Tape") ∈ wA := kA1 (i := 4) rfl rfl
theorem k1_5 : (Jvm.Cond.initialized "BareThursday$Sheets") ∈ wA := kA1 (i := 5) rfl rfl
theorem k1_6 : (Jvm.Cond.initialized "BareThursdayModel") ∈ wA := kA1 (i := 6) rfl rfl
theorem k1_7 : (Jvm.Cond.initialized "BareThursday$Kinds") ∈ wA := kA1 (i := 7) rfl rfl
theorem k1_8 : (Jvm.Cond.initialized "java/lang/Integer") ∈ wA := kA1 (i := 8) rfl rfl
theorem k1_9 : (Jvm.Cond.initialized "java/lang/Math") ∈ wA := kA1 (i := 9) rfl rfl
theorem k1_10 : (Jvm.Cond.initialized "java/lang/System") ∈ wA := kA1 (i := 10) rfl rfl
theorem k1_11 : (Jvm.Cond.initialized "java/lang/String") ∈ wA := kA1 (i := 11) rfl rfl
theorem k1_12 : (Jvm.Cond.initialized "java/lang/StringLatin1") ∈ wA := kA1 (i := 12) rfl rfl
theorem k1_13 : (Jvm.Cond.initialized "jdk/internal/util/Preconditions") ∈ wA := kA1 (i := 13) rfl rfl
theorem k1_14 : (Jvm.Cond.initialized "java/lang/StringUTF16") ∈ wA := kA1 (i := 14) rfl rfl
theorem k1_15 : (Jvm.Cond.classLink "BareThursdayLaw" (7 : Nat) "BareThursday") ∈ wA := kA1 (i := 15) rfl rfl
theorem k1_16 : (Jvm.Cond.instantiable "BareThursday" (7 : Nat)) ∈ wA := kA1 (i := 16) rfl rfl
theorem k1_17 : (Jvm.Cond.methodLink "BareThursdayLaw" (9 : Nat) ({ cls := "BareThursday", name := "<init>", desc := "()V" } : Jvm.MethodName)) ∈ wA := kA1 (i := 17) rfl rfl
theorem k1_18 : (Jvm.Cond.instanceMethod ({ cls := "BareThursday", name := "<init>", desc := "()V" } : Jvm.MethodName)) ∈ wA := kA1 (i := 18) rfl rfl
theorem k1_19 : (Jvm.Cond.code ({ cls := "BareThursday", name := "<init>", desc := "()V" } : Jvm.MethodName) prog_1_method_1_code (1 : Nat) (Option.none : Option Jvm.ClassFile.FieldType)) ∈ wA := kA1 (i := 19) rfl rfl
theorem k1_20 : (Jvm.Cond.methodLink "BareThursday" (1 : Nat) ({ cls := "java/lang/Object", name := "<init>", desc := "()V" } : Jvm.MethodName)) ∈ wA := kA1 (i := 20) rfl rfl
theorem k1_21 : (Jvm.Cond.instanceMethod ({ cls := "java/lang/Object", name := "<init>", desc := "()V" } : Jvm.MethodName)) ∈ wA := kA1 (i := 21) rfl rfl
theorem k1_22 : (Jvm.Cond.code ({ cls := "java/lang/Object", name := "<init>", desc := "()V" } : Jvm.MethodName) object_method_1_code (1 : Nat) (Option.none : Option Jvm.ClassFile.FieldType)) ∈ wA := kA1 (i := 22) rfl rfl
theorem k1_23 : (Jvm.Cond.classLink "BareThursday" (7 : Nat) "BareThursday$Town") ∈ wA := kA1 (i := 23) rfl rfl
theorem k1_24 : (Jvm.Cond.instantiable "BareThursday$Town" (12 : Nat)) ∈ wA := kA1 (i := 24) rfl rfl
theorem k1_25 : (Jvm.Cond.methodLink "BareThursday" (9 : Nat) ({ cls := "BareThursday$Town", name := "<init>", desc := "()V" } : Jvm.MethodName)) ∈ wA := kA1 (i := 25) rfl rfl
theorem k1_26 : (Jvm.Cond.instanceMethod ({ cls := "BareThursday$Town", name := "<init>", desc := "()V" } : Jvm.MethodName)) ∈ wA := kA1 (i := 26) rfl rfl
theorem k1_27 : (Jvm.Cond.code ({ cls := "BareThursday$Town", name := "<init>", desc := "()V" } : Jvm.MethodName) prog_5_method_1_code (1 : Nat) (Option.none : Option Jvm.ClassFile.FieldType)) ∈ wA := kA1 (i := 27) rfl rfl
theorem k1_28 : (Jvm.Cond.methodLink "BareThursday$Town" (1 : Nat) ({ cls := "java/lang/Object", name := "<init>", desc := "()V" } : Jvm.MethodName)) ∈ wA := kA1 (i := 28) rfl rfl
theorem k1_29 : (Jvm.Cond.methodLink "BareThursday$Town" (38 : Nat) ({ cls := "java/util/Arrays", name := "fill", desc := "([II)V" } : Jvm.MethodName)) ∈ wA := kA1 (i := 29) rfl rfl
theorem k1_30 : (Jvm.Cond.static ({ cls := "java/util/Arrays", name := "fill", desc := "([II)V" } : Jvm.MethodName)) ∈ wA := kA1 (i := 30) rfl rfl
theorem k1_31 : (Jvm.Cond.code ({ cls := "java/util/Arrays", name := "fill", desc := "([II)V" } : Jvm.MethodName) prog_14_method_103_code (4 : Nat) (Option.none : Option Jvm.ClassFile.FieldType)) ∈ wA := kA1 (i := 31) rfl rfl
theorem k1_32 : (Jvm.Cond.fieldLink "BareThursday$Town" (44 : Nat) "BareThursday$Town" "people" "I") ∈ wA := kA1 (i := 32) rfl rfl
theorem k1_33 : (Jvm.Cond.fieldLink "BareThursday$Tape" (98 : Nat) "BareThursday$Town" "people" "I") ∈ wA := kA1 (i := 33) rfl rfl
theorem k1_34 : (Jvm.Cond.fieldLink "BareThursday" (144 : Nat) "BareThursday$Town" "people" "I") ∈ wA := kA1 (i := 34) rfl rfl
theorem k1_35 : (Jvm.Cond.fieldLink "BareThursday$Town" (47 : Nat) "BareThursday$Town" "day" "I") ∈ wA := kA1 (i := 35) rfl rfl
theorem k1_36 : (Jvm.Cond.fieldLink "BareThursday" (107 : Nat) "BareThursday$Town" "day" "I") ∈ wA := kA1 (i := 36) rfl rfl
theorem k1_37 : (Jvm.Cond.fieldLink "BareThursday$Town" (50 : Nat) "BareThursday$Town" "joy" "I") ∈ wA := kA1 (i := 37) rfl rfl
theorem k1_38 : (Jvm.Cond.fieldLink "BareThursday" (103 : Nat) "BareThursday$Town" "joy" "I") ∈ wA := kA1 (i := 38) rfl rfl
theorem k1_39 : (Jvm.Cond.fieldLink "BareThursday$Town" (7 : Nat) "BareThursday$Town" "z" "I") ∈ wA := kA1 (i := 39) rfl rfl
theorem k1_40 : (Jvm.Cond.fieldLink "BareThursday" (189 : Nat) "BareThursday$Town" "z" "I") ∈ wA := kA1 (i := 40) rfl rfl
theorem k1_41 : (Jvm.Cond.fieldLink "BareThursday$Town" (13 : Nat) "BareThursday$Town" "spots" "[I") ∈ wA := kA1 (i := 41) rfl rfl
theorem k1_42 : (Jvm.Cond.fieldLink "BareThursday" (206 : Nat) "BareThursday$Town" "spots" "[I") ∈ wA := kA1 (i := 42) rfl rfl
theorem k1_43 : (Jvm.Cond.fieldLink "BareThursday$Town" (17 : Nat) "BareThursday$Town" "kind" "[I") ∈ wA := kA1 (i := 43) rfl rfl
theorem k1_44 : (Jvm.Cond.fieldLink "BareThursday$Town" (20 : Nat) "BareThursday$Town" "cell" "[I") ∈ wA := kA1 (i := 44) rfl rfl
theorem k1_45 : (Jvm.Cond.fieldLink "BareThursday$Town" (23 : Nat) "BareThursday$Town" "guise" "[I") ∈ wA := kA1 (i := 45) rfl rfl
theorem k1_46 : (Jvm.Cond.fieldLink "BareThursday$Town" (26 : Nat) "BareThursday$Town" "met" "[I") ∈ wA := kA1 (i := 46) rfl rfl
theorem k1_47 : (Jvm.Cond.fieldLink "BareThursday$Town" (29 : Nat) "BareThursday$Town" "knows" "[I") ∈ wA := kA1 (i := 47) rfl rfl
theorem k1_48 : (Jvm.Cond.fieldLink "BareThursday$Town" (32 : Nat) "BareThursday$Town" "out" "[I") ∈ wA := kA1 (i := 48) rfl rfl
theorem k1_49 : (Jvm.Cond.fieldLink "BareThursday$Town" (35 : Nat) "BareThursday$Town" "passes" "[I") ∈ wA := kA1 (i := 49) rfl rfl
theorem k1_75 : (Jvm.Cond.arrayClass Jvm.ClassFile.FieldType.int) ∈ wA := kA1 (i := 75) rfl rfl
theorem k1_76 : (Jvm.Cond.classLink "BareThursday" (22 : Nat) "BareThursday$Tape") ∈ wA := kA1 (i := 76) rfl rfl
theorem k1_77 : (Jvm.Cond.instantiable "BareThursday$Tape" (6 : Nat)) ∈ wA := kA1 (i := 77) rfl rfl
theorem k1_79 : (Jvm.Cond.instanceMethod ({ cls := "BareThursday$Tape", name := "<init>", desc := "()V" } : Jvm.MethodName)) ∈ wA := kA1 (i := 79) rfl rfl
theorem k1_80 : (Jvm.Cond.code ({ cls := "BareThursday$Tape", name := "<init>", desc := "()V" } : Jvm.MethodName) prog_4_method_1_code (1 : Nat) (Option.none : Option Jvm.ClassFile.FieldType)) ∈ wA := kA1 (i := 80) rfl rfl
theorem k1_81 : (Jvm.Cond.methodLink "BareThursday$Tape" (1 : Nat) ({ cls := "java/lang/Object", name := "<init>", desc := "()V" } : Jvm.MethodName)) ∈ wA := kA1 (i := 81) rfl rfl
theorem k1_82 : (Jvm.Cond.fieldLink "BareThursday$Tape" (9 : Nat) "BareThursday$Tape" "bytes" "[I") ∈ wA := kA1 (i := 82) rfl rfl
theorem k1_83 : (Jvm.Cond.fieldLink "BareThursday$Tape" (13 : Nat) "BareThursday$Tape" "length" "I") ∈ wA := kA1 (i := 83) rfl rfl
theorem k1_84 : (Jvm.Cond.fieldLink "BareThursday$Tape" (27 : Nat) "BareThursday$Tape" "token" "I") ∈ wA := kA1 (i := 84) rfl rfl
theorem k1_85 : (Jvm.Cond.fieldLink "BareThursday$Tape" (30 : Nat) "BareThursday$Tape" "begin" "I") ∈ wA := kA1 (i := 85) rfl rfl
theorem k1_86 : (Jvm.Cond.fieldLink "BareThursday$Tape" (17 : Nat) "BareThursday$Tape" "end" "I") ∈ wA := kA1 (i := 86) rfl rfl
theorem k1_87 : (Jvm.Cond.fieldLink "BareThursday$Tape" (83 : Nat) "BareThursday$Tape" "number" "I") ∈ wA := kA1 (i := 87) rfl rfl
theorem k1_101 : (Jvm.Cond.classLink "BareThursday" (29 : Nat) "BareThursday$Sheets") ∈ wA := kA1 (i := 101) rfl rfl
theorem k1_102 : (Jvm.Cond.instantiable "BareThursday$Sheets" (3 : Nat)) ∈ wA := kA1 (i := 102) rfl rfl
theorem k1_104 : (Jvm.Cond.instanceMethod ({ cls := "BareThursday$Sheets", name := "<init>", desc := "()V" } : Jvm.MethodName)) ∈ wA := kA1 (i := 104) rfl rfl
theorem k1_105 : (Jvm.Cond.code ({ cls := "BareThursday$Sheets", name := "<init>", desc := "()V" } : Jvm.MethodName) prog_3_method_1_code (1 : Nat) (Option.none : Option Jvm.ClassFile.FieldType)) ∈ wA := kA1 (i := 105) rfl rfl
theorem k1_106 : (Jvm.Cond.methodLink "BareThursday$Sheets" (1 : Nat) ({ cls := "java/lang/Object", name := "<init>", desc := "()V" } : Jvm.MethodName)) ∈ wA := kA1 (i := 106) rfl rfl
theorem k1_107 : (Jvm.Cond.fieldLink "BareThursday$Sheets" (9 : Nat) "BareThursday$Sheets" "bits" "[I") ∈ wA := kA1 (i := 107) rfl rfl
theorem k1_108 : (Jvm.Cond.fieldLink "BareThursday$Sheets" (13 : Nat) "BareThursday$Sheets" "lengths" "[I") ∈ wA := kA1 (i := 108) rfl rfl
theorem k1_109 : (Jvm.Cond.fieldLink "BareThursday$Sheets" (16 : Nat) "BareThursday$Sheets" "numbers" "[I") ∈ wA := kA1 (i := 109) rfl rfl
theorem k1_117 : (Jvm.Cond.fieldLink "BareThursday" (10 : Nat) "BareThursday" "town" "LBareThursday$Town;") ∈ wA := kA1 (i := 117) rfl rfl
theorem k1_118 : (Jvm.Cond.fieldLink "BareThursday" (16 : Nat) "BareThursday" "trial" "LBareThursday$Town;") ∈ wA := kA1 (i := 118) rfl rfl
theorem k1_119 : (Jvm.Cond.fieldLink "BareThursday" (19 : Nat) "BareThursday" "kept" "LBareThursday$Town;") ∈ wA := kA1 (i := 119) rfl rfl
theorem k1_120 : (Jvm.Cond.fieldLink "BareThursday" (233 : Nat) "BareThursday" "isKept" "Z") ∈ wA := kA1 (i := 120) rfl rfl
theorem k1_121 : (Jvm.Cond.fieldLink "BareThursday" (25 : Nat) "BareThursday" "tape" "LBareThursday$Tape;") ∈ wA := kA1 (i := 121) rfl rfl
theorem k1_122 : (Jvm.Cond.fieldLink "BareThursday" (32 : Nat) "BareThursday" "sheets" "LBareThursday$Sheets;") ∈ wA := kA1 (i := 122) rfl rfl
theorem k1_123 : (Jvm.Cond.fieldLink "BareThursday" (36 : Nat) "BareThursday" "found" "[I") ∈ wA := kA1 (i := 123) rfl rfl
theorem k1_139 : (Jvm.Cond.methodLink "BareThursdayLaw" (13 : Nat) ({ cls := "BareThursday", name := "person", desc := "(II)I" } : Jvm.MethodName)) ∈ wA := kA1 (i := 139) rfl rfl
theorem k1_140 : (Jvm.Cond.instanceMethod ({ cls := "BareThursday", name := "person", desc := "(II)I" } : Jvm.MethodName)) ∈ wA := kA1 (i := 140) rfl rfl
theorem k1_141 : (Jvm.Cond.selects "BareThursday" ({ cls := "BareThursday", name := "person", desc := "(II)I" } : Jvm.MethodName) ({ cls := "BareThursday", name := "person", desc := "(II)I" } : Jvm.MethodName)) ∈ wA := kA1 (i := 141) rfl rfl
theorem k1_142 : (Jvm.Cond.code ({ cls := "BareThursday", name := "person", desc := "(II)I" } : Jvm.MethodName) prog_1_method_2_code (3 : Nat) (Option.some Jvm.ClassFile.FieldType.int)) ∈ wA := kA1 (i := 142) rfl rfl
theorem k1_143 : (Jvm.Cond.methodLink "BareThursday" (40 : Nat) ({ cls := "BareThursday", name := "isIn", desc := "(II)Z" } : Jvm.MethodName)) ∈ wA := kA1 (i := 143) rfl rfl
theorem k1_144 : (Jvm.Cond.static ({ cls := "BareThursday", name := "isIn", desc := "(II)Z" } : Jvm.MethodName)) ∈ wA := kA1 (i := 144) rfl rfl
theorem k1_145 : (Jvm.Cond.code ({ cls := "BareThursday", name := "isIn", desc := "(II)Z" } : Jvm.MethodName) prog_1_method_48_code (2 : Nat) (Option.some Jvm.ClassFile.FieldType.boolean)) ∈ wA := kA1 (i := 145) rfl rfl
theorem k1_146 : (Jvm.Cond.methodLink "BareThursday" (44 : Nat) ({ cls := "BareThursday", name := "finding", desc := "(I)I" } : Jvm.MethodName)) ∈ wA := kA1 (i := 146) rfl rfl
theorem k1_148 : (Jvm.Cond.instanceMethod ({ cls := "BareThursday", name := "finding", desc := "(I)I" } : Jvm.MethodName)) ∈ wA := kA1 (i := 148) rfl rfl
theorem k1_149 : (Jvm.Cond.code ({ cls := "BareThursday", name := "finding", desc := "(I)I" } : Jvm.MethodName) prog_1_method_47_code (2 : Nat) (Option.some Jvm.ClassFile.FieldType.int)) ∈ wA := kA1 (i := 149) rfl rfl
theorem k1_150 : (Jvm.Cond.constant "BareThursday" (240 : Nat) (-1000001 : Int32)) ∈ wA := kA1 (i := 150) rfl rfl
theorem k1_151 : (Jvm.Cond.methodLink "BareThursday" (48 : Nat) ({ cls := "BareThursday$Town", name := "isFull", desc := "()Z" } : Jvm.MethodName)) ∈ wA := kA1 (i := 151) rfl rfl
theorem k1_152 : (Jvm.Cond.instanceMethod ({ cls := "BareThursday$Town", name := "isFull", desc := "()Z" } : Jvm.MethodName)) ∈ wA := kA1 (i := 152) rfl rfl
theorem k1_153 : (Jvm.Cond.selects "BareThursday$Town" ({ cls := "BareThursday$Town", name := "isFull", desc := "()Z" } : Jvm.MethodName) ({ cls := "BareThursday$Town", name := "isFull", desc := "()Z" } : Jvm.MethodName)) ∈ wA := kA1 (i := 153) rfl rfl
theorem k1_154 : (Jvm.Cond.code ({ cls := "BareThursday$Town", name := "isFull", desc := "()Z" } : Jvm.MethodName) prog_5_method_6_code (1 : Nat) (Option.some Jvm.ClassFile.FieldType.boolean)) ∈ wA := kA1 (i := 154) rfl rfl
theorem k1_155 : (Jvm.Cond.methodLink "BareThursday" (52 : Nat) ({ cls := "BareThursday$Town", name := "add", desc := "(II)I" } : Jvm.MethodName)) ∈ wA := kA1 (i := 155) rfl rfl
theorem k1_156 : (Jvm.Cond.instanceMethod ({ cls := "BareThursday$Town", name := "add", desc := "(II)I" } : Jvm.MethodName)) ∈ wA := kA1 (i := 156) rfl rfl
theorem k1_157 : (Jvm.Cond.selects "BareThursday$Town" ({ cls := "BareThursday$Town", name := "add", desc := "(II)I" } : Jvm.MethodName) ({ cls := "BareThursday$Town", name := "add", desc := "(II)I" } : Jvm.MethodName)) ∈ wA := kA1 (i := 157) rfl rfl
theorem k1_158 : (Jvm.Cond.code ({ cls := "BareThursday$Town", name := "add", desc := "(II)I" } : Jvm.MethodName) prog_5_method_8_code (4 : Nat) (Option.some Jvm.ClassFile.FieldType.int)) ∈ wA := kA1 (i := 158) rfl rfl
theorem k1_159 : (Jvm.Cond.methodLink "BareThursday$Town" (63 : Nat) ({ cls := "BareThursday$Town", name := "isFull", desc := "()Z" } : Jvm.MethodName)) ∈ wA := kA1 (i := 159) rfl rfl
theorem k1_160 : (Jvm.Cond.methodLink "BareThursday$Town" (67 : Nat) ({ cls := "BareThursday$Town", name := "put", desc := "(III)V" } : Jvm.MethodName)) ∈ wA := kA1 (i := 160) rfl rfl
theorem k1_161 : (Jvm.Cond.instanceMethod ({ cls := "BareThursday$Town", name := "put", desc := "(III)V" } : Jvm.MethodName)) ∈ wA := kA1 (i := 161) rfl rfl
theorem k1_162 : (Jvm.Cond.selects "BareThursday$Town" ({ cls := "BareThursday$Town", name := "put", desc := "(III)V" } : Jvm.MethodName) ({ cls := "BareThursday$Town", name := "put", desc := "(III)V" } : Jvm.MethodName)) ∈ wA := kA1 (i := 162) rfl rfl
theorem k1_163 : (Jvm.Cond.code ({ cls := "BareThursday$Town", name := "put", desc := "(III)V" } : Jvm.MethodName) prog_5_method_12_code (4 : Nat) (Option.none : Option Jvm.ClassFile.FieldType)) ∈ wA := kA1 (i := 163) rfl rfl
theorem k1_164 : (Jvm.Cond.methodLink "BareThursday$Town" (59 : Nat) ({ cls := "BareThursday$Town", name := "isThere", desc := "(I)Z" } : Jvm.MethodName)) ∈ wA := kA1 (i := 164) rfl rfl
theorem k1_165 : (Jvm.Cond.instanceMethod ({ cls := "BareThursday$Town", name := "isThere", desc := "(I)Z" } : Jvm.MethodName)) ∈ wA := kA1 (i := 165) rfl rfl
theorem k1_166 : (Jvm.Cond.selects "BareThursday$Town" ({ cls := "BareThursday$Town", name := "isThere", desc := "(I)Z" } : Jvm.MethodName) ({ cls := "BareThursday$Town", name := "isThere", desc := "(I)Z" } : Jvm.MethodName)) ∈ wA := kA1 (i := 166) rfl rfl
theorem k1_167 : (Jvm.Cond.code ({ cls := "BareThursday$Town", name := "isThere", desc := "(I)Z" } : Jvm.MethodName) prog_5_method_4_code (2 : Nat) (Option.some Jvm.ClassFile.FieldType.boolean)) ∈ wA := kA1 (i := 167) rfl rfl
theorem k1_168 : (Jvm.Cond.methodLink "BareThursdayLaw" (18 : Nat) ({ cls := "BareThursday", name := "of", desc := "(II)I" } : Jvm.MethodName)) ∈ wA := kA1 (i := 168) rfl rfl
theorem k1_169 : (Jvm.Cond.instanceMethod ({ cls := "BareThursday", name := "of", desc := "(II)I" } : Jvm.MethodName)) ∈ wA := kA1 (i := 169) rfl rfl
theorem k1_170 : (Jvm.Cond.selects "BareThursday" ({ cls := "BareThursday", name := "of", desc := "(II)I" } : Jvm.MethodName) ({ cls := "BareThursday", name := "of", desc := "(II)I" } : Jvm.MethodName)) ∈ wA := kA1 (i := 170) rfl rfl
theorem k1_171 : (Jvm.Cond.code ({ cls := "BareThursday", name := "of", desc := "(II)I" } : Jvm.MethodName) prog_1_method_3_code (3 : Nat) (Option.some Jvm.ClassFile.FieldType.int)) ∈ wA := kA1 (i := 171) rfl rfl
theorem k1_172 : (Jvm.Cond.methodLink "BareThursday" (56 : Nat) ({ cls := "BareThursday$Town", name := "isThere", desc := "(I)Z" } : Jvm.MethodName)) ∈ wA := kA1 (i := 172) rfl rfl
theorem k1_173 : (Jvm.Cond.methodLink "BareThursday" (60 : Nat) ({ cls := "BareThursday$Town", name := "trait", desc := "(II)I" } : Jvm.MethodName)) ∈ wA := kA1 (i := 173) rfl rfl
theorem k1_174 : (Jvm.Cond.instanceMethod ({ cls := "BareThursday$Town", name := "trait", desc := "(II)I" } : Jvm.MethodName)) ∈ wA := kA1 (i := 174) rfl rfl
theorem k1_175 : (Jvm.Cond.selects "BareThursday$Town" ({ cls := "BareThursday$Town", name := "trait", desc := "(II)I" } : Jvm.MethodName) ({ cls := "BareThursday$Town", name := "trait", desc := "(II)I" } : Jvm.MethodName)) ∈ wA := kA1 (i := 175) rfl rfl
theorem k1_176 : (Jvm.Cond.code ({ cls := "BareThursday$Town", name := "trait", desc := "(II)I" } : Jvm.MethodName) prog_5_method_9_code (3 : Nat) (Option.some Jvm.ClassFile.FieldType.int)) ∈ wA := kA1 (i := 176) rfl rfl
theorem k1_177 : (Jvm.Cond.methodLink "BareThursday$Town" (71 : Nat) ({ cls := "BareThursday$Kinds", name := "walk", desc := "(II)I" } : Jvm.MethodName)) ∈ wA := kA1 (i := 177) rfl rfl
theorem k1_178 : (Jvm.Cond.static ({ cls := "BareThursday$Kinds", name := "walk", desc := "(II)I" } : Jvm.MethodName)) ∈ wA := kA1 (i := 178) rfl rfl
theorem k1_179 : (Jvm.Cond.code ({ cls := "BareThursday$Kinds", name := "walk", desc := "(II)I" } : Jvm.MethodName) prog_2_method_4_code (3 : Nat) (Option.some Jvm.ClassFile.FieldType.int)) ∈ wA := kA1 (i := 179) rfl rfl
theorem k1_180 : (Jvm.Cond.methodLink "BareThursday$Kinds" (13 : Nat) ({ cls := "BareThursday$Town", name := "isTheDay", desc := "(I)Z" } : Jvm.MethodName)) ∈ wA := kA1 (i := 180) rfl rfl
theorem k1_181 : (Jvm.Cond.static ({ cls := "BareThursday$Town", name := "isTheDay", desc := "(I)Z" } : Jvm.MethodName)) ∈ wA := kA1 (i := 181) rfl rfl
theorem k1_182 : (Jvm.Cond.code ({ cls := "BareThursday$Town", name := "isTheDay", desc := "(I)Z" } : Jvm.MethodName) prog_5_method_3_code (1 : Nat) (Option.some Jvm.ClassFile.FieldType.boolean)) ∈ wA := kA1 (i := 182) rfl rfl
theorem k1_183 : (Jvm.Cond.methodLink "BareThursday$Town" (77 : Nat) ({ cls := "BareThursday$Kinds", name := "shift", desc := "(II)I" } : Jvm.MethodName)) ∈ wA := kA1 (i := 183) rfl rfl
theorem k1_184 : (Jvm.Cond.static ({ cls := "BareThursday$Kinds", name := "shift", desc := "(II)I" } : Jvm.MethodName)) ∈ wA := kA1 (i := 184) rfl rfl
theorem k1_185 : (Jvm.Cond.code ({ cls := "BareThursday$Kinds", name := "shift", desc := "(II)I" } : Jvm.MethodName) prog_2_method_5_code (2 : Nat) (Option.some Jvm.ClassFile.FieldType.int)) ∈ wA := kA1 (i := 185) rfl rfl
theorem k1_186 : (Jvm.Cond.methodLink "BareThursday$Town" (80 : Nat) ({ cls := "BareThursday$Kinds", name := "shine", desc := "(I)I" } : Jvm.MethodName)) ∈ wA := kA1 (i := 186) rfl rfl
theorem k1_187 : (Jvm.Cond.static ({ cls := "BareThursday$Kinds", name := "shine", desc := "(I)I" } : Jvm.MethodName)) ∈ wA := kA1 (i := 187) rfl rfl
theorem k1_188 : (Jvm.Cond.code ({ cls := "BareThursday$Kinds", name := "shine", desc := "(I)I" } : Jvm.MethodName) prog_2_method_7_code (1 : Nat) (Option.some Jvm.ClassFile.FieldType.int)) ∈ wA := kA1 (i := 188) rfl rfl
theorem k1_189 : (Jvm.Cond.methodLink "BareThursday$Town" (84 : Nat) ({ cls := "java/lang/Integer", name := "bitCount", desc := "(I)I" } : Jvm.MethodName)) ∈ wA := kA1 (i := 189) rfl rfl
theorem k1_190 : (Jvm.Cond.static ({ cls := "java/lang/Integer", name := "bitCount", desc := "(I)I" } : Jvm.MethodName)) ∈ wA := kA1 (i := 190) rfl rfl
theorem k1_191 : (Jvm.Cond.code ({ cls := "java/lang/Integer", name := "bitCount", desc := "(I)I" } : Jvm.MethodName) prog_8_method_49_code (1 : Nat) (Option.some Jvm.ClassFile.FieldType.int)) ∈ wA := kA1 (i := 191) rfl rfl
theorem k1_192 : (Jvm.Cond.constant "java/lang/Integer" (265 : Nat) (1431655765 : Int32)) ∈ wA := kA1 (i := 192) rfl rfl
theorem k1_193 : (Jvm.Cond.constant "java/lang/Integer" (266 : Nat) (858993459 : Int32)) ∈ wA := kA1 (i := 193) rfl rfl
theorem k1_194 : (Jvm.Cond.constant "java/lang/Integer" (267 : Nat) (252645135 : Int32)) ∈ wA := kA1 (i := 194) rfl rfl
theorem k1_195 : (Jvm.Cond.methodLink "BareThursday$Town" (89 : Nat) ({ cls := "BareThursday$Kinds", name := "gladden", desc := "(II)I" } : Jvm.MethodName)) ∈ wA := kA1 (i := 195) rfl rfl
theorem k1_196 : (Jvm.Cond.static ({ cls := "BareThursday$Kinds", name := "gladden", desc := "(II)I" } : Jvm.MethodName)) ∈ wA := kA1 (i := 196) rfl rfl
theorem k1_197 : (Jvm.Cond.code ({ cls := "BareThursday$Kinds", name := "gladden", desc := "(II)I" } : Jvm.MethodName) prog_2_method_8_code (3 : Nat) (Option.some Jvm.ClassFile.FieldType.int)) ∈ wA := kA1 (i := 197) rfl rfl
theorem k1_198 : (Jvm.Cond.methodLink "BareThursdayLaw" (22 : Nat) ({ cls := "BareThursday", name := "change", desc := "(III)I" } : Jvm.MethodName)) ∈ wA := kA1 (i := 198) rfl rfl
theorem k1_199 : (Jvm.Cond.instanceMethod ({ cls := "BareThursday", name := "change", desc := "(III)I" } : Jvm.MethodName)) ∈ wA := kA1 (i := 199) rfl rfl
theorem k1_200 : (Jvm.Cond.selects "BareThursday" ({ cls := "BareThursday", name := "change", desc := "(III)I" } : Jvm.MethodName) ({ cls := "BareThursday", name := "change", desc := "(III)I" } : Jvm.MethodName)) ∈ wA := kA1 (i := 200) rfl rfl
theorem k1_201 : (Jvm.Cond.code ({ cls := "BareThursday", name := "change", desc := "(III)I" } : Jvm.MethodName) prog_1_method_4_code (5 : Nat) (Option.some Jvm.ClassFile.FieldType.int)) ∈ wA := kA1 (i := 201) rfl rfl
theorem k1_202 : (Jvm.Cond.methodLink "BareThursday" (63 : Nat) ({ cls := "BareThursday$Town", name := "canBecome", desc := "(III)Z" } : Jvm.MethodName)) ∈ wA := kA1 (i := 202) rfl rfl
theorem k1_203 : (Jvm.Cond.instanceMethod ({ cls := "BareThursday$Town", name := "canBecome", desc := "(III)Z" } : Jvm.MethodName)) ∈ wA := kA1 (i := 203) rfl rfl
theorem k1_204 : (Jvm.Cond.selects "BareThursday$Town" ({ cls := "BareThursday$Town", name := "canBecome", desc := "(III)Z" } : Jvm.MethodName) ({ cls := "BareThursday$Town", name := "canBecome", desc := "(III)Z" } : Jvm.MethodName)) ∈ wA := kA1 (i := 204) rfl rfl
theorem k1_205 : (Jvm.Cond.code ({ cls := "BareThursday$Town", name := "canBecome", desc := "(III)Z" } : Jvm.MethodName) prog_5_method_10_code (4 : Nat) (Option.some Jvm.ClassFile.FieldType.boolean)) ∈ wA := kA1 (i := 205) rfl rfl
theorem k1_207 : (Jvm.Cond.methodLink "BareThursday$Town" (98 : Nat) ({ cls := "BareThursday$Town", name := "isSetOfOthers", desc := "(II)Z" } : Jvm.MethodName)) ∈ wA := kA1 (i := 207) rfl rfl
theorem k1_209 : (Jvm.Cond.instanceMethod ({ cls := "BareThursday$Town", name := "isSetOfOthers", desc := "(II)Z" } : Jvm.MethodName)) ∈ wA := kA1 (i := 209) rfl rfl
theorem k1_210 : (Jvm.Cond.code ({ cls := "BareThursday$Town", name := "isSetOfOthers", desc := "(II)Z" } : Jvm.MethodName) prog_5_method_11_code (4 : Nat) (Option.some Jvm.ClassFile.FieldType.boolean)) ∈ wA := kA1 (i := 210) rfl rfl
theorem k1_211 : (Jvm.Cond.methodLink "BareThursday$Town" (101 : Nat) ({ cls := "BareThursday$Town", name := "everybody", desc := "()I" } : Jvm.MethodName)) ∈ wA := kA1 (i := 211) rfl rfl
theorem k1_212 : (Jvm.Cond.instanceMethod ({ cls := "BareThursday$Town", name := "everybody", desc := "()I" } : Jvm.MethodName)) ∈ wA := kA1 (i := 212) rfl rfl
theorem k1_213 : (Jvm.Cond.selects "BareThursday$Town" ({ cls := "BareThursday$Town", name := "everybody", desc := "()I" } : Jvm.MethodName) ({ cls := "BareThursday$Town", name := "everybody", desc := "()I" } : Jvm.MethodName)) ∈ wA := kA1 (i := 213) rfl rfl
theorem k1_214 : (Jvm.Cond.code ({ cls := "BareThursday$Town", name := "everybody", desc := "()I" } : Jvm.MethodName) prog_5_method_7_code (1 : Nat) (Option.some Jvm.ClassFile.FieldType.int)) ∈ wA := kA1 (i := 214) rfl rfl
theorem k1_215 : (Jvm.Cond.methodLink "BareThursday" (67 : Nat) ({ cls := "BareThursday$Town", name := "put", desc := "(III)V" } : Jvm.MethodName)) ∈ wA := kA1 (i := 215) rfl rfl
theorem k1_216 : (Jvm.Cond.methodLink "BareThursdayLaw" (27 : Nat) ({ cls := "BareThursday", name := "minds", desc := "(II)I" } : Jvm.MethodName)) ∈ wA := kA1 (i := 216) rfl rfl
theorem k1_217 : (Jvm.Cond.instanceMethod ({ cls := "BareThursday", name := "minds", desc := "(II)I" } : Jvm.MethodName)) ∈ wA := kA1 (i := 217) rfl rfl
theorem k1_218 : (Jvm.Cond.selects "BareThursday" ({ cls := "BareThursday", name := "minds", desc := "(II)I" } : Jvm.MethodName) ({ cls := "BareThursday", name := "minds", desc := "(II)I" } : Jvm.MethodName)) ∈ wA := kA1 (i := 218) rfl rfl
theorem k1_219 : (Jvm.Cond.code ({ cls := "BareThursday", name := "minds", desc := "(II)I" } : Jvm.MethodName) prog_1_method_5_code (3 : Nat) (Option.some Jvm.ClassFile.FieldType.int)) ∈ wA := kA1 (i := 219) rfl rfl
theorem k1_220 : (Jvm.Cond.methodLink "BareThursday" (71 : Nat) ({ cls := "BareThursday$Town", name := "mindsGuise", desc := "(II)Z" } : Jvm.MethodName)) ∈ wA := kA1 (i := 220) rfl rfl
theorem k1_221 : (Jvm.Cond.instanceMethod ({ cls := "BareThursday$Town", name := "mindsGuise", desc := "(II)Z" } : Jvm.MethodName)) ∈ wA := kA1 (i := 221) rfl rfl
theorem k1_222 : (Jvm.Cond.selects "BareThursday$Town" ({ cls := "BareThursday$Town", name := "mindsGuise", desc := "(II)Z" } : Jvm.MethodName) ({ cls := "BareThursday$Town", name := "mindsGuise", desc := "(II)Z" } : Jvm.MethodName)) ∈ wA := kA1 (i := 222) rfl rfl
theorem k1_223 : (Jvm.Cond.code ({ cls := "BareThursday$Town", name := "mindsGuise", desc := "(II)Z" } : Jvm.MethodName) prog_5_method_16_code (3 : Nat) (Option.some Jvm.ClassFile.FieldType.boolean)) ∈ wA := kA1 (i := 223) rfl rfl
theorem k1_224 : (Jvm.Cond.methodLink "BareThursday$Town" (116 : Nat) ({ cls := "BareThursday$Kinds", name := "mind", desc := "(IIIZ)Z" } : Jvm.MethodName)) ∈ wA := kA1 (i := 224) rfl rfl
theorem k1_225 : (Jvm.Cond.static ({ cls := "BareThursday$Kinds", name := "mind", desc := "(IIIZ)Z" } : Jvm.MethodName)) ∈ wA := kA1 (i := 225) rfl rfl
theorem k1_226 : (Jvm.Cond.code ({ cls := "BareThursday$Kinds", name := "mind", desc := "(IIIZ)Z" } : Jvm.MethodName) prog_2_method_6_code (6 : Nat) (Option.some Jvm.ClassFile.FieldType.boolean)) ∈ wA := kA1 (i := 226) rfl rfl
theorem k1_227 : (Jvm.Cond.methodLink "BareThursday" (74 : Nat) ({ cls := "BareThursday", name := "bit", desc := "(Z)I" } : Jvm.MethodName)) ∈ wA := kA1 (i := 227) rfl rfl
theorem k1_228 : (Jvm.Cond.static ({ cls := "BareThursday", name := "bit", desc := "(Z)I" } : Jvm.MethodName)) ∈ wA := kA1 (i := 228) rfl rfl
theorem k1_229 : (Jvm.Cond.code ({ cls := "BareThursday", name := "bit", desc := "(Z)I" } : Jvm.MethodName) prog_1_method_49_code (1 : Nat) (Option.some Jvm.ClassFile.FieldType.int)) ∈ wA := kA1 (i := 229) rfl rfl
theorem k1_230 : (Jvm.Cond.methodLink "BareThursdayLaw" (31 : Nat) ({ cls := "BareThursday", name := "far", desc := "(II)I" } : Jvm.MethodName)) ∈ wA := kA1 (i := 230) rfl rfl
theorem k1_231 : (Jvm.Cond.instanceMethod ({ cls := "BareThursday", name := "far", desc := "(II)I" } : Jvm.MethodName)) ∈ wA := kA1 (i := 231) rfl rfl
theorem k1_232 : (Jvm.Cond.selects "BareThursday" ({ cls := "BareThursday", name := "far", desc := "(II)I" } : Jvm.MethodName) ({ cls := "BareThursday", name := "far", desc := "(II)I" } : Jvm.MethodName)) ∈ wA := kA1 (i := 232) rfl rfl
theorem k1_233 : (Jvm.Cond.code ({ cls := "BareThursday", name := "far", desc := "(II)I" } : Jvm.MethodName) prog_1_method_6_code (3 : Nat) (Option.some Jvm.ClassFile.FieldType.int)) ∈ wA := kA1 (i := 233) rfl rfl
theorem k1_234 : (Jvm.Cond.methodLink "BareThursday" (78 : Nat) ({ cls := "BareThursday$Town", name := "areTwo", desc := "(II)Z" } : Jvm.MethodName)) ∈ wA := kA1 (i := 234) rfl rfl
theorem k1_235 : (Jvm.Cond.instanceMethod ({ cls := "BareThursday$Town", name := "areTwo", desc := "(II)Z" } : Jvm.MethodName)) ∈ wA := kA1 (i := 235) rfl rfl
theorem k1_236 : (Jvm.Cond.selects "BareThursday$Town" ({ cls := "BareThursday$Town", name := "areTwo", desc := "(II)Z" } : Jvm.MethodName) ({ cls := "BareThursday$Town", name := "areTwo", desc := "(II)Z" } : Jvm.MethodName)) ∈ wA := kA1 (i := 236) rfl rfl
theorem k1_237 : (Jvm.Cond.code ({ cls := "BareThursday$Town", name := "areTwo", desc := "(II)Z" } : Jvm.MethodName) prog_5_method_5_code (3 : Nat) (Option.some Jvm.ClassFile.FieldType.boolean)) ∈ wA := kA1 (i := 237) rfl rfl
theorem k1_238 : (Jvm.Cond.methodLink "BareThursday" (81 : Nat) ({ cls := "BareThursday$Town", name := "distance", desc := "(II)I" } : Jvm.MethodName)) ∈ wA := kA1 (i := 238) rfl rfl
theorem k1_239 : (Jvm.Cond.instanceMethod ({ cls := "BareThursday$Town", name := "distance", desc := "(II)I" } : Jvm.MethodName)) ∈ wA := kA1 (i := 239) rfl rfl
theorem k2_0 : (Jvm.Cond.selects "BareThursday$Town" ({ cls := "BareThursday$Town", name := "distance", desc := "(II)I" } : Jvm.MethodName) ({ cls := "BareThursday$Town", name := "distance", desc := "(II)I" } : Jvm.MethodName)) ∈ wA := kA2 (i := 0) rfl rfl
theorem k2_1 : (Jvm.Cond.code ({ cls := "BareThursday$Town", name := "distance", desc := "(II)I" } : Jvm.MethodName) prog_5_method_14_code (4 : Nat) (Option.some Jvm.ClassFile.FieldType.int)) ∈ wA := kA2 (i := 1) rfl rfl
theorem k2_2 : (Jvm.Cond.methodLink "BareThursday$Town" (108 : Nat) ({ cls := "java/lang/Math", name := "abs", desc := "(I)I" } : Jvm.MethodName)) ∈ wA := kA2 (i := 2) rfl rfl
theorem k2_3 : (Jvm.Cond.static ({ cls := "java/lang/Math", name := "abs", desc := "(I)I" } : Jvm.MethodName)) ∈ wA := kA2 (i := 3) rfl rfl
theorem k2_4 : (Jvm.Cond.code ({ cls := "java/lang/Math", name := "abs", desc := "(I)I" } : Jvm.MethodName) prog_9_method_59_code (1 : Nat) (Option.some Jvm.ClassFile.FieldType.int)) ∈ wA := kA2 (i := 4) rfl rfl
theorem k2_5 : (Jvm.Cond.methodLink "BareThursday$Town" (113 : Nat) ({ cls := "java/lang/Math", name := "min", desc := "(II)I" } : Jvm.MethodName)) ∈ wA := kA2 (i := 5) rfl rfl
theorem k2_6 : (Jvm.Cond.static ({ cls := "java/lang/Math", name := "min", desc := "(II)I" } : Jvm.MethodName)) ∈ wA := kA2 (i := 6) rfl rfl
theorem k2_7 : (Jvm.Cond.code ({ cls := "java/lang/Math", name := "min", desc := "(II)I" } : Jvm.MethodName) prog_9_method_69_code (2 : Nat) (Option.some Jvm.ClassFile.FieldType.int)) ∈ wA := kA2 (i := 7) rfl rfl
theorem k2_8 : (Jvm.Cond.methodLink "BareThursdayLaw" (35 : Nat) ({ cls := "BareThursday", name := "who", desc := "(I)I" } : Jvm.MethodName)) ∈ wA := kA2 (i := 8) rfl rfl
theorem k2_9 : (Jvm.Cond.instanceMethod ({ cls := "BareThursday", name := "who", desc := "(I)I" } : Jvm.MethodName)) ∈ wA := kA2 (i := 9) rfl rfl
theorem k2_10 : (Jvm.Cond.selects "BareThursday" ({ cls := "BareThursday", name := "who", desc := "(I)I" } : Jvm.MethodName) ({ cls := "BareThursday", name := "who", desc := "(I)I" } : Jvm.MethodName)) ∈ wA := kA2 (i := 10) rfl rfl
theorem k2_11 : (Jvm.Cond.code ({ cls := "BareThursday", name := "who", desc := "(I)I" } : Jvm.MethodName) prog_1_method_7_code (2 : Nat) (Option.some Jvm.ClassFile.FieldType.int)) ∈ wA := kA2 (i := 11) rfl rfl
theorem k2_12 : (Jvm.Cond.methodLink "BareThursday" (84 : Nat) ({ cls := "BareThursday$Town", name := "peopleAt", desc := "(I)I" } : Jvm.MethodName)) ∈ wA := kA2 (i := 12) rfl rfl
theorem k2_13 : (Jvm.Cond.instanceMethod ({ cls := "BareThursday$Town", name := "peopleAt", desc := "(I)I" } : Jvm.MethodName)) ∈ wA := kA2 (i := 13) rfl rfl
theorem k2_14 : (Jvm.Cond.selects "BareThursday$Town" ({ cls := "BareThursday$Town", name := "peopleAt", desc := "(I)I" } : Jvm.MethodName) ({ cls := "BareThursday$Town", name := "peopleAt", desc := "(I)I" } : Jvm.MethodName)) ∈ wA := kA2 (i := 14) rfl rfl
theorem k2_15 : (Jvm.Cond.code ({ cls := "BareThursday$Town", name := "peopleAt", desc := "(I)I" } : Jvm.MethodName) prog_5_method_15_code (4 : Nat) (Option.some Jvm.ClassFile.FieldType.int)) ∈ wA := kA2 (i := 15) rfl rfl
theorem k2_16 : (Jvm.Cond.methodLink "BareThursdayLaw" (40 : Nat) ({ cls := "BareThursday", name := "two", desc := "(III)I" } : Jvm.MethodName)) ∈ wA := kA2 (i := 16) rfl rfl
theorem k2_17 : (Jvm.Cond.instanceMethod ({ cls := "BareThursday", name := "two", desc := "(III)I" } : Jvm.MethodName)) ∈ wA := kA2 (i := 17) rfl rfl
theorem k2_18 : (Jvm.Cond.selects "BareThursday" ({ cls := "BareThursday", name := "two", desc := "(III)I" } : Jvm.MethodName) ({ cls := "BareThursday", name := "two", desc := "(III)I" } : Jvm.MethodName)) ∈ wA := kA2 (i := 18) rfl rfl
theorem k2_19 : (Jvm.Cond.code ({ cls := "BareThursday", name := "two", desc := "(III)I" } : Jvm.MethodName) prog_1_method_8_code (4 : Nat) (Option.some Jvm.ClassFile.FieldType.int)) ∈ wA := kA2 (i := 19) rfl rfl
theorem k2_20 : (Jvm.Cond.methodLink "BareThursday" (87 : Nat) ({ cls := "BareThursday$Town", name := "bothMet", desc := "(II)Z" } : Jvm.MethodName)) ∈ wA := kA2 (i := 20) rfl rfl
theorem k2_21 : (Jvm.Cond.instanceMethod ({ cls := "BareThursday$Town", name := "bothMet", desc := "(II)Z" } : Jvm.MethodName)) ∈ wA := kA2 (i := 21) rfl rfl
theorem k2_22 : (Jvm.Cond.selects "BareThursday$Town" ({ cls := "BareThursday$Town", name := "bothMet", desc := "(II)Z" } : Jvm.MethodName) ({ cls := "BareThursday$Town", name := "bothMet", desc := "(II)Z" } : Jvm.MethodName)) ∈ wA := kA2 (i := 22) rfl rfl
theorem k2_23 : (Jvm.Cond.code ({ cls := "BareThursday$Town", name := "bothMet", desc := "(II)Z" } : Jvm.MethodName) prog_5_method_18_code (3 : Nat) (Option.some Jvm.ClassFile.FieldType.boolean)) ∈ wA := kA2 (i := 23) rfl rfl
theorem k2_24 : (Jvm.Cond.methodLink "BareThursday$Town" (123 : Nat) ({ cls := "BareThursday$Town", name := "isMutual", desc := "([III)Z" } : Jvm.MethodName)) ∈ wA := kA2 (i := 24) rfl rfl
theorem k2_25 : (Jvm.Cond.static ({ cls := "BareThursday$Town", name := "isMutual", desc := "([III)Z" } : Jvm.MethodName)) ∈ wA := kA2 (i := 25) rfl rfl
theorem k2_26 : (Jvm.Cond.code ({ cls := "BareThursday$Town", name := "isMutual", desc := "([III)Z" } : Jvm.MethodName) prog_5_method_29_code (3 : Nat) (Option.some Jvm.ClassFile.FieldType.boolean)) ∈ wA := kA2 (i := 26) rfl rfl
theorem k2_27 : (Jvm.Cond.methodLink "BareThursday$Town" (105 : Nat) ({ cls := "BareThursday$Town", name := "holds", desc := "(II)Z" } : Jvm.MethodName)) ∈ wA := kA2 (i := 27) rfl rfl
theorem k2_28 : (Jvm.Cond.static ({ cls := "BareThursday$Town", name := "holds", desc := "(II)Z" } : Jvm.MethodName)) ∈ wA := kA2 (i := 28) rfl rfl
theorem k2_29 : (Jvm.Cond.code ({ cls := "BareThursday$Town", name := "holds", desc := "(II)Z" } : Jvm.MethodName) prog_5_method_30_code (2 : Nat) (Option.some Jvm.ClassFile.FieldType.boolean)) ∈ wA := kA2 (i := 29) rfl rfl
theorem k2_30 : (Jvm.Cond.methodLink "BareThursday" (90 : Nat) ({ cls := "BareThursday$Town", name := "bothKnow", desc := "(II)Z" } : Jvm.MethodName)) ∈ wA := kA2 (i := 30) rfl rfl
theorem k2_31 : (Jvm.Cond.instanceMethod ({ cls := "BareThursday$Town", name := "bothKnow", desc := "(II)Z" } : Jvm.MethodName)) ∈ wA := kA2 (i := 31) rfl rfl
theorem k2_32 : (Jvm.Cond.selects "BareThursday$Town" ({ cls := "BareThursday$Town", name := "bothKnow", desc := "(II)Z" } : Jvm.MethodName) ({ cls := "BareThursday$Town", name := "bothKnow", desc := "(II)Z" } : Jvm.MethodName)) ∈ wA := kA2 (i := 32) rfl rfl
theorem k2_33 : (Jvm.Cond.code ({ cls := "BareThursday$Town", name := "bothKnow", desc := "(II)Z" } : Jvm.MethodName) prog_5_method_19_code (3 : Nat) (Option.some Jvm.ClassFile.FieldType.boolean)) ∈ wA := kA2 (i := 33) rfl rfl
theorem k2_34 : (Jvm.Cond.methodLink "BareThursday" (93 : Nat) ({ cls := "BareThursday$Town", name := "wouldSee", desc := "(II)Z" } : Jvm.MethodName)) ∈ wA := kA2 (i := 34) rfl rfl
theorem k2_35 : (Jvm.Cond.instanceMethod ({ cls := "BareThursday$Town", name := "wouldSee", desc := "(II)Z" } : Jvm.MethodName)) ∈ wA := kA2 (i := 35) rfl rfl
theorem k2_36 : (Jvm.Cond.selects "BareThursday$Town" ({ cls := "BareThursday$Town", name := "wouldSee", desc := "(II)Z" } : Jvm.MethodName) ({ cls := "BareThursday$Town", name := "wouldSee", desc := "(II)Z" } : Jvm.MethodName)) ∈ wA := kA2 (i := 36) rfl rfl
theorem k2_37 : (Jvm.Cond.code ({ cls := "BareThursday$Town", name := "wouldSee", desc := "(II)Z" } : Jvm.MethodName) prog_5_method_20_code (3 : Nat) (Option.some Jvm.ClassFile.FieldType.boolean)) ∈ wA := kA2 (i := 37) rfl rfl
theorem k2_38 : (Jvm.Cond.methodLink "BareThursday$Town" (127 : Nat) ({ cls := "BareThursday$Town", name := "distance", desc := "(II)I" } : Jvm.MethodName)) ∈ wA := kA2 (i := 38) rfl rfl
theorem k2_39 : (Jvm.Cond.methodLink "BareThursdayLaw" (44 : Nat) ({ cls := "BareThursday", name := "go", desc := "(I)I" } : Jvm.MethodName)) ∈ wA := kA2 (i := 39) rfl rfl
theorem k2_40 : (Jvm.Cond.instanceMethod ({ cls := "BareThursday", name := "go", desc := "(I)I" } : Jvm.MethodName)) ∈ wA := kA2 (i := 40) rfl rfl
theorem k2_41 : (Jvm.Cond.selects "BareThursday" ({ cls := "BareThursday", name := "go", desc := "(I)I" } : Jvm.MethodName) ({ cls := "BareThursday", name := "go", desc := "(I)I" } : Jvm.MethodName)) ∈ wA := kA2 (i := 41) rfl rfl
theorem k2_42 : (Jvm.Cond.code ({ cls := "BareThursday", name := "go", desc := "(I)I" } : Jvm.MethodName) prog_1_method_9_code (2 : Nat) (Option.some Jvm.ClassFile.FieldType.int)) ∈ wA := kA2 (i := 42) rfl rfl
theorem k2_43 : (Jvm.Cond.methodLink "BareThursday" (96 : Nat) ({ cls := "BareThursday$Town", name := "hasDays", desc := "(I)Z" } : Jvm.MethodName)) ∈ wA := kA2 (i := 43) rfl rfl
theorem k2_44 : (Jvm.Cond.instanceMethod ({ cls := "BareThursday$Town", name := "hasDays", desc := "(I)Z" } : Jvm.MethodName)) ∈ wA := kA2 (i := 44) rfl rfl
theorem k2_45 : (Jvm.Cond.selects "BareThursday$Town" ({ cls := "BareThursday$Town", name := "hasDays", desc := "(I)Z" } : Jvm.MethodName) ({ cls := "BareThursday$Town", name := "hasDays", desc := "(I)Z" } : Jvm.MethodName)) ∈ wA := kA2 (i := 45) rfl rfl
theorem k2_46 : (Jvm.Cond.code ({ cls := "BareThursday$Town", name := "hasDays", desc := "(I)Z" } : Jvm.MethodName) prog_5_method_31_code (2 : Nat) (Option.some Jvm.ClassFile.FieldType.boolean)) ∈ wA := kA2 (i := 46) rfl rfl
theorem k2_47 : (Jvm.Cond.constant "BareThursday$Town" (134 : Nat) (99999 : Int32)) ∈ wA := kA2 (i := 47) rfl rfl
theorem k2_48 : (Jvm.Cond.methodLink "BareThursday" (99 : Nat) ({ cls := "BareThursday$Town", name := "passDays", desc := "(I)V" } : Jvm.MethodName)) ∈ wA := kA2 (i := 48) rfl rfl
theorem k2_49 : (Jvm.Cond.instanceMethod ({ cls := "BareThursday$Town", name := "passDays", desc := "(I)V" } : Jvm.MethodName)) ∈ wA := kA2 (i := 49) rfl rfl
theorem k2_50 : (Jvm.Cond.selects "BareThursday$Town" ({ cls := "BareThursday$Town", name := "passDays", desc := "(I)V" } : Jvm.MethodName) ({ cls := "BareThursday$Town", name := "passDays", desc := "(I)V" } : Jvm.MethodName)) ∈ wA := kA2 (i := 50) rfl rfl
theorem k2_51 : (Jvm.Cond.code ({ cls := "BareThursday$Town", name := "passDays", desc := "(I)V" } : Jvm.MethodName) prog_5_method_33_code (3 : Nat) (Option.none : Option Jvm.ClassFile.FieldType)) ∈ wA := kA2 (i := 51) rfl rfl
theorem k2_52 : (Jvm.Cond.methodLink "BareThursday$Town" (135 : Nat) ({ cls := "BareThursday$Town", name := "passDay", desc := "()V" } : Jvm.MethodName)) ∈ wA := kA2 (i := 52) rfl rfl
theorem k2_53 : (Jvm.Cond.instanceMethod ({ cls := "BareThursday$Town", name := "passDay", desc := "()V" } : Jvm.MethodName)) ∈ wA := kA2 (i := 53) rfl rfl
theorem k2_54 : (Jvm.Cond.selects "BareThursday$Town" ({ cls := "BareThursday$Town", name := "passDay", desc := "()V" } : Jvm.MethodName) ({ cls := "BareThursday$Town", name := "passDay", desc := "()V" } : Jvm.MethodName)) ∈ wA := kA2 (i := 54) rfl rfl
theorem k2_55 : (Jvm.Cond.code ({ cls := "BareThursday$Town", name := "passDay", desc := "()V" } : Jvm.MethodName) prog_5_method_34_code (4 : Nat) (Option.none : Option Jvm.ClassFile.FieldType)) ∈ wA := kA2 (i := 55) rfl rfl
theorem k2_56 : (Jvm.Cond.methodLink "BareThursday$Town" (138 : Nat) ({ cls := "BareThursday$Town", name := "isTheDay", desc := "(I)Z" } : Jvm.MethodName)) ∈ wA := kA2 (i := 56) rfl rfl
theorem k2_57 : (Jvm.Cond.methodLink "BareThursday$Town" (141 : Nat) ({ cls := "BareThursday$Town", name := "seeEachOther", desc := "(II)V" } : Jvm.MethodName)) ∈ wA := kA2 (i := 57) rfl rfl
theorem k2_59 : (Jvm.Cond.instanceMethod ({ cls := "BareThursday$Town", name := "seeEachOther", desc := "(II)V" } : Jvm.MethodName)) ∈ wA := kA2 (i := 59) rfl rfl
theorem k2_60 : (Jvm.Cond.code ({ cls := "BareThursday$Town", name := "seeEachOther", desc := "(II)V" } : Jvm.MethodName) prog_5_method_37_code (3 : Nat) (Option.none : Option Jvm.ClassFile.FieldType)) ∈ wA := kA2 (i := 60) rfl rfl
theorem k2_61 : (Jvm.Cond.methodLink "BareThursday$Town" (155 : Nat) ({ cls := "BareThursday$Town", name := "wouldSee", desc := "(II)Z" } : Jvm.MethodName)) ∈ wA := kA2 (i := 61) rfl rfl
theorem k2_62 : (Jvm.Cond.methodLink "BareThursday$Town" (158 : Nat) ({ cls := "BareThursday$Town", name := "bothMet", desc := "(II)Z" } : Jvm.MethodName)) ∈ wA := kA2 (i := 62) rfl rfl
theorem k2_63 : (Jvm.Cond.methodLink "BareThursday$Town" (161 : Nat) ({ cls := "BareThursday$Town", name := "comeToKnow", desc := "(II)V" } : Jvm.MethodName)) ∈ wA := kA2 (i := 63) rfl rfl
theorem k2_65 : (Jvm.Cond.instanceMethod ({ cls := "BareThursday$Town", name := "comeToKnow", desc := "(II)V" } : Jvm.MethodName)) ∈ wA := kA2 (i := 65) rfl rfl
theorem k2_66 : (Jvm.Cond.code ({ cls := "BareThursday$Town", name := "comeToKnow", desc := "(II)V" } : Jvm.MethodName) prog_5_method_38_code (4 : Nat) (Option.none : Option Jvm.ClassFile.FieldType)) ∈ wA := kA2 (i := 66) rfl rfl
theorem k2_67 : (Jvm.Cond.methodLink "BareThursday$Town" (164 : Nat) ({ cls := "BareThursday$Town", name := "goBy", desc := "(I)V" } : Jvm.MethodName)) ∈ wA := kA2 (i := 67) rfl rfl
theorem k2_69 : (Jvm.Cond.instanceMethod ({ cls := "BareThursday$Town", name := "goBy", desc := "(I)V" } : Jvm.MethodName)) ∈ wA := kA2 (i := 69) rfl rfl
theorem k2_70 : (Jvm.Cond.code ({ cls := "BareThursday$Town", name := "goBy", desc := "(I)V" } : Jvm.MethodName) prog_5_method_39_code (2 : Nat) (Option.none : Option Jvm.ClassFile.FieldType)) ∈ wA := kA2 (i := 70) rfl rfl
theorem k2_71 : (Jvm.Cond.methodLink "BareThursday$Town" (145 : Nat) ({ cls := "BareThursday$Town", name := "mingle", desc := "(II)V" } : Jvm.MethodName)) ∈ wA := kA2 (i := 71) rfl rfl
theorem k2_73 : (Jvm.Cond.instanceMethod ({ cls := "BareThursday$Town", name := "mingle", desc := "(II)V" } : Jvm.MethodName)) ∈ wA := kA2 (i := 73) rfl rfl
theorem k2_74 : (Jvm.Cond.code ({ cls := "BareThursday$Town", name := "mingle", desc := "(II)V" } : Jvm.MethodName) prog_5_method_35_code (3 : Nat) (Option.none : Option Jvm.ClassFile.FieldType)) ∈ wA := kA2 (i := 74) rfl rfl
theorem k2_75 : (Jvm.Cond.methodLink "BareThursday$Town" (120 : Nat) ({ cls := "BareThursday$Town", name := "mindsGuise", desc := "(II)Z" } : Jvm.MethodName)) ∈ wA := kA2 (i := 75) rfl rfl
theorem k2_76 : (Jvm.Cond.methodLink "BareThursday$Town" (148 : Nat) ({ cls := "BareThursday$Town", name := "skipDays", desc := "(I)V" } : Jvm.MethodName)) ∈ wA := kA2 (i := 76) rfl rfl
theorem k2_77 : (Jvm.Cond.instanceMethod ({ cls := "BareThursday$Town", name := "skipDays", desc := "(I)V" } : Jvm.MethodName)) ∈ wA := kA2 (i := 77) rfl rfl
theorem k2_78 : (Jvm.Cond.selects "BareThursday$Town" ({ cls := "BareThursday$Town", name := "skipDays", desc := "(I)V" } : Jvm.MethodName) ({ cls := "BareThursday$Town", name := "skipDays", desc := "(I)V" } : Jvm.MethodName)) ∈ wA := kA2 (i := 78) rfl rfl
theorem k2_79 : (Jvm.Cond.code ({ cls := "BareThursday$Town", name := "skipDays", desc := "(I)V" } : Jvm.MethodName) prog_5_method_32_code (2 : Nat) (Option.none : Option Jvm.ClassFile.FieldType)) ∈ wA := kA2 (i := 79) rfl rfl
theorem k2_80 : (Jvm.Cond.methodLink "BareThursdayLaw" (48 : Nat) ({ cls := "BareThursday", name := "now", desc := "(I)I" } : Jvm.MethodName)) ∈ wA := kA2 (i := 80) rfl rfl
theorem k2_81 : (Jvm.Cond.instanceMethod ({ cls := "BareThursday", name := "now", desc := "(I)I" } : Jvm.MethodName)) ∈ wA := kA2 (i := 81) rfl rfl
theorem k2_82 : (Jvm.Cond.selects "BareThursday" ({ cls := "BareThursday", name := "now", desc := "(I)I" } : Jvm.MethodName) ({ cls := "BareThursday", name := "now", desc := "(I)I" } : Jvm.MethodName)) ∈ wA := kA2 (i := 82) rfl rfl
theorem k2_83 : (Jvm.Cond.code ({ cls := "BareThursday", name := "now", desc := "(I)I" } : Jvm.MethodName) prog_1_method_10_code (2 : Nat) (Option.some Jvm.ClassFile.FieldType.int)) ∈ wA := kA2 (i := 83) rfl rfl
theorem k2_84 : (Jvm.Cond.methodLink "BareThursday" (110 : Nat) ({ cls := "BareThursday$Town", name := "knowers", desc := "()I" } : Jvm.MethodName)) ∈ wA := kA2 (i := 84) rfl rfl
theorem k2_85 : (Jvm.Cond.instanceMethod ({ cls := "BareThursday$Town", name := "knowers", desc := "()I" } : Jvm.MethodName)) ∈ wA := kA2 (i := 85) rfl rfl
theorem k2_86 : (Jvm.Cond.selects "BareThursday$Town" ({ cls := "BareThursday$Town", name := "knowers", desc := "()I" } : Jvm.MethodName) ({ cls := "BareThursday$Town", name := "knowers", desc := "()I" } : Jvm.MethodName)) ∈ wA := kA2 (i := 86) rfl rfl
theorem k2_87 : (Jvm.Cond.code ({ cls := "BareThursday$Town", name := "knowers", desc := "()I" } : Jvm.MethodName) prog_5_method_21_code (3 : Nat) (Option.some Jvm.ClassFile.FieldType.int)) ∈ wA := kA2 (i := 87) rfl rfl
theorem k2_88 : (Jvm.Cond.methodLink "BareThursday" (114 : Nat) ({ cls := "BareThursday$Town", name := "knowingPairs", desc := "()I" } : Jvm.MethodName)) ∈ wA := kA2 (i := 88) rfl rfl
theorem k2_89 : (Jvm.Cond.instanceMethod ({ cls := "BareThursday$Town", name := "knowingPairs", desc := "()I" } : Jvm.MethodName)) ∈ wA := kA2 (i := 89) rfl rfl
theorem k2_90 : (Jvm.Cond.selects "BareThursday$Town" ({ cls := "BareThursday$Town", name := "knowingPairs", desc := "()I" } : Jvm.MethodName) ({ cls := "BareThursday$Town", name := "knowingPairs", desc := "()I" } : Jvm.MethodName)) ∈ wA := kA2 (i := 90) rfl rfl
theorem k2_91 : (Jvm.Cond.code ({ cls := "BareThursday$Town", name := "knowingPairs", desc := "()I" } : Jvm.MethodName) prog_5_method_22_code (1 : Nat) (Option.some Jvm.ClassFile.FieldType.int)) ∈ wA := kA2 (i := 91) rfl rfl
theorem k2_92 : (Jvm.Cond.methodLink "BareThursday$Town" (130 : Nat) ({ cls := "BareThursday$Town", name := "mutualPairs", desc := "([I)I" } : Jvm.MethodName)) ∈ wA := kA2 (i := 92) rfl rfl
theorem k2_94 : (Jvm.Cond.instanceMethod ({ cls := "BareThursday$Town", name := "mutualPairs", desc := "([I)I" } : Jvm.MethodName)) ∈ wA := kA2 (i := 94) rfl rfl
theorem k2_95 : (Jvm.Cond.code ({ cls := "BareThursday$Town", name := "mutualPairs", desc := "([I)I" } : Jvm.MethodName) prog_5_method_24_code (5 : Nat) (Option.some Jvm.ClassFile.FieldType.int)) ∈ wA := kA2 (i := 95) rfl rfl
theorem k2_96 : (Jvm.Cond.methodLink "BareThursday" (117 : Nat) ({ cls := "BareThursday$Town", name := "metPairs", desc := "()I" } : Jvm.MethodName)) ∈ wA := kA2 (i := 96) rfl rfl
theorem k2_97 : (Jvm.Cond.instanceMethod ({ cls := "BareThursday$Town", name := "metPairs", desc := "()I" } : Jvm.MethodName)) ∈ wA := kA2 (i := 97) rfl rfl
theorem k2_98 : (Jvm.Cond.selects "BareThursday$Town" ({ cls := "BareThursday$Town", name := "metPairs", desc := "()I" } : Jvm.MethodName) ({ cls := "BareThursday$Town", name := "metPairs", desc := "()I" } : Jvm.MethodName)) ∈ wA := kA2 (i := 98) rfl rfl
theorem k2_99 : (Jvm.Cond.code ({ cls := "BareThursday$Town", name := "metPairs", desc := "()I" } : Jvm.MethodName) prog_5_method_23_code (1 : Nat) (Option.some Jvm.ClassFile.FieldType.int)) ∈ wA := kA2 (i := 99) rfl rfl
theorem k2_100 : (Jvm.Cond.methodLink "BareThursday" (120 : Nat) ({ cls := "BareThursday$Town", name := "wornGuises", desc := "()I" } : Jvm.MethodName)) ∈ wA := kA2 (i := 100) rfl rfl
theorem k2_101 : (Jvm.Cond.instanceMethod ({ cls := "BareThursday$Town", name := "wornGuises", desc := "()I" } : Jvm.MethodName)) ∈ wA := kA2 (i := 101) rfl rfl
theorem k2_102 : (Jvm.Cond.selects "BareThursday$Town" ({ cls := "BareThursday$Town", name := "wornGuises", desc := "()I" } : Jvm.MethodName) ({ cls := "BareThursday$Town", name := "wornGuises", desc := "()I" } : Jvm.MethodName)) ∈ wA := kA2 (i := 102) rfl rfl
theorem k2_103 : (Jvm.Cond.code ({ cls := "BareThursday$Town", name := "wornGuises", desc := "()I" } : Jvm.MethodName) prog_5_method_26_code (3 : Nat) (Option.some Jvm.ClassFile.FieldType.int)) ∈ wA := kA2 (i := 103) rfl rfl
theorem k2_104 : (Jvm.Cond.methodLink "BareThursday" (123 : Nat) ({ cls := "BareThursday$Town", name := "passedInAll", desc := "()I" } : Jvm.MethodName)) ∈ wA := kA2 (i := 104) rfl rfl
theorem k2_105 : (Jvm.Cond.instanceMethod ({ cls := "BareThursday$Town", name := "passedInAll", desc := "()I" } : Jvm.MethodName)) ∈ wA := kA2 (i := 105) rfl rfl
theorem k2_106 : (Jvm.Cond.selects "BareThursday$Town" ({ cls := "BareThursday$Town", name := "passedInAll", desc := "()I" } : Jvm.MethodName) ({ cls := "BareThursday$Town", name := "passedInAll", desc := "()I" } : Jvm.MethodName)) ∈ wA := kA2 (i := 106) rfl rfl
theorem k2_107 : (Jvm.Cond.code ({ cls := "BareThursday$Town", name := "passedInAll", desc := "()I" } : Jvm.MethodName) prog_5_method_27_code (3 : Nat) (Option.some Jvm.ClassFile.FieldType.int)) ∈ wA := kA2 (i := 107) rfl rfl
theorem k2_108 : (Jvm.Cond.methodLink "BareThursday" (126 : Nat) ({ cls := "BareThursday$Town", name := "isTheDay", desc := "(I)Z" } : Jvm.MethodName)) ∈ wA := kA2 (i := 108) rfl rfl
theorem k2_109 : (Jvm.Cond.methodLink "BareThursdayLaw" (52 : Nat) ({ cls := "BareThursday", name := "ahead", desc := "(III)I" } : Jvm.MethodName)) ∈ wA := kA2 (i := 109) rfl rfl
theorem k2_110 : (Jvm.Cond.instanceMethod ({ cls := "BareThursday", name := "ahead", desc := "(III)I" } : Jvm.MethodName)) ∈ wA := kA2 (i := 110) rfl rfl
theorem k2_111 : (Jvm.Cond.selects "BareThursday" ({ cls := "BareThursday", name := "ahead", desc := "(III)I" } : Jvm.MethodName) ({ cls := "BareThursday", name := "ahead", desc := "(III)I" } : Jvm.MethodName)) ∈ wA := kA2 (i := 111) rfl rfl
theorem k2_112 : (Jvm.Cond.code ({ cls := "BareThursday", name := "ahead", desc := "(III)I" } : Jvm.MethodName) prog_1_method_11_code (5 : Nat) (Option.some Jvm.ClassFile.FieldType.int)) ∈ wA := kA2 (i := 112) rfl rfl
theorem k2_113 : (Jvm.Cond.methodLink "BareThursday" (129 : Nat) ({ cls := "BareThursday$Town", name := "become", desc := "(LBareThursday$Town;)V" } : Jvm.MethodName)) ∈ wA := kA2 (i := 113) rfl rfl
theorem k2_114 : (Jvm.Cond.instanceMethod ({ cls := "BareThursday$Town", name := "become", desc := "(LBareThursday$Town;)V" } : Jvm.MethodName)) ∈ wA := kA2 (i := 114) rfl rfl
theorem k2_115 : (Jvm.Cond.selects "BareThursday$Town" ({ cls := "BareThursday$Town", name := "become", desc := "(LBareThursday$Town;)V" } : Jvm.MethodName) ({ cls := "BareThursday$Town", name := "become", desc := "(LBareThursday$Town;)V" } : Jvm.MethodName)) ∈ wA := kA2 (i := 115) rfl rfl
theorem k2_116 : (Jvm.Cond.code ({ cls := "BareThursday$Town", name := "become", desc := "(LBareThursday$Town;)V" } : Jvm.MethodName) prog_5_method_2_code (2 : Nat) (Option.none : Option Jvm.ClassFile.FieldType)) ∈ wA := kA2 (i := 116) rfl rfl
theorem k2_117 : (Jvm.Cond.methodLink "BareThursday$Town" (53 : Nat) ({ cls := "java/lang/System", name := "arraycopy", desc := "(Ljava/lang/Object;ILjava/lang/Object;II)V" } : Jvm.MethodName)) ∈ wA := kA2 (i := 117) rfl rfl
theorem k2_118 : (Jvm.Cond.static ({ cls := "java/lang/System", name := "arraycopy", desc := "(Ljava/lang/Object;ILjava/lang/Object;II)V" } : Jvm.MethodName)) ∈ wA := kA2 (i := 118) rfl rfl
theorem k2_119 : (Jvm.Cond.native ({ cls := "java/lang/System", name := "arraycopy", desc := "(Ljava/lang/Object;ILjava/lang/Object;II)V" } : Jvm.MethodName)) ∈ wA := kA2 (i := 119) rfl rfl
theorem k2_120 : (Jvm.Cond.methodLink "BareThursdayLaw" (56 : Nat) ({ cls := "BareThursday", name := "joy", desc := "(I)I" } : Jvm.MethodName)) ∈ wA := kA2 (i := 120) rfl rfl
theorem k2_121 : (Jvm.Cond.instanceMethod ({ cls := "BareThursday", name := "joy", desc := "(I)I" } : Jvm.MethodName)) ∈ wA := kA2 (i := 121) rfl rfl
theorem k2_122 : (Jvm.Cond.selects "BareThursday" ({ cls := "BareThursday", name := "joy", desc := "(I)I" } : Jvm.MethodName) ({ cls := "BareThursday", name := "joy", desc := "(I)I" } : Jvm.MethodName)) ∈ wA := kA2 (i := 122) rfl rfl
theorem k2_123 : (Jvm.Cond.code ({ cls := "BareThursday", name := "joy", desc := "(I)I" } : Jvm.MethodName) prog_1_method_12_code (2 : Nat) (Option.some Jvm.ClassFile.FieldType.int)) ∈ wA := kA2 (i := 123) rfl rfl
theorem k2_124 : (Jvm.Cond.methodLink "BareThursdayLaw" (60 : Nat) ({ cls := "BareThursday", name := "when", desc := "(III)I" } : Jvm.MethodName)) ∈ wA := kA2 (i := 124) rfl rfl
theorem k2_125 : (Jvm.Cond.instanceMethod ({ cls := "BareThursday", name := "when", desc := "(III)I" } : Jvm.MethodName)) ∈ wA := kA2 (i := 125) rfl rfl
theorem k2_126 : (Jvm.Cond.selects "BareThursday" ({ cls := "BareThursday", name := "when", desc := "(III)I" } : Jvm.MethodName) ({ cls := "BareThursday", name := "when", desc := "(III)I" } : Jvm.MethodName)) ∈ wA := kA2 (i := 126) rfl rfl
theorem k2_127 : (Jvm.Cond.code ({ cls := "BareThursday", name := "when", desc := "(III)I" } : Jvm.MethodName) prog_1_method_13_code (5 : Nat) (Option.some Jvm.ClassFile.FieldType.int)) ∈ wA := kA2 (i := 127) rfl rfl
theorem k2_128 : (Jvm.Cond.methodLink "BareThursday" (133 : Nat) ({ cls := "BareThursday", name := "isSo", desc := "(LBareThursday$Town;III)Z" } : Jvm.MethodName)) ∈ wA := kA2 (i := 128) rfl rfl
theorem k2_129 : (Jvm.Cond.static ({ cls := "BareThursday", name := "isSo", desc := "(LBareThursday$Town;III)Z" } : Jvm.MethodName)) ∈ wA := kA2 (i := 129) rfl rfl
theorem k2_130 : (Jvm.Cond.code ({ cls := "BareThursday", name := "isSo", desc := "(LBareThursday$Town;III)Z" } : Jvm.MethodName) prog_1_method_14_code (4 : Nat) (Option.some Jvm.ClassFile.FieldType.boolean)) ∈ wA := kA2 (i := 130) rfl rfl
theorem k2_131 : (Jvm.Cond.methodLink "BareThursday" (137 : Nat) ({ cls := "BareThursday$Town", name := "passDay", desc := "()V" } : Jvm.MethodName)) ∈ wA := kA2 (i := 131) rfl rfl
theorem k2_132 : (Jvm.Cond.methodLink "BareThursdayLaw" (64 : Nat) ({ cls := "BareThursday", name := "known", desc := "()I" } : Jvm.MethodName)) ∈ wA := kA2 (i := 132) rfl rfl
theorem k2_133 : (Jvm.Cond.instanceMethod ({ cls := "BareThursday", name := "known", desc := "()I" } : Jvm.MethodName)) ∈ wA := kA2 (i := 133) rfl rfl
theorem k2_134 : (Jvm.Cond.selects "BareThursday" ({ cls := "BareThursday", name := "known", desc := "()I" } : Jvm.MethodName) ({ cls := "BareThursday", name := "known", desc := "()I" } : Jvm.MethodName)) ∈ wA := kA2 (i := 134) rfl rfl
theorem k2_135 : (Jvm.Cond.code ({ cls := "BareThursday", name := "known", desc := "()I" } : Jvm.MethodName) prog_1_method_15_code (2 : Nat) (Option.some Jvm.ClassFile.FieldType.int)) ∈ wA := kA2 (i := 135) rfl rfl
theorem k2_136 : (Jvm.Cond.methodLink "BareThursdayLaw" (69 : Nat) ({ cls := "BareThursday", name := "passed", desc := "(II)I" } : Jvm.MethodName)) ∈ wA := kA2 (i := 136) rfl rfl
theorem k2_137 : (Jvm.Cond.instanceMethod ({ cls := "BareThursday", name := "passed", desc := "(II)I" } : Jvm.MethodName)) ∈ wA := kA2 (i := 137) rfl rfl
theorem k2_138 : (Jvm.Cond.selects "BareThursday" ({ cls := "BareThursday", name := "passed", desc := "(II)I" } : Jvm.MethodName) ({ cls := "BareThursday", name := "passed", desc := "(II)I" } : Jvm.MethodName)) ∈ wA := kA2 (i := 138) rfl rfl
theorem k2_139 : (Jvm.Cond.code ({ cls := "BareThursday", name := "passed", desc := "(II)I" } : Jvm.MethodName) prog_1_method_16_code (4 : Nat) (Option.some Jvm.ClassFile.FieldType.int)) ∈ wA := kA2 (i := 139) rfl rfl
theorem k2_140 : (Jvm.Cond.methodLink "BareThursdayLaw" (73 : Nat) ({ cls := "BareThursday", name := "standFor", desc := "(II)I" } : Jvm.MethodName)) ∈ wA := kA2 (i := 140) rfl rfl
theorem k2_141 : (Jvm.Cond.instanceMethod ({ cls := "BareThursday", name := "standFor", desc := "(II)I" } : Jvm.MethodName)) ∈ wA := kA2 (i := 141) rfl rfl
theorem k2_142 : (Jvm.Cond.selects "BareThursday" ({ cls := "BareThursday", name := "standFor", desc := "(II)I" } : Jvm.MethodName) ({ cls := "BareThursday", name := "standFor", desc := "(II)I" } : Jvm.MethodName)) ∈ wA := kA2 (i := 142) rfl rfl
theorem k2_143 : (Jvm.Cond.code ({ cls := "BareThursday", name := "standFor", desc := "(II)I" } : Jvm.MethodName) prog_1_method_17_code (3 : Nat) (Option.some Jvm.ClassFile.FieldType.int)) ∈ wA := kA2 (i := 143) rfl rfl
theorem k2_144 : (Jvm.Cond.methodLink "BareThursday" (140 : Nat) ({ cls := "BareThursday", name := "mostJoyous", desc := "(IIII)I" } : Jvm.MethodName)) ∈ wA := kA2 (i := 144) rfl rfl
theorem k2_146 : (Jvm.Cond.instanceMethod ({ cls := "BareThursday", name := "mostJoyous", desc := "(IIII)I" } : Jvm.MethodName)) ∈ wA := kA2 (i := 146) rfl rfl
theorem k2_147 : (Jvm.Cond.code ({ cls := "BareThursday", name := "mostJoyous", desc := "(IIII)I" } : Jvm.MethodName) prog_1_method_20_code (8 : Nat) (Option.some Jvm.ClassFile.FieldType.int)) ∈ wA := kA2 (i := 147) rfl rfl
theorem k2_148 : (Jvm.Cond.methodLink "BareThursdayLaw" (77 : Nat) ({ cls := "BareThursday", name := "guiseFor", desc := "(II)I" } : Jvm.MethodName)) ∈ wA := kA2 (i := 148) rfl rfl
theorem k2_149 : (Jvm.Cond.instanceMethod ({ cls := "BareThursday", name := "guiseFor", desc := "(II)I" } : Jvm.MethodName)) ∈ wA := kA2 (i := 149) rfl rfl
theorem k2_150 : (Jvm.Cond.selects "BareThursday" ({ cls := "BareThursday", name := "guiseFor", desc := "(II)I" } : Jvm.MethodName) ({ cls := "BareThursday", name := "guiseFor", desc := "(II)I" } : Jvm.MethodName)) ∈ wA := kA2 (i := 150) rfl rfl
theorem k2_151 : (Jvm.Cond.code ({ cls := "BareThursday", name := "guiseFor", desc := "(II)I" } : Jvm.MethodName) prog_1_method_18_code (3 : Nat) (Option.some Jvm.ClassFile.FieldType.int)) ∈ wA := kA2 (i := 151) rfl rfl
theorem k2_152 : (Jvm.Cond.methodLink "BareThursdayLaw" (81 : Nat) ({ cls := "BareThursday", name := "kindFor", desc := "(II)I" } : Jvm.MethodName)) ∈ wA := kA2 (i := 152) rfl rfl
theorem k2_153 : (Jvm.Cond.instanceMethod ({ cls := "BareThursday", name := "kindFor", desc := "(II)I" } : Jvm.MethodName)) ∈ wA := kA2 (i := 153) rfl rfl
theorem k2_154 : (Jvm.Cond.selects "BareThursday" ({ cls := "BareThursday", name := "kindFor", desc := "(II)I" } : Jvm.MethodName) ({ cls := "BareThursday", name := "kindFor", desc := "(II)I" } : Jvm.MethodName)) ∈ wA := kA2 (i := 154) rfl rfl
theorem k2_155 : (Jvm.Cond.code ({ cls := "BareThursday", name := "kindFor", desc := "(II)I" } : Jvm.MethodName) prog_1_method_19_code (3 : Nat) (Option.some Jvm.ClassFile.FieldType.int)) ∈ wA := kA2 (i := 155) rfl rfl
theorem k2_156 : (Jvm.Cond.methodLink "BareThursdayLaw" (85 : Nat) ({ cls := "BareThursday", name := "dark", desc := "(I)I" } : Jvm.MethodName)) ∈ wA := kA2 (i := 156) rfl rfl
theorem k2_157 : (Jvm.Cond.instanceMethod ({ cls := "BareThursday", name := "dark", desc := "(I)I" } : Jvm.MethodName)) ∈ wA := kA2 (i := 157) rfl rfl
theorem k2_158 : (Jvm.Cond.selects "BareThursday" ({ cls := "BareThursday", name := "dark", desc := "(I)I" } : Jvm.MethodName) ({ cls := "BareThursday", name := "dark", desc := "(I)I" } : Jvm.MethodName)) ∈ wA := kA2 (i := 158) rfl rfl
theorem k2_159 : (Jvm.Cond.code ({ cls := "BareThursday", name := "dark", desc := "(I)I" } : Jvm.MethodName) prog_1_method_21_code (4 : Nat) (Option.some Jvm.ClassFile.FieldType.int)) ∈ wA := kA2 (i := 159) rfl rfl
theorem k2_160 : (Jvm.Cond.methodLink "BareThursday" (147 : Nat) ({ cls := "BareThursday$Town", name := "everybody", desc := "()I" } : Jvm.MethodName)) ∈ wA := kA2 (i := 160) rfl rfl
theorem k2_161 : (Jvm.Cond.methodLink "BareThursday" (150 : Nat) ({ cls := "java/lang/Integer", name := "bitCount", desc := "(I)I" } : Jvm.MethodName)) ∈ wA := kA2 (i := 161) rfl rfl
theorem k2_162 : (Jvm.Cond.methodLink "BareThursday" (155 : Nat) ({ cls := "BareThursday", name := "staysJoyless", desc := "(II)Z" } : Jvm.MethodName)) ∈ wA := kA2 (i := 162) rfl rfl
theorem k2_164 : (Jvm.Cond.instanceMethod ({ cls := "BareThursday", name := "staysJoyless", desc := "(II)Z" } : Jvm.MethodName)) ∈ wA := kA2 (i := 164) rfl rfl
theorem k2_165 : (Jvm.Cond.code ({ cls := "BareThursday", name := "staysJoyless", desc := "(II)Z" } : Jvm.MethodName) prog_1_method_22_code (4 : Nat) (Option.some Jvm.ClassFile.FieldType.boolean)) ∈ wA := kA2 (i := 165) rfl rfl
theorem k2_166 : (Jvm.Cond.methodLink "BareThursday" (158 : Nat) ({ cls := "BareThursday$Town", name := "putOut", desc := "(I)V" } : Jvm.MethodName)) ∈ wA := kA2 (i := 166) rfl rfl
theorem k2_167 : (Jvm.Cond.instanceMethod ({ cls := "BareThursday$Town", name := "putOut", desc := "(I)V" } : Jvm.MethodName)) ∈ wA := kA2 (i := 167) rfl rfl
theorem k2_168 : (Jvm.Cond.selects "BareThursday$Town" ({ cls := "BareThursday$Town", name := "putOut", desc := "(I)V" } : Jvm.MethodName) ({ cls := "BareThursday$Town", name := "putOut", desc := "(I)V" } : Jvm.MethodName)) ∈ wA := kA2 (i := 168) rfl rfl
theorem k2_169 : (Jvm.Cond.code ({ cls := "BareThursday$Town", name := "putOut", desc := "(I)V" } : Jvm.MethodName) prog_5_method_13_code (3 : Nat) (Option.none : Option Jvm.ClassFile.FieldType)) ∈ wA := kA2 (i := 169) rfl rfl
theorem k2_170 : (Jvm.Cond.methodLink "BareThursdayLaw" (89 : Nat) ({ cls := "BareThursday", name := "circle", desc := "(I)I" } : Jvm.MethodName)) ∈ wA := kA2 (i := 170) rfl rfl
theorem k2_171 : (Jvm.Cond.instanceMethod ({ cls := "BareThursday", name := "circle", desc := "(I)I" } : Jvm.MethodName)) ∈ wA := kA2 (i := 171) rfl rfl
theorem k2_172 : (Jvm.Cond.selects "BareThursday" ({ cls := "BareThursday", name := "circle", desc := "(I)I" } : Jvm.MethodName) ({ cls := "BareThursday", name := "circle", desc := "(I)I" } : Jvm.MethodName)) ∈ wA := kA2 (i := 172) rfl rfl
theorem k2_173 : (Jvm.Cond.code ({ cls := "BareThursday", name := "circle", desc := "(I)I" } : Jvm.MethodName) prog_1_method_23_code (4 : Nat) (Option.some Jvm.ClassFile.FieldType.int)) ∈ wA := kA2 (i := 173) rfl rfl
theorem k2_174 : (Jvm.Cond.methodLink "BareThursday" (161 : Nat) ({ cls := "BareThursday$Town", name := "isCircle", desc := "(IZ)Z" } : Jvm.MethodName)) ∈ wA := kA2 (i := 174) rfl rfl
theorem k2_175 : (Jvm.Cond.instanceMethod ({ cls := "BareThursday$Town", name := "isCircle", desc := "(IZ)Z" } : Jvm.MethodName)) ∈ wA := kA2 (i := 175) rfl rfl
theorem k2_176 : (Jvm.Cond.selects "BareThursday$Town" ({ cls := "BareThursday$Town", name := "isCircle", desc := "(IZ)Z" } : Jvm.MethodName) ({ cls := "BareThursday$Town", name := "isCircle", desc := "(IZ)Z" } : Jvm.MethodName)) ∈ wA := kA2 (i := 176) rfl rfl
theorem k2_177 : (Jvm.Cond.code ({ cls := "BareThursday$Town", name := "isCircle", desc := "(IZ)Z" } : Jvm.MethodName) prog_5_method_25_code (5 : Nat) (Option.some Jvm.ClassFile.FieldType.boolean)) ∈ wA := kA2 (i := 177) rfl rfl
theorem k2_178 : (Jvm.Cond.methodLink "BareThursdayLaw" (93 : Nat) ({ cls := "BareThursday", name := "fits", desc := "(II)I" } : Jvm.MethodName)) ∈ wA := kA2 (i := 178) rfl rfl
theorem k2_179 : (Jvm.Cond.instanceMethod ({ cls := "BareThursday", name := "fits", desc := "(II)I" } : Jvm.MethodName)) ∈ wA := kA2 (i := 179) rfl rfl
theorem k2_180 : (Jvm.Cond.selects "BareThursday" ({ cls := "BareThursday", name := "fits", desc := "(II)I" } : Jvm.MethodName) ({ cls := "BareThursday", name := "fits", desc := "(II)I" } : Jvm.MethodName)) ∈ wA := kA2 (i := 180) rfl rfl
theorem k2_181 : (Jvm.Cond.code ({ cls := "BareThursday", name := "fits", desc := "(II)I" } : Jvm.MethodName) prog_1_method_24_code (3 : Nat) (Option.some Jvm.ClassFile.FieldType.int)) ∈ wA := kA2 (i := 181) rfl rfl
theorem k2_182 : (Jvm.Cond.methodLink "BareThursday" (165 : Nat) ({ cls := "BareThursday", name := "fitting", desc := "(IIII)I" } : Jvm.MethodName)) ∈ wA := kA2 (i := 182) rfl rfl
theorem k2_184 : (Jvm.Cond.instanceMethod ({ cls := "BareThursday", name := "fitting", desc := "(IIII)I" } : Jvm.MethodName)) ∈ wA := kA2 (i := 184) rfl rfl
theorem k2_185 : (Jvm.Cond.code ({ cls := "BareThursday", name := "fitting", desc := "(IIII)I" } : Jvm.MethodName) prog_1_method_26_code (7 : Nat) (Option.some Jvm.ClassFile.FieldType.int)) ∈ wA := kA2 (i := 185) rfl rfl
theorem k2_186 : (Jvm.Cond.methodLink "BareThursday" (168 : Nat) ({ cls := "BareThursday$Sheets", name := "isMissing", desc := "(I)Z" } : Jvm.MethodName)) ∈ wA := kA2 (i := 186) rfl rfl
theorem k2_187 : (Jvm.Cond.instanceMethod ({ cls := "BareThursday$Sheets", name := "isMissing", desc := "(I)Z" } : Jvm.MethodName)) ∈ wA := kA2 (i := 187) rfl rfl
theorem k2_188 : (Jvm.Cond.selects "BareThursday$Sheets" ({ cls := "BareThursday$Sheets", name := "isMissing", desc := "(I)Z" } : Jvm.MethodName) ({ cls := "BareThursday$Sheets", name := "isMissing", desc := "(I)Z" } : Jvm.MethodName)) ∈ wA := kA2 (i := 188) rfl rfl
theorem k2_189 : (Jvm.Cond.code ({ cls := "BareThursday$Sheets", name := "isMissing", desc := "(I)Z" } : Jvm.MethodName) prog_3_method_3_code (2 : Nat) (Option.some Jvm.ClassFile.FieldType.boolean)) ∈ wA := kA2 (i := 189) rfl rfl
theorem k2_190 : (Jvm.Cond.methodLink "BareThursday" (171 : Nat) ({ cls := "BareThursday", name := "meetsAsTold", desc := "(II)Z" } : Jvm.MethodName)) ∈ wA := kA2 (i := 190) rfl rfl
theorem k2_192 : (Jvm.Cond.instanceMethod ({ cls := "BareThursday", name := "meetsAsTold", desc := "(II)Z" } : Jvm.MethodName)) ∈ wA := kA2 (i := 192) rfl rfl
theorem k2_193 : (Jvm.Cond.code ({ cls := "BareThursday", name := "meetsAsTold", desc := "(II)Z" } : Jvm.MethodName) prog_1_method_27_code (5 : Nat) (Option.some Jvm.ClassFile.FieldType.boolean)) ∈ wA := kA2 (i := 193) rfl rfl
theorem k2_194 : (Jvm.Cond.methodLink "BareThursday" (174 : Nat) ({ cls := "BareThursday$Sheets", name := "length", desc := "(I)I" } : Jvm.MethodName)) ∈ wA := kA2 (i := 194) rfl rfl
theorem k2_195 : (Jvm.Cond.instanceMethod ({ cls := "BareThursday$Sheets", name := "length", desc := "(I)I" } : Jvm.MethodName)) ∈ wA := kA2 (i := 195) rfl rfl
theorem k2_196 : (Jvm.Cond.selects "BareThursday$Sheets" ({ cls := "BareThursday$Sheets", name := "length", desc := "(I)I" } : Jvm.MethodName) ({ cls := "BareThursday$Sheets", name := "length", desc := "(I)I" } : Jvm.MethodName)) ∈ wA := kA2 (i := 196) rfl rfl
theorem k2_197 : (Jvm.Cond.code ({ cls := "BareThursday$Sheets", name := "length", desc := "(I)I" } : Jvm.MethodName) prog_3_method_5_code (2 : Nat) (Option.some Jvm.ClassFile.FieldType.int)) ∈ wA := kA2 (i := 197) rfl rfl
theorem k2_198 : (Jvm.Cond.methodLink "BareThursday" (177 : Nat) ({ cls := "BareThursday$Sheets", name := "number", desc := "(II)I" } : Jvm.MethodName)) ∈ wA := kA2 (i := 198) rfl rfl
theorem k2_199 : (Jvm.Cond.instanceMethod ({ cls := "BareThursday$Sheets", name := "number", desc := "(II)I" } : Jvm.MethodName)) ∈ wA := kA2 (i := 199) rfl rfl
theorem k2_200 : (Jvm.Cond.selects "BareThursday$Sheets" ({ cls := "BareThursday$Sheets", name := "number", desc := "(II)I" } : Jvm.MethodName) ({ cls := "BareThursday$Sheets", name := "number", desc := "(II)I" } : Jvm.MethodName)) ∈ wA := kA2 (i := 200) rfl rfl
theorem k2_201 : (Jvm.Cond.code ({ cls := "BareThursday$Sheets", name := "number", desc := "(II)I" } : Jvm.MethodName) prog_3_method_6_code (3 : Nat) (Option.some Jvm.ClassFile.FieldType.int)) ∈ wA := kA2 (i := 201) rfl rfl
theorem k2_202 : (Jvm.Cond.methodLink "BareThursdayLaw" (97 : Nat) ({ cls := "BareThursday", name := "kinds", desc := "(II)I" } : Jvm.MethodName)) ∈ wA := kA2 (i := 202) rfl rfl
theorem k2_203 : (Jvm.Cond.instanceMethod ({ cls := "BareThursday", name := "kinds", desc := "(II)I" } : Jvm.MethodName)) ∈ wA := kA2 (i := 203) rfl rfl
theorem k2_204 : (Jvm.Cond.selects "BareThursday" ({ cls := "BareThursday", name := "kinds", desc := "(II)I" } : Jvm.MethodName) ({ cls := "BareThursday", name := "kinds", desc := "(II)I" } : Jvm.MethodName)) ∈ wA := kA2 (i := 204) rfl rfl
theorem k2_205 : (Jvm.Cond.code ({ cls := "BareThursday", name := "kinds", desc := "(II)I" } : Jvm.MethodName) prog_1_method_25_code (3 : Nat) (Option.some Jvm.ClassFile.FieldType.int)) ∈ wA := kA2 (i := 205) rfl rfl
theorem k2_206 : (Jvm.Cond.methodLink "BareThursdayLaw" (101 : Nat) ({ cls := "BareThursday", name := "night", desc := "(I)I" } : Jvm.MethodName)) ∈ wA := kA2 (i := 206) rfl rfl
theorem k2_207 : (Jvm.Cond.instanceMethod ({ cls := "BareThursday", name := "night", desc := "(I)I" } : Jvm.MethodName)) ∈ wA := kA2 (i := 207) rfl rfl
theorem k2_208 : (Jvm.Cond.selects "BareThursday" ({ cls := "BareThursday", name := "night", desc := "(I)I" } : Jvm.MethodName) ({ cls := "BareThursday", name := "night", desc := "(I)I" } : Jvm.MethodName)) ∈ wA := kA2 (i := 208) rfl rfl
theorem k2_209 : (Jvm.Cond.code ({ cls := "BareThursday", name := "night", desc := "(I)I" } : Jvm.MethodName) prog_1_method_28_code (6 : Nat) (Option.some Jvm.ClassFile.FieldType.int)) ∈ wA := kA2 (i := 209) rfl rfl
theorem k2_210 : (Jvm.Cond.methodLink "BareThursday" (180 : Nat) ({ cls := "BareThursday$Town", name := "draw", desc := "()I" } : Jvm.MethodName)) ∈ wA := kA2 (i := 210) rfl rfl
theorem k2_211 : (Jvm.Cond.instanceMethod ({ cls := "BareThursday$Town", name := "draw", desc := "()I" } : Jvm.MethodName)) ∈ wA := kA2 (i := 211) rfl rfl
theorem k2_212 : (Jvm.Cond.selects "BareThursday$Town" ({ cls := "BareThursday$Town", name := "draw", desc := "()I" } : Jvm.MethodName) ({ cls := "BareThursday$Town", name := "draw", desc := "()I" } : Jvm.MethodName)) ∈ wA := kA2 (i := 212) rfl rfl
theorem k2_213 : (Jvm.Cond.code ({ cls := "BareThursday$Town", name := "draw", desc := "()I" } : Jvm.MethodName) prog_5_method_40_code (1 : Nat) (Option.some Jvm.ClassFile.FieldType.int)) ∈ wA := kA2 (i := 213) rfl rfl
theorem k2_214 : (Jvm.Cond.constant "BareThursday$Town" (167 : Nat) (1103515245 : Int32)) ∈ wA := kA2 (i := 214) rfl rfl
theorem k2_215 : (Jvm.Cond.methodLink "BareThursdayLaw" (105 : Nat) ({ cls := "BareThursday", name := "odds", desc := "(III)J" } : Jvm.MethodName)) ∈ wA := kA2 (i := 215) rfl rfl
theorem k2_216 : (Jvm.Cond.instanceMethod ({ cls := "BareThursday", name := "odds", desc := "(III)J" } : Jvm.MethodName)) ∈ wA := kA2 (i := 216) rfl rfl
theorem k2_217 : (Jvm.Cond.selects "BareThursday" ({ cls := "BareThursday", name := "odds", desc := "(III)J" } : Jvm.MethodName) ({ cls := "BareThursday", name := "odds", desc := "(III)J" } : Jvm.MethodName)) ∈ wA := kA2 (i := 217) rfl rfl
theorem k2_218 : (Jvm.Cond.code ({ cls := "BareThursday", name := "odds", desc := "(III)J" } : Jvm.MethodName) prog_1_method_29_code (11 : Nat) (Option.some Jvm.ClassFile.FieldType.long)) ∈ wA := kA2 (i := 218) rfl rfl
theorem k2_219 : (Jvm.Cond.methodLink "BareThursday" (183 : Nat) ({ cls := "BareThursday$Town", name := "mindedGuises", desc := "(I)I" } : Jvm.MethodName)) ∈ wA := kA2 (i := 219) rfl rfl
theorem k2_220 : (Jvm.Cond.instanceMethod ({ cls := "BareThursday$Town", name := "mindedGuises", desc := "(I)I" } : Jvm.MethodName)) ∈ wA := kA2 (i := 220) rfl rfl
theorem k2_221 : (Jvm.Cond.selects "BareThursday$Town" ({ cls := "BareThursday$Town", name := "mindedGuises", desc := "(I)I" } : Jvm.MethodName) ({ cls := "BareThursday$Town", name := "mindedGuises", desc := "(I)I" } : Jvm.MethodName)) ∈ wA := kA2 (i := 221) rfl rfl
theorem k2_222 : (Jvm.Cond.code ({ cls := "BareThursday$Town", name := "mindedGuises", desc := "(I)I" } : Jvm.MethodName) prog_5_method_17_code (4 : Nat) (Option.some Jvm.ClassFile.FieldType.int)) ∈ wA := kA2 (i := 222) rfl rfl
theorem k2_223 : (Jvm.Cond.methodLink "BareThursday" (186 : Nat) ({ cls := "BareThursday", name := "divisorWithGuises", desc := "(I)I" } : Jvm.MethodName)) ∈ wA := kA2 (i := 223) rfl rfl
theorem k2_224 : (Jvm.Cond.static ({ cls := "BareThursday", name := "divisorWithGuises", desc := "(I)I" } : Jvm.MethodName)) ∈ wA := kA2 (i := 224) rfl rfl
theorem k2_225 : (Jvm.Cond.code ({ cls := "BareThursday", name := "divisorWithGuises", desc := "(I)I" } : Jvm.MethodName) prog_1_method_30_code (2 : Nat) (Option.some Jvm.ClassFile.FieldType.int)) ∈ wA := kA2 (i := 225) rfl rfl
theorem k2_226 : (Jvm.Cond.methodLink "BareThursdayLaw" (110 : Nat) ({ cls := "BareThursday", name := "seed", desc := "(I)I" } : Jvm.MethodName)) ∈ wA := kA2 (i := 226) rfl rfl
theorem k2_227 : (Jvm.Cond.instanceMethod ({ cls := "BareThursday", name := "seed", desc := "(I)I" } : Jvm.MethodName)) ∈ wA := kA2 (i := 227) rfl rfl
theorem k2_228 : (Jvm.Cond.selects "BareThursday" ({ cls := "BareThursday", name := "seed", desc := "(I)I" } : Jvm.MethodName) ({ cls := "BareThursday", name := "seed", desc := "(I)I" } : Jvm.MethodName)) ∈ wA := kA2 (i := 228) rfl rfl
theorem k2_229 : (Jvm.Cond.code ({ cls := "BareThursday", name := "seed", desc := "(I)I" } : Jvm.MethodName) prog_1_method_31_code (3 : Nat) (Option.some Jvm.ClassFile.FieldType.int)) ∈ wA := kA2 (i := 229) rfl rfl
theorem k2_230 : (Jvm.Cond.methodLink "BareThursdayLaw" (114 : Nat) ({ cls := "BareThursday", name := "feed", desc := "(II)I" } : Jvm.MethodName)) ∈ wA := kA2 (i := 230) rfl rfl
theorem k2_231 : (Jvm.Cond.instanceMethod ({ cls := "BareThursday", name := "feed", desc := "(II)I" } : Jvm.MethodName)) ∈ wA := kA2 (i := 231) rfl rfl
theorem k2_232 : (Jvm.Cond.selects "BareThursday" ({ cls := "BareThursday", name := "feed", desc := "(II)I" } : Jvm.MethodName) ({ cls := "BareThursday", name := "feed", desc := "(II)I" } : Jvm.MethodName)) ∈ wA := kA2 (i := 232) rfl rfl
theorem k2_233 : (Jvm.Cond.code ({ cls := "BareThursday", name := "feed", desc := "(II)I" } : Jvm.MethodName) prog_1_method_32_code (4 : Nat) (Option.some Jvm.ClassFile.FieldType.int)) ∈ wA := kA2 (i := 233) rfl rfl
theorem k2_234 : (Jvm.Cond.methodLink "BareThursday" (192 : Nat) ({ cls := "BareThursday$Tape", name := "room", desc := "()I" } : Jvm.MethodName)) ∈ wA := kA2 (i := 234) rfl rfl
theorem k2_235 : (Jvm.Cond.instanceMethod ({ cls := "BareThursday$Tape", name := "room", desc := "()I" } : Jvm.MethodName)) ∈ wA := kA2 (i := 235) rfl rfl
theorem k2_236 : (Jvm.Cond.selects "BareThursday$Tape" ({ cls := "BareThursday$Tape", name := "room", desc := "()I" } : Jvm.MethodName) ({ cls := "BareThursday$Tape", name := "room", desc := "()I" } : Jvm.MethodName)) ∈ wA := kA2 (i := 236) rfl rfl
theorem k2_237 : (Jvm.Cond.code ({ cls := "BareThursday$Tape", name := "room", desc := "()I" } : Jvm.MethodName) prog_4_method_3_code (1 : Nat) (Option.some Jvm.ClassFile.FieldType.int)) ∈ wA := kA2 (i := 237) rfl rfl
theorem k2_238 : (Jvm.Cond.methodLink "BareThursday" (195 : Nat) ({ cls := "BareThursday$Tape", name := "add", desc := "(I)V" } : Jvm.MethodName)) ∈ wA := kA2 (i := 238) rfl rfl
theorem k2_239 : (Jvm.Cond.instanceMethod ({ cls := "BareThursday$Tape", name := "add", desc := "(I)V" } : Jvm.MethodName)) ∈ wA := kA2 (i := 239) rfl rfl
theorem k3_0 : (Jvm.Cond.selects "BareThursday$Tape" ({ cls := "BareThursday$Tape", name := "add", desc := "(I)V" } : Jvm.MethodName) ({ cls := "BareThursday$Tape", name := "add", desc := "(I)V" } : Jvm.MethodName)) ∈ wA := kA3 (i := 0) rfl rfl
theorem k3_1 : (Jvm.Cond.code ({ cls := "BareThursday$Tape", name := "add", desc := "(I)V" } : Jvm.MethodName) prog_4_method_5_code (2 : Nat) (Option.none : Option Jvm.ClassFile.FieldType)) ∈ wA := kA3 (i := 1) rfl rfl
theorem k3_2 : (Jvm.Cond.methodLink "BareThursday" (197 : Nat) ({ cls := "BareThursday$Tape", name := "length", desc := "()I" } : Jvm.MethodName)) ∈ wA := kA3 (i := 2) rfl rfl
theorem k3_3 : (Jvm.Cond.instanceMethod ({ cls := "BareThursday$Tape", name := "length", desc := "()I" } : Jvm.MethodName)) ∈ wA := kA3 (i := 3) rfl rfl
theorem k3_4 : (Jvm.Cond.selects "BareThursday$Tape" ({ cls := "BareThursday$Tape", name := "length", desc := "()I" } : Jvm.MethodName) ({ cls := "BareThursday$Tape", name := "length", desc := "()I" } : Jvm.MethodName)) ∈ wA := kA3 (i := 4) rfl rfl
theorem k3_5 : (Jvm.Cond.code ({ cls := "BareThursday$Tape", name := "length", desc := "()I" } : Jvm.MethodName) prog_4_method_2_code (1 : Nat) (Option.some Jvm.ClassFile.FieldType.int)) ∈ wA := kA3 (i := 5) rfl rfl
theorem k3_6 : (Jvm.Cond.methodLink "BareThursdayLaw" (118 : Nat) ({ cls := "BareThursday", name := "wipe", desc := "()I" } : Jvm.MethodName)) ∈ wA := kA3 (i := 6) rfl rfl
theorem k3_7 : (Jvm.Cond.instanceMethod ({ cls := "BareThursday", name := "wipe", desc := "()I" } : Jvm.MethodName)) ∈ wA := kA3 (i := 7) rfl rfl
theorem k3_8 : (Jvm.Cond.selects "BareThursday" ({ cls := "BareThursday", name := "wipe", desc := "()I" } : Jvm.MethodName) ({ cls := "BareThursday", name := "wipe", desc := "()I" } : Jvm.MethodName)) ∈ wA := kA3 (i := 8) rfl rfl
theorem k3_9 : (Jvm.Cond.code ({ cls := "BareThursday", name := "wipe", desc := "()I" } : Jvm.MethodName) prog_1_method_33_code (1 : Nat) (Option.some Jvm.ClassFile.FieldType.int)) ∈ wA := kA3 (i := 9) rfl rfl
theorem k3_10 : (Jvm.Cond.methodLink "BareThursday" (199 : Nat) ({ cls := "BareThursday$Tape", name := "empty", desc := "()I" } : Jvm.MethodName)) ∈ wA := kA3 (i := 10) rfl rfl
theorem k3_11 : (Jvm.Cond.instanceMethod ({ cls := "BareThursday$Tape", name := "empty", desc := "()I" } : Jvm.MethodName)) ∈ wA := kA3 (i := 11) rfl rfl
theorem k3_12 : (Jvm.Cond.selects "BareThursday$Tape" ({ cls := "BareThursday$Tape", name := "empty", desc := "()I" } : Jvm.MethodName) ({ cls := "BareThursday$Tape", name := "empty", desc := "()I" } : Jvm.MethodName)) ∈ wA := kA3 (i := 12) rfl rfl
theorem k3_13 : (Jvm.Cond.code ({ cls := "BareThursday$Tape", name := "empty", desc := "()I" } : Jvm.MethodName) prog_4_method_4_code (2 : Nat) (Option.some Jvm.ClassFile.FieldType.int)) ∈ wA := kA3 (i := 13) rfl rfl
theorem k3_14 : (Jvm.Cond.methodLink "BareThursdayLaw" (122 : Nat) ({ cls := "BareThursday", name := "text", desc := "()I" } : Jvm.MethodName)) ∈ wA := kA3 (i := 14) rfl rfl
theorem k3_15 : (Jvm.Cond.instanceMethod ({ cls := "BareThursday", name := "text", desc := "()I" } : Jvm.MethodName)) ∈ wA := kA3 (i := 15) rfl rfl
theorem k3_16 : (Jvm.Cond.selects "BareThursday" ({ cls := "BareThursday", name := "text", desc := "()I" } : Jvm.MethodName) ({ cls := "BareThursday", name := "text", desc := "()I" } : Jvm.MethodName)) ∈ wA := kA3 (i := 16) rfl rfl
theorem k3_17 : (Jvm.Cond.code ({ cls := "BareThursday", name := "text", desc := "()I" } : Jvm.MethodName) prog_1_method_34_code (2 : Nat) (Option.some Jvm.ClassFile.FieldType.int)) ∈ wA := kA3 (i := 17) rfl rfl
theorem k3_18 : (Jvm.Cond.methodLink "BareThursday" (202 : Nat) ({ cls := "BareThursday$Tape", name := "readText", desc := "(LBareThursday$Town;)I" } : Jvm.MethodName)) ∈ wA := kA3 (i := 18) rfl rfl
theorem k3_19 : (Jvm.Cond.instanceMethod ({ cls := "BareThursday$Tape", name := "readText", desc := "(LBareThursday$Town;)I" } : Jvm.MethodName)) ∈ wA := kA3 (i := 19) rfl rfl
theorem k3_20 : (Jvm.Cond.selects "BareThursday$Tape" ({ cls := "BareThursday$Tape", name := "readText", desc := "(LBareThursday$Town;)I" } : Jvm.MethodName) ({ cls := "BareThursday$Tape", name := "readText", desc := "(LBareThursday$Town;)I" } : Jvm.MethodName)) ∈ wA := kA3 (i := 20) rfl rfl
theorem k3_21 : (Jvm.Cond.code ({ cls := "BareThursday$Tape", name := "readText", desc := "(LBareThursday$Town;)I" } : Jvm.MethodName) prog_4_method_6_code (3 : Nat) (Option.some Jvm.ClassFile.FieldType.int)) ∈ wA := kA3 (i := 21) rfl rfl
theorem k3_22 : (Jvm.Cond.methodLink "BareThursday$Tape" (20 : Nat) ({ cls := "BareThursday$Tape", name := "nextToken", desc := "()V" } : Jvm.MethodName)) ∈ wA := kA3 (i := 22) rfl rfl
theorem k3_24 : (Jvm.Cond.instanceMethod ({ cls := "BareThursday$Tape", name := "nextToken", desc := "()V" } : Jvm.MethodName)) ∈ wA := kA3 (i := 24) rfl rfl
theorem k3_25 : (Jvm.Cond.code ({ cls := "BareThursday$Tape", name := "nextToken", desc := "()V" } : Jvm.MethodName) prog_4_method_14_code (1 : Nat) (Option.none : Option Jvm.ClassFile.FieldType)) ∈ wA := kA3 (i := 25) rfl rfl
theorem k3_26 : (Jvm.Cond.methodLink "BareThursday$Tape" (117 : Nat) ({ cls := "BareThursday$Tape", name := "isLetter", desc := "(I)Z" } : Jvm.MethodName)) ∈ wA := kA3 (i := 26) rfl rfl
theorem k3_27 : (Jvm.Cond.static ({ cls := "BareThursday$Tape", name := "isLetter", desc := "(I)Z" } : Jvm.MethodName)) ∈ wA := kA3 (i := 27) rfl rfl
theorem k3_28 : (Jvm.Cond.code ({ cls := "BareThursday$Tape", name := "isLetter", desc := "(I)Z" } : Jvm.MethodName) prog_4_method_17_code (1 : Nat) (Option.some Jvm.ClassFile.FieldType.boolean)) ∈ wA := kA3 (i := 28) rfl rfl
theorem k3_29 : (Jvm.Cond.methodLink "BareThursday$Tape" (120 : Nat) ({ cls := "BareThursday$Tape", name := "passWord", desc := "()V" } : Jvm.MethodName)) ∈ wA := kA3 (i := 29) rfl rfl
theorem k3_31 : (Jvm.Cond.instanceMethod ({ cls := "BareThursday$Tape", name := "passWord", desc := "()V" } : Jvm.MethodName)) ∈ wA := kA3 (i := 31) rfl rfl
theorem k3_32 : (Jvm.Cond.code ({ cls := "BareThursday$Tape", name := "passWord", desc := "()V" } : Jvm.MethodName) prog_4_method_15_code (1 : Nat) (Option.none : Option Jvm.ClassFile.FieldType)) ∈ wA := kA3 (i := 32) rfl rfl
theorem k3_33 : (Jvm.Cond.methodLink "BareThursday$Tape" (123 : Nat) ({ cls := "BareThursday$Tape", name := "isDigit", desc := "(I)Z" } : Jvm.MethodName)) ∈ wA := kA3 (i := 33) rfl rfl
theorem k3_34 : (Jvm.Cond.static ({ cls := "BareThursday$Tape", name := "isDigit", desc := "(I)Z" } : Jvm.MethodName)) ∈ wA := kA3 (i := 34) rfl rfl
theorem k3_35 : (Jvm.Cond.code ({ cls := "BareThursday$Tape", name := "isDigit", desc := "(I)Z" } : Jvm.MethodName) prog_4_method_18_code (1 : Nat) (Option.some Jvm.ClassFile.FieldType.boolean)) ∈ wA := kA3 (i := 35) rfl rfl
theorem k3_36 : (Jvm.Cond.methodLink "BareThursday$Tape" (126 : Nat) ({ cls := "BareThursday$Tape", name := "passNumber", desc := "()V" } : Jvm.MethodName)) ∈ wA := kA3 (i := 36) rfl rfl
theorem k3_38 : (Jvm.Cond.instanceMethod ({ cls := "BareThursday$Tape", name := "passNumber", desc := "()V" } : Jvm.MethodName)) ∈ wA := kA3 (i := 38) rfl rfl
theorem k3_39 : (Jvm.Cond.code ({ cls := "BareThursday$Tape", name := "passNumber", desc := "()V" } : Jvm.MethodName) prog_4_method_16_code (1 : Nat) (Option.none : Option Jvm.ClassFile.FieldType)) ∈ wA := kA3 (i := 39) rfl rfl
theorem k3_40 : (Jvm.Cond.methodLink "BareThursday$Tape" (129 : Nat) ({ cls := "java/lang/Math", name := "min", desc := "(II)I" } : Jvm.MethodName)) ∈ wA := kA3 (i := 40) rfl rfl
theorem k3_41 : (Jvm.Cond.methodLink "BareThursday$Tape" (23 : Nat) ({ cls := "BareThursday$Tape", name := "readItem", desc := "(LBareThursday$Town;)Z" } : Jvm.MethodName)) ∈ wA := kA3 (i := 41) rfl rfl
theorem k3_43 : (Jvm.Cond.instanceMethod ({ cls := "BareThursday$Tape", name := "readItem", desc := "(LBareThursday$Town;)Z" } : Jvm.MethodName)) ∈ wA := kA3 (i := 43) rfl rfl
theorem k3_44 : (Jvm.Cond.code ({ cls := "BareThursday$Tape", name := "readItem", desc := "(LBareThursday$Town;)Z" } : Jvm.MethodName) prog_4_method_7_code (3 : Nat) (Option.some Jvm.ClassFile.FieldType.boolean)) ∈ wA := kA3 (i := 44) rfl rfl
theorem k3_45 : (Jvm.Cond.methodLink "BareThursday$Tape" (33 : Nat) ({ cls := "BareThursday$Tape", name := "kindOfWord", desc := "()I" } : Jvm.MethodName)) ∈ wA := kA3 (i := 45) rfl rfl
theorem k3_47 : (Jvm.Cond.instanceMethod ({ cls := "BareThursday$Tape", name := "kindOfWord", desc := "()I" } : Jvm.MethodName)) ∈ wA := kA3 (i := 47) rfl rfl
theorem k3_48 : (Jvm.Cond.code ({ cls := "BareThursday$Tape", name := "kindOfWord", desc := "()I" } : Jvm.MethodName) prog_4_method_8_code (1 : Nat) (Option.some Jvm.ClassFile.FieldType.int)) ∈ wA := kA3 (i := 48) rfl rfl
theorem k3_50 : (Jvm.Cond.methodLink "BareThursday$Tape" (45 : Nat) ({ cls := "BareThursday$Tape", name := "isWord", desc := "(Ljava/lang/String;)Z" } : Jvm.MethodName)) ∈ wA := kA3 (i := 50) rfl rfl
theorem k3_52 : (Jvm.Cond.instanceMethod ({ cls := "BareThursday$Tape", name := "isWord", desc := "(Ljava/lang/String;)Z" } : Jvm.MethodName)) ∈ wA := kA3 (i := 52) rfl rfl
theorem k3_53 : (Jvm.Cond.code ({ cls := "BareThursday$Tape", name := "isWord", desc := "(Ljava/lang/String;)Z" } : Jvm.MethodName) prog_4_method_13_code (3 : Nat) (Option.some Jvm.ClassFile.FieldType.boolean)) ∈ wA := kA3 (i := 53) rfl rfl
theorem k3_54 : (Jvm.Cond.methodLink "BareThursday$Tape" (109 : Nat) ({ cls := "java/lang/String", name := "length", desc := "()I" } : Jvm.MethodName)) ∈ wA := kA3 (i := 54) rfl rfl
theorem k3_55 : (Jvm.Cond.instanceMethod ({ cls := "java/lang/String", name := "length", desc := "()I" } : Jvm.MethodName)) ∈ wA := kA3 (i := 55) rfl rfl
theorem k3_56 : (Jvm.Cond.selects "java/lang/String" ({ cls := "java/lang/String", name := "length", desc := "()I" } : Jvm.MethodName) ({ cls := "java/lang/String", name := "length", desc := "()I" } : Jvm.MethodName)) ∈ wA := kA3 (i := 56) rfl rfl
theorem k3_57 : (Jvm.Cond.code ({ cls := "java/lang/String", name := "length", desc := "()I" } : Jvm.MethodName) prog_10_method_54_code (1 : Nat) (Option.some Jvm.ClassFile.FieldType.int)) ∈ wA := kA3 (i := 57) rfl rfl
theorem k3_58 : (Jvm.Cond.methodLink "java/lang/String" (335 : Nat) ({ cls := "java/lang/String", name := "coder", desc := "()B" } : Jvm.MethodName)) ∈ wA := kA3 (i := 58) rfl rfl
theorem k3_59 : (Jvm.Cond.instanceMethod ({ cls := "java/lang/String", name := "coder", desc := "()B" } : Jvm.MethodName)) ∈ wA := kA3 (i := 59) rfl rfl
theorem k3_60 : (Jvm.Cond.selects "java/lang/String" ({ cls := "java/lang/String", name := "coder", desc := "()B" } : Jvm.MethodName) ({ cls := "java/lang/String", name := "coder", desc := "()B" } : Jvm.MethodName)) ∈ wA := kA3 (i := 60) rfl rfl
theorem k3_61 : (Jvm.Cond.code ({ cls := "java/lang/String", name := "coder", desc := "()B" } : Jvm.MethodName) prog_10_method_152_code (1 : Nat) (Option.some Jvm.ClassFile.FieldType.byte)) ∈ wA := kA3 (i := 61) rfl rfl
theorem k3_62 : (Jvm.Cond.fieldLink "java/lang/String" (38 : Nat) "java/lang/String" "COMPACT_STRINGS" "Z") ∈ wA := kA3 (i := 62) rfl rfl
theorem k3_64 : (Jvm.Cond.methodLink "BareThursday$Tape" (113 : Nat) ({ cls := "java/lang/String", name := "charAt", desc := "(I)C" } : Jvm.MethodName)) ∈ wA := kA3 (i := 64) rfl rfl
theorem k3_65 : (Jvm.Cond.instanceMethod ({ cls := "java/lang/String", name := "charAt", desc := "(I)C" } : Jvm.MethodName)) ∈ wA := kA3 (i := 65) rfl rfl
theorem k3_66 : (Jvm.Cond.selects "java/lang/String" ({ cls := "java/lang/String", name := "charAt", desc := "(I)C" } : Jvm.MethodName) ({ cls := "java/lang/String", name := "charAt", desc := "(I)C" } : Jvm.MethodName)) ∈ wA := kA3 (i := 66) rfl rfl
theorem k3_67 : (Jvm.Cond.code ({ cls := "java/lang/String", name := "charAt", desc := "(I)C" } : Jvm.MethodName) prog_10_method_56_code (2 : Nat) (Option.some Jvm.ClassFile.FieldType.char)) ∈ wA := kA3 (i := 67) rfl rfl
theorem k3_68 : (Jvm.Cond.methodLink "java/lang/String" (492 : Nat) ({ cls := "java/lang/String", name := "isLatin1", desc := "()Z" } : Jvm.MethodName)) ∈ wA := kA3 (i := 68) rfl rfl
theorem k3_69 : (Jvm.Cond.instanceMethod ({ cls := "java/lang/String", name := "isLatin1", desc := "()Z" } : Jvm.MethodName)) ∈ wA := kA3 (i := 69) rfl rfl
theorem k3_70 : (Jvm.Cond.selects "java/lang/String" ({ cls := "java/lang/String", name := "isLatin1", desc := "()Z" } : Jvm.MethodName) ({ cls := "java/lang/String", name := "isLatin1", desc := "()Z" } : Jvm.MethodName)) ∈ wA := kA3 (i := 70) rfl rfl
theorem k3_71 : (Jvm.Cond.code ({ cls := "java/lang/String", name := "isLatin1", desc := "()Z" } : Jvm.MethodName) prog_10_method_154_code (1 : Nat) (Option.some Jvm.ClassFile.FieldType.boolean)) ∈ wA := kA3 (i := 71) rfl rfl
theorem k3_72 : (Jvm.Cond.methodLink "java/lang/String" (495 : Nat) ({ cls := "java/lang/StringLatin1", name := "charAt", desc := "([BI)C" } : Jvm.MethodName)) ∈ wA := kA3 (i := 72) rfl rfl
theorem k3_73 : (Jvm.Cond.static ({ cls := "java/lang/StringLatin1", name := "charAt", desc := "([BI)C" } : Jvm.MethodName)) ∈ wA := kA3 (i := 73) rfl rfl
theorem k3_74 : (Jvm.Cond.code ({ cls := "java/lang/StringLatin1", name := "charAt", desc := "([BI)C" } : Jvm.MethodName) prog_11_method_2_code (2 : Nat) (Option.some Jvm.ClassFile.FieldType.char)) ∈ wA := kA3 (i := 74) rfl rfl
theorem k3_75 : (Jvm.Cond.methodLink "java/lang/StringLatin1" (9 : Nat) ({ cls := "java/lang/String", name := "checkIndex", desc := "(II)V" } : Jvm.MethodName)) ∈ wA := kA3 (i := 75) rfl rfl
theorem k3_76 : (Jvm.Cond.static ({ cls := "java/lang/String", name := "checkIndex", desc := "(II)V" } : Jvm.MethodName)) ∈ wA := kA3 (i := 76) rfl rfl
theorem k3_77 : (Jvm.Cond.code ({ cls := "java/lang/String", name := "checkIndex", desc := "(II)V" } : Jvm.MethodName) prog_10_method_155_code (2 : Nat) (Option.none : Option Jvm.ClassFile.FieldType)) ∈ wA := kA3 (i := 77) rfl rfl
theorem k3_78 : (Jvm.Cond.fieldLink "java/lang/String" (1053 : Nat) "jdk/internal/util/Preconditions" "SIOOBE_FORMATTER" "Ljava/util/function/BiFunction;") ∈ wA := kA3 (i := 78) rfl rfl
theorem k3_80 : (Jvm.Cond.methodLink "java/lang/String" (1059 : Nat) ({ cls := "jdk/internal/util/Preconditions", name := "checkIndex", desc := "(IILjava/util/function/BiFunction;)I" } : Jvm.MethodName)) ∈ wA := kA3 (i := 80) rfl rfl
theorem k3_81 : (Jvm.Cond.static ({ cls := "jdk/internal/util/Preconditions", name := "checkIndex", desc := "(IILjava/util/function/BiFunction;)I" } : Jvm.MethodName)) ∈ wA := kA3 (i := 81) rfl rfl
theorem k3_82 : (Jvm.Cond.code ({ cls := "jdk/internal/util/Preconditions", name := "checkIndex", desc := "(IILjava/util/function/BiFunction;)I" } : Jvm.MethodName) prog_15_method_11_code (3 : Nat) (Option.some Jvm.ClassFile.FieldType.int)) ∈ wA := kA3 (i := 82) rfl rfl
theorem k3_83 : (Jvm.Cond.methodLink "java/lang/String" (498 : Nat) ({ cls := "java/lang/StringUTF16", name := "charAt", desc := "([BI)C" } : Jvm.MethodName)) ∈ wA := kA3 (i := 83) rfl rfl
theorem k3_84 : (Jvm.Cond.static ({ cls := "java/lang/StringUTF16", name := "charAt", desc := "([BI)C" } : Jvm.MethodName)) ∈ wA := kA3 (i := 84) rfl rfl
theorem k3_85 : (Jvm.Cond.code ({ cls := "java/lang/StringUTF16", name := "charAt", desc := "([BI)C" } : Jvm.MethodName) prog_12_method_83_code (2 : Nat) (Option.some Jvm.ClassFile.FieldType.char)) ∈ wA := kA3 (i := 85) rfl rfl
theorem k3_86 : (Jvm.Cond.methodLink "java/lang/StringUTF16" (67 : Nat) ({ cls := "java/lang/StringUTF16", name := "checkIndex", desc := "(I[B)V" } : Jvm.MethodName)) ∈ wA := kA3 (i := 86) rfl rfl
theorem k3_87 : (Jvm.Cond.static ({ cls := "java/lang/StringUTF16", name := "checkIndex", desc := "(I[B)V" } : Jvm.MethodName)) ∈ wA := kA3 (i := 87) rfl rfl
theorem k3_88 : (Jvm.Cond.code ({ cls := "java/lang/StringUTF16", name := "checkIndex", desc := "(I[B)V" } : Jvm.MethodName) prog_12_method_91_code (2 : Nat) (Option.none : Option Jvm.ClassFile.FieldType)) ∈ wA := kA3 (i := 88) rfl rfl
theorem k3_89 : (Jvm.Cond.methodLink "java/lang/StringUTF16" (48 : Nat) ({ cls := "java/lang/StringUTF16", name := "length", desc := "([B)I" } : Jvm.MethodName)) ∈ wA := kA3 (i := 89) rfl rfl
theorem k3_90 : (Jvm.Cond.static ({ cls := "java/lang/StringUTF16", name := "length", desc := "([B)I" } : Jvm.MethodName)) ∈ wA := kA3 (i := 90) rfl rfl
theorem k3_91 : (Jvm.Cond.code ({ cls := "java/lang/StringUTF16", name := "length", desc := "([B)I" } : Jvm.MethodName) prog_12_method_6_code (1 : Nat) (Option.some Jvm.ClassFile.FieldType.int)) ∈ wA := kA3 (i := 91) rfl rfl
theorem k3_92 : (Jvm.Cond.methodLink "java/lang/StringUTF16" (414 : Nat) ({ cls := "java/lang/String", name := "checkIndex", desc := "(II)V" } : Jvm.MethodName)) ∈ wA := kA3 (i := 92) rfl rfl
theorem k3_93 : (Jvm.Cond.methodLink "java/lang/StringUTF16" (71 : Nat) ({ cls := "java/lang/StringUTF16", name := "getChar", desc := "([BI)C" } : Jvm.MethodName)) ∈ wA := kA3 (i := 93) rfl rfl
theorem k3_94 : (Jvm.Cond.static ({ cls := "java/lang/StringUTF16", name := "getChar", desc := "([BI)C" } : Jvm.MethodName)) ∈ wA := kA3 (i := 94) rfl rfl
theorem k3_95 : (Jvm.Cond.code ({ cls := "java/lang/StringUTF16", name := "getChar", desc := "([BI)C" } : Jvm.MethodName) prog_12_method_5_code (2 : Nat) (Option.some Jvm.ClassFile.FieldType.char)) ∈ wA := kA3 (i := 95) rfl rfl
theorem k3_96 : (Jvm.Cond.fieldLink "java/lang/StringUTF16" (44 : Nat) "java/lang/StringUTF16" "$assertionsDisabled" "Z") ∈ wA := kA3 (i := 96) rfl rfl
theorem k3_98 : (Jvm.Cond.fieldLink "java/lang/StringUTF16" (59 : Nat) "java/lang/StringUTF16" "HI_BYTE_SHIFT" "I") ∈ wA := kA3 (i := 98) rfl rfl
theorem k3_100 : (Jvm.Cond.fieldLink "java/lang/StringUTF16" (63 : Nat) "java/lang/StringUTF16" "LO_BYTE_SHIFT" "I") ∈ wA := kA3 (i := 100) rfl rfl
theorem k3_108 : (Jvm.Cond.methodLink "BareThursday$Tape" (39 : Nat) ({ cls := "BareThursday$Tape", name := "readOne", desc := "(ILBareThursday$Town;)Z" } : Jvm.MethodName)) ∈ wA := kA3 (i := 108) rfl rfl
theorem k3_110 : (Jvm.Cond.instanceMethod ({ cls := "BareThursday$Tape", name := "readOne", desc := "(ILBareThursday$Town;)Z" } : Jvm.MethodName)) ∈ wA := kA3 (i := 110) rfl rfl
theorem k3_111 : (Jvm.Cond.code ({ cls := "BareThursday$Tape", name := "readOne", desc := "(ILBareThursday$Town;)Z" } : Jvm.MethodName) prog_4_method_9_code (6 : Nat) (Option.some Jvm.ClassFile.FieldType.boolean)) ∈ wA := kA3 (i := 111) rfl rfl
theorem k3_112 : (Jvm.Cond.methodLink "BareThursday$Tape" (71 : Nat) ({ cls := "BareThursday$Town", name := "isFull", desc := "()Z" } : Jvm.MethodName)) ∈ wA := kA3 (i := 112) rfl rfl
theorem k3_114 : (Jvm.Cond.methodLink "BareThursday$Tape" (79 : Nat) ({ cls := "BareThursday$Tape", name := "isNumberBelow", desc := "(I)Z" } : Jvm.MethodName)) ∈ wA := kA3 (i := 114) rfl rfl
theorem k3_116 : (Jvm.Cond.instanceMethod ({ cls := "BareThursday$Tape", name := "isNumberBelow", desc := "(I)Z" } : Jvm.MethodName)) ∈ wA := kA3 (i := 116) rfl rfl
theorem k3_117 : (Jvm.Cond.code ({ cls := "BareThursday$Tape", name := "isNumberBelow", desc := "(I)Z" } : Jvm.MethodName) prog_4_method_12_code (2 : Nat) (Option.some Jvm.ClassFile.FieldType.boolean)) ∈ wA := kA3 (i := 117) rfl rfl
theorem k3_119 : (Jvm.Cond.methodLink "BareThursday$Tape" (88 : Nat) ({ cls := "BareThursday$Town", name := "add", desc := "(II)I" } : Jvm.MethodName)) ∈ wA := kA3 (i := 119) rfl rfl
theorem k3_120 : (Jvm.Cond.methodLink "BareThursday$Tape" (92 : Nat) ({ cls := "BareThursday$Town", name := "put", desc := "(III)V" } : Jvm.MethodName)) ∈ wA := kA3 (i := 120) rfl rfl
theorem k3_123 : (Jvm.Cond.methodLink "BareThursday$Tape" (49 : Nat) ({ cls := "BareThursday$Tape", name := "readMet", desc := "(LBareThursday$Town;)Z" } : Jvm.MethodName)) ∈ wA := kA3 (i := 123) rfl rfl
theorem k3_125 : (Jvm.Cond.instanceMethod ({ cls := "BareThursday$Tape", name := "readMet", desc := "(LBareThursday$Town;)Z" } : Jvm.MethodName)) ∈ wA := kA3 (i := 125) rfl rfl
theorem k3_126 : (Jvm.Cond.code ({ cls := "BareThursday$Tape", name := "readMet", desc := "(LBareThursday$Town;)Z" } : Jvm.MethodName) prog_4_method_10_code (3 : Nat) (Option.some Jvm.ClassFile.FieldType.boolean)) ∈ wA := kA3 (i := 126) rfl rfl
theorem k3_127 : (Jvm.Cond.methodLink "BareThursday$Tape" (101 : Nat) ({ cls := "BareThursday$Town", name := "meetEachOther", desc := "(II)V" } : Jvm.MethodName)) ∈ wA := kA3 (i := 127) rfl rfl
theorem k3_128 : (Jvm.Cond.instanceMethod ({ cls := "BareThursday$Town", name := "meetEachOther", desc := "(II)V" } : Jvm.MethodName)) ∈ wA := kA3 (i := 128) rfl rfl
theorem k3_129 : (Jvm.Cond.selects "BareThursday$Town" ({ cls := "BareThursday$Town", name := "meetEachOther", desc := "(II)V" } : Jvm.MethodName) ({ cls := "BareThursday$Town", name := "meetEachOther", desc := "(II)V" } : Jvm.MethodName)) ∈ wA := kA3 (i := 129) rfl rfl
theorem k3_130 : (Jvm.Cond.code ({ cls := "BareThursday$Town", name := "meetEachOther", desc := "(II)V" } : Jvm.MethodName) prog_5_method_36_code (3 : Nat) (Option.none : Option Jvm.ClassFile.FieldType)) ∈ wA := kA3 (i := 130) rfl rfl
theorem k3_131 : (Jvm.Cond.methodLink "BareThursday$Town" (152 : Nat) ({ cls := "BareThursday$Town", name := "areTwo", desc := "(II)Z" } : Jvm.MethodName)) ∈ wA := kA3 (i := 131) rfl rfl
theorem k3_133 : (Jvm.Cond.methodLink "BareThursday$Tape" (54 : Nat) ({ cls := "BareThursday$Tape", name := "readBell", desc := "(LBareThursday$Town;)Z" } : Jvm.MethodName)) ∈ wA := kA3 (i := 133) rfl rfl
theorem k3_135 : (Jvm.Cond.instanceMethod ({ cls := "BareThursday$Tape", name := "readBell", desc := "(LBareThursday$Town;)Z" } : Jvm.MethodName)) ∈ wA := kA3 (i := 135) rfl rfl
theorem k3_136 : (Jvm.Cond.code ({ cls := "BareThursday$Tape", name := "readBell", desc := "(LBareThursday$Town;)Z" } : Jvm.MethodName) prog_4_method_11_code (2 : Nat) (Option.some Jvm.ClassFile.FieldType.boolean)) ∈ wA := kA3 (i := 136) rfl rfl
theorem k3_137 : (Jvm.Cond.methodLink "BareThursday$Tape" (105 : Nat) ({ cls := "BareThursday$Town", name := "skipDays", desc := "(I)V" } : Jvm.MethodName)) ∈ wA := kA3 (i := 137) rfl rfl
theorem k3_138 : (Jvm.Cond.arrayClass Jvm.ClassFile.FieldType.byte) ∈ wA := kA3 (i := 138) rfl rfl
theorem k3_139 : (Jvm.Cond.methodLink "BareThursdayLaw" (126 : Nat) ({ cls := "BareThursday", name := "hold", desc := "(II)I" } : Jvm.MethodName)) ∈ wA := kA3 (i := 139) rfl rfl
theorem k3_140 : (Jvm.Cond.instanceMethod ({ cls := "BareThursday", name := "hold", desc := "(II)I" } : Jvm.MethodName)) ∈ wA := kA3 (i := 140) rfl rfl
theorem k3_141 : (Jvm.Cond.selects "BareThursday" ({ cls := "BareThursday", name := "hold", desc := "(II)I" } : Jvm.MethodName) ({ cls := "BareThursday", name := "hold", desc := "(II)I" } : Jvm.MethodName)) ∈ wA := kA3 (i := 141) rfl rfl
theorem k3_142 : (Jvm.Cond.code ({ cls := "BareThursday", name := "hold", desc := "(II)I" } : Jvm.MethodName) prog_1_method_35_code (3 : Nat) (Option.some Jvm.ClassFile.FieldType.int)) ∈ wA := kA3 (i := 142) rfl rfl
theorem k3_143 : (Jvm.Cond.methodLink "BareThursdayLaw" (130 : Nat) ({ cls := "BareThursday", name := "as", desc := "(II)I" } : Jvm.MethodName)) ∈ wA := kA3 (i := 143) rfl rfl
theorem k3_144 : (Jvm.Cond.instanceMethod ({ cls := "BareThursday", name := "as", desc := "(II)I" } : Jvm.MethodName)) ∈ wA := kA3 (i := 144) rfl rfl
theorem k3_145 : (Jvm.Cond.selects "BareThursday" ({ cls := "BareThursday", name := "as", desc := "(II)I" } : Jvm.MethodName) ({ cls := "BareThursday", name := "as", desc := "(II)I" } : Jvm.MethodName)) ∈ wA := kA3 (i := 145) rfl rfl
theorem k3_146 : (Jvm.Cond.code ({ cls := "BareThursday", name := "as", desc := "(II)I" } : Jvm.MethodName) prog_1_method_36_code (4 : Nat) (Option.some Jvm.ClassFile.FieldType.int)) ∈ wA := kA3 (i := 146) rfl rfl
theorem k3_147 : (Jvm.Cond.methodLink "BareThursday" (209 : Nat) ({ cls := "BareThursday$Kinds", name := "isUnder", desc := "(II)Z" } : Jvm.MethodName)) ∈ wA := kA3 (i := 147) rfl rfl
theorem k3_148 : (Jvm.Cond.static ({ cls := "BareThursday$Kinds", name := "isUnder", desc := "(II)Z" } : Jvm.MethodName)) ∈ wA := kA3 (i := 148) rfl rfl
theorem k3_149 : (Jvm.Cond.code ({ cls := "BareThursday$Kinds", name := "isUnder", desc := "(II)Z" } : Jvm.MethodName) prog_2_method_3_code (4 : Nat) (Option.some Jvm.ClassFile.FieldType.boolean)) ∈ wA := kA3 (i := 149) rfl rfl
theorem k3_150 : (Jvm.Cond.methodLink "BareThursday$Kinds" (9 : Nat) ({ cls := "BareThursday$Kinds", name := "above", desc := "(I)I" } : Jvm.MethodName)) ∈ wA := kA3 (i := 150) rfl rfl
theorem k3_151 : (Jvm.Cond.static ({ cls := "BareThursday$Kinds", name := "above", desc := "(I)I" } : Jvm.MethodName)) ∈ wA := kA3 (i := 151) rfl rfl
theorem k3_152 : (Jvm.Cond.code ({ cls := "BareThursday$Kinds", name := "above", desc := "(I)I" } : Jvm.MethodName) prog_2_method_2_code (1 : Nat) (Option.some Jvm.ClassFile.FieldType.int)) ∈ wA := kA3 (i := 152) rfl rfl
theorem k3_153 : (Jvm.Cond.methodLink "BareThursdayLaw" (134 : Nat) ({ cls := "BareThursday", name := "sheet", desc := "(III)I" } : Jvm.MethodName)) ∈ wA := kA3 (i := 153) rfl rfl
theorem k3_154 : (Jvm.Cond.instanceMethod ({ cls := "BareThursday", name := "sheet", desc := "(III)I" } : Jvm.MethodName)) ∈ wA := kA3 (i := 154) rfl rfl
theorem k3_155 : (Jvm.Cond.selects "BareThursday" ({ cls := "BareThursday", name := "sheet", desc := "(III)I" } : Jvm.MethodName) ({ cls := "BareThursday", name := "sheet", desc := "(III)I" } : Jvm.MethodName)) ∈ wA := kA3 (i := 155) rfl rfl
theorem k3_156 : (Jvm.Cond.code ({ cls := "BareThursday", name := "sheet", desc := "(III)I" } : Jvm.MethodName) prog_1_method_37_code (4 : Nat) (Option.some Jvm.ClassFile.FieldType.int)) ∈ wA := kA3 (i := 156) rfl rfl
theorem k3_157 : (Jvm.Cond.methodLink "BareThursday" (214 : Nat) ({ cls := "BareThursday$Sheets", name := "lay", desc := "(III)V" } : Jvm.MethodName)) ∈ wA := kA3 (i := 157) rfl rfl
theorem k3_158 : (Jvm.Cond.instanceMethod ({ cls := "BareThursday$Sheets", name := "lay", desc := "(III)V" } : Jvm.MethodName)) ∈ wA := kA3 (i := 158) rfl rfl
theorem k3_159 : (Jvm.Cond.selects "BareThursday$Sheets" ({ cls := "BareThursday$Sheets", name := "lay", desc := "(III)V" } : Jvm.MethodName) ({ cls := "BareThursday$Sheets", name := "lay", desc := "(III)V" } : Jvm.MethodName)) ∈ wA := kA3 (i := 159) rfl rfl
theorem k3_160 : (Jvm.Cond.code ({ cls := "BareThursday$Sheets", name := "lay", desc := "(III)V" } : Jvm.MethodName) prog_3_method_2_code (4 : Nat) (Option.none : Option Jvm.ClassFile.FieldType)) ∈ wA := kA3 (i := 160) rfl rfl
theorem k3_161 : (Jvm.Cond.methodLink "BareThursday$Sheets" (19 : Nat) ({ cls := "java/util/Arrays", name := "fill", desc := "([IIII)V" } : Jvm.MethodName)) ∈ wA := kA3 (i := 161) rfl rfl
theorem k3_162 : (Jvm.Cond.static ({ cls := "java/util/Arrays", name := "fill", desc := "([IIII)V" } : Jvm.MethodName)) ∈ wA := kA3 (i := 162) rfl rfl
theorem k3_163 : (Jvm.Cond.code ({ cls := "java/util/Arrays", name := "fill", desc := "([IIII)V" } : Jvm.MethodName) prog_14_method_104_code (5 : Nat) (Option.none : Option Jvm.ClassFile.FieldType)) ∈ wA := kA3 (i := 163) rfl rfl
theorem k3_164 : (Jvm.Cond.methodLink "java/util/Arrays" (13 : Nat) ({ cls := "java/util/Arrays", name := "rangeCheck", desc := "(III)V" } : Jvm.MethodName)) ∈ wA := kA3 (i := 164) rfl rfl
theorem k3_165 : (Jvm.Cond.static ({ cls := "java/util/Arrays", name := "rangeCheck", desc := "(III)V" } : Jvm.MethodName)) ∈ wA := kA3 (i := 165) rfl rfl
theorem k3_166 : (Jvm.Cond.code ({ cls := "java/util/Arrays", name := "rangeCheck", desc := "(III)V" } : Jvm.MethodName) prog_14_method_30_code (3 : Nat) (Option.none : Option Jvm.ClassFile.FieldType)) ∈ wA := kA3 (i := 166) rfl rfl
theorem k3_167 : (Jvm.Cond.methodLink "BareThursdayLaw" (138 : Nat) ({ cls := "BareThursday", name := "write", desc := "(III)I" } : Jvm.MethodName)) ∈ wA := kA3 (i := 167) rfl rfl
theorem k3_168 : (Jvm.Cond.instanceMethod ({ cls := "BareThursday", name := "write", desc := "(III)I" } : Jvm.MethodName)) ∈ wA := kA3 (i := 168) rfl rfl
theorem k3_169 : (Jvm.Cond.selects "BareThursday" ({ cls := "BareThursday", name := "write", desc := "(III)I" } : Jvm.MethodName) ({ cls := "BareThursday", name := "write", desc := "(III)I" } : Jvm.MethodName)) ∈ wA := kA3 (i := 169) rfl rfl
theorem k3_170 : (Jvm.Cond.code ({ cls := "BareThursday", name := "write", desc := "(III)I" } : Jvm.MethodName) prog_1_method_38_code (4 : Nat) (Option.some Jvm.ClassFile.FieldType.int)) ∈ wA := kA3 (i := 170) rfl rfl
theorem k3_171 : (Jvm.Cond.methodLink "BareThursday" (217 : Nat) ({ cls := "BareThursday$Sheets", name := "put", desc := "(III)V" } : Jvm.MethodName)) ∈ wA := kA3 (i := 171) rfl rfl
theorem k3_172 : (Jvm.Cond.instanceMethod ({ cls := "BareThursday$Sheets", name := "put", desc := "(III)V" } : Jvm.MethodName)) ∈ wA := kA3 (i := 172) rfl rfl
theorem k3_173 : (Jvm.Cond.selects "BareThursday$Sheets" ({ cls := "BareThursday$Sheets", name := "put", desc := "(III)V" } : Jvm.MethodName) ({ cls := "BareThursday$Sheets", name := "put", desc := "(III)V" } : Jvm.MethodName)) ∈ wA := kA3 (i := 173) rfl rfl
theorem k3_174 : (Jvm.Cond.code ({ cls := "BareThursday$Sheets", name := "put", desc := "(III)V" } : Jvm.MethodName) prog_3_method_7_code (4 : Nat) (Option.none : Option Jvm.ClassFile.FieldType)) ∈ wA := kA3 (i := 174) rfl rfl
theorem k3_175 : (Jvm.Cond.methodLink "BareThursday$Sheets" (25 : Nat) ({ cls := "BareThursday$Sheets", name := "lowest", desc := "(II)I" } : Jvm.MethodName)) ∈ wA := kA3 (i := 175) rfl rfl
theorem k3_176 : (Jvm.Cond.static ({ cls := "BareThursday$Sheets", name := "lowest", desc := "(II)I" } : Jvm.MethodName)) ∈ wA := kA3 (i := 176) rfl rfl
theorem k3_177 : (Jvm.Cond.code ({ cls := "BareThursday$Sheets", name := "lowest", desc := "(II)I" } : Jvm.MethodName) prog_3_method_8_code (2 : Nat) (Option.some Jvm.ClassFile.FieldType.int)) ∈ wA := kA3 (i := 177) rfl rfl
theorem k3_178 : (Jvm.Cond.methodLink "BareThursdayLaw" (142 : Nat) ({ cls := "BareThursday", name := "copy", desc := "(IIIII)I" } : Jvm.MethodName)) ∈ wA := kA3 (i := 178) rfl rfl
theorem k3_179 : (Jvm.Cond.instanceMethod ({ cls := "BareThursday", name := "copy", desc := "(IIIII)I" } : Jvm.MethodName)) ∈ wA := kA3 (i := 179) rfl rfl
theorem k3_180 : (Jvm.Cond.selects "BareThursday" ({ cls := "BareThursday", name := "copy", desc := "(IIIII)I" } : Jvm.MethodName) ({ cls := "BareThursday", name := "copy", desc := "(IIIII)I" } : Jvm.MethodName)) ∈ wA := kA3 (i := 180) rfl rfl
theorem k3_181 : (Jvm.Cond.code ({ cls := "BareThursday", name := "copy", desc := "(IIIII)I" } : Jvm.MethodName) prog_1_method_39_code (6 : Nat) (Option.some Jvm.ClassFile.FieldType.int)) ∈ wA := kA3 (i := 181) rfl rfl
theorem k3_182 : (Jvm.Cond.methodLink "BareThursday" (218 : Nat) ({ cls := "BareThursday$Sheets", name := "bits", desc := "(I)I" } : Jvm.MethodName)) ∈ wA := kA3 (i := 182) rfl rfl
theorem k3_183 : (Jvm.Cond.instanceMethod ({ cls := "BareThursday$Sheets", name := "bits", desc := "(I)I" } : Jvm.MethodName)) ∈ wA := kA3 (i := 183) rfl rfl
theorem k3_184 : (Jvm.Cond.selects "BareThursday$Sheets" ({ cls := "BareThursday$Sheets", name := "bits", desc := "(I)I" } : Jvm.MethodName) ({ cls := "BareThursday$Sheets", name := "bits", desc := "(I)I" } : Jvm.MethodName)) ∈ wA := kA3 (i := 184) rfl rfl
theorem k3_185 : (Jvm.Cond.code ({ cls := "BareThursday$Sheets", name := "bits", desc := "(I)I" } : Jvm.MethodName) prog_3_method_4_code (2 : Nat) (Option.some Jvm.ClassFile.FieldType.int)) ∈ wA := kA3 (i := 185) rfl rfl
theorem k3_186 : (Jvm.Cond.methodLink "BareThursday" (221 : Nat) ({ cls := "BareThursday$Sheets", name := "hasPart", desc := "(III)Z" } : Jvm.MethodName)) ∈ wA := kA3 (i := 186) rfl rfl
theorem k3_187 : (Jvm.Cond.instanceMethod ({ cls := "BareThursday$Sheets", name := "hasPart", desc := "(III)Z" } : Jvm.MethodName)) ∈ wA := kA3 (i := 187) rfl rfl
theorem k3_188 : (Jvm.Cond.selects "BareThursday$Sheets" ({ cls := "BareThursday$Sheets", name := "hasPart", desc := "(III)Z" } : Jvm.MethodName) ({ cls := "BareThursday$Sheets", name := "hasPart", desc := "(III)Z" } : Jvm.MethodName)) ∈ wA := kA3 (i := 188) rfl rfl
theorem k3_189 : (Jvm.Cond.code ({ cls := "BareThursday$Sheets", name := "hasPart", desc := "(III)Z" } : Jvm.MethodName) prog_3_method_9_code (4 : Nat) (Option.some Jvm.ClassFile.FieldType.boolean)) ∈ wA := kA3 (i := 189) rfl rfl
theorem k3_190 : (Jvm.Cond.methodLink "BareThursday" (224 : Nat) ({ cls := "BareThursday$Sheets", name := "move", desc := "(IIIII)V" } : Jvm.MethodName)) ∈ wA := kA3 (i := 190) rfl rfl
theorem k3_191 : (Jvm.Cond.instanceMethod ({ cls := "BareThursday$Sheets", name := "move", desc := "(IIIII)V" } : Jvm.MethodName)) ∈ wA := kA3 (i := 191) rfl rfl
theorem k3_192 : (Jvm.Cond.selects "BareThursday$Sheets" ({ cls := "BareThursday$Sheets", name := "move", desc := "(IIIII)V" } : Jvm.MethodName) ({ cls := "BareThursday$Sheets", name := "move", desc := "(IIIII)V" } : Jvm.MethodName)) ∈ wA := kA3 (i := 192) rfl rfl
theorem k3_193 : (Jvm.Cond.code ({ cls := "BareThursday$Sheets", name := "move", desc := "(IIIII)V" } : Jvm.MethodName) prog_3_method_10_code (6 : Nat) (Option.none : Option Jvm.ClassFile.FieldType)) ∈ wA := kA3 (i := 193) rfl rfl
theorem k3_194 : (Jvm.Cond.methodLink "BareThursday$Sheets" (29 : Nat) ({ cls := "java/lang/System", name := "arraycopy", desc := "(Ljava/lang/Object;ILjava/lang/Object;II)V" } : Jvm.MethodName)) ∈ wA := kA3 (i := 194) rfl rfl
theorem k3_195 : (Jvm.Cond.methodLink "BareThursdayLaw" (147 : Nat) ({ cls := "BareThursday", name := "load", desc := "(I)I" } : Jvm.MethodName)) ∈ wA := kA3 (i := 195) rfl rfl
theorem k3_196 : (Jvm.Cond.instanceMethod ({ cls := "BareThursday", name := "load", desc := "(I)I" } : Jvm.MethodName)) ∈ wA := kA3 (i := 196) rfl rfl
theorem k3_197 : (Jvm.Cond.selects "BareThursday" ({ cls := "BareThursday", name := "load", desc := "(I)I" } : Jvm.MethodName) ({ cls := "BareThursday", name := "load", desc := "(I)I" } : Jvm.MethodName)) ∈ wA := kA3 (i := 197) rfl rfl
theorem k3_198 : (Jvm.Cond.code ({ cls := "BareThursday", name := "load", desc := "(I)I" } : Jvm.MethodName) prog_1_method_40_code (5 : Nat) (Option.some Jvm.ClassFile.FieldType.int)) ∈ wA := kA3 (i := 198) rfl rfl
theorem k3_199 : (Jvm.Cond.methodLink "BareThursday" (228 : Nat) ({ cls := "java/lang/Math", name := "min", desc := "(II)I" } : Jvm.MethodName)) ∈ wA := kA3 (i := 199) rfl rfl
theorem k3_200 : (Jvm.Cond.methodLink "BareThursdayLaw" (151 : Nat) ({ cls := "BareThursday", name := "judge", desc := "(I)I" } : Jvm.MethodName)) ∈ wA := kA3 (i := 200) rfl rfl
theorem k3_201 : (Jvm.Cond.instanceMethod ({ cls := "BareThursday", name := "judge", desc := "(I)I" } : Jvm.MethodName)) ∈ wA := kA3 (i := 201) rfl rfl
theorem k3_202 : (Jvm.Cond.selects "BareThursday" ({ cls := "BareThursday", name := "judge", desc := "(I)I" } : Jvm.MethodName) ({ cls := "BareThursday", name := "judge", desc := "(I)I" } : Jvm.MethodName)) ∈ wA := kA3 (i := 202) rfl rfl
theorem k3_203 : (Jvm.Cond.code ({ cls := "BareThursday", name := "judge", desc := "(I)I" } : Jvm.MethodName) prog_1_method_41_code (3 : Nat) (Option.some Jvm.ClassFile.FieldType.int)) ∈ wA := kA3 (i := 203) rfl rfl
theorem k3_204 : (Jvm.Cond.methodLink "BareThursdayLaw" (155 : Nat) ({ cls := "BareThursday", name := "image", desc := "()I" } : Jvm.MethodName)) ∈ wA := kA3 (i := 204) rfl rfl
theorem k3_205 : (Jvm.Cond.instanceMethod ({ cls := "BareThursday", name := "image", desc := "()I" } : Jvm.MethodName)) ∈ wA := kA3 (i := 205) rfl rfl
theorem k3_206 : (Jvm.Cond.selects "BareThursday" ({ cls := "BareThursday", name := "image", desc := "()I" } : Jvm.MethodName) ({ cls := "BareThursday", name := "image", desc := "()I" } : Jvm.MethodName)) ∈ wA := kA3 (i := 206) rfl rfl
theorem k3_207 : (Jvm.Cond.code ({ cls := "BareThursday", name := "image", desc := "()I" } : Jvm.MethodName) prog_1_method_42_code (1 : Nat) (Option.some Jvm.ClassFile.FieldType.int)) ∈ wA := kA3 (i := 207) rfl rfl
theorem k3_208 : (Jvm.Cond.methodLink "BareThursdayLaw" (159 : Nat) ({ cls := "BareThursday", name := "undo", desc := "()I" } : Jvm.MethodName)) ∈ wA := kA3 (i := 208) rfl rfl
theorem k3_209 : (Jvm.Cond.instanceMethod ({ cls := "BareThursday", name := "undo", desc := "()I" } : Jvm.MethodName)) ∈ wA := kA3 (i := 209) rfl rfl
theorem k3_210 : (Jvm.Cond.selects "BareThursday" ({ cls := "BareThursday", name := "undo", desc := "()I" } : Jvm.MethodName) ({ cls := "BareThursday", name := "undo", desc := "()I" } : Jvm.MethodName)) ∈ wA := kA3 (i := 210) rfl rfl
theorem k3_211 : (Jvm.Cond.code ({ cls := "BareThursday", name := "undo", desc := "()I" } : Jvm.MethodName) prog_1_method_43_code (1 : Nat) (Option.some Jvm.ClassFile.FieldType.int)) ∈ wA := kA3 (i := 211) rfl rfl
theorem k3_212 : (Jvm.Cond.methodLink "BareThursdayLaw" (163 : Nat) ({ cls := "BareThursday", name := "tear", desc := "()I" } : Jvm.MethodName)) ∈ wA := kA3 (i := 212) rfl rfl
theorem k3_213 : (Jvm.Cond.instanceMethod ({ cls := "BareThursday", name := "tear", desc := "()I" } : Jvm.MethodName)) ∈ wA := kA3 (i := 213) rfl rfl
theorem k3_214 : (Jvm.Cond.selects "BareThursday" ({ cls := "BareThursday", name := "tear", desc := "()I" } : Jvm.MethodName) ({ cls := "BareThursday", name := "tear", desc := "()I" } : Jvm.MethodName)) ∈ wA := kA3 (i := 214) rfl rfl
theorem k3_215 : (Jvm.Cond.code ({ cls := "BareThursday", name := "tear", desc := "()I" } : Jvm.MethodName) prog_1_method_44_code (2 : Nat) (Option.some Jvm.ClassFile.FieldType.int)) ∈ wA := kA3 (i := 215) rfl rfl
theorem k3_216 : (Jvm.Cond.methodLink "BareThursdayLaw" (167 : Nat) ({ cls := "BareThursday", name := "count", desc := "(I)I" } : Jvm.MethodName)) ∈ wA := kA3 (i := 216) rfl rfl
theorem k3_217 : (Jvm.Cond.instanceMethod ({ cls := "BareThursday", name := "count", desc := "(I)I" } : Jvm.MethodName)) ∈ wA := kA3 (i := 217) rfl rfl
theorem k3_218 : (Jvm.Cond.selects "BareThursday" ({ cls := "BareThursday", name := "count", desc := "(I)I" } : Jvm.MethodName) ({ cls := "BareThursday", name := "count", desc := "(I)I" } : Jvm.MethodName)) ∈ wA := kA3 (i := 218) rfl rfl
theorem k3_219 : (Jvm.Cond.code ({ cls := "BareThursday", name := "count", desc := "(I)I" } : Jvm.MethodName) prog_1_method_45_code (2 : Nat) (Option.some Jvm.ClassFile.FieldType.int)) ∈ wA := kA3 (i := 219) rfl rfl
theorem k3_220 : (Jvm.Cond.methodLink "BareThursday" (237 : Nat) ({ cls := "BareThursday$Town", name := "heldSpots", desc := "()I" } : Jvm.MethodName)) ∈ wA := kA3 (i := 220) rfl rfl
theorem k3_221 : (Jvm.Cond.instanceMethod ({ cls := "BareThursday$Town", name := "heldSpots", desc := "()I" } : Jvm.MethodName)) ∈ wA := kA3 (i := 221) rfl rfl
theorem k3_222 : (Jvm.Cond.selects "BareThursday$Town" ({ cls := "BareThursday$Town", name := "heldSpots", desc := "()I" } : Jvm.MethodName) ({ cls := "BareThursday$Town", name := "heldSpots", desc := "()I" } : Jvm.MethodName)) ∈ wA := kA3 (i := 222) rfl rfl
theorem k3_223 : (Jvm.Cond.code ({ cls := "BareThursday$Town", name := "heldSpots", desc := "()I" } : Jvm.MethodName) prog_5_method_28_code (3 : Nat) (Option.some Jvm.ClassFile.FieldType.int)) ∈ wA := kA3 (i := 223) rfl rfl
theorem k3_224 : (Jvm.Cond.methodLink "BareThursdayLaw" (171 : Nat) ({ cls := "BareThursday", name := "status", desc := "(I)I" } : Jvm.MethodName)) ∈ wA := kA3 (i := 224) rfl rfl
theorem k3_225 : (Jvm.Cond.instanceMethod ({ cls := "BareThursday", name := "status", desc := "(I)I" } : Jvm.MethodName)) ∈ wA := kA3 (i := 225) rfl rfl
theorem k3_226 : (Jvm.Cond.selects "BareThursday" ({ cls := "BareThursday", name := "status", desc := "(I)I" } : Jvm.MethodName) ({ cls := "BareThursday", name := "status", desc := "(I)I" } : Jvm.MethodName)) ∈ wA := kA3 (i := 226) rfl rfl
theorem k3_227 : (Jvm.Cond.code ({ cls := "BareThursday", name := "status", desc := "(I)I" } : Jvm.MethodName) prog_1_method_46_code (4 : Nat) (Option.some Jvm.ClassFile.FieldType.int)) ∈ wA := kA3 (i := 227) rfl rfl
theorem k3_228 : (Jvm.Cond.classLink "BareThursdayLaw" (10 : Nat) "BareThursdayModel") ∈ wA := kA3 (i := 228) rfl rfl
theorem k3_229 : (Jvm.Cond.instantiable "BareThursdayModel" (18 : Nat)) ∈ wA := kA3 (i := 229) rfl rfl
theorem k3_230 : (Jvm.Cond.methodLink "BareThursdayLaw" (12 : Nat) ({ cls := "BareThursdayModel", name := "<init>", desc := "()V" } : Jvm.MethodName)) ∈ wA := kA3 (i := 230) rfl rfl
theorem k3_231 : (Jvm.Cond.instanceMethod ({ cls := "BareThursdayModel", name := "<init>", desc := "()V" } : Jvm.MethodName)) ∈ wA := kA3 (i := 231) rfl rfl
theorem k3_232 : (Jvm.Cond.code ({ cls := "BareThursdayModel", name := "<init>", desc := "()V" } : Jvm.MethodName) prog_7_method_1_code (2 : Nat) (Option.none : Option Jvm.ClassFile.FieldType)) ∈ wA := kA3 (i := 232) rfl rfl
theorem k3_233 : (Jvm.Cond.methodLink "BareThursdayModel" (1 : Nat) ({ cls := "java/lang/Object", name := "<init>", desc := "()V" } : Jvm.MethodName)) ∈ wA := kA3 (i := 233) rfl rfl
theorem k3_234 : (Jvm.Cond.fieldLink "BareThursdayModel" (9 : Nat) "BareThursdayModel" "s" "[I") ∈ wA := kA3 (i := 234) rfl rfl
theorem k3_235 : (Jvm.Cond.fieldLink "BareThursdayModel" (13 : Nat) "BareThursdayModel" "kept" "[I") ∈ wA := kA3 (i := 235) rfl rfl
theorem k3_236 : (Jvm.Cond.fieldLink "BareThursdayModel" (16 : Nat) "BareThursdayModel" "aside" "[I") ∈ wA := kA3 (i := 236) rfl rfl
theorem k3_237 : (Jvm.Cond.fieldLink "BareThursdayModel" (269 : Nat) "BareThursdayModel" "isKept" "Z") ∈ wA := kA3 (i := 237) rfl rfl
theorem k3_238 : (Jvm.Cond.fieldLink "BareThursdayModel" (19 : Nat) "BareThursdayModel" "found" "[I") ∈ wA := kA3 (i := 238) rfl rfl
theorem k3_239 : (Jvm.Cond.fieldLink "BareThursdayModel" (22 : Nat) "BareThursdayModel" "tape" "[I") ∈ wA := kA3 (i := 239) rfl rfl
theorem k4_0 : (Jvm.Cond.fieldLink "BareThursdayModel" (209 : Nat) "BareThursdayModel" "taped" "I") ∈ wA := kA4 (i := 0) rfl rfl
theorem k4_1 : (Jvm.Cond.fieldLink "BareThursdayModel" (223 : Nat) "BareThursdayModel" "token" "I") ∈ wA := kA4 (i := 1) rfl rfl
theorem k4_2 : (Jvm.Cond.fieldLink "BareThursdayModel" (216 : Nat) "BareThursdayModel" "begun" "I") ∈ wA := kA4 (i := 2) rfl rfl
theorem k4_3 : (Jvm.Cond.fieldLink "BareThursdayModel" (213 : Nat) "BareThursdayModel" "ended" "I") ∈ wA := kA4 (i := 3) rfl rfl
theorem k4_4 : (Jvm.Cond.fieldLink "BareThursdayModel" (219 : Nat) "BareThursdayModel" "value" "J") ∈ wA := kA4 (i := 4) rfl rfl
theorem k4_5 : (Jvm.Cond.fieldLink "BareThursdayModel" (25 : Nat) "BareThursdayModel" "letters" "[C") ∈ wA := kA4 (i := 5) rfl rfl
theorem k4_6 : (Jvm.Cond.fieldLink "BareThursdayModel" (29 : Nat) "BareThursdayModel" "more" "[C") ∈ wA := kA4 (i := 6) rfl rfl
theorem k4_7 : (Jvm.Cond.fieldLink "BareThursdayModel" (32 : Nat) "BareThursdayModel" "others" "[C") ∈ wA := kA4 (i := 7) rfl rfl
theorem k4_8 : (Jvm.Cond.fieldLink "BareThursdayModel" (35 : Nat) "BareThursdayModel" "widths" "[I") ∈ wA := kA4 (i := 8) rfl rfl
theorem k4_9 : (Jvm.Cond.fieldLink "BareThursdayModel" (38 : Nat) "BareThursdayModel" "sizes" "[I") ∈ wA := kA4 (i := 9) rfl rfl
theorem k4_10 : (Jvm.Cond.fieldLink "BareThursdayModel" (41 : Nat) "BareThursdayModel" "cells" "[I") ∈ wA := kA4 (i := 10) rfl rfl
theorem k4_11 : (Jvm.Cond.fieldLink "BareThursdayModel" (44 : Nat) "BareThursdayModel" "carried" "[I") ∈ wA := kA4 (i := 11) rfl rfl
theorem k4_49 : (Jvm.Cond.arrayClass Jvm.ClassFile.FieldType.char) ∈ wA := kA4 (i := 49) rfl rfl
theorem k4_50 : (Jvm.Cond.methodLink "BareThursdayLaw" (17 : Nat) ({ cls := "BareThursdayModel", name := "person", desc := "(II)I" } : Jvm.MethodName)) ∈ wA := kA4 (i := 50) rfl rfl
theorem k4_51 : (Jvm.Cond.instanceMethod ({ cls := "BareThursdayModel", name := "person", desc := "(II)I" } : Jvm.MethodName)) ∈ wA := kA4 (i := 51) rfl rfl
theorem k4_52 : (Jvm.Cond.selects "BareThursdayModel" ({ cls := "BareThursdayModel", name := "person", desc := "(II)I" } : Jvm.MethodName) ({ cls := "BareThursdayModel", name := "person", desc := "(II)I" } : Jvm.MethodName)) ∈ wA := kA4 (i := 52) rfl rfl
theorem k4_53 : (Jvm.Cond.code ({ cls := "BareThursdayModel", name := "person", desc := "(II)I" } : Jvm.MethodName) prog_7_method_32_code (3 : Nat) (Option.some Jvm.ClassFile.FieldType.int)) ∈ wA := kA4 (i := 53) rfl rfl
theorem k4_54 : (Jvm.Cond.methodLink "BareThursdayModel" (48 : Nat) ({ cls := "BareThursdayModel", name := "in1", desc := "(III)Z" } : Jvm.MethodName)) ∈ wA := kA4 (i := 54) rfl rfl
theorem k4_55 : (Jvm.Cond.static ({ cls := "BareThursdayModel", name := "in1", desc := "(III)Z" } : Jvm.MethodName)) ∈ wA := kA4 (i := 55) rfl rfl
theorem k4_56 : (Jvm.Cond.code ({ cls := "BareThursdayModel", name := "in1", desc := "(III)Z" } : Jvm.MethodName) prog_7_method_3_code (3 : Nat) (Option.some Jvm.ClassFile.FieldType.boolean)) ∈ wA := kA4 (i := 56) rfl rfl
theorem k4_57 : (Jvm.Cond.methodLink "BareThursdayModel" (125 : Nat) ({ cls := "BareThursdayModel", name := "isCell", desc := "(I)Z" } : Jvm.MethodName)) ∈ wA := kA4 (i := 57) rfl rfl
theorem k4_58 : (Jvm.Cond.static ({ cls := "BareThursdayModel", name := "isCell", desc := "(I)Z" } : Jvm.MethodName)) ∈ wA := kA4 (i := 58) rfl rfl
theorem k4_59 : (Jvm.Cond.code ({ cls := "BareThursdayModel", name := "isCell", desc := "(I)Z" } : Jvm.MethodName) prog_7_method_6_code (1 : Nat) (Option.some Jvm.ClassFile.FieldType.boolean)) ∈ wA := kA4 (i := 59) rfl rfl
theorem k4_60 : (Jvm.Cond.methodLink "BareThursdayModel" (128 : Nat) ({ cls := "BareThursdayModel", name := "no", desc := "(I)I" } : Jvm.MethodName)) ∈ wA := kA4 (i := 60) rfl rfl
theorem k4_62 : (Jvm.Cond.instanceMethod ({ cls := "BareThursdayModel", name := "no", desc := "(I)I" } : Jvm.MethodName)) ∈ wA := kA4 (i := 62) rfl rfl
theorem k4_63 : (Jvm.Cond.code ({ cls := "BareThursdayModel", name := "no", desc := "(I)I" } : Jvm.MethodName) prog_7_method_2_code (2 : Nat) (Option.some Jvm.ClassFile.FieldType.int)) ∈ wA := kA4 (i := 63) rfl rfl
theorem k4_64 : (Jvm.Cond.constant "BareThursdayModel" (47 : Nat) (-1000001 : Int32)) ∈ wA := kA4 (i := 64) rfl rfl
theorem k4_65 : (Jvm.Cond.methodLink "BareThursdayModel" (131 : Nat) ({ cls := "BareThursdayModel", name := "adds", desc := "(I)V" } : Jvm.MethodName)) ∈ wA := kA4 (i := 65) rfl rfl
theorem k4_67 : (Jvm.Cond.instanceMethod ({ cls := "BareThursdayModel", name := "adds", desc := "(I)V" } : Jvm.MethodName)) ∈ wA := kA4 (i := 67) rfl rfl
theorem k4_68 : (Jvm.Cond.code ({ cls := "BareThursdayModel", name := "adds", desc := "(I)V" } : Jvm.MethodName) prog_7_method_31_code (4 : Nat) (Option.none : Option Jvm.ClassFile.FieldType)) ∈ wA := kA4 (i := 68) rfl rfl
theorem k4_69 : (Jvm.Cond.methodLink "BareThursdayModel" (81 : Nat) ({ cls := "BareThursdayModel", name := "puts", desc := "(III)V" } : Jvm.MethodName)) ∈ wA := kA4 (i := 69) rfl rfl
theorem k4_71 : (Jvm.Cond.instanceMethod ({ cls := "BareThursdayModel", name := "puts", desc := "(III)V" } : Jvm.MethodName)) ∈ wA := kA4 (i := 71) rfl rfl
theorem k4_72 : (Jvm.Cond.code ({ cls := "BareThursdayModel", name := "puts", desc := "(III)V" } : Jvm.MethodName) prog_7_method_11_code (4 : Nat) (Option.none : Option Jvm.ClassFile.FieldType)) ∈ wA := kA4 (i := 72) rfl rfl
theorem k4_73 : (Jvm.Cond.methodLink "BareThursdayLaw" (21 : Nat) ({ cls := "BareThursdayModel", name := "of", desc := "(II)I" } : Jvm.MethodName)) ∈ wA := kA4 (i := 73) rfl rfl
theorem k4_74 : (Jvm.Cond.instanceMethod ({ cls := "BareThursdayModel", name := "of", desc := "(II)I" } : Jvm.MethodName)) ∈ wA := kA4 (i := 74) rfl rfl
theorem k4_75 : (Jvm.Cond.selects "BareThursdayModel" ({ cls := "BareThursdayModel", name := "of", desc := "(II)I" } : Jvm.MethodName) ({ cls := "BareThursdayModel", name := "of", desc := "(II)I" } : Jvm.MethodName)) ∈ wA := kA4 (i := 75) rfl rfl
theorem k4_76 : (Jvm.Cond.code ({ cls := "BareThursdayModel", name := "of", desc := "(II)I" } : Jvm.MethodName) prog_7_method_33_code (3 : Nat) (Option.some Jvm.ClassFile.FieldType.int)) ∈ wA := kA4 (i := 76) rfl rfl
theorem k4_77 : (Jvm.Cond.methodLink "BareThursdayModel" (52 : Nat) ({ cls := "BareThursdayModel", name := "isPerson", desc := "(I)Z" } : Jvm.MethodName)) ∈ wA := kA4 (i := 77) rfl rfl
theorem k4_79 : (Jvm.Cond.instanceMethod ({ cls := "BareThursdayModel", name := "isPerson", desc := "(I)Z" } : Jvm.MethodName)) ∈ wA := kA4 (i := 79) rfl rfl
theorem k4_80 : (Jvm.Cond.code ({ cls := "BareThursdayModel", name := "isPerson", desc := "(I)Z" } : Jvm.MethodName) prog_7_method_8_code (2 : Nat) (Option.some Jvm.ClassFile.FieldType.boolean)) ∈ wA := kA4 (i := 80) rfl rfl
theorem k4_81 : (Jvm.Cond.methodLink "BareThursdayModel" (106 : Nat) ({ cls := "BareThursdayModel", name := "walksOf", desc := "(I)I" } : Jvm.MethodName)) ∈ wA := kA4 (i := 81) rfl rfl
theorem k4_83 : (Jvm.Cond.instanceMethod ({ cls := "BareThursdayModel", name := "walksOf", desc := "(I)I" } : Jvm.MethodName)) ∈ wA := kA4 (i := 83) rfl rfl
theorem k4_84 : (Jvm.Cond.code ({ cls := "BareThursdayModel", name := "walksOf", desc := "(I)I" } : Jvm.MethodName) prog_7_method_15_code (3 : Nat) (Option.some Jvm.ClassFile.FieldType.int)) ∈ wA := kA4 (i := 84) rfl rfl
theorem k4_85 : (Jvm.Cond.methodLink "BareThursdayModel" (56 : Nat) ({ cls := "BareThursdayModel", name := "get", desc := "(II)I" } : Jvm.MethodName)) ∈ wA := kA4 (i := 85) rfl rfl
theorem k4_87 : (Jvm.Cond.instanceMethod ({ cls := "BareThursdayModel", name := "get", desc := "(II)I" } : Jvm.MethodName)) ∈ wA := kA4 (i := 87) rfl rfl
theorem k4_88 : (Jvm.Cond.code ({ cls := "BareThursdayModel", name := "get", desc := "(II)I" } : Jvm.MethodName) prog_7_method_10_code (3 : Nat) (Option.some Jvm.ClassFile.FieldType.int)) ∈ wA := kA4 (i := 88) rfl rfl
theorem k4_89 : (Jvm.Cond.methodLink "BareThursdayModel" (60 : Nat) ({ cls := "BareThursdayModel", name := "isBare", desc := "()Z" } : Jvm.MethodName)) ∈ wA := kA4 (i := 89) rfl rfl
theorem k4_91 : (Jvm.Cond.instanceMethod ({ cls := "BareThursdayModel", name := "isBare", desc := "()Z" } : Jvm.MethodName)) ∈ wA := kA4 (i := 91) rfl rfl
theorem k4_92 : (Jvm.Cond.code ({ cls := "BareThursdayModel", name := "isBare", desc := "()Z" } : Jvm.MethodName) prog_7_method_14_code (1 : Nat) (Option.some Jvm.ClassFile.FieldType.boolean)) ∈ wA := kA4 (i := 92) rfl rfl
theorem k4_93 : (Jvm.Cond.methodLink "BareThursdayModel" (109 : Nat) ({ cls := "BareThursdayModel", name := "shiftsOf", desc := "(I)I" } : Jvm.MethodName)) ∈ wA := kA4 (i := 93) rfl rfl
theorem k4_95 : (Jvm.Cond.instanceMethod ({ cls := "BareThursdayModel", name := "shiftsOf", desc := "(I)I" } : Jvm.MethodName)) ∈ wA := kA4 (i := 95) rfl rfl
theorem k4_96 : (Jvm.Cond.code ({ cls := "BareThursdayModel", name := "shiftsOf", desc := "(I)I" } : Jvm.MethodName) prog_7_method_16_code (2 : Nat) (Option.some Jvm.ClassFile.FieldType.int)) ∈ wA := kA4 (i := 96) rfl rfl
theorem k4_97 : (Jvm.Cond.methodLink "BareThursdayModel" (74 : Nat) ({ cls := "BareThursdayModel", name := "shinesOf", desc := "(I)I" } : Jvm.MethodName)) ∈ wA := kA4 (i := 97) rfl rfl
theorem k4_99 : (Jvm.Cond.instanceMethod ({ cls := "BareThursdayModel", name := "shinesOf", desc := "(I)I" } : Jvm.MethodName)) ∈ wA := kA4 (i := 99) rfl rfl
theorem k4_100 : (Jvm.Cond.code ({ cls := "BareThursdayModel", name := "shinesOf", desc := "(I)I" } : Jvm.MethodName) prog_7_method_18_code (2 : Nat) (Option.some Jvm.ClassFile.FieldType.int)) ∈ wA := kA4 (i := 100) rfl rfl
theorem k4_101 : (Jvm.Cond.methodLink "BareThursdayModel" (89 : Nat) ({ cls := "BareThursdayModel", name := "gladdensOf", desc := "(I)I" } : Jvm.MethodName)) ∈ wA := kA4 (i := 101) rfl rfl
theorem k4_103 : (Jvm.Cond.instanceMethod ({ cls := "BareThursdayModel", name := "gladdensOf", desc := "(I)I" } : Jvm.MethodName)) ∈ wA := kA4 (i := 103) rfl rfl
theorem k4_104 : (Jvm.Cond.code ({ cls := "BareThursdayModel", name := "gladdensOf", desc := "(I)I" } : Jvm.MethodName) prog_7_method_19_code (3 : Nat) (Option.some Jvm.ClassFile.FieldType.int)) ∈ wA := kA4 (i := 104) rfl rfl
theorem k4_105 : (Jvm.Cond.methodLink "BareThursdayModel" (64 : Nat) ({ cls := "BareThursdayModel", name := "bits", desc := "(I)I" } : Jvm.MethodName)) ∈ wA := kA4 (i := 105) rfl rfl
theorem k4_106 : (Jvm.Cond.static ({ cls := "BareThursdayModel", name := "bits", desc := "(I)I" } : Jvm.MethodName)) ∈ wA := kA4 (i := 106) rfl rfl
theorem k4_107 : (Jvm.Cond.code ({ cls := "BareThursdayModel", name := "bits", desc := "(I)I" } : Jvm.MethodName) prog_7_method_5_code (3 : Nat) (Option.some Jvm.ClassFile.FieldType.int)) ∈ wA := kA4 (i := 107) rfl rfl
theorem k4_108 : (Jvm.Cond.methodLink "BareThursdayLaw" (26 : Nat) ({ cls := "BareThursdayModel", name := "change", desc := "(III)I" } : Jvm.MethodName)) ∈ wA := kA4 (i := 108) rfl rfl
theorem k4_109 : (Jvm.Cond.instanceMethod ({ cls := "BareThursdayModel", name := "change", desc := "(III)I" } : Jvm.MethodName)) ∈ wA := kA4 (i := 109) rfl rfl
theorem k4_110 : (Jvm.Cond.selects "BareThursdayModel" ({ cls := "BareThursdayModel", name := "change", desc := "(III)I" } : Jvm.MethodName) ({ cls := "BareThursdayModel", name := "change", desc := "(III)I" } : Jvm.MethodName)) ∈ wA := kA4 (i := 110) rfl rfl
theorem k4_111 : (Jvm.Cond.code ({ cls := "BareThursdayModel", name := "change", desc := "(III)I" } : Jvm.MethodName) prog_7_method_35_code (5 : Nat) (Option.some Jvm.ClassFile.FieldType.int)) ∈ wA := kA4 (i := 111) rfl rfl
theorem k4_112 : (Jvm.Cond.methodLink "BareThursdayModel" (137 : Nat) ({ cls := "BareThursdayModel", name := "canBe", desc := "(III)Z" } : Jvm.MethodName)) ∈ wA := kA4 (i := 112) rfl rfl
theorem k4_114 : (Jvm.Cond.instanceMethod ({ cls := "BareThursdayModel", name := "canBe", desc := "(III)Z" } : Jvm.MethodName)) ∈ wA := kA4 (i := 114) rfl rfl
theorem k4_115 : (Jvm.Cond.code ({ cls := "BareThursdayModel", name := "canBe", desc := "(III)Z" } : Jvm.MethodName) prog_7_method_34_code (4 : Nat) (Option.some Jvm.ClassFile.FieldType.boolean)) ∈ wA := kA4 (i := 115) rfl rfl
theorem k4_116 : (Jvm.Cond.methodLink "BareThursdayModel" (134 : Nat) ({ cls := "BareThursdayModel", name := "isGuise", desc := "(I)Z" } : Jvm.MethodName)) ∈ wA := kA4 (i := 116) rfl rfl
theorem k4_117 : (Jvm.Cond.static ({ cls := "BareThursdayModel", name := "isGuise", desc := "(I)Z" } : Jvm.MethodName)) ∈ wA := kA4 (i := 117) rfl rfl
theorem k4_118 : (Jvm.Cond.code ({ cls := "BareThursdayModel", name := "isGuise", desc := "(I)Z" } : Jvm.MethodName) prog_7_method_7_code (1 : Nat) (Option.some Jvm.ClassFile.FieldType.boolean)) ∈ wA := kA4 (i := 118) rfl rfl
theorem k4_119 : (Jvm.Cond.methodLink "BareThursdayLaw" (30 : Nat) ({ cls := "BareThursdayModel", name := "minds", desc := "(II)I" } : Jvm.MethodName)) ∈ wA := kA4 (i := 119) rfl rfl
theorem k4_120 : (Jvm.Cond.instanceMethod ({ cls := "BareThursdayModel", name := "minds", desc := "(II)I" } : Jvm.MethodName)) ∈ wA := kA4 (i := 120) rfl rfl
theorem k4_121 : (Jvm.Cond.selects "BareThursdayModel" ({ cls := "BareThursdayModel", name := "minds", desc := "(II)I" } : Jvm.MethodName) ({ cls := "BareThursdayModel", name := "minds", desc := "(II)I" } : Jvm.MethodName)) ∈ wA := kA4 (i := 121) rfl rfl
theorem k4_122 : (Jvm.Cond.code ({ cls := "BareThursdayModel", name := "minds", desc := "(II)I" } : Jvm.MethodName) prog_7_method_36_code (3 : Nat) (Option.some Jvm.ClassFile.FieldType.int)) ∈ wA := kA4 (i := 122) rfl rfl
theorem k4_123 : (Jvm.Cond.methodLink "BareThursdayModel" (77 : Nat) ({ cls := "BareThursdayModel", name := "mindsOf", desc := "(II)Z" } : Jvm.MethodName)) ∈ wA := kA4 (i := 123) rfl rfl
theorem k4_125 : (Jvm.Cond.instanceMethod ({ cls := "BareThursdayModel", name := "mindsOf", desc := "(II)Z" } : Jvm.MethodName)) ∈ wA := kA4 (i := 125) rfl rfl
theorem k4_126 : (Jvm.Cond.code ({ cls := "BareThursdayModel", name := "mindsOf", desc := "(II)Z" } : Jvm.MethodName) prog_7_method_17_code (4 : Nat) (Option.some Jvm.ClassFile.FieldType.boolean)) ∈ wA := kA4 (i := 126) rfl rfl
theorem k4_127 : (Jvm.Cond.methodLink "BareThursdayLaw" (34 : Nat) ({ cls := "BareThursdayModel", name := "far", desc := "(II)I" } : Jvm.MethodName)) ∈ wA := kA4 (i := 127) rfl rfl
theorem k4_128 : (Jvm.Cond.instanceMethod ({ cls := "BareThursdayModel", name := "far", desc := "(II)I" } : Jvm.MethodName)) ∈ wA := kA4 (i := 128) rfl rfl
theorem k4_129 : (Jvm.Cond.selects "BareThursdayModel" ({ cls := "BareThursdayModel", name := "far", desc := "(II)I" } : Jvm.MethodName) ({ cls := "BareThursdayModel", name := "far", desc := "(II)I" } : Jvm.MethodName)) ∈ wA := kA4 (i := 129) rfl rfl
theorem k4_130 : (Jvm.Cond.code ({ cls := "BareThursdayModel", name := "far", desc := "(II)I" } : Jvm.MethodName) prog_7_method_37_code (3 : Nat) (Option.some Jvm.ClassFile.FieldType.int)) ∈ wA := kA4 (i := 130) rfl rfl
theorem k4_131 : (Jvm.Cond.methodLink "BareThursdayModel" (140 : Nat) ({ cls := "BareThursdayModel", name := "areTwo", desc := "(II)Z" } : Jvm.MethodName)) ∈ wA := kA4 (i := 131) rfl rfl
theorem k4_133 : (Jvm.Cond.instanceMethod ({ cls := "BareThursdayModel", name := "areTwo", desc := "(II)Z" } : Jvm.MethodName)) ∈ wA := kA4 (i := 133) rfl rfl
theorem k4_134 : (Jvm.Cond.code ({ cls := "BareThursdayModel", name := "areTwo", desc := "(II)Z" } : Jvm.MethodName) prog_7_method_9_code (3 : Nat) (Option.some Jvm.ClassFile.FieldType.boolean)) ∈ wA := kA4 (i := 134) rfl rfl
theorem k4_135 : (Jvm.Cond.methodLink "BareThursdayModel" (71 : Nat) ({ cls := "BareThursdayModel", name := "farOf", desc := "(II)I" } : Jvm.MethodName)) ∈ wA := kA4 (i := 135) rfl rfl
theorem k4_137 : (Jvm.Cond.instanceMethod ({ cls := "BareThursdayModel", name := "farOf", desc := "(II)I" } : Jvm.MethodName)) ∈ wA := kA4 (i := 137) rfl rfl
theorem k4_138 : (Jvm.Cond.code ({ cls := "BareThursdayModel", name := "farOf", desc := "(II)I" } : Jvm.MethodName) prog_7_method_20_code (4 : Nat) (Option.some Jvm.ClassFile.FieldType.int)) ∈ wA := kA4 (i := 138) rfl rfl
theorem k4_139 : (Jvm.Cond.methodLink "BareThursdayModel" (68 : Nat) ({ cls := "BareThursdayModel", name := "less", desc := "(II)I" } : Jvm.MethodName)) ∈ wA := kA4 (i := 139) rfl rfl
theorem k4_140 : (Jvm.Cond.static ({ cls := "BareThursdayModel", name := "less", desc := "(II)I" } : Jvm.MethodName)) ∈ wA := kA4 (i := 140) rfl rfl
theorem k4_141 : (Jvm.Cond.code ({ cls := "BareThursdayModel", name := "less", desc := "(II)I" } : Jvm.MethodName) prog_7_method_4_code (2 : Nat) (Option.some Jvm.ClassFile.FieldType.int)) ∈ wA := kA4 (i := 141) rfl rfl
theorem k4_142 : (Jvm.Cond.methodLink "BareThursdayLaw" (39 : Nat) ({ cls := "BareThursdayModel", name := "who", desc := "(I)I" } : Jvm.MethodName)) ∈ wA := kA4 (i := 142) rfl rfl
theorem k4_143 : (Jvm.Cond.instanceMethod ({ cls := "BareThursdayModel", name := "who", desc := "(I)I" } : Jvm.MethodName)) ∈ wA := kA4 (i := 143) rfl rfl
theorem k4_144 : (Jvm.Cond.selects "BareThursdayModel" ({ cls := "BareThursdayModel", name := "who", desc := "(I)I" } : Jvm.MethodName) ({ cls := "BareThursdayModel", name := "who", desc := "(I)I" } : Jvm.MethodName)) ∈ wA := kA4 (i := 144) rfl rfl
theorem k4_145 : (Jvm.Cond.code ({ cls := "BareThursdayModel", name := "who", desc := "(I)I" } : Jvm.MethodName) prog_7_method_38_code (4 : Nat) (Option.some Jvm.ClassFile.FieldType.int)) ∈ wA := kA4 (i := 145) rfl rfl
theorem k4_146 : (Jvm.Cond.methodLink "BareThursdayLaw" (43 : Nat) ({ cls := "BareThursdayModel", name := "two", desc := "(III)I" } : Jvm.MethodName)) ∈ wA := kA4 (i := 146) rfl rfl
theorem k4_147 : (Jvm.Cond.instanceMethod ({ cls := "BareThursdayModel", name := "two", desc := "(III)I" } : Jvm.MethodName)) ∈ wA := kA4 (i := 147) rfl rfl
theorem k4_148 : (Jvm.Cond.selects "BareThursdayModel" ({ cls := "BareThursdayModel", name := "two", desc := "(III)I" } : Jvm.MethodName) ({ cls := "BareThursdayModel", name := "two", desc := "(III)I" } : Jvm.MethodName)) ∈ wA := kA4 (i := 148) rfl rfl
theorem k4_149 : (Jvm.Cond.code ({ cls := "BareThursdayModel", name := "two", desc := "(III)I" } : Jvm.MethodName) prog_7_method_39_code (5 : Nat) (Option.some Jvm.ClassFile.FieldType.int)) ∈ wA := kA4 (i := 149) rfl rfl
theorem k4_150 : (Jvm.Cond.methodLink "BareThursdayModel" (95 : Nat) ({ cls := "BareThursdayModel", name := "hasMet", desc := "(II)Z" } : Jvm.MethodName)) ∈ wA := kA4 (i := 150) rfl rfl
theorem k4_152 : (Jvm.Cond.instanceMethod ({ cls := "BareThursdayModel", name := "hasMet", desc := "(II)Z" } : Jvm.MethodName)) ∈ wA := kA4 (i := 152) rfl rfl
theorem k4_153 : (Jvm.Cond.code ({ cls := "BareThursdayModel", name := "hasMet", desc := "(II)Z" } : Jvm.MethodName) prog_7_method_21_code (3 : Nat) (Option.some Jvm.ClassFile.FieldType.boolean)) ∈ wA := kA4 (i := 153) rfl rfl
theorem k4_154 : (Jvm.Cond.methodLink "BareThursdayModel" (85 : Nat) ({ cls := "BareThursdayModel", name := "doesKnow", desc := "(II)Z" } : Jvm.MethodName)) ∈ wA := kA4 (i := 154) rfl rfl
theorem k4_156 : (Jvm.Cond.instanceMethod ({ cls := "BareThursdayModel", name := "doesKnow", desc := "(II)Z" } : Jvm.MethodName)) ∈ wA := kA4 (i := 156) rfl rfl
theorem k4_157 : (Jvm.Cond.code ({ cls := "BareThursdayModel", name := "doesKnow", desc := "(II)Z" } : Jvm.MethodName) prog_7_method_22_code (3 : Nat) (Option.some Jvm.ClassFile.FieldType.boolean)) ∈ wA := kA4 (i := 157) rfl rfl
theorem k4_158 : (Jvm.Cond.methodLink "BareThursdayModel" (92 : Nat) ({ cls := "BareThursdayModel", name := "wouldSee", desc := "(II)Z" } : Jvm.MethodName)) ∈ wA := kA4 (i := 158) rfl rfl
theorem k4_160 : (Jvm.Cond.instanceMethod ({ cls := "BareThursdayModel", name := "wouldSee", desc := "(II)Z" } : Jvm.MethodName)) ∈ wA := kA4 (i := 160) rfl rfl
theorem k4_161 : (Jvm.Cond.code ({ cls := "BareThursdayModel", name := "wouldSee", desc := "(II)Z" } : Jvm.MethodName) prog_7_method_23_code (3 : Nat) (Option.some Jvm.ClassFile.FieldType.boolean)) ∈ wA := kA4 (i := 161) rfl rfl
theorem k4_162 : (Jvm.Cond.methodLink "BareThursdayLaw" (47 : Nat) ({ cls := "BareThursdayModel", name := "go", desc := "(I)I" } : Jvm.MethodName)) ∈ wA := kA4 (i := 162) rfl rfl
theorem k4_163 : (Jvm.Cond.instanceMethod ({ cls := "BareThursdayModel", name := "go", desc := "(I)I" } : Jvm.MethodName)) ∈ wA := kA4 (i := 163) rfl rfl
theorem k4_164 : (Jvm.Cond.selects "BareThursdayModel" ({ cls := "BareThursdayModel", name := "go", desc := "(I)I" } : Jvm.MethodName) ({ cls := "BareThursdayModel", name := "go", desc := "(I)I" } : Jvm.MethodName)) ∈ wA := kA4 (i := 164) rfl rfl
theorem k4_165 : (Jvm.Cond.code ({ cls := "BareThursdayModel", name := "go", desc := "(I)I" } : Jvm.MethodName) prog_7_method_40_code (2 : Nat) (Option.some Jvm.ClassFile.FieldType.int)) ∈ wA := kA4 (i := 165) rfl rfl
theorem k4_166 : (Jvm.Cond.constant "BareThursdayModel" (88 : Nat) (99999 : Int32)) ∈ wA := kA4 (i := 166) rfl rfl
theorem k4_167 : (Jvm.Cond.methodLink "BareThursdayModel" (143 : Nat) ({ cls := "BareThursdayModel", name := "goes", desc := "(I)V" } : Jvm.MethodName)) ∈ wA := kA4 (i := 167) rfl rfl
theorem k4_169 : (Jvm.Cond.instanceMethod ({ cls := "BareThursdayModel", name := "goes", desc := "(I)V" } : Jvm.MethodName)) ∈ wA := kA4 (i := 169) rfl rfl
theorem k4_170 : (Jvm.Cond.code ({ cls := "BareThursdayModel", name := "goes", desc := "(I)V" } : Jvm.MethodName) prog_7_method_30_code (3 : Nat) (Option.none : Option Jvm.ClassFile.FieldType)) ∈ wA := kA4 (i := 170) rfl rfl
theorem k4_171 : (Jvm.Cond.methodLink "BareThursdayModel" (122 : Nat) ({ cls := "BareThursdayModel", name := "day", desc := "()V" } : Jvm.MethodName)) ∈ wA := kA4 (i := 171) rfl rfl
theorem k4_173 : (Jvm.Cond.instanceMethod ({ cls := "BareThursdayModel", name := "day", desc := "()V" } : Jvm.MethodName)) ∈ wA := kA4 (i := 173) rfl rfl
theorem k4_174 : (Jvm.Cond.code ({ cls := "BareThursdayModel", name := "day", desc := "()V" } : Jvm.MethodName) prog_7_method_29_code (4 : Nat) (Option.none : Option Jvm.ClassFile.FieldType)) ∈ wA := kA4 (i := 174) rfl rfl
theorem k4_175 : (Jvm.Cond.methodLink "BareThursdayModel" (112 : Nat) ({ cls := "BareThursdayModel", name := "goesOn", desc := "(IZ)V" } : Jvm.MethodName)) ∈ wA := kA4 (i := 175) rfl rfl
theorem k4_177 : (Jvm.Cond.instanceMethod ({ cls := "BareThursdayModel", name := "goesOn", desc := "(IZ)V" } : Jvm.MethodName)) ∈ wA := kA4 (i := 177) rfl rfl
theorem k4_178 : (Jvm.Cond.code ({ cls := "BareThursdayModel", name := "goesOn", desc := "(IZ)V" } : Jvm.MethodName) prog_7_method_28_code (3 : Nat) (Option.none : Option Jvm.ClassFile.FieldType)) ∈ wA := kA4 (i := 178) rfl rfl
theorem k4_179 : (Jvm.Cond.methodLink "BareThursdayModel" (116 : Nat) ({ cls := "BareThursdayModel", name := "barefaced", desc := "(II)V" } : Jvm.MethodName)) ∈ wA := kA4 (i := 179) rfl rfl
theorem k4_181 : (Jvm.Cond.instanceMethod ({ cls := "BareThursdayModel", name := "barefaced", desc := "(II)V" } : Jvm.MethodName)) ∈ wA := kA4 (i := 181) rfl rfl
theorem k4_182 : (Jvm.Cond.code ({ cls := "BareThursdayModel", name := "barefaced", desc := "(II)V" } : Jvm.MethodName) prog_7_method_27_code (3 : Nat) (Option.none : Option Jvm.ClassFile.FieldType)) ∈ wA := kA4 (i := 182) rfl rfl
theorem k4_183 : (Jvm.Cond.methodLink "BareThursdayModel" (98 : Nat) ({ cls := "BareThursdayModel", name := "comesToKnow", desc := "(II)V" } : Jvm.MethodName)) ∈ wA := kA4 (i := 183) rfl rfl
theorem k4_185 : (Jvm.Cond.instanceMethod ({ cls := "BareThursdayModel", name := "comesToKnow", desc := "(II)V" } : Jvm.MethodName)) ∈ wA := kA4 (i := 185) rfl rfl
theorem k4_186 : (Jvm.Cond.code ({ cls := "BareThursdayModel", name := "comesToKnow", desc := "(II)V" } : Jvm.MethodName) prog_7_method_25_code (3 : Nat) (Option.none : Option Jvm.ClassFile.FieldType)) ∈ wA := kA4 (i := 186) rfl rfl
theorem k4_187 : (Jvm.Cond.methodLink "BareThursdayModel" (102 : Nat) ({ cls := "BareThursdayModel", name := "passesBy", desc := "(I)V" } : Jvm.MethodName)) ∈ wA := kA4 (i := 187) rfl rfl
theorem k4_189 : (Jvm.Cond.instanceMethod ({ cls := "BareThursdayModel", name := "passesBy", desc := "(I)V" } : Jvm.MethodName)) ∈ wA := kA4 (i := 189) rfl rfl
theorem k4_190 : (Jvm.Cond.code ({ cls := "BareThursdayModel", name := "passesBy", desc := "(I)V" } : Jvm.MethodName) prog_7_method_26_code (2 : Nat) (Option.none : Option Jvm.ClassFile.FieldType)) ∈ wA := kA4 (i := 190) rfl rfl
theorem k4_191 : (Jvm.Cond.methodLink "BareThursdayModel" (119 : Nat) ({ cls := "BareThursdayModel", name := "meets", desc := "(II)V" } : Jvm.MethodName)) ∈ wA := kA4 (i := 191) rfl rfl
theorem k4_193 : (Jvm.Cond.instanceMethod ({ cls := "BareThursdayModel", name := "meets", desc := "(II)V" } : Jvm.MethodName)) ∈ wA := kA4 (i := 193) rfl rfl
theorem k4_194 : (Jvm.Cond.code ({ cls := "BareThursdayModel", name := "meets", desc := "(II)V" } : Jvm.MethodName) prog_7_method_24_code (3 : Nat) (Option.none : Option Jvm.ClassFile.FieldType)) ∈ wA := kA4 (i := 194) rfl rfl
theorem k4_195 : (Jvm.Cond.methodLink "BareThursdayLaw" (51 : Nat) ({ cls := "BareThursdayModel", name := "now", desc := "(I)I" } : Jvm.MethodName)) ∈ wA := kA4 (i := 195) rfl rfl
theorem k4_196 : (Jvm.Cond.instanceMethod ({ cls := "BareThursdayModel", name := "now", desc := "(I)I" } : Jvm.MethodName)) ∈ wA := kA4 (i := 196) rfl rfl
theorem k4_197 : (Jvm.Cond.selects "BareThursdayModel" ({ cls := "BareThursdayModel", name := "now", desc := "(I)I" } : Jvm.MethodName) ({ cls := "BareThursdayModel", name := "now", desc := "(I)I" } : Jvm.MethodName)) ∈ wA := kA4 (i := 197) rfl rfl
theorem k4_198 : (Jvm.Cond.code ({ cls := "BareThursdayModel", name := "now", desc := "(I)I" } : Jvm.MethodName) prog_7_method_45_code (2 : Nat) (Option.some Jvm.ClassFile.FieldType.int)) ∈ wA := kA4 (i := 198) rfl rfl
theorem k4_199 : (Jvm.Cond.methodLink "BareThursdayModel" (146 : Nat) ({ cls := "BareThursdayModel", name := "whoKnow", desc := "()I" } : Jvm.MethodName)) ∈ wA := kA4 (i := 199) rfl rfl
theorem k4_201 : (Jvm.Cond.instanceMethod ({ cls := "BareThursdayModel", name := "whoKnow", desc := "()I" } : Jvm.MethodName)) ∈ wA := kA4 (i := 201) rfl rfl
theorem k4_202 : (Jvm.Cond.code ({ cls := "BareThursdayModel", name := "whoKnow", desc := "()I" } : Jvm.MethodName) prog_7_method_42_code (3 : Nat) (Option.some Jvm.ClassFile.FieldType.int)) ∈ wA := kA4 (i := 202) rfl rfl
theorem k4_203 : (Jvm.Cond.methodLink "BareThursdayModel" (150 : Nat) ({ cls := "BareThursdayModel", name := "pairs", desc := "(I)I" } : Jvm.MethodName)) ∈ wA := kA4 (i := 203) rfl rfl
theorem k4_205 : (Jvm.Cond.instanceMethod ({ cls := "BareThursdayModel", name := "pairs", desc := "(I)I" } : Jvm.MethodName)) ∈ wA := kA4 (i := 205) rfl rfl
theorem k4_206 : (Jvm.Cond.code ({ cls := "BareThursdayModel", name := "pairs", desc := "(I)I" } : Jvm.MethodName) prog_7_method_43_code (5 : Nat) (Option.some Jvm.ClassFile.FieldType.int)) ∈ wA := kA4 (i := 206) rfl rfl
theorem k4_207 : (Jvm.Cond.methodLink "BareThursdayModel" (153 : Nat) ({ cls := "BareThursdayModel", name := "worn", desc := "()I" } : Jvm.MethodName)) ∈ wA := kA4 (i := 207) rfl rfl
theorem k4_209 : (Jvm.Cond.instanceMethod ({ cls := "BareThursdayModel", name := "worn", desc := "()I" } : Jvm.MethodName)) ∈ wA := kA4 (i := 209) rfl rfl
theorem k4_210 : (Jvm.Cond.code ({ cls := "BareThursdayModel", name := "worn", desc := "()I" } : Jvm.MethodName) prog_7_method_44_code (3 : Nat) (Option.some Jvm.ClassFile.FieldType.int)) ∈ wA := kA4 (i := 210) rfl rfl
theorem k4_211 : (Jvm.Cond.methodLink "BareThursdayModel" (156 : Nat) ({ cls := "BareThursdayModel", name := "passedAll", desc := "()I" } : Jvm.MethodName)) ∈ wA := kA4 (i := 211) rfl rfl
theorem k4_213 : (Jvm.Cond.instanceMethod ({ cls := "BareThursdayModel", name := "passedAll", desc := "()I" } : Jvm.MethodName)) ∈ wA := kA4 (i := 213) rfl rfl
theorem k4_214 : (Jvm.Cond.code ({ cls := "BareThursdayModel", name := "passedAll", desc := "()I" } : Jvm.MethodName) prog_7_method_41_code (3 : Nat) (Option.some Jvm.ClassFile.FieldType.int)) ∈ wA := kA4 (i := 214) rfl rfl
theorem k4_215 : (Jvm.Cond.methodLink "BareThursdayLaw" (55 : Nat) ({ cls := "BareThursdayModel", name := "ahead", desc := "(III)I" } : Jvm.MethodName)) ∈ wA := kA4 (i := 215) rfl rfl
theorem k4_216 : (Jvm.Cond.instanceMethod ({ cls := "BareThursdayModel", name := "ahead", desc := "(III)I" } : Jvm.MethodName)) ∈ wA := kA4 (i := 216) rfl rfl
theorem k4_217 : (Jvm.Cond.selects "BareThursdayModel" ({ cls := "BareThursdayModel", name := "ahead", desc := "(III)I" } : Jvm.MethodName) ({ cls := "BareThursdayModel", name := "ahead", desc := "(III)I" } : Jvm.MethodName)) ∈ wA := kA4 (i := 217) rfl rfl
theorem k4_218 : (Jvm.Cond.code ({ cls := "BareThursdayModel", name := "ahead", desc := "(III)I" } : Jvm.MethodName) prog_7_method_47_code (5 : Nat) (Option.some Jvm.ClassFile.FieldType.int)) ∈ wA := kA4 (i := 218) rfl rfl
theorem k4_219 : (Jvm.Cond.methodLink "BareThursdayModel" (165 : Nat) ({ cls := "BareThursdayModel", name := "thenAt", desc := "(II)I" } : Jvm.MethodName)) ∈ wA := kA4 (i := 219) rfl rfl
theorem k4_221 : (Jvm.Cond.instanceMethod ({ cls := "BareThursdayModel", name := "thenAt", desc := "(II)I" } : Jvm.MethodName)) ∈ wA := kA4 (i := 221) rfl rfl
theorem k4_222 : (Jvm.Cond.code ({ cls := "BareThursdayModel", name := "thenAt", desc := "(II)I" } : Jvm.MethodName) prog_7_method_46_code (4 : Nat) (Option.some Jvm.ClassFile.FieldType.int)) ∈ wA := kA4 (i := 222) rfl rfl
theorem k4_223 : (Jvm.Cond.methodLink "BareThursdayModel" (159 : Nat) ({ cls := "BareThursdayModel", name := "setsAside", desc := "()V" } : Jvm.MethodName)) ∈ wA := kA4 (i := 223) rfl rfl
theorem k4_225 : (Jvm.Cond.instanceMethod ({ cls := "BareThursdayModel", name := "setsAside", desc := "()V" } : Jvm.MethodName)) ∈ wA := kA4 (i := 225) rfl rfl
theorem k4_226 : (Jvm.Cond.code ({ cls := "BareThursdayModel", name := "setsAside", desc := "()V" } : Jvm.MethodName) prog_7_method_12_code (2 : Nat) (Option.none : Option Jvm.ClassFile.FieldType)) ∈ wA := kA4 (i := 226) rfl rfl
theorem k4_227 : (Jvm.Cond.methodLink "BareThursdayModel" (162 : Nat) ({ cls := "BareThursdayModel", name := "laysBack", desc := "()V" } : Jvm.MethodName)) ∈ wA := kA4 (i := 227) rfl rfl
theorem k4_229 : (Jvm.Cond.instanceMethod ({ cls := "BareThursdayModel", name := "laysBack", desc := "()V" } : Jvm.MethodName)) ∈ wA := kA4 (i := 229) rfl rfl
theorem k4_230 : (Jvm.Cond.code ({ cls := "BareThursdayModel", name := "laysBack", desc := "()V" } : Jvm.MethodName) prog_7_method_13_code (2 : Nat) (Option.none : Option Jvm.ClassFile.FieldType)) ∈ wA := kA4 (i := 230) rfl rfl
theorem k4_231 : (Jvm.Cond.methodLink "BareThursdayLaw" (59 : Nat) ({ cls := "BareThursdayModel", name := "joy", desc := "(I)I" } : Jvm.MethodName)) ∈ wA := kA4 (i := 231) rfl rfl
theorem k4_232 : (Jvm.Cond.instanceMethod ({ cls := "BareThursdayModel", name := "joy", desc := "(I)I" } : Jvm.MethodName)) ∈ wA := kA4 (i := 232) rfl rfl
theorem k4_233 : (Jvm.Cond.selects "BareThursdayModel" ({ cls := "BareThursdayModel", name := "joy", desc := "(I)I" } : Jvm.MethodName) ({ cls := "BareThursdayModel", name := "joy", desc := "(I)I" } : Jvm.MethodName)) ∈ wA := kA4 (i := 233) rfl rfl
theorem k4_234 : (Jvm.Cond.code ({ cls := "BareThursdayModel", name := "joy", desc := "(I)I" } : Jvm.MethodName) prog_7_method_48_code (2 : Nat) (Option.some Jvm.ClassFile.FieldType.int)) ∈ wA := kA4 (i := 234) rfl rfl
theorem k4_235 : (Jvm.Cond.methodLink "BareThursdayLaw" (63 : Nat) ({ cls := "BareThursdayModel", name := "when", desc := "(III)I" } : Jvm.MethodName)) ∈ wA := kA4 (i := 235) rfl rfl
theorem k4_236 : (Jvm.Cond.instanceMethod ({ cls := "BareThursdayModel", name := "when", desc := "(III)I" } : Jvm.MethodName)) ∈ wA := kA4 (i := 236) rfl rfl
theorem k4_237 : (Jvm.Cond.selects "BareThursdayModel" ({ cls := "BareThursdayModel", name := "when", desc := "(III)I" } : Jvm.MethodName) ({ cls := "BareThursdayModel", name := "when", desc := "(III)I" } : Jvm.MethodName)) ∈ wA := kA4 (i := 237) rfl rfl
theorem k4_238 : (Jvm.Cond.code ({ cls := "BareThursdayModel", name := "when", desc := "(III)I" } : Jvm.MethodName) prog_7_method_51_code (4 : Nat) (Option.some Jvm.ClassFile.FieldType.int)) ∈ wA := kA4 (i := 238) rfl rfl
theorem k4_239 : (Jvm.Cond.methodLink "BareThursdayModel" (171 : Nat) ({ cls := "BareThursdayModel", name := "firstBy", desc := "(III)I" } : Jvm.MethodName)) ∈ wA := kA4 (i := 239) rfl rfl
theorem k5_1 : (Jvm.Cond.instanceMethod ({ cls := "BareThursdayModel", name := "firstBy", desc := "(III)I" } : Jvm.MethodName)) ∈ wA := kA5 (i := 1) rfl rfl
theorem k5_2 : (Jvm.Cond.code ({ cls := "BareThursdayModel", name := "firstBy", desc := "(III)I" } : Jvm.MethodName) prog_7_method_50_code (5 : Nat) (Option.some Jvm.ClassFile.FieldType.int)) ∈ wA := kA5 (i := 2) rfl rfl
theorem k5_3 : (Jvm.Cond.methodLink "BareThursdayModel" (168 : Nat) ({ cls := "BareThursdayModel", name := "isSo", desc := "(III)Z" } : Jvm.MethodName)) ∈ wA := kA5 (i := 3) rfl rfl
theorem k5_5 : (Jvm.Cond.instanceMethod ({ cls := "BareThursdayModel", name := "isSo", desc := "(III)Z" } : Jvm.MethodName)) ∈ wA := kA5 (i := 5) rfl rfl
theorem k5_6 : (Jvm.Cond.code ({ cls := "BareThursdayModel", name := "isSo", desc := "(III)Z" } : Jvm.MethodName) prog_7_method_49_code (4 : Nat) (Option.some Jvm.ClassFile.FieldType.boolean)) ∈ wA := kA5 (i := 6) rfl rfl
theorem k5_7 : (Jvm.Cond.methodLink "BareThursdayLaw" (68 : Nat) ({ cls := "BareThursdayModel", name := "known", desc := "()I" } : Jvm.MethodName)) ∈ wA := kA5 (i := 7) rfl rfl
theorem k5_8 : (Jvm.Cond.instanceMethod ({ cls := "BareThursdayModel", name := "known", desc := "()I" } : Jvm.MethodName)) ∈ wA := kA5 (i := 8) rfl rfl
theorem k5_9 : (Jvm.Cond.selects "BareThursdayModel" ({ cls := "BareThursdayModel", name := "known", desc := "()I" } : Jvm.MethodName) ({ cls := "BareThursdayModel", name := "known", desc := "()I" } : Jvm.MethodName)) ∈ wA := kA5 (i := 9) rfl rfl
theorem k5_10 : (Jvm.Cond.code ({ cls := "BareThursdayModel", name := "known", desc := "()I" } : Jvm.MethodName) prog_7_method_52_code (1 : Nat) (Option.some Jvm.ClassFile.FieldType.int)) ∈ wA := kA5 (i := 10) rfl rfl
theorem k5_11 : (Jvm.Cond.methodLink "BareThursdayLaw" (72 : Nat) ({ cls := "BareThursdayModel", name := "passed", desc := "(II)I" } : Jvm.MethodName)) ∈ wA := kA5 (i := 11) rfl rfl
theorem k5_12 : (Jvm.Cond.instanceMethod ({ cls := "BareThursdayModel", name := "passed", desc := "(II)I" } : Jvm.MethodName)) ∈ wA := kA5 (i := 12) rfl rfl
theorem k5_13 : (Jvm.Cond.selects "BareThursdayModel" ({ cls := "BareThursdayModel", name := "passed", desc := "(II)I" } : Jvm.MethodName) ({ cls := "BareThursdayModel", name := "passed", desc := "(II)I" } : Jvm.MethodName)) ∈ wA := kA5 (i := 13) rfl rfl
theorem k5_14 : (Jvm.Cond.code ({ cls := "BareThursdayModel", name := "passed", desc := "(II)I" } : Jvm.MethodName) prog_7_method_53_code (3 : Nat) (Option.some Jvm.ClassFile.FieldType.int)) ∈ wA := kA5 (i := 14) rfl rfl
theorem k5_15 : (Jvm.Cond.methodLink "BareThursdayLaw" (76 : Nat) ({ cls := "BareThursdayModel", name := "standFor", desc := "(II)I" } : Jvm.MethodName)) ∈ wA := kA5 (i := 15) rfl rfl
theorem k5_16 : (Jvm.Cond.instanceMethod ({ cls := "BareThursdayModel", name := "standFor", desc := "(II)I" } : Jvm.MethodName)) ∈ wA := kA5 (i := 16) rfl rfl
theorem k5_17 : (Jvm.Cond.selects "BareThursdayModel" ({ cls := "BareThursdayModel", name := "standFor", desc := "(II)I" } : Jvm.MethodName) ({ cls := "BareThursdayModel", name := "standFor", desc := "(II)I" } : Jvm.MethodName)) ∈ wA := kA5 (i := 17) rfl rfl
theorem k5_18 : (Jvm.Cond.code ({ cls := "BareThursdayModel", name := "standFor", desc := "(II)I" } : Jvm.MethodName) prog_7_method_56_code (3 : Nat) (Option.some Jvm.ClassFile.FieldType.int)) ∈ wA := kA5 (i := 18) rfl rfl
theorem k5_19 : (Jvm.Cond.methodLink "BareThursdayModel" (175 : Nat) ({ cls := "BareThursdayModel", name := "isAsked", desc := "(II)Z" } : Jvm.MethodName)) ∈ wA := kA5 (i := 19) rfl rfl
theorem k5_21 : (Jvm.Cond.instanceMethod ({ cls := "BareThursdayModel", name := "isAsked", desc := "(II)Z" } : Jvm.MethodName)) ∈ wA := kA5 (i := 21) rfl rfl
theorem k5_22 : (Jvm.Cond.code ({ cls := "BareThursdayModel", name := "isAsked", desc := "(II)Z" } : Jvm.MethodName) prog_7_method_55_code (3 : Nat) (Option.some Jvm.ClassFile.FieldType.boolean)) ∈ wA := kA5 (i := 22) rfl rfl
theorem k5_23 : (Jvm.Cond.methodLink "BareThursdayModel" (178 : Nat) ({ cls := "BareThursdayModel", name := "gladdestBy", desc := "(IIII)I" } : Jvm.MethodName)) ∈ wA := kA5 (i := 23) rfl rfl
theorem k5_25 : (Jvm.Cond.instanceMethod ({ cls := "BareThursdayModel", name := "gladdestBy", desc := "(IIII)I" } : Jvm.MethodName)) ∈ wA := kA5 (i := 25) rfl rfl
theorem k5_26 : (Jvm.Cond.code ({ cls := "BareThursdayModel", name := "gladdestBy", desc := "(IIII)I" } : Jvm.MethodName) prog_7_method_54_code (9 : Nat) (Option.some Jvm.ClassFile.FieldType.int)) ∈ wA := kA5 (i := 26) rfl rfl
theorem k5_27 : (Jvm.Cond.methodLink "BareThursdayLaw" (80 : Nat) ({ cls := "BareThursdayModel", name := "guiseFor", desc := "(II)I" } : Jvm.MethodName)) ∈ wA := kA5 (i := 27) rfl rfl
theorem k5_28 : (Jvm.Cond.instanceMethod ({ cls := "BareThursdayModel", name := "guiseFor", desc := "(II)I" } : Jvm.MethodName)) ∈ wA := kA5 (i := 28) rfl rfl
theorem k5_29 : (Jvm.Cond.selects "BareThursdayModel" ({ cls := "BareThursdayModel", name := "guiseFor", desc := "(II)I" } : Jvm.MethodName) ({ cls := "BareThursdayModel", name := "guiseFor", desc := "(II)I" } : Jvm.MethodName)) ∈ wA := kA5 (i := 29) rfl rfl
theorem k5_30 : (Jvm.Cond.code ({ cls := "BareThursdayModel", name := "guiseFor", desc := "(II)I" } : Jvm.MethodName) prog_7_method_57_code (3 : Nat) (Option.some Jvm.ClassFile.FieldType.int)) ∈ wA := kA5 (i := 30) rfl rfl
theorem k5_31 : (Jvm.Cond.methodLink "BareThursdayLaw" (84 : Nat) ({ cls := "BareThursdayModel", name := "kindFor", desc := "(II)I" } : Jvm.MethodName)) ∈ wA := kA5 (i := 31) rfl rfl
theorem k5_32 : (Jvm.Cond.instanceMethod ({ cls := "BareThursdayModel", name := "kindFor", desc := "(II)I" } : Jvm.MethodName)) ∈ wA := kA5 (i := 32) rfl rfl
theorem k5_33 : (Jvm.Cond.selects "BareThursdayModel" ({ cls := "BareThursdayModel", name := "kindFor", desc := "(II)I" } : Jvm.MethodName) ({ cls := "BareThursdayModel", name := "kindFor", desc := "(II)I" } : Jvm.MethodName)) ∈ wA := kA5 (i := 33) rfl rfl
theorem k5_34 : (Jvm.Cond.code ({ cls := "BareThursdayModel", name := "kindFor", desc := "(II)I" } : Jvm.MethodName) prog_7_method_58_code (3 : Nat) (Option.some Jvm.ClassFile.FieldType.int)) ∈ wA := kA5 (i := 34) rfl rfl
theorem k5_35 : (Jvm.Cond.methodLink "BareThursdayLaw" (88 : Nat) ({ cls := "BareThursdayModel", name := "dark", desc := "(I)I" } : Jvm.MethodName)) ∈ wA := kA5 (i := 35) rfl rfl
theorem k5_36 : (Jvm.Cond.instanceMethod ({ cls := "BareThursdayModel", name := "dark", desc := "(I)I" } : Jvm.MethodName)) ∈ wA := kA5 (i := 36) rfl rfl
theorem k5_37 : (Jvm.Cond.selects "BareThursdayModel" ({ cls := "BareThursdayModel", name := "dark", desc := "(I)I" } : Jvm.MethodName) ({ cls := "BareThursdayModel", name := "dark", desc := "(I)I" } : Jvm.MethodName)) ∈ wA := kA5 (i := 37) rfl rfl
theorem k5_38 : (Jvm.Cond.code ({ cls := "BareThursdayModel", name := "dark", desc := "(I)I" } : Jvm.MethodName) prog_7_method_60_code (5 : Nat) (Option.some Jvm.ClassFile.FieldType.int)) ∈ wA := kA5 (i := 38) rfl rfl
theorem k5_39 : (Jvm.Cond.methodLink "BareThursdayModel" (182 : Nat) ({ cls := "BareThursdayModel", name := "joyWith", desc := "(II)I" } : Jvm.MethodName)) ∈ wA := kA5 (i := 39) rfl rfl
theorem k5_41 : (Jvm.Cond.instanceMethod ({ cls := "BareThursdayModel", name := "joyWith", desc := "(II)I" } : Jvm.MethodName)) ∈ wA := kA5 (i := 41) rfl rfl
theorem k5_42 : (Jvm.Cond.code ({ cls := "BareThursdayModel", name := "joyWith", desc := "(II)I" } : Jvm.MethodName) prog_7_method_59_code (4 : Nat) (Option.some Jvm.ClassFile.FieldType.int)) ∈ wA := kA5 (i := 42) rfl rfl
theorem k5_43 : (Jvm.Cond.methodLink "BareThursdayLaw" (92 : Nat) ({ cls := "BareThursdayModel", name := "circle", desc := "(I)I" } : Jvm.MethodName)) ∈ wA := kA5 (i := 43) rfl rfl
theorem k5_44 : (Jvm.Cond.instanceMethod ({ cls := "BareThursdayModel", name := "circle", desc := "(I)I" } : Jvm.MethodName)) ∈ wA := kA5 (i := 44) rfl rfl
theorem k5_45 : (Jvm.Cond.selects "BareThursdayModel" ({ cls := "BareThursdayModel", name := "circle", desc := "(I)I" } : Jvm.MethodName) ({ cls := "BareThursdayModel", name := "circle", desc := "(I)I" } : Jvm.MethodName)) ∈ wA := kA5 (i := 45) rfl rfl
theorem k5_46 : (Jvm.Cond.code ({ cls := "BareThursdayModel", name := "circle", desc := "(I)I" } : Jvm.MethodName) prog_7_method_62_code (4 : Nat) (Option.some Jvm.ClassFile.FieldType.int)) ∈ wA := kA5 (i := 46) rfl rfl
theorem k5_47 : (Jvm.Cond.methodLink "BareThursdayModel" (185 : Nat) ({ cls := "BareThursdayModel", name := "isCircle", desc := "(II)Z" } : Jvm.MethodName)) ∈ wA := kA5 (i := 47) rfl rfl
theorem k5_49 : (Jvm.Cond.instanceMethod ({ cls := "BareThursdayModel", name := "isCircle", desc := "(II)Z" } : Jvm.MethodName)) ∈ wA := kA5 (i := 49) rfl rfl
theorem k5_50 : (Jvm.Cond.code ({ cls := "BareThursdayModel", name := "isCircle", desc := "(II)Z" } : Jvm.MethodName) prog_7_method_61_code (4 : Nat) (Option.some Jvm.ClassFile.FieldType.boolean)) ∈ wA := kA5 (i := 50) rfl rfl
theorem k5_51 : (Jvm.Cond.methodLink "BareThursdayLaw" (96 : Nat) ({ cls := "BareThursdayModel", name := "fits", desc := "(II)I" } : Jvm.MethodName)) ∈ wA := kA5 (i := 51) rfl rfl
theorem k5_52 : (Jvm.Cond.instanceMethod ({ cls := "BareThursdayModel", name := "fits", desc := "(II)I" } : Jvm.MethodName)) ∈ wA := kA5 (i := 52) rfl rfl
theorem k5_53 : (Jvm.Cond.selects "BareThursdayModel" ({ cls := "BareThursdayModel", name := "fits", desc := "(II)I" } : Jvm.MethodName) ({ cls := "BareThursdayModel", name := "fits", desc := "(II)I" } : Jvm.MethodName)) ∈ wA := kA5 (i := 53) rfl rfl
theorem k5_54 : (Jvm.Cond.code ({ cls := "BareThursdayModel", name := "fits", desc := "(II)I" } : Jvm.MethodName) prog_7_method_68_code (4 : Nat) (Option.some Jvm.ClassFile.FieldType.int)) ∈ wA := kA5 (i := 54) rfl rfl
theorem k5_55 : (Jvm.Cond.methodLink "BareThursdayModel" (197 : Nat) ({ cls := "BareThursdayModel", name := "wrongTold", desc := "(II)I" } : Jvm.MethodName)) ∈ wA := kA5 (i := 55) rfl rfl
theorem k5_57 : (Jvm.Cond.instanceMethod ({ cls := "BareThursdayModel", name := "wrongTold", desc := "(II)I" } : Jvm.MethodName)) ∈ wA := kA5 (i := 57) rfl rfl
theorem k5_58 : (Jvm.Cond.code ({ cls := "BareThursdayModel", name := "wrongTold", desc := "(II)I" } : Jvm.MethodName) prog_7_method_65_code (4 : Nat) (Option.some Jvm.ClassFile.FieldType.int)) ∈ wA := kA5 (i := 58) rfl rfl
theorem k5_59 : (Jvm.Cond.methodLink "BareThursdayModel" (191 : Nat) ({ cls := "BareThursdayModel", name := "wrongSheet", desc := "(I)I" } : Jvm.MethodName)) ∈ wA := kA5 (i := 59) rfl rfl
theorem k5_61 : (Jvm.Cond.instanceMethod ({ cls := "BareThursdayModel", name := "wrongSheet", desc := "(I)I" } : Jvm.MethodName)) ∈ wA := kA5 (i := 61) rfl rfl
theorem k5_62 : (Jvm.Cond.code ({ cls := "BareThursdayModel", name := "wrongSheet", desc := "(I)I" } : Jvm.MethodName) prog_7_method_64_code (2 : Nat) (Option.some Jvm.ClassFile.FieldType.int)) ∈ wA := kA5 (i := 62) rfl rfl
theorem k5_63 : (Jvm.Cond.methodLink "BareThursdayModel" (188 : Nat) ({ cls := "BareThursdayModel", name := "isSheet", desc := "(I)Z" } : Jvm.MethodName)) ∈ wA := kA5 (i := 63) rfl rfl
theorem k5_64 : (Jvm.Cond.static ({ cls := "BareThursdayModel", name := "isSheet", desc := "(I)Z" } : Jvm.MethodName)) ∈ wA := kA5 (i := 64) rfl rfl
theorem k5_65 : (Jvm.Cond.code ({ cls := "BareThursdayModel", name := "isSheet", desc := "(I)Z" } : Jvm.MethodName) prog_7_method_63_code (1 : Nat) (Option.some Jvm.ClassFile.FieldType.boolean)) ∈ wA := kA5 (i := 65) rfl rfl
theorem k5_66 : (Jvm.Cond.methodLink "BareThursdayModel" (200 : Nat) ({ cls := "BareThursdayModel", name := "allThatFit", desc := "(IIII)I" } : Jvm.MethodName)) ∈ wA := kA5 (i := 66) rfl rfl
theorem k5_68 : (Jvm.Cond.instanceMethod ({ cls := "BareThursdayModel", name := "allThatFit", desc := "(IIII)I" } : Jvm.MethodName)) ∈ wA := kA5 (i := 68) rfl rfl
theorem k5_69 : (Jvm.Cond.code ({ cls := "BareThursdayModel", name := "allThatFit", desc := "(IIII)I" } : Jvm.MethodName) prog_7_method_67_code (9 : Nat) (Option.some Jvm.ClassFile.FieldType.int)) ∈ wA := kA5 (i := 69) rfl rfl
theorem k5_70 : (Jvm.Cond.methodLink "BareThursdayModel" (194 : Nat) ({ cls := "BareThursdayModel", name := "told", desc := "(II)I" } : Jvm.MethodName)) ∈ wA := kA5 (i := 70) rfl rfl
theorem k5_72 : (Jvm.Cond.instanceMethod ({ cls := "BareThursdayModel", name := "told", desc := "(II)I" } : Jvm.MethodName)) ∈ wA := kA5 (i := 72) rfl rfl
theorem k5_73 : (Jvm.Cond.code ({ cls := "BareThursdayModel", name := "told", desc := "(II)I" } : Jvm.MethodName) prog_7_method_66_code (3 : Nat) (Option.some Jvm.ClassFile.FieldType.int)) ∈ wA := kA5 (i := 73) rfl rfl
theorem k5_74 : (Jvm.Cond.methodLink "BareThursdayLaw" (100 : Nat) ({ cls := "BareThursdayModel", name := "kinds", desc := "(II)I" } : Jvm.MethodName)) ∈ wA := kA5 (i := 74) rfl rfl
theorem k5_75 : (Jvm.Cond.instanceMethod ({ cls := "BareThursdayModel", name := "kinds", desc := "(II)I" } : Jvm.MethodName)) ∈ wA := kA5 (i := 75) rfl rfl
theorem k5_76 : (Jvm.Cond.selects "BareThursdayModel" ({ cls := "BareThursdayModel", name := "kinds", desc := "(II)I" } : Jvm.MethodName) ({ cls := "BareThursdayModel", name := "kinds", desc := "(II)I" } : Jvm.MethodName)) ∈ wA := kA5 (i := 76) rfl rfl
theorem k5_77 : (Jvm.Cond.code ({ cls := "BareThursdayModel", name := "kinds", desc := "(II)I" } : Jvm.MethodName) prog_7_method_69_code (4 : Nat) (Option.some Jvm.ClassFile.FieldType.int)) ∈ wA := kA5 (i := 77) rfl rfl
theorem k5_78 : (Jvm.Cond.methodLink "BareThursdayLaw" (104 : Nat) ({ cls := "BareThursdayModel", name := "night", desc := "(I)I" } : Jvm.MethodName)) ∈ wA := kA5 (i := 78) rfl rfl
theorem k5_79 : (Jvm.Cond.instanceMethod ({ cls := "BareThursdayModel", name := "night", desc := "(I)I" } : Jvm.MethodName)) ∈ wA := kA5 (i := 79) rfl rfl
theorem k5_80 : (Jvm.Cond.selects "BareThursdayModel" ({ cls := "BareThursdayModel", name := "night", desc := "(I)I" } : Jvm.MethodName) ({ cls := "BareThursdayModel", name := "night", desc := "(I)I" } : Jvm.MethodName)) ∈ wA := kA5 (i := 80) rfl rfl
theorem k5_81 : (Jvm.Cond.code ({ cls := "BareThursdayModel", name := "night", desc := "(I)I" } : Jvm.MethodName) prog_7_method_71_code (6 : Nat) (Option.some Jvm.ClassFile.FieldType.int)) ∈ wA := kA5 (i := 81) rfl rfl
theorem k5_82 : (Jvm.Cond.methodLink "BareThursdayModel" (204 : Nat) ({ cls := "BareThursdayModel", name := "draw", desc := "()I" } : Jvm.MethodName)) ∈ wA := kA5 (i := 82) rfl rfl
theorem k5_84 : (Jvm.Cond.instanceMethod ({ cls := "BareThursdayModel", name := "draw", desc := "()I" } : Jvm.MethodName)) ∈ wA := kA5 (i := 84) rfl rfl
theorem k5_85 : (Jvm.Cond.code ({ cls := "BareThursdayModel", name := "draw", desc := "()I" } : Jvm.MethodName) prog_7_method_70_code (1 : Nat) (Option.some Jvm.ClassFile.FieldType.int)) ∈ wA := kA5 (i := 85) rfl rfl
theorem k5_86 : (Jvm.Cond.constant "BareThursdayModel" (203 : Nat) (1103515245 : Int32)) ∈ wA := kA5 (i := 86) rfl rfl
theorem k5_87 : (Jvm.Cond.methodLink "BareThursdayLaw" (109 : Nat) ({ cls := "BareThursdayModel", name := "odds", desc := "(III)J" } : Jvm.MethodName)) ∈ wA := kA5 (i := 87) rfl rfl
theorem k5_88 : (Jvm.Cond.instanceMethod ({ cls := "BareThursdayModel", name := "odds", desc := "(III)J" } : Jvm.MethodName)) ∈ wA := kA5 (i := 88) rfl rfl
theorem k5_89 : (Jvm.Cond.selects "BareThursdayModel" ({ cls := "BareThursdayModel", name := "odds", desc := "(III)J" } : Jvm.MethodName) ({ cls := "BareThursdayModel", name := "odds", desc := "(III)J" } : Jvm.MethodName)) ∈ wA := kA5 (i := 89) rfl rfl
theorem k5_90 : (Jvm.Cond.code ({ cls := "BareThursdayModel", name := "odds", desc := "(III)J" } : Jvm.MethodName) prog_7_method_72_code (15 : Nat) (Option.some Jvm.ClassFile.FieldType.long)) ∈ wA := kA5 (i := 90) rfl rfl
theorem k5_91 : (Jvm.Cond.constantLong "BareThursdayModel" (207 : Nat) (12 : Int64)) ∈ wA := kA5 (i := 91) rfl rfl
theorem k5_92 : (Jvm.Cond.methodLink "BareThursdayLaw" (113 : Nat) ({ cls := "BareThursdayModel", name := "seed", desc := "(I)I" } : Jvm.MethodName)) ∈ wA := kA5 (i := 92) rfl rfl
theorem k5_93 : (Jvm.Cond.instanceMethod ({ cls := "BareThursdayModel", name := "seed", desc := "(I)I" } : Jvm.MethodName)) ∈ wA := kA5 (i := 93) rfl rfl
theorem k5_94 : (Jvm.Cond.selects "BareThursdayModel" ({ cls := "BareThursdayModel", name := "seed", desc := "(I)I" } : Jvm.MethodName) ({ cls := "BareThursdayModel", name := "seed", desc := "(I)I" } : Jvm.MethodName)) ∈ wA := kA5 (i := 94) rfl rfl
theorem k5_95 : (Jvm.Cond.code ({ cls := "BareThursdayModel", name := "seed", desc := "(I)I" } : Jvm.MethodName) prog_7_method_73_code (3 : Nat) (Option.some Jvm.ClassFile.FieldType.int)) ∈ wA := kA5 (i := 95) rfl rfl
theorem k5_96 : (Jvm.Cond.methodLink "BareThursdayLaw" (117 : Nat) ({ cls := "BareThursdayModel", name := "feed", desc := "(II)I" } : Jvm.MethodName)) ∈ wA := kA5 (i := 96) rfl rfl
theorem k5_97 : (Jvm.Cond.instanceMethod ({ cls := "BareThursdayModel", name := "feed", desc := "(II)I" } : Jvm.MethodName)) ∈ wA := kA5 (i := 97) rfl rfl
theorem k5_98 : (Jvm.Cond.selects "BareThursdayModel" ({ cls := "BareThursdayModel", name := "feed", desc := "(II)I" } : Jvm.MethodName) ({ cls := "BareThursdayModel", name := "feed", desc := "(II)I" } : Jvm.MethodName)) ∈ wA := kA5 (i := 98) rfl rfl
theorem k5_99 : (Jvm.Cond.code ({ cls := "BareThursdayModel", name := "feed", desc := "(II)I" } : Jvm.MethodName) prog_7_method_74_code (4 : Nat) (Option.some Jvm.ClassFile.FieldType.int)) ∈ wA := kA5 (i := 99) rfl rfl
theorem k5_100 : (Jvm.Cond.methodLink "BareThursdayLaw" (121 : Nat) ({ cls := "BareThursdayModel", name := "wipe", desc := "()I" } : Jvm.MethodName)) ∈ wA := kA5 (i := 100) rfl rfl
theorem k5_101 : (Jvm.Cond.instanceMethod ({ cls := "BareThursdayModel", name := "wipe", desc := "()I" } : Jvm.MethodName)) ∈ wA := kA5 (i := 101) rfl rfl
theorem k5_102 : (Jvm.Cond.selects "BareThursdayModel" ({ cls := "BareThursdayModel", name := "wipe", desc := "()I" } : Jvm.MethodName) ({ cls := "BareThursdayModel", name := "wipe", desc := "()I" } : Jvm.MethodName)) ∈ wA := kA5 (i := 102) rfl rfl
theorem k5_103 : (Jvm.Cond.code ({ cls := "BareThursdayModel", name := "wipe", desc := "()I" } : Jvm.MethodName) prog_7_method_75_code (2 : Nat) (Option.some Jvm.ClassFile.FieldType.int)) ∈ wA := kA5 (i := 103) rfl rfl
theorem k5_104 : (Jvm.Cond.methodLink "BareThursdayLaw" (125 : Nat) ({ cls := "BareThursdayModel", name := "text", desc := "()I" } : Jvm.MethodName)) ∈ wA := kA5 (i := 104) rfl rfl
theorem k5_105 : (Jvm.Cond.instanceMethod ({ cls := "BareThursdayModel", name := "text", desc := "()I" } : Jvm.MethodName)) ∈ wA := kA5 (i := 105) rfl rfl
theorem k5_106 : (Jvm.Cond.selects "BareThursdayModel" ({ cls := "BareThursdayModel", name := "text", desc := "()I" } : Jvm.MethodName) ({ cls := "BareThursdayModel", name := "text", desc := "()I" } : Jvm.MethodName)) ∈ wA := kA5 (i := 106) rfl rfl
theorem k5_107 : (Jvm.Cond.code ({ cls := "BareThursdayModel", name := "text", desc := "()I" } : Jvm.MethodName) prog_7_method_84_code (3 : Nat) (Option.some Jvm.ClassFile.FieldType.int)) ∈ wA := kA5 (i := 107) rfl rfl
theorem k5_108 : (Jvm.Cond.methodLink "BareThursdayModel" (244 : Nat) ({ cls := "BareThursdayModel", name := "nextToken", desc := "()V" } : Jvm.MethodName)) ∈ wA := kA5 (i := 108) rfl rfl
theorem k5_110 : (Jvm.Cond.instanceMethod ({ cls := "BareThursdayModel", name := "nextToken", desc := "()V" } : Jvm.MethodName)) ∈ wA := kA5 (i := 110) rfl rfl
theorem k5_111 : (Jvm.Cond.code ({ cls := "BareThursdayModel", name := "nextToken", desc := "()V" } : Jvm.MethodName) prog_7_method_78_code (1 : Nat) (Option.none : Option Jvm.ClassFile.FieldType)) ∈ wA := kA5 (i := 111) rfl rfl
theorem k5_112 : (Jvm.Cond.methodLink "BareThursdayModel" (226 : Nat) ({ cls := "BareThursdayModel", name := "isLetter", desc := "(I)Z" } : Jvm.MethodName)) ∈ wA := kA5 (i := 112) rfl rfl
theorem k5_113 : (Jvm.Cond.static ({ cls := "BareThursdayModel", name := "isLetter", desc := "(I)Z" } : Jvm.MethodName)) ∈ wA := kA5 (i := 113) rfl rfl
theorem k5_114 : (Jvm.Cond.code ({ cls := "BareThursdayModel", name := "isLetter", desc := "(I)Z" } : Jvm.MethodName) prog_7_method_76_code (1 : Nat) (Option.some Jvm.ClassFile.FieldType.boolean)) ∈ wA := kA5 (i := 114) rfl rfl
theorem k5_115 : (Jvm.Cond.constantLong "BareThursdayModel" (229 : Nat) (9999999999999 : Int64)) ∈ wA := kA5 (i := 115) rfl rfl
theorem k5_116 : (Jvm.Cond.constantLong "BareThursdayModel" (231 : Nat) (27 : Int64)) ∈ wA := kA5 (i := 116) rfl rfl
theorem k5_117 : (Jvm.Cond.constantLong "BareThursdayModel" (233 : Nat) (96 : Int64)) ∈ wA := kA5 (i := 117) rfl rfl
theorem k5_118 : (Jvm.Cond.methodLink "BareThursdayModel" (235 : Nat) ({ cls := "BareThursdayModel", name := "isDigit", desc := "(I)Z" } : Jvm.MethodName)) ∈ wA := kA5 (i := 118) rfl rfl
theorem k5_119 : (Jvm.Cond.static ({ cls := "BareThursdayModel", name := "isDigit", desc := "(I)Z" } : Jvm.MethodName)) ∈ wA := kA5 (i := 119) rfl rfl
theorem k5_120 : (Jvm.Cond.code ({ cls := "BareThursdayModel", name := "isDigit", desc := "(I)Z" } : Jvm.MethodName) prog_7_method_77_code (1 : Nat) (Option.some Jvm.ClassFile.FieldType.boolean)) ∈ wA := kA5 (i := 120) rfl rfl
theorem k5_121 : (Jvm.Cond.constantLong "BareThursdayModel" (238 : Nat) (999 : Int64)) ∈ wA := kA5 (i := 121) rfl rfl
theorem k5_122 : (Jvm.Cond.constantLong "BareThursdayModel" (240 : Nat) (10 : Int64)) ∈ wA := kA5 (i := 122) rfl rfl
theorem k5_123 : (Jvm.Cond.constantLong "BareThursdayModel" (242 : Nat) (48 : Int64)) ∈ wA := kA5 (i := 123) rfl rfl
theorem k5_124 : (Jvm.Cond.methodLink "BareThursdayModel" (260 : Nat) ({ cls := "BareThursdayModel", name := "readsItem", desc := "()Z" } : Jvm.MethodName)) ∈ wA := kA5 (i := 124) rfl rfl
theorem k5_126 : (Jvm.Cond.instanceMethod ({ cls := "BareThursdayModel", name := "readsItem", desc := "()Z" } : Jvm.MethodName)) ∈ wA := kA5 (i := 126) rfl rfl
theorem k5_127 : (Jvm.Cond.code ({ cls := "BareThursdayModel", name := "readsItem", desc := "()Z" } : Jvm.MethodName) prog_7_method_83_code (4 : Nat) (Option.some Jvm.ClassFile.FieldType.boolean)) ∈ wA := kA5 (i := 127) rfl rfl
theorem k5_128 : (Jvm.Cond.methodLink "BareThursdayModel" (247 : Nat) ({ cls := "BareThursdayModel", name := "wordOf", desc := "([C)I" } : Jvm.MethodName)) ∈ wA := kA5 (i := 128) rfl rfl
theorem k5_130 : (Jvm.Cond.instanceMethod ({ cls := "BareThursdayModel", name := "wordOf", desc := "([C)I" } : Jvm.MethodName)) ∈ wA := kA5 (i := 130) rfl rfl
theorem k5_131 : (Jvm.Cond.code ({ cls := "BareThursdayModel", name := "wordOf", desc := "([C)I" } : Jvm.MethodName) prog_7_method_79_code (7 : Nat) (Option.some Jvm.ClassFile.FieldType.int)) ∈ wA := kA5 (i := 131) rfl rfl
theorem k5_132 : (Jvm.Cond.methodLink "BareThursdayModel" (254 : Nat) ({ cls := "BareThursdayModel", name := "readsPerson", desc := "(I)Z" } : Jvm.MethodName)) ∈ wA := kA5 (i := 132) rfl rfl
theorem k5_134 : (Jvm.Cond.instanceMethod ({ cls := "BareThursdayModel", name := "readsPerson", desc := "(I)Z" } : Jvm.MethodName)) ∈ wA := kA5 (i := 134) rfl rfl
theorem k5_135 : (Jvm.Cond.code ({ cls := "BareThursdayModel", name := "readsPerson", desc := "(I)Z" } : Jvm.MethodName) prog_7_method_81_code (5 : Nat) (Option.some Jvm.ClassFile.FieldType.boolean)) ∈ wA := kA5 (i := 135) rfl rfl
theorem k5_136 : (Jvm.Cond.methodLink "BareThursdayModel" (251 : Nat) ({ cls := "BareThursdayModel", name := "takesNumber", desc := "(II)I" } : Jvm.MethodName)) ∈ wA := kA5 (i := 136) rfl rfl
theorem k5_138 : (Jvm.Cond.instanceMethod ({ cls := "BareThursdayModel", name := "takesNumber", desc := "(II)I" } : Jvm.MethodName)) ∈ wA := kA5 (i := 138) rfl rfl
theorem k5_139 : (Jvm.Cond.code ({ cls := "BareThursdayModel", name := "takesNumber", desc := "(II)I" } : Jvm.MethodName) prog_7_method_80_code (4 : Nat) (Option.some Jvm.ClassFile.FieldType.int)) ∈ wA := kA5 (i := 139) rfl rfl
theorem k5_140 : (Jvm.Cond.methodLink "BareThursdayModel" (257 : Nat) ({ cls := "BareThursdayModel", name := "readsMet", desc := "()Z" } : Jvm.MethodName)) ∈ wA := kA5 (i := 140) rfl rfl
theorem k5_142 : (Jvm.Cond.instanceMethod ({ cls := "BareThursdayModel", name := "readsMet", desc := "()Z" } : Jvm.MethodName)) ∈ wA := kA5 (i := 142) rfl rfl
theorem k5_143 : (Jvm.Cond.code ({ cls := "BareThursdayModel", name := "readsMet", desc := "()Z" } : Jvm.MethodName) prog_7_method_82_code (3 : Nat) (Option.some Jvm.ClassFile.FieldType.boolean)) ∈ wA := kA5 (i := 143) rfl rfl
theorem k5_144 : (Jvm.Cond.methodLink "BareThursdayLaw" (129 : Nat) ({ cls := "BareThursdayModel", name := "hold", desc := "(II)I" } : Jvm.MethodName)) ∈ wA := kA5 (i := 144) rfl rfl
theorem k5_145 : (Jvm.Cond.instanceMethod ({ cls := "BareThursdayModel", name := "hold", desc := "(II)I" } : Jvm.MethodName)) ∈ wA := kA5 (i := 145) rfl rfl
theorem k5_146 : (Jvm.Cond.selects "BareThursdayModel" ({ cls := "BareThursdayModel", name := "hold", desc := "(II)I" } : Jvm.MethodName) ({ cls := "BareThursdayModel", name := "hold", desc := "(II)I" } : Jvm.MethodName)) ∈ wA := kA5 (i := 146) rfl rfl
theorem k5_147 : (Jvm.Cond.code ({ cls := "BareThursdayModel", name := "hold", desc := "(II)I" } : Jvm.MethodName) prog_7_method_86_code (3 : Nat) (Option.some Jvm.ClassFile.FieldType.int)) ∈ wA := kA5 (i := 147) rfl rfl
theorem k5_148 : (Jvm.Cond.methodLink "BareThursdayModel" (263 : Nat) ({ cls := "BareThursdayModel", name := "isSpot", desc := "(I)Z" } : Jvm.MethodName)) ∈ wA := kA5 (i := 148) rfl rfl
theorem k5_149 : (Jvm.Cond.static ({ cls := "BareThursdayModel", name := "isSpot", desc := "(I)Z" } : Jvm.MethodName)) ∈ wA := kA5 (i := 149) rfl rfl
theorem k5_150 : (Jvm.Cond.code ({ cls := "BareThursdayModel", name := "isSpot", desc := "(I)Z" } : Jvm.MethodName) prog_7_method_85_code (1 : Nat) (Option.some Jvm.ClassFile.FieldType.boolean)) ∈ wA := kA5 (i := 150) rfl rfl
theorem k5_151 : (Jvm.Cond.methodLink "BareThursdayLaw" (133 : Nat) ({ cls := "BareThursdayModel", name := "as", desc := "(II)I" } : Jvm.MethodName)) ∈ wA := kA5 (i := 151) rfl rfl
theorem k5_152 : (Jvm.Cond.instanceMethod ({ cls := "BareThursdayModel", name := "as", desc := "(II)I" } : Jvm.MethodName)) ∈ wA := kA5 (i := 152) rfl rfl
theorem k5_153 : (Jvm.Cond.selects "BareThursdayModel" ({ cls := "BareThursdayModel", name := "as", desc := "(II)I" } : Jvm.MethodName) ({ cls := "BareThursdayModel", name := "as", desc := "(II)I" } : Jvm.MethodName)) ∈ wA := kA5 (i := 153) rfl rfl
theorem k5_154 : (Jvm.Cond.code ({ cls := "BareThursdayModel", name := "as", desc := "(II)I" } : Jvm.MethodName) prog_7_method_88_code (5 : Nat) (Option.some Jvm.ClassFile.FieldType.int)) ∈ wA := kA5 (i := 154) rfl rfl
theorem k5_155 : (Jvm.Cond.methodLink "BareThursdayModel" (266 : Nat) ({ cls := "BareThursdayModel", name := "above", desc := "(I)I" } : Jvm.MethodName)) ∈ wA := kA5 (i := 155) rfl rfl
theorem k5_156 : (Jvm.Cond.static ({ cls := "BareThursdayModel", name := "above", desc := "(I)I" } : Jvm.MethodName)) ∈ wA := kA5 (i := 156) rfl rfl
theorem k5_157 : (Jvm.Cond.code ({ cls := "BareThursdayModel", name := "above", desc := "(I)I" } : Jvm.MethodName) prog_7_method_87_code (1 : Nat) (Option.some Jvm.ClassFile.FieldType.int)) ∈ wA := kA5 (i := 157) rfl rfl
theorem k5_158 : (Jvm.Cond.methodLink "BareThursdayLaw" (137 : Nat) ({ cls := "BareThursdayModel", name := "sheet", desc := "(III)I" } : Jvm.MethodName)) ∈ wA := kA5 (i := 158) rfl rfl
theorem k5_159 : (Jvm.Cond.instanceMethod ({ cls := "BareThursdayModel", name := "sheet", desc := "(III)I" } : Jvm.MethodName)) ∈ wA := kA5 (i := 159) rfl rfl
theorem k5_160 : (Jvm.Cond.selects "BareThursdayModel" ({ cls := "BareThursdayModel", name := "sheet", desc := "(III)I" } : Jvm.MethodName) ({ cls := "BareThursdayModel", name := "sheet", desc := "(III)I" } : Jvm.MethodName)) ∈ wA := kA5 (i := 160) rfl rfl
theorem k5_161 : (Jvm.Cond.code ({ cls := "BareThursdayModel", name := "sheet", desc := "(III)I" } : Jvm.MethodName) prog_7_method_89_code (5 : Nat) (Option.some Jvm.ClassFile.FieldType.int)) ∈ wA := kA5 (i := 161) rfl rfl
theorem k5_162 : (Jvm.Cond.methodLink "BareThursdayLaw" (141 : Nat) ({ cls := "BareThursdayModel", name := "write", desc := "(III)I" } : Jvm.MethodName)) ∈ wA := kA5 (i := 162) rfl rfl
theorem k5_163 : (Jvm.Cond.instanceMethod ({ cls := "BareThursdayModel", name := "write", desc := "(III)I" } : Jvm.MethodName)) ∈ wA := kA5 (i := 163) rfl rfl
theorem k5_164 : (Jvm.Cond.selects "BareThursdayModel" ({ cls := "BareThursdayModel", name := "write", desc := "(III)I" } : Jvm.MethodName) ({ cls := "BareThursdayModel", name := "write", desc := "(III)I" } : Jvm.MethodName)) ∈ wA := kA5 (i := 164) rfl rfl
theorem k5_165 : (Jvm.Cond.code ({ cls := "BareThursdayModel", name := "write", desc := "(III)I" } : Jvm.MethodName) prog_7_method_90_code (5 : Nat) (Option.some Jvm.ClassFile.FieldType.int)) ∈ wA := kA5 (i := 165) rfl rfl
theorem k5_166 : (Jvm.Cond.methodLink "BareThursdayLaw" (146 : Nat) ({ cls := "BareThursdayModel", name := "copy", desc := "(IIIII)I" } : Jvm.MethodName)) ∈ wA := kA5 (i := 166) rfl rfl
theorem k5_167 : (Jvm.Cond.instanceMethod ({ cls := "BareThursdayModel", name := "copy", desc := "(IIIII)I" } : Jvm.MethodName)) ∈ wA := kA5 (i := 167) rfl rfl
theorem k5_168 : (Jvm.Cond.selects "BareThursdayModel" ({ cls := "BareThursdayModel", name := "copy", desc := "(IIIII)I" } : Jvm.MethodName) ({ cls := "BareThursdayModel", name := "copy", desc := "(IIIII)I" } : Jvm.MethodName)) ∈ wA := kA5 (i := 168) rfl rfl
theorem k5_169 : (Jvm.Cond.code ({ cls := "BareThursdayModel", name := "copy", desc := "(IIIII)I" } : Jvm.MethodName) prog_7_method_91_code (7 : Nat) (Option.some Jvm.ClassFile.FieldType.int)) ∈ wA := kA5 (i := 169) rfl rfl
theorem k5_170 : (Jvm.Cond.methodLink "BareThursdayLaw" (150 : Nat) ({ cls := "BareThursdayModel", name := "load", desc := "(I)I" } : Jvm.MethodName)) ∈ wA := kA5 (i := 170) rfl rfl
theorem k5_171 : (Jvm.Cond.instanceMethod ({ cls := "BareThursdayModel", name := "load", desc := "(I)I" } : Jvm.MethodName)) ∈ wA := kA5 (i := 171) rfl rfl
theorem k5_172 : (Jvm.Cond.selects "BareThursdayModel" ({ cls := "BareThursdayModel", name := "load", desc := "(I)I" } : Jvm.MethodName) ({ cls := "BareThursdayModel", name := "load", desc := "(I)I" } : Jvm.MethodName)) ∈ wA := kA5 (i := 172) rfl rfl
theorem k5_173 : (Jvm.Cond.code ({ cls := "BareThursdayModel", name := "load", desc := "(I)I" } : Jvm.MethodName) prog_7_method_92_code (4 : Nat) (Option.some Jvm.ClassFile.FieldType.int)) ∈ wA := kA5 (i := 173) rfl rfl
theorem k5_174 : (Jvm.Cond.methodLink "BareThursdayLaw" (154 : Nat) ({ cls := "BareThursdayModel", name := "judge", desc := "(I)I" } : Jvm.MethodName)) ∈ wA := kA5 (i := 174) rfl rfl
theorem k5_175 : (Jvm.Cond.instanceMethod ({ cls := "BareThursdayModel", name := "judge", desc := "(I)I" } : Jvm.MethodName)) ∈ wA := kA5 (i := 175) rfl rfl
theorem k5_176 : (Jvm.Cond.selects "BareThursdayModel" ({ cls := "BareThursdayModel", name := "judge", desc := "(I)I" } : Jvm.MethodName) ({ cls := "BareThursdayModel", name := "judge", desc := "(I)I" } : Jvm.MethodName)) ∈ wA := kA5 (i := 176) rfl rfl
theorem k5_177 : (Jvm.Cond.code ({ cls := "BareThursdayModel", name := "judge", desc := "(I)I" } : Jvm.MethodName) prog_7_method_93_code (4 : Nat) (Option.some Jvm.ClassFile.FieldType.int)) ∈ wA := kA5 (i := 177) rfl rfl
theorem k5_178 : (Jvm.Cond.methodLink "BareThursdayLaw" (158 : Nat) ({ cls := "BareThursdayModel", name := "image", desc := "()I" } : Jvm.MethodName)) ∈ wA := kA5 (i := 178) rfl rfl
theorem k5_179 : (Jvm.Cond.instanceMethod ({ cls := "BareThursdayModel", name := "image", desc := "()I" } : Jvm.MethodName)) ∈ wA := kA5 (i := 179) rfl rfl
theorem k5_180 : (Jvm.Cond.selects "BareThursdayModel" ({ cls := "BareThursdayModel", name := "image", desc := "()I" } : Jvm.MethodName) ({ cls := "BareThursdayModel", name := "image", desc := "()I" } : Jvm.MethodName)) ∈ wA := kA5 (i := 180) rfl rfl
theorem k5_181 : (Jvm.Cond.code ({ cls := "BareThursdayModel", name := "image", desc := "()I" } : Jvm.MethodName) prog_7_method_94_code (2 : Nat) (Option.some Jvm.ClassFile.FieldType.int)) ∈ wA := kA5 (i := 181) rfl rfl
theorem k5_182 : (Jvm.Cond.methodLink "BareThursdayLaw" (162 : Nat) ({ cls := "BareThursdayModel", name := "undo", desc := "()I" } : Jvm.MethodName)) ∈ wA := kA5 (i := 182) rfl rfl
theorem k5_183 : (Jvm.Cond.instanceMethod ({ cls := "BareThursdayModel", name := "undo", desc := "()I" } : Jvm.MethodName)) ∈ wA := kA5 (i := 183) rfl rfl
theorem k5_184 : (Jvm.Cond.selects "BareThursdayModel" ({ cls := "BareThursdayModel", name := "undo", desc := "()I" } : Jvm.MethodName) ({ cls := "BareThursdayModel", name := "undo", desc := "()I" } : Jvm.MethodName)) ∈ wA := kA5 (i := 184) rfl rfl
theorem k5_185 : (Jvm.Cond.code ({ cls := "BareThursdayModel", name := "undo", desc := "()I" } : Jvm.MethodName) prog_7_method_95_code (2 : Nat) (Option.some Jvm.ClassFile.FieldType.int)) ∈ wA := kA5 (i := 185) rfl rfl
theorem k5_186 : (Jvm.Cond.methodLink "BareThursdayLaw" (166 : Nat) ({ cls := "BareThursdayModel", name := "tear", desc := "()I" } : Jvm.MethodName)) ∈ wA := kA5 (i := 186) rfl rfl
theorem k5_187 : (Jvm.Cond.instanceMethod ({ cls := "BareThursdayModel", name := "tear", desc := "()I" } : Jvm.MethodName)) ∈ wA := kA5 (i := 187) rfl rfl
theorem k5_188 : (Jvm.Cond.selects "BareThursdayModel" ({ cls := "BareThursdayModel", name := "tear", desc := "()I" } : Jvm.MethodName) ({ cls := "BareThursdayModel", name := "tear", desc := "()I" } : Jvm.MethodName)) ∈ wA := kA5 (i := 188) rfl rfl
theorem k5_189 : (Jvm.Cond.code ({ cls := "BareThursdayModel", name := "tear", desc := "()I" } : Jvm.MethodName) prog_7_method_96_code (2 : Nat) (Option.some Jvm.ClassFile.FieldType.int)) ∈ wA := kA5 (i := 189) rfl rfl
theorem k5_190 : (Jvm.Cond.methodLink "BareThursdayLaw" (170 : Nat) ({ cls := "BareThursdayModel", name := "count", desc := "(I)I" } : Jvm.MethodName)) ∈ wA := kA5 (i := 190) rfl rfl
theorem k5_191 : (Jvm.Cond.instanceMethod ({ cls := "BareThursdayModel", name := "count", desc := "(I)I" } : Jvm.MethodName)) ∈ wA := kA5 (i := 191) rfl rfl
theorem k5_192 : (Jvm.Cond.selects "BareThursdayModel" ({ cls := "BareThursdayModel", name := "count", desc := "(I)I" } : Jvm.MethodName) ({ cls := "BareThursdayModel", name := "count", desc := "(I)I" } : Jvm.MethodName)) ∈ wA := kA5 (i := 192) rfl rfl
theorem k5_193 : (Jvm.Cond.code ({ cls := "BareThursdayModel", name := "count", desc := "(I)I" } : Jvm.MethodName) prog_7_method_97_code (4 : Nat) (Option.some Jvm.ClassFile.FieldType.int)) ∈ wA := kA5 (i := 193) rfl rfl
theorem k5_194 : (Jvm.Cond.methodLink "BareThursdayLaw" (174 : Nat) ({ cls := "BareThursdayModel", name := "status", desc := "(I)I" } : Jvm.MethodName)) ∈ wA := kA5 (i := 194) rfl rfl
theorem k5_195 : (Jvm.Cond.instanceMethod ({ cls := "BareThursdayModel", name := "status", desc := "(I)I" } : Jvm.MethodName)) ∈ wA := kA5 (i := 195) rfl rfl
theorem k5_196 : (Jvm.Cond.selects "BareThursdayModel" ({ cls := "BareThursdayModel", name := "status", desc := "(I)I" } : Jvm.MethodName) ({ cls := "BareThursdayModel", name := "status", desc := "(I)I" } : Jvm.MethodName)) ∈ wA := kA5 (i := 196) rfl rfl
theorem k5_197 : (Jvm.Cond.code ({ cls := "BareThursdayModel", name := "status", desc := "(I)I" } : Jvm.MethodName) prog_7_method_98_code (4 : Nat) (Option.some Jvm.ClassFile.FieldType.int)) ∈ wA := kA5 (i := 197) rfl rfl
theorem k5_198 : (Jvm.Cond.fieldLink "java/lang/String" (9 : Nat) "java/lang/String" "value" "[B") ∈ wA := kA5 (i := 198) rfl rfl
theorem k5_199 : (Jvm.Cond.fieldLink "java/lang/String" (15 : Nat) "java/lang/String" "coder" "B") ∈ wA := kA5 (i := 199) rfl rfl
theorem k0_0 : (Jvm.Cond.selects "BareThursday" ({ cls := "BareThursday", name := "finding", desc := "(I)I" } : Jvm.MethodName) ({ cls := "BareThursday", name := "finding", desc := "(I)I" } : Jvm.MethodName)) ∈ wA := kA0 (i := 0) rfl rfl
theorem k0_1 : (Jvm.Cond.selects "BareThursday$Town" ({ cls := "BareThursday$Town", name := "isSetOfOthers", desc := "(II)Z" } : Jvm.MethodName) ({ cls := "BareThursday$Town", name := "isSetOfOthers", desc := "(II)Z" } : Jvm.MethodName)) ∈ wA := kA0 (i := 1) rfl rfl
theorem k0_2 : (Jvm.Cond.selects "BareThursday$Town" ({ cls := "BareThursday$Town", name := "seeEachOther", desc := "(II)V" } : Jvm.MethodName) ({ cls := "BareThursday$Town", name := "seeEachOther", desc := "(II)V" } : Jvm.MethodName)) ∈ wA := kA0 (i := 2) rfl rfl
theorem k0_3 : (Jvm.Cond.selects "BareThursday$Town" ({ cls := "BareThursday$Town", name := "comeToKnow", desc := "(II)V" } : Jvm.MethodName) ({ cls := "BareThursday$Town", name := "comeToKnow", desc := "(II)V" } : Jvm.MethodName)) ∈ wA := kA0 (i := 3) rfl rfl
theorem k0_4 : (Jvm.Cond.selects "BareThursday$Town" ({ cls := "BareThursday$Town", name := "goBy", desc := "(I)V" } : Jvm.MethodName) ({ cls := "BareThursday$Town", name := "goBy", desc := "(I)V" } : Jvm.MethodName)) ∈ wA := kA0 (i := 4) rfl rfl
theorem k0_5 : (Jvm.Cond.selects "BareThursday$Town" ({ cls := "BareThursday$Town", name := "mingle", desc := "(II)V" } : Jvm.MethodName) ({ cls := "BareThursday$Town", name := "mingle", desc := "(II)V" } : Jvm.MethodName)) ∈ wA := kA0 (i := 5) rfl rfl
theorem k0_6 : (Jvm.Cond.selects "BareThursday$Town" ({ cls := "BareThursday$Town", name := "mutualPairs", desc := "([I)I" } : Jvm.MethodName) ({ cls := "BareThursday$Town", name := "mutualPairs", desc := "([I)I" } : Jvm.MethodName)) ∈ wA := kA0 (i := 6) rfl rfl
theorem k0_7 : (Jvm.Cond.selects "BareThursday" ({ cls := "BareThursday", name := "mostJoyous", desc := "(IIII)I" } : Jvm.MethodName) ({ cls := "BareThursday", name := "mostJoyous", desc := "(IIII)I" } : Jvm.MethodName)) ∈ wA := kA0 (i := 7) rfl rfl
theorem k0_8 : (Jvm.Cond.selects "BareThursday" ({ cls := "BareThursday", name := "staysJoyless", desc := "(II)Z" } : Jvm.MethodName) ({ cls := "BareThursday", name := "staysJoyless", desc := "(II)Z" } : Jvm.MethodName)) ∈ wA := kA0 (i := 8) rfl rfl
theorem k0_9 : (Jvm.Cond.selects "BareThursday" ({ cls := "BareThursday", name := "fitting", desc := "(IIII)I" } : Jvm.MethodName) ({ cls := "BareThursday", name := "fitting", desc := "(IIII)I" } : Jvm.MethodName)) ∈ wA := kA0 (i := 9) rfl rfl
theorem k0_10 : (Jvm.Cond.selects "BareThursday" ({ cls := "BareThursday", name := "meetsAsTold", desc := "(II)Z" } : Jvm.MethodName) ({ cls := "BareThursday", name := "meetsAsTold", desc := "(II)Z" } : Jvm.MethodName)) ∈ wA := kA0 (i := 10) rfl rfl
theorem k0_11 : (Jvm.Cond.selects "BareThursday$Tape" ({ cls := "BareThursday$Tape", name := "nextToken", desc := "()V" } : Jvm.MethodName) ({ cls := "BareThursday$Tape", name := "nextToken", desc := "()V" } : Jvm.MethodName)) ∈ wA := kA0 (i := 11) rfl rfl
theorem k0_12 : (Jvm.Cond.selects "BareThursday$Tape" ({ cls := "BareThursday$Tape", name := "passWord", desc := "()V" } : Jvm.MethodName) ({ cls := "BareThursday$Tape", name := "passWord", desc := "()V" } : Jvm.MethodName)) ∈ wA := kA0 (i := 12) rfl rfl
theorem k0_13 : (Jvm.Cond.selects "BareThursday$Tape" ({ cls := "BareThursday$Tape", name := "passNumber", desc := "()V" } : Jvm.MethodName) ({ cls := "BareThursday$Tape", name := "passNumber", desc := "()V" } : Jvm.MethodName)) ∈ wA := kA0 (i := 13) rfl rfl
theorem k0_14 : (Jvm.Cond.selects "BareThursday$Tape" ({ cls := "BareThursday$Tape", name := "readItem", desc := "(LBareThursday$Town;)Z" } : Jvm.MethodName) ({ cls := "BareThursday$Tape", name := "readItem", desc := "(LBareThursday$Town;)Z" } : Jvm.MethodName)) ∈ wA := kA0 (i := 14) rfl rfl
theorem k0_15 : (Jvm.Cond.selects "BareThursday$Tape" ({ cls := "BareThursday$Tape", name := "kindOfWord", desc := "()I" } : Jvm.MethodName) ({ cls := "BareThursday$Tape", name := "kindOfWord", desc := "()I" } : Jvm.MethodName)) ∈ wA := kA0 (i := 15) rfl rfl
theorem k0_16 : (Jvm.Cond.selects "BareThursday$Tape" ({ cls := "BareThursday$Tape", name := "isWord", desc := "(Ljava/lang/String;)Z" } : Jvm.MethodName) ({ cls := "BareThursday$Tape", name := "isWord", desc := "(Ljava/lang/String;)Z" } : Jvm.MethodName)) ∈ wA := kA0 (i := 16) rfl rfl
theorem k0_17 : (Jvm.Cond.selects "BareThursday$Tape" ({ cls := "BareThursday$Tape", name := "readOne", desc := "(ILBareThursday$Town;)Z" } : Jvm.MethodName) ({ cls := "BareThursday$Tape", name := "readOne", desc := "(ILBareThursday$Town;)Z" } : Jvm.MethodName)) ∈ wA := kA0 (i := 17) rfl rfl
theorem k0_18 : (Jvm.Cond.selects "BareThursday$Tape" ({ cls := "BareThursday$Tape", name := "isNumberBelow", desc := "(I)Z" } : Jvm.MethodName) ({ cls := "BareThursday$Tape", name := "isNumberBelow", desc := "(I)Z" } : Jvm.MethodName)) ∈ wA := kA0 (i := 18) rfl rfl
theorem k0_19 : (Jvm.Cond.selects "BareThursday$Tape" ({ cls := "BareThursday$Tape", name := "readMet", desc := "(LBareThursday$Town;)Z" } : Jvm.MethodName) ({ cls := "BareThursday$Tape", name := "readMet", desc := "(LBareThursday$Town;)Z" } : Jvm.MethodName)) ∈ wA := kA0 (i := 19) rfl rfl
theorem k0_20 : (Jvm.Cond.selects "BareThursday$Tape" ({ cls := "BareThursday$Tape", name := "readBell", desc := "(LBareThursday$Town;)Z" } : Jvm.MethodName) ({ cls := "BareThursday$Tape", name := "readBell", desc := "(LBareThursday$Town;)Z" } : Jvm.MethodName)) ∈ wA := kA0 (i := 20) rfl rfl
theorem k0_21 : (Jvm.Cond.selects "BareThursdayModel" ({ cls := "BareThursdayModel", name := "no", desc := "(I)I" } : Jvm.MethodName) ({ cls := "BareThursdayModel", name := "no", desc := "(I)I" } : Jvm.MethodName)) ∈ wA := kA0 (i := 21) rfl rfl
theorem k0_22 : (Jvm.Cond.selects "BareThursdayModel" ({ cls := "BareThursdayModel", name := "adds", desc := "(I)V" } : Jvm.MethodName) ({ cls := "BareThursdayModel", name := "adds", desc := "(I)V" } : Jvm.MethodName)) ∈ wA := kA0 (i := 22) rfl rfl
theorem k0_23 : (Jvm.Cond.selects "BareThursdayModel" ({ cls := "BareThursdayModel", name := "puts", desc := "(III)V" } : Jvm.MethodName) ({ cls := "BareThursdayModel", name := "puts", desc := "(III)V" } : Jvm.MethodName)) ∈ wA := kA0 (i := 23) rfl rfl
theorem k0_24 : (Jvm.Cond.selects "BareThursdayModel" ({ cls := "BareThursdayModel", name := "isPerson", desc := "(I)Z" } : Jvm.MethodName) ({ cls := "BareThursdayModel", name := "isPerson", desc := "(I)Z" } : Jvm.MethodName)) ∈ wA := kA0 (i := 24) rfl rfl
theorem k0_25 : (Jvm.Cond.selects "BareThursdayModel" ({ cls := "BareThursdayModel", name := "walksOf", desc := "(I)I" } : Jvm.MethodName) ({ cls := "BareThursdayModel", name := "walksOf", desc := "(I)I" } : Jvm.MethodName)) ∈ wA := kA0 (i := 25) rfl rfl
theorem k0_26 : (Jvm.Cond.selects "BareThursdayModel" ({ cls := "BareThursdayModel", name := "get", desc := "(II)I" } : Jvm.MethodName) ({ cls := "BareThursdayModel", name := "get", desc := "(II)I" } : Jvm.MethodName)) ∈ wA := kA0 (i := 26) rfl rfl
theorem k0_27 : (Jvm.Cond.selects "BareThursdayModel" ({ cls := "BareThursdayModel", name := "isBare", desc := "()Z" } : Jvm.MethodName) ({ cls := "BareThursdayModel", name := "isBare", desc := "()Z" } : Jvm.MethodName)) ∈ wA := kA0 (i := 27) rfl rfl
theorem k0_28 : (Jvm.Cond.selects "BareThursdayModel" ({ cls := "BareThursdayModel", name := "shiftsOf", desc := "(I)I" } : Jvm.MethodName) ({ cls := "BareThursdayModel", name := "shiftsOf", desc := "(I)I" } : Jvm.MethodName)) ∈ wA := kA0 (i := 28) rfl rfl
theorem k0_29 : (Jvm.Cond.selects "BareThursdayModel" ({ cls := "BareThursdayModel", name := "shinesOf", desc := "(I)I" } : Jvm.MethodName) ({ cls := "BareThursdayModel", name := "shinesOf", desc := "(I)I" } : Jvm.MethodName)) ∈ wA := kA0 (i := 29) rfl rfl
theorem k0_30 : (Jvm.Cond.selects "BareThursdayModel" ({ cls := "BareThursdayModel", name := "gladdensOf", desc := "(I)I" } : Jvm.MethodName) ({ cls := "BareThursdayModel", name := "gladdensOf", desc := "(I)I" } : Jvm.MethodName)) ∈ wA := kA0 (i := 30) rfl rfl
theorem k0_31 : (Jvm.Cond.selects "BareThursdayModel" ({ cls := "BareThursdayModel", name := "canBe", desc := "(III)Z" } : Jvm.MethodName) ({ cls := "BareThursdayModel", name := "canBe", desc := "(III)Z" } : Jvm.MethodName)) ∈ wA := kA0 (i := 31) rfl rfl
theorem k0_32 : (Jvm.Cond.selects "BareThursdayModel" ({ cls := "BareThursdayModel", name := "mindsOf", desc := "(II)Z" } : Jvm.MethodName) ({ cls := "BareThursdayModel", name := "mindsOf", desc := "(II)Z" } : Jvm.MethodName)) ∈ wA := kA0 (i := 32) rfl rfl
theorem k0_33 : (Jvm.Cond.selects "BareThursdayModel" ({ cls := "BareThursdayModel", name := "areTwo", desc := "(II)Z" } : Jvm.MethodName) ({ cls := "BareThursdayModel", name := "areTwo", desc := "(II)Z" } : Jvm.MethodName)) ∈ wA := kA0 (i := 33) rfl rfl
theorem k0_34 : (Jvm.Cond.selects "BareThursdayModel" ({ cls := "BareThursdayModel", name := "farOf", desc := "(II)I" } : Jvm.MethodName) ({ cls := "BareThursdayModel", name := "farOf", desc := "(II)I" } : Jvm.MethodName)) ∈ wA := kA0 (i := 34) rfl rfl
theorem k0_35 : (Jvm.Cond.selects "BareThursdayModel" ({ cls := "BareThursdayModel", name := "hasMet", desc := "(II)Z" } : Jvm.MethodName) ({ cls := "BareThursdayModel", name := "hasMet", desc := "(II)Z" } : Jvm.MethodName)) ∈ wA := kA0 (i := 35) rfl rfl
theorem k0_36 : (Jvm.Cond.selects "BareThursdayModel" ({ cls := "BareThursdayModel", name := "doesKnow", desc := "(II)Z" } : Jvm.MethodName) ({ cls := "BareThursdayModel", name := "doesKnow", desc := "(II)Z" } : Jvm.MethodName)) ∈ wA := kA0 (i := 36) rfl rfl
theorem k0_37 : (Jvm.Cond.selects "BareThursdayModel" ({ cls := "BareThursdayModel", name := "wouldSee", desc := "(II)Z" } : Jvm.MethodName) ({ cls := "BareThursdayModel", name := "wouldSee", desc := "(II)Z" } : Jvm.MethodName)) ∈ wA := kA0 (i := 37) rfl rfl
theorem k0_38 : (Jvm.Cond.selects "BareThursdayModel" ({ cls := "BareThursdayModel", name := "goes", desc := "(I)V" } : Jvm.MethodName) ({ cls := "BareThursdayModel", name := "goes", desc := "(I)V" } : Jvm.MethodName)) ∈ wA := kA0 (i := 38) rfl rfl
theorem k0_39 : (Jvm.Cond.selects "BareThursdayModel" ({ cls := "BareThursdayModel", name := "day", desc := "()V" } : Jvm.MethodName) ({ cls := "BareThursdayModel", name := "day", desc := "()V" } : Jvm.MethodName)) ∈ wA := kA0 (i := 39) rfl rfl
theorem k0_40 : (Jvm.Cond.selects "BareThursdayModel" ({ cls := "BareThursdayModel", name := "goesOn", desc := "(IZ)V" } : Jvm.MethodName) ({ cls := "BareThursdayModel", name := "goesOn", desc := "(IZ)V" } : Jvm.MethodName)) ∈ wA := kA0 (i := 40) rfl rfl
theorem k0_41 : (Jvm.Cond.selects "BareThursdayModel" ({ cls := "BareThursdayModel", name := "barefaced", desc := "(II)V" } : Jvm.MethodName) ({ cls := "BareThursdayModel", name := "barefaced", desc := "(II)V" } : Jvm.MethodName)) ∈ wA := kA0 (i := 41) rfl rfl
theorem k0_42 : (Jvm.Cond.selects "BareThursdayModel" ({ cls := "BareThursdayModel", name := "comesToKnow", desc := "(II)V" } : Jvm.MethodName) ({ cls := "BareThursdayModel", name := "comesToKnow", desc := "(II)V" } : Jvm.MethodName)) ∈ wA := kA0 (i := 42) rfl rfl
theorem k0_43 : (Jvm.Cond.selects "BareThursdayModel" ({ cls := "BareThursdayModel", name := "passesBy", desc := "(I)V" } : Jvm.MethodName) ({ cls := "BareThursdayModel", name := "passesBy", desc := "(I)V" } : Jvm.MethodName)) ∈ wA := kA0 (i := 43) rfl rfl
theorem k0_44 : (Jvm.Cond.selects "BareThursdayModel" ({ cls := "BareThursdayModel", name := "meets", desc := "(II)V" } : Jvm.MethodName) ({ cls := "BareThursdayModel", name := "meets", desc := "(II)V" } : Jvm.MethodName)) ∈ wA := kA0 (i := 44) rfl rfl
theorem k0_45 : (Jvm.Cond.selects "BareThursdayModel" ({ cls := "BareThursdayModel", name := "whoKnow", desc := "()I" } : Jvm.MethodName) ({ cls := "BareThursdayModel", name := "whoKnow", desc := "()I" } : Jvm.MethodName)) ∈ wA := kA0 (i := 45) rfl rfl
theorem k0_46 : (Jvm.Cond.selects "BareThursdayModel" ({ cls := "BareThursdayModel", name := "pairs", desc := "(I)I" } : Jvm.MethodName) ({ cls := "BareThursdayModel", name := "pairs", desc := "(I)I" } : Jvm.MethodName)) ∈ wA := kA0 (i := 46) rfl rfl
theorem k0_47 : (Jvm.Cond.selects "BareThursdayModel" ({ cls := "BareThursdayModel", name := "worn", desc := "()I" } : Jvm.MethodName) ({ cls := "BareThursdayModel", name := "worn", desc := "()I" } : Jvm.MethodName)) ∈ wA := kA0 (i := 47) rfl rfl
theorem k0_48 : (Jvm.Cond.selects "BareThursdayModel" ({ cls := "BareThursdayModel", name := "passedAll", desc := "()I" } : Jvm.MethodName) ({ cls := "BareThursdayModel", name := "passedAll", desc := "()I" } : Jvm.MethodName)) ∈ wA := kA0 (i := 48) rfl rfl
theorem k0_49 : (Jvm.Cond.selects "BareThursdayModel" ({ cls := "BareThursdayModel", name := "thenAt", desc := "(II)I" } : Jvm.MethodName) ({ cls := "BareThursdayModel", name := "thenAt", desc := "(II)I" } : Jvm.MethodName)) ∈ wA := kA0 (i := 49) rfl rfl
theorem k0_50 : (Jvm.Cond.selects "BareThursdayModel" ({ cls := "BareThursdayModel", name := "setsAside", desc := "()V" } : Jvm.MethodName) ({ cls := "BareThursdayModel", name := "setsAside", desc := "()V" } : Jvm.MethodName)) ∈ wA := kA0 (i := 50) rfl rfl
theorem k0_51 : (Jvm.Cond.selects "BareThursdayModel" ({ cls := "BareThursdayModel", name := "laysBack", desc := "()V" } : Jvm.MethodName) ({ cls := "BareThursdayModel", name := "laysBack", desc := "()V" } : Jvm.MethodName)) ∈ wA := kA0 (i := 51) rfl rfl
theorem k0_52 : (Jvm.Cond.selects "BareThursdayModel" ({ cls := "BareThursdayModel", name := "firstBy", desc := "(III)I" } : Jvm.MethodName) ({ cls := "BareThursdayModel", name := "firstBy", desc := "(III)I" } : Jvm.MethodName)) ∈ wA := kA0 (i := 52) rfl rfl
theorem k0_53 : (Jvm.Cond.selects "BareThursdayModel" ({ cls := "BareThursdayModel", name := "isSo", desc := "(III)Z" } : Jvm.MethodName) ({ cls := "BareThursdayModel", name := "isSo", desc := "(III)Z" } : Jvm.MethodName)) ∈ wA := kA0 (i := 53) rfl rfl
theorem k0_54 : (Jvm.Cond.selects "BareThursdayModel" ({ cls := "BareThursdayModel", name := "isAsked", desc := "(II)Z" } : Jvm.MethodName) ({ cls := "BareThursdayModel", name := "isAsked", desc := "(II)Z" } : Jvm.MethodName)) ∈ wA := kA0 (i := 54) rfl rfl
theorem k0_55 : (Jvm.Cond.selects "BareThursdayModel" ({ cls := "BareThursdayModel", name := "gladdestBy", desc := "(IIII)I" } : Jvm.MethodName) ({ cls := "BareThursdayModel", name := "gladdestBy", desc := "(IIII)I" } : Jvm.MethodName)) ∈ wA := kA0 (i := 55) rfl rfl
theorem k0_56 : (Jvm.Cond.selects "BareThursdayModel" ({ cls := "BareThursdayModel", name := "joyWith", desc := "(II)I" } : Jvm.MethodName) ({ cls := "BareThursdayModel", name := "joyWith", desc := "(II)I" } : Jvm.MethodName)) ∈ wA := kA0 (i := 56) rfl rfl
theorem k0_57 : (Jvm.Cond.selects "BareThursdayModel" ({ cls := "BareThursdayModel", name := "isCircle", desc := "(II)Z" } : Jvm.MethodName) ({ cls := "BareThursdayModel", name := "isCircle", desc := "(II)Z" } : Jvm.MethodName)) ∈ wA := kA0 (i := 57) rfl rfl
theorem k0_58 : (Jvm.Cond.selects "BareThursdayModel" ({ cls := "BareThursdayModel", name := "wrongTold", desc := "(II)I" } : Jvm.MethodName) ({ cls := "BareThursdayModel", name := "wrongTold", desc := "(II)I" } : Jvm.MethodName)) ∈ wA := kA0 (i := 58) rfl rfl
theorem k0_59 : (Jvm.Cond.selects "BareThursdayModel" ({ cls := "BareThursdayModel", name := "wrongSheet", desc := "(I)I" } : Jvm.MethodName) ({ cls := "BareThursdayModel", name := "wrongSheet", desc := "(I)I" } : Jvm.MethodName)) ∈ wA := kA0 (i := 59) rfl rfl
theorem k0_60 : (Jvm.Cond.selects "BareThursdayModel" ({ cls := "BareThursdayModel", name := "allThatFit", desc := "(IIII)I" } : Jvm.MethodName) ({ cls := "BareThursdayModel", name := "allThatFit", desc := "(IIII)I" } : Jvm.MethodName)) ∈ wA := kA0 (i := 60) rfl rfl
theorem k0_61 : (Jvm.Cond.selects "BareThursdayModel" ({ cls := "BareThursdayModel", name := "told", desc := "(II)I" } : Jvm.MethodName) ({ cls := "BareThursdayModel", name := "told", desc := "(II)I" } : Jvm.MethodName)) ∈ wA := kA0 (i := 61) rfl rfl
theorem k0_62 : (Jvm.Cond.selects "BareThursdayModel" ({ cls := "BareThursdayModel", name := "draw", desc := "()I" } : Jvm.MethodName) ({ cls := "BareThursdayModel", name := "draw", desc := "()I" } : Jvm.MethodName)) ∈ wA := kA0 (i := 62) rfl rfl
theorem k0_63 : (Jvm.Cond.selects "BareThursdayModel" ({ cls := "BareThursdayModel", name := "nextToken", desc := "()V" } : Jvm.MethodName) ({ cls := "BareThursdayModel", name := "nextToken", desc := "()V" } : Jvm.MethodName)) ∈ wA := kA0 (i := 63) rfl rfl
theorem k0_64 : (Jvm.Cond.selects "BareThursdayModel" ({ cls := "BareThursdayModel", name := "readsItem", desc := "()Z" } : Jvm.MethodName) ({ cls := "BareThursdayModel", name := "readsItem", desc := "()Z" } : Jvm.MethodName)) ∈ wA := kA0 (i := 64) rfl rfl
theorem k0_65 : (Jvm.Cond.selects "BareThursdayModel" ({ cls := "BareThursdayModel", name := "wordOf", desc := "([C)I" } : Jvm.MethodName) ({ cls := "BareThursdayModel", name := "wordOf", desc := "([C)I" } : Jvm.MethodName)) ∈ wA := kA0 (i := 65) rfl rfl
theorem k0_66 : (Jvm.Cond.selects "BareThursdayModel" ({ cls := "BareThursdayModel", name := "readsPerson", desc := "(I)Z" } : Jvm.MethodName) ({ cls := "BareThursdayModel", name := "readsPerson", desc := "(I)Z" } : Jvm.MethodName)) ∈ wA := kA0 (i := 66) rfl rfl
theorem k0_67 : (Jvm.Cond.selects "BareThursdayModel" ({ cls := "BareThursdayModel", name := "takesNumber", desc := "(II)I" } : Jvm.MethodName) ({ cls := "BareThursdayModel", name := "takesNumber", desc := "(II)I" } : Jvm.MethodName)) ∈ wA := kA0 (i := 67) rfl rfl
theorem k0_68 : (Jvm.Cond.selects "BareThursdayModel" ({ cls := "BareThursdayModel", name := "readsMet", desc := "()Z" } : Jvm.MethodName) ({ cls := "BareThursdayModel", name := "readsMet", desc := "()Z" } : Jvm.MethodName)) ∈ wA := kA0 (i := 68) rfl rfl
theorem inX1 : ∀ w ∈ wsX10, w ∈ wA := by
  intro w hw
  obtain ⟨k, hk, rfl⟩ := List.mem_map.mp hw
  have hk := List.mem_range.mp hk
  by_cases h0 : k = 0
  · subst h0; exact kA1 (i := 110) rfl rfl
  by_cases h1 : k = 1
  · subst h1; exact kA1 (i := 112) rfl rfl
  by_cases h2 : k = 2
  · subst h2; exact kA1 (i := 114) rfl rfl
  omega
theorem inX2 : ∀ w ∈ wsX20, w ∈ wA := by
  intro w hw
  obtain ⟨k, hk, rfl⟩ := List.mem_map.mp hw
  have hk := List.mem_range.mp hk
  by_cases h0 : k = 0
  · subst h0; exact kA1 (i := 88) rfl rfl
  by_cases h1 : k = 1
  · subst h1; exact kA1 (i := 90) rfl rfl
  by_cases h2 : k = 2
  · subst h2; exact kA1 (i := 92) rfl rfl
  by_cases h3 : k = 3
  · subst h3; exact kA1 (i := 94) rfl rfl
  by_cases h4 : k = 4
  · subst h4; exact kA1 (i := 96) rfl rfl
  by_cases h5 : k = 5
  · subst h5; exact kA1 (i := 98) rfl rfl
  omega
theorem inX3 : ∀ w ∈ wsX30, w ∈ wA := by
  intro w hw
  obtain ⟨k, hk, rfl⟩ := List.mem_map.mp hw
  have hk := List.mem_range.mp hk
  by_cases h0 : k = 0
  · subst h0; exact kA1 (i := 50) rfl rfl
  by_cases h1 : k = 1
  · subst h1; exact kA1 (i := 52) rfl rfl
  by_cases h2 : k = 2
  · subst h2; exact kA1 (i := 54) rfl rfl
  by_cases h3 : k = 3
  · subst h3; exact kA1 (i := 56) rfl rfl
  by_cases h4 : k = 4
  · subst h4; exact kA1 (i := 58) rfl rfl
  by_cases h5 : k = 5
  · subst h5; exact kA1 (i := 60) rfl rfl
  by_cases h6 : k = 6
  · subst h6; exact kA1 (i := 62) rfl rfl
  by_cases h7 : k = 7
  · subst h7; exact kA1 (i := 64) rfl rfl
  by_cases h8 : k = 8
  · subst h8; exact kA1 (i := 66) rfl rfl
  by_cases h9 : k = 9
  · subst h9; exact kA1 (i := 68) rfl rfl
  by_cases h10 : k = 10
  · subst h10; exact kA1 (i := 70) rfl rfl
  by_cases h11 : k = 11
  · subst h11; exact kA1 (i := 72) rfl rfl
  omega
theorem inX4 : ∀ w ∈ wsX40, w ∈ wA := by
  intro w hw
  obtain ⟨k, hk, rfl⟩ := List.mem_map.mp hw
  have hk := List.mem_range.mp hk
  by_cases h0 : k = 0
  · subst h0; exact kA1 (i := 124) rfl rfl
  by_cases h1 : k = 1
  · subst h1; exact kA1 (i := 126) rfl rfl
  by_cases h2 : k = 2
  · subst h2; exact kA1 (i := 128) rfl rfl
  by_cases h3 : k = 3
  · subst h3; exact kA1 (i := 130) rfl rfl
  by_cases h4 : k = 4
  · subst h4; exact kA1 (i := 132) rfl rfl
  by_cases h5 : k = 5
  · subst h5; exact kA1 (i := 134) rfl rfl
  by_cases h6 : k = 6
  · subst h6; exact kA1 (i := 136) rfl rfl
  omega
theorem inX5 : ∀ w ∈ wsX50, w ∈ wA := by
  intro w hw
  obtain ⟨k, hk, rfl⟩ := List.mem_map.mp hw
  have hk := List.mem_range.mp hk
  by_cases h0 : k = 0
  · subst h0; exact kA4 (i := 12) rfl rfl
  by_cases h1 : k = 1
  · subst h1; exact kA4 (i := 14) rfl rfl
  by_cases h2 : k = 2
  · subst h2; exact kA4 (i := 16) rfl rfl
  by_cases h3 : k = 3
  · subst h3; exact kA4 (i := 18) rfl rfl
  by_cases h4 : k = 4
  · subst h4; exact kA4 (i := 20) rfl rfl
  by_cases h5 : k = 5
  · subst h5; exact kA4 (i := 22) rfl rfl
  by_cases h6 : k = 6
  · subst h6; exact kA4 (i := 24) rfl rfl
  by_cases h7 : k = 7
  · subst h7; exact kA4 (i := 26) rfl rfl
  by_cases h8 : k = 8
  · subst h8; exact kA4 (i := 28) rfl rfl
  by_cases h9 : k = 9
  · subst h9; exact kA4 (i := 30) rfl rfl
  by_cases h10 : k = 10
  · subst h10; exact kA4 (i := 32) rfl rfl
  by_cases h11 : k = 11
  · subst h11; exact kA4 (i := 34) rfl rfl
  by_cases h12 : k = 12
  · subst h12; exact kA4 (i := 36) rfl rfl
  by_cases h13 : k = 13
  · subst h13; exact kA4 (i := 38) rfl rfl
  by_cases h14 : k = 14
  · subst h14; exact kA4 (i := 40) rfl rfl
  by_cases h15 : k = 15
  · subst h15; exact kA4 (i := 42) rfl rfl
  by_cases h16 : k = 16
  · subst h16; exact kA4 (i := 44) rfl rfl
  by_cases h17 : k = 17
  · subst h17; exact kA4 (i := 46) rfl rfl
  omega
abbrev vwCl : List vw_C := [(RX1, TX1, 3), (RX2, TX2, 6), (RX3, TX3, 12), (RX4, TX4, 7), (RX5, TX5, 18)]
end
section
theorem dX0_above_0 : decode cX0_above 0 = .ok (.iload_n 0, 1) := by decide +kernel
theorem dX0_above_1 : decode cX0_above 1 = .ok (.tableswitch 47 1 6 #[39, 39, 41, 43, 39, 45], 39) := by decide +kernel
theorem dX0_above_40 : decode cX0_above 40 = .ok (.iconst 0, 1) := by decide +kernel
theorem dX0_above_41 : decode cX0_above 41 = .ok (.ireturn, 1) := by decide +kernel
theorem dX0_above_42 : decode cX0_above 42 = .ok (.iconst 2, 1) := by decide +kernel
theorem dX0_above_43 : decode cX0_above 43 = .ok (.ireturn, 1) := by decide +kernel
theorem dX0_above_44 : decode cX0_above 44 = .ok (.iconst 3, 1) := by decide +kernel
theorem dX0_above_45 : decode cX0_above 45 = .ok (.ireturn, 1) := by decide +kernel
theorem dX0_above_46 : decode cX0_above 46 = .ok (.iconst 1, 1) := by decide +kernel
theorem dX0_above_47 : decode cX0_above 47 = .ok (.ireturn, 1) := by decide +kernel
theorem dX0_above_48 : decode cX0_above 48 = .ok (.iconst (-1), 1) := by decide +kernel
theorem dX0_above_49 : decode cX0_above 49 = .ok (.ireturn, 1) := by decide +kernel
theorem dX0_isUnder_0 : decode cX0_isUnder 0 = .ok (.iload_n 0, 1) := by decide +kernel
theorem dX0_isUnder_1 : decode cX0_isUnder 1 = .ok (.istore_n 2, 1) := by decide +kernel
theorem dX0_isUnder_2 : decode cX0_isUnder 2 = .ok (.iconst 0, 1) := by decide +kernel
theorem dX0_isUnder_3 : decode cX0_isUnder 3 = .ok (.istore_n 3, 1) := by decide +kernel
theorem dX0_isUnder_4 : decode cX0_isUnder 4 = .ok (.iload_n 3, 1) := by decide +kernel
theorem dX0_isUnder_5 : decode cX0_isUnder 5 = .ok (.iconst 3, 1) := by decide +kernel
theorem dX0_isUnder_6 : decode cX0_isUnder 6 = .ok (.if_icmp .ge 19, 3) := by decide +kernel
theorem dX0_isUnder_9 : decode cX0_isUnder 9 = .ok (.iload_n 2, 1) := by decide +kernel
theorem dX0_isUnder_10 : decode cX0_isUnder 10 = .ok (.iload_n 1, 1) := by decide +kernel
theorem dX0_isUnder_11 : decode cX0_isUnder 11 = .ok (.if_icmp .eq 14, 3) := by decide +kernel
theorem dX0_isUnder_14 : decode cX0_isUnder 14 = .ok (.iload_n 2, 1) := by decide +kernel
theorem dX0_isUnder_15 : decode cX0_isUnder 15 = .ok (.invokestatic 9, 3) := by decide +kernel
theorem dX0_isUnder_18 : decode cX0_isUnder 18 = .ok (.istore_n 2, 1) := by decide +kernel
theorem dX0_isUnder_19 : decode cX0_isUnder 19 = .ok (.iinc 3 1, 3) := by decide +kernel
theorem dX0_isUnder_22 : decode cX0_isUnder 22 = .ok (.goto (-18), 3) := by decide +kernel
theorem dX0_isUnder_25 : decode cX0_isUnder 25 = .ok (.iload_n 2, 1) := by decide +kernel
theorem dX0_isUnder_26 : decode cX0_isUnder 26 = .ok (.iload_n 1, 1) := by decide +kernel
theorem dX0_isUnder_27 : decode cX0_isUnder 27 = .ok (.if_icmp .ne 7, 3) := by decide +kernel
theorem dX0_isUnder_30 : decode cX0_isUnder 30 = .ok (.iconst 1, 1) := by decide +kernel
theorem dX0_isUnder_31 : decode cX0_isUnder 31 = .ok (.goto 4, 3) := by decide +kernel
theorem dX0_isUnder_34 : decode cX0_isUnder 34 = .ok (.iconst 0, 1) := by decide +kernel
theorem dX0_isUnder_35 : decode cX0_isUnder 35 = .ok (.ireturn, 1) := by decide +kernel
theorem dX0_walk_0 : decode cX0_walk 0 = .ok (.iload_n 1, 1) := by decide +kernel
theorem dX0_walk_1 : decode cX0_walk 1 = .ok (.iconst 2, 1) := by decide +kernel
theorem dX0_walk_2 : decode cX0_walk 2 = .ok (.irem, 1) := by decide +kernel
theorem dX0_walk_3 : decode cX0_walk 3 = .ok (.istore_n 2, 1) := by decide +kernel
theorem dX0_walk_4 : decode cX0_walk 4 = .ok (.iload_n 0, 1) := by decide +kernel
theorem dX0_walk_5 : decode cX0_walk 5 = .ok (.tableswitch 64 1 6 #[39, 43, 45, 49, 62, 41], 39) := by decide +kernel
theorem dX0_walk_44 : decode cX0_walk 44 = .ok (.iconst 3, 1) := by decide +kernel
theorem dX0_walk_45 : decode cX0_walk 45 = .ok (.ireturn, 1) := by decide +kernel
theorem dX0_walk_46 : decode cX0_walk 46 = .ok (.iconst 2, 1) := by decide +kernel
theorem dX0_walk_47 : decode cX0_walk 47 = .ok (.ireturn, 1) := by decide +kernel
theorem dX0_walk_48 : decode cX0_walk 48 = .ok (.iload_n 2, 1) := by decide +kernel
theorem dX0_walk_49 : decode cX0_walk 49 = .ok (.ireturn, 1) := by decide +kernel
theorem dX0_walk_50 : decode cX0_walk 50 = .ok (.iload_n 2, 1) := by decide +kernel
theorem dX0_walk_51 : decode cX0_walk 51 = .ok (.iconst 1, 1) := by decide +kernel
theorem dX0_walk_52 : decode cX0_walk 52 = .ok (.iadd, 1) := by decide +kernel
theorem dX0_walk_53 : decode cX0_walk 53 = .ok (.ireturn, 1) := by decide +kernel
theorem dX0_walk_54 : decode cX0_walk 54 = .ok (.iload_n 1, 1) := by decide +kernel
theorem dX0_walk_55 : decode cX0_walk 55 = .ok (.invokestatic 13, 3) := by decide +kernel
theorem dX0_walk_58 : decode cX0_walk 58 = .ok (.ifCond .eq 7, 3) := by decide +kernel
theorem dX0_walk_61 : decode cX0_walk 61 = .ok (.iconst 5, 1) := by decide +kernel
theorem dX0_walk_62 : decode cX0_walk 62 = .ok (.goto 4, 3) := by decide +kernel
theorem dX0_walk_65 : decode cX0_walk 65 = .ok (.iconst 0, 1) := by decide +kernel
theorem dX0_walk_66 : decode cX0_walk 66 = .ok (.ireturn, 1) := by decide +kernel
theorem dX0_walk_67 : decode cX0_walk 67 = .ok (.iconst 0, 1) := by decide +kernel
theorem dX0_walk_68 : decode cX0_walk 68 = .ok (.ireturn, 1) := by decide +kernel
theorem dX0_walk_69 : decode cX0_walk 69 = .ok (.iconst 1, 1) := by decide +kernel
theorem dX0_walk_70 : decode cX0_walk 70 = .ok (.ireturn, 1) := by decide +kernel
theorem dX0_shift_0 : decode cX0_shift 0 = .ok (.iload_n 0, 1) := by decide +kernel
theorem dX0_shift_1 : decode cX0_shift 1 = .ok (.tableswitch 57 1 6 #[39, 41, 43, 55, 41, 39], 39) := by decide +kernel
theorem dX0_shift_40 : decode cX0_shift 40 = .ok (.iconst 2, 1) := by decide +kernel
theorem dX0_shift_41 : decode cX0_shift 41 = .ok (.ireturn, 1) := by decide +kernel
theorem dX0_shift_42 : decode cX0_shift 42 = .ok (.iconst 0, 1) := by decide +kernel
theorem dX0_shift_43 : decode cX0_shift 43 = .ok (.ireturn, 1) := by decide +kernel
theorem dX0_shift_44 : decode cX0_shift 44 = .ok (.iload_n 1, 1) := by decide +kernel
theorem dX0_shift_45 : decode cX0_shift 45 = .ok (.iconst 3, 1) := by decide +kernel
theorem dX0_shift_46 : decode cX0_shift 46 = .ok (.irem, 1) := by decide +kernel
theorem dX0_shift_47 : decode cX0_shift 47 = .ok (.ifCond .ne 7, 3) := by decide +kernel
theorem dX0_shift_50 : decode cX0_shift 50 = .ok (.iconst 1, 1) := by decide +kernel
theorem dX0_shift_51 : decode cX0_shift 51 = .ok (.goto 4, 3) := by decide +kernel
theorem dX0_shift_54 : decode cX0_shift 54 = .ok (.iconst 0, 1) := by decide +kernel
theorem dX0_shift_55 : decode cX0_shift 55 = .ok (.ireturn, 1) := by decide +kernel
theorem dX0_shift_56 : decode cX0_shift 56 = .ok (.iconst 5, 1) := by decide +kernel
theorem dX0_shift_57 : decode cX0_shift 57 = .ok (.ireturn, 1) := by decide +kernel
theorem dX0_shift_58 : decode cX0_shift 58 = .ok (.iconst 1, 1) := by decide +kernel
theorem dX0_shift_59 : decode cX0_shift 59 = .ok (.ireturn, 1) := by decide +kernel
theorem dX0_mind_0 : decode cX0_mind 0 = .ok (.iload_n 1, 1) := by decide +kernel
theorem dX0_mind_1 : decode cX0_mind 1 = .ok (.iconst 5, 1) := by decide +kernel
theorem dX0_mind_2 : decode cX0_mind 2 = .ok (.if_icmp .gt 7, 3) := by decide +kernel
theorem dX0_mind_5 : decode cX0_mind 5 = .ok (.iconst 1, 1) := by decide +kernel
theorem dX0_mind_6 : decode cX0_mind 6 = .ok (.goto 4, 3) := by decide +kernel
theorem dX0_mind_9 : decode cX0_mind 9 = .ok (.iconst 0, 1) := by decide +kernel
theorem dX0_mind_10 : decode cX0_mind 10 = .ok (.istore 4, 2) := by decide +kernel
theorem dX0_mind_12 : decode cX0_mind 12 = .ok (.iload 4, 2) := by decide +kernel
theorem dX0_mind_14 : decode cX0_mind 14 = .ok (.ifCond .ne 8, 3) := by decide +kernel
theorem dX0_mind_17 : decode cX0_mind 17 = .ok (.iload_n 1, 1) := by decide +kernel
theorem dX0_mind_18 : decode cX0_mind 18 = .ok (.iload_n 2, 1) := by decide +kernel
theorem dX0_mind_19 : decode cX0_mind 19 = .ok (.if_icmp .ne 7, 3) := by decide +kernel
theorem dX0_mind_22 : decode cX0_mind 22 = .ok (.iconst 1, 1) := by decide +kernel
theorem dX0_mind_23 : decode cX0_mind 23 = .ok (.goto 4, 3) := by decide +kernel
theorem dX0_mind_26 : decode cX0_mind 26 = .ok (.iconst 0, 1) := by decide +kernel
theorem dX0_mind_27 : decode cX0_mind 27 = .ok (.istore 5, 2) := by decide +kernel
theorem dX0_mind_29 : decode cX0_mind 29 = .ok (.iload_n 0, 1) := by decide +kernel
theorem dX0_mind_30 : decode cX0_mind 30 = .ok (.tableswitch 82 1 6 #[38, 53, 56, 59, 80, 40], 38) := by decide +kernel
theorem dX0_mind_68 : decode cX0_mind 68 = .ok (.iconst 1, 1) := by decide +kernel
theorem dX0_mind_69 : decode cX0_mind 69 = .ok (.ireturn, 1) := by decide +kernel
theorem dX0_mind_70 : decode cX0_mind 70 = .ok (.iload_n 1, 1) := by decide +kernel
theorem dX0_mind_71 : decode cX0_mind 71 = .ok (.iconst 2, 1) := by decide +kernel
theorem dX0_mind_72 : decode cX0_mind 72 = .ok (.irem, 1) := by decide +kernel
theorem dX0_mind_73 : decode cX0_mind 73 = .ok (.iconst 1, 1) := by decide +kernel
theorem dX0_mind_74 : decode cX0_mind 74 = .ok (.if_icmp .ne 7, 3) := by decide +kernel
theorem dX0_mind_77 : decode cX0_mind 77 = .ok (.iconst 1, 1) := by decide +kernel
theorem dX0_mind_78 : decode cX0_mind 78 = .ok (.goto 4, 3) := by decide +kernel
theorem dX0_mind_81 : decode cX0_mind 81 = .ok (.iconst 0, 1) := by decide +kernel
theorem dX0_mind_82 : decode cX0_mind 82 = .ok (.ireturn, 1) := by decide +kernel
theorem dX0_mind_83 : decode cX0_mind 83 = .ok (.iload 4, 2) := by decide +kernel
theorem dX0_mind_85 : decode cX0_mind 85 = .ok (.ireturn, 1) := by decide +kernel
theorem dX0_mind_86 : decode cX0_mind 86 = .ok (.iload 5, 2) := by decide +kernel
theorem dX0_mind_88 : decode cX0_mind 88 = .ok (.ireturn, 1) := by decide +kernel
theorem dX0_mind_89 : decode cX0_mind 89 = .ok (.iload_n 1, 1) := by decide +kernel
theorem dX0_mind_90 : decode cX0_mind 90 = .ok (.bipush 9, 2) := by decide +kernel
theorem dX0_mind_92 : decode cX0_mind 92 = .ok (.if_icmp .eq 12, 3) := by decide +kernel
theorem dX0_mind_95 : decode cX0_mind 95 = .ok (.iload_n 3, 1) := by decide +kernel
theorem dX0_mind_96 : decode cX0_mind 96 = .ok (.ifCond .eq 12, 3) := by decide +kernel
theorem dX0_mind_99 : decode cX0_mind 99 = .ok (.iload 5, 2) := by decide +kernel
theorem dX0_mind_101 : decode cX0_mind 101 = .ok (.ifCond .eq 7, 3) := by decide +kernel
theorem dX0_mind_104 : decode cX0_mind 104 = .ok (.iconst 1, 1) := by decide +kernel
theorem dX0_mind_105 : decode cX0_mind 105 = .ok (.goto 4, 3) := by decide +kernel
theorem dX0_mind_108 : decode cX0_mind 108 = .ok (.iconst 0, 1) := by decide +kernel
theorem dX0_mind_109 : decode cX0_mind 109 = .ok (.ireturn, 1) := by decide +kernel
theorem dX0_mind_110 : decode cX0_mind 110 = .ok (.iconst 0, 1) := by decide +kernel
theorem dX0_mind_111 : decode cX0_mind 111 = .ok (.ireturn, 1) := by decide +kernel
theorem dX0_mind_112 : decode cX0_mind 112 = .ok (.iload_n 1, 1) := by decide +kernel
theorem dX0_mind_113 : decode cX0_mind 113 = .ok (.iload_n 2, 1) := by decide +kernel
theorem dX0_mind_114 : decode cX0_mind 114 = .ok (.if_icmp .eq 7, 3) := by decide +kernel
theorem dX0_mind_117 : decode cX0_mind 117 = .ok (.iconst 1, 1) := by decide +kernel
theorem dX0_mind_118 : decode cX0_mind 118 = .ok (.goto 4, 3) := by decide +kernel
theorem dX0_mind_121 : decode cX0_mind 121 = .ok (.iconst 0, 1) := by decide +kernel
theorem dX0_mind_122 : decode cX0_mind 122 = .ok (.ireturn, 1) := by decide +kernel
theorem dX0_shine_0 : decode cX0_shine 0 = .ok (.iload_n 0, 1) := by decide +kernel
theorem dX0_shine_1 : decode cX0_shine 1 = .ok (.tableswitch 45 1 6 #[39, 41, 41, 43, 39, 39], 39) := by decide +kernel
theorem dX0_shine_40 : decode cX0_shine 40 = .ok (.iconst 0, 1) := by decide +kernel
theorem dX0_shine_41 : decode cX0_shine 41 = .ok (.ireturn, 1) := by decide +kernel
theorem dX0_shine_42 : decode cX0_shine 42 = .ok (.iconst 2, 1) := by decide +kernel
theorem dX0_shine_43 : decode cX0_shine 43 = .ok (.ireturn, 1) := by decide +kernel
theorem dX0_shine_44 : decode cX0_shine 44 = .ok (.iconst 4, 1) := by decide +kernel
theorem dX0_shine_45 : decode cX0_shine 45 = .ok (.ireturn, 1) := by decide +kernel
theorem dX0_shine_46 : decode cX0_shine 46 = .ok (.iconst 1, 1) := by decide +kernel
theorem dX0_shine_47 : decode cX0_shine 47 = .ok (.ireturn, 1) := by decide +kernel
theorem dX0_gladden_0 : decode cX0_gladden 0 = .ok (.iconst 3, 1) := by decide +kernel
theorem dX0_gladden_1 : decode cX0_gladden 1 = .ok (.iload_n 1, 1) := by decide +kernel
theorem dX0_gladden_2 : decode cX0_gladden 2 = .ok (.iadd, 1) := by decide +kernel
theorem dX0_gladden_3 : decode cX0_gladden 3 = .ok (.istore_n 2, 1) := by decide +kernel
theorem dX0_gladden_4 : decode cX0_gladden 4 = .ok (.iload_n 0, 1) := by decide +kernel
theorem dX0_gladden_5 : decode cX0_gladden 5 = .ok (.tableswitch 48 2 6 #[38, 40, 42, 46, 35], 35) := by decide +kernel
theorem dX0_gladden_40 : decode cX0_gladden 40 = .ok (.bipush 20, 2) := by decide +kernel
theorem dX0_gladden_42 : decode cX0_gladden 42 = .ok (.ireturn, 1) := by decide +kernel
theorem dX0_gladden_43 : decode cX0_gladden 43 = .ok (.iconst 3, 1) := by decide +kernel
theorem dX0_gladden_44 : decode cX0_gladden 44 = .ok (.ireturn, 1) := by decide +kernel
theorem dX0_gladden_45 : decode cX0_gladden 45 = .ok (.iload_n 2, 1) := by decide +kernel
theorem dX0_gladden_46 : decode cX0_gladden 46 = .ok (.ireturn, 1) := by decide +kernel
theorem dX0_gladden_47 : decode cX0_gladden 47 = .ok (.iconst 3, 1) := by decide +kernel
theorem dX0_gladden_48 : decode cX0_gladden 48 = .ok (.iload_n 2, 1) := by decide +kernel
theorem dX0_gladden_49 : decode cX0_gladden 49 = .ok (.imul, 1) := by decide +kernel
theorem dX0_gladden_50 : decode cX0_gladden 50 = .ok (.ireturn, 1) := by decide +kernel
theorem dX0_gladden_51 : decode cX0_gladden 51 = .ok (.iconst 0, 1) := by decide +kernel
theorem dX0_gladden_52 : decode cX0_gladden 52 = .ok (.ireturn, 1) := by decide +kernel
theorem dX0_gladden_53 : decode cX0_gladden 53 = .ok (.iconst 1, 1) := by decide +kernel
theorem dX0_gladden_54 : decode cX0_gladden 54 = .ok (.ireturn, 1) := by decide +kernel
theorem dX1_init_0 : decode cX1_init 0 = .ok (.aload_n 0, 1) := by decide +kernel
theorem dX1_init_1 : decode cX1_init 1 = .ok (.invokespecial 1, 3) := by decide +kernel
theorem dX1_init_4 : decode cX1_init 4 = .ok (.aload_n 0, 1) := by decide +kernel
theorem dX1_init_5 : decode cX1_init 5 = .ok (.iconst 4, 1) := by decide +kernel
theorem dX1_init_6 : decode cX1_init 6 = .ok (.newarray .int, 2) := by decide +kernel
theorem dX1_init_8 : decode cX1_init 8 = .ok (.putfield 9, 3) := by decide +kernel
theorem dX1_init_11 : decode cX1_init 11 = .ok (.aload_n 0, 1) := by decide +kernel
theorem dX1_init_12 : decode cX1_init 12 = .ok (.iconst 4, 1) := by decide +kernel
theorem dX1_init_13 : decode cX1_init 13 = .ok (.newarray .int, 2) := by decide +kernel
theorem dX1_init_15 : decode cX1_init 15 = .ok (.putfield 13, 3) := by decide +kernel
theorem dX1_init_18 : decode cX1_init 18 = .ok (.aload_n 0, 1) := by decide +kernel
theorem dX1_init_19 : decode cX1_init 19 = .ok (.sipush 160, 3) := by decide +kernel
theorem dX1_init_22 : decode cX1_init 22 = .ok (.newarray .int, 2) := by decide +kernel
theorem dX1_init_24 : decode cX1_init 24 = .ok (.putfield 16, 3) := by decide +kernel
theorem dX1_init_27 : decode cX1_init 27 = .ok (.return_, 1) := by decide +kernel
theorem dX1_lay_0 : decode cX1_lay 0 = .ok (.aload_n 0, 1) := by decide +kernel
theorem dX1_lay_1 : decode cX1_lay 1 = .ok (.getfield 9, 3) := by decide +kernel
theorem dX1_lay_4 : decode cX1_lay 4 = .ok (.iload_n 1, 1) := by decide +kernel
theorem dX1_lay_5 : decode cX1_lay 5 = .ok (.iload_n 2, 1) := by decide +kernel
theorem dX1_lay_6 : decode cX1_lay 6 = .ok (.iastore, 1) := by decide +kernel
theorem dX1_lay_7 : decode cX1_lay 7 = .ok (.aload_n 0, 1) := by decide +kernel
theorem dX1_lay_8 : decode cX1_lay 8 = .ok (.getfield 13, 3) := by decide +kernel
theorem dX1_lay_11 : decode cX1_lay 11 = .ok (.iload_n 1, 1) := by decide +kernel
theorem dX1_lay_12 : decode cX1_lay 12 = .ok (.iload_n 3, 1) := by decide +kernel
theorem dX1_lay_13 : decode cX1_lay 13 = .ok (.iastore, 1) := by decide +kernel
theorem dX1_lay_14 : decode cX1_lay 14 = .ok (.aload_n 0, 1) := by decide +kernel
theorem dX1_lay_15 : decode cX1_lay 15 = .ok (.getfield 16, 3) := by decide +kernel
theorem dX1_lay_18 : decode cX1_lay 18 = .ok (.iload_n 1, 1) := by decide +kernel
theorem dX1_lay_19 : decode cX1_lay 19 = .ok (.bipush 40, 2) := by decide +kernel
theorem dX1_lay_21 : decode cX1_lay 21 = .ok (.imul, 1) := by decide +kernel
theorem dX1_lay_22 : decode cX1_lay 22 = .ok (.iload_n 1, 1) := by decide +kernel
theorem dX1_lay_23 : decode cX1_lay 23 = .ok (.iconst 1, 1) := by decide +kernel
theorem dX1_lay_24 : decode cX1_lay 24 = .ok (.iadd, 1) := by decide +kernel
theorem dX1_lay_25 : decode cX1_lay 25 = .ok (.bipush 40, 2) := by decide +kernel
theorem dX1_lay_27 : decode cX1_lay 27 = .ok (.imul, 1) := by decide +kernel
theorem dX1_lay_28 : decode cX1_lay 28 = .ok (.iconst 0, 1) := by decide +kernel
theorem dX1_lay_29 : decode cX1_lay 29 = .ok (.invokestatic 19, 3) := by decide +kernel
theorem dX1_lay_32 : decode cX1_lay 32 = .ok (.return_, 1) := by decide +kernel
theorem dX1_isMissing_0 : decode cX1_isMissing 0 = .ok (.aload_n 0, 1) := by decide +kernel
theorem dX1_isMissing_1 : decode cX1_isMissing 1 = .ok (.getfield 9, 3) := by decide +kernel
theorem dX1_isMissing_4 : decode cX1_isMissing 4 = .ok (.iload_n 1, 1) := by decide +kernel
theorem dX1_isMissing_5 : decode cX1_isMissing 5 = .ok (.iaload, 1) := by decide +kernel
theorem dX1_isMissing_6 : decode cX1_isMissing 6 = .ok (.ifCond .ne 7, 3) := by decide +kernel
theorem dX1_isMissing_9 : decode cX1_isMissing 9 = .ok (.iconst 1, 1) := by decide +kernel
theorem dX1_isMissing_10 : decode cX1_isMissing 10 = .ok (.goto 4, 3) := by decide +kernel
theorem dX1_isMissing_13 : decode cX1_isMissing 13 = .ok (.iconst 0, 1) := by decide +kernel
theorem dX1_isMissing_14 : decode cX1_isMissing 14 = .ok (.ireturn, 1) := by decide +kernel
theorem dX1_bits_0 : decode cX1_bits 0 = .ok (.aload_n 0, 1) := by decide +kernel
theorem dX1_bits_1 : decode cX1_bits 1 = .ok (.getfield 9, 3) := by decide +kernel
theorem dX1_bits_4 : decode cX1_bits 4 = .ok (.iload_n 1, 1) := by decide +kernel
theorem dX1_bits_5 : decode cX1_bits 5 = .ok (.iaload, 1) := by decide +kernel
theorem dX1_bits_6 : decode cX1_bits 6 = .ok (.ireturn, 1) := by decide +kernel
theorem dX1_length_0 : decode cX1_length 0 = .ok (.aload_n 0, 1) := by decide +kernel
theorem dX1_length_1 : decode cX1_length 1 = .ok (.getfield 13, 3) := by decide +kernel
theorem dX1_length_4 : decode cX1_length 4 = .ok (.iload_n 1, 1) := by decide +kernel
theorem dX1_length_5 : decode cX1_length 5 = .ok (.iaload, 1) := by decide +kernel
theorem dX1_length_6 : decode cX1_length 6 = .ok (.ireturn, 1) := by decide +kernel
theorem dX1_number_0 : decode cX1_number 0 = .ok (.aload_n 0, 1) := by decide +kernel
theorem dX1_number_1 : decode cX1_number 1 = .ok (.getfield 16, 3) := by decide +kernel
theorem dX1_number_4 : decode cX1_number 4 = .ok (.iload_n 1, 1) := by decide +kernel
theorem dX1_number_5 : decode cX1_number 5 = .ok (.bipush 40, 2) := by decide +kernel
theorem dX1_number_7 : decode cX1_number 7 = .ok (.imul, 1) := by decide +kernel
theorem dX1_number_8 : decode cX1_number 8 = .ok (.iload_n 2, 1) := by decide +kernel
theorem dX1_number_9 : decode cX1_number 9 = .ok (.iadd, 1) := by decide +kernel
theorem dX1_number_10 : decode cX1_number 10 = .ok (.iaload, 1) := by decide +kernel
theorem dX1_number_11 : decode cX1_number 11 = .ok (.ireturn, 1) := by decide +kernel
theorem dX1_put_0 : decode cX1_put 0 = .ok (.aload_n 0, 1) := by decide +kernel
theorem dX1_put_1 : decode cX1_put 1 = .ok (.getfield 16, 3) := by decide +kernel
theorem dX1_put_4 : decode cX1_put 4 = .ok (.iload_n 1, 1) := by decide +kernel
theorem dX1_put_5 : decode cX1_put 5 = .ok (.bipush 40, 2) := by decide +kernel
theorem dX1_put_7 : decode cX1_put 7 = .ok (.imul, 1) := by decide +kernel
theorem dX1_put_8 : decode cX1_put 8 = .ok (.iload_n 2, 1) := by decide +kernel
theorem dX1_put_9 : decode cX1_put 9 = .ok (.iadd, 1) := by decide +kernel
theorem dX1_put_10 : decode cX1_put 10 = .ok (.aload_n 0, 1) := by decide +kernel
theorem dX1_put_11 : decode cX1_put 11 = .ok (.getfield 9, 3) := by decide +kernel
theorem dX1_put_14 : decode cX1_put 14 = .ok (.iload_n 1, 1) := by decide +kernel
theorem dX1_put_15 : decode cX1_put 15 = .ok (.iaload, 1) := by decide +kernel
theorem dX1_put_16 : decode cX1_put 16 = .ok (.iload_n 3, 1) := by decide +kernel
theorem dX1_put_17 : decode cX1_put 17 = .ok (.invokestatic 25, 3) := by decide +kernel
theorem dX1_put_20 : decode cX1_put 20 = .ok (.iastore, 1) := by decide +kernel
theorem dX1_put_21 : decode cX1_put 21 = .ok (.return_, 1) := by decide +kernel
theorem dX1_lowest_0 : decode cX1_lowest 0 = .ok (.iload_n 0, 1) := by decide +kernel
theorem dX1_lowest_1 : decode cX1_lowest 1 = .ok (.lookupswitch 33 #[(8, 27), (16, 30)], 27) := by decide +kernel
theorem dX1_lowest_28 : decode cX1_lowest 28 = .ok (.iload_n 1, 1) := by decide +kernel
theorem dX1_lowest_29 : decode cX1_lowest 29 = .ok (.i2b, 1) := by decide +kernel
theorem dX1_lowest_30 : decode cX1_lowest 30 = .ok (.ireturn, 1) := by decide +kernel
theorem dX1_lowest_31 : decode cX1_lowest 31 = .ok (.iload_n 1, 1) := by decide +kernel
theorem dX1_lowest_32 : decode cX1_lowest 32 = .ok (.i2s, 1) := by decide +kernel
theorem dX1_lowest_33 : decode cX1_lowest 33 = .ok (.ireturn, 1) := by decide +kernel
theorem dX1_lowest_34 : decode cX1_lowest 34 = .ok (.iload_n 1, 1) := by decide +kernel
theorem dX1_lowest_35 : decode cX1_lowest 35 = .ok (.ireturn, 1) := by decide +kernel
theorem dX1_hasPart_0 : decode cX1_hasPart 0 = .ok (.iload_n 2, 1) := by decide +kernel
theorem dX1_hasPart_1 : decode cX1_hasPart 1 = .ok (.ifCond .lt 23, 3) := by decide +kernel
theorem dX1_hasPart_4 : decode cX1_hasPart 4 = .ok (.iload_n 3, 1) := by decide +kernel
theorem dX1_hasPart_5 : decode cX1_hasPart 5 = .ok (.ifCond .lt 19, 3) := by decide +kernel
theorem dX1_hasPart_8 : decode cX1_hasPart 8 = .ok (.iload_n 2, 1) := by decide +kernel
theorem dX1_hasPart_9 : decode cX1_hasPart 9 = .ok (.aload_n 0, 1) := by decide +kernel
theorem dX1_hasPart_10 : decode cX1_hasPart 10 = .ok (.getfield 13, 3) := by decide +kernel
theorem dX1_hasPart_13 : decode cX1_hasPart 13 = .ok (.iload_n 1, 1) := by decide +kernel
theorem dX1_hasPart_14 : decode cX1_hasPart 14 = .ok (.iaload, 1) := by decide +kernel
theorem dX1_hasPart_15 : decode cX1_hasPart 15 = .ok (.iload_n 3, 1) := by decide +kernel
theorem dX1_hasPart_16 : decode cX1_hasPart 16 = .ok (.isub, 1) := by decide +kernel
theorem dX1_hasPart_17 : decode cX1_hasPart 17 = .ok (.if_icmp .gt 7, 3) := by decide +kernel
theorem dX1_hasPart_20 : decode cX1_hasPart 20 = .ok (.iconst 1, 1) := by decide +kernel
theorem dX1_hasPart_21 : decode cX1_hasPart 21 = .ok (.goto 4, 3) := by decide +kernel
theorem dX1_hasPart_24 : decode cX1_hasPart 24 = .ok (.iconst 0, 1) := by decide +kernel
theorem dX1_hasPart_25 : decode cX1_hasPart 25 = .ok (.ireturn, 1) := by decide +kernel
theorem dX1_move_0 : decode cX1_move 0 = .ok (.aload_n 0, 1) := by decide +kernel
theorem dX1_move_1 : decode cX1_move 1 = .ok (.getfield 16, 3) := by decide +kernel
theorem dX1_move_4 : decode cX1_move 4 = .ok (.iload_n 1, 1) := by decide +kernel
theorem dX1_move_5 : decode cX1_move 5 = .ok (.bipush 40, 2) := by decide +kernel
theorem dX1_move_7 : decode cX1_move 7 = .ok (.imul, 1) := by decide +kernel
theorem dX1_move_8 : decode cX1_move 8 = .ok (.iload_n 2, 1) := by decide +kernel
theorem dX1_move_9 : decode cX1_move 9 = .ok (.iadd, 1) := by decide +kernel
theorem dX1_move_10 : decode cX1_move 10 = .ok (.aload_n 0, 1) := by decide +kernel
theorem dX1_move_11 : decode cX1_move 11 = .ok (.getfield 16, 3) := by decide +kernel
theorem dX1_move_14 : decode cX1_move 14 = .ok (.iload_n 3, 1) := by decide +kernel
theorem dX1_move_15 : decode cX1_move 15 = .ok (.bipush 40, 2) := by decide +kernel
theorem dX1_move_17 : decode cX1_move 17 = .ok (.imul, 1) := by decide +kernel
theorem dX1_move_18 : decode cX1_move 18 = .ok (.iload 4, 2) := by decide +kernel
theorem dX1_move_20 : decode cX1_move 20 = .ok (.iadd, 1) := by decide +kernel
theorem dX1_move_21 : decode cX1_move 21 = .ok (.iload 5, 2) := by decide +kernel
theorem dX1_move_23 : decode cX1_move 23 = .ok (.invokestatic 29, 3) := by decide +kernel
theorem dX1_move_26 : decode cX1_move 26 = .ok (.return_, 1) := by decide +kernel
theorem dX2_init_0 : decode cX2_init 0 = .ok (.aload_n 0, 1) := by decide +kernel
theorem dX2_init_1 : decode cX2_init 1 = .ok (.invokespecial 1, 3) := by decide +kernel
theorem dX2_init_4 : decode cX2_init 4 = .ok (.aload_n 0, 1) := by decide +kernel
theorem dX2_init_5 : decode cX2_init 5 = .ok (.bipush 120, 2) := by decide +kernel
theorem dX2_init_7 : decode cX2_init 7 = .ok (.newarray .int, 2) := by decide +kernel
theorem dX2_init_9 : decode cX2_init 9 = .ok (.putfield 9, 3) := by decide +kernel
theorem dX2_init_12 : decode cX2_init 12 = .ok (.return_, 1) := by decide +kernel
theorem dX2_length_0 : decode cX2_length 0 = .ok (.aload_n 0, 1) := by decide +kernel
theorem dX2_length_1 : decode cX2_length 1 = .ok (.getfield 13, 3) := by decide +kernel
theorem dX2_length_4 : decode cX2_length 4 = .ok (.ireturn, 1) := by decide +kernel
theorem dX2_room_0 : decode cX2_room 0 = .ok (.bipush 120, 2) := by decide +kernel
theorem dX2_room_2 : decode cX2_room 2 = .ok (.aload_n 0, 1) := by decide +kernel
theorem dX2_room_3 : decode cX2_room 3 = .ok (.getfield 13, 3) := by decide +kernel
theorem dX2_room_6 : decode cX2_room 6 = .ok (.isub, 1) := by decide +kernel
theorem dX2_room_7 : decode cX2_room 7 = .ok (.ireturn, 1) := by decide +kernel
theorem dX2_empty_0 : decode cX2_empty 0 = .ok (.aload_n 0, 1) := by decide +kernel
theorem dX2_empty_1 : decode cX2_empty 1 = .ok (.getfield 13, 3) := by decide +kernel
theorem dX2_empty_4 : decode cX2_empty 4 = .ok (.istore_n 1, 1) := by decide +kernel
theorem dX2_empty_5 : decode cX2_empty 5 = .ok (.aload_n 0, 1) := by decide +kernel
theorem dX2_empty_6 : decode cX2_empty 6 = .ok (.iconst 0, 1) := by decide +kernel
theorem dX2_empty_7 : decode cX2_empty 7 = .ok (.putfield 13, 3) := by decide +kernel
theorem dX2_empty_10 : decode cX2_empty 10 = .ok (.iload_n 1, 1) := by decide +kernel
theorem dX2_empty_11 : decode cX2_empty 11 = .ok (.ireturn, 1) := by decide +kernel
theorem dX2_add_0 : decode cX2_add 0 = .ok (.aload_n 0, 1) := by decide +kernel
theorem dX2_add_1 : decode cX2_add 1 = .ok (.getfield 13, 3) := by decide +kernel
theorem dX2_add_4 : decode cX2_add 4 = .ok (.bipush 120, 2) := by decide +kernel
theorem dX2_add_6 : decode cX2_add 6 = .ok (.if_icmp .ge 23, 3) := by decide +kernel
theorem dX2_add_9 : decode cX2_add 9 = .ok (.aload_n 0, 1) := by decide +kernel
theorem dX2_add_10 : decode cX2_add 10 = .ok (.getfield 9, 3) := by decide +kernel
theorem dX2_add_13 : decode cX2_add 13 = .ok (.aload_n 0, 1) := by decide +kernel
theorem dX2_add_14 : decode cX2_add 14 = .ok (.getfield 13, 3) := by decide +kernel
theorem dX2_add_17 : decode cX2_add 17 = .ok (.iload_n 1, 1) := by decide +kernel
theorem dX2_add_18 : decode cX2_add 18 = .ok (.iastore, 1) := by decide +kernel
theorem dX2_add_19 : decode cX2_add 19 = .ok (.aload_n 0, 1) := by decide +kernel
theorem dX2_add_20 : decode cX2_add 20 = .ok (.dup, 1) := by decide +kernel
theorem dX2_add_21 : decode cX2_add 21 = .ok (.getfield 13, 3) := by decide +kernel
theorem dX2_add_24 : decode cX2_add 24 = .ok (.iconst 1, 1) := by decide +kernel
theorem dX2_add_25 : decode cX2_add 25 = .ok (.iadd, 1) := by decide +kernel
theorem dX2_add_26 : decode cX2_add 26 = .ok (.putfield 13, 3) := by decide +kernel
theorem dX2_add_29 : decode cX2_add 29 = .ok (.return_, 1) := by decide +kernel
theorem dX2_readText_0 : decode cX2_readText 0 = .ok (.aload_n 0, 1) := by decide +kernel
theorem dX2_readText_1 : decode cX2_readText 1 = .ok (.iconst 0, 1) := by decide +kernel
theorem dX2_readText_2 : decode cX2_readText 2 = .ok (.putfield 17, 3) := by decide +kernel
theorem dX2_readText_5 : decode cX2_readText 5 = .ok (.aload_n 0, 1) := by decide +kernel
theorem dX2_readText_6 : decode cX2_readText 6 = .ok (.invokevirtual 20, 3) := by decide +kernel
theorem dX2_readText_9 : decode cX2_readText 9 = .ok (.iconst 0, 1) := by decide +kernel
theorem dX2_readText_10 : decode cX2_readText 10 = .ok (.istore_n 2, 1) := by decide +kernel
theorem dX2_readText_11 : decode cX2_readText 11 = .ok (.iload_n 2, 1) := by decide +kernel
theorem dX2_readText_12 : decode cX2_readText 12 = .ok (.bipush 120, 2) := by decide +kernel
theorem dX2_readText_14 : decode cX2_readText 14 = .ok (.if_icmp .ge 41, 3) := by decide +kernel
theorem dX2_readText_17 : decode cX2_readText 17 = .ok (.aload_n 0, 1) := by decide +kernel
theorem dX2_readText_18 : decode cX2_readText 18 = .ok (.aload_n 1, 1) := by decide +kernel
theorem dX2_readText_19 : decode cX2_readText 19 = .ok (.invokevirtual 23, 3) := by decide +kernel
theorem dX2_readText_22 : decode cX2_readText 22 = .ok (.ifCond .eq 33, 3) := by decide +kernel
theorem dX2_readText_25 : decode cX2_readText 25 = .ok (.iinc 2 1, 3) := by decide +kernel
theorem dX2_readText_28 : decode cX2_readText 28 = .ok (.aload_n 0, 1) := by decide +kernel
theorem dX2_readText_29 : decode cX2_readText 29 = .ok (.getfield 27, 3) := by decide +kernel
theorem dX2_readText_32 : decode cX2_readText 32 = .ok (.ifCond .ne 5, 3) := by decide +kernel
theorem dX2_readText_35 : decode cX2_readText 35 = .ok (.iload_n 2, 1) := by decide +kernel
theorem dX2_readText_36 : decode cX2_readText 36 = .ok (.ireturn, 1) := by decide +kernel
theorem dX2_readText_37 : decode cX2_readText 37 = .ok (.aload_n 0, 1) := by decide +kernel
theorem dX2_readText_38 : decode cX2_readText 38 = .ok (.getfield 27, 3) := by decide +kernel
theorem dX2_readText_41 : decode cX2_readText 41 = .ok (.iconst 3, 1) := by decide +kernel
theorem dX2_readText_42 : decode cX2_readText 42 = .ok (.if_icmp .eq 6, 3) := by decide +kernel
theorem dX2_readText_45 : decode cX2_readText 45 = .ok (.goto 10, 3) := by decide +kernel
theorem dX2_readText_48 : decode cX2_readText 48 = .ok (.aload_n 0, 1) := by decide +kernel
theorem dX2_readText_49 : decode cX2_readText 49 = .ok (.invokevirtual 20, 3) := by decide +kernel
theorem dX2_readText_52 : decode cX2_readText 52 = .ok (.goto (-41), 3) := by decide +kernel
theorem dX2_readText_55 : decode cX2_readText 55 = .ok (.iconst (-1), 1) := by decide +kernel
theorem dX2_readText_56 : decode cX2_readText 56 = .ok (.aload_n 0, 1) := by decide +kernel
theorem dX2_readText_57 : decode cX2_readText 57 = .ok (.getfield 30, 3) := by decide +kernel
theorem dX2_readText_60 : decode cX2_readText 60 = .ok (.isub, 1) := by decide +kernel
theorem dX2_readText_61 : decode cX2_readText 61 = .ok (.ireturn, 1) := by decide +kernel
theorem dX2_readItem_0 : decode cX2_readItem 0 = .ok (.aload_n 0, 1) := by decide +kernel
theorem dX2_readItem_1 : decode cX2_readItem 1 = .ok (.invokevirtual 33, 3) := by decide +kernel
theorem dX2_readItem_4 : decode cX2_readItem 4 = .ok (.istore_n 2, 1) := by decide +kernel
theorem dX2_readItem_5 : decode cX2_readItem 5 = .ok (.iload_n 2, 1) := by decide +kernel
theorem dX2_readItem_6 : decode cX2_readItem 6 = .ok (.iconst (-1), 1) := by decide +kernel
theorem dX2_readItem_7 : decode cX2_readItem 7 = .ok (.if_icmp .eq 10, 3) := by decide +kernel
theorem dX2_readItem_10 : decode cX2_readItem 10 = .ok (.aload_n 0, 1) := by decide +kernel
theorem dX2_readItem_11 : decode cX2_readItem 11 = .ok (.iload_n 2, 1) := by decide +kernel
theorem dX2_readItem_12 : decode cX2_readItem 12 = .ok (.aload_n 1, 1) := by decide +kernel
theorem dX2_readItem_13 : decode cX2_readItem 13 = .ok (.invokevirtual 39, 3) := by decide +kernel
theorem dX2_readItem_16 : decode cX2_readItem 16 = .ok (.ireturn, 1) := by decide +kernel
theorem dX2_readItem_17 : decode cX2_readItem 17 = .ok (.aload_n 0, 1) := by decide +kernel
theorem dX2_readItem_18 : decode cX2_readItem 18 = .ok (.ldc 43, 2) := by decide +kernel
theorem dX2_readItem_20 : decode cX2_readItem 20 = .ok (.invokevirtual 45, 3) := by decide +kernel
theorem dX2_readItem_23 : decode cX2_readItem 23 = .ok (.ifCond .eq 9, 3) := by decide +kernel
theorem dX2_readItem_26 : decode cX2_readItem 26 = .ok (.aload_n 0, 1) := by decide +kernel
theorem dX2_readItem_27 : decode cX2_readItem 27 = .ok (.aload_n 1, 1) := by decide +kernel
theorem dX2_readItem_28 : decode cX2_readItem 28 = .ok (.invokevirtual 49, 3) := by decide +kernel
theorem dX2_readItem_31 : decode cX2_readItem 31 = .ok (.ireturn, 1) := by decide +kernel
theorem dX2_readItem_32 : decode cX2_readItem 32 = .ok (.aload_n 0, 1) := by decide +kernel
theorem dX2_readItem_33 : decode cX2_readItem 33 = .ok (.ldc 52, 2) := by decide +kernel
theorem dX2_readItem_35 : decode cX2_readItem 35 = .ok (.invokevirtual 45, 3) := by decide +kernel
theorem dX2_readItem_38 : decode cX2_readItem 38 = .ok (.ifCond .eq 15, 3) := by decide +kernel
theorem dX2_readItem_41 : decode cX2_readItem 41 = .ok (.aload_n 0, 1) := by decide +kernel
theorem dX2_readItem_42 : decode cX2_readItem 42 = .ok (.aload_n 1, 1) := by decide +kernel
theorem dX2_readItem_43 : decode cX2_readItem 43 = .ok (.invokevirtual 54, 3) := by decide +kernel
theorem dX2_readItem_46 : decode cX2_readItem 46 = .ok (.ifCond .eq 7, 3) := by decide +kernel
theorem dX2_readItem_49 : decode cX2_readItem 49 = .ok (.iconst 1, 1) := by decide +kernel
theorem dX2_readItem_50 : decode cX2_readItem 50 = .ok (.goto 4, 3) := by decide +kernel
theorem dX2_readItem_53 : decode cX2_readItem 53 = .ok (.iconst 0, 1) := by decide +kernel
theorem dX2_readItem_54 : decode cX2_readItem 54 = .ok (.ireturn, 1) := by decide +kernel
theorem dX2_kindOfWord_0 : decode cX2_kindOfWord 0 = .ok (.aload_n 0, 1) := by decide +kernel
theorem dX2_kindOfWord_1 : decode cX2_kindOfWord 1 = .ok (.ldc 57, 2) := by decide +kernel
theorem dX2_kindOfWord_3 : decode cX2_kindOfWord 3 = .ok (.invokevirtual 45, 3) := by decide +kernel
theorem dX2_kindOfWord_6 : decode cX2_kindOfWord 6 = .ok (.ifCond .eq 5, 3) := by decide +kernel
theorem dX2_kindOfWord_9 : decode cX2_kindOfWord 9 = .ok (.iconst 0, 1) := by decide +kernel
theorem dX2_kindOfWord_10 : decode cX2_kindOfWord 10 = .ok (.ireturn, 1) := by decide +kernel
theorem dX2_kindOfWord_11 : decode cX2_kindOfWord 11 = .ok (.aload_n 0, 1) := by decide +kernel
theorem dX2_kindOfWord_12 : decode cX2_kindOfWord 12 = .ok (.ldc 59, 2) := by decide +kernel
theorem dX2_kindOfWord_14 : decode cX2_kindOfWord 14 = .ok (.invokevirtual 45, 3) := by decide +kernel
theorem dX2_kindOfWord_17 : decode cX2_kindOfWord 17 = .ok (.ifCond .eq 5, 3) := by decide +kernel
theorem dX2_kindOfWord_20 : decode cX2_kindOfWord 20 = .ok (.iconst 1, 1) := by decide +kernel
theorem dX2_kindOfWord_21 : decode cX2_kindOfWord 21 = .ok (.ireturn, 1) := by decide +kernel
theorem dX2_kindOfWord_22 : decode cX2_kindOfWord 22 = .ok (.aload_n 0, 1) := by decide +kernel
theorem dX2_kindOfWord_23 : decode cX2_kindOfWord 23 = .ok (.ldc 61, 2) := by decide +kernel
theorem dX2_kindOfWord_25 : decode cX2_kindOfWord 25 = .ok (.invokevirtual 45, 3) := by decide +kernel
theorem dX2_kindOfWord_28 : decode cX2_kindOfWord 28 = .ok (.ifCond .eq 5, 3) := by decide +kernel
theorem dX2_kindOfWord_31 : decode cX2_kindOfWord 31 = .ok (.iconst 2, 1) := by decide +kernel
theorem dX2_kindOfWord_32 : decode cX2_kindOfWord 32 = .ok (.ireturn, 1) := by decide +kernel
theorem dX2_kindOfWord_33 : decode cX2_kindOfWord 33 = .ok (.aload_n 0, 1) := by decide +kernel
theorem dX2_kindOfWord_34 : decode cX2_kindOfWord 34 = .ok (.ldc 63, 2) := by decide +kernel
theorem dX2_kindOfWord_36 : decode cX2_kindOfWord 36 = .ok (.invokevirtual 45, 3) := by decide +kernel
theorem dX2_kindOfWord_39 : decode cX2_kindOfWord 39 = .ok (.ifCond .eq 5, 3) := by decide +kernel
theorem dX2_kindOfWord_42 : decode cX2_kindOfWord 42 = .ok (.iconst 3, 1) := by decide +kernel
theorem dX2_kindOfWord_43 : decode cX2_kindOfWord 43 = .ok (.ireturn, 1) := by decide +kernel
theorem dX2_kindOfWord_44 : decode cX2_kindOfWord 44 = .ok (.aload_n 0, 1) := by decide +kernel
theorem dX2_kindOfWord_45 : decode cX2_kindOfWord 45 = .ok (.ldc 65, 2) := by decide +kernel
theorem dX2_kindOfWord_47 : decode cX2_kindOfWord 47 = .ok (.invokevirtual 45, 3) := by decide +kernel
theorem dX2_kindOfWord_50 : decode cX2_kindOfWord 50 = .ok (.ifCond .eq 5, 3) := by decide +kernel
theorem dX2_kindOfWord_53 : decode cX2_kindOfWord 53 = .ok (.iconst 4, 1) := by decide +kernel
theorem dX2_kindOfWord_54 : decode cX2_kindOfWord 54 = .ok (.ireturn, 1) := by decide +kernel
theorem dX2_kindOfWord_55 : decode cX2_kindOfWord 55 = .ok (.aload_n 0, 1) := by decide +kernel
theorem dX2_kindOfWord_56 : decode cX2_kindOfWord 56 = .ok (.ldc 67, 2) := by decide +kernel
theorem dX2_kindOfWord_58 : decode cX2_kindOfWord 58 = .ok (.invokevirtual 45, 3) := by decide +kernel
theorem dX2_kindOfWord_61 : decode cX2_kindOfWord 61 = .ok (.ifCond .eq 5, 3) := by decide +kernel
theorem dX2_kindOfWord_64 : decode cX2_kindOfWord 64 = .ok (.iconst 5, 1) := by decide +kernel
theorem dX2_kindOfWord_65 : decode cX2_kindOfWord 65 = .ok (.ireturn, 1) := by decide +kernel
theorem dX2_kindOfWord_66 : decode cX2_kindOfWord 66 = .ok (.aload_n 0, 1) := by decide +kernel
theorem dX2_kindOfWord_67 : decode cX2_kindOfWord 67 = .ok (.ldc 69, 2) := by decide +kernel
theorem dX2_kindOfWord_69 : decode cX2_kindOfWord 69 = .ok (.invokevirtual 45, 3) := by decide +kernel
theorem dX2_kindOfWord_72 : decode cX2_kindOfWord 72 = .ok (.ifCond .eq 8, 3) := by decide +kernel
theorem dX2_kindOfWord_75 : decode cX2_kindOfWord 75 = .ok (.bipush 6, 2) := by decide +kernel
theorem dX2_kindOfWord_77 : decode cX2_kindOfWord 77 = .ok (.goto 4, 3) := by decide +kernel
theorem dX2_kindOfWord_80 : decode cX2_kindOfWord 80 = .ok (.iconst (-1), 1) := by decide +kernel
theorem dX2_kindOfWord_81 : decode cX2_kindOfWord 81 = .ok (.ireturn, 1) := by decide +kernel
theorem dX2_readOne_0 : decode cX2_readOne 0 = .ok (.aload_n 2, 1) := by decide +kernel
theorem dX2_readOne_1 : decode cX2_readOne 1 = .ok (.invokevirtual 71, 3) := by decide +kernel
theorem dX2_readOne_4 : decode cX2_readOne 4 = .ok (.ifCond .eq 5, 3) := by decide +kernel
theorem dX2_readOne_7 : decode cX2_readOne 7 = .ok (.iconst 0, 1) := by decide +kernel
theorem dX2_readOne_8 : decode cX2_readOne 8 = .ok (.ireturn, 1) := by decide +kernel
theorem dX2_readOne_9 : decode cX2_readOne 9 = .ok (.aload_n 0, 1) := by decide +kernel
theorem dX2_readOne_10 : decode cX2_readOne 10 = .ok (.invokevirtual 20, 3) := by decide +kernel
theorem dX2_readOne_13 : decode cX2_readOne 13 = .ok (.iconst 0, 1) := by decide +kernel
theorem dX2_readOne_14 : decode cX2_readOne 14 = .ok (.istore_n 3, 1) := by decide +kernel
theorem dX2_readOne_15 : decode cX2_readOne 15 = .ok (.iconst 0, 1) := by decide +kernel
theorem dX2_readOne_16 : decode cX2_readOne 16 = .ok (.istore 4, 2) := by decide +kernel
theorem dX2_readOne_18 : decode cX2_readOne 18 = .ok (.aload_n 0, 1) := by decide +kernel
theorem dX2_readOne_19 : decode cX2_readOne 19 = .ok (.ldc 77, 2) := by decide +kernel
theorem dX2_readOne_21 : decode cX2_readOne 21 = .ok (.invokevirtual 45, 3) := by decide +kernel
theorem dX2_readOne_24 : decode cX2_readOne 24 = .ok (.ifCond .eq 27, 3) := by decide +kernel
theorem dX2_readOne_27 : decode cX2_readOne 27 = .ok (.aload_n 0, 1) := by decide +kernel
theorem dX2_readOne_28 : decode cX2_readOne 28 = .ok (.invokevirtual 20, 3) := by decide +kernel
theorem dX2_readOne_31 : decode cX2_readOne 31 = .ok (.aload_n 0, 1) := by decide +kernel
theorem dX2_readOne_32 : decode cX2_readOne 32 = .ok (.bipush 16, 2) := by decide +kernel
theorem dX2_readOne_34 : decode cX2_readOne 34 = .ok (.invokevirtual 79, 3) := by decide +kernel
theorem dX2_readOne_37 : decode cX2_readOne 37 = .ok (.ifCond .ne 5, 3) := by decide +kernel
theorem dX2_readOne_40 : decode cX2_readOne 40 = .ok (.iconst 0, 1) := by decide +kernel
theorem dX2_readOne_41 : decode cX2_readOne 41 = .ok (.ireturn, 1) := by decide +kernel
theorem dX2_readOne_42 : decode cX2_readOne 42 = .ok (.aload_n 0, 1) := by decide +kernel
theorem dX2_readOne_43 : decode cX2_readOne 43 = .ok (.getfield 83, 3) := by decide +kernel
theorem dX2_readOne_46 : decode cX2_readOne 46 = .ok (.istore_n 3, 1) := by decide +kernel
theorem dX2_readOne_47 : decode cX2_readOne 47 = .ok (.aload_n 0, 1) := by decide +kernel
theorem dX2_readOne_48 : decode cX2_readOne 48 = .ok (.invokevirtual 20, 3) := by decide +kernel
theorem dX2_readOne_51 : decode cX2_readOne 51 = .ok (.aload_n 0, 1) := by decide +kernel
theorem dX2_readOne_52 : decode cX2_readOne 52 = .ok (.ldc 86, 2) := by decide +kernel
theorem dX2_readOne_54 : decode cX2_readOne 54 = .ok (.invokevirtual 45, 3) := by decide +kernel
theorem dX2_readOne_57 : decode cX2_readOne 57 = .ok (.ifCond .eq 28, 3) := by decide +kernel
theorem dX2_readOne_60 : decode cX2_readOne 60 = .ok (.aload_n 0, 1) := by decide +kernel
theorem dX2_readOne_61 : decode cX2_readOne 61 = .ok (.invokevirtual 20, 3) := by decide +kernel
theorem dX2_readOne_64 : decode cX2_readOne 64 = .ok (.aload_n 0, 1) := by decide +kernel
theorem dX2_readOne_65 : decode cX2_readOne 65 = .ok (.bipush 12, 2) := by decide +kernel
theorem dX2_readOne_67 : decode cX2_readOne 67 = .ok (.invokevirtual 79, 3) := by decide +kernel
theorem dX2_readOne_70 : decode cX2_readOne 70 = .ok (.ifCond .ne 5, 3) := by decide +kernel
theorem dX2_readOne_73 : decode cX2_readOne 73 = .ok (.iconst 0, 1) := by decide +kernel
theorem dX2_readOne_74 : decode cX2_readOne 74 = .ok (.ireturn, 1) := by decide +kernel
theorem dX2_readOne_75 : decode cX2_readOne 75 = .ok (.aload_n 0, 1) := by decide +kernel
theorem dX2_readOne_76 : decode cX2_readOne 76 = .ok (.getfield 83, 3) := by decide +kernel
theorem dX2_readOne_79 : decode cX2_readOne 79 = .ok (.istore 4, 2) := by decide +kernel
theorem dX2_readOne_81 : decode cX2_readOne 81 = .ok (.aload_n 0, 1) := by decide +kernel
theorem dX2_readOne_82 : decode cX2_readOne 82 = .ok (.invokevirtual 20, 3) := by decide +kernel
theorem dX2_readOne_85 : decode cX2_readOne 85 = .ok (.aload_n 2, 1) := by decide +kernel
theorem dX2_readOne_86 : decode cX2_readOne 86 = .ok (.iload_n 1, 1) := by decide +kernel
theorem dX2_readOne_87 : decode cX2_readOne 87 = .ok (.iload_n 3, 1) := by decide +kernel
theorem dX2_readOne_88 : decode cX2_readOne 88 = .ok (.invokevirtual 88, 3) := by decide +kernel
theorem dX2_readOne_91 : decode cX2_readOne 91 = .ok (.istore 5, 2) := by decide +kernel
theorem dX2_readOne_93 : decode cX2_readOne 93 = .ok (.aload_n 2, 1) := by decide +kernel
theorem dX2_readOne_94 : decode cX2_readOne 94 = .ok (.iload 5, 2) := by decide +kernel
theorem dX2_readOne_96 : decode cX2_readOne 96 = .ok (.iconst 2, 1) := by decide +kernel
theorem dX2_readOne_97 : decode cX2_readOne 97 = .ok (.iload 4, 2) := by decide +kernel
theorem dX2_readOne_99 : decode cX2_readOne 99 = .ok (.invokevirtual 92, 3) := by decide +kernel
theorem dX2_readOne_102 : decode cX2_readOne 102 = .ok (.aload_n 0, 1) := by decide +kernel
theorem dX2_readOne_103 : decode cX2_readOne 103 = .ok (.ldc 96, 2) := by decide +kernel
theorem dX2_readOne_105 : decode cX2_readOne 105 = .ok (.invokevirtual 45, 3) := by decide +kernel
theorem dX2_readOne_108 : decode cX2_readOne 108 = .ok (.ifCond .eq 15, 3) := by decide +kernel
theorem dX2_readOne_111 : decode cX2_readOne 111 = .ok (.aload_n 2, 1) := by decide +kernel
theorem dX2_readOne_112 : decode cX2_readOne 112 = .ok (.iload 5, 2) := by decide +kernel
theorem dX2_readOne_114 : decode cX2_readOne 114 = .ok (.iconst 5, 1) := by decide +kernel
theorem dX2_readOne_115 : decode cX2_readOne 115 = .ok (.iconst 1, 1) := by decide +kernel
theorem dX2_readOne_116 : decode cX2_readOne 116 = .ok (.invokevirtual 92, 3) := by decide +kernel
theorem dX2_readOne_119 : decode cX2_readOne 119 = .ok (.aload_n 0, 1) := by decide +kernel
theorem dX2_readOne_120 : decode cX2_readOne 120 = .ok (.invokevirtual 20, 3) := by decide +kernel
theorem dX2_readOne_123 : decode cX2_readOne 123 = .ok (.iconst 1, 1) := by decide +kernel
theorem dX2_readOne_124 : decode cX2_readOne 124 = .ok (.ireturn, 1) := by decide +kernel
theorem dX2_readMet_0 : decode cX2_readMet 0 = .ok (.aload_n 0, 1) := by decide +kernel
theorem dX2_readMet_1 : decode cX2_readMet 1 = .ok (.invokevirtual 20, 3) := by decide +kernel
theorem dX2_readMet_4 : decode cX2_readMet 4 = .ok (.aload_n 0, 1) := by decide +kernel
theorem dX2_readMet_5 : decode cX2_readMet 5 = .ok (.aload_n 1, 1) := by decide +kernel
theorem dX2_readMet_6 : decode cX2_readMet 6 = .ok (.getfield 98, 3) := by decide +kernel
theorem dX2_readMet_9 : decode cX2_readMet 9 = .ok (.invokevirtual 79, 3) := by decide +kernel
theorem dX2_readMet_12 : decode cX2_readMet 12 = .ok (.ifCond .ne 5, 3) := by decide +kernel
theorem dX2_readMet_15 : decode cX2_readMet 15 = .ok (.iconst 0, 1) := by decide +kernel
theorem dX2_readMet_16 : decode cX2_readMet 16 = .ok (.ireturn, 1) := by decide +kernel
theorem dX2_readMet_17 : decode cX2_readMet 17 = .ok (.aload_n 0, 1) := by decide +kernel
theorem dX2_readMet_18 : decode cX2_readMet 18 = .ok (.getfield 83, 3) := by decide +kernel
theorem dX2_readMet_21 : decode cX2_readMet 21 = .ok (.istore_n 2, 1) := by decide +kernel
theorem dX2_readMet_22 : decode cX2_readMet 22 = .ok (.aload_n 0, 1) := by decide +kernel
theorem dX2_readMet_23 : decode cX2_readMet 23 = .ok (.invokevirtual 20, 3) := by decide +kernel
theorem dX2_readMet_26 : decode cX2_readMet 26 = .ok (.aload_n 0, 1) := by decide +kernel
theorem dX2_readMet_27 : decode cX2_readMet 27 = .ok (.aload_n 1, 1) := by decide +kernel
theorem dX2_readMet_28 : decode cX2_readMet 28 = .ok (.getfield 98, 3) := by decide +kernel
theorem dX2_readMet_31 : decode cX2_readMet 31 = .ok (.invokevirtual 79, 3) := by decide +kernel
theorem dX2_readMet_34 : decode cX2_readMet 34 = .ok (.ifCond .eq 11, 3) := by decide +kernel
theorem dX2_readMet_37 : decode cX2_readMet 37 = .ok (.aload_n 0, 1) := by decide +kernel
theorem dX2_readMet_38 : decode cX2_readMet 38 = .ok (.getfield 83, 3) := by decide +kernel
theorem dX2_readMet_41 : decode cX2_readMet 41 = .ok (.iload_n 2, 1) := by decide +kernel
theorem dX2_readMet_42 : decode cX2_readMet 42 = .ok (.if_icmp .ne 5, 3) := by decide +kernel
theorem dX2_readMet_45 : decode cX2_readMet 45 = .ok (.iconst 0, 1) := by decide +kernel
theorem dX2_readMet_46 : decode cX2_readMet 46 = .ok (.ireturn, 1) := by decide +kernel
theorem dX2_readMet_47 : decode cX2_readMet 47 = .ok (.aload_n 1, 1) := by decide +kernel
theorem dX2_readMet_48 : decode cX2_readMet 48 = .ok (.iload_n 2, 1) := by decide +kernel
theorem dX2_readMet_49 : decode cX2_readMet 49 = .ok (.aload_n 0, 1) := by decide +kernel
theorem dX2_readMet_50 : decode cX2_readMet 50 = .ok (.getfield 83, 3) := by decide +kernel
theorem dX2_readMet_53 : decode cX2_readMet 53 = .ok (.invokevirtual 101, 3) := by decide +kernel
theorem dX2_readMet_56 : decode cX2_readMet 56 = .ok (.aload_n 0, 1) := by decide +kernel
theorem dX2_readMet_57 : decode cX2_readMet 57 = .ok (.invokevirtual 20, 3) := by decide +kernel
theorem dX2_readMet_60 : decode cX2_readMet 60 = .ok (.iconst 1, 1) := by decide +kernel
theorem dX2_readMet_61 : decode cX2_readMet 61 = .ok (.ireturn, 1) := by decide +kernel
theorem dX2_readBell_0 : decode cX2_readBell 0 = .ok (.aload_n 0, 1) := by decide +kernel
theorem dX2_readBell_1 : decode cX2_readBell 1 = .ok (.invokevirtual 20, 3) := by decide +kernel
theorem dX2_readBell_4 : decode cX2_readBell 4 = .ok (.aload_n 0, 1) := by decide +kernel
theorem dX2_readBell_5 : decode cX2_readBell 5 = .ok (.bipush 12, 2) := by decide +kernel
theorem dX2_readBell_7 : decode cX2_readBell 7 = .ok (.invokevirtual 79, 3) := by decide +kernel
theorem dX2_readBell_10 : decode cX2_readBell 10 = .ok (.ifCond .ne 5, 3) := by decide +kernel
theorem dX2_readBell_13 : decode cX2_readBell 13 = .ok (.iconst 0, 1) := by decide +kernel
theorem dX2_readBell_14 : decode cX2_readBell 14 = .ok (.ireturn, 1) := by decide +kernel
theorem dX2_readBell_15 : decode cX2_readBell 15 = .ok (.aload_n 1, 1) := by decide +kernel
theorem dX2_readBell_16 : decode cX2_readBell 16 = .ok (.aload_n 0, 1) := by decide +kernel
theorem dX2_readBell_17 : decode cX2_readBell 17 = .ok (.getfield 83, 3) := by decide +kernel
theorem dX2_readBell_20 : decode cX2_readBell 20 = .ok (.invokevirtual 105, 3) := by decide +kernel
theorem dX2_readBell_23 : decode cX2_readBell 23 = .ok (.aload_n 0, 1) := by decide +kernel
theorem dX2_readBell_24 : decode cX2_readBell 24 = .ok (.invokevirtual 20, 3) := by decide +kernel
theorem dX2_readBell_27 : decode cX2_readBell 27 = .ok (.iconst 1, 1) := by decide +kernel
theorem dX2_readBell_28 : decode cX2_readBell 28 = .ok (.ireturn, 1) := by decide +kernel
theorem dX2_isNumberBelow_0 : decode cX2_isNumberBelow 0 = .ok (.aload_n 0, 1) := by decide +kernel
theorem dX2_isNumberBelow_1 : decode cX2_isNumberBelow 1 = .ok (.getfield 27, 3) := by decide +kernel
theorem dX2_isNumberBelow_4 : decode cX2_isNumberBelow 4 = .ok (.iconst 2, 1) := by decide +kernel
theorem dX2_isNumberBelow_5 : decode cX2_isNumberBelow 5 = .ok (.if_icmp .ne 15, 3) := by decide +kernel
theorem dX2_isNumberBelow_8 : decode cX2_isNumberBelow 8 = .ok (.aload_n 0, 1) := by decide +kernel
theorem dX2_isNumberBelow_9 : decode cX2_isNumberBelow 9 = .ok (.getfield 83, 3) := by decide +kernel
theorem dX2_isNumberBelow_12 : decode cX2_isNumberBelow 12 = .ok (.iload_n 1, 1) := by decide +kernel
theorem dX2_isNumberBelow_13 : decode cX2_isNumberBelow 13 = .ok (.if_icmp .ge 7, 3) := by decide +kernel
theorem dX2_isNumberBelow_16 : decode cX2_isNumberBelow 16 = .ok (.iconst 1, 1) := by decide +kernel
theorem dX2_isNumberBelow_17 : decode cX2_isNumberBelow 17 = .ok (.goto 4, 3) := by decide +kernel
theorem dX2_isNumberBelow_20 : decode cX2_isNumberBelow 20 = .ok (.iconst 0, 1) := by decide +kernel
theorem dX2_isNumberBelow_21 : decode cX2_isNumberBelow 21 = .ok (.ireturn, 1) := by decide +kernel
theorem dX2_isWord_0 : decode cX2_isWord 0 = .ok (.aload_n 0, 1) := by decide +kernel
theorem dX2_isWord_1 : decode cX2_isWord 1 = .ok (.getfield 27, 3) := by decide +kernel
theorem dX2_isWord_4 : decode cX2_isWord 4 = .ok (.iconst 1, 1) := by decide +kernel
theorem dX2_isWord_5 : decode cX2_isWord 5 = .ok (.if_icmp .ne 19, 3) := by decide +kernel
theorem dX2_isWord_8 : decode cX2_isWord 8 = .ok (.aload_n 0, 1) := by decide +kernel
theorem dX2_isWord_9 : decode cX2_isWord 9 = .ok (.getfield 17, 3) := by decide +kernel
theorem dX2_isWord_12 : decode cX2_isWord 12 = .ok (.aload_n 0, 1) := by decide +kernel
theorem dX2_isWord_13 : decode cX2_isWord 13 = .ok (.getfield 30, 3) := by decide +kernel
theorem dX2_isWord_16 : decode cX2_isWord 16 = .ok (.isub, 1) := by decide +kernel
theorem dX2_isWord_17 : decode cX2_isWord 17 = .ok (.aload_n 1, 1) := by decide +kernel
theorem dX2_isWord_18 : decode cX2_isWord 18 = .ok (.invokevirtual 109, 3) := by decide +kernel
theorem dX2_isWord_21 : decode cX2_isWord 21 = .ok (.if_icmp .eq 5, 3) := by decide +kernel
theorem dX2_isWord_24 : decode cX2_isWord 24 = .ok (.iconst 0, 1) := by decide +kernel
theorem dX2_isWord_25 : decode cX2_isWord 25 = .ok (.ireturn, 1) := by decide +kernel
theorem dX2_isWord_26 : decode cX2_isWord 26 = .ok (.iconst 0, 1) := by decide +kernel
theorem dX2_isWord_27 : decode cX2_isWord 27 = .ok (.istore_n 2, 1) := by decide +kernel
theorem dX2_isWord_28 : decode cX2_isWord 28 = .ok (.iload_n 2, 1) := by decide +kernel
theorem dX2_isWord_29 : decode cX2_isWord 29 = .ok (.aload_n 1, 1) := by decide +kernel
theorem dX2_isWord_30 : decode cX2_isWord 30 = .ok (.invokevirtual 109, 3) := by decide +kernel
theorem dX2_isWord_33 : decode cX2_isWord 33 = .ok (.if_icmp .ge 30, 3) := by decide +kernel
theorem dX2_isWord_36 : decode cX2_isWord 36 = .ok (.aload_n 0, 1) := by decide +kernel
theorem dX2_isWord_37 : decode cX2_isWord 37 = .ok (.getfield 9, 3) := by decide +kernel
theorem dX2_isWord_40 : decode cX2_isWord 40 = .ok (.aload_n 0, 1) := by decide +kernel
theorem dX2_isWord_41 : decode cX2_isWord 41 = .ok (.getfield 30, 3) := by decide +kernel
theorem dX2_isWord_44 : decode cX2_isWord 44 = .ok (.iload_n 2, 1) := by decide +kernel
theorem dX2_isWord_45 : decode cX2_isWord 45 = .ok (.iadd, 1) := by decide +kernel
theorem dX2_isWord_46 : decode cX2_isWord 46 = .ok (.iaload, 1) := by decide +kernel
theorem dX2_isWord_47 : decode cX2_isWord 47 = .ok (.aload_n 1, 1) := by decide +kernel
theorem dX2_isWord_48 : decode cX2_isWord 48 = .ok (.iload_n 2, 1) := by decide +kernel
theorem dX2_isWord_49 : decode cX2_isWord 49 = .ok (.invokevirtual 113, 3) := by decide +kernel
theorem dX2_isWord_52 : decode cX2_isWord 52 = .ok (.if_icmp .eq 5, 3) := by decide +kernel
theorem dX2_isWord_55 : decode cX2_isWord 55 = .ok (.iconst 0, 1) := by decide +kernel
theorem dX2_isWord_56 : decode cX2_isWord 56 = .ok (.ireturn, 1) := by decide +kernel
theorem dX2_isWord_57 : decode cX2_isWord 57 = .ok (.iinc 2 1, 3) := by decide +kernel
theorem dX2_isWord_60 : decode cX2_isWord 60 = .ok (.goto (-32), 3) := by decide +kernel
theorem dX2_isWord_63 : decode cX2_isWord 63 = .ok (.iconst 1, 1) := by decide +kernel
theorem dX2_isWord_64 : decode cX2_isWord 64 = .ok (.ireturn, 1) := by decide +kernel
theorem dX2_nextToken_0 : decode cX2_nextToken 0 = .ok (.aload_n 0, 1) := by decide +kernel
theorem dX2_nextToken_1 : decode cX2_nextToken 1 = .ok (.aload_n 0, 1) := by decide +kernel
theorem dX2_nextToken_2 : decode cX2_nextToken 2 = .ok (.getfield 17, 3) := by decide +kernel
theorem dX2_nextToken_5 : decode cX2_nextToken 5 = .ok (.putfield 30, 3) := by decide +kernel
theorem dX2_nextToken_8 : decode cX2_nextToken 8 = .ok (.aload_n 0, 1) := by decide +kernel
theorem dX2_nextToken_9 : decode cX2_nextToken 9 = .ok (.getfield 30, 3) := by decide +kernel
theorem dX2_nextToken_12 : decode cX2_nextToken 12 = .ok (.aload_n 0, 1) := by decide +kernel
theorem dX2_nextToken_13 : decode cX2_nextToken 13 = .ok (.getfield 13, 3) := by decide +kernel
theorem dX2_nextToken_16 : decode cX2_nextToken 16 = .ok (.if_icmp .ge 30, 3) := by decide +kernel
theorem dX2_nextToken_19 : decode cX2_nextToken 19 = .ok (.aload_n 0, 1) := by decide +kernel
theorem dX2_nextToken_20 : decode cX2_nextToken 20 = .ok (.getfield 9, 3) := by decide +kernel
theorem dX2_nextToken_23 : decode cX2_nextToken 23 = .ok (.aload_n 0, 1) := by decide +kernel
theorem dX2_nextToken_24 : decode cX2_nextToken 24 = .ok (.getfield 30, 3) := by decide +kernel
theorem dX2_nextToken_27 : decode cX2_nextToken 27 = .ok (.iaload, 1) := by decide +kernel
theorem dX2_nextToken_28 : decode cX2_nextToken 28 = .ok (.bipush 32, 2) := by decide +kernel
theorem dX2_nextToken_30 : decode cX2_nextToken 30 = .ok (.if_icmp .ne 16, 3) := by decide +kernel
theorem dX2_nextToken_33 : decode cX2_nextToken 33 = .ok (.aload_n 0, 1) := by decide +kernel
theorem dX2_nextToken_34 : decode cX2_nextToken 34 = .ok (.dup, 1) := by decide +kernel
theorem dX2_nextToken_35 : decode cX2_nextToken 35 = .ok (.getfield 30, 3) := by decide +kernel
theorem dX2_nextToken_38 : decode cX2_nextToken 38 = .ok (.iconst 1, 1) := by decide +kernel
theorem dX2_nextToken_39 : decode cX2_nextToken 39 = .ok (.iadd, 1) := by decide +kernel
theorem dX2_nextToken_40 : decode cX2_nextToken 40 = .ok (.putfield 30, 3) := by decide +kernel
theorem dX2_nextToken_43 : decode cX2_nextToken 43 = .ok (.goto (-35), 3) := by decide +kernel
theorem dX2_nextToken_46 : decode cX2_nextToken 46 = .ok (.aload_n 0, 1) := by decide +kernel
theorem dX2_nextToken_47 : decode cX2_nextToken 47 = .ok (.aload_n 0, 1) := by decide +kernel
theorem dX2_nextToken_48 : decode cX2_nextToken 48 = .ok (.getfield 30, 3) := by decide +kernel
theorem dX2_nextToken_51 : decode cX2_nextToken 51 = .ok (.putfield 17, 3) := by decide +kernel
theorem dX2_nextToken_54 : decode cX2_nextToken 54 = .ok (.aload_n 0, 1) := by decide +kernel
theorem dX2_nextToken_55 : decode cX2_nextToken 55 = .ok (.getfield 30, 3) := by decide +kernel
theorem dX2_nextToken_58 : decode cX2_nextToken 58 = .ok (.aload_n 0, 1) := by decide +kernel
theorem dX2_nextToken_59 : decode cX2_nextToken 59 = .ok (.getfield 13, 3) := by decide +kernel
theorem dX2_nextToken_62 : decode cX2_nextToken 62 = .ok (.if_icmp .lt 11, 3) := by decide +kernel
theorem dX2_nextToken_65 : decode cX2_nextToken 65 = .ok (.aload_n 0, 1) := by decide +kernel
theorem dX2_nextToken_66 : decode cX2_nextToken 66 = .ok (.iconst 0, 1) := by decide +kernel
theorem dX2_nextToken_67 : decode cX2_nextToken 67 = .ok (.putfield 27, 3) := by decide +kernel
theorem dX2_nextToken_70 : decode cX2_nextToken 70 = .ok (.goto 90, 3) := by decide +kernel
theorem dX2_nextToken_73 : decode cX2_nextToken 73 = .ok (.aload_n 0, 1) := by decide +kernel
theorem dX2_nextToken_74 : decode cX2_nextToken 74 = .ok (.getfield 9, 3) := by decide +kernel
theorem dX2_nextToken_77 : decode cX2_nextToken 77 = .ok (.aload_n 0, 1) := by decide +kernel
theorem dX2_nextToken_78 : decode cX2_nextToken 78 = .ok (.getfield 30, 3) := by decide +kernel
theorem dX2_nextToken_81 : decode cX2_nextToken 81 = .ok (.iaload, 1) := by decide +kernel
theorem dX2_nextToken_82 : decode cX2_nextToken 82 = .ok (.invokestatic 117, 3) := by decide +kernel
theorem dX2_nextToken_85 : decode cX2_nextToken 85 = .ok (.ifCond .eq 15, 3) := by decide +kernel
theorem dX2_nextToken_88 : decode cX2_nextToken 88 = .ok (.aload_n 0, 1) := by decide +kernel
theorem dX2_nextToken_89 : decode cX2_nextToken 89 = .ok (.iconst 1, 1) := by decide +kernel
theorem dX2_nextToken_90 : decode cX2_nextToken 90 = .ok (.putfield 27, 3) := by decide +kernel
theorem dX2_nextToken_93 : decode cX2_nextToken 93 = .ok (.aload_n 0, 1) := by decide +kernel
theorem dX2_nextToken_94 : decode cX2_nextToken 94 = .ok (.invokevirtual 120, 3) := by decide +kernel
theorem dX2_nextToken_97 : decode cX2_nextToken 97 = .ok (.goto 63, 3) := by decide +kernel
theorem dX2_nextToken_100 : decode cX2_nextToken 100 = .ok (.aload_n 0, 1) := by decide +kernel
theorem dX2_nextToken_101 : decode cX2_nextToken 101 = .ok (.getfield 9, 3) := by decide +kernel
theorem dX2_nextToken_104 : decode cX2_nextToken 104 = .ok (.aload_n 0, 1) := by decide +kernel
theorem dX2_nextToken_105 : decode cX2_nextToken 105 = .ok (.getfield 30, 3) := by decide +kernel
theorem dX2_nextToken_108 : decode cX2_nextToken 108 = .ok (.iaload, 1) := by decide +kernel
theorem dX2_nextToken_109 : decode cX2_nextToken 109 = .ok (.invokestatic 123, 3) := by decide +kernel
theorem dX2_nextToken_112 : decode cX2_nextToken 112 = .ok (.ifCond .eq 15, 3) := by decide +kernel
theorem dX2_nextToken_115 : decode cX2_nextToken 115 = .ok (.aload_n 0, 1) := by decide +kernel
theorem dX2_nextToken_116 : decode cX2_nextToken 116 = .ok (.iconst 2, 1) := by decide +kernel
theorem dX2_nextToken_117 : decode cX2_nextToken 117 = .ok (.putfield 27, 3) := by decide +kernel
theorem dX2_nextToken_120 : decode cX2_nextToken 120 = .ok (.aload_n 0, 1) := by decide +kernel
theorem dX2_nextToken_121 : decode cX2_nextToken 121 = .ok (.invokevirtual 126, 3) := by decide +kernel
theorem dX2_nextToken_124 : decode cX2_nextToken 124 = .ok (.goto 36, 3) := by decide +kernel
theorem dX2_nextToken_127 : decode cX2_nextToken 127 = .ok (.aload_n 0, 1) := by decide +kernel
theorem dX2_nextToken_128 : decode cX2_nextToken 128 = .ok (.aload_n 0, 1) := by decide +kernel
theorem dX2_nextToken_129 : decode cX2_nextToken 129 = .ok (.getfield 9, 3) := by decide +kernel
theorem dX2_nextToken_132 : decode cX2_nextToken 132 = .ok (.aload_n 0, 1) := by decide +kernel
theorem dX2_nextToken_133 : decode cX2_nextToken 133 = .ok (.getfield 30, 3) := by decide +kernel
theorem dX2_nextToken_136 : decode cX2_nextToken 136 = .ok (.iaload, 1) := by decide +kernel
theorem dX2_nextToken_137 : decode cX2_nextToken 137 = .ok (.bipush 59, 2) := by decide +kernel
theorem dX2_nextToken_139 : decode cX2_nextToken 139 = .ok (.if_icmp .ne 7, 3) := by decide +kernel
theorem dX2_nextToken_142 : decode cX2_nextToken 142 = .ok (.iconst 3, 1) := by decide +kernel
theorem dX2_nextToken_143 : decode cX2_nextToken 143 = .ok (.goto 4, 3) := by decide +kernel
theorem dX2_nextToken_146 : decode cX2_nextToken 146 = .ok (.iconst 4, 1) := by decide +kernel
theorem dX2_nextToken_147 : decode cX2_nextToken 147 = .ok (.putfield 27, 3) := by decide +kernel
theorem dX2_nextToken_150 : decode cX2_nextToken 150 = .ok (.aload_n 0, 1) := by decide +kernel
theorem dX2_nextToken_151 : decode cX2_nextToken 151 = .ok (.aload_n 0, 1) := by decide +kernel
theorem dX2_nextToken_152 : decode cX2_nextToken 152 = .ok (.getfield 30, 3) := by decide +kernel
theorem dX2_nextToken_155 : decode cX2_nextToken 155 = .ok (.iconst 1, 1) := by decide +kernel
theorem dX2_nextToken_156 : decode cX2_nextToken 156 = .ok (.iadd, 1) := by decide +kernel
theorem dX2_nextToken_157 : decode cX2_nextToken 157 = .ok (.putfield 17, 3) := by decide +kernel
theorem dX2_nextToken_160 : decode cX2_nextToken 160 = .ok (.return_, 1) := by decide +kernel
theorem dX2_passWord_0 : decode cX2_passWord 0 = .ok (.aload_n 0, 1) := by decide +kernel
theorem dX2_passWord_1 : decode cX2_passWord 1 = .ok (.getfield 17, 3) := by decide +kernel
theorem dX2_passWord_4 : decode cX2_passWord 4 = .ok (.aload_n 0, 1) := by decide +kernel
theorem dX2_passWord_5 : decode cX2_passWord 5 = .ok (.getfield 13, 3) := by decide +kernel
theorem dX2_passWord_8 : decode cX2_passWord 8 = .ok (.if_icmp .ge 31, 3) := by decide +kernel
theorem dX2_passWord_11 : decode cX2_passWord 11 = .ok (.aload_n 0, 1) := by decide +kernel
theorem dX2_passWord_12 : decode cX2_passWord 12 = .ok (.getfield 9, 3) := by decide +kernel
theorem dX2_passWord_15 : decode cX2_passWord 15 = .ok (.aload_n 0, 1) := by decide +kernel
theorem dX2_passWord_16 : decode cX2_passWord 16 = .ok (.getfield 17, 3) := by decide +kernel
theorem dX2_passWord_19 : decode cX2_passWord 19 = .ok (.iaload, 1) := by decide +kernel
theorem dX2_passWord_20 : decode cX2_passWord 20 = .ok (.invokestatic 117, 3) := by decide +kernel
theorem dX2_passWord_23 : decode cX2_passWord 23 = .ok (.ifCond .eq 16, 3) := by decide +kernel
theorem dX2_passWord_26 : decode cX2_passWord 26 = .ok (.aload_n 0, 1) := by decide +kernel
theorem dX2_passWord_27 : decode cX2_passWord 27 = .ok (.dup, 1) := by decide +kernel
theorem dX2_passWord_28 : decode cX2_passWord 28 = .ok (.getfield 17, 3) := by decide +kernel
theorem dX2_passWord_31 : decode cX2_passWord 31 = .ok (.iconst 1, 1) := by decide +kernel
theorem dX2_passWord_32 : decode cX2_passWord 32 = .ok (.iadd, 1) := by decide +kernel
theorem dX2_passWord_33 : decode cX2_passWord 33 = .ok (.putfield 17, 3) := by decide +kernel
theorem dX2_passWord_36 : decode cX2_passWord 36 = .ok (.goto (-36), 3) := by decide +kernel
theorem dX2_passWord_39 : decode cX2_passWord 39 = .ok (.return_, 1) := by decide +kernel
theorem dX2_passNumber_0 : decode cX2_passNumber 0 = .ok (.aload_n 0, 1) := by decide +kernel
theorem dX2_passNumber_1 : decode cX2_passNumber 1 = .ok (.iconst 0, 1) := by decide +kernel
theorem dX2_passNumber_2 : decode cX2_passNumber 2 = .ok (.putfield 83, 3) := by decide +kernel
theorem dX2_passNumber_5 : decode cX2_passNumber 5 = .ok (.aload_n 0, 1) := by decide +kernel
theorem dX2_passNumber_6 : decode cX2_passNumber 6 = .ok (.getfield 17, 3) := by decide +kernel
theorem dX2_passNumber_9 : decode cX2_passNumber 9 = .ok (.aload_n 0, 1) := by decide +kernel
theorem dX2_passNumber_10 : decode cX2_passNumber 10 = .ok (.getfield 13, 3) := by decide +kernel
theorem dX2_passNumber_13 : decode cX2_passNumber 13 = .ok (.if_icmp .ge 61, 3) := by decide +kernel
theorem dX2_passNumber_16 : decode cX2_passNumber 16 = .ok (.aload_n 0, 1) := by decide +kernel
theorem dX2_passNumber_17 : decode cX2_passNumber 17 = .ok (.getfield 9, 3) := by decide +kernel
theorem dX2_passNumber_20 : decode cX2_passNumber 20 = .ok (.aload_n 0, 1) := by decide +kernel
theorem dX2_passNumber_21 : decode cX2_passNumber 21 = .ok (.getfield 17, 3) := by decide +kernel
theorem dX2_passNumber_24 : decode cX2_passNumber 24 = .ok (.iaload, 1) := by decide +kernel
theorem dX2_passNumber_25 : decode cX2_passNumber 25 = .ok (.invokestatic 123, 3) := by decide +kernel
theorem dX2_passNumber_28 : decode cX2_passNumber 28 = .ok (.ifCond .eq 46, 3) := by decide +kernel
theorem dX2_passNumber_31 : decode cX2_passNumber 31 = .ok (.aload_n 0, 1) := by decide +kernel
theorem dX2_passNumber_32 : decode cX2_passNumber 32 = .ok (.sipush 1000, 3) := by decide +kernel
theorem dX2_passNumber_35 : decode cX2_passNumber 35 = .ok (.aload_n 0, 1) := by decide +kernel
theorem dX2_passNumber_36 : decode cX2_passNumber 36 = .ok (.getfield 83, 3) := by decide +kernel
theorem dX2_passNumber_39 : decode cX2_passNumber 39 = .ok (.bipush 10, 2) := by decide +kernel
theorem dX2_passNumber_41 : decode cX2_passNumber 41 = .ok (.imul, 1) := by decide +kernel
theorem dX2_passNumber_42 : decode cX2_passNumber 42 = .ok (.aload_n 0, 1) := by decide +kernel
theorem dX2_passNumber_43 : decode cX2_passNumber 43 = .ok (.getfield 9, 3) := by decide +kernel
theorem dX2_passNumber_46 : decode cX2_passNumber 46 = .ok (.aload_n 0, 1) := by decide +kernel
theorem dX2_passNumber_47 : decode cX2_passNumber 47 = .ok (.getfield 17, 3) := by decide +kernel
theorem dX2_passNumber_50 : decode cX2_passNumber 50 = .ok (.iaload, 1) := by decide +kernel
theorem dX2_passNumber_51 : decode cX2_passNumber 51 = .ok (.iadd, 1) := by decide +kernel
theorem dX2_passNumber_52 : decode cX2_passNumber 52 = .ok (.bipush 48, 2) := by decide +kernel
theorem dX2_passNumber_54 : decode cX2_passNumber 54 = .ok (.isub, 1) := by decide +kernel
theorem dX2_passNumber_55 : decode cX2_passNumber 55 = .ok (.invokestatic 129, 3) := by decide +kernel
theorem dX2_passNumber_58 : decode cX2_passNumber 58 = .ok (.putfield 83, 3) := by decide +kernel
theorem dX2_passNumber_61 : decode cX2_passNumber 61 = .ok (.aload_n 0, 1) := by decide +kernel
theorem dX2_passNumber_62 : decode cX2_passNumber 62 = .ok (.dup, 1) := by decide +kernel
theorem dX2_passNumber_63 : decode cX2_passNumber 63 = .ok (.getfield 17, 3) := by decide +kernel
theorem dX2_passNumber_66 : decode cX2_passNumber 66 = .ok (.iconst 1, 1) := by decide +kernel
theorem dX2_passNumber_67 : decode cX2_passNumber 67 = .ok (.iadd, 1) := by decide +kernel
theorem dX2_passNumber_68 : decode cX2_passNumber 68 = .ok (.putfield 17, 3) := by decide +kernel
theorem dX2_passNumber_71 : decode cX2_passNumber 71 = .ok (.goto (-66), 3) := by decide +kernel
theorem dX2_passNumber_74 : decode cX2_passNumber 74 = .ok (.return_, 1) := by decide +kernel
theorem dX2_isLetter_0 : decode cX2_isLetter 0 = .ok (.iload_n 0, 1) := by decide +kernel
theorem dX2_isLetter_1 : decode cX2_isLetter 1 = .ok (.bipush 97, 2) := by decide +kernel
theorem dX2_isLetter_3 : decode cX2_isLetter 3 = .ok (.if_icmp .lt 13, 3) := by decide +kernel
theorem dX2_isLetter_6 : decode cX2_isLetter 6 = .ok (.iload_n 0, 1) := by decide +kernel
theorem dX2_isLetter_7 : decode cX2_isLetter 7 = .ok (.bipush 122, 2) := by decide +kernel
theorem dX2_isLetter_9 : decode cX2_isLetter 9 = .ok (.if_icmp .gt 7, 3) := by decide +kernel
theorem dX2_isLetter_12 : decode cX2_isLetter 12 = .ok (.iconst 1, 1) := by decide +kernel
theorem dX2_isLetter_13 : decode cX2_isLetter 13 = .ok (.goto 4, 3) := by decide +kernel
theorem dX2_isLetter_16 : decode cX2_isLetter 16 = .ok (.iconst 0, 1) := by decide +kernel
theorem dX2_isLetter_17 : decode cX2_isLetter 17 = .ok (.ireturn, 1) := by decide +kernel
theorem dX2_isDigit_0 : decode cX2_isDigit 0 = .ok (.iload_n 0, 1) := by decide +kernel
theorem dX2_isDigit_1 : decode cX2_isDigit 1 = .ok (.bipush 48, 2) := by decide +kernel
theorem dX2_isDigit_3 : decode cX2_isDigit 3 = .ok (.if_icmp .lt 13, 3) := by decide +kernel
theorem dX2_isDigit_6 : decode cX2_isDigit 6 = .ok (.iload_n 0, 1) := by decide +kernel
theorem dX2_isDigit_7 : decode cX2_isDigit 7 = .ok (.bipush 57, 2) := by decide +kernel
theorem dX2_isDigit_9 : decode cX2_isDigit 9 = .ok (.if_icmp .gt 7, 3) := by decide +kernel
theorem dX2_isDigit_12 : decode cX2_isDigit 12 = .ok (.iconst 1, 1) := by decide +kernel
theorem dX2_isDigit_13 : decode cX2_isDigit 13 = .ok (.goto 4, 3) := by decide +kernel
theorem dX2_isDigit_16 : decode cX2_isDigit 16 = .ok (.iconst 0, 1) := by decide +kernel
theorem dX2_isDigit_17 : decode cX2_isDigit 17 = .ok (.ireturn, 1) := by decide +kernel
theorem dX3_init_0 : decode cX3_init 0 = .ok (.aload_n 0, 1) := by decide +kernel
theorem dX3_init_1 : decode cX3_init 1 = .ok (.invokespecial 1, 3) := by decide +kernel
theorem dX3_init_4 : decode cX3_init 4 = .ok (.aload_n 0, 1) := by decide +kernel
theorem dX3_init_5 : decode cX3_init 5 = .ok (.iconst 1, 1) := by decide +kernel
theorem dX3_init_6 : decode cX3_init 6 = .ok (.putfield 7, 3) := by decide +kernel
theorem dX3_init_9 : decode cX3_init 9 = .ok (.aload_n 0, 1) := by decide +kernel
theorem dX3_init_10 : decode cX3_init 10 = .ok (.bipush 10, 2) := by decide +kernel
theorem dX3_init_12 : decode cX3_init 12 = .ok (.newarray .int, 2) := by decide +kernel
theorem dX3_init_14 : decode cX3_init 14 = .ok (.putfield 13, 3) := by decide +kernel
theorem dX3_init_17 : decode cX3_init 17 = .ok (.aload_n 0, 1) := by decide +kernel
theorem dX3_init_18 : decode cX3_init 18 = .ok (.bipush 8, 2) := by decide +kernel
theorem dX3_init_20 : decode cX3_init 20 = .ok (.newarray .int, 2) := by decide +kernel
theorem dX3_init_22 : decode cX3_init 22 = .ok (.putfield 17, 3) := by decide +kernel
theorem dX3_init_25 : decode cX3_init 25 = .ok (.aload_n 0, 1) := by decide +kernel
theorem dX3_init_26 : decode cX3_init 26 = .ok (.bipush 8, 2) := by decide +kernel
theorem dX3_init_28 : decode cX3_init 28 = .ok (.newarray .int, 2) := by decide +kernel
theorem dX3_init_30 : decode cX3_init 30 = .ok (.putfield 20, 3) := by decide +kernel
theorem dX3_init_33 : decode cX3_init 33 = .ok (.aload_n 0, 1) := by decide +kernel
theorem dX3_init_34 : decode cX3_init 34 = .ok (.bipush 8, 2) := by decide +kernel
theorem dX3_init_36 : decode cX3_init 36 = .ok (.newarray .int, 2) := by decide +kernel
theorem dX3_init_38 : decode cX3_init 38 = .ok (.putfield 23, 3) := by decide +kernel
theorem dX3_init_41 : decode cX3_init 41 = .ok (.aload_n 0, 1) := by decide +kernel
theorem dX3_init_42 : decode cX3_init 42 = .ok (.bipush 8, 2) := by decide +kernel
theorem dX3_init_44 : decode cX3_init 44 = .ok (.newarray .int, 2) := by decide +kernel
theorem dX3_init_46 : decode cX3_init 46 = .ok (.putfield 26, 3) := by decide +kernel
theorem dX3_init_49 : decode cX3_init 49 = .ok (.aload_n 0, 1) := by decide +kernel
theorem dX3_init_50 : decode cX3_init 50 = .ok (.bipush 8, 2) := by decide +kernel
theorem dX3_init_52 : decode cX3_init 52 = .ok (.newarray .int, 2) := by decide +kernel
theorem dX3_init_54 : decode cX3_init 54 = .ok (.putfield 29, 3) := by decide +kernel
theorem dX3_init_57 : decode cX3_init 57 = .ok (.aload_n 0, 1) := by decide +kernel
theorem dX3_init_58 : decode cX3_init 58 = .ok (.bipush 8, 2) := by decide +kernel
theorem dX3_init_60 : decode cX3_init 60 = .ok (.newarray .int, 2) := by decide +kernel
theorem dX3_init_62 : decode cX3_init 62 = .ok (.putfield 32, 3) := by decide +kernel
theorem dX3_init_65 : decode cX3_init 65 = .ok (.aload_n 0, 1) := by decide +kernel
theorem dX3_init_66 : decode cX3_init 66 = .ok (.bipush 8, 2) := by decide +kernel
theorem dX3_init_68 : decode cX3_init 68 = .ok (.newarray .int, 2) := by decide +kernel
theorem dX3_init_70 : decode cX3_init 70 = .ok (.putfield 35, 3) := by decide +kernel
theorem dX3_init_73 : decode cX3_init 73 = .ok (.aload_n 0, 1) := by decide +kernel
theorem dX3_init_74 : decode cX3_init 74 = .ok (.getfield 13, 3) := by decide +kernel
theorem dX3_init_77 : decode cX3_init 77 = .ok (.iconst (-1), 1) := by decide +kernel
theorem dX3_init_78 : decode cX3_init 78 = .ok (.invokestatic 38, 3) := by decide +kernel
theorem dX3_init_81 : decode cX3_init 81 = .ok (.return_, 1) := by decide +kernel
theorem dX3_become_0 : decode cX3_become 0 = .ok (.aload_n 0, 1) := by decide +kernel
theorem dX3_become_1 : decode cX3_become 1 = .ok (.aload_n 1, 1) := by decide +kernel
theorem dX3_become_2 : decode cX3_become 2 = .ok (.getfield 44, 3) := by decide +kernel
theorem dX3_become_5 : decode cX3_become 5 = .ok (.putfield 44, 3) := by decide +kernel
theorem dX3_become_8 : decode cX3_become 8 = .ok (.aload_n 0, 1) := by decide +kernel
theorem dX3_become_9 : decode cX3_become 9 = .ok (.aload_n 1, 1) := by decide +kernel
theorem dX3_become_10 : decode cX3_become 10 = .ok (.getfield 47, 3) := by decide +kernel
theorem dX3_become_13 : decode cX3_become 13 = .ok (.putfield 47, 3) := by decide +kernel
theorem dX3_become_16 : decode cX3_become 16 = .ok (.aload_n 0, 1) := by decide +kernel
theorem dX3_become_17 : decode cX3_become 17 = .ok (.aload_n 1, 1) := by decide +kernel
theorem dX3_become_18 : decode cX3_become 18 = .ok (.getfield 50, 3) := by decide +kernel
theorem dX3_become_21 : decode cX3_become 21 = .ok (.putfield 50, 3) := by decide +kernel
theorem dX3_become_24 : decode cX3_become 24 = .ok (.aload_n 0, 1) := by decide +kernel
theorem dX3_become_25 : decode cX3_become 25 = .ok (.aload_n 1, 1) := by decide +kernel
theorem dX3_become_26 : decode cX3_become 26 = .ok (.getfield 7, 3) := by decide +kernel
theorem dX3_become_29 : decode cX3_become 29 = .ok (.putfield 7, 3) := by decide +kernel
theorem dX3_become_32 : decode cX3_become 32 = .ok (.aload_n 1, 1) := by decide +kernel
theorem dX3_become_33 : decode cX3_become 33 = .ok (.getfield 13, 3) := by decide +kernel
theorem dX3_become_36 : decode cX3_become 36 = .ok (.iconst 0, 1) := by decide +kernel
theorem dX3_become_37 : decode cX3_become 37 = .ok (.aload_n 0, 1) := by decide +kernel
theorem dX3_become_38 : decode cX3_become 38 = .ok (.getfield 13, 3) := by decide +kernel
theorem dX3_become_41 : decode cX3_become 41 = .ok (.iconst 0, 1) := by decide +kernel
theorem dX3_become_42 : decode cX3_become 42 = .ok (.bipush 10, 2) := by decide +kernel
theorem dX3_become_44 : decode cX3_become 44 = .ok (.invokestatic 53, 3) := by decide +kernel
theorem dX3_become_47 : decode cX3_become 47 = .ok (.aload_n 1, 1) := by decide +kernel
theorem dX3_become_48 : decode cX3_become 48 = .ok (.getfield 17, 3) := by decide +kernel
theorem dX3_become_51 : decode cX3_become 51 = .ok (.iconst 0, 1) := by decide +kernel
theorem dX3_become_52 : decode cX3_become 52 = .ok (.aload_n 0, 1) := by decide +kernel
theorem dX3_become_53 : decode cX3_become 53 = .ok (.getfield 17, 3) := by decide +kernel
theorem dX3_become_56 : decode cX3_become 56 = .ok (.iconst 0, 1) := by decide +kernel
theorem dX3_become_57 : decode cX3_become 57 = .ok (.bipush 8, 2) := by decide +kernel
theorem dX3_become_59 : decode cX3_become 59 = .ok (.invokestatic 53, 3) := by decide +kernel
theorem dX3_become_62 : decode cX3_become 62 = .ok (.aload_n 1, 1) := by decide +kernel
theorem dX3_become_63 : decode cX3_become 63 = .ok (.getfield 20, 3) := by decide +kernel
theorem dX3_become_66 : decode cX3_become 66 = .ok (.iconst 0, 1) := by decide +kernel
theorem dX3_become_67 : decode cX3_become 67 = .ok (.aload_n 0, 1) := by decide +kernel
theorem dX3_become_68 : decode cX3_become 68 = .ok (.getfield 20, 3) := by decide +kernel
theorem dX3_become_71 : decode cX3_become 71 = .ok (.iconst 0, 1) := by decide +kernel
theorem dX3_become_72 : decode cX3_become 72 = .ok (.bipush 8, 2) := by decide +kernel
theorem dX3_become_74 : decode cX3_become 74 = .ok (.invokestatic 53, 3) := by decide +kernel
theorem dX3_become_77 : decode cX3_become 77 = .ok (.aload_n 1, 1) := by decide +kernel
theorem dX3_become_78 : decode cX3_become 78 = .ok (.getfield 23, 3) := by decide +kernel
theorem dX3_become_81 : decode cX3_become 81 = .ok (.iconst 0, 1) := by decide +kernel
theorem dX3_become_82 : decode cX3_become 82 = .ok (.aload_n 0, 1) := by decide +kernel
theorem dX3_become_83 : decode cX3_become 83 = .ok (.getfield 23, 3) := by decide +kernel
theorem dX3_become_86 : decode cX3_become 86 = .ok (.iconst 0, 1) := by decide +kernel
theorem dX3_become_87 : decode cX3_become 87 = .ok (.bipush 8, 2) := by decide +kernel
theorem dX3_become_89 : decode cX3_become 89 = .ok (.invokestatic 53, 3) := by decide +kernel
theorem dX3_become_92 : decode cX3_become 92 = .ok (.aload_n 1, 1) := by decide +kernel
theorem dX3_become_93 : decode cX3_become 93 = .ok (.getfield 26, 3) := by decide +kernel
theorem dX3_become_96 : decode cX3_become 96 = .ok (.iconst 0, 1) := by decide +kernel
theorem dX3_become_97 : decode cX3_become 97 = .ok (.aload_n 0, 1) := by decide +kernel
theorem dX3_become_98 : decode cX3_become 98 = .ok (.getfield 26, 3) := by decide +kernel
theorem dX3_become_101 : decode cX3_become 101 = .ok (.iconst 0, 1) := by decide +kernel
theorem dX3_become_102 : decode cX3_become 102 = .ok (.bipush 8, 2) := by decide +kernel
theorem dX3_become_104 : decode cX3_become 104 = .ok (.invokestatic 53, 3) := by decide +kernel
theorem dX3_become_107 : decode cX3_become 107 = .ok (.aload_n 1, 1) := by decide +kernel
theorem dX3_become_108 : decode cX3_become 108 = .ok (.getfield 29, 3) := by decide +kernel
theorem dX3_become_111 : decode cX3_become 111 = .ok (.iconst 0, 1) := by decide +kernel
theorem dX3_become_112 : decode cX3_become 112 = .ok (.aload_n 0, 1) := by decide +kernel
theorem dX3_become_113 : decode cX3_become 113 = .ok (.getfield 29, 3) := by decide +kernel
theorem dX3_become_116 : decode cX3_become 116 = .ok (.iconst 0, 1) := by decide +kernel
theorem dX3_become_117 : decode cX3_become 117 = .ok (.bipush 8, 2) := by decide +kernel
theorem dX3_become_119 : decode cX3_become 119 = .ok (.invokestatic 53, 3) := by decide +kernel
theorem dX3_become_122 : decode cX3_become 122 = .ok (.aload_n 1, 1) := by decide +kernel
theorem dX3_become_123 : decode cX3_become 123 = .ok (.getfield 32, 3) := by decide +kernel
theorem dX3_become_126 : decode cX3_become 126 = .ok (.iconst 0, 1) := by decide +kernel
theorem dX3_become_127 : decode cX3_become 127 = .ok (.aload_n 0, 1) := by decide +kernel
theorem dX3_become_128 : decode cX3_become 128 = .ok (.getfield 32, 3) := by decide +kernel
theorem dX3_become_131 : decode cX3_become 131 = .ok (.iconst 0, 1) := by decide +kernel
theorem dX3_become_132 : decode cX3_become 132 = .ok (.bipush 8, 2) := by decide +kernel
theorem dX3_become_134 : decode cX3_become 134 = .ok (.invokestatic 53, 3) := by decide +kernel
theorem dX3_become_137 : decode cX3_become 137 = .ok (.aload_n 1, 1) := by decide +kernel
theorem dX3_become_138 : decode cX3_become 138 = .ok (.getfield 35, 3) := by decide +kernel
theorem dX3_become_141 : decode cX3_become 141 = .ok (.iconst 0, 1) := by decide +kernel
theorem dX3_become_142 : decode cX3_become 142 = .ok (.aload_n 0, 1) := by decide +kernel
theorem dX3_become_143 : decode cX3_become 143 = .ok (.getfield 35, 3) := by decide +kernel
theorem dX3_become_146 : decode cX3_become 146 = .ok (.iconst 0, 1) := by decide +kernel
theorem dX3_become_147 : decode cX3_become 147 = .ok (.bipush 8, 2) := by decide +kernel
theorem dX3_become_149 : decode cX3_become 149 = .ok (.invokestatic 53, 3) := by decide +kernel
theorem dX3_become_152 : decode cX3_become 152 = .ok (.return_, 1) := by decide +kernel
theorem dX3_isTheDay_0 : decode cX3_isTheDay 0 = .ok (.iload_n 0, 1) := by decide +kernel
theorem dX3_isTheDay_1 : decode cX3_isTheDay 1 = .ok (.bipush 12, 2) := by decide +kernel
theorem dX3_isTheDay_3 : decode cX3_isTheDay 3 = .ok (.irem, 1) := by decide +kernel
theorem dX3_isTheDay_4 : decode cX3_isTheDay 4 = .ok (.bipush 11, 2) := by decide +kernel
theorem dX3_isTheDay_6 : decode cX3_isTheDay 6 = .ok (.if_icmp .ne 7, 3) := by decide +kernel
theorem dX3_isTheDay_9 : decode cX3_isTheDay 9 = .ok (.iconst 1, 1) := by decide +kernel
theorem dX3_isTheDay_10 : decode cX3_isTheDay 10 = .ok (.goto 4, 3) := by decide +kernel
theorem dX3_isTheDay_13 : decode cX3_isTheDay 13 = .ok (.iconst 0, 1) := by decide +kernel
theorem dX3_isTheDay_14 : decode cX3_isTheDay 14 = .ok (.ireturn, 1) := by decide +kernel
theorem dX3_isThere_0 : decode cX3_isThere 0 = .ok (.iload_n 1, 1) := by decide +kernel
theorem dX3_isThere_1 : decode cX3_isThere 1 = .ok (.ifCond .lt 15, 3) := by decide +kernel
theorem dX3_isThere_4 : decode cX3_isThere 4 = .ok (.iload_n 1, 1) := by decide +kernel
theorem dX3_isThere_5 : decode cX3_isThere 5 = .ok (.aload_n 0, 1) := by decide +kernel
theorem dX3_isThere_6 : decode cX3_isThere 6 = .ok (.getfield 44, 3) := by decide +kernel
theorem dX3_isThere_9 : decode cX3_isThere 9 = .ok (.if_icmp .ge 7, 3) := by decide +kernel
theorem dX3_isThere_12 : decode cX3_isThere 12 = .ok (.iconst 1, 1) := by decide +kernel
theorem dX3_isThere_13 : decode cX3_isThere 13 = .ok (.goto 4, 3) := by decide +kernel
theorem dX3_isThere_16 : decode cX3_isThere 16 = .ok (.iconst 0, 1) := by decide +kernel
theorem dX3_isThere_17 : decode cX3_isThere 17 = .ok (.ireturn, 1) := by decide +kernel
theorem dX3_areTwo_0 : decode cX3_areTwo 0 = .ok (.aload_n 0, 1) := by decide +kernel
theorem dX3_areTwo_1 : decode cX3_areTwo 1 = .ok (.iload_n 1, 1) := by decide +kernel
theorem dX3_areTwo_2 : decode cX3_areTwo 2 = .ok (.invokevirtual 59, 3) := by decide +kernel
theorem dX3_areTwo_5 : decode cX3_areTwo 5 = .ok (.ifCond .eq 20, 3) := by decide +kernel
theorem dX3_areTwo_8 : decode cX3_areTwo 8 = .ok (.aload_n 0, 1) := by decide +kernel
theorem dX3_areTwo_9 : decode cX3_areTwo 9 = .ok (.iload_n 2, 1) := by decide +kernel
theorem dX3_areTwo_10 : decode cX3_areTwo 10 = .ok (.invokevirtual 59, 3) := by decide +kernel
theorem dX3_areTwo_13 : decode cX3_areTwo 13 = .ok (.ifCond .eq 12, 3) := by decide +kernel
theorem dX3_areTwo_16 : decode cX3_areTwo 16 = .ok (.iload_n 1, 1) := by decide +kernel
theorem dX3_areTwo_17 : decode cX3_areTwo 17 = .ok (.iload_n 2, 1) := by decide +kernel
theorem dX3_areTwo_18 : decode cX3_areTwo 18 = .ok (.if_icmp .eq 7, 3) := by decide +kernel
theorem dX3_areTwo_21 : decode cX3_areTwo 21 = .ok (.iconst 1, 1) := by decide +kernel
theorem dX3_areTwo_22 : decode cX3_areTwo 22 = .ok (.goto 4, 3) := by decide +kernel
theorem dX3_areTwo_25 : decode cX3_areTwo 25 = .ok (.iconst 0, 1) := by decide +kernel
theorem dX3_areTwo_26 : decode cX3_areTwo 26 = .ok (.ireturn, 1) := by decide +kernel
theorem dX3_isFull_0 : decode cX3_isFull 0 = .ok (.aload_n 0, 1) := by decide +kernel
theorem dX3_isFull_1 : decode cX3_isFull 1 = .ok (.getfield 44, 3) := by decide +kernel
theorem dX3_isFull_4 : decode cX3_isFull 4 = .ok (.bipush 8, 2) := by decide +kernel
theorem dX3_isFull_6 : decode cX3_isFull 6 = .ok (.if_icmp .lt 7, 3) := by decide +kernel
theorem dX3_isFull_9 : decode cX3_isFull 9 = .ok (.iconst 1, 1) := by decide +kernel
theorem dX3_isFull_10 : decode cX3_isFull 10 = .ok (.goto 4, 3) := by decide +kernel
theorem dX3_isFull_13 : decode cX3_isFull 13 = .ok (.iconst 0, 1) := by decide +kernel
theorem dX3_isFull_14 : decode cX3_isFull 14 = .ok (.ireturn, 1) := by decide +kernel
theorem dX3_everybody_0 : decode cX3_everybody 0 = .ok (.iconst 1, 1) := by decide +kernel
theorem dX3_everybody_1 : decode cX3_everybody 1 = .ok (.aload_n 0, 1) := by decide +kernel
theorem dX3_everybody_2 : decode cX3_everybody 2 = .ok (.getfield 44, 3) := by decide +kernel
theorem dX3_everybody_5 : decode cX3_everybody 5 = .ok (.ishl, 1) := by decide +kernel
theorem dX3_everybody_6 : decode cX3_everybody 6 = .ok (.iconst 1, 1) := by decide +kernel
theorem dX3_everybody_7 : decode cX3_everybody 7 = .ok (.isub, 1) := by decide +kernel
theorem dX3_everybody_8 : decode cX3_everybody 8 = .ok (.ireturn, 1) := by decide +kernel
theorem dX3_add_0 : decode cX3_add 0 = .ok (.aload_n 0, 1) := by decide +kernel
theorem dX3_add_1 : decode cX3_add 1 = .ok (.invokevirtual 63, 3) := by decide +kernel
theorem dX3_add_4 : decode cX3_add 4 = .ok (.ifCond .eq 5, 3) := by decide +kernel
theorem dX3_add_7 : decode cX3_add 7 = .ok (.iconst (-1), 1) := by decide +kernel
theorem dX3_add_8 : decode cX3_add 8 = .ok (.ireturn, 1) := by decide +kernel
theorem dX3_add_9 : decode cX3_add 9 = .ok (.aload_n 0, 1) := by decide +kernel
theorem dX3_add_10 : decode cX3_add 10 = .ok (.getfield 44, 3) := by decide +kernel
theorem dX3_add_13 : decode cX3_add 13 = .ok (.istore_n 3, 1) := by decide +kernel
theorem dX3_add_14 : decode cX3_add 14 = .ok (.aload_n 0, 1) := by decide +kernel
theorem dX3_add_15 : decode cX3_add 15 = .ok (.dup, 1) := by decide +kernel
theorem dX3_add_16 : decode cX3_add 16 = .ok (.getfield 44, 3) := by decide +kernel
theorem dX3_add_19 : decode cX3_add 19 = .ok (.iconst 1, 1) := by decide +kernel
theorem dX3_add_20 : decode cX3_add 20 = .ok (.iadd, 1) := by decide +kernel
theorem dX3_add_21 : decode cX3_add 21 = .ok (.putfield 44, 3) := by decide +kernel
theorem dX3_add_24 : decode cX3_add 24 = .ok (.aload_n 0, 1) := by decide +kernel
theorem dX3_add_25 : decode cX3_add 25 = .ok (.iload_n 3, 1) := by decide +kernel
theorem dX3_add_26 : decode cX3_add 26 = .ok (.iconst 0, 1) := by decide +kernel
theorem dX3_add_27 : decode cX3_add 27 = .ok (.iload_n 1, 1) := by decide +kernel
theorem dX3_add_28 : decode cX3_add 28 = .ok (.invokevirtual 67, 3) := by decide +kernel
theorem dX3_add_31 : decode cX3_add 31 = .ok (.aload_n 0, 1) := by decide +kernel
theorem dX3_add_32 : decode cX3_add 32 = .ok (.iload_n 3, 1) := by decide +kernel
theorem dX3_add_33 : decode cX3_add 33 = .ok (.iconst 1, 1) := by decide +kernel
theorem dX3_add_34 : decode cX3_add 34 = .ok (.iload_n 2, 1) := by decide +kernel
theorem dX3_add_35 : decode cX3_add 35 = .ok (.invokevirtual 67, 3) := by decide +kernel
theorem dX3_add_38 : decode cX3_add 38 = .ok (.iload_n 3, 1) := by decide +kernel
theorem dX3_add_39 : decode cX3_add 39 = .ok (.ireturn, 1) := by decide +kernel
theorem dX3_trait_0 : decode cX3_trait 0 = .ok (.aload_n 0, 1) := by decide +kernel
theorem dX3_trait_1 : decode cX3_trait 1 = .ok (.iload_n 1, 1) := by decide +kernel
theorem dX3_trait_2 : decode cX3_trait 2 = .ok (.invokevirtual 59, 3) := by decide +kernel
theorem dX3_trait_5 : decode cX3_trait 5 = .ok (.ifCond .ne 5, 3) := by decide +kernel
theorem dX3_trait_8 : decode cX3_trait 8 = .ok (.iconst 0, 1) := by decide +kernel
theorem dX3_trait_9 : decode cX3_trait 9 = .ok (.ireturn, 1) := by decide +kernel
theorem dX3_trait_10 : decode cX3_trait 10 = .ok (.iload_n 2, 1) := by decide +kernel
theorem dX3_trait_11 : decode cX3_trait 11 = .ok (.tableswitch 140 0 9 #[53, 60, 67, 74, 81, 88, 95, 102, 116, 130], 53) := by decide +kernel
theorem dX3_trait_64 : decode cX3_trait 64 = .ok (.aload_n 0, 1) := by decide +kernel
theorem dX3_trait_65 : decode cX3_trait 65 = .ok (.getfield 17, 3) := by decide +kernel
theorem dX3_trait_68 : decode cX3_trait 68 = .ok (.iload_n 1, 1) := by decide +kernel
theorem dX3_trait_69 : decode cX3_trait 69 = .ok (.iaload, 1) := by decide +kernel
theorem dX3_trait_70 : decode cX3_trait 70 = .ok (.ireturn, 1) := by decide +kernel
theorem dX3_trait_71 : decode cX3_trait 71 = .ok (.aload_n 0, 1) := by decide +kernel
theorem dX3_trait_72 : decode cX3_trait 72 = .ok (.getfield 20, 3) := by decide +kernel
theorem dX3_trait_75 : decode cX3_trait 75 = .ok (.iload_n 1, 1) := by decide +kernel
theorem dX3_trait_76 : decode cX3_trait 76 = .ok (.iaload, 1) := by decide +kernel
theorem dX3_trait_77 : decode cX3_trait 77 = .ok (.ireturn, 1) := by decide +kernel
theorem dX3_trait_78 : decode cX3_trait 78 = .ok (.aload_n 0, 1) := by decide +kernel
theorem dX3_trait_79 : decode cX3_trait 79 = .ok (.getfield 23, 3) := by decide +kernel
theorem dX3_trait_82 : decode cX3_trait 82 = .ok (.iload_n 1, 1) := by decide +kernel
theorem dX3_trait_83 : decode cX3_trait 83 = .ok (.iaload, 1) := by decide +kernel
theorem dX3_trait_84 : decode cX3_trait 84 = .ok (.ireturn, 1) := by decide +kernel
theorem dX3_trait_85 : decode cX3_trait 85 = .ok (.aload_n 0, 1) := by decide +kernel
theorem dX3_trait_86 : decode cX3_trait 86 = .ok (.getfield 26, 3) := by decide +kernel
theorem dX3_trait_89 : decode cX3_trait 89 = .ok (.iload_n 1, 1) := by decide +kernel
theorem dX3_trait_90 : decode cX3_trait 90 = .ok (.iaload, 1) := by decide +kernel
theorem dX3_trait_91 : decode cX3_trait 91 = .ok (.ireturn, 1) := by decide +kernel
theorem dX3_trait_92 : decode cX3_trait 92 = .ok (.aload_n 0, 1) := by decide +kernel
theorem dX3_trait_93 : decode cX3_trait 93 = .ok (.getfield 29, 3) := by decide +kernel
theorem dX3_trait_96 : decode cX3_trait 96 = .ok (.iload_n 1, 1) := by decide +kernel
theorem dX3_trait_97 : decode cX3_trait 97 = .ok (.iaload, 1) := by decide +kernel
theorem dX3_trait_98 : decode cX3_trait 98 = .ok (.ireturn, 1) := by decide +kernel
theorem dX3_trait_99 : decode cX3_trait 99 = .ok (.aload_n 0, 1) := by decide +kernel
theorem dX3_trait_100 : decode cX3_trait 100 = .ok (.getfield 32, 3) := by decide +kernel
theorem dX3_trait_103 : decode cX3_trait 103 = .ok (.iload_n 1, 1) := by decide +kernel
theorem dX3_trait_104 : decode cX3_trait 104 = .ok (.iaload, 1) := by decide +kernel
theorem dX3_trait_105 : decode cX3_trait 105 = .ok (.ireturn, 1) := by decide +kernel
theorem dX3_trait_106 : decode cX3_trait 106 = .ok (.aload_n 0, 1) := by decide +kernel
theorem dX3_trait_107 : decode cX3_trait 107 = .ok (.getfield 35, 3) := by decide +kernel
theorem dX3_trait_110 : decode cX3_trait 110 = .ok (.iload_n 1, 1) := by decide +kernel
theorem dX3_trait_111 : decode cX3_trait 111 = .ok (.iaload, 1) := by decide +kernel
theorem dX3_trait_112 : decode cX3_trait 112 = .ok (.ireturn, 1) := by decide +kernel
theorem dX3_trait_113 : decode cX3_trait 113 = .ok (.aload_n 0, 1) := by decide +kernel
theorem dX3_trait_114 : decode cX3_trait 114 = .ok (.getfield 17, 3) := by decide +kernel
theorem dX3_trait_117 : decode cX3_trait 117 = .ok (.iload_n 1, 1) := by decide +kernel
theorem dX3_trait_118 : decode cX3_trait 118 = .ok (.iaload, 1) := by decide +kernel
theorem dX3_trait_119 : decode cX3_trait 119 = .ok (.aload_n 0, 1) := by decide +kernel
theorem dX3_trait_120 : decode cX3_trait 120 = .ok (.getfield 47, 3) := by decide +kernel
theorem dX3_trait_123 : decode cX3_trait 123 = .ok (.invokestatic 71, 3) := by decide +kernel
theorem dX3_trait_126 : decode cX3_trait 126 = .ok (.ireturn, 1) := by decide +kernel
theorem dX3_trait_127 : decode cX3_trait 127 = .ok (.aload_n 0, 1) := by decide +kernel
theorem dX3_trait_128 : decode cX3_trait 128 = .ok (.getfield 17, 3) := by decide +kernel
theorem dX3_trait_131 : decode cX3_trait 131 = .ok (.iload_n 1, 1) := by decide +kernel
theorem dX3_trait_132 : decode cX3_trait 132 = .ok (.iaload, 1) := by decide +kernel
theorem dX3_trait_133 : decode cX3_trait 133 = .ok (.aload_n 0, 1) := by decide +kernel
theorem dX3_trait_134 : decode cX3_trait 134 = .ok (.getfield 47, 3) := by decide +kernel
theorem dX3_trait_137 : decode cX3_trait 137 = .ok (.invokestatic 77, 3) := by decide +kernel
theorem dX3_trait_140 : decode cX3_trait 140 = .ok (.ireturn, 1) := by decide +kernel
theorem dX3_trait_141 : decode cX3_trait 141 = .ok (.aload_n 0, 1) := by decide +kernel
theorem dX3_trait_142 : decode cX3_trait 142 = .ok (.getfield 17, 3) := by decide +kernel
theorem dX3_trait_145 : decode cX3_trait 145 = .ok (.iload_n 1, 1) := by decide +kernel
theorem dX3_trait_146 : decode cX3_trait 146 = .ok (.iaload, 1) := by decide +kernel
theorem dX3_trait_147 : decode cX3_trait 147 = .ok (.invokestatic 80, 3) := by decide +kernel
theorem dX3_trait_150 : decode cX3_trait 150 = .ok (.ireturn, 1) := by decide +kernel
theorem dX3_trait_151 : decode cX3_trait 151 = .ok (.aload_n 0, 1) := by decide +kernel
theorem dX3_trait_152 : decode cX3_trait 152 = .ok (.getfield 17, 3) := by decide +kernel
theorem dX3_trait_155 : decode cX3_trait 155 = .ok (.iload_n 1, 1) := by decide +kernel
theorem dX3_trait_156 : decode cX3_trait 156 = .ok (.iaload, 1) := by decide +kernel
theorem dX3_trait_157 : decode cX3_trait 157 = .ok (.aload_n 0, 1) := by decide +kernel
theorem dX3_trait_158 : decode cX3_trait 158 = .ok (.getfield 29, 3) := by decide +kernel
theorem dX3_trait_161 : decode cX3_trait 161 = .ok (.iload_n 1, 1) := by decide +kernel
theorem dX3_trait_162 : decode cX3_trait 162 = .ok (.iaload, 1) := by decide +kernel
theorem dX3_trait_163 : decode cX3_trait 163 = .ok (.invokestatic 84, 3) := by decide +kernel
theorem dX3_trait_166 : decode cX3_trait 166 = .ok (.invokestatic 89, 3) := by decide +kernel
theorem dX3_trait_169 : decode cX3_trait 169 = .ok (.ireturn, 1) := by decide +kernel
theorem dX3_canBecome_0 : decode cX3_canBecome 0 = .ok (.iload_n 2, 1) := by decide +kernel
theorem dX3_canBecome_1 : decode cX3_canBecome 1 = .ok (.tableswitch 94 0 6 #[43, 50, 57, 64, 64, 71, 77], 43) := by decide +kernel
theorem dX3_canBecome_44 : decode cX3_canBecome 44 = .ok (.iload_n 3, 1) := by decide +kernel
theorem dX3_canBecome_45 : decode cX3_canBecome 45 = .ok (.bipush 7, 2) := by decide +kernel
theorem dX3_canBecome_47 : decode cX3_canBecome 47 = .ok (.invokestatic 92, 3) := by decide +kernel
theorem dX3_canBecome_50 : decode cX3_canBecome 50 = .ok (.ireturn, 1) := by decide +kernel
theorem dX3_canBecome_51 : decode cX3_canBecome 51 = .ok (.iload_n 3, 1) := by decide +kernel
theorem dX3_canBecome_52 : decode cX3_canBecome 52 = .ok (.bipush 16, 2) := by decide +kernel
theorem dX3_canBecome_54 : decode cX3_canBecome 54 = .ok (.invokestatic 92, 3) := by decide +kernel
theorem dX3_canBecome_57 : decode cX3_canBecome 57 = .ok (.ireturn, 1) := by decide +kernel
theorem dX3_canBecome_58 : decode cX3_canBecome 58 = .ok (.iload_n 3, 1) := by decide +kernel
theorem dX3_canBecome_59 : decode cX3_canBecome 59 = .ok (.bipush 12, 2) := by decide +kernel
theorem dX3_canBecome_61 : decode cX3_canBecome 61 = .ok (.invokestatic 92, 3) := by decide +kernel
theorem dX3_canBecome_64 : decode cX3_canBecome 64 = .ok (.ireturn, 1) := by decide +kernel
theorem dX3_canBecome_65 : decode cX3_canBecome 65 = .ok (.aload_n 0, 1) := by decide +kernel
theorem dX3_canBecome_66 : decode cX3_canBecome 66 = .ok (.iload_n 1, 1) := by decide +kernel
theorem dX3_canBecome_67 : decode cX3_canBecome 67 = .ok (.iload_n 3, 1) := by decide +kernel
theorem dX3_canBecome_68 : decode cX3_canBecome 68 = .ok (.invokevirtual 98, 3) := by decide +kernel
theorem dX3_canBecome_71 : decode cX3_canBecome 71 = .ok (.ireturn, 1) := by decide +kernel
theorem dX3_canBecome_72 : decode cX3_canBecome 72 = .ok (.iload_n 3, 1) := by decide +kernel
theorem dX3_canBecome_73 : decode cX3_canBecome 73 = .ok (.iconst 2, 1) := by decide +kernel
theorem dX3_canBecome_74 : decode cX3_canBecome 74 = .ok (.invokestatic 92, 3) := by decide +kernel
theorem dX3_canBecome_77 : decode cX3_canBecome 77 = .ok (.ireturn, 1) := by decide +kernel
theorem dX3_canBecome_78 : decode cX3_canBecome 78 = .ok (.iload_n 3, 1) := by decide +kernel
theorem dX3_canBecome_79 : decode cX3_canBecome 79 = .ok (.ifCond .lt 14, 3) := by decide +kernel
theorem dX3_canBecome_82 : decode cX3_canBecome 82 = .ok (.iload_n 3, 1) := by decide +kernel
theorem dX3_canBecome_83 : decode cX3_canBecome 83 = .ok (.sipush 9999, 3) := by decide +kernel
theorem dX3_canBecome_86 : decode cX3_canBecome 86 = .ok (.if_icmp .gt 7, 3) := by decide +kernel
theorem dX3_canBecome_89 : decode cX3_canBecome 89 = .ok (.iconst 1, 1) := by decide +kernel
theorem dX3_canBecome_90 : decode cX3_canBecome 90 = .ok (.goto 4, 3) := by decide +kernel
theorem dX3_canBecome_93 : decode cX3_canBecome 93 = .ok (.iconst 0, 1) := by decide +kernel
theorem dX3_canBecome_94 : decode cX3_canBecome 94 = .ok (.ireturn, 1) := by decide +kernel
theorem dX3_canBecome_95 : decode cX3_canBecome 95 = .ok (.iconst 0, 1) := by decide +kernel
theorem dX3_canBecome_96 : decode cX3_canBecome 96 = .ok (.ireturn, 1) := by decide +kernel
theorem dX3_isSetOfOthers_0 : decode cX3_isSetOfOthers 0 = .ok (.aload_n 0, 1) := by decide +kernel
theorem dX3_isSetOfOthers_1 : decode cX3_isSetOfOthers 1 = .ok (.invokevirtual 101, 3) := by decide +kernel
theorem dX3_isSetOfOthers_4 : decode cX3_isSetOfOthers 4 = .ok (.iconst 1, 1) := by decide +kernel
theorem dX3_isSetOfOthers_5 : decode cX3_isSetOfOthers 5 = .ok (.iload_n 1, 1) := by decide +kernel
theorem dX3_isSetOfOthers_6 : decode cX3_isSetOfOthers 6 = .ok (.ishl, 1) := by decide +kernel
theorem dX3_isSetOfOthers_7 : decode cX3_isSetOfOthers 7 = .ok (.iconst (-1), 1) := by decide +kernel
theorem dX3_isSetOfOthers_8 : decode cX3_isSetOfOthers 8 = .ok (.ixor, 1) := by decide +kernel
theorem dX3_isSetOfOthers_9 : decode cX3_isSetOfOthers 9 = .ok (.iand, 1) := by decide +kernel
theorem dX3_isSetOfOthers_10 : decode cX3_isSetOfOthers 10 = .ok (.istore_n 3, 1) := by decide +kernel
theorem dX3_isSetOfOthers_11 : decode cX3_isSetOfOthers 11 = .ok (.iload_n 2, 1) := by decide +kernel
theorem dX3_isSetOfOthers_12 : decode cX3_isSetOfOthers 12 = .ok (.iload_n 3, 1) := by decide +kernel
theorem dX3_isSetOfOthers_13 : decode cX3_isSetOfOthers 13 = .ok (.iconst (-1), 1) := by decide +kernel
theorem dX3_isSetOfOthers_14 : decode cX3_isSetOfOthers 14 = .ok (.ixor, 1) := by decide +kernel
theorem dX3_isSetOfOthers_15 : decode cX3_isSetOfOthers 15 = .ok (.iand, 1) := by decide +kernel
theorem dX3_isSetOfOthers_16 : decode cX3_isSetOfOthers 16 = .ok (.ifCond .ne 7, 3) := by decide +kernel
theorem dX3_isSetOfOthers_19 : decode cX3_isSetOfOthers 19 = .ok (.iconst 1, 1) := by decide +kernel
theorem dX3_isSetOfOthers_20 : decode cX3_isSetOfOthers 20 = .ok (.goto 4, 3) := by decide +kernel
theorem dX3_isSetOfOthers_23 : decode cX3_isSetOfOthers 23 = .ok (.iconst 0, 1) := by decide +kernel
theorem dX3_isSetOfOthers_24 : decode cX3_isSetOfOthers 24 = .ok (.ireturn, 1) := by decide +kernel
theorem dX3_put_0 : decode cX3_put 0 = .ok (.aload_n 0, 1) := by decide +kernel
theorem dX3_put_1 : decode cX3_put 1 = .ok (.iload_n 1, 1) := by decide +kernel
theorem dX3_put_2 : decode cX3_put 2 = .ok (.invokevirtual 59, 3) := by decide +kernel
theorem dX3_put_5 : decode cX3_put 5 = .ok (.ifCond .ne 4, 3) := by decide +kernel
theorem dX3_put_8 : decode cX3_put 8 = .ok (.return_, 1) := by decide +kernel
theorem dX3_put_9 : decode cX3_put 9 = .ok (.iload_n 2, 1) := by decide +kernel
theorem dX3_put_10 : decode cX3_put 10 = .ok (.tableswitch 112 0 6 #[42, 52, 62, 72, 82, 92, 102], 42) := by decide +kernel
theorem dX3_put_52 : decode cX3_put 52 = .ok (.aload_n 0, 1) := by decide +kernel
theorem dX3_put_53 : decode cX3_put 53 = .ok (.getfield 17, 3) := by decide +kernel
theorem dX3_put_56 : decode cX3_put 56 = .ok (.iload_n 1, 1) := by decide +kernel
theorem dX3_put_57 : decode cX3_put 57 = .ok (.iload_n 3, 1) := by decide +kernel
theorem dX3_put_58 : decode cX3_put 58 = .ok (.iastore, 1) := by decide +kernel
theorem dX3_put_59 : decode cX3_put 59 = .ok (.goto 63, 3) := by decide +kernel
theorem dX3_put_62 : decode cX3_put 62 = .ok (.aload_n 0, 1) := by decide +kernel
theorem dX3_put_63 : decode cX3_put 63 = .ok (.getfield 20, 3) := by decide +kernel
theorem dX3_put_66 : decode cX3_put 66 = .ok (.iload_n 1, 1) := by decide +kernel
theorem dX3_put_67 : decode cX3_put 67 = .ok (.iload_n 3, 1) := by decide +kernel
theorem dX3_put_68 : decode cX3_put 68 = .ok (.iastore, 1) := by decide +kernel
theorem dX3_put_69 : decode cX3_put 69 = .ok (.goto 53, 3) := by decide +kernel
theorem dX3_put_72 : decode cX3_put 72 = .ok (.aload_n 0, 1) := by decide +kernel
theorem dX3_put_73 : decode cX3_put 73 = .ok (.getfield 23, 3) := by decide +kernel
theorem dX3_put_76 : decode cX3_put 76 = .ok (.iload_n 1, 1) := by decide +kernel
theorem dX3_put_77 : decode cX3_put 77 = .ok (.iload_n 3, 1) := by decide +kernel
theorem dX3_put_78 : decode cX3_put 78 = .ok (.iastore, 1) := by decide +kernel
theorem dX3_put_79 : decode cX3_put 79 = .ok (.goto 43, 3) := by decide +kernel
theorem dX3_put_82 : decode cX3_put 82 = .ok (.aload_n 0, 1) := by decide +kernel
theorem dX3_put_83 : decode cX3_put 83 = .ok (.getfield 26, 3) := by decide +kernel
theorem dX3_put_86 : decode cX3_put 86 = .ok (.iload_n 1, 1) := by decide +kernel
theorem dX3_put_87 : decode cX3_put 87 = .ok (.iload_n 3, 1) := by decide +kernel
theorem dX3_put_88 : decode cX3_put 88 = .ok (.iastore, 1) := by decide +kernel
theorem dX3_put_89 : decode cX3_put 89 = .ok (.goto 33, 3) := by decide +kernel
theorem dX3_put_92 : decode cX3_put 92 = .ok (.aload_n 0, 1) := by decide +kernel
theorem dX3_put_93 : decode cX3_put 93 = .ok (.getfield 29, 3) := by decide +kernel
theorem dX3_put_96 : decode cX3_put 96 = .ok (.iload_n 1, 1) := by decide +kernel
theorem dX3_put_97 : decode cX3_put 97 = .ok (.iload_n 3, 1) := by decide +kernel
theorem dX3_put_98 : decode cX3_put 98 = .ok (.iastore, 1) := by decide +kernel
theorem dX3_put_99 : decode cX3_put 99 = .ok (.goto 23, 3) := by decide +kernel
theorem dX3_put_102 : decode cX3_put 102 = .ok (.aload_n 0, 1) := by decide +kernel
theorem dX3_put_103 : decode cX3_put 103 = .ok (.getfield 32, 3) := by decide +kernel
theorem dX3_put_106 : decode cX3_put 106 = .ok (.iload_n 1, 1) := by decide +kernel
theorem dX3_put_107 : decode cX3_put 107 = .ok (.iload_n 3, 1) := by decide +kernel
theorem dX3_put_108 : decode cX3_put 108 = .ok (.iastore, 1) := by decide +kernel
theorem dX3_put_109 : decode cX3_put 109 = .ok (.goto 13, 3) := by decide +kernel
theorem dX3_put_112 : decode cX3_put 112 = .ok (.aload_n 0, 1) := by decide +kernel
theorem dX3_put_113 : decode cX3_put 113 = .ok (.getfield 35, 3) := by decide +kernel
theorem dX3_put_116 : decode cX3_put 116 = .ok (.iload_n 1, 1) := by decide +kernel
theorem dX3_put_117 : decode cX3_put 117 = .ok (.iload_n 3, 1) := by decide +kernel
theorem dX3_put_118 : decode cX3_put 118 = .ok (.iastore, 1) := by decide +kernel
theorem dX3_put_119 : decode cX3_put 119 = .ok (.goto 3, 3) := by decide +kernel
theorem dX3_put_122 : decode cX3_put 122 = .ok (.return_, 1) := by decide +kernel
theorem dX3_putOut_0 : decode cX3_putOut 0 = .ok (.iconst 0, 1) := by decide +kernel
theorem dX3_putOut_1 : decode cX3_putOut 1 = .ok (.istore_n 2, 1) := by decide +kernel
theorem dX3_putOut_2 : decode cX3_putOut 2 = .ok (.iload_n 2, 1) := by decide +kernel
theorem dX3_putOut_3 : decode cX3_putOut 3 = .ok (.aload_n 0, 1) := by decide +kernel
theorem dX3_putOut_4 : decode cX3_putOut 4 = .ok (.getfield 44, 3) := by decide +kernel
theorem dX3_putOut_7 : decode cX3_putOut 7 = .ok (.if_icmp .ge 24, 3) := by decide +kernel
theorem dX3_putOut_10 : decode cX3_putOut 10 = .ok (.iload_n 1, 1) := by decide +kernel
theorem dX3_putOut_11 : decode cX3_putOut 11 = .ok (.iload_n 2, 1) := by decide +kernel
theorem dX3_putOut_12 : decode cX3_putOut 12 = .ok (.invokestatic 105, 3) := by decide +kernel
theorem dX3_putOut_15 : decode cX3_putOut 15 = .ok (.ifCond .eq 10, 3) := by decide +kernel
theorem dX3_putOut_18 : decode cX3_putOut 18 = .ok (.aload_n 0, 1) := by decide +kernel
theorem dX3_putOut_19 : decode cX3_putOut 19 = .ok (.getfield 32, 3) := by decide +kernel
theorem dX3_putOut_22 : decode cX3_putOut 22 = .ok (.iload_n 2, 1) := by decide +kernel
theorem dX3_putOut_23 : decode cX3_putOut 23 = .ok (.iconst 1, 1) := by decide +kernel
theorem dX3_putOut_24 : decode cX3_putOut 24 = .ok (.iastore, 1) := by decide +kernel
theorem dX3_putOut_25 : decode cX3_putOut 25 = .ok (.iinc 2 1, 3) := by decide +kernel
theorem dX3_putOut_28 : decode cX3_putOut 28 = .ok (.goto (-26), 3) := by decide +kernel
theorem dX3_putOut_31 : decode cX3_putOut 31 = .ok (.return_, 1) := by decide +kernel
theorem dX3_distance_0 : decode cX3_distance 0 = .ok (.aload_n 0, 1) := by decide +kernel
theorem dX3_distance_1 : decode cX3_distance 1 = .ok (.getfield 20, 3) := by decide +kernel
theorem dX3_distance_4 : decode cX3_distance 4 = .ok (.iload_n 1, 1) := by decide +kernel
theorem dX3_distance_5 : decode cX3_distance 5 = .ok (.iaload, 1) := by decide +kernel
theorem dX3_distance_6 : decode cX3_distance 6 = .ok (.aload_n 0, 1) := by decide +kernel
theorem dX3_distance_7 : decode cX3_distance 7 = .ok (.getfield 20, 3) := by decide +kernel
theorem dX3_distance_10 : decode cX3_distance 10 = .ok (.iload_n 2, 1) := by decide +kernel
theorem dX3_distance_11 : decode cX3_distance 11 = .ok (.iaload, 1) := by decide +kernel
theorem dX3_distance_12 : decode cX3_distance 12 = .ok (.isub, 1) := by decide +kernel
theorem dX3_distance_13 : decode cX3_distance 13 = .ok (.invokestatic 108, 3) := by decide +kernel
theorem dX3_distance_16 : decode cX3_distance 16 = .ok (.istore_n 3, 1) := by decide +kernel
theorem dX3_distance_17 : decode cX3_distance 17 = .ok (.iload_n 3, 1) := by decide +kernel
theorem dX3_distance_18 : decode cX3_distance 18 = .ok (.bipush 16, 2) := by decide +kernel
theorem dX3_distance_20 : decode cX3_distance 20 = .ok (.iload_n 3, 1) := by decide +kernel
theorem dX3_distance_21 : decode cX3_distance 21 = .ok (.isub, 1) := by decide +kernel
theorem dX3_distance_22 : decode cX3_distance 22 = .ok (.invokestatic 113, 3) := by decide +kernel
theorem dX3_distance_25 : decode cX3_distance 25 = .ok (.ireturn, 1) := by decide +kernel
theorem dX3_peopleAt_0 : decode cX3_peopleAt 0 = .ok (.iconst 0, 1) := by decide +kernel
theorem dX3_peopleAt_1 : decode cX3_peopleAt 1 = .ok (.istore_n 2, 1) := by decide +kernel
theorem dX3_peopleAt_2 : decode cX3_peopleAt 2 = .ok (.iconst 0, 1) := by decide +kernel
theorem dX3_peopleAt_3 : decode cX3_peopleAt 3 = .ok (.istore_n 3, 1) := by decide +kernel
theorem dX3_peopleAt_4 : decode cX3_peopleAt 4 = .ok (.iload_n 3, 1) := by decide +kernel
theorem dX3_peopleAt_5 : decode cX3_peopleAt 5 = .ok (.aload_n 0, 1) := by decide +kernel
theorem dX3_peopleAt_6 : decode cX3_peopleAt 6 = .ok (.getfield 44, 3) := by decide +kernel
theorem dX3_peopleAt_9 : decode cX3_peopleAt 9 = .ok (.if_icmp .ge 25, 3) := by decide +kernel
theorem dX3_peopleAt_12 : decode cX3_peopleAt 12 = .ok (.aload_n 0, 1) := by decide +kernel
theorem dX3_peopleAt_13 : decode cX3_peopleAt 13 = .ok (.getfield 20, 3) := by decide +kernel
theorem dX3_peopleAt_16 : decode cX3_peopleAt 16 = .ok (.iload_n 3, 1) := by decide +kernel
theorem dX3_peopleAt_17 : decode cX3_peopleAt 17 = .ok (.iaload, 1) := by decide +kernel
theorem dX3_peopleAt_18 : decode cX3_peopleAt 18 = .ok (.iload_n 1, 1) := by decide +kernel
theorem dX3_peopleAt_19 : decode cX3_peopleAt 19 = .ok (.if_icmp .ne 9, 3) := by decide +kernel
theorem dX3_peopleAt_22 : decode cX3_peopleAt 22 = .ok (.iload_n 2, 1) := by decide +kernel
theorem dX3_peopleAt_23 : decode cX3_peopleAt 23 = .ok (.iconst 1, 1) := by decide +kernel
theorem dX3_peopleAt_24 : decode cX3_peopleAt 24 = .ok (.iload_n 3, 1) := by decide +kernel
theorem dX3_peopleAt_25 : decode cX3_peopleAt 25 = .ok (.ishl, 1) := by decide +kernel
theorem dX3_peopleAt_26 : decode cX3_peopleAt 26 = .ok (.ior, 1) := by decide +kernel
theorem dX3_peopleAt_27 : decode cX3_peopleAt 27 = .ok (.istore_n 2, 1) := by decide +kernel
theorem dX3_peopleAt_28 : decode cX3_peopleAt 28 = .ok (.iinc 3 1, 3) := by decide +kernel
theorem dX3_peopleAt_31 : decode cX3_peopleAt 31 = .ok (.goto (-27), 3) := by decide +kernel
theorem dX3_peopleAt_34 : decode cX3_peopleAt 34 = .ok (.iload_n 2, 1) := by decide +kernel
theorem dX3_peopleAt_35 : decode cX3_peopleAt 35 = .ok (.ireturn, 1) := by decide +kernel
theorem dX3_mindsGuise_0 : decode cX3_mindsGuise 0 = .ok (.aload_n 0, 1) := by decide +kernel
theorem dX3_mindsGuise_1 : decode cX3_mindsGuise 1 = .ok (.getfield 17, 3) := by decide +kernel
theorem dX3_mindsGuise_4 : decode cX3_mindsGuise 4 = .ok (.iload_n 1, 1) := by decide +kernel
theorem dX3_mindsGuise_5 : decode cX3_mindsGuise 5 = .ok (.iaload, 1) := by decide +kernel
theorem dX3_mindsGuise_6 : decode cX3_mindsGuise 6 = .ok (.iload_n 2, 1) := by decide +kernel
theorem dX3_mindsGuise_7 : decode cX3_mindsGuise 7 = .ok (.aload_n 0, 1) := by decide +kernel
theorem dX3_mindsGuise_8 : decode cX3_mindsGuise 8 = .ok (.getfield 23, 3) := by decide +kernel
theorem dX3_mindsGuise_11 : decode cX3_mindsGuise 11 = .ok (.iload_n 1, 1) := by decide +kernel
theorem dX3_mindsGuise_12 : decode cX3_mindsGuise 12 = .ok (.iaload, 1) := by decide +kernel
theorem dX3_mindsGuise_13 : decode cX3_mindsGuise 13 = .ok (.aload_n 0, 1) := by decide +kernel
theorem dX3_mindsGuise_14 : decode cX3_mindsGuise 14 = .ok (.getfield 26, 3) := by decide +kernel
theorem dX3_mindsGuise_17 : decode cX3_mindsGuise 17 = .ok (.iload_n 1, 1) := by decide +kernel
theorem dX3_mindsGuise_18 : decode cX3_mindsGuise 18 = .ok (.iaload, 1) := by decide +kernel
theorem dX3_mindsGuise_19 : decode cX3_mindsGuise 19 = .ok (.ifCond .ne 7, 3) := by decide +kernel
theorem dX3_mindsGuise_22 : decode cX3_mindsGuise 22 = .ok (.iconst 1, 1) := by decide +kernel
theorem dX3_mindsGuise_23 : decode cX3_mindsGuise 23 = .ok (.goto 4, 3) := by decide +kernel
theorem dX3_mindsGuise_26 : decode cX3_mindsGuise 26 = .ok (.iconst 0, 1) := by decide +kernel
theorem dX3_mindsGuise_27 : decode cX3_mindsGuise 27 = .ok (.invokestatic 116, 3) := by decide +kernel
theorem dX3_mindsGuise_30 : decode cX3_mindsGuise 30 = .ok (.ireturn, 1) := by decide +kernel
theorem dX3_mindedGuises_0 : decode cX3_mindedGuises 0 = .ok (.iconst 0, 1) := by decide +kernel
theorem dX3_mindedGuises_1 : decode cX3_mindedGuises 1 = .ok (.istore_n 2, 1) := by decide +kernel
theorem dX3_mindedGuises_2 : decode cX3_mindedGuises 2 = .ok (.iconst 0, 1) := by decide +kernel
theorem dX3_mindedGuises_3 : decode cX3_mindedGuises 3 = .ok (.istore_n 3, 1) := by decide +kernel
theorem dX3_mindedGuises_4 : decode cX3_mindedGuises 4 = .ok (.iload_n 3, 1) := by decide +kernel
theorem dX3_mindedGuises_5 : decode cX3_mindedGuises 5 = .ok (.bipush 12, 2) := by decide +kernel
theorem dX3_mindedGuises_7 : decode cX3_mindedGuises 7 = .ok (.if_icmp .ge 21, 3) := by decide +kernel
theorem dX3_mindedGuises_10 : decode cX3_mindedGuises 10 = .ok (.aload_n 0, 1) := by decide +kernel
theorem dX3_mindedGuises_11 : decode cX3_mindedGuises 11 = .ok (.iload_n 1, 1) := by decide +kernel
theorem dX3_mindedGuises_12 : decode cX3_mindedGuises 12 = .ok (.iload_n 3, 1) := by decide +kernel
theorem dX3_mindedGuises_13 : decode cX3_mindedGuises 13 = .ok (.invokevirtual 120, 3) := by decide +kernel
theorem dX3_mindedGuises_16 : decode cX3_mindedGuises 16 = .ok (.ifCond .eq 6, 3) := by decide +kernel
theorem dX3_mindedGuises_19 : decode cX3_mindedGuises 19 = .ok (.iinc 2 1, 3) := by decide +kernel
theorem dX3_mindedGuises_22 : decode cX3_mindedGuises 22 = .ok (.iinc 3 1, 3) := by decide +kernel
theorem dX3_mindedGuises_25 : decode cX3_mindedGuises 25 = .ok (.goto (-21), 3) := by decide +kernel
theorem dX3_mindedGuises_28 : decode cX3_mindedGuises 28 = .ok (.iload_n 2, 1) := by decide +kernel
theorem dX3_mindedGuises_29 : decode cX3_mindedGuises 29 = .ok (.ireturn, 1) := by decide +kernel
theorem dX3_bothMet_0 : decode cX3_bothMet 0 = .ok (.aload_n 0, 1) := by decide +kernel
theorem dX3_bothMet_1 : decode cX3_bothMet 1 = .ok (.getfield 26, 3) := by decide +kernel
theorem dX3_bothMet_4 : decode cX3_bothMet 4 = .ok (.iload_n 1, 1) := by decide +kernel
theorem dX3_bothMet_5 : decode cX3_bothMet 5 = .ok (.iload_n 2, 1) := by decide +kernel
theorem dX3_bothMet_6 : decode cX3_bothMet 6 = .ok (.invokestatic 123, 3) := by decide +kernel
theorem dX3_bothMet_9 : decode cX3_bothMet 9 = .ok (.ireturn, 1) := by decide +kernel
theorem dX3_bothKnow_0 : decode cX3_bothKnow 0 = .ok (.aload_n 0, 1) := by decide +kernel
theorem dX3_bothKnow_1 : decode cX3_bothKnow 1 = .ok (.getfield 29, 3) := by decide +kernel
theorem dX3_bothKnow_4 : decode cX3_bothKnow 4 = .ok (.iload_n 1, 1) := by decide +kernel
theorem dX3_bothKnow_5 : decode cX3_bothKnow 5 = .ok (.iload_n 2, 1) := by decide +kernel
theorem dX3_bothKnow_6 : decode cX3_bothKnow 6 = .ok (.invokestatic 123, 3) := by decide +kernel
theorem dX3_bothKnow_9 : decode cX3_bothKnow 9 = .ok (.ireturn, 1) := by decide +kernel
theorem dX3_wouldSee_0 : decode cX3_wouldSee 0 = .ok (.aload_n 0, 1) := by decide +kernel
theorem dX3_wouldSee_1 : decode cX3_wouldSee 1 = .ok (.getfield 32, 3) := by decide +kernel
theorem dX3_wouldSee_4 : decode cX3_wouldSee 4 = .ok (.iload_n 1, 1) := by decide +kernel
theorem dX3_wouldSee_5 : decode cX3_wouldSee 5 = .ok (.iaload, 1) := by decide +kernel
theorem dX3_wouldSee_6 : decode cX3_wouldSee 6 = .ok (.ifCond .ne 46, 3) := by decide +kernel
theorem dX3_wouldSee_9 : decode cX3_wouldSee 9 = .ok (.aload_n 0, 1) := by decide +kernel
theorem dX3_wouldSee_10 : decode cX3_wouldSee 10 = .ok (.getfield 32, 3) := by decide +kernel
theorem dX3_wouldSee_13 : decode cX3_wouldSee 13 = .ok (.iload_n 2, 1) := by decide +kernel
theorem dX3_wouldSee_14 : decode cX3_wouldSee 14 = .ok (.iaload, 1) := by decide +kernel
theorem dX3_wouldSee_15 : decode cX3_wouldSee 15 = .ok (.ifCond .ne 37, 3) := by decide +kernel
theorem dX3_wouldSee_18 : decode cX3_wouldSee 18 = .ok (.aload_n 0, 1) := by decide +kernel
theorem dX3_wouldSee_19 : decode cX3_wouldSee 19 = .ok (.iload_n 1, 1) := by decide +kernel
theorem dX3_wouldSee_20 : decode cX3_wouldSee 20 = .ok (.iload_n 2, 1) := by decide +kernel
theorem dX3_wouldSee_21 : decode cX3_wouldSee 21 = .ok (.invokevirtual 127, 3) := by decide +kernel
theorem dX3_wouldSee_24 : decode cX3_wouldSee 24 = .ok (.aload_n 0, 1) := by decide +kernel
theorem dX3_wouldSee_25 : decode cX3_wouldSee 25 = .ok (.getfield 17, 3) := by decide +kernel
theorem dX3_wouldSee_28 : decode cX3_wouldSee 28 = .ok (.iload_n 1, 1) := by decide +kernel
theorem dX3_wouldSee_29 : decode cX3_wouldSee 29 = .ok (.iaload, 1) := by decide +kernel
theorem dX3_wouldSee_30 : decode cX3_wouldSee 30 = .ok (.invokestatic 80, 3) := by decide +kernel
theorem dX3_wouldSee_33 : decode cX3_wouldSee 33 = .ok (.aload_n 0, 1) := by decide +kernel
theorem dX3_wouldSee_34 : decode cX3_wouldSee 34 = .ok (.getfield 17, 3) := by decide +kernel
theorem dX3_wouldSee_37 : decode cX3_wouldSee 37 = .ok (.iload_n 2, 1) := by decide +kernel
theorem dX3_wouldSee_38 : decode cX3_wouldSee 38 = .ok (.iaload, 1) := by decide +kernel
theorem dX3_wouldSee_39 : decode cX3_wouldSee 39 = .ok (.invokestatic 80, 3) := by decide +kernel
theorem dX3_wouldSee_42 : decode cX3_wouldSee 42 = .ok (.invokestatic 113, 3) := by decide +kernel
theorem dX3_wouldSee_45 : decode cX3_wouldSee 45 = .ok (.if_icmp .gt 7, 3) := by decide +kernel
theorem dX3_wouldSee_48 : decode cX3_wouldSee 48 = .ok (.iconst 1, 1) := by decide +kernel
theorem dX3_wouldSee_49 : decode cX3_wouldSee 49 = .ok (.goto 4, 3) := by decide +kernel
theorem dX3_wouldSee_52 : decode cX3_wouldSee 52 = .ok (.iconst 0, 1) := by decide +kernel
theorem dX3_wouldSee_53 : decode cX3_wouldSee 53 = .ok (.ireturn, 1) := by decide +kernel
theorem dX3_knowers_0 : decode cX3_knowers 0 = .ok (.iconst 0, 1) := by decide +kernel
theorem dX3_knowers_1 : decode cX3_knowers 1 = .ok (.istore_n 1, 1) := by decide +kernel
theorem dX3_knowers_2 : decode cX3_knowers 2 = .ok (.iconst 0, 1) := by decide +kernel
theorem dX3_knowers_3 : decode cX3_knowers 3 = .ok (.istore_n 2, 1) := by decide +kernel
theorem dX3_knowers_4 : decode cX3_knowers 4 = .ok (.iload_n 2, 1) := by decide +kernel
theorem dX3_knowers_5 : decode cX3_knowers 5 = .ok (.aload_n 0, 1) := by decide +kernel
theorem dX3_knowers_6 : decode cX3_knowers 6 = .ok (.getfield 44, 3) := by decide +kernel
theorem dX3_knowers_9 : decode cX3_knowers 9 = .ok (.if_icmp .ge 24, 3) := by decide +kernel
theorem dX3_knowers_12 : decode cX3_knowers 12 = .ok (.aload_n 0, 1) := by decide +kernel
theorem dX3_knowers_13 : decode cX3_knowers 13 = .ok (.getfield 29, 3) := by decide +kernel
theorem dX3_knowers_16 : decode cX3_knowers 16 = .ok (.iload_n 2, 1) := by decide +kernel
theorem dX3_knowers_17 : decode cX3_knowers 17 = .ok (.iaload, 1) := by decide +kernel
theorem dX3_knowers_18 : decode cX3_knowers 18 = .ok (.ifCond .eq 9, 3) := by decide +kernel
theorem dX3_knowers_21 : decode cX3_knowers 21 = .ok (.iload_n 1, 1) := by decide +kernel
theorem dX3_knowers_22 : decode cX3_knowers 22 = .ok (.iconst 1, 1) := by decide +kernel
theorem dX3_knowers_23 : decode cX3_knowers 23 = .ok (.iload_n 2, 1) := by decide +kernel
theorem dX3_knowers_24 : decode cX3_knowers 24 = .ok (.ishl, 1) := by decide +kernel
theorem dX3_knowers_25 : decode cX3_knowers 25 = .ok (.ior, 1) := by decide +kernel
theorem dX3_knowers_26 : decode cX3_knowers 26 = .ok (.istore_n 1, 1) := by decide +kernel
theorem dX3_knowers_27 : decode cX3_knowers 27 = .ok (.iinc 2 1, 3) := by decide +kernel
theorem dX3_knowers_30 : decode cX3_knowers 30 = .ok (.goto (-26), 3) := by decide +kernel
theorem dX3_knowers_33 : decode cX3_knowers 33 = .ok (.iload_n 1, 1) := by decide +kernel
theorem dX3_knowers_34 : decode cX3_knowers 34 = .ok (.ireturn, 1) := by decide +kernel
theorem dX3_knowingPairs_0 : decode cX3_knowingPairs 0 = .ok (.aload_n 0, 1) := by decide +kernel
theorem dX3_knowingPairs_1 : decode cX3_knowingPairs 1 = .ok (.aload_n 0, 1) := by decide +kernel
theorem dX3_knowingPairs_2 : decode cX3_knowingPairs 2 = .ok (.getfield 29, 3) := by decide +kernel
theorem dX3_knowingPairs_5 : decode cX3_knowingPairs 5 = .ok (.invokevirtual 130, 3) := by decide +kernel
theorem dX3_knowingPairs_8 : decode cX3_knowingPairs 8 = .ok (.ireturn, 1) := by decide +kernel
theorem dX3_metPairs_0 : decode cX3_metPairs 0 = .ok (.aload_n 0, 1) := by decide +kernel
theorem dX3_metPairs_1 : decode cX3_metPairs 1 = .ok (.aload_n 0, 1) := by decide +kernel
theorem dX3_metPairs_2 : decode cX3_metPairs 2 = .ok (.getfield 26, 3) := by decide +kernel
theorem dX3_metPairs_5 : decode cX3_metPairs 5 = .ok (.invokevirtual 130, 3) := by decide +kernel
theorem dX3_metPairs_8 : decode cX3_metPairs 8 = .ok (.ireturn, 1) := by decide +kernel
theorem dX3_mutualPairs_0 : decode cX3_mutualPairs 0 = .ok (.iconst 0, 1) := by decide +kernel
theorem dX3_mutualPairs_1 : decode cX3_mutualPairs 1 = .ok (.istore_n 2, 1) := by decide +kernel
theorem dX3_mutualPairs_2 : decode cX3_mutualPairs 2 = .ok (.iconst 0, 1) := by decide +kernel
theorem dX3_mutualPairs_3 : decode cX3_mutualPairs 3 = .ok (.istore_n 3, 1) := by decide +kernel
theorem dX3_mutualPairs_4 : decode cX3_mutualPairs 4 = .ok (.iload_n 3, 1) := by decide +kernel
theorem dX3_mutualPairs_5 : decode cX3_mutualPairs 5 = .ok (.aload_n 0, 1) := by decide +kernel
theorem dX3_mutualPairs_6 : decode cX3_mutualPairs 6 = .ok (.getfield 44, 3) := by decide +kernel
theorem dX3_mutualPairs_9 : decode cX3_mutualPairs 9 = .ok (.if_icmp .ge 42, 3) := by decide +kernel
theorem dX3_mutualPairs_12 : decode cX3_mutualPairs 12 = .ok (.iload_n 3, 1) := by decide +kernel
theorem dX3_mutualPairs_13 : decode cX3_mutualPairs 13 = .ok (.iconst 1, 1) := by decide +kernel
theorem dX3_mutualPairs_14 : decode cX3_mutualPairs 14 = .ok (.iadd, 1) := by decide +kernel
theorem dX3_mutualPairs_15 : decode cX3_mutualPairs 15 = .ok (.istore 4, 2) := by decide +kernel
theorem dX3_mutualPairs_17 : decode cX3_mutualPairs 17 = .ok (.iload 4, 2) := by decide +kernel
theorem dX3_mutualPairs_19 : decode cX3_mutualPairs 19 = .ok (.aload_n 0, 1) := by decide +kernel
theorem dX3_mutualPairs_20 : decode cX3_mutualPairs 20 = .ok (.getfield 44, 3) := by decide +kernel
theorem dX3_mutualPairs_23 : decode cX3_mutualPairs 23 = .ok (.if_icmp .ge 22, 3) := by decide +kernel
theorem dX3_mutualPairs_26 : decode cX3_mutualPairs 26 = .ok (.aload_n 1, 1) := by decide +kernel
theorem dX3_mutualPairs_27 : decode cX3_mutualPairs 27 = .ok (.iload_n 3, 1) := by decide +kernel
theorem dX3_mutualPairs_28 : decode cX3_mutualPairs 28 = .ok (.iload 4, 2) := by decide +kernel
theorem dX3_mutualPairs_30 : decode cX3_mutualPairs 30 = .ok (.invokestatic 123, 3) := by decide +kernel
theorem dX3_mutualPairs_33 : decode cX3_mutualPairs 33 = .ok (.ifCond .eq 6, 3) := by decide +kernel
theorem dX3_mutualPairs_36 : decode cX3_mutualPairs 36 = .ok (.iinc 2 1, 3) := by decide +kernel
theorem dX3_mutualPairs_39 : decode cX3_mutualPairs 39 = .ok (.iinc 4 1, 3) := by decide +kernel
theorem dX3_mutualPairs_42 : decode cX3_mutualPairs 42 = .ok (.goto (-25), 3) := by decide +kernel
theorem dX3_mutualPairs_45 : decode cX3_mutualPairs 45 = .ok (.iinc 3 1, 3) := by decide +kernel
theorem dX3_mutualPairs_48 : decode cX3_mutualPairs 48 = .ok (.goto (-44), 3) := by decide +kernel
theorem dX3_mutualPairs_51 : decode cX3_mutualPairs 51 = .ok (.iload_n 2, 1) := by decide +kernel
theorem dX3_mutualPairs_52 : decode cX3_mutualPairs 52 = .ok (.ireturn, 1) := by decide +kernel
theorem dX3_isCircle_0 : decode cX3_isCircle 0 = .ok (.iload_n 2, 1) := by decide +kernel
theorem dX3_isCircle_1 : decode cX3_isCircle 1 = .ok (.ifCond .eq 10, 3) := by decide +kernel
theorem dX3_isCircle_4 : decode cX3_isCircle 4 = .ok (.aload_n 0, 1) := by decide +kernel
theorem dX3_isCircle_5 : decode cX3_isCircle 5 = .ok (.getfield 29, 3) := by decide +kernel
theorem dX3_isCircle_8 : decode cX3_isCircle 8 = .ok (.goto 7, 3) := by decide +kernel
theorem dX3_isCircle_11 : decode cX3_isCircle 11 = .ok (.aload_n 0, 1) := by decide +kernel
theorem dX3_isCircle_12 : decode cX3_isCircle 12 = .ok (.getfield 26, 3) := by decide +kernel
theorem dX3_isCircle_15 : decode cX3_isCircle 15 = .ok (.astore_n 3, 1) := by decide +kernel
theorem dX3_isCircle_16 : decode cX3_isCircle 16 = .ok (.iconst 0, 1) := by decide +kernel
theorem dX3_isCircle_17 : decode cX3_isCircle 17 = .ok (.istore 4, 2) := by decide +kernel
theorem dX3_isCircle_19 : decode cX3_isCircle 19 = .ok (.iload 4, 2) := by decide +kernel
theorem dX3_isCircle_21 : decode cX3_isCircle 21 = .ok (.aload_n 0, 1) := by decide +kernel
theorem dX3_isCircle_22 : decode cX3_isCircle 22 = .ok (.getfield 44, 3) := by decide +kernel
theorem dX3_isCircle_25 : decode cX3_isCircle 25 = .ok (.if_icmp .ge 36, 3) := by decide +kernel
theorem dX3_isCircle_28 : decode cX3_isCircle 28 = .ok (.iload_n 1, 1) := by decide +kernel
theorem dX3_isCircle_29 : decode cX3_isCircle 29 = .ok (.iload 4, 2) := by decide +kernel
theorem dX3_isCircle_31 : decode cX3_isCircle 31 = .ok (.invokestatic 105, 3) := by decide +kernel
theorem dX3_isCircle_34 : decode cX3_isCircle 34 = .ok (.ifCond .eq 21, 3) := by decide +kernel
theorem dX3_isCircle_37 : decode cX3_isCircle 37 = .ok (.iload_n 1, 1) := by decide +kernel
theorem dX3_isCircle_38 : decode cX3_isCircle 38 = .ok (.aload_n 3, 1) := by decide +kernel
theorem dX3_isCircle_39 : decode cX3_isCircle 39 = .ok (.iload 4, 2) := by decide +kernel
theorem dX3_isCircle_41 : decode cX3_isCircle 41 = .ok (.iaload, 1) := by decide +kernel
theorem dX3_isCircle_42 : decode cX3_isCircle 42 = .ok (.iconst 1, 1) := by decide +kernel
theorem dX3_isCircle_43 : decode cX3_isCircle 43 = .ok (.iload 4, 2) := by decide +kernel
theorem dX3_isCircle_45 : decode cX3_isCircle 45 = .ok (.ishl, 1) := by decide +kernel
theorem dX3_isCircle_46 : decode cX3_isCircle 46 = .ok (.ior, 1) := by decide +kernel
theorem dX3_isCircle_47 : decode cX3_isCircle 47 = .ok (.iconst (-1), 1) := by decide +kernel
theorem dX3_isCircle_48 : decode cX3_isCircle 48 = .ok (.ixor, 1) := by decide +kernel
theorem dX3_isCircle_49 : decode cX3_isCircle 49 = .ok (.iand, 1) := by decide +kernel
theorem dX3_isCircle_50 : decode cX3_isCircle 50 = .ok (.ifCond .eq 5, 3) := by decide +kernel
theorem dX3_isCircle_53 : decode cX3_isCircle 53 = .ok (.iconst 0, 1) := by decide +kernel
theorem dX3_isCircle_54 : decode cX3_isCircle 54 = .ok (.ireturn, 1) := by decide +kernel
theorem dX3_isCircle_55 : decode cX3_isCircle 55 = .ok (.iinc 4 1, 3) := by decide +kernel
theorem dX3_isCircle_58 : decode cX3_isCircle 58 = .ok (.goto (-39), 3) := by decide +kernel
theorem dX3_isCircle_61 : decode cX3_isCircle 61 = .ok (.iconst 1, 1) := by decide +kernel
theorem dX3_isCircle_62 : decode cX3_isCircle 62 = .ok (.ireturn, 1) := by decide +kernel
theorem dX3_wornGuises_0 : decode cX3_wornGuises 0 = .ok (.iconst 0, 1) := by decide +kernel
theorem dX3_wornGuises_1 : decode cX3_wornGuises 1 = .ok (.istore_n 1, 1) := by decide +kernel
theorem dX3_wornGuises_2 : decode cX3_wornGuises 2 = .ok (.iconst 0, 1) := by decide +kernel
theorem dX3_wornGuises_3 : decode cX3_wornGuises 3 = .ok (.istore_n 2, 1) := by decide +kernel
theorem dX3_wornGuises_4 : decode cX3_wornGuises 4 = .ok (.iload_n 2, 1) := by decide +kernel
theorem dX3_wornGuises_5 : decode cX3_wornGuises 5 = .ok (.aload_n 0, 1) := by decide +kernel
theorem dX3_wornGuises_6 : decode cX3_wornGuises 6 = .ok (.getfield 44, 3) := by decide +kernel
theorem dX3_wornGuises_9 : decode cX3_wornGuises 9 = .ok (.if_icmp .ge 20, 3) := by decide +kernel
theorem dX3_wornGuises_12 : decode cX3_wornGuises 12 = .ok (.iload_n 1, 1) := by decide +kernel
theorem dX3_wornGuises_13 : decode cX3_wornGuises 13 = .ok (.iconst 1, 1) := by decide +kernel
theorem dX3_wornGuises_14 : decode cX3_wornGuises 14 = .ok (.aload_n 0, 1) := by decide +kernel
theorem dX3_wornGuises_15 : decode cX3_wornGuises 15 = .ok (.getfield 23, 3) := by decide +kernel
theorem dX3_wornGuises_18 : decode cX3_wornGuises 18 = .ok (.iload_n 2, 1) := by decide +kernel
theorem dX3_wornGuises_19 : decode cX3_wornGuises 19 = .ok (.iaload, 1) := by decide +kernel
theorem dX3_wornGuises_20 : decode cX3_wornGuises 20 = .ok (.ishl, 1) := by decide +kernel
theorem dX3_wornGuises_21 : decode cX3_wornGuises 21 = .ok (.ior, 1) := by decide +kernel
theorem dX3_wornGuises_22 : decode cX3_wornGuises 22 = .ok (.istore_n 1, 1) := by decide +kernel
theorem dX3_wornGuises_23 : decode cX3_wornGuises 23 = .ok (.iinc 2 1, 3) := by decide +kernel
theorem dX3_wornGuises_26 : decode cX3_wornGuises 26 = .ok (.goto (-22), 3) := by decide +kernel
theorem dX3_wornGuises_29 : decode cX3_wornGuises 29 = .ok (.iload_n 1, 1) := by decide +kernel
theorem dX3_wornGuises_30 : decode cX3_wornGuises 30 = .ok (.ireturn, 1) := by decide +kernel
theorem dX3_passedInAll_0 : decode cX3_passedInAll 0 = .ok (.iconst 0, 1) := by decide +kernel
theorem dX3_passedInAll_1 : decode cX3_passedInAll 1 = .ok (.istore_n 1, 1) := by decide +kernel
theorem dX3_passedInAll_2 : decode cX3_passedInAll 2 = .ok (.iconst 0, 1) := by decide +kernel
theorem dX3_passedInAll_3 : decode cX3_passedInAll 3 = .ok (.istore_n 2, 1) := by decide +kernel
theorem dX3_passedInAll_4 : decode cX3_passedInAll 4 = .ok (.iload_n 2, 1) := by decide +kernel
theorem dX3_passedInAll_5 : decode cX3_passedInAll 5 = .ok (.aload_n 0, 1) := by decide +kernel
theorem dX3_passedInAll_6 : decode cX3_passedInAll 6 = .ok (.getfield 44, 3) := by decide +kernel
theorem dX3_passedInAll_9 : decode cX3_passedInAll 9 = .ok (.if_icmp .ge 18, 3) := by decide +kernel
theorem dX3_passedInAll_12 : decode cX3_passedInAll 12 = .ok (.iload_n 1, 1) := by decide +kernel
theorem dX3_passedInAll_13 : decode cX3_passedInAll 13 = .ok (.aload_n 0, 1) := by decide +kernel
theorem dX3_passedInAll_14 : decode cX3_passedInAll 14 = .ok (.getfield 35, 3) := by decide +kernel
theorem dX3_passedInAll_17 : decode cX3_passedInAll 17 = .ok (.iload_n 2, 1) := by decide +kernel
theorem dX3_passedInAll_18 : decode cX3_passedInAll 18 = .ok (.iaload, 1) := by decide +kernel
theorem dX3_passedInAll_19 : decode cX3_passedInAll 19 = .ok (.iadd, 1) := by decide +kernel
theorem dX3_passedInAll_20 : decode cX3_passedInAll 20 = .ok (.istore_n 1, 1) := by decide +kernel
theorem dX3_passedInAll_21 : decode cX3_passedInAll 21 = .ok (.iinc 2 1, 3) := by decide +kernel
theorem dX3_passedInAll_24 : decode cX3_passedInAll 24 = .ok (.goto (-20), 3) := by decide +kernel
theorem dX3_passedInAll_27 : decode cX3_passedInAll 27 = .ok (.iload_n 1, 1) := by decide +kernel
theorem dX3_passedInAll_28 : decode cX3_passedInAll 28 = .ok (.ireturn, 1) := by decide +kernel
theorem dX3_heldSpots_0 : decode cX3_heldSpots 0 = .ok (.iconst 0, 1) := by decide +kernel
theorem dX3_heldSpots_1 : decode cX3_heldSpots 1 = .ok (.istore_n 1, 1) := by decide +kernel
theorem dX3_heldSpots_2 : decode cX3_heldSpots 2 = .ok (.iconst 0, 1) := by decide +kernel
theorem dX3_heldSpots_3 : decode cX3_heldSpots 3 = .ok (.istore_n 2, 1) := by decide +kernel
theorem dX3_heldSpots_4 : decode cX3_heldSpots 4 = .ok (.iload_n 2, 1) := by decide +kernel
theorem dX3_heldSpots_5 : decode cX3_heldSpots 5 = .ok (.bipush 10, 2) := by decide +kernel
theorem dX3_heldSpots_7 : decode cX3_heldSpots 7 = .ok (.if_icmp .ge 22, 3) := by decide +kernel
theorem dX3_heldSpots_10 : decode cX3_heldSpots 10 = .ok (.aload_n 0, 1) := by decide +kernel
theorem dX3_heldSpots_11 : decode cX3_heldSpots 11 = .ok (.getfield 13, 3) := by decide +kernel
theorem dX3_heldSpots_14 : decode cX3_heldSpots 14 = .ok (.iload_n 2, 1) := by decide +kernel
theorem dX3_heldSpots_15 : decode cX3_heldSpots 15 = .ok (.iaload, 1) := by decide +kernel
theorem dX3_heldSpots_16 : decode cX3_heldSpots 16 = .ok (.iconst (-1), 1) := by decide +kernel
theorem dX3_heldSpots_17 : decode cX3_heldSpots 17 = .ok (.if_icmp .eq 6, 3) := by decide +kernel
theorem dX3_heldSpots_20 : decode cX3_heldSpots 20 = .ok (.iinc 1 1, 3) := by decide +kernel
theorem dX3_heldSpots_23 : decode cX3_heldSpots 23 = .ok (.iinc 2 1, 3) := by decide +kernel
theorem dX3_heldSpots_26 : decode cX3_heldSpots 26 = .ok (.goto (-22), 3) := by decide +kernel
theorem dX3_heldSpots_29 : decode cX3_heldSpots 29 = .ok (.iload_n 1, 1) := by decide +kernel
theorem dX3_heldSpots_30 : decode cX3_heldSpots 30 = .ok (.ireturn, 1) := by decide +kernel
theorem dX3_isMutual_0 : decode cX3_isMutual 0 = .ok (.aload_n 0, 1) := by decide +kernel
theorem dX3_isMutual_1 : decode cX3_isMutual 1 = .ok (.iload_n 1, 1) := by decide +kernel
theorem dX3_isMutual_2 : decode cX3_isMutual 2 = .ok (.iaload, 1) := by decide +kernel
theorem dX3_isMutual_3 : decode cX3_isMutual 3 = .ok (.iload_n 2, 1) := by decide +kernel
theorem dX3_isMutual_4 : decode cX3_isMutual 4 = .ok (.invokestatic 105, 3) := by decide +kernel
theorem dX3_isMutual_7 : decode cX3_isMutual 7 = .ok (.ifCond .eq 17, 3) := by decide +kernel
theorem dX3_isMutual_10 : decode cX3_isMutual 10 = .ok (.aload_n 0, 1) := by decide +kernel
theorem dX3_isMutual_11 : decode cX3_isMutual 11 = .ok (.iload_n 2, 1) := by decide +kernel
theorem dX3_isMutual_12 : decode cX3_isMutual 12 = .ok (.iaload, 1) := by decide +kernel
theorem dX3_isMutual_13 : decode cX3_isMutual 13 = .ok (.iload_n 1, 1) := by decide +kernel
theorem dX3_isMutual_14 : decode cX3_isMutual 14 = .ok (.invokestatic 105, 3) := by decide +kernel
theorem dX3_isMutual_17 : decode cX3_isMutual 17 = .ok (.ifCond .eq 7, 3) := by decide +kernel
theorem dX3_isMutual_20 : decode cX3_isMutual 20 = .ok (.iconst 1, 1) := by decide +kernel
theorem dX3_isMutual_21 : decode cX3_isMutual 21 = .ok (.goto 4, 3) := by decide +kernel
theorem dX3_isMutual_24 : decode cX3_isMutual 24 = .ok (.iconst 0, 1) := by decide +kernel
theorem dX3_isMutual_25 : decode cX3_isMutual 25 = .ok (.ireturn, 1) := by decide +kernel
theorem dX3_holds_0 : decode cX3_holds 0 = .ok (.iload_n 0, 1) := by decide +kernel
theorem dX3_holds_1 : decode cX3_holds 1 = .ok (.iload_n 1, 1) := by decide +kernel
theorem dX3_holds_2 : decode cX3_holds 2 = .ok (.ishr, 1) := by decide +kernel
theorem dX3_holds_3 : decode cX3_holds 3 = .ok (.iconst 1, 1) := by decide +kernel
theorem dX3_holds_4 : decode cX3_holds 4 = .ok (.iand, 1) := by decide +kernel
theorem dX3_holds_5 : decode cX3_holds 5 = .ok (.iconst 1, 1) := by decide +kernel
theorem dX3_holds_6 : decode cX3_holds 6 = .ok (.if_icmp .ne 7, 3) := by decide +kernel
theorem dX3_holds_9 : decode cX3_holds 9 = .ok (.iconst 1, 1) := by decide +kernel
theorem dX3_holds_10 : decode cX3_holds 10 = .ok (.goto 4, 3) := by decide +kernel
theorem dX3_holds_13 : decode cX3_holds 13 = .ok (.iconst 0, 1) := by decide +kernel
theorem dX3_holds_14 : decode cX3_holds 14 = .ok (.ireturn, 1) := by decide +kernel
theorem dX3_hasDays_0 : decode cX3_hasDays 0 = .ok (.iload_n 1, 1) := by decide +kernel
theorem dX3_hasDays_1 : decode cX3_hasDays 1 = .ok (.ldc 134, 2) := by decide +kernel
theorem dX3_hasDays_3 : decode cX3_hasDays 3 = .ok (.aload_n 0, 1) := by decide +kernel
theorem dX3_hasDays_4 : decode cX3_hasDays 4 = .ok (.getfield 47, 3) := by decide +kernel
theorem dX3_hasDays_7 : decode cX3_hasDays 7 = .ok (.isub, 1) := by decide +kernel
theorem dX3_hasDays_8 : decode cX3_hasDays 8 = .ok (.if_icmp .gt 7, 3) := by decide +kernel
theorem dX3_hasDays_11 : decode cX3_hasDays 11 = .ok (.iconst 1, 1) := by decide +kernel
theorem dX3_hasDays_12 : decode cX3_hasDays 12 = .ok (.goto 4, 3) := by decide +kernel
theorem dX3_hasDays_15 : decode cX3_hasDays 15 = .ok (.iconst 0, 1) := by decide +kernel
theorem dX3_hasDays_16 : decode cX3_hasDays 16 = .ok (.ireturn, 1) := by decide +kernel
theorem dX3_skipDays_0 : decode cX3_skipDays 0 = .ok (.aload_n 0, 1) := by decide +kernel
theorem dX3_skipDays_1 : decode cX3_skipDays 1 = .ok (.ldc 134, 2) := by decide +kernel
theorem dX3_skipDays_3 : decode cX3_skipDays 3 = .ok (.aload_n 0, 1) := by decide +kernel
theorem dX3_skipDays_4 : decode cX3_skipDays 4 = .ok (.getfield 47, 3) := by decide +kernel
theorem dX3_skipDays_7 : decode cX3_skipDays 7 = .ok (.iload_n 1, 1) := by decide +kernel
theorem dX3_skipDays_8 : decode cX3_skipDays 8 = .ok (.iadd, 1) := by decide +kernel
theorem dX3_skipDays_9 : decode cX3_skipDays 9 = .ok (.invokestatic 113, 3) := by decide +kernel
theorem dX3_skipDays_12 : decode cX3_skipDays 12 = .ok (.putfield 47, 3) := by decide +kernel
theorem dX3_skipDays_15 : decode cX3_skipDays 15 = .ok (.return_, 1) := by decide +kernel
theorem dX3_passDays_0 : decode cX3_passDays 0 = .ok (.iconst 0, 1) := by decide +kernel
theorem dX3_passDays_1 : decode cX3_passDays 1 = .ok (.istore_n 2, 1) := by decide +kernel
theorem dX3_passDays_2 : decode cX3_passDays 2 = .ok (.iload_n 2, 1) := by decide +kernel
theorem dX3_passDays_3 : decode cX3_passDays 3 = .ok (.iload_n 1, 1) := by decide +kernel
theorem dX3_passDays_4 : decode cX3_passDays 4 = .ok (.if_icmp .ge 13, 3) := by decide +kernel
theorem dX3_passDays_7 : decode cX3_passDays 7 = .ok (.aload_n 0, 1) := by decide +kernel
theorem dX3_passDays_8 : decode cX3_passDays 8 = .ok (.invokevirtual 135, 3) := by decide +kernel
theorem dX3_passDays_11 : decode cX3_passDays 11 = .ok (.iinc 2 1, 3) := by decide +kernel
theorem dX3_passDays_14 : decode cX3_passDays 14 = .ok (.goto (-12), 3) := by decide +kernel
theorem dX3_passDays_17 : decode cX3_passDays 17 = .ok (.return_, 1) := by decide +kernel
theorem dX3_passDay_0 : decode cX3_passDay 0 = .ok (.aload_n 0, 1) := by decide +kernel
theorem dX3_passDay_1 : decode cX3_passDay 1 = .ok (.getfield 47, 3) := by decide +kernel
theorem dX3_passDay_4 : decode cX3_passDay 4 = .ok (.invokestatic 138, 3) := by decide +kernel
theorem dX3_passDay_7 : decode cX3_passDay 7 = .ok (.istore_n 1, 1) := by decide +kernel
theorem dX3_passDay_8 : decode cX3_passDay 8 = .ok (.iconst 0, 1) := by decide +kernel
theorem dX3_passDay_9 : decode cX3_passDay 9 = .ok (.istore_n 2, 1) := by decide +kernel
theorem dX3_passDay_10 : decode cX3_passDay 10 = .ok (.iload_n 2, 1) := by decide +kernel
theorem dX3_passDay_11 : decode cX3_passDay 11 = .ok (.aload_n 0, 1) := by decide +kernel
theorem dX3_passDay_12 : decode cX3_passDay 12 = .ok (.getfield 44, 3) := by decide +kernel
theorem dX3_passDay_15 : decode cX3_passDay 15 = .ok (.if_icmp .ge 71, 3) := by decide +kernel
theorem dX3_passDay_18 : decode cX3_passDay 18 = .ok (.aload_n 0, 1) := by decide +kernel
theorem dX3_passDay_19 : decode cX3_passDay 19 = .ok (.getfield 20, 3) := by decide +kernel
theorem dX3_passDay_22 : decode cX3_passDay 22 = .ok (.iload_n 2, 1) := by decide +kernel
theorem dX3_passDay_23 : decode cX3_passDay 23 = .ok (.aload_n 0, 1) := by decide +kernel
theorem dX3_passDay_24 : decode cX3_passDay 24 = .ok (.getfield 20, 3) := by decide +kernel
theorem dX3_passDay_27 : decode cX3_passDay 27 = .ok (.iload_n 2, 1) := by decide +kernel
theorem dX3_passDay_28 : decode cX3_passDay 28 = .ok (.iaload, 1) := by decide +kernel
theorem dX3_passDay_29 : decode cX3_passDay 29 = .ok (.aload_n 0, 1) := by decide +kernel
theorem dX3_passDay_30 : decode cX3_passDay 30 = .ok (.getfield 17, 3) := by decide +kernel
theorem dX3_passDay_33 : decode cX3_passDay 33 = .ok (.iload_n 2, 1) := by decide +kernel
theorem dX3_passDay_34 : decode cX3_passDay 34 = .ok (.iaload, 1) := by decide +kernel
theorem dX3_passDay_35 : decode cX3_passDay 35 = .ok (.aload_n 0, 1) := by decide +kernel
theorem dX3_passDay_36 : decode cX3_passDay 36 = .ok (.getfield 47, 3) := by decide +kernel
theorem dX3_passDay_39 : decode cX3_passDay 39 = .ok (.invokestatic 71, 3) := by decide +kernel
theorem dX3_passDay_42 : decode cX3_passDay 42 = .ok (.iadd, 1) := by decide +kernel
theorem dX3_passDay_43 : decode cX3_passDay 43 = .ok (.bipush 16, 2) := by decide +kernel
theorem dX3_passDay_45 : decode cX3_passDay 45 = .ok (.irem, 1) := by decide +kernel
theorem dX3_passDay_46 : decode cX3_passDay 46 = .ok (.iastore, 1) := by decide +kernel
theorem dX3_passDay_47 : decode cX3_passDay 47 = .ok (.iload_n 1, 1) := by decide +kernel
theorem dX3_passDay_48 : decode cX3_passDay 48 = .ok (.ifCond .ne 32, 3) := by decide +kernel
theorem dX3_passDay_51 : decode cX3_passDay 51 = .ok (.aload_n 0, 1) := by decide +kernel
theorem dX3_passDay_52 : decode cX3_passDay 52 = .ok (.getfield 23, 3) := by decide +kernel
theorem dX3_passDay_55 : decode cX3_passDay 55 = .ok (.iload_n 2, 1) := by decide +kernel
theorem dX3_passDay_56 : decode cX3_passDay 56 = .ok (.aload_n 0, 1) := by decide +kernel
theorem dX3_passDay_57 : decode cX3_passDay 57 = .ok (.getfield 23, 3) := by decide +kernel
theorem dX3_passDay_60 : decode cX3_passDay 60 = .ok (.iload_n 2, 1) := by decide +kernel
theorem dX3_passDay_61 : decode cX3_passDay 61 = .ok (.iaload, 1) := by decide +kernel
theorem dX3_passDay_62 : decode cX3_passDay 62 = .ok (.aload_n 0, 1) := by decide +kernel
theorem dX3_passDay_63 : decode cX3_passDay 63 = .ok (.getfield 17, 3) := by decide +kernel
theorem dX3_passDay_66 : decode cX3_passDay 66 = .ok (.iload_n 2, 1) := by decide +kernel
theorem dX3_passDay_67 : decode cX3_passDay 67 = .ok (.iaload, 1) := by decide +kernel
theorem dX3_passDay_68 : decode cX3_passDay 68 = .ok (.aload_n 0, 1) := by decide +kernel
theorem dX3_passDay_69 : decode cX3_passDay 69 = .ok (.getfield 47, 3) := by decide +kernel
theorem dX3_passDay_72 : decode cX3_passDay 72 = .ok (.invokestatic 77, 3) := by decide +kernel
theorem dX3_passDay_75 : decode cX3_passDay 75 = .ok (.iadd, 1) := by decide +kernel
theorem dX3_passDay_76 : decode cX3_passDay 76 = .ok (.bipush 12, 2) := by decide +kernel
theorem dX3_passDay_78 : decode cX3_passDay 78 = .ok (.irem, 1) := by decide +kernel
theorem dX3_passDay_79 : decode cX3_passDay 79 = .ok (.iastore, 1) := by decide +kernel
theorem dX3_passDay_80 : decode cX3_passDay 80 = .ok (.iinc 2 1, 3) := by decide +kernel
theorem dX3_passDay_83 : decode cX3_passDay 83 = .ok (.goto (-73), 3) := by decide +kernel
theorem dX3_passDay_86 : decode cX3_passDay 86 = .ok (.iconst 0, 1) := by decide +kernel
theorem dX3_passDay_87 : decode cX3_passDay 87 = .ok (.istore_n 2, 1) := by decide +kernel
theorem dX3_passDay_88 : decode cX3_passDay 88 = .ok (.iload_n 2, 1) := by decide +kernel
theorem dX3_passDay_89 : decode cX3_passDay 89 = .ok (.aload_n 0, 1) := by decide +kernel
theorem dX3_passDay_90 : decode cX3_passDay 90 = .ok (.getfield 44, 3) := by decide +kernel
theorem dX3_passDay_93 : decode cX3_passDay 93 = .ok (.if_icmp .ge 61, 3) := by decide +kernel
theorem dX3_passDay_96 : decode cX3_passDay 96 = .ok (.iload_n 2, 1) := by decide +kernel
theorem dX3_passDay_97 : decode cX3_passDay 97 = .ok (.iconst 1, 1) := by decide +kernel
theorem dX3_passDay_98 : decode cX3_passDay 98 = .ok (.iadd, 1) := by decide +kernel
theorem dX3_passDay_99 : decode cX3_passDay 99 = .ok (.istore_n 3, 1) := by decide +kernel
theorem dX3_passDay_100 : decode cX3_passDay 100 = .ok (.iload_n 3, 1) := by decide +kernel
theorem dX3_passDay_101 : decode cX3_passDay 101 = .ok (.aload_n 0, 1) := by decide +kernel
theorem dX3_passDay_102 : decode cX3_passDay 102 = .ok (.getfield 44, 3) := by decide +kernel
theorem dX3_passDay_105 : decode cX3_passDay 105 = .ok (.if_icmp .ge 43, 3) := by decide +kernel
theorem dX3_passDay_108 : decode cX3_passDay 108 = .ok (.iload_n 1, 1) := by decide +kernel
theorem dX3_passDay_109 : decode cX3_passDay 109 = .ok (.ifCond .eq 12, 3) := by decide +kernel
theorem dX3_passDay_112 : decode cX3_passDay 112 = .ok (.aload_n 0, 1) := by decide +kernel
theorem dX3_passDay_113 : decode cX3_passDay 113 = .ok (.iload_n 2, 1) := by decide +kernel
theorem dX3_passDay_114 : decode cX3_passDay 114 = .ok (.iload_n 3, 1) := by decide +kernel
theorem dX3_passDay_115 : decode cX3_passDay 115 = .ok (.invokevirtual 141, 3) := by decide +kernel
theorem dX3_passDay_118 : decode cX3_passDay 118 = .ok (.goto 24, 3) := by decide +kernel
theorem dX3_passDay_121 : decode cX3_passDay 121 = .ok (.aload_n 0, 1) := by decide +kernel
theorem dX3_passDay_122 : decode cX3_passDay 122 = .ok (.getfield 20, 3) := by decide +kernel
theorem dX3_passDay_125 : decode cX3_passDay 125 = .ok (.iload_n 2, 1) := by decide +kernel
theorem dX3_passDay_126 : decode cX3_passDay 126 = .ok (.iaload, 1) := by decide +kernel
theorem dX3_passDay_127 : decode cX3_passDay 127 = .ok (.aload_n 0, 1) := by decide +kernel
theorem dX3_passDay_128 : decode cX3_passDay 128 = .ok (.getfield 20, 3) := by decide +kernel
theorem dX3_passDay_131 : decode cX3_passDay 131 = .ok (.iload_n 3, 1) := by decide +kernel
theorem dX3_passDay_132 : decode cX3_passDay 132 = .ok (.iaload, 1) := by decide +kernel
theorem dX3_passDay_133 : decode cX3_passDay 133 = .ok (.if_icmp .ne 9, 3) := by decide +kernel
theorem dX3_passDay_136 : decode cX3_passDay 136 = .ok (.aload_n 0, 1) := by decide +kernel
theorem dX3_passDay_137 : decode cX3_passDay 137 = .ok (.iload_n 2, 1) := by decide +kernel
theorem dX3_passDay_138 : decode cX3_passDay 138 = .ok (.iload_n 3, 1) := by decide +kernel
theorem dX3_passDay_139 : decode cX3_passDay 139 = .ok (.invokevirtual 145, 3) := by decide +kernel
theorem dX3_passDay_142 : decode cX3_passDay 142 = .ok (.iinc 3 1, 3) := by decide +kernel
theorem dX3_passDay_145 : decode cX3_passDay 145 = .ok (.goto (-45), 3) := by decide +kernel
theorem dX3_passDay_148 : decode cX3_passDay 148 = .ok (.iinc 2 1, 3) := by decide +kernel
theorem dX3_passDay_151 : decode cX3_passDay 151 = .ok (.goto (-63), 3) := by decide +kernel
theorem dX3_passDay_154 : decode cX3_passDay 154 = .ok (.aload_n 0, 1) := by decide +kernel
theorem dX3_passDay_155 : decode cX3_passDay 155 = .ok (.iconst 1, 1) := by decide +kernel
theorem dX3_passDay_156 : decode cX3_passDay 156 = .ok (.invokevirtual 148, 3) := by decide +kernel
theorem dX3_passDay_159 : decode cX3_passDay 159 = .ok (.return_, 1) := by decide +kernel
theorem dX3_mingle_0 : decode cX3_mingle 0 = .ok (.aload_n 0, 1) := by decide +kernel
theorem dX3_mingle_1 : decode cX3_mingle 1 = .ok (.iload_n 1, 1) := by decide +kernel
theorem dX3_mingle_2 : decode cX3_mingle 2 = .ok (.aload_n 0, 1) := by decide +kernel
theorem dX3_mingle_3 : decode cX3_mingle 3 = .ok (.getfield 23, 3) := by decide +kernel
theorem dX3_mingle_6 : decode cX3_mingle 6 = .ok (.iload_n 2, 1) := by decide +kernel
theorem dX3_mingle_7 : decode cX3_mingle 7 = .ok (.iaload, 1) := by decide +kernel
theorem dX3_mingle_8 : decode cX3_mingle 8 = .ok (.invokevirtual 120, 3) := by decide +kernel
theorem dX3_mingle_11 : decode cX3_mingle 11 = .ok (.ifCond .eq 15, 3) := by decide +kernel
theorem dX3_mingle_14 : decode cX3_mingle 14 = .ok (.aload_n 0, 1) := by decide +kernel
theorem dX3_mingle_15 : decode cX3_mingle 15 = .ok (.getfield 26, 3) := by decide +kernel
theorem dX3_mingle_18 : decode cX3_mingle 18 = .ok (.iload_n 1, 1) := by decide +kernel
theorem dX3_mingle_19 : decode cX3_mingle 19 = .ok (.dup2, 1) := by decide +kernel
theorem dX3_mingle_20 : decode cX3_mingle 20 = .ok (.iaload, 1) := by decide +kernel
theorem dX3_mingle_21 : decode cX3_mingle 21 = .ok (.iconst 1, 1) := by decide +kernel
theorem dX3_mingle_22 : decode cX3_mingle 22 = .ok (.iload_n 2, 1) := by decide +kernel
theorem dX3_mingle_23 : decode cX3_mingle 23 = .ok (.ishl, 1) := by decide +kernel
theorem dX3_mingle_24 : decode cX3_mingle 24 = .ok (.ior, 1) := by decide +kernel
theorem dX3_mingle_25 : decode cX3_mingle 25 = .ok (.iastore, 1) := by decide +kernel
theorem dX3_mingle_26 : decode cX3_mingle 26 = .ok (.aload_n 0, 1) := by decide +kernel
theorem dX3_mingle_27 : decode cX3_mingle 27 = .ok (.iload_n 2, 1) := by decide +kernel
theorem dX3_mingle_28 : decode cX3_mingle 28 = .ok (.aload_n 0, 1) := by decide +kernel
theorem dX3_mingle_29 : decode cX3_mingle 29 = .ok (.getfield 23, 3) := by decide +kernel
theorem dX3_mingle_32 : decode cX3_mingle 32 = .ok (.iload_n 1, 1) := by decide +kernel
theorem dX3_mingle_33 : decode cX3_mingle 33 = .ok (.iaload, 1) := by decide +kernel
theorem dX3_mingle_34 : decode cX3_mingle 34 = .ok (.invokevirtual 120, 3) := by decide +kernel
theorem dX3_mingle_37 : decode cX3_mingle 37 = .ok (.ifCond .eq 15, 3) := by decide +kernel
theorem dX3_mingle_40 : decode cX3_mingle 40 = .ok (.aload_n 0, 1) := by decide +kernel
theorem dX3_mingle_41 : decode cX3_mingle 41 = .ok (.getfield 26, 3) := by decide +kernel
theorem dX3_mingle_44 : decode cX3_mingle 44 = .ok (.iload_n 2, 1) := by decide +kernel
theorem dX3_mingle_45 : decode cX3_mingle 45 = .ok (.dup2, 1) := by decide +kernel
theorem dX3_mingle_46 : decode cX3_mingle 46 = .ok (.iaload, 1) := by decide +kernel
theorem dX3_mingle_47 : decode cX3_mingle 47 = .ok (.iconst 1, 1) := by decide +kernel
theorem dX3_mingle_48 : decode cX3_mingle 48 = .ok (.iload_n 1, 1) := by decide +kernel
theorem dX3_mingle_49 : decode cX3_mingle 49 = .ok (.ishl, 1) := by decide +kernel
theorem dX3_mingle_50 : decode cX3_mingle 50 = .ok (.ior, 1) := by decide +kernel
theorem dX3_mingle_51 : decode cX3_mingle 51 = .ok (.iastore, 1) := by decide +kernel
theorem dX3_mingle_52 : decode cX3_mingle 52 = .ok (.return_, 1) := by decide +kernel
theorem dX3_meetEachOther_0 : decode cX3_meetEachOther 0 = .ok (.aload_n 0, 1) := by decide +kernel
theorem dX3_meetEachOther_1 : decode cX3_meetEachOther 1 = .ok (.iload_n 1, 1) := by decide +kernel
theorem dX3_meetEachOther_2 : decode cX3_meetEachOther 2 = .ok (.iload_n 2, 1) := by decide +kernel
theorem dX3_meetEachOther_3 : decode cX3_meetEachOther 3 = .ok (.invokevirtual 152, 3) := by decide +kernel
theorem dX3_meetEachOther_6 : decode cX3_meetEachOther 6 = .ok (.ifCond .eq 27, 3) := by decide +kernel
theorem dX3_meetEachOther_9 : decode cX3_meetEachOther 9 = .ok (.aload_n 0, 1) := by decide +kernel
theorem dX3_meetEachOther_10 : decode cX3_meetEachOther 10 = .ok (.getfield 26, 3) := by decide +kernel
theorem dX3_meetEachOther_13 : decode cX3_meetEachOther 13 = .ok (.iload_n 1, 1) := by decide +kernel
theorem dX3_meetEachOther_14 : decode cX3_meetEachOther 14 = .ok (.dup2, 1) := by decide +kernel
theorem dX3_meetEachOther_15 : decode cX3_meetEachOther 15 = .ok (.iaload, 1) := by decide +kernel
theorem dX3_meetEachOther_16 : decode cX3_meetEachOther 16 = .ok (.iconst 1, 1) := by decide +kernel
theorem dX3_meetEachOther_17 : decode cX3_meetEachOther 17 = .ok (.iload_n 2, 1) := by decide +kernel
theorem dX3_meetEachOther_18 : decode cX3_meetEachOther 18 = .ok (.ishl, 1) := by decide +kernel
theorem dX3_meetEachOther_19 : decode cX3_meetEachOther 19 = .ok (.ior, 1) := by decide +kernel
theorem dX3_meetEachOther_20 : decode cX3_meetEachOther 20 = .ok (.iastore, 1) := by decide +kernel
theorem dX3_meetEachOther_21 : decode cX3_meetEachOther 21 = .ok (.aload_n 0, 1) := by decide +kernel
theorem dX3_meetEachOther_22 : decode cX3_meetEachOther 22 = .ok (.getfield 26, 3) := by decide +kernel
theorem dX3_meetEachOther_25 : decode cX3_meetEachOther 25 = .ok (.iload_n 2, 1) := by decide +kernel
theorem dX3_meetEachOther_26 : decode cX3_meetEachOther 26 = .ok (.dup2, 1) := by decide +kernel
theorem dX3_meetEachOther_27 : decode cX3_meetEachOther 27 = .ok (.iaload, 1) := by decide +kernel
theorem dX3_meetEachOther_28 : decode cX3_meetEachOther 28 = .ok (.iconst 1, 1) := by decide +kernel
theorem dX3_meetEachOther_29 : decode cX3_meetEachOther 29 = .ok (.iload_n 1, 1) := by decide +kernel
theorem dX3_meetEachOther_30 : decode cX3_meetEachOther 30 = .ok (.ishl, 1) := by decide +kernel
theorem dX3_meetEachOther_31 : decode cX3_meetEachOther 31 = .ok (.ior, 1) := by decide +kernel
theorem dX3_meetEachOther_32 : decode cX3_meetEachOther 32 = .ok (.iastore, 1) := by decide +kernel
theorem dX3_meetEachOther_33 : decode cX3_meetEachOther 33 = .ok (.return_, 1) := by decide +kernel
theorem dX3_seeEachOther_0 : decode cX3_seeEachOther 0 = .ok (.aload_n 0, 1) := by decide +kernel
theorem dX3_seeEachOther_1 : decode cX3_seeEachOther 1 = .ok (.iload_n 1, 1) := by decide +kernel
theorem dX3_seeEachOther_2 : decode cX3_seeEachOther 2 = .ok (.iload_n 2, 1) := by decide +kernel
theorem dX3_seeEachOther_3 : decode cX3_seeEachOther 3 = .ok (.invokevirtual 155, 3) := by decide +kernel
theorem dX3_seeEachOther_6 : decode cX3_seeEachOther 6 = .ok (.ifCond .ne 4, 3) := by decide +kernel
theorem dX3_seeEachOther_9 : decode cX3_seeEachOther 9 = .ok (.return_, 1) := by decide +kernel
theorem dX3_seeEachOther_10 : decode cX3_seeEachOther 10 = .ok (.aload_n 0, 1) := by decide +kernel
theorem dX3_seeEachOther_11 : decode cX3_seeEachOther 11 = .ok (.iload_n 1, 1) := by decide +kernel
theorem dX3_seeEachOther_12 : decode cX3_seeEachOther 12 = .ok (.iload_n 2, 1) := by decide +kernel
theorem dX3_seeEachOther_13 : decode cX3_seeEachOther 13 = .ok (.invokevirtual 158, 3) := by decide +kernel
theorem dX3_seeEachOther_16 : decode cX3_seeEachOther 16 = .ok (.ifCond .eq 18, 3) := by decide +kernel
theorem dX3_seeEachOther_19 : decode cX3_seeEachOther 19 = .ok (.aload_n 0, 1) := by decide +kernel
theorem dX3_seeEachOther_20 : decode cX3_seeEachOther 20 = .ok (.iload_n 1, 1) := by decide +kernel
theorem dX3_seeEachOther_21 : decode cX3_seeEachOther 21 = .ok (.iload_n 2, 1) := by decide +kernel
theorem dX3_seeEachOther_22 : decode cX3_seeEachOther 22 = .ok (.invokevirtual 161, 3) := by decide +kernel
theorem dX3_seeEachOther_25 : decode cX3_seeEachOther 25 = .ok (.aload_n 0, 1) := by decide +kernel
theorem dX3_seeEachOther_26 : decode cX3_seeEachOther 26 = .ok (.iload_n 2, 1) := by decide +kernel
theorem dX3_seeEachOther_27 : decode cX3_seeEachOther 27 = .ok (.iload_n 1, 1) := by decide +kernel
theorem dX3_seeEachOther_28 : decode cX3_seeEachOther 28 = .ok (.invokevirtual 161, 3) := by decide +kernel
theorem dX3_seeEachOther_31 : decode cX3_seeEachOther 31 = .ok (.goto 13, 3) := by decide +kernel
theorem dX3_seeEachOther_34 : decode cX3_seeEachOther 34 = .ok (.aload_n 0, 1) := by decide +kernel
theorem dX3_seeEachOther_35 : decode cX3_seeEachOther 35 = .ok (.iload_n 1, 1) := by decide +kernel
theorem dX3_seeEachOther_36 : decode cX3_seeEachOther 36 = .ok (.invokevirtual 164, 3) := by decide +kernel
theorem dX3_seeEachOther_39 : decode cX3_seeEachOther 39 = .ok (.aload_n 0, 1) := by decide +kernel
theorem dX3_seeEachOther_40 : decode cX3_seeEachOther 40 = .ok (.iload_n 2, 1) := by decide +kernel
theorem dX3_seeEachOther_41 : decode cX3_seeEachOther 41 = .ok (.invokevirtual 164, 3) := by decide +kernel
theorem dX3_seeEachOther_44 : decode cX3_seeEachOther 44 = .ok (.return_, 1) := by decide +kernel
theorem dX3_comeToKnow_0 : decode cX3_comeToKnow 0 = .ok (.aload_n 0, 1) := by decide +kernel
theorem dX3_comeToKnow_1 : decode cX3_comeToKnow 1 = .ok (.getfield 29, 3) := by decide +kernel
theorem dX3_comeToKnow_4 : decode cX3_comeToKnow 4 = .ok (.iload_n 1, 1) := by decide +kernel
theorem dX3_comeToKnow_5 : decode cX3_comeToKnow 5 = .ok (.iaload, 1) := by decide +kernel
theorem dX3_comeToKnow_6 : decode cX3_comeToKnow 6 = .ok (.iload_n 2, 1) := by decide +kernel
theorem dX3_comeToKnow_7 : decode cX3_comeToKnow 7 = .ok (.invokestatic 105, 3) := by decide +kernel
theorem dX3_comeToKnow_10 : decode cX3_comeToKnow 10 = .ok (.ifCond .eq 4, 3) := by decide +kernel
theorem dX3_comeToKnow_13 : decode cX3_comeToKnow 13 = .ok (.return_, 1) := by decide +kernel
theorem dX3_comeToKnow_14 : decode cX3_comeToKnow 14 = .ok (.aload_n 0, 1) := by decide +kernel
theorem dX3_comeToKnow_15 : decode cX3_comeToKnow 15 = .ok (.getfield 17, 3) := by decide +kernel
theorem dX3_comeToKnow_18 : decode cX3_comeToKnow 18 = .ok (.iload_n 1, 1) := by decide +kernel
theorem dX3_comeToKnow_19 : decode cX3_comeToKnow 19 = .ok (.iaload, 1) := by decide +kernel
theorem dX3_comeToKnow_20 : decode cX3_comeToKnow 20 = .ok (.aload_n 0, 1) := by decide +kernel
theorem dX3_comeToKnow_21 : decode cX3_comeToKnow 21 = .ok (.getfield 29, 3) := by decide +kernel
theorem dX3_comeToKnow_24 : decode cX3_comeToKnow 24 = .ok (.iload_n 1, 1) := by decide +kernel
theorem dX3_comeToKnow_25 : decode cX3_comeToKnow 25 = .ok (.iaload, 1) := by decide +kernel
theorem dX3_comeToKnow_26 : decode cX3_comeToKnow 26 = .ok (.invokestatic 84, 3) := by decide +kernel
theorem dX3_comeToKnow_29 : decode cX3_comeToKnow 29 = .ok (.invokestatic 89, 3) := by decide +kernel
theorem dX3_comeToKnow_32 : decode cX3_comeToKnow 32 = .ok (.istore_n 3, 1) := by decide +kernel
theorem dX3_comeToKnow_33 : decode cX3_comeToKnow 33 = .ok (.aload_n 0, 1) := by decide +kernel
theorem dX3_comeToKnow_34 : decode cX3_comeToKnow 34 = .ok (.ldc 134, 2) := by decide +kernel
theorem dX3_comeToKnow_36 : decode cX3_comeToKnow 36 = .ok (.aload_n 0, 1) := by decide +kernel
theorem dX3_comeToKnow_37 : decode cX3_comeToKnow 37 = .ok (.getfield 50, 3) := by decide +kernel
theorem dX3_comeToKnow_40 : decode cX3_comeToKnow 40 = .ok (.iload_n 3, 1) := by decide +kernel
theorem dX3_comeToKnow_41 : decode cX3_comeToKnow 41 = .ok (.iadd, 1) := by decide +kernel
theorem dX3_comeToKnow_42 : decode cX3_comeToKnow 42 = .ok (.invokestatic 113, 3) := by decide +kernel
theorem dX3_comeToKnow_45 : decode cX3_comeToKnow 45 = .ok (.putfield 50, 3) := by decide +kernel
theorem dX3_comeToKnow_48 : decode cX3_comeToKnow 48 = .ok (.aload_n 0, 1) := by decide +kernel
theorem dX3_comeToKnow_49 : decode cX3_comeToKnow 49 = .ok (.getfield 29, 3) := by decide +kernel
theorem dX3_comeToKnow_52 : decode cX3_comeToKnow 52 = .ok (.iload_n 1, 1) := by decide +kernel
theorem dX3_comeToKnow_53 : decode cX3_comeToKnow 53 = .ok (.dup2, 1) := by decide +kernel
theorem dX3_comeToKnow_54 : decode cX3_comeToKnow 54 = .ok (.iaload, 1) := by decide +kernel
theorem dX3_comeToKnow_55 : decode cX3_comeToKnow 55 = .ok (.iconst 1, 1) := by decide +kernel
theorem dX3_comeToKnow_56 : decode cX3_comeToKnow 56 = .ok (.iload_n 2, 1) := by decide +kernel
theorem dX3_comeToKnow_57 : decode cX3_comeToKnow 57 = .ok (.ishl, 1) := by decide +kernel
theorem dX3_comeToKnow_58 : decode cX3_comeToKnow 58 = .ok (.ior, 1) := by decide +kernel
theorem dX3_comeToKnow_59 : decode cX3_comeToKnow 59 = .ok (.iastore, 1) := by decide +kernel
theorem dX3_comeToKnow_60 : decode cX3_comeToKnow 60 = .ok (.return_, 1) := by decide +kernel
theorem dX3_goBy_0 : decode cX3_goBy 0 = .ok (.aload_n 0, 1) := by decide +kernel
theorem dX3_goBy_1 : decode cX3_goBy 1 = .ok (.getfield 35, 3) := by decide +kernel
theorem dX3_goBy_4 : decode cX3_goBy 4 = .ok (.iload_n 1, 1) := by decide +kernel
theorem dX3_goBy_5 : decode cX3_goBy 5 = .ok (.sipush 9999, 3) := by decide +kernel
theorem dX3_goBy_8 : decode cX3_goBy 8 = .ok (.aload_n 0, 1) := by decide +kernel
theorem dX3_goBy_9 : decode cX3_goBy 9 = .ok (.getfield 35, 3) := by decide +kernel
theorem dX3_goBy_12 : decode cX3_goBy 12 = .ok (.iload_n 1, 1) := by decide +kernel
theorem dX3_goBy_13 : decode cX3_goBy 13 = .ok (.iaload, 1) := by decide +kernel
theorem dX3_goBy_14 : decode cX3_goBy 14 = .ok (.iconst 1, 1) := by decide +kernel
theorem dX3_goBy_15 : decode cX3_goBy 15 = .ok (.iadd, 1) := by decide +kernel
theorem dX3_goBy_16 : decode cX3_goBy 16 = .ok (.invokestatic 113, 3) := by decide +kernel
theorem dX3_goBy_19 : decode cX3_goBy 19 = .ok (.iastore, 1) := by decide +kernel
theorem dX3_goBy_20 : decode cX3_goBy 20 = .ok (.return_, 1) := by decide +kernel
theorem dX3_draw_0 : decode cX3_draw 0 = .ok (.aload_n 0, 1) := by decide +kernel
theorem dX3_draw_1 : decode cX3_draw 1 = .ok (.aload_n 0, 1) := by decide +kernel
theorem dX3_draw_2 : decode cX3_draw 2 = .ok (.getfield 7, 3) := by decide +kernel
theorem dX3_draw_5 : decode cX3_draw 5 = .ok (.ldc 167, 2) := by decide +kernel
theorem dX3_draw_7 : decode cX3_draw 7 = .ok (.imul, 1) := by decide +kernel
theorem dX3_draw_8 : decode cX3_draw 8 = .ok (.sipush 12345, 3) := by decide +kernel
theorem dX3_draw_11 : decode cX3_draw 11 = .ok (.iadd, 1) := by decide +kernel
theorem dX3_draw_12 : decode cX3_draw 12 = .ok (.putfield 7, 3) := by decide +kernel
theorem dX3_draw_15 : decode cX3_draw 15 = .ok (.aload_n 0, 1) := by decide +kernel
theorem dX3_draw_16 : decode cX3_draw 16 = .ok (.getfield 7, 3) := by decide +kernel
theorem dX3_draw_19 : decode cX3_draw 19 = .ok (.bipush 8, 2) := by decide +kernel
theorem dX3_draw_21 : decode cX3_draw 21 = .ok (.iushr, 1) := by decide +kernel
theorem dX3_draw_22 : decode cX3_draw 22 = .ok (.ireturn, 1) := by decide +kernel
theorem dX4_init_0 : decode cX4_init 0 = .ok (.aload_n 0, 1) := by decide +kernel
theorem dX4_init_1 : decode cX4_init 1 = .ok (.invokespecial 1, 3) := by decide +kernel
theorem dX4_init_4 : decode cX4_init 4 = .ok (.aload_n 0, 1) := by decide +kernel
theorem dX4_init_5 : decode cX4_init 5 = .ok (.new 7, 3) := by decide +kernel
theorem dX4_init_8 : decode cX4_init 8 = .ok (.dup, 1) := by decide +kernel
theorem dX4_init_9 : decode cX4_init 9 = .ok (.invokespecial 9, 3) := by decide +kernel
theorem dX4_init_12 : decode cX4_init 12 = .ok (.putfield 10, 3) := by decide +kernel
theorem dX4_init_15 : decode cX4_init 15 = .ok (.aload_n 0, 1) := by decide +kernel
theorem dX4_init_16 : decode cX4_init 16 = .ok (.new 7, 3) := by decide +kernel
theorem dX4_init_19 : decode cX4_init 19 = .ok (.dup, 1) := by decide +kernel
theorem dX4_init_20 : decode cX4_init 20 = .ok (.invokespecial 9, 3) := by decide +kernel
theorem dX4_init_23 : decode cX4_init 23 = .ok (.putfield 16, 3) := by decide +kernel
theorem dX4_init_26 : decode cX4_init 26 = .ok (.aload_n 0, 1) := by decide +kernel
theorem dX4_init_27 : decode cX4_init 27 = .ok (.new 7, 3) := by decide +kernel
theorem dX4_init_30 : decode cX4_init 30 = .ok (.dup, 1) := by decide +kernel
theorem dX4_init_31 : decode cX4_init 31 = .ok (.invokespecial 9, 3) := by decide +kernel
theorem dX4_init_34 : decode cX4_init 34 = .ok (.putfield 19, 3) := by decide +kernel
theorem dX4_init_37 : decode cX4_init 37 = .ok (.aload_n 0, 1) := by decide +kernel
theorem dX4_init_38 : decode cX4_init 38 = .ok (.new 22, 3) := by decide +kernel
theorem dX4_init_41 : decode cX4_init 41 = .ok (.dup, 1) := by decide +kernel
theorem dX4_init_42 : decode cX4_init 42 = .ok (.invokespecial 24, 3) := by decide +kernel
theorem dX4_init_45 : decode cX4_init 45 = .ok (.putfield 25, 3) := by decide +kernel
theorem dX4_init_48 : decode cX4_init 48 = .ok (.aload_n 0, 1) := by decide +kernel
theorem dX4_init_49 : decode cX4_init 49 = .ok (.new 29, 3) := by decide +kernel
theorem dX4_init_52 : decode cX4_init 52 = .ok (.dup, 1) := by decide +kernel
theorem dX4_init_53 : decode cX4_init 53 = .ok (.invokespecial 31, 3) := by decide +kernel
theorem dX4_init_56 : decode cX4_init 56 = .ok (.putfield 32, 3) := by decide +kernel
theorem dX4_init_59 : decode cX4_init 59 = .ok (.aload_n 0, 1) := by decide +kernel
theorem dX4_init_60 : decode cX4_init 60 = .ok (.bipush 7, 2) := by decide +kernel
theorem dX4_init_62 : decode cX4_init 62 = .ok (.newarray .int, 2) := by decide +kernel
theorem dX4_init_64 : decode cX4_init 64 = .ok (.putfield 36, 3) := by decide +kernel
theorem dX4_init_67 : decode cX4_init 67 = .ok (.return_, 1) := by decide +kernel
theorem dX4_person_0 : decode cX4_person 0 = .ok (.iload_n 1, 1) := by decide +kernel
theorem dX4_person_1 : decode cX4_person 1 = .ok (.bipush 7, 2) := by decide +kernel
theorem dX4_person_3 : decode cX4_person 3 = .ok (.invokestatic 40, 3) := by decide +kernel
theorem dX4_person_6 : decode cX4_person 6 = .ok (.ifCond .eq 12, 3) := by decide +kernel
theorem dX4_person_9 : decode cX4_person 9 = .ok (.iload_n 2, 1) := by decide +kernel
theorem dX4_person_10 : decode cX4_person 10 = .ok (.bipush 16, 2) := by decide +kernel
theorem dX4_person_12 : decode cX4_person 12 = .ok (.invokestatic 40, 3) := by decide +kernel
theorem dX4_person_15 : decode cX4_person 15 = .ok (.ifCond .ne 9, 3) := by decide +kernel
theorem dX4_person_18 : decode cX4_person 18 = .ok (.aload_n 0, 1) := by decide +kernel
theorem dX4_person_19 : decode cX4_person 19 = .ok (.iconst 0, 1) := by decide +kernel
theorem dX4_person_20 : decode cX4_person 20 = .ok (.invokevirtual 44, 3) := by decide +kernel
theorem dX4_person_23 : decode cX4_person 23 = .ok (.ireturn, 1) := by decide +kernel
theorem dX4_person_24 : decode cX4_person 24 = .ok (.aload_n 0, 1) := by decide +kernel
theorem dX4_person_25 : decode cX4_person 25 = .ok (.getfield 10, 3) := by decide +kernel
theorem dX4_person_28 : decode cX4_person 28 = .ok (.invokevirtual 48, 3) := by decide +kernel
theorem dX4_person_31 : decode cX4_person 31 = .ok (.ifCond .eq 9, 3) := by decide +kernel
theorem dX4_person_34 : decode cX4_person 34 = .ok (.aload_n 0, 1) := by decide +kernel
theorem dX4_person_35 : decode cX4_person 35 = .ok (.iconst 1, 1) := by decide +kernel
theorem dX4_person_36 : decode cX4_person 36 = .ok (.invokevirtual 44, 3) := by decide +kernel
theorem dX4_person_39 : decode cX4_person 39 = .ok (.ireturn, 1) := by decide +kernel
theorem dX4_person_40 : decode cX4_person 40 = .ok (.aload_n 0, 1) := by decide +kernel
theorem dX4_person_41 : decode cX4_person 41 = .ok (.getfield 10, 3) := by decide +kernel
theorem dX4_person_44 : decode cX4_person 44 = .ok (.iload_n 1, 1) := by decide +kernel
theorem dX4_person_45 : decode cX4_person 45 = .ok (.iload_n 2, 1) := by decide +kernel
theorem dX4_person_46 : decode cX4_person 46 = .ok (.invokevirtual 52, 3) := by decide +kernel
theorem dX4_person_49 : decode cX4_person 49 = .ok (.ireturn, 1) := by decide +kernel
theorem dX4_of_0 : decode cX4_of 0 = .ok (.aload_n 0, 1) := by decide +kernel
theorem dX4_of_1 : decode cX4_of 1 = .ok (.getfield 10, 3) := by decide +kernel
theorem dX4_of_4 : decode cX4_of 4 = .ok (.iload_n 1, 1) := by decide +kernel
theorem dX4_of_5 : decode cX4_of 5 = .ok (.invokevirtual 56, 3) := by decide +kernel
theorem dX4_of_8 : decode cX4_of 8 = .ok (.ifCond .eq 12, 3) := by decide +kernel
theorem dX4_of_11 : decode cX4_of 11 = .ok (.iload_n 2, 1) := by decide +kernel
theorem dX4_of_12 : decode cX4_of 12 = .ok (.bipush 11, 2) := by decide +kernel
theorem dX4_of_14 : decode cX4_of 14 = .ok (.invokestatic 40, 3) := by decide +kernel
theorem dX4_of_17 : decode cX4_of 17 = .ok (.ifCond .ne 9, 3) := by decide +kernel
theorem dX4_of_20 : decode cX4_of 20 = .ok (.aload_n 0, 1) := by decide +kernel
theorem dX4_of_21 : decode cX4_of 21 = .ok (.iconst 0, 1) := by decide +kernel
theorem dX4_of_22 : decode cX4_of 22 = .ok (.invokevirtual 44, 3) := by decide +kernel
theorem dX4_of_25 : decode cX4_of 25 = .ok (.ireturn, 1) := by decide +kernel
theorem dX4_of_26 : decode cX4_of 26 = .ok (.aload_n 0, 1) := by decide +kernel
theorem dX4_of_27 : decode cX4_of 27 = .ok (.getfield 10, 3) := by decide +kernel
theorem dX4_of_30 : decode cX4_of 30 = .ok (.iload_n 1, 1) := by decide +kernel
theorem dX4_of_31 : decode cX4_of 31 = .ok (.iload_n 2, 1) := by decide +kernel
theorem dX4_of_32 : decode cX4_of 32 = .ok (.invokevirtual 60, 3) := by decide +kernel
theorem dX4_of_35 : decode cX4_of 35 = .ok (.ireturn, 1) := by decide +kernel
theorem dX4_change_0 : decode cX4_change 0 = .ok (.aload_n 0, 1) := by decide +kernel
theorem dX4_change_1 : decode cX4_change 1 = .ok (.getfield 10, 3) := by decide +kernel
theorem dX4_change_4 : decode cX4_change 4 = .ok (.iload_n 1, 1) := by decide +kernel
theorem dX4_change_5 : decode cX4_change 5 = .ok (.invokevirtual 56, 3) := by decide +kernel
theorem dX4_change_8 : decode cX4_change 8 = .ok (.ifCond .eq 16, 3) := by decide +kernel
theorem dX4_change_11 : decode cX4_change 11 = .ok (.aload_n 0, 1) := by decide +kernel
theorem dX4_change_12 : decode cX4_change 12 = .ok (.getfield 10, 3) := by decide +kernel
theorem dX4_change_15 : decode cX4_change 15 = .ok (.iload_n 1, 1) := by decide +kernel
theorem dX4_change_16 : decode cX4_change 16 = .ok (.iload_n 2, 1) := by decide +kernel
theorem dX4_change_17 : decode cX4_change 17 = .ok (.iload_n 3, 1) := by decide +kernel
theorem dX4_change_18 : decode cX4_change 18 = .ok (.invokevirtual 63, 3) := by decide +kernel
theorem dX4_change_21 : decode cX4_change 21 = .ok (.ifCond .ne 9, 3) := by decide +kernel
theorem dX4_change_24 : decode cX4_change 24 = .ok (.aload_n 0, 1) := by decide +kernel
theorem dX4_change_25 : decode cX4_change 25 = .ok (.iconst 0, 1) := by decide +kernel
theorem dX4_change_26 : decode cX4_change 26 = .ok (.invokevirtual 44, 3) := by decide +kernel
theorem dX4_change_29 : decode cX4_change 29 = .ok (.ireturn, 1) := by decide +kernel
theorem dX4_change_30 : decode cX4_change 30 = .ok (.aload_n 0, 1) := by decide +kernel
theorem dX4_change_31 : decode cX4_change 31 = .ok (.getfield 10, 3) := by decide +kernel
theorem dX4_change_34 : decode cX4_change 34 = .ok (.iload_n 1, 1) := by decide +kernel
theorem dX4_change_35 : decode cX4_change 35 = .ok (.iload_n 2, 1) := by decide +kernel
theorem dX4_change_36 : decode cX4_change 36 = .ok (.invokevirtual 60, 3) := by decide +kernel
theorem dX4_change_39 : decode cX4_change 39 = .ok (.istore 4, 2) := by decide +kernel
theorem dX4_change_41 : decode cX4_change 41 = .ok (.aload_n 0, 1) := by decide +kernel
theorem dX4_change_42 : decode cX4_change 42 = .ok (.getfield 10, 3) := by decide +kernel
theorem dX4_change_45 : decode cX4_change 45 = .ok (.iload_n 1, 1) := by decide +kernel
theorem dX4_change_46 : decode cX4_change 46 = .ok (.iload_n 2, 1) := by decide +kernel
theorem dX4_change_47 : decode cX4_change 47 = .ok (.iload_n 3, 1) := by decide +kernel
theorem dX4_change_48 : decode cX4_change 48 = .ok (.invokevirtual 67, 3) := by decide +kernel
theorem dX4_change_51 : decode cX4_change 51 = .ok (.iload 4, 2) := by decide +kernel
theorem dX4_change_53 : decode cX4_change 53 = .ok (.ireturn, 1) := by decide +kernel
theorem dX4_minds_0 : decode cX4_minds 0 = .ok (.aload_n 0, 1) := by decide +kernel
theorem dX4_minds_1 : decode cX4_minds 1 = .ok (.getfield 10, 3) := by decide +kernel
theorem dX4_minds_4 : decode cX4_minds 4 = .ok (.iload_n 1, 1) := by decide +kernel
theorem dX4_minds_5 : decode cX4_minds 5 = .ok (.invokevirtual 56, 3) := by decide +kernel
theorem dX4_minds_8 : decode cX4_minds 8 = .ok (.ifCond .eq 12, 3) := by decide +kernel
theorem dX4_minds_11 : decode cX4_minds 11 = .ok (.iload_n 2, 1) := by decide +kernel
theorem dX4_minds_12 : decode cX4_minds 12 = .ok (.bipush 12, 2) := by decide +kernel
theorem dX4_minds_14 : decode cX4_minds 14 = .ok (.invokestatic 40, 3) := by decide +kernel
theorem dX4_minds_17 : decode cX4_minds 17 = .ok (.ifCond .ne 9, 3) := by decide +kernel
theorem dX4_minds_20 : decode cX4_minds 20 = .ok (.aload_n 0, 1) := by decide +kernel
theorem dX4_minds_21 : decode cX4_minds 21 = .ok (.iconst 0, 1) := by decide +kernel
theorem dX4_minds_22 : decode cX4_minds 22 = .ok (.invokevirtual 44, 3) := by decide +kernel
theorem dX4_minds_25 : decode cX4_minds 25 = .ok (.ireturn, 1) := by decide +kernel
theorem dX4_minds_26 : decode cX4_minds 26 = .ok (.aload_n 0, 1) := by decide +kernel
theorem dX4_minds_27 : decode cX4_minds 27 = .ok (.getfield 10, 3) := by decide +kernel
theorem dX4_minds_30 : decode cX4_minds 30 = .ok (.iload_n 1, 1) := by decide +kernel
theorem dX4_minds_31 : decode cX4_minds 31 = .ok (.iload_n 2, 1) := by decide +kernel
theorem dX4_minds_32 : decode cX4_minds 32 = .ok (.invokevirtual 71, 3) := by decide +kernel
theorem dX4_minds_35 : decode cX4_minds 35 = .ok (.invokestatic 74, 3) := by decide +kernel
theorem dX4_minds_38 : decode cX4_minds 38 = .ok (.ireturn, 1) := by decide +kernel
theorem dX4_far_0 : decode cX4_far 0 = .ok (.aload_n 0, 1) := by decide +kernel
theorem dX4_far_1 : decode cX4_far 1 = .ok (.getfield 10, 3) := by decide +kernel
theorem dX4_far_4 : decode cX4_far 4 = .ok (.iload_n 1, 1) := by decide +kernel
theorem dX4_far_5 : decode cX4_far 5 = .ok (.iload_n 2, 1) := by decide +kernel
theorem dX4_far_6 : decode cX4_far 6 = .ok (.invokevirtual 78, 3) := by decide +kernel
theorem dX4_far_9 : decode cX4_far 9 = .ok (.ifCond .ne 9, 3) := by decide +kernel
theorem dX4_far_12 : decode cX4_far 12 = .ok (.aload_n 0, 1) := by decide +kernel
theorem dX4_far_13 : decode cX4_far 13 = .ok (.iconst 0, 1) := by decide +kernel
theorem dX4_far_14 : decode cX4_far 14 = .ok (.invokevirtual 44, 3) := by decide +kernel
theorem dX4_far_17 : decode cX4_far 17 = .ok (.ireturn, 1) := by decide +kernel
theorem dX4_far_18 : decode cX4_far 18 = .ok (.aload_n 0, 1) := by decide +kernel
theorem dX4_far_19 : decode cX4_far 19 = .ok (.getfield 10, 3) := by decide +kernel
theorem dX4_far_22 : decode cX4_far 22 = .ok (.iload_n 1, 1) := by decide +kernel
theorem dX4_far_23 : decode cX4_far 23 = .ok (.iload_n 2, 1) := by decide +kernel
theorem dX4_far_24 : decode cX4_far 24 = .ok (.invokevirtual 81, 3) := by decide +kernel
theorem dX4_far_27 : decode cX4_far 27 = .ok (.ireturn, 1) := by decide +kernel
theorem dX4_who_0 : decode cX4_who 0 = .ok (.iload_n 1, 1) := by decide +kernel
theorem dX4_who_1 : decode cX4_who 1 = .ok (.bipush 16, 2) := by decide +kernel
theorem dX4_who_3 : decode cX4_who 3 = .ok (.invokestatic 40, 3) := by decide +kernel
theorem dX4_who_6 : decode cX4_who 6 = .ok (.ifCond .ne 9, 3) := by decide +kernel
theorem dX4_who_9 : decode cX4_who 9 = .ok (.aload_n 0, 1) := by decide +kernel
theorem dX4_who_10 : decode cX4_who 10 = .ok (.iconst 0, 1) := by decide +kernel
theorem dX4_who_11 : decode cX4_who 11 = .ok (.invokevirtual 44, 3) := by decide +kernel
theorem dX4_who_14 : decode cX4_who 14 = .ok (.ireturn, 1) := by decide +kernel
theorem dX4_who_15 : decode cX4_who 15 = .ok (.aload_n 0, 1) := by decide +kernel
theorem dX4_who_16 : decode cX4_who 16 = .ok (.getfield 10, 3) := by decide +kernel
theorem dX4_who_19 : decode cX4_who 19 = .ok (.iload_n 1, 1) := by decide +kernel
theorem dX4_who_20 : decode cX4_who 20 = .ok (.invokevirtual 84, 3) := by decide +kernel
theorem dX4_who_23 : decode cX4_who 23 = .ok (.ireturn, 1) := by decide +kernel
theorem dX4_two_0 : decode cX4_two 0 = .ok (.aload_n 0, 1) := by decide +kernel
theorem dX4_two_1 : decode cX4_two 1 = .ok (.getfield 10, 3) := by decide +kernel
theorem dX4_two_4 : decode cX4_two 4 = .ok (.iload_n 1, 1) := by decide +kernel
theorem dX4_two_5 : decode cX4_two 5 = .ok (.iload_n 2, 1) := by decide +kernel
theorem dX4_two_6 : decode cX4_two 6 = .ok (.invokevirtual 78, 3) := by decide +kernel
theorem dX4_two_9 : decode cX4_two 9 = .ok (.ifCond .ne 9, 3) := by decide +kernel
theorem dX4_two_12 : decode cX4_two 12 = .ok (.aload_n 0, 1) := by decide +kernel
theorem dX4_two_13 : decode cX4_two 13 = .ok (.iconst 0, 1) := by decide +kernel
theorem dX4_two_14 : decode cX4_two 14 = .ok (.invokevirtual 44, 3) := by decide +kernel
theorem dX4_two_17 : decode cX4_two 17 = .ok (.ireturn, 1) := by decide +kernel
theorem dX4_two_18 : decode cX4_two 18 = .ok (.iload_n 3, 1) := by decide +kernel
theorem dX4_two_19 : decode cX4_two 19 = .ok (.tableswitch 64 0 2 #[25, 38, 51], 25) := by decide +kernel
theorem dX4_two_44 : decode cX4_two 44 = .ok (.aload_n 0, 1) := by decide +kernel
theorem dX4_two_45 : decode cX4_two 45 = .ok (.getfield 10, 3) := by decide +kernel
theorem dX4_two_48 : decode cX4_two 48 = .ok (.iload_n 1, 1) := by decide +kernel
theorem dX4_two_49 : decode cX4_two 49 = .ok (.iload_n 2, 1) := by decide +kernel
theorem dX4_two_50 : decode cX4_two 50 = .ok (.invokevirtual 87, 3) := by decide +kernel
theorem dX4_two_53 : decode cX4_two 53 = .ok (.invokestatic 74, 3) := by decide +kernel
theorem dX4_two_56 : decode cX4_two 56 = .ok (.ireturn, 1) := by decide +kernel
theorem dX4_two_57 : decode cX4_two 57 = .ok (.aload_n 0, 1) := by decide +kernel
theorem dX4_two_58 : decode cX4_two 58 = .ok (.getfield 10, 3) := by decide +kernel
theorem dX4_two_61 : decode cX4_two 61 = .ok (.iload_n 1, 1) := by decide +kernel
theorem dX4_two_62 : decode cX4_two 62 = .ok (.iload_n 2, 1) := by decide +kernel
theorem dX4_two_63 : decode cX4_two 63 = .ok (.invokevirtual 90, 3) := by decide +kernel
theorem dX4_two_66 : decode cX4_two 66 = .ok (.invokestatic 74, 3) := by decide +kernel
theorem dX4_two_69 : decode cX4_two 69 = .ok (.ireturn, 1) := by decide +kernel
theorem dX4_two_70 : decode cX4_two 70 = .ok (.aload_n 0, 1) := by decide +kernel
theorem dX4_two_71 : decode cX4_two 71 = .ok (.getfield 10, 3) := by decide +kernel
theorem dX4_two_74 : decode cX4_two 74 = .ok (.iload_n 1, 1) := by decide +kernel
theorem dX4_two_75 : decode cX4_two 75 = .ok (.iload_n 2, 1) := by decide +kernel
theorem dX4_two_76 : decode cX4_two 76 = .ok (.invokevirtual 93, 3) := by decide +kernel
theorem dX4_two_79 : decode cX4_two 79 = .ok (.invokestatic 74, 3) := by decide +kernel
theorem dX4_two_82 : decode cX4_two 82 = .ok (.ireturn, 1) := by decide +kernel
theorem dX4_two_83 : decode cX4_two 83 = .ok (.aload_n 0, 1) := by decide +kernel
theorem dX4_two_84 : decode cX4_two 84 = .ok (.iconst 0, 1) := by decide +kernel
theorem dX4_two_85 : decode cX4_two 85 = .ok (.invokevirtual 44, 3) := by decide +kernel
theorem dX4_two_88 : decode cX4_two 88 = .ok (.ireturn, 1) := by decide +kernel
theorem dX4_go_0 : decode cX4_go 0 = .ok (.iload_n 1, 1) := by decide +kernel
theorem dX4_go_1 : decode cX4_go 1 = .ok (.iconst 1, 1) := by decide +kernel
theorem dX4_go_2 : decode cX4_go 2 = .ok (.if_icmp .lt 9, 3) := by decide +kernel
theorem dX4_go_5 : decode cX4_go 5 = .ok (.iload_n 1, 1) := by decide +kernel
theorem dX4_go_6 : decode cX4_go 6 = .ok (.bipush 60, 2) := by decide +kernel
theorem dX4_go_8 : decode cX4_go 8 = .ok (.if_icmp .le 9, 3) := by decide +kernel
theorem dX4_go_11 : decode cX4_go 11 = .ok (.aload_n 0, 1) := by decide +kernel
theorem dX4_go_12 : decode cX4_go 12 = .ok (.iconst 0, 1) := by decide +kernel
theorem dX4_go_13 : decode cX4_go 13 = .ok (.invokevirtual 44, 3) := by decide +kernel
theorem dX4_go_16 : decode cX4_go 16 = .ok (.ireturn, 1) := by decide +kernel
theorem dX4_go_17 : decode cX4_go 17 = .ok (.aload_n 0, 1) := by decide +kernel
theorem dX4_go_18 : decode cX4_go 18 = .ok (.getfield 10, 3) := by decide +kernel
theorem dX4_go_21 : decode cX4_go 21 = .ok (.iload_n 1, 1) := by decide +kernel
theorem dX4_go_22 : decode cX4_go 22 = .ok (.invokevirtual 96, 3) := by decide +kernel
theorem dX4_go_25 : decode cX4_go 25 = .ok (.ifCond .ne 9, 3) := by decide +kernel
theorem dX4_go_28 : decode cX4_go 28 = .ok (.aload_n 0, 1) := by decide +kernel
theorem dX4_go_29 : decode cX4_go 29 = .ok (.iconst 4, 1) := by decide +kernel
theorem dX4_go_30 : decode cX4_go 30 = .ok (.invokevirtual 44, 3) := by decide +kernel
theorem dX4_go_33 : decode cX4_go 33 = .ok (.ireturn, 1) := by decide +kernel
theorem dX4_go_34 : decode cX4_go 34 = .ok (.aload_n 0, 1) := by decide +kernel
theorem dX4_go_35 : decode cX4_go 35 = .ok (.getfield 10, 3) := by decide +kernel
theorem dX4_go_38 : decode cX4_go 38 = .ok (.iload_n 1, 1) := by decide +kernel
theorem dX4_go_39 : decode cX4_go 39 = .ok (.invokevirtual 99, 3) := by decide +kernel
theorem dX4_go_42 : decode cX4_go 42 = .ok (.aload_n 0, 1) := by decide +kernel
theorem dX4_go_43 : decode cX4_go 43 = .ok (.getfield 10, 3) := by decide +kernel
theorem dX4_go_46 : decode cX4_go 46 = .ok (.getfield 103, 3) := by decide +kernel
theorem dX4_go_49 : decode cX4_go 49 = .ok (.ireturn, 1) := by decide +kernel
theorem dX4_now_0 : decode cX4_now 0 = .ok (.iload_n 1, 1) := by decide +kernel
theorem dX4_now_1 : decode cX4_now 1 = .ok (.tableswitch 117 0 7 #[47, 55, 63, 71, 79, 87, 95, 103], 47) := by decide +kernel
theorem dX4_now_48 : decode cX4_now 48 = .ok (.aload_n 0, 1) := by decide +kernel
theorem dX4_now_49 : decode cX4_now 49 = .ok (.getfield 10, 3) := by decide +kernel
theorem dX4_now_52 : decode cX4_now 52 = .ok (.getfield 107, 3) := by decide +kernel
theorem dX4_now_55 : decode cX4_now 55 = .ok (.ireturn, 1) := by decide +kernel
theorem dX4_now_56 : decode cX4_now 56 = .ok (.aload_n 0, 1) := by decide +kernel
theorem dX4_now_57 : decode cX4_now 57 = .ok (.getfield 10, 3) := by decide +kernel
theorem dX4_now_60 : decode cX4_now 60 = .ok (.getfield 103, 3) := by decide +kernel
theorem dX4_now_63 : decode cX4_now 63 = .ok (.ireturn, 1) := by decide +kernel
theorem dX4_now_64 : decode cX4_now 64 = .ok (.aload_n 0, 1) := by decide +kernel
theorem dX4_now_65 : decode cX4_now 65 = .ok (.getfield 10, 3) := by decide +kernel
theorem dX4_now_68 : decode cX4_now 68 = .ok (.invokevirtual 110, 3) := by decide +kernel
theorem dX4_now_71 : decode cX4_now 71 = .ok (.ireturn, 1) := by decide +kernel
theorem dX4_now_72 : decode cX4_now 72 = .ok (.aload_n 0, 1) := by decide +kernel
theorem dX4_now_73 : decode cX4_now 73 = .ok (.getfield 10, 3) := by decide +kernel
end
section
theorem dX4_now_76 : decode cX4_now 76 = .ok (.invokevirtual 114, 3) := by decide +kernel
theorem dX4_now_79 : decode cX4_now 79 = .ok (.ireturn, 1) := by decide +kernel
theorem dX4_now_80 : decode cX4_now 80 = .ok (.aload_n 0, 1) := by decide +kernel
theorem dX4_now_81 : decode cX4_now 81 = .ok (.getfield 10, 3) := by decide +kernel
theorem dX4_now_84 : decode cX4_now 84 = .ok (.invokevirtual 117, 3) := by decide +kernel
theorem dX4_now_87 : decode cX4_now 87 = .ok (.ireturn, 1) := by decide +kernel
theorem dX4_now_88 : decode cX4_now 88 = .ok (.aload_n 0, 1) := by decide +kernel
theorem dX4_now_89 : decode cX4_now 89 = .ok (.getfield 10, 3) := by decide +kernel
theorem dX4_now_92 : decode cX4_now 92 = .ok (.invokevirtual 120, 3) := by decide +kernel
theorem dX4_now_95 : decode cX4_now 95 = .ok (.ireturn, 1) := by decide +kernel
theorem dX4_now_96 : decode cX4_now 96 = .ok (.aload_n 0, 1) := by decide +kernel
theorem dX4_now_97 : decode cX4_now 97 = .ok (.getfield 10, 3) := by decide +kernel
theorem dX4_now_100 : decode cX4_now 100 = .ok (.invokevirtual 123, 3) := by decide +kernel
theorem dX4_now_103 : decode cX4_now 103 = .ok (.ireturn, 1) := by decide +kernel
theorem dX4_now_104 : decode cX4_now 104 = .ok (.aload_n 0, 1) := by decide +kernel
theorem dX4_now_105 : decode cX4_now 105 = .ok (.getfield 10, 3) := by decide +kernel
theorem dX4_now_108 : decode cX4_now 108 = .ok (.getfield 107, 3) := by decide +kernel
theorem dX4_now_111 : decode cX4_now 111 = .ok (.invokestatic 126, 3) := by decide +kernel
theorem dX4_now_114 : decode cX4_now 114 = .ok (.invokestatic 74, 3) := by decide +kernel
theorem dX4_now_117 : decode cX4_now 117 = .ok (.ireturn, 1) := by decide +kernel
theorem dX4_now_118 : decode cX4_now 118 = .ok (.aload_n 0, 1) := by decide +kernel
theorem dX4_now_119 : decode cX4_now 119 = .ok (.iconst 0, 1) := by decide +kernel
theorem dX4_now_120 : decode cX4_now 120 = .ok (.invokevirtual 44, 3) := by decide +kernel
theorem dX4_now_123 : decode cX4_now 123 = .ok (.ireturn, 1) := by decide +kernel
theorem dX4_ahead_0 : decode cX4_ahead 0 = .ok (.iload_n 2, 1) := by decide +kernel
theorem dX4_ahead_1 : decode cX4_ahead 1 = .ok (.iconst 1, 1) := by decide +kernel
theorem dX4_ahead_2 : decode cX4_ahead 2 = .ok (.if_icmp .eq 24, 3) := by decide +kernel
theorem dX4_ahead_5 : decode cX4_ahead 5 = .ok (.iload_n 2, 1) := by decide +kernel
theorem dX4_ahead_6 : decode cX4_ahead 6 = .ok (.iconst 2, 1) := by decide +kernel
theorem dX4_ahead_7 : decode cX4_ahead 7 = .ok (.if_icmp .eq 19, 3) := by decide +kernel
theorem dX4_ahead_10 : decode cX4_ahead 10 = .ok (.iload_n 2, 1) := by decide +kernel
theorem dX4_ahead_11 : decode cX4_ahead 11 = .ok (.iconst 3, 1) := by decide +kernel
theorem dX4_ahead_12 : decode cX4_ahead 12 = .ok (.if_icmp .eq 14, 3) := by decide +kernel
theorem dX4_ahead_15 : decode cX4_ahead 15 = .ok (.iload_n 2, 1) := by decide +kernel
theorem dX4_ahead_16 : decode cX4_ahead 16 = .ok (.iconst 4, 1) := by decide +kernel
theorem dX4_ahead_17 : decode cX4_ahead 17 = .ok (.if_icmp .eq 9, 3) := by decide +kernel
theorem dX4_ahead_20 : decode cX4_ahead 20 = .ok (.iload_n 2, 1) := by decide +kernel
theorem dX4_ahead_21 : decode cX4_ahead 21 = .ok (.bipush 6, 2) := by decide +kernel
theorem dX4_ahead_23 : decode cX4_ahead 23 = .ok (.if_icmp .ne 7, 3) := by decide +kernel
theorem dX4_ahead_26 : decode cX4_ahead 26 = .ok (.iconst 1, 1) := by decide +kernel
theorem dX4_ahead_27 : decode cX4_ahead 27 = .ok (.goto 4, 3) := by decide +kernel
theorem dX4_ahead_30 : decode cX4_ahead 30 = .ok (.iconst 0, 1) := by decide +kernel
theorem dX4_ahead_31 : decode cX4_ahead 31 = .ok (.istore 4, 2) := by decide +kernel
theorem dX4_ahead_33 : decode cX4_ahead 33 = .ok (.aload_n 0, 1) := by decide +kernel
theorem dX4_ahead_34 : decode cX4_ahead 34 = .ok (.getfield 10, 3) := by decide +kernel
theorem dX4_ahead_37 : decode cX4_ahead 37 = .ok (.iload_n 1, 1) := by decide +kernel
theorem dX4_ahead_38 : decode cX4_ahead 38 = .ok (.invokevirtual 56, 3) := by decide +kernel
theorem dX4_ahead_41 : decode cX4_ahead 41 = .ok (.ifCond .eq 18, 3) := by decide +kernel
theorem dX4_ahead_44 : decode cX4_ahead 44 = .ok (.iload 4, 2) := by decide +kernel
theorem dX4_ahead_46 : decode cX4_ahead 46 = .ok (.ifCond .eq 13, 3) := by decide +kernel
theorem dX4_ahead_49 : decode cX4_ahead 49 = .ok (.iload_n 3, 1) := by decide +kernel
theorem dX4_ahead_50 : decode cX4_ahead 50 = .ok (.ifCond .lt 9, 3) := by decide +kernel
theorem dX4_ahead_53 : decode cX4_ahead 53 = .ok (.iload_n 3, 1) := by decide +kernel
theorem dX4_ahead_54 : decode cX4_ahead 54 = .ok (.bipush 100, 2) := by decide +kernel
theorem dX4_ahead_56 : decode cX4_ahead 56 = .ok (.if_icmp .le 9, 3) := by decide +kernel
theorem dX4_ahead_59 : decode cX4_ahead 59 = .ok (.aload_n 0, 1) := by decide +kernel
theorem dX4_ahead_60 : decode cX4_ahead 60 = .ok (.iconst 0, 1) := by decide +kernel
theorem dX4_ahead_61 : decode cX4_ahead 61 = .ok (.invokevirtual 44, 3) := by decide +kernel
theorem dX4_ahead_64 : decode cX4_ahead 64 = .ok (.ireturn, 1) := by decide +kernel
theorem dX4_ahead_65 : decode cX4_ahead 65 = .ok (.aload_n 0, 1) := by decide +kernel
theorem dX4_ahead_66 : decode cX4_ahead 66 = .ok (.getfield 16, 3) := by decide +kernel
theorem dX4_ahead_69 : decode cX4_ahead 69 = .ok (.aload_n 0, 1) := by decide +kernel
theorem dX4_ahead_70 : decode cX4_ahead 70 = .ok (.getfield 10, 3) := by decide +kernel
theorem dX4_ahead_73 : decode cX4_ahead 73 = .ok (.invokevirtual 129, 3) := by decide +kernel
theorem dX4_ahead_76 : decode cX4_ahead 76 = .ok (.aload_n 0, 1) := by decide +kernel
theorem dX4_ahead_77 : decode cX4_ahead 77 = .ok (.getfield 16, 3) := by decide +kernel
theorem dX4_ahead_80 : decode cX4_ahead 80 = .ok (.iload_n 3, 1) := by decide +kernel
theorem dX4_ahead_81 : decode cX4_ahead 81 = .ok (.invokevirtual 99, 3) := by decide +kernel
theorem dX4_ahead_84 : decode cX4_ahead 84 = .ok (.aload_n 0, 1) := by decide +kernel
theorem dX4_ahead_85 : decode cX4_ahead 85 = .ok (.getfield 16, 3) := by decide +kernel
theorem dX4_ahead_88 : decode cX4_ahead 88 = .ok (.iload_n 1, 1) := by decide +kernel
theorem dX4_ahead_89 : decode cX4_ahead 89 = .ok (.iload_n 2, 1) := by decide +kernel
theorem dX4_ahead_90 : decode cX4_ahead 90 = .ok (.invokevirtual 60, 3) := by decide +kernel
theorem dX4_ahead_93 : decode cX4_ahead 93 = .ok (.ireturn, 1) := by decide +kernel
theorem dX4_joy_0 : decode cX4_joy 0 = .ok (.iload_n 1, 1) := by decide +kernel
theorem dX4_joy_1 : decode cX4_joy 1 = .ok (.ifCond .lt 9, 3) := by decide +kernel
theorem dX4_joy_4 : decode cX4_joy 4 = .ok (.iload_n 1, 1) := by decide +kernel
theorem dX4_joy_5 : decode cX4_joy 5 = .ok (.bipush 100, 2) := by decide +kernel
theorem dX4_joy_7 : decode cX4_joy 7 = .ok (.if_icmp .le 9, 3) := by decide +kernel
theorem dX4_joy_10 : decode cX4_joy 10 = .ok (.aload_n 0, 1) := by decide +kernel
theorem dX4_joy_11 : decode cX4_joy 11 = .ok (.iconst 0, 1) := by decide +kernel
theorem dX4_joy_12 : decode cX4_joy 12 = .ok (.invokevirtual 44, 3) := by decide +kernel
theorem dX4_joy_15 : decode cX4_joy 15 = .ok (.ireturn, 1) := by decide +kernel
theorem dX4_joy_16 : decode cX4_joy 16 = .ok (.aload_n 0, 1) := by decide +kernel
theorem dX4_joy_17 : decode cX4_joy 17 = .ok (.getfield 16, 3) := by decide +kernel
theorem dX4_joy_20 : decode cX4_joy 20 = .ok (.aload_n 0, 1) := by decide +kernel
theorem dX4_joy_21 : decode cX4_joy 21 = .ok (.getfield 10, 3) := by decide +kernel
theorem dX4_joy_24 : decode cX4_joy 24 = .ok (.invokevirtual 129, 3) := by decide +kernel
theorem dX4_joy_27 : decode cX4_joy 27 = .ok (.aload_n 0, 1) := by decide +kernel
theorem dX4_joy_28 : decode cX4_joy 28 = .ok (.getfield 16, 3) := by decide +kernel
theorem dX4_joy_31 : decode cX4_joy 31 = .ok (.iload_n 1, 1) := by decide +kernel
theorem dX4_joy_32 : decode cX4_joy 32 = .ok (.invokevirtual 99, 3) := by decide +kernel
theorem dX4_joy_35 : decode cX4_joy 35 = .ok (.aload_n 0, 1) := by decide +kernel
theorem dX4_joy_36 : decode cX4_joy 36 = .ok (.getfield 16, 3) := by decide +kernel
theorem dX4_joy_39 : decode cX4_joy 39 = .ok (.getfield 103, 3) := by decide +kernel
theorem dX4_joy_42 : decode cX4_joy 42 = .ok (.ireturn, 1) := by decide +kernel
theorem dX4_when_0 : decode cX4_when 0 = .ok (.aload_n 0, 1) := by decide +kernel
theorem dX4_when_1 : decode cX4_when 1 = .ok (.getfield 10, 3) := by decide +kernel
theorem dX4_when_4 : decode cX4_when 4 = .ok (.iload_n 1, 1) := by decide +kernel
theorem dX4_when_5 : decode cX4_when 5 = .ok (.iload_n 2, 1) := by decide +kernel
theorem dX4_when_6 : decode cX4_when 6 = .ok (.invokevirtual 78, 3) := by decide +kernel
theorem dX4_when_9 : decode cX4_when 9 = .ok (.ifCond .eq 12, 3) := by decide +kernel
theorem dX4_when_12 : decode cX4_when 12 = .ok (.iload_n 3, 1) := by decide +kernel
theorem dX4_when_13 : decode cX4_when 13 = .ok (.ifCond .lt 8, 3) := by decide +kernel
theorem dX4_when_16 : decode cX4_when 16 = .ok (.iload_n 3, 1) := by decide +kernel
theorem dX4_when_17 : decode cX4_when 17 = .ok (.iconst 2, 1) := by decide +kernel
theorem dX4_when_18 : decode cX4_when 18 = .ok (.if_icmp .le 9, 3) := by decide +kernel
theorem dX4_when_21 : decode cX4_when 21 = .ok (.aload_n 0, 1) := by decide +kernel
theorem dX4_when_22 : decode cX4_when 22 = .ok (.iconst 0, 1) := by decide +kernel
theorem dX4_when_23 : decode cX4_when 23 = .ok (.invokevirtual 44, 3) := by decide +kernel
theorem dX4_when_26 : decode cX4_when 26 = .ok (.ireturn, 1) := by decide +kernel
theorem dX4_when_27 : decode cX4_when 27 = .ok (.aload_n 0, 1) := by decide +kernel
theorem dX4_when_28 : decode cX4_when 28 = .ok (.getfield 16, 3) := by decide +kernel
theorem dX4_when_31 : decode cX4_when 31 = .ok (.aload_n 0, 1) := by decide +kernel
theorem dX4_when_32 : decode cX4_when 32 = .ok (.getfield 10, 3) := by decide +kernel
theorem dX4_when_35 : decode cX4_when 35 = .ok (.invokevirtual 129, 3) := by decide +kernel
theorem dX4_when_38 : decode cX4_when 38 = .ok (.iconst 0, 1) := by decide +kernel
theorem dX4_when_39 : decode cX4_when 39 = .ok (.istore 4, 2) := by decide +kernel
theorem dX4_when_41 : decode cX4_when 41 = .ok (.iload 4, 2) := by decide +kernel
theorem dX4_when_43 : decode cX4_when 43 = .ok (.sipush 200, 3) := by decide +kernel
theorem dX4_when_46 : decode cX4_when 46 = .ok (.if_icmp .gt 32, 3) := by decide +kernel
theorem dX4_when_49 : decode cX4_when 49 = .ok (.aload_n 0, 1) := by decide +kernel
theorem dX4_when_50 : decode cX4_when 50 = .ok (.getfield 16, 3) := by decide +kernel
theorem dX4_when_53 : decode cX4_when 53 = .ok (.iload_n 1, 1) := by decide +kernel
theorem dX4_when_54 : decode cX4_when 54 = .ok (.iload_n 2, 1) := by decide +kernel
theorem dX4_when_55 : decode cX4_when 55 = .ok (.iload_n 3, 1) := by decide +kernel
theorem dX4_when_56 : decode cX4_when 56 = .ok (.invokestatic 133, 3) := by decide +kernel
theorem dX4_when_59 : decode cX4_when 59 = .ok (.ifCond .eq 6, 3) := by decide +kernel
theorem dX4_when_62 : decode cX4_when 62 = .ok (.iload 4, 2) := by decide +kernel
theorem dX4_when_64 : decode cX4_when 64 = .ok (.ireturn, 1) := by decide +kernel
theorem dX4_when_65 : decode cX4_when 65 = .ok (.aload_n 0, 1) := by decide +kernel
theorem dX4_when_66 : decode cX4_when 66 = .ok (.getfield 16, 3) := by decide +kernel
theorem dX4_when_69 : decode cX4_when 69 = .ok (.invokevirtual 137, 3) := by decide +kernel
theorem dX4_when_72 : decode cX4_when 72 = .ok (.iinc 4 1, 3) := by decide +kernel
theorem dX4_when_75 : decode cX4_when 75 = .ok (.goto (-34), 3) := by decide +kernel
theorem dX4_when_78 : decode cX4_when 78 = .ok (.aload_n 0, 1) := by decide +kernel
theorem dX4_when_79 : decode cX4_when 79 = .ok (.iconst 3, 1) := by decide +kernel
theorem dX4_when_80 : decode cX4_when 80 = .ok (.invokevirtual 44, 3) := by decide +kernel
theorem dX4_when_83 : decode cX4_when 83 = .ok (.ireturn, 1) := by decide +kernel
theorem dX4_isSo_0 : decode cX4_isSo 0 = .ok (.iload_n 3, 1) := by decide +kernel
theorem dX4_isSo_1 : decode cX4_isSo 1 = .ok (.lookupswitch 41 #[(0, 27), (1, 34)], 27) := by decide +kernel
theorem dX4_isSo_28 : decode cX4_isSo 28 = .ok (.aload_n 0, 1) := by decide +kernel
theorem dX4_isSo_29 : decode cX4_isSo 29 = .ok (.iload_n 1, 1) := by decide +kernel
theorem dX4_isSo_30 : decode cX4_isSo 30 = .ok (.iload_n 2, 1) := by decide +kernel
theorem dX4_isSo_31 : decode cX4_isSo 31 = .ok (.invokevirtual 87, 3) := by decide +kernel
theorem dX4_isSo_34 : decode cX4_isSo 34 = .ok (.ireturn, 1) := by decide +kernel
theorem dX4_isSo_35 : decode cX4_isSo 35 = .ok (.aload_n 0, 1) := by decide +kernel
theorem dX4_isSo_36 : decode cX4_isSo 36 = .ok (.iload_n 1, 1) := by decide +kernel
theorem dX4_isSo_37 : decode cX4_isSo 37 = .ok (.iload_n 2, 1) := by decide +kernel
theorem dX4_isSo_38 : decode cX4_isSo 38 = .ok (.invokevirtual 90, 3) := by decide +kernel
theorem dX4_isSo_41 : decode cX4_isSo 41 = .ok (.ireturn, 1) := by decide +kernel
theorem dX4_isSo_42 : decode cX4_isSo 42 = .ok (.aload_n 0, 1) := by decide +kernel
theorem dX4_isSo_43 : decode cX4_isSo 43 = .ok (.iload_n 1, 1) := by decide +kernel
theorem dX4_isSo_44 : decode cX4_isSo 44 = .ok (.iload_n 2, 1) := by decide +kernel
theorem dX4_isSo_45 : decode cX4_isSo 45 = .ok (.invokevirtual 81, 3) := by decide +kernel
theorem dX4_isSo_48 : decode cX4_isSo 48 = .ok (.ifCond .ne 7, 3) := by decide +kernel
theorem dX4_isSo_51 : decode cX4_isSo 51 = .ok (.iconst 1, 1) := by decide +kernel
theorem dX4_isSo_52 : decode cX4_isSo 52 = .ok (.goto 4, 3) := by decide +kernel
theorem dX4_isSo_55 : decode cX4_isSo 55 = .ok (.iconst 0, 1) := by decide +kernel
theorem dX4_isSo_56 : decode cX4_isSo 56 = .ok (.ireturn, 1) := by decide +kernel
theorem dX4_known_0 : decode cX4_known 0 = .ok (.aload_n 0, 1) := by decide +kernel
theorem dX4_known_1 : decode cX4_known 1 = .ok (.getfield 16, 3) := by decide +kernel
theorem dX4_known_4 : decode cX4_known 4 = .ok (.aload_n 0, 1) := by decide +kernel
theorem dX4_known_5 : decode cX4_known 5 = .ok (.getfield 10, 3) := by decide +kernel
theorem dX4_known_8 : decode cX4_known 8 = .ok (.invokevirtual 129, 3) := by decide +kernel
theorem dX4_known_11 : decode cX4_known 11 = .ok (.iconst 0, 1) := by decide +kernel
theorem dX4_known_12 : decode cX4_known 12 = .ok (.istore_n 1, 1) := by decide +kernel
theorem dX4_known_13 : decode cX4_known 13 = .ok (.iload_n 1, 1) := by decide +kernel
theorem dX4_known_14 : decode cX4_known 14 = .ok (.sipush 200, 3) := by decide +kernel
theorem dX4_known_17 : decode cX4_known 17 = .ok (.if_icmp .gt 28, 3) := by decide +kernel
theorem dX4_known_20 : decode cX4_known 20 = .ok (.aload_n 0, 1) := by decide +kernel
theorem dX4_known_21 : decode cX4_known 21 = .ok (.getfield 16, 3) := by decide +kernel
theorem dX4_known_24 : decode cX4_known 24 = .ok (.invokevirtual 110, 3) := by decide +kernel
theorem dX4_known_27 : decode cX4_known 27 = .ok (.ifCond .eq 5, 3) := by decide +kernel
theorem dX4_known_30 : decode cX4_known 30 = .ok (.iload_n 1, 1) := by decide +kernel
theorem dX4_known_31 : decode cX4_known 31 = .ok (.ireturn, 1) := by decide +kernel
theorem dX4_known_32 : decode cX4_known 32 = .ok (.aload_n 0, 1) := by decide +kernel
theorem dX4_known_33 : decode cX4_known 33 = .ok (.getfield 16, 3) := by decide +kernel
theorem dX4_known_36 : decode cX4_known 36 = .ok (.invokevirtual 137, 3) := by decide +kernel
theorem dX4_known_39 : decode cX4_known 39 = .ok (.iinc 1 1, 3) := by decide +kernel
theorem dX4_known_42 : decode cX4_known 42 = .ok (.goto (-29), 3) := by decide +kernel
theorem dX4_known_45 : decode cX4_known 45 = .ok (.aload_n 0, 1) := by decide +kernel
theorem dX4_known_46 : decode cX4_known 46 = .ok (.iconst 3, 1) := by decide +kernel
theorem dX4_known_47 : decode cX4_known 47 = .ok (.invokevirtual 44, 3) := by decide +kernel
theorem dX4_known_50 : decode cX4_known 50 = .ok (.ireturn, 1) := by decide +kernel
theorem dX4_passed_0 : decode cX4_passed 0 = .ok (.aload_n 0, 1) := by decide +kernel
theorem dX4_passed_1 : decode cX4_passed 1 = .ok (.getfield 10, 3) := by decide +kernel
theorem dX4_passed_4 : decode cX4_passed 4 = .ok (.iload_n 1, 1) := by decide +kernel
theorem dX4_passed_5 : decode cX4_passed 5 = .ok (.invokevirtual 56, 3) := by decide +kernel
theorem dX4_passed_8 : decode cX4_passed 8 = .ok (.ifCond .eq 14, 3) := by decide +kernel
theorem dX4_passed_11 : decode cX4_passed 11 = .ok (.iload_n 2, 1) := by decide +kernel
theorem dX4_passed_12 : decode cX4_passed 12 = .ok (.ifCond .lt 10, 3) := by decide +kernel
theorem dX4_passed_15 : decode cX4_passed 15 = .ok (.iload_n 2, 1) := by decide +kernel
theorem dX4_passed_16 : decode cX4_passed 16 = .ok (.sipush 9999, 3) := by decide +kernel
theorem dX4_passed_19 : decode cX4_passed 19 = .ok (.if_icmp .le 9, 3) := by decide +kernel
theorem dX4_passed_22 : decode cX4_passed 22 = .ok (.aload_n 0, 1) := by decide +kernel
theorem dX4_passed_23 : decode cX4_passed 23 = .ok (.iconst 0, 1) := by decide +kernel
theorem dX4_passed_24 : decode cX4_passed 24 = .ok (.invokevirtual 44, 3) := by decide +kernel
theorem dX4_passed_27 : decode cX4_passed 27 = .ok (.ireturn, 1) := by decide +kernel
theorem dX4_passed_28 : decode cX4_passed 28 = .ok (.aload_n 0, 1) := by decide +kernel
theorem dX4_passed_29 : decode cX4_passed 29 = .ok (.getfield 16, 3) := by decide +kernel
theorem dX4_passed_32 : decode cX4_passed 32 = .ok (.aload_n 0, 1) := by decide +kernel
theorem dX4_passed_33 : decode cX4_passed 33 = .ok (.getfield 10, 3) := by decide +kernel
theorem dX4_passed_36 : decode cX4_passed 36 = .ok (.invokevirtual 129, 3) := by decide +kernel
theorem dX4_passed_39 : decode cX4_passed 39 = .ok (.iconst 0, 1) := by decide +kernel
theorem dX4_passed_40 : decode cX4_passed 40 = .ok (.istore_n 3, 1) := by decide +kernel
theorem dX4_passed_41 : decode cX4_passed 41 = .ok (.iload_n 3, 1) := by decide +kernel
theorem dX4_passed_42 : decode cX4_passed 42 = .ok (.sipush 200, 3) := by decide +kernel
theorem dX4_passed_45 : decode cX4_passed 45 = .ok (.if_icmp .gt 32, 3) := by decide +kernel
theorem dX4_passed_48 : decode cX4_passed 48 = .ok (.aload_n 0, 1) := by decide +kernel
theorem dX4_passed_49 : decode cX4_passed 49 = .ok (.getfield 16, 3) := by decide +kernel
theorem dX4_passed_52 : decode cX4_passed 52 = .ok (.iload_n 1, 1) := by decide +kernel
theorem dX4_passed_53 : decode cX4_passed 53 = .ok (.bipush 6, 2) := by decide +kernel
theorem dX4_passed_55 : decode cX4_passed 55 = .ok (.invokevirtual 60, 3) := by decide +kernel
theorem dX4_passed_58 : decode cX4_passed 58 = .ok (.iload_n 2, 1) := by decide +kernel
theorem dX4_passed_59 : decode cX4_passed 59 = .ok (.if_icmp .lt 5, 3) := by decide +kernel
theorem dX4_passed_62 : decode cX4_passed 62 = .ok (.iload_n 3, 1) := by decide +kernel
theorem dX4_passed_63 : decode cX4_passed 63 = .ok (.ireturn, 1) := by decide +kernel
theorem dX4_passed_64 : decode cX4_passed 64 = .ok (.aload_n 0, 1) := by decide +kernel
theorem dX4_passed_65 : decode cX4_passed 65 = .ok (.getfield 16, 3) := by decide +kernel
theorem dX4_passed_68 : decode cX4_passed 68 = .ok (.invokevirtual 137, 3) := by decide +kernel
theorem dX4_passed_71 : decode cX4_passed 71 = .ok (.iinc 3 1, 3) := by decide +kernel
theorem dX4_passed_74 : decode cX4_passed 74 = .ok (.goto (-33), 3) := by decide +kernel
theorem dX4_passed_77 : decode cX4_passed 77 = .ok (.aload_n 0, 1) := by decide +kernel
theorem dX4_passed_78 : decode cX4_passed 78 = .ok (.iconst 3, 1) := by decide +kernel
theorem dX4_passed_79 : decode cX4_passed 79 = .ok (.invokevirtual 44, 3) := by decide +kernel
theorem dX4_passed_82 : decode cX4_passed 82 = .ok (.ireturn, 1) := by decide +kernel
theorem dX4_standFor_0 : decode cX4_standFor 0 = .ok (.aload_n 0, 1) := by decide +kernel
theorem dX4_standFor_1 : decode cX4_standFor 1 = .ok (.iload_n 1, 1) := by decide +kernel
theorem dX4_standFor_2 : decode cX4_standFor 2 = .ok (.iconst 1, 1) := by decide +kernel
theorem dX4_standFor_3 : decode cX4_standFor 3 = .ok (.bipush 16, 2) := by decide +kernel
theorem dX4_standFor_5 : decode cX4_standFor 5 = .ok (.iload_n 2, 1) := by decide +kernel
theorem dX4_standFor_6 : decode cX4_standFor 6 = .ok (.invokevirtual 140, 3) := by decide +kernel
theorem dX4_standFor_9 : decode cX4_standFor 9 = .ok (.ireturn, 1) := by decide +kernel
theorem dX4_guiseFor_0 : decode cX4_guiseFor 0 = .ok (.aload_n 0, 1) := by decide +kernel
theorem dX4_guiseFor_1 : decode cX4_guiseFor 1 = .ok (.iload_n 1, 1) := by decide +kernel
theorem dX4_guiseFor_2 : decode cX4_guiseFor 2 = .ok (.iconst 2, 1) := by decide +kernel
theorem dX4_guiseFor_3 : decode cX4_guiseFor 3 = .ok (.bipush 12, 2) := by decide +kernel
theorem dX4_guiseFor_5 : decode cX4_guiseFor 5 = .ok (.iload_n 2, 1) := by decide +kernel
theorem dX4_guiseFor_6 : decode cX4_guiseFor 6 = .ok (.invokevirtual 140, 3) := by decide +kernel
theorem dX4_guiseFor_9 : decode cX4_guiseFor 9 = .ok (.ireturn, 1) := by decide +kernel
theorem dX4_kindFor_0 : decode cX4_kindFor 0 = .ok (.aload_n 0, 1) := by decide +kernel
theorem dX4_kindFor_1 : decode cX4_kindFor 1 = .ok (.iload_n 1, 1) := by decide +kernel
theorem dX4_kindFor_2 : decode cX4_kindFor 2 = .ok (.iconst 0, 1) := by decide +kernel
theorem dX4_kindFor_3 : decode cX4_kindFor 3 = .ok (.bipush 7, 2) := by decide +kernel
theorem dX4_kindFor_5 : decode cX4_kindFor 5 = .ok (.iload_n 2, 1) := by decide +kernel
theorem dX4_kindFor_6 : decode cX4_kindFor 6 = .ok (.invokevirtual 140, 3) := by decide +kernel
theorem dX4_kindFor_9 : decode cX4_kindFor 9 = .ok (.ireturn, 1) := by decide +kernel
theorem dX4_mostJoyous_0 : decode cX4_mostJoyous 0 = .ok (.aload_n 0, 1) := by decide +kernel
theorem dX4_mostJoyous_1 : decode cX4_mostJoyous 1 = .ok (.getfield 10, 3) := by decide +kernel
theorem dX4_mostJoyous_4 : decode cX4_mostJoyous 4 = .ok (.iload_n 1, 1) := by decide +kernel
theorem dX4_mostJoyous_5 : decode cX4_mostJoyous 5 = .ok (.invokevirtual 56, 3) := by decide +kernel
theorem dX4_mostJoyous_8 : decode cX4_mostJoyous 8 = .ok (.ifCond .eq 15, 3) := by decide +kernel
theorem dX4_mostJoyous_11 : decode cX4_mostJoyous 11 = .ok (.iload 4, 2) := by decide +kernel
theorem dX4_mostJoyous_13 : decode cX4_mostJoyous 13 = .ok (.ifCond .lt 10, 3) := by decide +kernel
theorem dX4_mostJoyous_16 : decode cX4_mostJoyous 16 = .ok (.iload 4, 2) := by decide +kernel
theorem dX4_mostJoyous_18 : decode cX4_mostJoyous 18 = .ok (.bipush 60, 2) := by decide +kernel
theorem dX4_mostJoyous_20 : decode cX4_mostJoyous 20 = .ok (.if_icmp .le 9, 3) := by decide +kernel
theorem dX4_mostJoyous_23 : decode cX4_mostJoyous 23 = .ok (.aload_n 0, 1) := by decide +kernel
theorem dX4_mostJoyous_24 : decode cX4_mostJoyous 24 = .ok (.iconst 0, 1) := by decide +kernel
theorem dX4_mostJoyous_25 : decode cX4_mostJoyous 25 = .ok (.invokevirtual 44, 3) := by decide +kernel
theorem dX4_mostJoyous_28 : decode cX4_mostJoyous 28 = .ok (.ireturn, 1) := by decide +kernel
theorem dX4_mostJoyous_29 : decode cX4_mostJoyous 29 = .ok (.iconst 0, 1) := by decide +kernel
theorem dX4_mostJoyous_30 : decode cX4_mostJoyous 30 = .ok (.istore 5, 2) := by decide +kernel
theorem dX4_mostJoyous_32 : decode cX4_mostJoyous 32 = .ok (.iconst (-1), 1) := by decide +kernel
theorem dX4_mostJoyous_33 : decode cX4_mostJoyous 33 = .ok (.istore 6, 2) := by decide +kernel
theorem dX4_mostJoyous_35 : decode cX4_mostJoyous 35 = .ok (.iconst 0, 1) := by decide +kernel
theorem dX4_mostJoyous_36 : decode cX4_mostJoyous 36 = .ok (.istore 7, 2) := by decide +kernel
theorem dX4_mostJoyous_38 : decode cX4_mostJoyous 38 = .ok (.iload 7, 2) := by decide +kernel
theorem dX4_mostJoyous_40 : decode cX4_mostJoyous 40 = .ok (.iload_n 3, 1) := by decide +kernel
theorem dX4_mostJoyous_41 : decode cX4_mostJoyous 41 = .ok (.if_icmp .ge 65, 3) := by decide +kernel
theorem dX4_mostJoyous_44 : decode cX4_mostJoyous 44 = .ok (.aload_n 0, 1) := by decide +kernel
theorem dX4_mostJoyous_45 : decode cX4_mostJoyous 45 = .ok (.getfield 16, 3) := by decide +kernel
theorem dX4_mostJoyous_48 : decode cX4_mostJoyous 48 = .ok (.aload_n 0, 1) := by decide +kernel
theorem dX4_mostJoyous_49 : decode cX4_mostJoyous 49 = .ok (.getfield 10, 3) := by decide +kernel
theorem dX4_mostJoyous_52 : decode cX4_mostJoyous 52 = .ok (.invokevirtual 129, 3) := by decide +kernel
theorem dX4_mostJoyous_55 : decode cX4_mostJoyous 55 = .ok (.aload_n 0, 1) := by decide +kernel
theorem dX4_mostJoyous_56 : decode cX4_mostJoyous 56 = .ok (.getfield 16, 3) := by decide +kernel
theorem dX4_mostJoyous_59 : decode cX4_mostJoyous 59 = .ok (.iload_n 1, 1) := by decide +kernel
theorem dX4_mostJoyous_60 : decode cX4_mostJoyous 60 = .ok (.iload_n 2, 1) := by decide +kernel
theorem dX4_mostJoyous_61 : decode cX4_mostJoyous 61 = .ok (.iload 7, 2) := by decide +kernel
theorem dX4_mostJoyous_63 : decode cX4_mostJoyous 63 = .ok (.invokevirtual 67, 3) := by decide +kernel
theorem dX4_mostJoyous_66 : decode cX4_mostJoyous 66 = .ok (.aload_n 0, 1) := by decide +kernel
theorem dX4_mostJoyous_67 : decode cX4_mostJoyous 67 = .ok (.getfield 16, 3) := by decide +kernel
theorem dX4_mostJoyous_70 : decode cX4_mostJoyous 70 = .ok (.iload 4, 2) := by decide +kernel
theorem dX4_mostJoyous_72 : decode cX4_mostJoyous 72 = .ok (.invokevirtual 99, 3) := by decide +kernel
theorem dX4_mostJoyous_75 : decode cX4_mostJoyous 75 = .ok (.aload_n 0, 1) := by decide +kernel
theorem dX4_mostJoyous_76 : decode cX4_mostJoyous 76 = .ok (.getfield 16, 3) := by decide +kernel
theorem dX4_mostJoyous_79 : decode cX4_mostJoyous 79 = .ok (.getfield 103, 3) := by decide +kernel
theorem dX4_mostJoyous_82 : decode cX4_mostJoyous 82 = .ok (.iload 6, 2) := by decide +kernel
theorem dX4_mostJoyous_84 : decode cX4_mostJoyous 84 = .ok (.if_icmp .le 16, 3) := by decide +kernel
theorem dX4_mostJoyous_87 : decode cX4_mostJoyous 87 = .ok (.aload_n 0, 1) := by decide +kernel
theorem dX4_mostJoyous_88 : decode cX4_mostJoyous 88 = .ok (.getfield 16, 3) := by decide +kernel
theorem dX4_mostJoyous_91 : decode cX4_mostJoyous 91 = .ok (.getfield 103, 3) := by decide +kernel
theorem dX4_mostJoyous_94 : decode cX4_mostJoyous 94 = .ok (.istore 6, 2) := by decide +kernel
theorem dX4_mostJoyous_96 : decode cX4_mostJoyous 96 = .ok (.iload 7, 2) := by decide +kernel
theorem dX4_mostJoyous_98 : decode cX4_mostJoyous 98 = .ok (.istore 5, 2) := by decide +kernel
theorem dX4_mostJoyous_100 : decode cX4_mostJoyous 100 = .ok (.iinc 7 1, 3) := by decide +kernel
theorem dX4_mostJoyous_103 : decode cX4_mostJoyous 103 = .ok (.goto (-65), 3) := by decide +kernel
theorem dX4_mostJoyous_106 : decode cX4_mostJoyous 106 = .ok (.iload 5, 2) := by decide +kernel
theorem dX4_mostJoyous_108 : decode cX4_mostJoyous 108 = .ok (.ireturn, 1) := by decide +kernel
theorem dX4_dark_0 : decode cX4_dark 0 = .ok (.iload_n 1, 1) := by decide +kernel
theorem dX4_dark_1 : decode cX4_dark 1 = .ok (.ifCond .lt 9, 3) := by decide +kernel
theorem dX4_dark_4 : decode cX4_dark 4 = .ok (.iload_n 1, 1) := by decide +kernel
theorem dX4_dark_5 : decode cX4_dark 5 = .ok (.bipush 24, 2) := by decide +kernel
theorem dX4_dark_7 : decode cX4_dark 7 = .ok (.if_icmp .le 9, 3) := by decide +kernel
theorem dX4_dark_10 : decode cX4_dark 10 = .ok (.aload_n 0, 1) := by decide +kernel
theorem dX4_dark_11 : decode cX4_dark 11 = .ok (.iconst 0, 1) := by decide +kernel
theorem dX4_dark_12 : decode cX4_dark 12 = .ok (.invokevirtual 44, 3) := by decide +kernel
theorem dX4_dark_15 : decode cX4_dark 15 = .ok (.ireturn, 1) := by decide +kernel
theorem dX4_dark_16 : decode cX4_dark 16 = .ok (.iconst 0, 1) := by decide +kernel
theorem dX4_dark_17 : decode cX4_dark 17 = .ok (.istore_n 2, 1) := by decide +kernel
theorem dX4_dark_18 : decode cX4_dark 18 = .ok (.iload_n 2, 1) := by decide +kernel
theorem dX4_dark_19 : decode cX4_dark 19 = .ok (.aload_n 0, 1) := by decide +kernel
theorem dX4_dark_20 : decode cX4_dark 20 = .ok (.getfield 10, 3) := by decide +kernel
theorem dX4_dark_23 : decode cX4_dark 23 = .ok (.getfield 144, 3) := by decide +kernel
theorem dX4_dark_26 : decode cX4_dark 26 = .ok (.if_icmp .gt 47, 3) := by decide +kernel
theorem dX4_dark_29 : decode cX4_dark 29 = .ok (.iconst 0, 1) := by decide +kernel
theorem dX4_dark_30 : decode cX4_dark 30 = .ok (.istore_n 3, 1) := by decide +kernel
theorem dX4_dark_31 : decode cX4_dark 31 = .ok (.iload_n 3, 1) := by decide +kernel
theorem dX4_dark_32 : decode cX4_dark 32 = .ok (.aload_n 0, 1) := by decide +kernel
theorem dX4_dark_33 : decode cX4_dark 33 = .ok (.getfield 10, 3) := by decide +kernel
theorem dX4_dark_36 : decode cX4_dark 36 = .ok (.invokevirtual 147, 3) := by decide +kernel
theorem dX4_dark_39 : decode cX4_dark 39 = .ok (.if_icmp .gt 28, 3) := by decide +kernel
theorem dX4_dark_42 : decode cX4_dark 42 = .ok (.iload_n 3, 1) := by decide +kernel
theorem dX4_dark_43 : decode cX4_dark 43 = .ok (.invokestatic 150, 3) := by decide +kernel
theorem dX4_dark_46 : decode cX4_dark 46 = .ok (.iload_n 2, 1) := by decide +kernel
theorem dX4_dark_47 : decode cX4_dark 47 = .ok (.if_icmp .ne 14, 3) := by decide +kernel
theorem dX4_dark_50 : decode cX4_dark 50 = .ok (.aload_n 0, 1) := by decide +kernel
theorem dX4_dark_51 : decode cX4_dark 51 = .ok (.iload_n 3, 1) := by decide +kernel
theorem dX4_dark_52 : decode cX4_dark 52 = .ok (.iload_n 1, 1) := by decide +kernel
theorem dX4_dark_53 : decode cX4_dark 53 = .ok (.invokevirtual 155, 3) := by decide +kernel
theorem dX4_dark_56 : decode cX4_dark 56 = .ok (.ifCond .eq 5, 3) := by decide +kernel
theorem dX4_dark_59 : decode cX4_dark 59 = .ok (.iload_n 3, 1) := by decide +kernel
theorem dX4_dark_60 : decode cX4_dark 60 = .ok (.ireturn, 1) := by decide +kernel
theorem dX4_dark_61 : decode cX4_dark 61 = .ok (.iinc 3 1, 3) := by decide +kernel
theorem dX4_dark_64 : decode cX4_dark 64 = .ok (.goto (-33), 3) := by decide +kernel
theorem dX4_dark_67 : decode cX4_dark 67 = .ok (.iinc 2 1, 3) := by decide +kernel
theorem dX4_dark_70 : decode cX4_dark 70 = .ok (.goto (-52), 3) := by decide +kernel
theorem dX4_dark_73 : decode cX4_dark 73 = .ok (.aload_n 0, 1) := by decide +kernel
theorem dX4_dark_74 : decode cX4_dark 74 = .ok (.iconst 3, 1) := by decide +kernel
theorem dX4_dark_75 : decode cX4_dark 75 = .ok (.invokevirtual 44, 3) := by decide +kernel
theorem dX4_dark_78 : decode cX4_dark 78 = .ok (.ireturn, 1) := by decide +kernel
theorem dX4_staysJoyless_0 : decode cX4_staysJoyless 0 = .ok (.aload_n 0, 1) := by decide +kernel
theorem dX4_staysJoyless_1 : decode cX4_staysJoyless 1 = .ok (.getfield 16, 3) := by decide +kernel
theorem dX4_staysJoyless_4 : decode cX4_staysJoyless 4 = .ok (.aload_n 0, 1) := by decide +kernel
theorem dX4_staysJoyless_5 : decode cX4_staysJoyless 5 = .ok (.getfield 10, 3) := by decide +kernel
theorem dX4_staysJoyless_8 : decode cX4_staysJoyless 8 = .ok (.invokevirtual 129, 3) := by decide +kernel
theorem dX4_staysJoyless_11 : decode cX4_staysJoyless 11 = .ok (.aload_n 0, 1) := by decide +kernel
theorem dX4_staysJoyless_12 : decode cX4_staysJoyless 12 = .ok (.getfield 16, 3) := by decide +kernel
theorem dX4_staysJoyless_15 : decode cX4_staysJoyless 15 = .ok (.iload_n 1, 1) := by decide +kernel
theorem dX4_staysJoyless_16 : decode cX4_staysJoyless 16 = .ok (.invokevirtual 158, 3) := by decide +kernel
theorem dX4_staysJoyless_19 : decode cX4_staysJoyless 19 = .ok (.iconst 0, 1) := by decide +kernel
theorem dX4_staysJoyless_20 : decode cX4_staysJoyless 20 = .ok (.istore_n 3, 1) := by decide +kernel
theorem dX4_staysJoyless_21 : decode cX4_staysJoyless 21 = .ok (.iload_n 3, 1) := by decide +kernel
theorem dX4_staysJoyless_22 : decode cX4_staysJoyless 22 = .ok (.iload_n 2, 1) := by decide +kernel
theorem dX4_staysJoyless_23 : decode cX4_staysJoyless 23 = .ok (.if_icmp .ge 33, 3) := by decide +kernel
theorem dX4_staysJoyless_26 : decode cX4_staysJoyless 26 = .ok (.aload_n 0, 1) := by decide +kernel
theorem dX4_staysJoyless_27 : decode cX4_staysJoyless 27 = .ok (.getfield 16, 3) := by decide +kernel
theorem dX4_staysJoyless_30 : decode cX4_staysJoyless 30 = .ok (.getfield 103, 3) := by decide +kernel
theorem dX4_staysJoyless_33 : decode cX4_staysJoyless 33 = .ok (.aload_n 0, 1) := by decide +kernel
theorem dX4_staysJoyless_34 : decode cX4_staysJoyless 34 = .ok (.getfield 10, 3) := by decide +kernel
theorem dX4_staysJoyless_37 : decode cX4_staysJoyless 37 = .ok (.getfield 103, 3) := by decide +kernel
theorem dX4_staysJoyless_40 : decode cX4_staysJoyless 40 = .ok (.if_icmp .ne 16, 3) := by decide +kernel
theorem dX4_staysJoyless_43 : decode cX4_staysJoyless 43 = .ok (.aload_n 0, 1) := by decide +kernel
theorem dX4_staysJoyless_44 : decode cX4_staysJoyless 44 = .ok (.getfield 16, 3) := by decide +kernel
theorem dX4_staysJoyless_47 : decode cX4_staysJoyless 47 = .ok (.invokevirtual 137, 3) := by decide +kernel
theorem dX4_staysJoyless_50 : decode cX4_staysJoyless 50 = .ok (.iinc 3 1, 3) := by decide +kernel
theorem dX4_staysJoyless_53 : decode cX4_staysJoyless 53 = .ok (.goto (-32), 3) := by decide +kernel
theorem dX4_staysJoyless_56 : decode cX4_staysJoyless 56 = .ok (.aload_n 0, 1) := by decide +kernel
theorem dX4_staysJoyless_57 : decode cX4_staysJoyless 57 = .ok (.getfield 16, 3) := by decide +kernel
theorem dX4_staysJoyless_60 : decode cX4_staysJoyless 60 = .ok (.getfield 103, 3) := by decide +kernel
theorem dX4_staysJoyless_63 : decode cX4_staysJoyless 63 = .ok (.aload_n 0, 1) := by decide +kernel
theorem dX4_staysJoyless_64 : decode cX4_staysJoyless 64 = .ok (.getfield 10, 3) := by decide +kernel
theorem dX4_staysJoyless_67 : decode cX4_staysJoyless 67 = .ok (.getfield 103, 3) := by decide +kernel
theorem dX4_staysJoyless_70 : decode cX4_staysJoyless 70 = .ok (.if_icmp .ne 7, 3) := by decide +kernel
theorem dX4_staysJoyless_73 : decode cX4_staysJoyless 73 = .ok (.iconst 1, 1) := by decide +kernel
theorem dX4_staysJoyless_74 : decode cX4_staysJoyless 74 = .ok (.goto 4, 3) := by decide +kernel
theorem dX4_staysJoyless_77 : decode cX4_staysJoyless 77 = .ok (.iconst 0, 1) := by decide +kernel
theorem dX4_staysJoyless_78 : decode cX4_staysJoyless 78 = .ok (.ireturn, 1) := by decide +kernel
theorem dX4_circle_0 : decode cX4_circle 0 = .ok (.iload_n 1, 1) := by decide +kernel
theorem dX4_circle_1 : decode cX4_circle 1 = .ok (.ifCond .eq 14, 3) := by decide +kernel
theorem dX4_circle_4 : decode cX4_circle 4 = .ok (.iload_n 1, 1) := by decide +kernel
theorem dX4_circle_5 : decode cX4_circle 5 = .ok (.iconst 1, 1) := by decide +kernel
theorem dX4_circle_6 : decode cX4_circle 6 = .ok (.if_icmp .eq 9, 3) := by decide +kernel
theorem dX4_circle_9 : decode cX4_circle 9 = .ok (.aload_n 0, 1) := by decide +kernel
theorem dX4_circle_10 : decode cX4_circle 10 = .ok (.iconst 0, 1) := by decide +kernel
theorem dX4_circle_11 : decode cX4_circle 11 = .ok (.invokevirtual 44, 3) := by decide +kernel
theorem dX4_circle_14 : decode cX4_circle 14 = .ok (.ireturn, 1) := by decide +kernel
theorem dX4_circle_15 : decode cX4_circle 15 = .ok (.iconst 0, 1) := by decide +kernel
theorem dX4_circle_16 : decode cX4_circle 16 = .ok (.istore_n 2, 1) := by decide +kernel
theorem dX4_circle_17 : decode cX4_circle 17 = .ok (.iconst 1, 1) := by decide +kernel
theorem dX4_circle_18 : decode cX4_circle 18 = .ok (.istore_n 3, 1) := by decide +kernel
theorem dX4_circle_19 : decode cX4_circle 19 = .ok (.iload_n 3, 1) := by decide +kernel
theorem dX4_circle_20 : decode cX4_circle 20 = .ok (.aload_n 0, 1) := by decide +kernel
theorem dX4_circle_21 : decode cX4_circle 21 = .ok (.getfield 10, 3) := by decide +kernel
theorem dX4_circle_24 : decode cX4_circle 24 = .ok (.invokevirtual 147, 3) := by decide +kernel
theorem dX4_circle_27 : decode cX4_circle 27 = .ok (.if_icmp .gt 43, 3) := by decide +kernel
theorem dX4_circle_30 : decode cX4_circle 30 = .ok (.iload_n 3, 1) := by decide +kernel
theorem dX4_circle_31 : decode cX4_circle 31 = .ok (.invokestatic 150, 3) := by decide +kernel
theorem dX4_circle_34 : decode cX4_circle 34 = .ok (.iload_n 2, 1) := by decide +kernel
theorem dX4_circle_35 : decode cX4_circle 35 = .ok (.invokestatic 150, 3) := by decide +kernel
theorem dX4_circle_38 : decode cX4_circle 38 = .ok (.if_icmp .le 26, 3) := by decide +kernel
theorem dX4_circle_41 : decode cX4_circle 41 = .ok (.aload_n 0, 1) := by decide +kernel
theorem dX4_circle_42 : decode cX4_circle 42 = .ok (.getfield 10, 3) := by decide +kernel
theorem dX4_circle_45 : decode cX4_circle 45 = .ok (.iload_n 3, 1) := by decide +kernel
theorem dX4_circle_46 : decode cX4_circle 46 = .ok (.iload_n 1, 1) := by decide +kernel
theorem dX4_circle_47 : decode cX4_circle 47 = .ok (.iconst 1, 1) := by decide +kernel
theorem dX4_circle_48 : decode cX4_circle 48 = .ok (.if_icmp .ne 7, 3) := by decide +kernel
theorem dX4_circle_51 : decode cX4_circle 51 = .ok (.iconst 1, 1) := by decide +kernel
theorem dX4_circle_52 : decode cX4_circle 52 = .ok (.goto 4, 3) := by decide +kernel
theorem dX4_circle_55 : decode cX4_circle 55 = .ok (.iconst 0, 1) := by decide +kernel
theorem dX4_circle_56 : decode cX4_circle 56 = .ok (.invokevirtual 161, 3) := by decide +kernel
theorem dX4_circle_59 : decode cX4_circle 59 = .ok (.ifCond .eq 5, 3) := by decide +kernel
theorem dX4_circle_62 : decode cX4_circle 62 = .ok (.iload_n 3, 1) := by decide +kernel
theorem dX4_circle_63 : decode cX4_circle 63 = .ok (.istore_n 2, 1) := by decide +kernel
theorem dX4_circle_64 : decode cX4_circle 64 = .ok (.iinc 3 1, 3) := by decide +kernel
theorem dX4_circle_67 : decode cX4_circle 67 = .ok (.goto (-48), 3) := by decide +kernel
theorem dX4_circle_70 : decode cX4_circle 70 = .ok (.iload_n 2, 1) := by decide +kernel
theorem dX4_circle_71 : decode cX4_circle 71 = .ok (.ireturn, 1) := by decide +kernel
theorem dX4_fits_0 : decode cX4_fits 0 = .ok (.aload_n 0, 1) := by decide +kernel
theorem dX4_fits_1 : decode cX4_fits 1 = .ok (.iload_n 1, 1) := by decide +kernel
theorem dX4_fits_2 : decode cX4_fits 2 = .ok (.iload_n 2, 1) := by decide +kernel
theorem dX4_fits_3 : decode cX4_fits 3 = .ok (.iconst 2, 1) := by decide +kernel
theorem dX4_fits_4 : decode cX4_fits 4 = .ok (.bipush 12, 2) := by decide +kernel
theorem dX4_fits_6 : decode cX4_fits 6 = .ok (.invokevirtual 165, 3) := by decide +kernel
theorem dX4_fits_9 : decode cX4_fits 9 = .ok (.ireturn, 1) := by decide +kernel
theorem dX4_kinds_0 : decode cX4_kinds 0 = .ok (.aload_n 0, 1) := by decide +kernel
theorem dX4_kinds_1 : decode cX4_kinds 1 = .ok (.iload_n 1, 1) := by decide +kernel
theorem dX4_kinds_2 : decode cX4_kinds 2 = .ok (.iload_n 2, 1) := by decide +kernel
theorem dX4_kinds_3 : decode cX4_kinds 3 = .ok (.iconst 0, 1) := by decide +kernel
theorem dX4_kinds_4 : decode cX4_kinds 4 = .ok (.bipush 7, 2) := by decide +kernel
theorem dX4_kinds_6 : decode cX4_kinds 6 = .ok (.invokevirtual 165, 3) := by decide +kernel
theorem dX4_kinds_9 : decode cX4_kinds 9 = .ok (.ireturn, 1) := by decide +kernel
theorem dX4_fitting_0 : decode cX4_fitting 0 = .ok (.iload_n 1, 1) := by decide +kernel
theorem dX4_fitting_1 : decode cX4_fitting 1 = .ok (.iconst 4, 1) := by decide +kernel
theorem dX4_fitting_2 : decode cX4_fitting 2 = .ok (.invokestatic 40, 3) := by decide +kernel
theorem dX4_fitting_5 : decode cX4_fitting 5 = .ok (.ifCond .ne 9, 3) := by decide +kernel
theorem dX4_fitting_8 : decode cX4_fitting 8 = .ok (.aload_n 0, 1) := by decide +kernel
theorem dX4_fitting_9 : decode cX4_fitting 9 = .ok (.iconst 0, 1) := by decide +kernel
theorem dX4_fitting_10 : decode cX4_fitting 10 = .ok (.invokevirtual 44, 3) := by decide +kernel
theorem dX4_fitting_13 : decode cX4_fitting 13 = .ok (.ireturn, 1) := by decide +kernel
theorem dX4_fitting_14 : decode cX4_fitting 14 = .ok (.aload_n 0, 1) := by decide +kernel
theorem dX4_fitting_15 : decode cX4_fitting 15 = .ok (.getfield 32, 3) := by decide +kernel
theorem dX4_fitting_18 : decode cX4_fitting 18 = .ok (.iload_n 1, 1) := by decide +kernel
theorem dX4_fitting_19 : decode cX4_fitting 19 = .ok (.invokevirtual 168, 3) := by decide +kernel
theorem dX4_fitting_22 : decode cX4_fitting 22 = .ok (.ifCond .eq 9, 3) := by decide +kernel
theorem dX4_fitting_25 : decode cX4_fitting 25 = .ok (.aload_n 0, 1) := by decide +kernel
theorem dX4_fitting_26 : decode cX4_fitting 26 = .ok (.iconst 5, 1) := by decide +kernel
theorem dX4_fitting_27 : decode cX4_fitting 27 = .ok (.invokevirtual 44, 3) := by decide +kernel
theorem dX4_fitting_30 : decode cX4_fitting 30 = .ok (.ireturn, 1) := by decide +kernel
theorem dX4_fitting_31 : decode cX4_fitting 31 = .ok (.aload_n 0, 1) := by decide +kernel
theorem dX4_fitting_32 : decode cX4_fitting 32 = .ok (.getfield 10, 3) := by decide +kernel
theorem dX4_fitting_35 : decode cX4_fitting 35 = .ok (.iload_n 2, 1) := by decide +kernel
theorem dX4_fitting_36 : decode cX4_fitting 36 = .ok (.invokevirtual 56, 3) := by decide +kernel
theorem dX4_fitting_39 : decode cX4_fitting 39 = .ok (.ifCond .ne 9, 3) := by decide +kernel
theorem dX4_fitting_42 : decode cX4_fitting 42 = .ok (.aload_n 0, 1) := by decide +kernel
theorem dX4_fitting_43 : decode cX4_fitting 43 = .ok (.iconst 0, 1) := by decide +kernel
theorem dX4_fitting_44 : decode cX4_fitting 44 = .ok (.invokevirtual 44, 3) := by decide +kernel
theorem dX4_fitting_47 : decode cX4_fitting 47 = .ok (.ireturn, 1) := by decide +kernel
theorem dX4_fitting_48 : decode cX4_fitting 48 = .ok (.iconst 0, 1) := by decide +kernel
theorem dX4_fitting_49 : decode cX4_fitting 49 = .ok (.istore 5, 2) := by decide +kernel
theorem dX4_fitting_51 : decode cX4_fitting 51 = .ok (.iconst 0, 1) := by decide +kernel
theorem dX4_fitting_52 : decode cX4_fitting 52 = .ok (.istore 6, 2) := by decide +kernel
theorem dX4_fitting_54 : decode cX4_fitting 54 = .ok (.iload 6, 2) := by decide +kernel
theorem dX4_fitting_56 : decode cX4_fitting 56 = .ok (.iload 4, 2) := by decide +kernel
theorem dX4_fitting_58 : decode cX4_fitting 58 = .ok (.if_icmp .ge 49, 3) := by decide +kernel
theorem dX4_fitting_61 : decode cX4_fitting 61 = .ok (.aload_n 0, 1) := by decide +kernel
theorem dX4_fitting_62 : decode cX4_fitting 62 = .ok (.getfield 16, 3) := by decide +kernel
theorem dX4_fitting_65 : decode cX4_fitting 65 = .ok (.aload_n 0, 1) := by decide +kernel
theorem dX4_fitting_66 : decode cX4_fitting 66 = .ok (.getfield 10, 3) := by decide +kernel
theorem dX4_fitting_69 : decode cX4_fitting 69 = .ok (.invokevirtual 129, 3) := by decide +kernel
theorem dX4_fitting_72 : decode cX4_fitting 72 = .ok (.aload_n 0, 1) := by decide +kernel
theorem dX4_fitting_73 : decode cX4_fitting 73 = .ok (.getfield 16, 3) := by decide +kernel
theorem dX4_fitting_76 : decode cX4_fitting 76 = .ok (.iload_n 2, 1) := by decide +kernel
theorem dX4_fitting_77 : decode cX4_fitting 77 = .ok (.iload_n 3, 1) := by decide +kernel
theorem dX4_fitting_78 : decode cX4_fitting 78 = .ok (.iload 6, 2) := by decide +kernel
theorem dX4_fitting_80 : decode cX4_fitting 80 = .ok (.invokevirtual 67, 3) := by decide +kernel
theorem dX4_fitting_83 : decode cX4_fitting 83 = .ok (.aload_n 0, 1) := by decide +kernel
theorem dX4_fitting_84 : decode cX4_fitting 84 = .ok (.iload_n 1, 1) := by decide +kernel
theorem dX4_fitting_85 : decode cX4_fitting 85 = .ok (.iload_n 2, 1) := by decide +kernel
theorem dX4_fitting_86 : decode cX4_fitting 86 = .ok (.invokevirtual 171, 3) := by decide +kernel
theorem dX4_fitting_89 : decode cX4_fitting 89 = .ok (.ifCond .eq 12, 3) := by decide +kernel
theorem dX4_fitting_92 : decode cX4_fitting 92 = .ok (.iload 5, 2) := by decide +kernel
theorem dX4_fitting_94 : decode cX4_fitting 94 = .ok (.iconst 1, 1) := by decide +kernel
theorem dX4_fitting_95 : decode cX4_fitting 95 = .ok (.iload 6, 2) := by decide +kernel
theorem dX4_fitting_97 : decode cX4_fitting 97 = .ok (.ishl, 1) := by decide +kernel
theorem dX4_fitting_98 : decode cX4_fitting 98 = .ok (.ior, 1) := by decide +kernel
theorem dX4_fitting_99 : decode cX4_fitting 99 = .ok (.istore 5, 2) := by decide +kernel
theorem dX4_fitting_101 : decode cX4_fitting 101 = .ok (.iinc 6 1, 3) := by decide +kernel
theorem dX4_fitting_104 : decode cX4_fitting 104 = .ok (.goto (-50), 3) := by decide +kernel
theorem dX4_fitting_107 : decode cX4_fitting 107 = .ok (.iload 5, 2) := by decide +kernel
theorem dX4_fitting_109 : decode cX4_fitting 109 = .ok (.ireturn, 1) := by decide +kernel
theorem dX4_meetsAsTold_0 : decode cX4_meetsAsTold 0 = .ok (.iconst 0, 1) := by decide +kernel
theorem dX4_meetsAsTold_1 : decode cX4_meetsAsTold 1 = .ok (.istore_n 3, 1) := by decide +kernel
theorem dX4_meetsAsTold_2 : decode cX4_meetsAsTold 2 = .ok (.iload_n 3, 1) := by decide +kernel
theorem dX4_meetsAsTold_3 : decode cX4_meetsAsTold 3 = .ok (.aload_n 0, 1) := by decide +kernel
theorem dX4_meetsAsTold_4 : decode cX4_meetsAsTold 4 = .ok (.getfield 32, 3) := by decide +kernel
theorem dX4_meetsAsTold_7 : decode cX4_meetsAsTold 7 = .ok (.iload_n 1, 1) := by decide +kernel
theorem dX4_meetsAsTold_8 : decode cX4_meetsAsTold 8 = .ok (.invokevirtual 174, 3) := by decide +kernel
theorem dX4_meetsAsTold_11 : decode cX4_meetsAsTold 11 = .ok (.if_icmp .ge 53, 3) := by decide +kernel
theorem dX4_meetsAsTold_14 : decode cX4_meetsAsTold 14 = .ok (.iload_n 3, 1) := by decide +kernel
theorem dX4_meetsAsTold_15 : decode cX4_meetsAsTold 15 = .ok (.ifCond .le 10, 3) := by decide +kernel
theorem dX4_meetsAsTold_18 : decode cX4_meetsAsTold 18 = .ok (.aload_n 0, 1) := by decide +kernel
theorem dX4_meetsAsTold_19 : decode cX4_meetsAsTold 19 = .ok (.getfield 16, 3) := by decide +kernel
theorem dX4_meetsAsTold_22 : decode cX4_meetsAsTold 22 = .ok (.invokevirtual 137, 3) := by decide +kernel
theorem dX4_meetsAsTold_25 : decode cX4_meetsAsTold 25 = .ok (.aload_n 0, 1) := by decide +kernel
theorem dX4_meetsAsTold_26 : decode cX4_meetsAsTold 26 = .ok (.getfield 32, 3) := by decide +kernel
theorem dX4_meetsAsTold_29 : decode cX4_meetsAsTold 29 = .ok (.iload_n 1, 1) := by decide +kernel
theorem dX4_meetsAsTold_30 : decode cX4_meetsAsTold 30 = .ok (.iload_n 3, 1) := by decide +kernel
theorem dX4_meetsAsTold_31 : decode cX4_meetsAsTold 31 = .ok (.invokevirtual 177, 3) := by decide +kernel
theorem dX4_meetsAsTold_34 : decode cX4_meetsAsTold 34 = .ok (.istore 4, 2) := by decide +kernel
theorem dX4_meetsAsTold_36 : decode cX4_meetsAsTold 36 = .ok (.iload 4, 2) := by decide +kernel
theorem dX4_meetsAsTold_38 : decode cX4_meetsAsTold 38 = .ok (.iconst (-1), 1) := by decide +kernel
theorem dX4_meetsAsTold_39 : decode cX4_meetsAsTold 39 = .ok (.if_icmp .eq 19, 3) := by decide +kernel
theorem dX4_meetsAsTold_42 : decode cX4_meetsAsTold 42 = .ok (.iload 4, 2) := by decide +kernel
theorem dX4_meetsAsTold_44 : decode cX4_meetsAsTold 44 = .ok (.aload_n 0, 1) := by decide +kernel
theorem dX4_meetsAsTold_45 : decode cX4_meetsAsTold 45 = .ok (.getfield 16, 3) := by decide +kernel
theorem dX4_meetsAsTold_48 : decode cX4_meetsAsTold 48 = .ok (.iload_n 2, 1) := by decide +kernel
theorem dX4_meetsAsTold_49 : decode cX4_meetsAsTold 49 = .ok (.iconst 3, 1) := by decide +kernel
theorem dX4_meetsAsTold_50 : decode cX4_meetsAsTold 50 = .ok (.invokevirtual 60, 3) := by decide +kernel
theorem dX4_meetsAsTold_53 : decode cX4_meetsAsTold 53 = .ok (.if_icmp .eq 5, 3) := by decide +kernel
theorem dX4_meetsAsTold_56 : decode cX4_meetsAsTold 56 = .ok (.iconst 0, 1) := by decide +kernel
theorem dX4_meetsAsTold_57 : decode cX4_meetsAsTold 57 = .ok (.ireturn, 1) := by decide +kernel
theorem dX4_meetsAsTold_58 : decode cX4_meetsAsTold 58 = .ok (.iinc 3 1, 3) := by decide +kernel
theorem dX4_meetsAsTold_61 : decode cX4_meetsAsTold 61 = .ok (.goto (-59), 3) := by decide +kernel
theorem dX4_meetsAsTold_64 : decode cX4_meetsAsTold 64 = .ok (.iconst 1, 1) := by decide +kernel
theorem dX4_meetsAsTold_65 : decode cX4_meetsAsTold 65 = .ok (.ireturn, 1) := by decide +kernel
theorem dX4_night_0 : decode cX4_night 0 = .ok (.iload_n 1, 1) := by decide +kernel
theorem dX4_night_1 : decode cX4_night 1 = .ok (.iconst 1, 1) := by decide +kernel
theorem dX4_night_2 : decode cX4_night 2 = .ok (.if_icmp .lt 9, 3) := by decide +kernel
theorem dX4_night_5 : decode cX4_night 5 = .ok (.iload_n 1, 1) := by decide +kernel
theorem dX4_night_6 : decode cX4_night 6 = .ok (.bipush 20, 2) := by decide +kernel
theorem dX4_night_8 : decode cX4_night 8 = .ok (.if_icmp .le 9, 3) := by decide +kernel
theorem dX4_night_11 : decode cX4_night 11 = .ok (.aload_n 0, 1) := by decide +kernel
theorem dX4_night_12 : decode cX4_night 12 = .ok (.iconst 0, 1) := by decide +kernel
theorem dX4_night_13 : decode cX4_night 13 = .ok (.invokevirtual 44, 3) := by decide +kernel
theorem dX4_night_16 : decode cX4_night 16 = .ok (.ireturn, 1) := by decide +kernel
theorem dX4_night_17 : decode cX4_night 17 = .ok (.aload_n 0, 1) := by decide +kernel
theorem dX4_night_18 : decode cX4_night 18 = .ok (.getfield 10, 3) := by decide +kernel
theorem dX4_night_21 : decode cX4_night 21 = .ok (.iload_n 1, 1) := by decide +kernel
theorem dX4_night_22 : decode cX4_night 22 = .ok (.invokevirtual 96, 3) := by decide +kernel
theorem dX4_night_25 : decode cX4_night 25 = .ok (.ifCond .ne 9, 3) := by decide +kernel
theorem dX4_night_28 : decode cX4_night 28 = .ok (.aload_n 0, 1) := by decide +kernel
theorem dX4_night_29 : decode cX4_night 29 = .ok (.iconst 4, 1) := by decide +kernel
theorem dX4_night_30 : decode cX4_night 30 = .ok (.invokevirtual 44, 3) := by decide +kernel
theorem dX4_night_33 : decode cX4_night 33 = .ok (.ireturn, 1) := by decide +kernel
theorem dX4_night_34 : decode cX4_night 34 = .ok (.iconst 0, 1) := by decide +kernel
theorem dX4_night_35 : decode cX4_night 35 = .ok (.istore_n 2, 1) := by decide +kernel
theorem dX4_night_36 : decode cX4_night 36 = .ok (.iload_n 2, 1) := by decide +kernel
theorem dX4_night_37 : decode cX4_night 37 = .ok (.iload_n 1, 1) := by decide +kernel
theorem dX4_night_38 : decode cX4_night 38 = .ok (.if_icmp .ge 84, 3) := by decide +kernel
theorem dX4_night_41 : decode cX4_night 41 = .ok (.aload_n 0, 1) := by decide +kernel
theorem dX4_night_42 : decode cX4_night 42 = .ok (.getfield 10, 3) := by decide +kernel
theorem dX4_night_45 : decode cX4_night 45 = .ok (.invokevirtual 180, 3) := by decide +kernel
theorem dX4_night_48 : decode cX4_night 48 = .ok (.bipush 8, 2) := by decide +kernel
theorem dX4_night_50 : decode cX4_night 50 = .ok (.irem, 1) := by decide +kernel
theorem dX4_night_51 : decode cX4_night 51 = .ok (.istore_n 3, 1) := by decide +kernel
theorem dX4_night_52 : decode cX4_night 52 = .ok (.aload_n 0, 1) := by decide +kernel
theorem dX4_night_53 : decode cX4_night 53 = .ok (.getfield 10, 3) := by decide +kernel
theorem dX4_night_56 : decode cX4_night 56 = .ok (.invokevirtual 180, 3) := by decide +kernel
theorem dX4_night_59 : decode cX4_night 59 = .ok (.bipush 16, 2) := by decide +kernel
theorem dX4_night_61 : decode cX4_night 61 = .ok (.irem, 1) := by decide +kernel
theorem dX4_night_62 : decode cX4_night 62 = .ok (.istore 4, 2) := by decide +kernel
theorem dX4_night_64 : decode cX4_night 64 = .ok (.aload_n 0, 1) := by decide +kernel
theorem dX4_night_65 : decode cX4_night 65 = .ok (.getfield 10, 3) := by decide +kernel
theorem dX4_night_68 : decode cX4_night 68 = .ok (.invokevirtual 180, 3) := by decide +kernel
theorem dX4_night_71 : decode cX4_night 71 = .ok (.bipush 12, 2) := by decide +kernel
theorem dX4_night_73 : decode cX4_night 73 = .ok (.irem, 1) := by decide +kernel
theorem dX4_night_74 : decode cX4_night 74 = .ok (.istore 5, 2) := by decide +kernel
theorem dX4_night_76 : decode cX4_night 76 = .ok (.aload_n 0, 1) := by decide +kernel
theorem dX4_night_77 : decode cX4_night 77 = .ok (.getfield 10, 3) := by decide +kernel
theorem dX4_night_80 : decode cX4_night 80 = .ok (.iload_n 3, 1) := by decide +kernel
theorem dX4_night_81 : decode cX4_night 81 = .ok (.invokevirtual 56, 3) := by decide +kernel
theorem dX4_night_84 : decode cX4_night 84 = .ok (.ifCond .eq 25, 3) := by decide +kernel
theorem dX4_night_87 : decode cX4_night 87 = .ok (.aload_n 0, 1) := by decide +kernel
theorem dX4_night_88 : decode cX4_night 88 = .ok (.getfield 10, 3) := by decide +kernel
theorem dX4_night_91 : decode cX4_night 91 = .ok (.iload_n 3, 1) := by decide +kernel
theorem dX4_night_92 : decode cX4_night 92 = .ok (.iconst 1, 1) := by decide +kernel
theorem dX4_night_93 : decode cX4_night 93 = .ok (.iload 4, 2) := by decide +kernel
theorem dX4_night_95 : decode cX4_night 95 = .ok (.invokevirtual 67, 3) := by decide +kernel
theorem dX4_night_98 : decode cX4_night 98 = .ok (.aload_n 0, 1) := by decide +kernel
theorem dX4_night_99 : decode cX4_night 99 = .ok (.getfield 10, 3) := by decide +kernel
theorem dX4_night_102 : decode cX4_night 102 = .ok (.iload_n 3, 1) := by decide +kernel
theorem dX4_night_103 : decode cX4_night 103 = .ok (.iconst 2, 1) := by decide +kernel
theorem dX4_night_104 : decode cX4_night 104 = .ok (.iload 5, 2) := by decide +kernel
theorem dX4_night_106 : decode cX4_night 106 = .ok (.invokevirtual 67, 3) := by decide +kernel
theorem dX4_night_109 : decode cX4_night 109 = .ok (.aload_n 0, 1) := by decide +kernel
theorem dX4_night_110 : decode cX4_night 110 = .ok (.getfield 10, 3) := by decide +kernel
theorem dX4_night_113 : decode cX4_night 113 = .ok (.invokevirtual 137, 3) := by decide +kernel
theorem dX4_night_116 : decode cX4_night 116 = .ok (.iinc 2 1, 3) := by decide +kernel
theorem dX4_night_119 : decode cX4_night 119 = .ok (.goto (-83), 3) := by decide +kernel
theorem dX4_night_122 : decode cX4_night 122 = .ok (.aload_n 0, 1) := by decide +kernel
theorem dX4_night_123 : decode cX4_night 123 = .ok (.getfield 10, 3) := by decide +kernel
theorem dX4_night_126 : decode cX4_night 126 = .ok (.getfield 103, 3) := by decide +kernel
theorem dX4_night_129 : decode cX4_night 129 = .ok (.ireturn, 1) := by decide +kernel
theorem dX4_odds_0 : decode cX4_odds 0 = .ok (.aload_n 0, 1) := by decide +kernel
theorem dX4_odds_1 : decode cX4_odds 1 = .ok (.getfield 10, 3) := by decide +kernel
theorem dX4_odds_4 : decode cX4_odds 4 = .ok (.iload_n 1, 1) := by decide +kernel
theorem dX4_odds_5 : decode cX4_odds 5 = .ok (.invokevirtual 56, 3) := by decide +kernel
theorem dX4_odds_8 : decode cX4_odds 8 = .ok (.ifCond .eq 22, 3) := by decide +kernel
theorem dX4_odds_11 : decode cX4_odds 11 = .ok (.iload_n 2, 1) := by decide +kernel
theorem dX4_odds_12 : decode cX4_odds 12 = .ok (.ifCond .lt 18, 3) := by decide +kernel
theorem dX4_odds_15 : decode cX4_odds 15 = .ok (.iload_n 2, 1) := by decide +kernel
theorem dX4_odds_16 : decode cX4_odds 16 = .ok (.bipush 17, 2) := by decide +kernel
theorem dX4_odds_18 : decode cX4_odds 18 = .ok (.if_icmp .gt 12, 3) := by decide +kernel
theorem dX4_odds_21 : decode cX4_odds 21 = .ok (.iload_n 3, 1) := by decide +kernel
theorem dX4_odds_22 : decode cX4_odds 22 = .ok (.ifCond .lt 8, 3) := by decide +kernel
theorem dX4_odds_25 : decode cX4_odds 25 = .ok (.iload_n 3, 1) := by decide +kernel
theorem dX4_odds_26 : decode cX4_odds 26 = .ok (.iconst 1, 1) := by decide +kernel
theorem dX4_odds_27 : decode cX4_odds 27 = .ok (.if_icmp .le 10, 3) := by decide +kernel
theorem dX4_odds_30 : decode cX4_odds 30 = .ok (.aload_n 0, 1) := by decide +kernel
theorem dX4_odds_31 : decode cX4_odds 31 = .ok (.iconst 0, 1) := by decide +kernel
theorem dX4_odds_32 : decode cX4_odds 32 = .ok (.invokevirtual 44, 3) := by decide +kernel
theorem dX4_odds_35 : decode cX4_odds 35 = .ok (.i2l, 1) := by decide +kernel
theorem dX4_odds_36 : decode cX4_odds 36 = .ok (.lreturn, 1) := by decide +kernel
theorem dX4_odds_37 : decode cX4_odds 37 = .ok (.aload_n 0, 1) := by decide +kernel
theorem dX4_odds_38 : decode cX4_odds 38 = .ok (.getfield 10, 3) := by decide +kernel
theorem dX4_odds_41 : decode cX4_odds 41 = .ok (.iload_n 1, 1) := by decide +kernel
theorem dX4_odds_42 : decode cX4_odds 42 = .ok (.invokevirtual 183, 3) := by decide +kernel
theorem dX4_odds_45 : decode cX4_odds 45 = .ok (.istore 4, 2) := by decide +kernel
theorem dX4_odds_47 : decode cX4_odds 47 = .ok (.iload 4, 2) := by decide +kernel
theorem dX4_odds_49 : decode cX4_odds 49 = .ok (.invokestatic 186, 3) := by decide +kernel
theorem dX4_odds_52 : decode cX4_odds 52 = .ok (.istore 5, 2) := by decide +kernel
theorem dX4_odds_54 : decode cX4_odds 54 = .ok (.iload_n 3, 1) := by decide +kernel
theorem dX4_odds_55 : decode cX4_odds 55 = .ok (.ifCond .ne 8, 3) := by decide +kernel
theorem dX4_odds_58 : decode cX4_odds 58 = .ok (.iload 4, 2) := by decide +kernel
theorem dX4_odds_60 : decode cX4_odds 60 = .ok (.goto 5, 3) := by decide +kernel
theorem dX4_odds_63 : decode cX4_odds 63 = .ok (.bipush 12, 2) := by decide +kernel
theorem dX4_odds_65 : decode cX4_odds 65 = .ok (.iload 5, 2) := by decide +kernel
theorem dX4_odds_67 : decode cX4_odds 67 = .ok (.idiv, 1) := by decide +kernel
theorem dX4_odds_68 : decode cX4_odds 68 = .ok (.i2l, 1) := by decide +kernel
theorem dX4_odds_69 : decode cX4_odds 69 = .ok (.lstore 6, 2) := by decide +kernel
theorem dX4_odds_71 : decode cX4_odds 71 = .ok (.lconst 1, 1) := by decide +kernel
theorem dX4_odds_72 : decode cX4_odds 72 = .ok (.lstore 8, 2) := by decide +kernel
theorem dX4_odds_74 : decode cX4_odds 74 = .ok (.iconst 0, 1) := by decide +kernel
theorem dX4_odds_75 : decode cX4_odds 75 = .ok (.istore 10, 2) := by decide +kernel
theorem dX4_odds_77 : decode cX4_odds 77 = .ok (.iload 10, 2) := by decide +kernel
theorem dX4_odds_79 : decode cX4_odds 79 = .ok (.iload_n 2, 1) := by decide +kernel
theorem dX4_odds_80 : decode cX4_odds 80 = .ok (.if_icmp .ge 16, 3) := by decide +kernel
theorem dX4_odds_83 : decode cX4_odds 83 = .ok (.lload 8, 2) := by decide +kernel
theorem dX4_odds_85 : decode cX4_odds 85 = .ok (.lload 6, 2) := by decide +kernel
theorem dX4_odds_87 : decode cX4_odds 87 = .ok (.lmul, 1) := by decide +kernel
theorem dX4_odds_88 : decode cX4_odds 88 = .ok (.lstore 8, 2) := by decide +kernel
theorem dX4_odds_90 : decode cX4_odds 90 = .ok (.iinc 10 1, 3) := by decide +kernel
theorem dX4_odds_93 : decode cX4_odds 93 = .ok (.goto (-16), 3) := by decide +kernel
theorem dX4_odds_96 : decode cX4_odds 96 = .ok (.lload 8, 2) := by decide +kernel
theorem dX4_odds_98 : decode cX4_odds 98 = .ok (.lreturn, 1) := by decide +kernel
theorem dX4_divisorWithGuises_0 : decode cX4_divisorWithGuises 0 = .ok (.bipush 12, 2) := by decide +kernel
theorem dX4_divisorWithGuises_2 : decode cX4_divisorWithGuises 2 = .ok (.istore_n 1, 1) := by decide +kernel
theorem dX4_divisorWithGuises_3 : decode cX4_divisorWithGuises 3 = .ok (.iload_n 1, 1) := by decide +kernel
theorem dX4_divisorWithGuises_4 : decode cX4_divisorWithGuises 4 = .ok (.iconst 1, 1) := by decide +kernel
theorem dX4_divisorWithGuises_5 : decode cX4_divisorWithGuises 5 = .ok (.if_icmp .le 24, 3) := by decide +kernel
theorem dX4_divisorWithGuises_8 : decode cX4_divisorWithGuises 8 = .ok (.iload_n 0, 1) := by decide +kernel
theorem dX4_divisorWithGuises_9 : decode cX4_divisorWithGuises 9 = .ok (.iload_n 1, 1) := by decide +kernel
theorem dX4_divisorWithGuises_10 : decode cX4_divisorWithGuises 10 = .ok (.irem, 1) := by decide +kernel
theorem dX4_divisorWithGuises_11 : decode cX4_divisorWithGuises 11 = .ok (.ifCond .ne 12, 3) := by decide +kernel
theorem dX4_divisorWithGuises_14 : decode cX4_divisorWithGuises 14 = .ok (.bipush 12, 2) := by decide +kernel
theorem dX4_divisorWithGuises_16 : decode cX4_divisorWithGuises 16 = .ok (.iload_n 1, 1) := by decide +kernel
theorem dX4_divisorWithGuises_17 : decode cX4_divisorWithGuises 17 = .ok (.irem, 1) := by decide +kernel
theorem dX4_divisorWithGuises_18 : decode cX4_divisorWithGuises 18 = .ok (.ifCond .ne 5, 3) := by decide +kernel
theorem dX4_divisorWithGuises_21 : decode cX4_divisorWithGuises 21 = .ok (.iload_n 1, 1) := by decide +kernel
theorem dX4_divisorWithGuises_22 : decode cX4_divisorWithGuises 22 = .ok (.ireturn, 1) := by decide +kernel
theorem dX4_divisorWithGuises_23 : decode cX4_divisorWithGuises 23 = .ok (.iinc 1 (-1), 3) := by decide +kernel
theorem dX4_divisorWithGuises_26 : decode cX4_divisorWithGuises 26 = .ok (.goto (-23), 3) := by decide +kernel
theorem dX4_divisorWithGuises_29 : decode cX4_divisorWithGuises 29 = .ok (.iconst 1, 1) := by decide +kernel
theorem dX4_divisorWithGuises_30 : decode cX4_divisorWithGuises 30 = .ok (.ireturn, 1) := by decide +kernel
theorem dX4_seed_0 : decode cX4_seed 0 = .ok (.aload_n 0, 1) := by decide +kernel
theorem dX4_seed_1 : decode cX4_seed 1 = .ok (.getfield 10, 3) := by decide +kernel
theorem dX4_seed_4 : decode cX4_seed 4 = .ok (.getfield 189, 3) := by decide +kernel
theorem dX4_seed_7 : decode cX4_seed 7 = .ok (.istore_n 2, 1) := by decide +kernel
theorem dX4_seed_8 : decode cX4_seed 8 = .ok (.aload_n 0, 1) := by decide +kernel
theorem dX4_seed_9 : decode cX4_seed 9 = .ok (.getfield 10, 3) := by decide +kernel
theorem dX4_seed_12 : decode cX4_seed 12 = .ok (.iload_n 1, 1) := by decide +kernel
theorem dX4_seed_13 : decode cX4_seed 13 = .ok (.putfield 189, 3) := by decide +kernel
theorem dX4_seed_16 : decode cX4_seed 16 = .ok (.iload_n 2, 1) := by decide +kernel
theorem dX4_seed_17 : decode cX4_seed 17 = .ok (.ireturn, 1) := by decide +kernel
theorem dX4_feed_0 : decode cX4_feed 0 = .ok (.iload_n 2, 1) := by decide +kernel
theorem dX4_feed_1 : decode cX4_feed 1 = .ok (.iconst 1, 1) := by decide +kernel
theorem dX4_feed_2 : decode cX4_feed 2 = .ok (.if_icmp .lt 8, 3) := by decide +kernel
theorem dX4_feed_5 : decode cX4_feed 5 = .ok (.iload_n 2, 1) := by decide +kernel
theorem dX4_feed_6 : decode cX4_feed 6 = .ok (.iconst 4, 1) := by decide +kernel
theorem dX4_feed_7 : decode cX4_feed 7 = .ok (.if_icmp .le 9, 3) := by decide +kernel
theorem dX4_feed_10 : decode cX4_feed 10 = .ok (.aload_n 0, 1) := by decide +kernel
theorem dX4_feed_11 : decode cX4_feed 11 = .ok (.iconst 0, 1) := by decide +kernel
theorem dX4_feed_12 : decode cX4_feed 12 = .ok (.invokevirtual 44, 3) := by decide +kernel
theorem dX4_feed_15 : decode cX4_feed 15 = .ok (.ireturn, 1) := by decide +kernel
theorem dX4_feed_16 : decode cX4_feed 16 = .ok (.iload_n 2, 1) := by decide +kernel
theorem dX4_feed_17 : decode cX4_feed 17 = .ok (.aload_n 0, 1) := by decide +kernel
theorem dX4_feed_18 : decode cX4_feed 18 = .ok (.getfield 25, 3) := by decide +kernel
theorem dX4_feed_21 : decode cX4_feed 21 = .ok (.invokevirtual 192, 3) := by decide +kernel
theorem dX4_feed_24 : decode cX4_feed 24 = .ok (.if_icmp .le 9, 3) := by decide +kernel
theorem dX4_feed_27 : decode cX4_feed 27 = .ok (.aload_n 0, 1) := by decide +kernel
theorem dX4_feed_28 : decode cX4_feed 28 = .ok (.iconst 1, 1) := by decide +kernel
theorem dX4_feed_29 : decode cX4_feed 29 = .ok (.invokevirtual 44, 3) := by decide +kernel
theorem dX4_feed_32 : decode cX4_feed 32 = .ok (.ireturn, 1) := by decide +kernel
theorem dX4_feed_33 : decode cX4_feed 33 = .ok (.iload_n 2, 1) := by decide +kernel
theorem dX4_feed_34 : decode cX4_feed 34 = .ok (.iconst 1, 1) := by decide +kernel
theorem dX4_feed_35 : decode cX4_feed 35 = .ok (.isub, 1) := by decide +kernel
theorem dX4_feed_36 : decode cX4_feed 36 = .ok (.istore_n 3, 1) := by decide +kernel
theorem dX4_feed_37 : decode cX4_feed 37 = .ok (.iload_n 3, 1) := by decide +kernel
theorem dX4_feed_38 : decode cX4_feed 38 = .ok (.ifCond .lt 26, 3) := by decide +kernel
theorem dX4_feed_41 : decode cX4_feed 41 = .ok (.aload_n 0, 1) := by decide +kernel
theorem dX4_feed_42 : decode cX4_feed 42 = .ok (.getfield 25, 3) := by decide +kernel
theorem dX4_feed_45 : decode cX4_feed 45 = .ok (.iload_n 1, 1) := by decide +kernel
theorem dX4_feed_46 : decode cX4_feed 46 = .ok (.bipush 8, 2) := by decide +kernel
theorem dX4_feed_48 : decode cX4_feed 48 = .ok (.iload_n 3, 1) := by decide +kernel
theorem dX4_feed_49 : decode cX4_feed 49 = .ok (.imul, 1) := by decide +kernel
theorem dX4_feed_50 : decode cX4_feed 50 = .ok (.iushr, 1) := by decide +kernel
theorem dX4_feed_51 : decode cX4_feed 51 = .ok (.sipush 255, 3) := by decide +kernel
theorem dX4_feed_54 : decode cX4_feed 54 = .ok (.iand, 1) := by decide +kernel
theorem dX4_feed_55 : decode cX4_feed 55 = .ok (.invokevirtual 195, 3) := by decide +kernel
theorem dX4_feed_58 : decode cX4_feed 58 = .ok (.iinc 3 (-1), 3) := by decide +kernel
theorem dX4_feed_61 : decode cX4_feed 61 = .ok (.goto (-24), 3) := by decide +kernel
theorem dX4_feed_64 : decode cX4_feed 64 = .ok (.aload_n 0, 1) := by decide +kernel
theorem dX4_feed_65 : decode cX4_feed 65 = .ok (.getfield 25, 3) := by decide +kernel
theorem dX4_feed_68 : decode cX4_feed 68 = .ok (.invokevirtual 197, 3) := by decide +kernel
theorem dX4_feed_71 : decode cX4_feed 71 = .ok (.ireturn, 1) := by decide +kernel
theorem dX4_wipe_0 : decode cX4_wipe 0 = .ok (.aload_n 0, 1) := by decide +kernel
theorem dX4_wipe_1 : decode cX4_wipe 1 = .ok (.getfield 25, 3) := by decide +kernel
theorem dX4_wipe_4 : decode cX4_wipe 4 = .ok (.invokevirtual 199, 3) := by decide +kernel
theorem dX4_wipe_7 : decode cX4_wipe 7 = .ok (.ireturn, 1) := by decide +kernel
theorem dX4_text_0 : decode cX4_text 0 = .ok (.aload_n 0, 1) := by decide +kernel
theorem dX4_text_1 : decode cX4_text 1 = .ok (.getfield 16, 3) := by decide +kernel
theorem dX4_text_4 : decode cX4_text 4 = .ok (.aload_n 0, 1) := by decide +kernel
theorem dX4_text_5 : decode cX4_text 5 = .ok (.getfield 10, 3) := by decide +kernel
theorem dX4_text_8 : decode cX4_text 8 = .ok (.invokevirtual 129, 3) := by decide +kernel
theorem dX4_text_11 : decode cX4_text 11 = .ok (.aload_n 0, 1) := by decide +kernel
theorem dX4_text_12 : decode cX4_text 12 = .ok (.getfield 25, 3) := by decide +kernel
theorem dX4_text_15 : decode cX4_text 15 = .ok (.aload_n 0, 1) := by decide +kernel
theorem dX4_text_16 : decode cX4_text 16 = .ok (.getfield 16, 3) := by decide +kernel
theorem dX4_text_19 : decode cX4_text 19 = .ok (.invokevirtual 202, 3) := by decide +kernel
theorem dX4_text_22 : decode cX4_text 22 = .ok (.istore_n 1, 1) := by decide +kernel
theorem dX4_text_23 : decode cX4_text 23 = .ok (.aload_n 0, 1) := by decide +kernel
theorem dX4_text_24 : decode cX4_text 24 = .ok (.getfield 25, 3) := by decide +kernel
theorem dX4_text_27 : decode cX4_text 27 = .ok (.invokevirtual 199, 3) := by decide +kernel
theorem dX4_text_30 : decode cX4_text 30 = .ok (.pop, 1) := by decide +kernel
theorem dX4_text_31 : decode cX4_text 31 = .ok (.iload_n 1, 1) := by decide +kernel
theorem dX4_text_32 : decode cX4_text 32 = .ok (.ifCond .lt 14, 3) := by decide +kernel
theorem dX4_text_35 : decode cX4_text 35 = .ok (.aload_n 0, 1) := by decide +kernel
theorem dX4_text_36 : decode cX4_text 36 = .ok (.getfield 10, 3) := by decide +kernel
theorem dX4_text_39 : decode cX4_text 39 = .ok (.aload_n 0, 1) := by decide +kernel
theorem dX4_text_40 : decode cX4_text 40 = .ok (.getfield 16, 3) := by decide +kernel
theorem dX4_text_43 : decode cX4_text 43 = .ok (.invokevirtual 129, 3) := by decide +kernel
theorem dX4_text_46 : decode cX4_text 46 = .ok (.iload_n 1, 1) := by decide +kernel
theorem dX4_text_47 : decode cX4_text 47 = .ok (.ireturn, 1) := by decide +kernel
theorem dX4_hold_0 : decode cX4_hold 0 = .ok (.iload_n 1, 1) := by decide +kernel
theorem dX4_hold_1 : decode cX4_hold 1 = .ok (.bipush 10, 2) := by decide +kernel
theorem dX4_hold_3 : decode cX4_hold 3 = .ok (.invokestatic 40, 3) := by decide +kernel
theorem dX4_hold_6 : decode cX4_hold 6 = .ok (.ifCond .eq 19, 3) := by decide +kernel
theorem dX4_hold_9 : decode cX4_hold 9 = .ok (.iload_n 2, 1) := by decide +kernel
theorem dX4_hold_10 : decode cX4_hold 10 = .ok (.iconst (-1), 1) := by decide +kernel
theorem dX4_hold_11 : decode cX4_hold 11 = .ok (.if_icmp .eq 20, 3) := by decide +kernel
theorem dX4_hold_14 : decode cX4_hold 14 = .ok (.aload_n 0, 1) := by decide +kernel
theorem dX4_hold_15 : decode cX4_hold 15 = .ok (.getfield 10, 3) := by decide +kernel
theorem dX4_hold_18 : decode cX4_hold 18 = .ok (.iload_n 2, 1) := by decide +kernel
theorem dX4_hold_19 : decode cX4_hold 19 = .ok (.invokevirtual 56, 3) := by decide +kernel
theorem dX4_hold_22 : decode cX4_hold 22 = .ok (.ifCond .ne 9, 3) := by decide +kernel
theorem dX4_hold_25 : decode cX4_hold 25 = .ok (.aload_n 0, 1) := by decide +kernel
theorem dX4_hold_26 : decode cX4_hold 26 = .ok (.iconst 0, 1) := by decide +kernel
theorem dX4_hold_27 : decode cX4_hold 27 = .ok (.invokevirtual 44, 3) := by decide +kernel
theorem dX4_hold_30 : decode cX4_hold 30 = .ok (.ireturn, 1) := by decide +kernel
theorem dX4_hold_31 : decode cX4_hold 31 = .ok (.aload_n 0, 1) := by decide +kernel
theorem dX4_hold_32 : decode cX4_hold 32 = .ok (.getfield 10, 3) := by decide +kernel
theorem dX4_hold_35 : decode cX4_hold 35 = .ok (.getfield 206, 3) := by decide +kernel
theorem dX4_hold_38 : decode cX4_hold 38 = .ok (.iload_n 1, 1) := by decide +kernel
theorem dX4_hold_39 : decode cX4_hold 39 = .ok (.iload_n 2, 1) := by decide +kernel
theorem dX4_hold_40 : decode cX4_hold 40 = .ok (.iastore, 1) := by decide +kernel
theorem dX4_hold_41 : decode cX4_hold 41 = .ok (.iconst 1, 1) := by decide +kernel
theorem dX4_hold_42 : decode cX4_hold 42 = .ok (.ireturn, 1) := by decide +kernel
theorem dX4_as_0 : decode cX4_as 0 = .ok (.iload_n 1, 1) := by decide +kernel
theorem dX4_as_1 : decode cX4_as 1 = .ok (.bipush 10, 2) := by decide +kernel
theorem dX4_as_3 : decode cX4_as 3 = .ok (.invokestatic 40, 3) := by decide +kernel
theorem dX4_as_6 : decode cX4_as 6 = .ok (.ifCond .eq 12, 3) := by decide +kernel
theorem dX4_as_9 : decode cX4_as 9 = .ok (.iload_n 2, 1) := by decide +kernel
theorem dX4_as_10 : decode cX4_as 10 = .ok (.bipush 7, 2) := by decide +kernel
theorem dX4_as_12 : decode cX4_as 12 = .ok (.invokestatic 40, 3) := by decide +kernel
theorem dX4_as_15 : decode cX4_as 15 = .ok (.ifCond .ne 9, 3) := by decide +kernel
theorem dX4_as_18 : decode cX4_as 18 = .ok (.aload_n 0, 1) := by decide +kernel
theorem dX4_as_19 : decode cX4_as 19 = .ok (.iconst 0, 1) := by decide +kernel
theorem dX4_as_20 : decode cX4_as 20 = .ok (.invokevirtual 44, 3) := by decide +kernel
theorem dX4_as_23 : decode cX4_as 23 = .ok (.ireturn, 1) := by decide +kernel
theorem dX4_as_24 : decode cX4_as 24 = .ok (.aload_n 0, 1) := by decide +kernel
theorem dX4_as_25 : decode cX4_as 25 = .ok (.getfield 10, 3) := by decide +kernel
theorem dX4_as_28 : decode cX4_as 28 = .ok (.getfield 206, 3) := by decide +kernel
theorem dX4_as_31 : decode cX4_as 31 = .ok (.iload_n 1, 1) := by decide +kernel
theorem dX4_as_32 : decode cX4_as 32 = .ok (.iaload, 1) := by decide +kernel
theorem dX4_as_33 : decode cX4_as 33 = .ok (.istore_n 3, 1) := by decide +kernel
theorem dX4_as_34 : decode cX4_as 34 = .ok (.aload_n 0, 1) := by decide +kernel
theorem dX4_as_35 : decode cX4_as 35 = .ok (.getfield 10, 3) := by decide +kernel
theorem dX4_as_38 : decode cX4_as 38 = .ok (.iload_n 3, 1) := by decide +kernel
theorem dX4_as_39 : decode cX4_as 39 = .ok (.invokevirtual 56, 3) := by decide +kernel
theorem dX4_as_42 : decode cX4_as 42 = .ok (.ifCond .ne 9, 3) := by decide +kernel
theorem dX4_as_45 : decode cX4_as 45 = .ok (.aload_n 0, 1) := by decide +kernel
theorem dX4_as_46 : decode cX4_as 46 = .ok (.iconst 5, 1) := by decide +kernel
theorem dX4_as_47 : decode cX4_as 47 = .ok (.invokevirtual 44, 3) := by decide +kernel
theorem dX4_as_50 : decode cX4_as 50 = .ok (.ireturn, 1) := by decide +kernel
theorem dX4_as_51 : decode cX4_as 51 = .ok (.aload_n 0, 1) := by decide +kernel
theorem dX4_as_52 : decode cX4_as 52 = .ok (.getfield 10, 3) := by decide +kernel
theorem dX4_as_55 : decode cX4_as 55 = .ok (.iload_n 3, 1) := by decide +kernel
theorem dX4_as_56 : decode cX4_as 56 = .ok (.iconst 0, 1) := by decide +kernel
theorem dX4_as_57 : decode cX4_as 57 = .ok (.invokevirtual 60, 3) := by decide +kernel
theorem dX4_as_60 : decode cX4_as 60 = .ok (.iload_n 2, 1) := by decide +kernel
theorem dX4_as_61 : decode cX4_as 61 = .ok (.invokestatic 209, 3) := by decide +kernel
theorem dX4_as_64 : decode cX4_as 64 = .ok (.ifCond .ne 9, 3) := by decide +kernel
theorem dX4_as_67 : decode cX4_as 67 = .ok (.aload_n 0, 1) := by decide +kernel
theorem dX4_as_68 : decode cX4_as 68 = .ok (.iconst 2, 1) := by decide +kernel
theorem dX4_as_69 : decode cX4_as 69 = .ok (.invokevirtual 44, 3) := by decide +kernel
theorem dX4_as_72 : decode cX4_as 72 = .ok (.ireturn, 1) := by decide +kernel
theorem dX4_as_73 : decode cX4_as 73 = .ok (.iload_n 3, 1) := by decide +kernel
theorem dX4_as_74 : decode cX4_as 74 = .ok (.ireturn, 1) := by decide +kernel
theorem dX4_sheet_0 : decode cX4_sheet 0 = .ok (.iload_n 1, 1) := by decide +kernel
theorem dX4_sheet_1 : decode cX4_sheet 1 = .ok (.iconst 4, 1) := by decide +kernel
theorem dX4_sheet_2 : decode cX4_sheet 2 = .ok (.invokestatic 40, 3) := by decide +kernel
theorem dX4_sheet_5 : decode cX4_sheet 5 = .ok (.ifCond .eq 25, 3) := by decide +kernel
theorem dX4_sheet_8 : decode cX4_sheet 8 = .ok (.iload_n 2, 1) := by decide +kernel
theorem dX4_sheet_9 : decode cX4_sheet 9 = .ok (.ifCond .eq 27, 3) := by decide +kernel
theorem dX4_sheet_12 : decode cX4_sheet 12 = .ok (.iload_n 2, 1) := by decide +kernel
theorem dX4_sheet_13 : decode cX4_sheet 13 = .ok (.bipush 8, 2) := by decide +kernel
theorem dX4_sheet_15 : decode cX4_sheet 15 = .ok (.if_icmp .eq 21, 3) := by decide +kernel
theorem dX4_sheet_18 : decode cX4_sheet 18 = .ok (.iload_n 2, 1) := by decide +kernel
theorem dX4_sheet_19 : decode cX4_sheet 19 = .ok (.bipush 16, 2) := by decide +kernel
theorem dX4_sheet_21 : decode cX4_sheet 21 = .ok (.if_icmp .eq 15, 3) := by decide +kernel
theorem dX4_sheet_24 : decode cX4_sheet 24 = .ok (.iload_n 2, 1) := by decide +kernel
theorem dX4_sheet_25 : decode cX4_sheet 25 = .ok (.bipush 32, 2) := by decide +kernel
theorem dX4_sheet_27 : decode cX4_sheet 27 = .ok (.if_icmp .eq 9, 3) := by decide +kernel
theorem dX4_sheet_30 : decode cX4_sheet 30 = .ok (.aload_n 0, 1) := by decide +kernel
theorem dX4_sheet_31 : decode cX4_sheet 31 = .ok (.iconst 0, 1) := by decide +kernel
theorem dX4_sheet_32 : decode cX4_sheet 32 = .ok (.invokevirtual 44, 3) := by decide +kernel
theorem dX4_sheet_35 : decode cX4_sheet 35 = .ok (.ireturn, 1) := by decide +kernel
theorem dX4_sheet_36 : decode cX4_sheet 36 = .ok (.iload_n 3, 1) := by decide +kernel
theorem dX4_sheet_37 : decode cX4_sheet 37 = .ok (.ifCond .ge 10, 3) := by decide +kernel
theorem dX4_sheet_40 : decode cX4_sheet 40 = .ok (.aload_n 0, 1) := by decide +kernel
theorem dX4_sheet_41 : decode cX4_sheet 41 = .ok (.bipush 6, 2) := by decide +kernel
theorem dX4_sheet_43 : decode cX4_sheet 43 = .ok (.invokevirtual 44, 3) := by decide +kernel
theorem dX4_sheet_46 : decode cX4_sheet 46 = .ok (.ireturn, 1) := by decide +kernel
theorem dX4_sheet_47 : decode cX4_sheet 47 = .ok (.iload_n 3, 1) := by decide +kernel
theorem dX4_sheet_48 : decode cX4_sheet 48 = .ok (.bipush 40, 2) := by decide +kernel
theorem dX4_sheet_50 : decode cX4_sheet 50 = .ok (.if_icmp .le 9, 3) := by decide +kernel
theorem dX4_sheet_53 : decode cX4_sheet 53 = .ok (.aload_n 0, 1) := by decide +kernel
theorem dX4_sheet_54 : decode cX4_sheet 54 = .ok (.iconst 0, 1) := by decide +kernel
theorem dX4_sheet_55 : decode cX4_sheet 55 = .ok (.invokevirtual 44, 3) := by decide +kernel
theorem dX4_sheet_58 : decode cX4_sheet 58 = .ok (.ireturn, 1) := by decide +kernel
theorem dX4_sheet_59 : decode cX4_sheet 59 = .ok (.aload_n 0, 1) := by decide +kernel
theorem dX4_sheet_60 : decode cX4_sheet 60 = .ok (.getfield 32, 3) := by decide +kernel
theorem dX4_sheet_63 : decode cX4_sheet 63 = .ok (.iload_n 1, 1) := by decide +kernel
theorem dX4_sheet_64 : decode cX4_sheet 64 = .ok (.iload_n 2, 1) := by decide +kernel
theorem dX4_sheet_65 : decode cX4_sheet 65 = .ok (.iload_n 2, 1) := by decide +kernel
theorem dX4_sheet_66 : decode cX4_sheet 66 = .ok (.ifCond .ne 7, 3) := by decide +kernel
theorem dX4_sheet_69 : decode cX4_sheet 69 = .ok (.iconst 0, 1) := by decide +kernel
theorem dX4_sheet_70 : decode cX4_sheet 70 = .ok (.goto 4, 3) := by decide +kernel
theorem dX4_sheet_73 : decode cX4_sheet 73 = .ok (.iload_n 3, 1) := by decide +kernel
theorem dX4_sheet_74 : decode cX4_sheet 74 = .ok (.invokevirtual 214, 3) := by decide +kernel
theorem dX4_sheet_77 : decode cX4_sheet 77 = .ok (.aload_n 0, 1) := by decide +kernel
theorem dX4_sheet_78 : decode cX4_sheet 78 = .ok (.getfield 32, 3) := by decide +kernel
theorem dX4_sheet_81 : decode cX4_sheet 81 = .ok (.iload_n 1, 1) := by decide +kernel
theorem dX4_sheet_82 : decode cX4_sheet 82 = .ok (.invokevirtual 174, 3) := by decide +kernel
theorem dX4_sheet_85 : decode cX4_sheet 85 = .ok (.ireturn, 1) := by decide +kernel
theorem dX4_write_0 : decode cX4_write 0 = .ok (.iload_n 1, 1) := by decide +kernel
theorem dX4_write_1 : decode cX4_write 1 = .ok (.iconst 4, 1) := by decide +kernel
theorem dX4_write_2 : decode cX4_write 2 = .ok (.invokestatic 40, 3) := by decide +kernel
theorem dX4_write_5 : decode cX4_write 5 = .ok (.ifCond .ne 9, 3) := by decide +kernel
theorem dX4_write_8 : decode cX4_write 8 = .ok (.aload_n 0, 1) := by decide +kernel
theorem dX4_write_9 : decode cX4_write 9 = .ok (.iconst 0, 1) := by decide +kernel
theorem dX4_write_10 : decode cX4_write 10 = .ok (.invokevirtual 44, 3) := by decide +kernel
theorem dX4_write_13 : decode cX4_write 13 = .ok (.ireturn, 1) := by decide +kernel
theorem dX4_write_14 : decode cX4_write 14 = .ok (.aload_n 0, 1) := by decide +kernel
theorem dX4_write_15 : decode cX4_write 15 = .ok (.getfield 32, 3) := by decide +kernel
theorem dX4_write_18 : decode cX4_write 18 = .ok (.iload_n 1, 1) := by decide +kernel
theorem dX4_write_19 : decode cX4_write 19 = .ok (.invokevirtual 168, 3) := by decide +kernel
theorem dX4_write_22 : decode cX4_write 22 = .ok (.ifCond .eq 9, 3) := by decide +kernel
theorem dX4_write_25 : decode cX4_write 25 = .ok (.aload_n 0, 1) := by decide +kernel
theorem dX4_write_26 : decode cX4_write 26 = .ok (.iconst 5, 1) := by decide +kernel
theorem dX4_write_27 : decode cX4_write 27 = .ok (.invokevirtual 44, 3) := by decide +kernel
theorem dX4_write_30 : decode cX4_write 30 = .ok (.ireturn, 1) := by decide +kernel
theorem dX4_write_31 : decode cX4_write 31 = .ok (.iload_n 2, 1) := by decide +kernel
theorem dX4_write_32 : decode cX4_write 32 = .ok (.aload_n 0, 1) := by decide +kernel
theorem dX4_write_33 : decode cX4_write 33 = .ok (.getfield 32, 3) := by decide +kernel
theorem dX4_write_36 : decode cX4_write 36 = .ok (.iload_n 1, 1) := by decide +kernel
theorem dX4_write_37 : decode cX4_write 37 = .ok (.invokevirtual 174, 3) := by decide +kernel
theorem dX4_write_40 : decode cX4_write 40 = .ok (.invokestatic 40, 3) := by decide +kernel
theorem dX4_write_43 : decode cX4_write 43 = .ok (.ifCond .ne 9, 3) := by decide +kernel
theorem dX4_write_46 : decode cX4_write 46 = .ok (.aload_n 0, 1) := by decide +kernel
theorem dX4_write_47 : decode cX4_write 47 = .ok (.iconst 0, 1) := by decide +kernel
theorem dX4_write_48 : decode cX4_write 48 = .ok (.invokevirtual 44, 3) := by decide +kernel
theorem dX4_write_51 : decode cX4_write 51 = .ok (.ireturn, 1) := by decide +kernel
theorem dX4_write_52 : decode cX4_write 52 = .ok (.aload_n 0, 1) := by decide +kernel
theorem dX4_write_53 : decode cX4_write 53 = .ok (.getfield 32, 3) := by decide +kernel
theorem dX4_write_56 : decode cX4_write 56 = .ok (.iload_n 1, 1) := by decide +kernel
theorem dX4_write_57 : decode cX4_write 57 = .ok (.iload_n 2, 1) := by decide +kernel
theorem dX4_write_58 : decode cX4_write 58 = .ok (.iload_n 3, 1) := by decide +kernel
theorem dX4_write_59 : decode cX4_write 59 = .ok (.invokevirtual 217, 3) := by decide +kernel
theorem dX4_write_62 : decode cX4_write 62 = .ok (.iconst 1, 1) := by decide +kernel
theorem dX4_write_63 : decode cX4_write 63 = .ok (.ireturn, 1) := by decide +kernel
theorem dX4_copy_0 : decode cX4_copy 0 = .ok (.iload_n 1, 1) := by decide +kernel
theorem dX4_copy_1 : decode cX4_copy 1 = .ok (.iconst 4, 1) := by decide +kernel
theorem dX4_copy_2 : decode cX4_copy 2 = .ok (.invokestatic 40, 3) := by decide +kernel
theorem dX4_copy_5 : decode cX4_copy 5 = .ok (.ifCond .eq 11, 3) := by decide +kernel
theorem dX4_copy_8 : decode cX4_copy 8 = .ok (.iload_n 3, 1) := by decide +kernel
theorem dX4_copy_9 : decode cX4_copy 9 = .ok (.iconst 4, 1) := by decide +kernel
theorem dX4_copy_10 : decode cX4_copy 10 = .ok (.invokestatic 40, 3) := by decide +kernel
theorem dX4_copy_13 : decode cX4_copy 13 = .ok (.ifCond .ne 9, 3) := by decide +kernel
theorem dX4_copy_16 : decode cX4_copy 16 = .ok (.aload_n 0, 1) := by decide +kernel
theorem dX4_copy_17 : decode cX4_copy 17 = .ok (.iconst 0, 1) := by decide +kernel
theorem dX4_copy_18 : decode cX4_copy 18 = .ok (.invokevirtual 44, 3) := by decide +kernel
theorem dX4_copy_21 : decode cX4_copy 21 = .ok (.ireturn, 1) := by decide +kernel
theorem dX4_copy_22 : decode cX4_copy 22 = .ok (.aload_n 0, 1) := by decide +kernel
theorem dX4_copy_23 : decode cX4_copy 23 = .ok (.getfield 32, 3) := by decide +kernel
theorem dX4_copy_26 : decode cX4_copy 26 = .ok (.iload_n 1, 1) := by decide +kernel
theorem dX4_copy_27 : decode cX4_copy 27 = .ok (.invokevirtual 168, 3) := by decide +kernel
theorem dX4_copy_30 : decode cX4_copy 30 = .ok (.ifCond .ne 14, 3) := by decide +kernel
theorem dX4_copy_33 : decode cX4_copy 33 = .ok (.aload_n 0, 1) := by decide +kernel
theorem dX4_copy_34 : decode cX4_copy 34 = .ok (.getfield 32, 3) := by decide +kernel
theorem dX4_copy_37 : decode cX4_copy 37 = .ok (.iload_n 3, 1) := by decide +kernel
theorem dX4_copy_38 : decode cX4_copy 38 = .ok (.invokevirtual 168, 3) := by decide +kernel
theorem dX4_copy_41 : decode cX4_copy 41 = .ok (.ifCond .eq 9, 3) := by decide +kernel
theorem dX4_copy_44 : decode cX4_copy 44 = .ok (.aload_n 0, 1) := by decide +kernel
theorem dX4_copy_45 : decode cX4_copy 45 = .ok (.iconst 5, 1) := by decide +kernel
theorem dX4_copy_46 : decode cX4_copy 46 = .ok (.invokevirtual 44, 3) := by decide +kernel
theorem dX4_copy_49 : decode cX4_copy 49 = .ok (.ireturn, 1) := by decide +kernel
theorem dX4_copy_50 : decode cX4_copy 50 = .ok (.aload_n 0, 1) := by decide +kernel
theorem dX4_copy_51 : decode cX4_copy 51 = .ok (.getfield 32, 3) := by decide +kernel
theorem dX4_copy_54 : decode cX4_copy 54 = .ok (.iload_n 1, 1) := by decide +kernel
theorem dX4_copy_55 : decode cX4_copy 55 = .ok (.invokevirtual 218, 3) := by decide +kernel
theorem dX4_copy_58 : decode cX4_copy 58 = .ok (.aload_n 0, 1) := by decide +kernel
theorem dX4_copy_59 : decode cX4_copy 59 = .ok (.getfield 32, 3) := by decide +kernel
theorem dX4_copy_62 : decode cX4_copy 62 = .ok (.iload_n 3, 1) := by decide +kernel
theorem dX4_copy_63 : decode cX4_copy 63 = .ok (.invokevirtual 218, 3) := by decide +kernel
theorem dX4_copy_66 : decode cX4_copy 66 = .ok (.if_icmp .eq 9, 3) := by decide +kernel
theorem dX4_copy_69 : decode cX4_copy 69 = .ok (.aload_n 0, 1) := by decide +kernel
theorem dX4_copy_70 : decode cX4_copy 70 = .ok (.iconst 2, 1) := by decide +kernel
theorem dX4_copy_71 : decode cX4_copy 71 = .ok (.invokevirtual 44, 3) := by decide +kernel
theorem dX4_copy_74 : decode cX4_copy 74 = .ok (.ireturn, 1) := by decide +kernel
theorem dX4_copy_75 : decode cX4_copy 75 = .ok (.aload_n 0, 1) := by decide +kernel
theorem dX4_copy_76 : decode cX4_copy 76 = .ok (.getfield 32, 3) := by decide +kernel
theorem dX4_copy_79 : decode cX4_copy 79 = .ok (.iload_n 1, 1) := by decide +kernel
theorem dX4_copy_80 : decode cX4_copy 80 = .ok (.iload_n 2, 1) := by decide +kernel
theorem dX4_copy_81 : decode cX4_copy 81 = .ok (.iload 5, 2) := by decide +kernel
theorem dX4_copy_83 : decode cX4_copy 83 = .ok (.invokevirtual 221, 3) := by decide +kernel
theorem dX4_copy_86 : decode cX4_copy 86 = .ok (.ifCond .eq 18, 3) := by decide +kernel
theorem dX4_copy_89 : decode cX4_copy 89 = .ok (.aload_n 0, 1) := by decide +kernel
theorem dX4_copy_90 : decode cX4_copy 90 = .ok (.getfield 32, 3) := by decide +kernel
theorem dX4_copy_93 : decode cX4_copy 93 = .ok (.iload_n 3, 1) := by decide +kernel
theorem dX4_copy_94 : decode cX4_copy 94 = .ok (.iload 4, 2) := by decide +kernel
theorem dX4_copy_96 : decode cX4_copy 96 = .ok (.iload 5, 2) := by decide +kernel
theorem dX4_copy_98 : decode cX4_copy 98 = .ok (.invokevirtual 221, 3) := by decide +kernel
theorem dX4_copy_101 : decode cX4_copy 101 = .ok (.ifCond .ne 9, 3) := by decide +kernel
theorem dX4_copy_104 : decode cX4_copy 104 = .ok (.aload_n 0, 1) := by decide +kernel
theorem dX4_copy_105 : decode cX4_copy 105 = .ok (.iconst 0, 1) := by decide +kernel
theorem dX4_copy_106 : decode cX4_copy 106 = .ok (.invokevirtual 44, 3) := by decide +kernel
theorem dX4_copy_109 : decode cX4_copy 109 = .ok (.ireturn, 1) := by decide +kernel
theorem dX4_copy_110 : decode cX4_copy 110 = .ok (.aload_n 0, 1) := by decide +kernel
theorem dX4_copy_111 : decode cX4_copy 111 = .ok (.getfield 32, 3) := by decide +kernel
theorem dX4_copy_114 : decode cX4_copy 114 = .ok (.iload_n 1, 1) := by decide +kernel
theorem dX4_copy_115 : decode cX4_copy 115 = .ok (.iload_n 2, 1) := by decide +kernel
theorem dX4_copy_116 : decode cX4_copy 116 = .ok (.iload_n 3, 1) := by decide +kernel
theorem dX4_copy_117 : decode cX4_copy 117 = .ok (.iload 4, 2) := by decide +kernel
theorem dX4_copy_119 : decode cX4_copy 119 = .ok (.iload 5, 2) := by decide +kernel
theorem dX4_copy_121 : decode cX4_copy 121 = .ok (.invokevirtual 224, 3) := by decide +kernel
theorem dX4_copy_124 : decode cX4_copy 124 = .ok (.iload 5, 2) := by decide +kernel
theorem dX4_copy_126 : decode cX4_copy 126 = .ok (.ireturn, 1) := by decide +kernel
theorem dX4_load_0 : decode cX4_load 0 = .ok (.iload_n 1, 1) := by decide +kernel
theorem dX4_load_1 : decode cX4_load 1 = .ok (.iconst 4, 1) := by decide +kernel
theorem dX4_load_2 : decode cX4_load 2 = .ok (.invokestatic 40, 3) := by decide +kernel
theorem dX4_load_5 : decode cX4_load 5 = .ok (.ifCond .ne 9, 3) := by decide +kernel
theorem dX4_load_8 : decode cX4_load 8 = .ok (.aload_n 0, 1) := by decide +kernel
theorem dX4_load_9 : decode cX4_load 9 = .ok (.iconst 0, 1) := by decide +kernel
theorem dX4_load_10 : decode cX4_load 10 = .ok (.invokevirtual 44, 3) := by decide +kernel
theorem dX4_load_13 : decode cX4_load 13 = .ok (.ireturn, 1) := by decide +kernel
theorem dX4_load_14 : decode cX4_load 14 = .ok (.aload_n 0, 1) := by decide +kernel
theorem dX4_load_15 : decode cX4_load 15 = .ok (.getfield 32, 3) := by decide +kernel
theorem dX4_load_18 : decode cX4_load 18 = .ok (.iload_n 1, 1) := by decide +kernel
theorem dX4_load_19 : decode cX4_load 19 = .ok (.invokevirtual 168, 3) := by decide +kernel
theorem dX4_load_22 : decode cX4_load 22 = .ok (.ifCond .eq 9, 3) := by decide +kernel
theorem dX4_load_25 : decode cX4_load 25 = .ok (.aload_n 0, 1) := by decide +kernel
theorem dX4_load_26 : decode cX4_load 26 = .ok (.iconst 5, 1) := by decide +kernel
theorem dX4_load_27 : decode cX4_load 27 = .ok (.invokevirtual 44, 3) := by decide +kernel
theorem dX4_load_30 : decode cX4_load 30 = .ok (.ireturn, 1) := by decide +kernel
theorem dX4_load_31 : decode cX4_load 31 = .ok (.aload_n 0, 1) := by decide +kernel
theorem dX4_load_32 : decode cX4_load 32 = .ok (.getfield 32, 3) := by decide +kernel
theorem dX4_load_35 : decode cX4_load 35 = .ok (.iload_n 1, 1) := by decide +kernel
theorem dX4_load_36 : decode cX4_load 36 = .ok (.invokevirtual 174, 3) := by decide +kernel
theorem dX4_load_39 : decode cX4_load 39 = .ok (.aload_n 0, 1) := by decide +kernel
theorem dX4_load_40 : decode cX4_load 40 = .ok (.getfield 10, 3) := by decide +kernel
theorem dX4_load_43 : decode cX4_load 43 = .ok (.getfield 144, 3) := by decide +kernel
theorem dX4_load_46 : decode cX4_load 46 = .ok (.invokestatic 228, 3) := by decide +kernel
theorem dX4_load_49 : decode cX4_load 49 = .ok (.istore_n 2, 1) := by decide +kernel
theorem dX4_load_50 : decode cX4_load 50 = .ok (.iconst 0, 1) := by decide +kernel
theorem dX4_load_51 : decode cX4_load 51 = .ok (.istore_n 3, 1) := by decide +kernel
theorem dX4_load_52 : decode cX4_load 52 = .ok (.iload_n 3, 1) := by decide +kernel
theorem dX4_load_53 : decode cX4_load 53 = .ok (.iload_n 2, 1) := by decide +kernel
theorem dX4_load_54 : decode cX4_load 54 = .ok (.if_icmp .ge 43, 3) := by decide +kernel
theorem dX4_load_57 : decode cX4_load 57 = .ok (.aload_n 0, 1) := by decide +kernel
theorem dX4_load_58 : decode cX4_load 58 = .ok (.getfield 32, 3) := by decide +kernel
theorem dX4_load_61 : decode cX4_load 61 = .ok (.iload_n 1, 1) := by decide +kernel
theorem dX4_load_62 : decode cX4_load 62 = .ok (.iload_n 3, 1) := by decide +kernel
theorem dX4_load_63 : decode cX4_load 63 = .ok (.invokevirtual 177, 3) := by decide +kernel
theorem dX4_load_66 : decode cX4_load 66 = .ok (.istore 4, 2) := by decide +kernel
theorem dX4_load_68 : decode cX4_load 68 = .ok (.iload 4, 2) := by decide +kernel
theorem dX4_load_70 : decode cX4_load 70 = .ok (.bipush 12, 2) := by decide +kernel
theorem dX4_load_72 : decode cX4_load 72 = .ok (.invokestatic 40, 3) := by decide +kernel
theorem dX4_load_75 : decode cX4_load 75 = .ok (.ifCond .ne 5, 3) := by decide +kernel
theorem dX4_load_78 : decode cX4_load 78 = .ok (.iload_n 3, 1) := by decide +kernel
theorem dX4_load_79 : decode cX4_load 79 = .ok (.ireturn, 1) := by decide +kernel
theorem dX4_load_80 : decode cX4_load 80 = .ok (.aload_n 0, 1) := by decide +kernel
theorem dX4_load_81 : decode cX4_load 81 = .ok (.getfield 10, 3) := by decide +kernel
theorem dX4_load_84 : decode cX4_load 84 = .ok (.iload_n 3, 1) := by decide +kernel
theorem dX4_load_85 : decode cX4_load 85 = .ok (.iconst 2, 1) := by decide +kernel
theorem dX4_load_86 : decode cX4_load 86 = .ok (.iload 4, 2) := by decide +kernel
theorem dX4_load_88 : decode cX4_load 88 = .ok (.invokevirtual 67, 3) := by decide +kernel
theorem dX4_load_91 : decode cX4_load 91 = .ok (.iinc 3 1, 3) := by decide +kernel
theorem dX4_load_94 : decode cX4_load 94 = .ok (.goto (-42), 3) := by decide +kernel
theorem dX4_load_97 : decode cX4_load 97 = .ok (.iload_n 2, 1) := by decide +kernel
theorem dX4_load_98 : decode cX4_load 98 = .ok (.ireturn, 1) := by decide +kernel
theorem dX4_judge_0 : decode cX4_judge 0 = .ok (.iload_n 1, 1) := by decide +kernel
theorem dX4_judge_1 : decode cX4_judge 1 = .ok (.iconst 4, 1) := by decide +kernel
theorem dX4_judge_2 : decode cX4_judge 2 = .ok (.invokestatic 40, 3) := by decide +kernel
theorem dX4_judge_5 : decode cX4_judge 5 = .ok (.ifCond .ne 9, 3) := by decide +kernel
theorem dX4_judge_8 : decode cX4_judge 8 = .ok (.aload_n 0, 1) := by decide +kernel
theorem dX4_judge_9 : decode cX4_judge 9 = .ok (.iconst 0, 1) := by decide +kernel
theorem dX4_judge_10 : decode cX4_judge 10 = .ok (.invokevirtual 44, 3) := by decide +kernel
theorem dX4_judge_13 : decode cX4_judge 13 = .ok (.ireturn, 1) := by decide +kernel
theorem dX4_judge_14 : decode cX4_judge 14 = .ok (.aload_n 0, 1) := by decide +kernel
theorem dX4_judge_15 : decode cX4_judge 15 = .ok (.getfield 32, 3) := by decide +kernel
theorem dX4_judge_18 : decode cX4_judge 18 = .ok (.iload_n 1, 1) := by decide +kernel
theorem dX4_judge_19 : decode cX4_judge 19 = .ok (.invokevirtual 168, 3) := by decide +kernel
theorem dX4_judge_22 : decode cX4_judge 22 = .ok (.ifCond .eq 9, 3) := by decide +kernel
theorem dX4_judge_25 : decode cX4_judge 25 = .ok (.aload_n 0, 1) := by decide +kernel
theorem dX4_judge_26 : decode cX4_judge 26 = .ok (.iconst 5, 1) := by decide +kernel
theorem dX4_judge_27 : decode cX4_judge 27 = .ok (.invokevirtual 44, 3) := by decide +kernel
theorem dX4_judge_30 : decode cX4_judge 30 = .ok (.ireturn, 1) := by decide +kernel
theorem dX4_judge_31 : decode cX4_judge 31 = .ok (.iconst 0, 1) := by decide +kernel
theorem dX4_judge_32 : decode cX4_judge 32 = .ok (.istore_n 2, 1) := by decide +kernel
theorem dX4_judge_33 : decode cX4_judge 33 = .ok (.iload_n 2, 1) := by decide +kernel
theorem dX4_judge_34 : decode cX4_judge 34 = .ok (.aload_n 0, 1) := by decide +kernel
theorem dX4_judge_35 : decode cX4_judge 35 = .ok (.getfield 32, 3) := by decide +kernel
theorem dX4_judge_38 : decode cX4_judge 38 = .ok (.iload_n 1, 1) := by decide +kernel
theorem dX4_judge_39 : decode cX4_judge 39 = .ok (.invokevirtual 174, 3) := by decide +kernel
theorem dX4_judge_42 : decode cX4_judge 42 = .ok (.if_icmp .ge 45, 3) := by decide +kernel
theorem dX4_judge_45 : decode cX4_judge 45 = .ok (.aload_n 0, 1) := by decide +kernel
theorem dX4_judge_46 : decode cX4_judge 46 = .ok (.getfield 10, 3) := by decide +kernel
theorem dX4_judge_49 : decode cX4_judge 49 = .ok (.iload_n 2, 1) := by decide +kernel
theorem dX4_judge_50 : decode cX4_judge 50 = .ok (.invokevirtual 56, 3) := by decide +kernel
theorem dX4_judge_53 : decode cX4_judge 53 = .ok (.ifCond .eq 24, 3) := by decide +kernel
theorem dX4_judge_56 : decode cX4_judge 56 = .ok (.aload_n 0, 1) := by decide +kernel
theorem dX4_judge_57 : decode cX4_judge 57 = .ok (.getfield 32, 3) := by decide +kernel
theorem dX4_judge_60 : decode cX4_judge 60 = .ok (.iload_n 1, 1) := by decide +kernel
theorem dX4_judge_61 : decode cX4_judge 61 = .ok (.iload_n 2, 1) := by decide +kernel
theorem dX4_judge_62 : decode cX4_judge 62 = .ok (.invokevirtual 177, 3) := by decide +kernel
theorem dX4_judge_65 : decode cX4_judge 65 = .ok (.aload_n 0, 1) := by decide +kernel
theorem dX4_judge_66 : decode cX4_judge 66 = .ok (.getfield 10, 3) := by decide +kernel
theorem dX4_judge_69 : decode cX4_judge 69 = .ok (.iload_n 2, 1) := by decide +kernel
theorem dX4_judge_70 : decode cX4_judge 70 = .ok (.iconst 4, 1) := by decide +kernel
theorem dX4_judge_71 : decode cX4_judge 71 = .ok (.invokevirtual 60, 3) := by decide +kernel
theorem dX4_judge_74 : decode cX4_judge 74 = .ok (.if_icmp .eq 7, 3) := by decide +kernel
theorem dX4_judge_77 : decode cX4_judge 77 = .ok (.iconst 1, 1) := by decide +kernel
theorem dX4_judge_78 : decode cX4_judge 78 = .ok (.iload_n 2, 1) := by decide +kernel
theorem dX4_judge_79 : decode cX4_judge 79 = .ok (.iadd, 1) := by decide +kernel
theorem dX4_judge_80 : decode cX4_judge 80 = .ok (.ireturn, 1) := by decide +kernel
theorem dX4_judge_81 : decode cX4_judge 81 = .ok (.iinc 2 1, 3) := by decide +kernel
theorem dX4_judge_84 : decode cX4_judge 84 = .ok (.goto (-51), 3) := by decide +kernel
theorem dX4_judge_87 : decode cX4_judge 87 = .ok (.iconst 0, 1) := by decide +kernel
theorem dX4_judge_88 : decode cX4_judge 88 = .ok (.ireturn, 1) := by decide +kernel
theorem dX4_image_0 : decode cX4_image 0 = .ok (.aload_n 0, 1) := by decide +kernel
theorem dX4_image_1 : decode cX4_image 1 = .ok (.getfield 19, 3) := by decide +kernel
theorem dX4_image_4 : decode cX4_image 4 = .ok (.aload_n 0, 1) := by decide +kernel
theorem dX4_image_5 : decode cX4_image 5 = .ok (.getfield 10, 3) := by decide +kernel
theorem dX4_image_8 : decode cX4_image 8 = .ok (.invokevirtual 129, 3) := by decide +kernel
theorem dX4_image_11 : decode cX4_image 11 = .ok (.aload_n 0, 1) := by decide +kernel
theorem dX4_image_12 : decode cX4_image 12 = .ok (.iconst 1, 1) := by decide +kernel
theorem dX4_image_13 : decode cX4_image 13 = .ok (.putfield 233, 3) := by decide +kernel
theorem dX4_image_16 : decode cX4_image 16 = .ok (.iconst 1, 1) := by decide +kernel
theorem dX4_image_17 : decode cX4_image 17 = .ok (.ireturn, 1) := by decide +kernel
theorem dX4_undo_0 : decode cX4_undo 0 = .ok (.aload_n 0, 1) := by decide +kernel
theorem dX4_undo_1 : decode cX4_undo 1 = .ok (.getfield 233, 3) := by decide +kernel
theorem dX4_undo_4 : decode cX4_undo 4 = .ok (.ifCond .ne 9, 3) := by decide +kernel
theorem dX4_undo_7 : decode cX4_undo 7 = .ok (.aload_n 0, 1) := by decide +kernel
theorem dX4_undo_8 : decode cX4_undo 8 = .ok (.iconst 3, 1) := by decide +kernel
theorem dX4_undo_9 : decode cX4_undo 9 = .ok (.invokevirtual 44, 3) := by decide +kernel
theorem dX4_undo_12 : decode cX4_undo 12 = .ok (.ireturn, 1) := by decide +kernel
theorem dX4_undo_13 : decode cX4_undo 13 = .ok (.aload_n 0, 1) := by decide +kernel
theorem dX4_undo_14 : decode cX4_undo 14 = .ok (.getfield 10, 3) := by decide +kernel
theorem dX4_undo_17 : decode cX4_undo 17 = .ok (.aload_n 0, 1) := by decide +kernel
theorem dX4_undo_18 : decode cX4_undo 18 = .ok (.getfield 19, 3) := by decide +kernel
theorem dX4_undo_21 : decode cX4_undo 21 = .ok (.invokevirtual 129, 3) := by decide +kernel
theorem dX4_undo_24 : decode cX4_undo 24 = .ok (.aload_n 0, 1) := by decide +kernel
theorem dX4_undo_25 : decode cX4_undo 25 = .ok (.getfield 10, 3) := by decide +kernel
theorem dX4_undo_28 : decode cX4_undo 28 = .ok (.getfield 107, 3) := by decide +kernel
theorem dX4_undo_31 : decode cX4_undo 31 = .ok (.ireturn, 1) := by decide +kernel
theorem dX4_tear_0 : decode cX4_tear 0 = .ok (.aload_n 0, 1) := by decide +kernel
theorem dX4_tear_1 : decode cX4_tear 1 = .ok (.getfield 233, 3) := by decide +kernel
theorem dX4_tear_4 : decode cX4_tear 4 = .ok (.invokestatic 74, 3) := by decide +kernel
theorem dX4_tear_7 : decode cX4_tear 7 = .ok (.istore_n 1, 1) := by decide +kernel
theorem dX4_tear_8 : decode cX4_tear 8 = .ok (.aload_n 0, 1) := by decide +kernel
theorem dX4_tear_9 : decode cX4_tear 9 = .ok (.iconst 0, 1) := by decide +kernel
theorem dX4_tear_10 : decode cX4_tear 10 = .ok (.putfield 233, 3) := by decide +kernel
theorem dX4_tear_13 : decode cX4_tear 13 = .ok (.iload_n 1, 1) := by decide +kernel
theorem dX4_tear_14 : decode cX4_tear 14 = .ok (.ireturn, 1) := by decide +kernel
theorem dX4_count_0 : decode cX4_count 0 = .ok (.iload_n 1, 1) := by decide +kernel
theorem dX4_count_1 : decode cX4_count 1 = .ok (.tableswitch 111 0 7 #[47, 55, 63, 71, 79, 87, 95, 103], 47) := by decide +kernel
theorem dX4_count_48 : decode cX4_count 48 = .ok (.aload_n 0, 1) := by decide +kernel
theorem dX4_count_49 : decode cX4_count 49 = .ok (.getfield 10, 3) := by decide +kernel
theorem dX4_count_52 : decode cX4_count 52 = .ok (.getfield 107, 3) := by decide +kernel
theorem dX4_count_55 : decode cX4_count 55 = .ok (.ireturn, 1) := by decide +kernel
theorem dX4_count_56 : decode cX4_count 56 = .ok (.aload_n 0, 1) := by decide +kernel
theorem dX4_count_57 : decode cX4_count 57 = .ok (.getfield 10, 3) := by decide +kernel
theorem dX4_count_60 : decode cX4_count 60 = .ok (.getfield 144, 3) := by decide +kernel
theorem dX4_count_63 : decode cX4_count 63 = .ok (.ireturn, 1) := by decide +kernel
theorem dX4_count_64 : decode cX4_count 64 = .ok (.aload_n 0, 1) := by decide +kernel
theorem dX4_count_65 : decode cX4_count 65 = .ok (.getfield 10, 3) := by decide +kernel
theorem dX4_count_68 : decode cX4_count 68 = .ok (.getfield 103, 3) := by decide +kernel
theorem dX4_count_71 : decode cX4_count 71 = .ok (.ireturn, 1) := by decide +kernel
theorem dX4_count_72 : decode cX4_count 72 = .ok (.aload_n 0, 1) := by decide +kernel
theorem dX4_count_73 : decode cX4_count 73 = .ok (.getfield 10, 3) := by decide +kernel
theorem dX4_count_76 : decode cX4_count 76 = .ok (.invokevirtual 114, 3) := by decide +kernel
theorem dX4_count_79 : decode cX4_count 79 = .ok (.ireturn, 1) := by decide +kernel
theorem dX4_count_80 : decode cX4_count 80 = .ok (.aload_n 0, 1) := by decide +kernel
theorem dX4_count_81 : decode cX4_count 81 = .ok (.getfield 10, 3) := by decide +kernel
theorem dX4_count_84 : decode cX4_count 84 = .ok (.invokevirtual 123, 3) := by decide +kernel
theorem dX4_count_87 : decode cX4_count 87 = .ok (.ireturn, 1) := by decide +kernel
theorem dX4_count_88 : decode cX4_count 88 = .ok (.aload_n 0, 1) := by decide +kernel
theorem dX4_count_89 : decode cX4_count 89 = .ok (.getfield 25, 3) := by decide +kernel
theorem dX4_count_92 : decode cX4_count 92 = .ok (.invokevirtual 197, 3) := by decide +kernel
theorem dX4_count_95 : decode cX4_count 95 = .ok (.ireturn, 1) := by decide +kernel
theorem dX4_count_96 : decode cX4_count 96 = .ok (.aload_n 0, 1) := by decide +kernel
theorem dX4_count_97 : decode cX4_count 97 = .ok (.getfield 10, 3) := by decide +kernel
theorem dX4_count_100 : decode cX4_count 100 = .ok (.getfield 189, 3) := by decide +kernel
theorem dX4_count_103 : decode cX4_count 103 = .ok (.ireturn, 1) := by decide +kernel
theorem dX4_count_104 : decode cX4_count 104 = .ok (.aload_n 0, 1) := by decide +kernel
theorem dX4_count_105 : decode cX4_count 105 = .ok (.getfield 10, 3) := by decide +kernel
theorem dX4_count_108 : decode cX4_count 108 = .ok (.invokevirtual 237, 3) := by decide +kernel
theorem dX4_count_111 : decode cX4_count 111 = .ok (.ireturn, 1) := by decide +kernel
theorem dX4_count_112 : decode cX4_count 112 = .ok (.aload_n 0, 1) := by decide +kernel
theorem dX4_count_113 : decode cX4_count 113 = .ok (.iconst 0, 1) := by decide +kernel
theorem dX4_count_114 : decode cX4_count 114 = .ok (.invokevirtual 44, 3) := by decide +kernel
theorem dX4_count_117 : decode cX4_count 117 = .ok (.ireturn, 1) := by decide +kernel
theorem dX4_status_0 : decode cX4_status 0 = .ok (.iload_n 1, 1) := by decide +kernel
theorem dX4_status_1 : decode cX4_status 1 = .ok (.iconst (-1), 1) := by decide +kernel
theorem dX4_status_2 : decode cX4_status 2 = .ok (.if_icmp .ne 30, 3) := by decide +kernel
theorem dX4_status_5 : decode cX4_status 5 = .ok (.iconst 0, 1) := by decide +kernel
theorem dX4_status_6 : decode cX4_status 6 = .ok (.istore_n 2, 1) := by decide +kernel
theorem dX4_status_7 : decode cX4_status 7 = .ok (.iconst 0, 1) := by decide +kernel
theorem dX4_status_8 : decode cX4_status 8 = .ok (.istore_n 3, 1) := by decide +kernel
theorem dX4_status_9 : decode cX4_status 9 = .ok (.iload_n 3, 1) := by decide +kernel
theorem dX4_status_10 : decode cX4_status 10 = .ok (.bipush 7, 2) := by decide +kernel
theorem dX4_status_12 : decode cX4_status 12 = .ok (.if_icmp .ge 18, 3) := by decide +kernel
theorem dX4_status_15 : decode cX4_status 15 = .ok (.iload_n 2, 1) := by decide +kernel
theorem dX4_status_16 : decode cX4_status 16 = .ok (.aload_n 0, 1) := by decide +kernel
theorem dX4_status_17 : decode cX4_status 17 = .ok (.getfield 36, 3) := by decide +kernel
theorem dX4_status_20 : decode cX4_status 20 = .ok (.iload_n 3, 1) := by decide +kernel
theorem dX4_status_21 : decode cX4_status 21 = .ok (.iaload, 1) := by decide +kernel
theorem dX4_status_22 : decode cX4_status 22 = .ok (.iadd, 1) := by decide +kernel
theorem dX4_status_23 : decode cX4_status 23 = .ok (.istore_n 2, 1) := by decide +kernel
theorem dX4_status_24 : decode cX4_status 24 = .ok (.iinc 3 1, 3) := by decide +kernel
theorem dX4_status_27 : decode cX4_status 27 = .ok (.goto (-18), 3) := by decide +kernel
theorem dX4_status_30 : decode cX4_status 30 = .ok (.iload_n 2, 1) := by decide +kernel
theorem dX4_status_31 : decode cX4_status 31 = .ok (.ireturn, 1) := by decide +kernel
theorem dX4_status_32 : decode cX4_status 32 = .ok (.iload_n 1, 1) := by decide +kernel
theorem dX4_status_33 : decode cX4_status 33 = .ok (.bipush 7, 2) := by decide +kernel
theorem dX4_status_35 : decode cX4_status 35 = .ok (.invokestatic 40, 3) := by decide +kernel
theorem dX4_status_38 : decode cX4_status 38 = .ok (.ifCond .ne 9, 3) := by decide +kernel
theorem dX4_status_41 : decode cX4_status 41 = .ok (.aload_n 0, 1) := by decide +kernel
theorem dX4_status_42 : decode cX4_status 42 = .ok (.iconst 0, 1) := by decide +kernel
theorem dX4_status_43 : decode cX4_status 43 = .ok (.invokevirtual 44, 3) := by decide +kernel
theorem dX4_status_46 : decode cX4_status 46 = .ok (.ireturn, 1) := by decide +kernel
theorem dX4_status_47 : decode cX4_status 47 = .ok (.aload_n 0, 1) := by decide +kernel
theorem dX4_status_48 : decode cX4_status 48 = .ok (.getfield 36, 3) := by decide +kernel
theorem dX4_status_51 : decode cX4_status 51 = .ok (.iload_n 1, 1) := by decide +kernel
theorem dX4_status_52 : decode cX4_status 52 = .ok (.iaload, 1) := by decide +kernel
theorem dX4_status_53 : decode cX4_status 53 = .ok (.ireturn, 1) := by decide +kernel
theorem dX4_finding_0 : decode cX4_finding 0 = .ok (.iload_n 1, 1) := by decide +kernel
theorem dX4_finding_1 : decode cX4_finding 1 = .ok (.bipush 7, 2) := by decide +kernel
theorem dX4_finding_3 : decode cX4_finding 3 = .ok (.invokestatic 40, 3) := by decide +kernel
theorem dX4_finding_6 : decode cX4_finding 6 = .ok (.ifCond .eq 13, 3) := by decide +kernel
theorem dX4_finding_9 : decode cX4_finding 9 = .ok (.aload_n 0, 1) := by decide +kernel
theorem dX4_finding_10 : decode cX4_finding 10 = .ok (.getfield 36, 3) := by decide +kernel
theorem dX4_finding_13 : decode cX4_finding 13 = .ok (.iload_n 1, 1) := by decide +kernel
theorem dX4_finding_14 : decode cX4_finding 14 = .ok (.dup2, 1) := by decide +kernel
theorem dX4_finding_15 : decode cX4_finding 15 = .ok (.iaload, 1) := by decide +kernel
theorem dX4_finding_16 : decode cX4_finding 16 = .ok (.iconst 1, 1) := by decide +kernel
theorem dX4_finding_17 : decode cX4_finding 17 = .ok (.iadd, 1) := by decide +kernel
theorem dX4_finding_18 : decode cX4_finding 18 = .ok (.iastore, 1) := by decide +kernel
theorem dX4_finding_19 : decode cX4_finding 19 = .ok (.ldc 240, 2) := by decide +kernel
theorem dX4_finding_21 : decode cX4_finding 21 = .ok (.iload_n 1, 1) := by decide +kernel
theorem dX4_finding_22 : decode cX4_finding 22 = .ok (.isub, 1) := by decide +kernel
theorem dX4_finding_23 : decode cX4_finding 23 = .ok (.ireturn, 1) := by decide +kernel
theorem dX4_isIn_0 : decode cX4_isIn 0 = .ok (.iload_n 0, 1) := by decide +kernel
theorem dX4_isIn_1 : decode cX4_isIn 1 = .ok (.ifCond .lt 12, 3) := by decide +kernel
theorem dX4_isIn_4 : decode cX4_isIn 4 = .ok (.iload_n 0, 1) := by decide +kernel
theorem dX4_isIn_5 : decode cX4_isIn 5 = .ok (.iload_n 1, 1) := by decide +kernel
theorem dX4_isIn_6 : decode cX4_isIn 6 = .ok (.if_icmp .ge 7, 3) := by decide +kernel
theorem dX4_isIn_9 : decode cX4_isIn 9 = .ok (.iconst 1, 1) := by decide +kernel
theorem dX4_isIn_10 : decode cX4_isIn 10 = .ok (.goto 4, 3) := by decide +kernel
theorem dX4_isIn_13 : decode cX4_isIn 13 = .ok (.iconst 0, 1) := by decide +kernel
theorem dX4_isIn_14 : decode cX4_isIn 14 = .ok (.ireturn, 1) := by decide +kernel
theorem dX4_bit_0 : decode cX4_bit 0 = .ok (.iload_n 0, 1) := by decide +kernel
theorem dX4_bit_1 : decode cX4_bit 1 = .ok (.ifCond .eq 7, 3) := by decide +kernel
theorem dX4_bit_4 : decode cX4_bit 4 = .ok (.iconst 1, 1) := by decide +kernel
theorem dX4_bit_5 : decode cX4_bit 5 = .ok (.goto 4, 3) := by decide +kernel
theorem dX4_bit_8 : decode cX4_bit 8 = .ok (.iconst 0, 1) := by decide +kernel
theorem dX4_bit_9 : decode cX4_bit 9 = .ok (.ireturn, 1) := by decide +kernel
theorem dX5_init_0 : decode cX5_init 0 = .ok (.aload_n 0, 1) := by decide +kernel
theorem dX5_init_1 : decode cX5_init 1 = .ok (.invokespecial 1, 3) := by decide +kernel
theorem dX5_init_4 : decode cX5_init 4 = .ok (.aload_n 0, 1) := by decide +kernel
theorem dX5_init_5 : decode cX5_init 5 = .ok (.bipush 70, 2) := by decide +kernel
theorem dX5_init_7 : decode cX5_init 7 = .ok (.newarray .int, 2) := by decide +kernel
theorem dX5_init_9 : decode cX5_init 9 = .ok (.putfield 9, 3) := by decide +kernel
theorem dX5_init_12 : decode cX5_init 12 = .ok (.aload_n 0, 1) := by decide +kernel
theorem dX5_init_13 : decode cX5_init 13 = .ok (.bipush 70, 2) := by decide +kernel
theorem dX5_init_15 : decode cX5_init 15 = .ok (.newarray .int, 2) := by decide +kernel
theorem dX5_init_17 : decode cX5_init 17 = .ok (.putfield 13, 3) := by decide +kernel
theorem dX5_init_20 : decode cX5_init 20 = .ok (.aload_n 0, 1) := by decide +kernel
theorem dX5_init_21 : decode cX5_init 21 = .ok (.bipush 70, 2) := by decide +kernel
theorem dX5_init_23 : decode cX5_init 23 = .ok (.newarray .int, 2) := by decide +kernel
theorem dX5_init_25 : decode cX5_init 25 = .ok (.putfield 16, 3) := by decide +kernel
theorem dX5_init_28 : decode cX5_init 28 = .ok (.aload_n 0, 1) := by decide +kernel
theorem dX5_init_29 : decode cX5_init 29 = .ok (.bipush 7, 2) := by decide +kernel
theorem dX5_init_31 : decode cX5_init 31 = .ok (.newarray .int, 2) := by decide +kernel
theorem dX5_init_33 : decode cX5_init 33 = .ok (.putfield 19, 3) := by decide +kernel
theorem dX5_init_36 : decode cX5_init 36 = .ok (.aload_n 0, 1) := by decide +kernel
theorem dX5_init_37 : decode cX5_init 37 = .ok (.bipush 120, 2) := by decide +kernel
theorem dX5_init_39 : decode cX5_init 39 = .ok (.newarray .int, 2) := by decide +kernel
theorem dX5_init_41 : decode cX5_init 41 = .ok (.putfield 22, 3) := by decide +kernel
theorem dX5_init_44 : decode cX5_init 44 = .ok (.aload_n 0, 1) := by decide +kernel
theorem dX5_init_45 : decode cX5_init 45 = .ok (.bipush 63, 2) := by decide +kernel
theorem dX5_init_47 : decode cX5_init 47 = .ok (.newarray .char, 2) := by decide +kernel
theorem dX5_init_49 : decode cX5_init 49 = .ok (.dup, 1) := by decide +kernel
theorem dX5_init_50 : decode cX5_init 50 = .ok (.iconst 0, 1) := by decide +kernel
theorem dX5_init_51 : decode cX5_init 51 = .ok (.bipush 112, 2) := by decide +kernel
theorem dX5_init_53 : decode cX5_init 53 = .ok (.castore, 1) := by decide +kernel
theorem dX5_init_54 : decode cX5_init 54 = .ok (.dup, 1) := by decide +kernel
theorem dX5_init_55 : decode cX5_init 55 = .ok (.iconst 1, 1) := by decide +kernel
theorem dX5_init_56 : decode cX5_init 56 = .ok (.bipush 101, 2) := by decide +kernel
theorem dX5_init_58 : decode cX5_init 58 = .ok (.castore, 1) := by decide +kernel
theorem dX5_init_59 : decode cX5_init 59 = .ok (.dup, 1) := by decide +kernel
theorem dX5_init_60 : decode cX5_init 60 = .ok (.iconst 2, 1) := by decide +kernel
theorem dX5_init_61 : decode cX5_init 61 = .ok (.bipush 114, 2) := by decide +kernel
theorem dX5_init_63 : decode cX5_init 63 = .ok (.castore, 1) := by decide +kernel
theorem dX5_init_64 : decode cX5_init 64 = .ok (.dup, 1) := by decide +kernel
theorem dX5_init_65 : decode cX5_init 65 = .ok (.iconst 3, 1) := by decide +kernel
theorem dX5_init_66 : decode cX5_init 66 = .ok (.bipush 115, 2) := by decide +kernel
theorem dX5_init_68 : decode cX5_init 68 = .ok (.castore, 1) := by decide +kernel
theorem dX5_init_69 : decode cX5_init 69 = .ok (.dup, 1) := by decide +kernel
theorem dX5_init_70 : decode cX5_init 70 = .ok (.iconst 4, 1) := by decide +kernel
theorem dX5_init_71 : decode cX5_init 71 = .ok (.bipush 111, 2) := by decide +kernel
theorem dX5_init_73 : decode cX5_init 73 = .ok (.castore, 1) := by decide +kernel
theorem dX5_init_74 : decode cX5_init 74 = .ok (.dup, 1) := by decide +kernel
theorem dX5_init_75 : decode cX5_init 75 = .ok (.iconst 5, 1) := by decide +kernel
theorem dX5_init_76 : decode cX5_init 76 = .ok (.bipush 110, 2) := by decide +kernel
theorem dX5_init_78 : decode cX5_init 78 = .ok (.castore, 1) := by decide +kernel
theorem dX5_init_79 : decode cX5_init 79 = .ok (.dup, 1) := by decide +kernel
theorem dX5_init_80 : decode cX5_init 80 = .ok (.bipush 6, 2) := by decide +kernel
theorem dX5_init_82 : decode cX5_init 82 = .ok (.bipush 32, 2) := by decide +kernel
theorem dX5_init_84 : decode cX5_init 84 = .ok (.castore, 1) := by decide +kernel
theorem dX5_init_85 : decode cX5_init 85 = .ok (.dup, 1) := by decide +kernel
theorem dX5_init_86 : decode cX5_init 86 = .ok (.bipush 7, 2) := by decide +kernel
theorem dX5_init_88 : decode cX5_init 88 = .ok (.bipush 32, 2) := by decide +kernel
theorem dX5_init_90 : decode cX5_init 90 = .ok (.castore, 1) := by decide +kernel
theorem dX5_init_91 : decode cX5_init 91 = .ok (.dup, 1) := by decide +kernel
theorem dX5_init_92 : decode cX5_init 92 = .ok (.bipush 8, 2) := by decide +kernel
theorem dX5_init_94 : decode cX5_init 94 = .ok (.bipush 32, 2) := by decide +kernel
theorem dX5_init_96 : decode cX5_init 96 = .ok (.castore, 1) := by decide +kernel
theorem dX5_init_97 : decode cX5_init 97 = .ok (.dup, 1) := by decide +kernel
theorem dX5_init_98 : decode cX5_init 98 = .ok (.bipush 9, 2) := by decide +kernel
theorem dX5_init_100 : decode cX5_init 100 = .ok (.bipush 110, 2) := by decide +kernel
theorem dX5_init_102 : decode cX5_init 102 = .ok (.castore, 1) := by decide +kernel
theorem dX5_init_103 : decode cX5_init 103 = .ok (.dup, 1) := by decide +kernel
theorem dX5_init_104 : decode cX5_init 104 = .ok (.bipush 10, 2) := by decide +kernel
theorem dX5_init_106 : decode cX5_init 106 = .ok (.bipush 111, 2) := by decide +kernel
theorem dX5_init_108 : decode cX5_init 108 = .ok (.castore, 1) := by decide +kernel
theorem dX5_init_109 : decode cX5_init 109 = .ok (.dup, 1) := by decide +kernel
theorem dX5_init_110 : decode cX5_init 110 = .ok (.bipush 11, 2) := by decide +kernel
theorem dX5_init_112 : decode cX5_init 112 = .ok (.bipush 105, 2) := by decide +kernel
theorem dX5_init_114 : decode cX5_init 114 = .ok (.castore, 1) := by decide +kernel
theorem dX5_init_115 : decode cX5_init 115 = .ok (.dup, 1) := by decide +kernel
theorem dX5_init_116 : decode cX5_init 116 = .ok (.bipush 12, 2) := by decide +kernel
theorem dX5_init_118 : decode cX5_init 118 = .ok (.bipush 115, 2) := by decide +kernel
theorem dX5_init_120 : decode cX5_init 120 = .ok (.castore, 1) := by decide +kernel
theorem dX5_init_121 : decode cX5_init 121 = .ok (.dup, 1) := by decide +kernel
theorem dX5_init_122 : decode cX5_init 122 = .ok (.bipush 13, 2) := by decide +kernel
theorem dX5_init_124 : decode cX5_init 124 = .ok (.bipush 101, 2) := by decide +kernel
theorem dX5_init_126 : decode cX5_init 126 = .ok (.castore, 1) := by decide +kernel
theorem dX5_init_127 : decode cX5_init 127 = .ok (.dup, 1) := by decide +kernel
theorem dX5_init_128 : decode cX5_init 128 = .ok (.bipush 14, 2) := by decide +kernel
theorem dX5_init_130 : decode cX5_init 130 = .ok (.bipush 32, 2) := by decide +kernel
theorem dX5_init_132 : decode cX5_init 132 = .ok (.castore, 1) := by decide +kernel
theorem dX5_init_133 : decode cX5_init 133 = .ok (.dup, 1) := by decide +kernel
theorem dX5_init_134 : decode cX5_init 134 = .ok (.bipush 15, 2) := by decide +kernel
theorem dX5_init_136 : decode cX5_init 136 = .ok (.bipush 32, 2) := by decide +kernel
theorem dX5_init_138 : decode cX5_init 138 = .ok (.castore, 1) := by decide +kernel
theorem dX5_init_139 : decode cX5_init 139 = .ok (.dup, 1) := by decide +kernel
theorem dX5_init_140 : decode cX5_init 140 = .ok (.bipush 16, 2) := by decide +kernel
theorem dX5_init_142 : decode cX5_init 142 = .ok (.bipush 32, 2) := by decide +kernel
theorem dX5_init_144 : decode cX5_init 144 = .ok (.castore, 1) := by decide +kernel
theorem dX5_init_145 : decode cX5_init 145 = .ok (.dup, 1) := by decide +kernel
theorem dX5_init_146 : decode cX5_init 146 = .ok (.bipush 17, 2) := by decide +kernel
theorem dX5_init_148 : decode cX5_init 148 = .ok (.bipush 32, 2) := by decide +kernel
theorem dX5_init_150 : decode cX5_init 150 = .ok (.castore, 1) := by decide +kernel
theorem dX5_init_151 : decode cX5_init 151 = .ok (.dup, 1) := by decide +kernel
theorem dX5_init_152 : decode cX5_init 152 = .ok (.bipush 18, 2) := by decide +kernel
theorem dX5_init_154 : decode cX5_init 154 = .ok (.bipush 97, 2) := by decide +kernel
theorem dX5_init_156 : decode cX5_init 156 = .ok (.castore, 1) := by decide +kernel
theorem dX5_init_157 : decode cX5_init 157 = .ok (.dup, 1) := by decide +kernel
theorem dX5_init_158 : decode cX5_init 158 = .ok (.bipush 19, 2) := by decide +kernel
theorem dX5_init_160 : decode cX5_init 160 = .ok (.bipush 117, 2) := by decide +kernel
theorem dX5_init_162 : decode cX5_init 162 = .ok (.castore, 1) := by decide +kernel
theorem dX5_init_163 : decode cX5_init 163 = .ok (.dup, 1) := by decide +kernel
theorem dX5_init_164 : decode cX5_init 164 = .ok (.bipush 20, 2) := by decide +kernel
theorem dX5_init_166 : decode cX5_init 166 = .ok (.bipush 110, 2) := by decide +kernel
theorem dX5_init_168 : decode cX5_init 168 = .ok (.castore, 1) := by decide +kernel
theorem dX5_init_169 : decode cX5_init 169 = .ok (.dup, 1) := by decide +kernel
theorem dX5_init_170 : decode cX5_init 170 = .ok (.bipush 21, 2) := by decide +kernel
theorem dX5_init_172 : decode cX5_init 172 = .ok (.bipush 116, 2) := by decide +kernel
theorem dX5_init_174 : decode cX5_init 174 = .ok (.castore, 1) := by decide +kernel
theorem dX5_init_175 : decode cX5_init 175 = .ok (.dup, 1) := by decide +kernel
theorem dX5_init_176 : decode cX5_init 176 = .ok (.bipush 22, 2) := by decide +kernel
theorem dX5_init_178 : decode cX5_init 178 = .ok (.bipush 32, 2) := by decide +kernel
theorem dX5_init_180 : decode cX5_init 180 = .ok (.castore, 1) := by decide +kernel
theorem dX5_init_181 : decode cX5_init 181 = .ok (.dup, 1) := by decide +kernel
theorem dX5_init_182 : decode cX5_init 182 = .ok (.bipush 23, 2) := by decide +kernel
theorem dX5_init_184 : decode cX5_init 184 = .ok (.bipush 32, 2) := by decide +kernel
theorem dX5_init_186 : decode cX5_init 186 = .ok (.castore, 1) := by decide +kernel
theorem dX5_init_187 : decode cX5_init 187 = .ok (.dup, 1) := by decide +kernel
theorem dX5_init_188 : decode cX5_init 188 = .ok (.bipush 24, 2) := by decide +kernel
theorem dX5_init_190 : decode cX5_init 190 = .ok (.bipush 32, 2) := by decide +kernel
theorem dX5_init_192 : decode cX5_init 192 = .ok (.castore, 1) := by decide +kernel
theorem dX5_init_193 : decode cX5_init 193 = .ok (.dup, 1) := by decide +kernel
theorem dX5_init_194 : decode cX5_init 194 = .ok (.bipush 25, 2) := by decide +kernel
theorem dX5_init_196 : decode cX5_init 196 = .ok (.bipush 32, 2) := by decide +kernel
theorem dX5_init_198 : decode cX5_init 198 = .ok (.castore, 1) := by decide +kernel
theorem dX5_init_199 : decode cX5_init 199 = .ok (.dup, 1) := by decide +kernel
theorem dX5_init_200 : decode cX5_init 200 = .ok (.bipush 26, 2) := by decide +kernel
theorem dX5_init_202 : decode cX5_init 202 = .ok (.bipush 32, 2) := by decide +kernel
theorem dX5_init_204 : decode cX5_init 204 = .ok (.castore, 1) := by decide +kernel
theorem dX5_init_205 : decode cX5_init 205 = .ok (.dup, 1) := by decide +kernel
theorem dX5_init_206 : decode cX5_init 206 = .ok (.bipush 27, 2) := by decide +kernel
theorem dX5_init_208 : decode cX5_init 208 = .ok (.bipush 108, 2) := by decide +kernel
theorem dX5_init_210 : decode cX5_init 210 = .ok (.castore, 1) := by decide +kernel
theorem dX5_init_211 : decode cX5_init 211 = .ok (.dup, 1) := by decide +kernel
theorem dX5_init_212 : decode cX5_init 212 = .ok (.bipush 28, 2) := by decide +kernel
theorem dX5_init_214 : decode cX5_init 214 = .ok (.bipush 97, 2) := by decide +kernel
theorem dX5_init_216 : decode cX5_init 216 = .ok (.castore, 1) := by decide +kernel
theorem dX5_init_217 : decode cX5_init 217 = .ok (.dup, 1) := by decide +kernel
theorem dX5_init_218 : decode cX5_init 218 = .ok (.bipush 29, 2) := by decide +kernel
theorem dX5_init_220 : decode cX5_init 220 = .ok (.bipush 100, 2) := by decide +kernel
theorem dX5_init_222 : decode cX5_init 222 = .ok (.castore, 1) := by decide +kernel
theorem dX5_init_223 : decode cX5_init 223 = .ok (.dup, 1) := by decide +kernel
theorem dX5_init_224 : decode cX5_init 224 = .ok (.bipush 30, 2) := by decide +kernel
theorem dX5_init_226 : decode cX5_init 226 = .ok (.bipush 121, 2) := by decide +kernel
theorem dX5_init_228 : decode cX5_init 228 = .ok (.castore, 1) := by decide +kernel
theorem dX5_init_229 : decode cX5_init 229 = .ok (.dup, 1) := by decide +kernel
theorem dX5_init_230 : decode cX5_init 230 = .ok (.bipush 31, 2) := by decide +kernel
theorem dX5_init_232 : decode cX5_init 232 = .ok (.bipush 32, 2) := by decide +kernel
theorem dX5_init_234 : decode cX5_init 234 = .ok (.castore, 1) := by decide +kernel
theorem dX5_init_235 : decode cX5_init 235 = .ok (.dup, 1) := by decide +kernel
theorem dX5_init_236 : decode cX5_init 236 = .ok (.bipush 32, 2) := by decide +kernel
theorem dX5_init_238 : decode cX5_init 238 = .ok (.bipush 32, 2) := by decide +kernel
theorem dX5_init_240 : decode cX5_init 240 = .ok (.castore, 1) := by decide +kernel
theorem dX5_init_241 : decode cX5_init 241 = .ok (.dup, 1) := by decide +kernel
theorem dX5_init_242 : decode cX5_init 242 = .ok (.bipush 33, 2) := by decide +kernel
theorem dX5_init_244 : decode cX5_init 244 = .ok (.bipush 32, 2) := by decide +kernel
theorem dX5_init_246 : decode cX5_init 246 = .ok (.castore, 1) := by decide +kernel
theorem dX5_init_247 : decode cX5_init 247 = .ok (.dup, 1) := by decide +kernel
theorem dX5_init_248 : decode cX5_init 248 = .ok (.bipush 34, 2) := by decide +kernel
theorem dX5_init_250 : decode cX5_init 250 = .ok (.bipush 32, 2) := by decide +kernel
theorem dX5_init_252 : decode cX5_init 252 = .ok (.castore, 1) := by decide +kernel
theorem dX5_init_253 : decode cX5_init 253 = .ok (.dup, 1) := by decide +kernel
theorem dX5_init_254 : decode cX5_init 254 = .ok (.bipush 35, 2) := by decide +kernel
theorem dX5_init_256 : decode cX5_init 256 = .ok (.bipush 32, 2) := by decide +kernel
theorem dX5_init_258 : decode cX5_init 258 = .ok (.castore, 1) := by decide +kernel
theorem dX5_init_259 : decode cX5_init 259 = .ok (.dup, 1) := by decide +kernel
theorem dX5_init_260 : decode cX5_init 260 = .ok (.bipush 36, 2) := by decide +kernel
theorem dX5_init_262 : decode cX5_init 262 = .ok (.bipush 99, 2) := by decide +kernel
theorem dX5_init_264 : decode cX5_init 264 = .ok (.castore, 1) := by decide +kernel
theorem dX5_init_265 : decode cX5_init 265 = .ok (.dup, 1) := by decide +kernel
theorem dX5_init_266 : decode cX5_init 266 = .ok (.bipush 37, 2) := by decide +kernel
theorem dX5_init_268 : decode cX5_init 268 = .ok (.bipush 111, 2) := by decide +kernel
theorem dX5_init_270 : decode cX5_init 270 = .ok (.castore, 1) := by decide +kernel
theorem dX5_init_271 : decode cX5_init 271 = .ok (.dup, 1) := by decide +kernel
theorem dX5_init_272 : decode cX5_init 272 = .ok (.bipush 38, 2) := by decide +kernel
theorem dX5_init_274 : decode cX5_init 274 = .ok (.bipush 108, 2) := by decide +kernel
theorem dX5_init_276 : decode cX5_init 276 = .ok (.castore, 1) := by decide +kernel
theorem dX5_init_277 : decode cX5_init 277 = .ok (.dup, 1) := by decide +kernel
theorem dX5_init_278 : decode cX5_init 278 = .ok (.bipush 39, 2) := by decide +kernel
theorem dX5_init_280 : decode cX5_init 280 = .ok (.bipush 117, 2) := by decide +kernel
theorem dX5_init_282 : decode cX5_init 282 = .ok (.castore, 1) := by decide +kernel
theorem dX5_init_283 : decode cX5_init 283 = .ok (.dup, 1) := by decide +kernel
theorem dX5_init_284 : decode cX5_init 284 = .ok (.bipush 40, 2) := by decide +kernel
theorem dX5_init_286 : decode cX5_init 286 = .ok (.bipush 109, 2) := by decide +kernel
theorem dX5_init_288 : decode cX5_init 288 = .ok (.castore, 1) := by decide +kernel
theorem dX5_init_289 : decode cX5_init 289 = .ok (.dup, 1) := by decide +kernel
theorem dX5_init_290 : decode cX5_init 290 = .ok (.bipush 41, 2) := by decide +kernel
theorem dX5_init_292 : decode cX5_init 292 = .ok (.bipush 98, 2) := by decide +kernel
theorem dX5_init_294 : decode cX5_init 294 = .ok (.castore, 1) := by decide +kernel
theorem dX5_init_295 : decode cX5_init 295 = .ok (.dup, 1) := by decide +kernel
theorem dX5_init_296 : decode cX5_init 296 = .ok (.bipush 42, 2) := by decide +kernel
theorem dX5_init_298 : decode cX5_init 298 = .ok (.bipush 105, 2) := by decide +kernel
theorem dX5_init_300 : decode cX5_init 300 = .ok (.castore, 1) := by decide +kernel
theorem dX5_init_301 : decode cX5_init 301 = .ok (.dup, 1) := by decide +kernel
theorem dX5_init_302 : decode cX5_init 302 = .ok (.bipush 43, 2) := by decide +kernel
theorem dX5_init_304 : decode cX5_init 304 = .ok (.bipush 110, 2) := by decide +kernel
theorem dX5_init_306 : decode cX5_init 306 = .ok (.castore, 1) := by decide +kernel
theorem dX5_init_307 : decode cX5_init 307 = .ok (.dup, 1) := by decide +kernel
theorem dX5_init_308 : decode cX5_init 308 = .ok (.bipush 44, 2) := by decide +kernel
theorem dX5_init_310 : decode cX5_init 310 = .ok (.bipush 101, 2) := by decide +kernel
theorem dX5_init_312 : decode cX5_init 312 = .ok (.castore, 1) := by decide +kernel
theorem dX5_init_313 : decode cX5_init 313 = .ok (.dup, 1) := by decide +kernel
theorem dX5_init_314 : decode cX5_init 314 = .ok (.bipush 45, 2) := by decide +kernel
theorem dX5_init_316 : decode cX5_init 316 = .ok (.bipush 104, 2) := by decide +kernel
theorem dX5_init_318 : decode cX5_init 318 = .ok (.castore, 1) := by decide +kernel
theorem dX5_init_319 : decode cX5_init 319 = .ok (.dup, 1) := by decide +kernel
theorem dX5_init_320 : decode cX5_init 320 = .ok (.bipush 46, 2) := by decide +kernel
theorem dX5_init_322 : decode cX5_init 322 = .ok (.bipush 97, 2) := by decide +kernel
theorem dX5_init_324 : decode cX5_init 324 = .ok (.castore, 1) := by decide +kernel
theorem dX5_init_325 : decode cX5_init 325 = .ok (.dup, 1) := by decide +kernel
theorem dX5_init_326 : decode cX5_init 326 = .ok (.bipush 47, 2) := by decide +kernel
theorem dX5_init_328 : decode cX5_init 328 = .ok (.bipush 114, 2) := by decide +kernel
theorem dX5_init_330 : decode cX5_init 330 = .ok (.castore, 1) := by decide +kernel
theorem dX5_init_331 : decode cX5_init 331 = .ok (.dup, 1) := by decide +kernel
theorem dX5_init_332 : decode cX5_init 332 = .ok (.bipush 48, 2) := by decide +kernel
theorem dX5_init_334 : decode cX5_init 334 = .ok (.bipush 112, 2) := by decide +kernel
theorem dX5_init_336 : decode cX5_init 336 = .ok (.castore, 1) := by decide +kernel
theorem dX5_init_337 : decode cX5_init 337 = .ok (.dup, 1) := by decide +kernel
theorem dX5_init_338 : decode cX5_init 338 = .ok (.bipush 49, 2) := by decide +kernel
theorem dX5_init_340 : decode cX5_init 340 = .ok (.bipush 32, 2) := by decide +kernel
theorem dX5_init_342 : decode cX5_init 342 = .ok (.castore, 1) := by decide +kernel
theorem dX5_init_343 : decode cX5_init 343 = .ok (.dup, 1) := by decide +kernel
theorem dX5_init_344 : decode cX5_init 344 = .ok (.bipush 50, 2) := by decide +kernel
theorem dX5_init_346 : decode cX5_init 346 = .ok (.bipush 32, 2) := by decide +kernel
theorem dX5_init_348 : decode cX5_init 348 = .ok (.castore, 1) := by decide +kernel
theorem dX5_init_349 : decode cX5_init 349 = .ok (.dup, 1) := by decide +kernel
theorem dX5_init_350 : decode cX5_init 350 = .ok (.bipush 51, 2) := by decide +kernel
theorem dX5_init_352 : decode cX5_init 352 = .ok (.bipush 32, 2) := by decide +kernel
theorem dX5_init_354 : decode cX5_init 354 = .ok (.castore, 1) := by decide +kernel
theorem dX5_init_355 : decode cX5_init 355 = .ok (.dup, 1) := by decide +kernel
theorem dX5_init_356 : decode cX5_init 356 = .ok (.bipush 52, 2) := by decide +kernel
theorem dX5_init_358 : decode cX5_init 358 = .ok (.bipush 32, 2) := by decide +kernel
theorem dX5_init_360 : decode cX5_init 360 = .ok (.castore, 1) := by decide +kernel
theorem dX5_init_361 : decode cX5_init 361 = .ok (.dup, 1) := by decide +kernel
theorem dX5_init_362 : decode cX5_init 362 = .ok (.bipush 53, 2) := by decide +kernel
theorem dX5_init_364 : decode cX5_init 364 = .ok (.bipush 32, 2) := by decide +kernel
theorem dX5_init_366 : decode cX5_init 366 = .ok (.castore, 1) := by decide +kernel
theorem dX5_init_367 : decode cX5_init 367 = .ok (.dup, 1) := by decide +kernel
theorem dX5_init_368 : decode cX5_init 368 = .ok (.bipush 54, 2) := by decide +kernel
theorem dX5_init_370 : decode cX5_init 370 = .ok (.bipush 119, 2) := by decide +kernel
theorem dX5_init_372 : decode cX5_init 372 = .ok (.castore, 1) := by decide +kernel
theorem dX5_init_373 : decode cX5_init 373 = .ok (.dup, 1) := by decide +kernel
theorem dX5_init_374 : decode cX5_init 374 = .ok (.bipush 55, 2) := by decide +kernel
theorem dX5_init_376 : decode cX5_init 376 = .ok (.bipush 101, 2) := by decide +kernel
theorem dX5_init_378 : decode cX5_init 378 = .ok (.castore, 1) := by decide +kernel
theorem dX5_init_379 : decode cX5_init 379 = .ok (.dup, 1) := by decide +kernel
theorem dX5_init_380 : decode cX5_init 380 = .ok (.bipush 56, 2) := by decide +kernel
theorem dX5_init_382 : decode cX5_init 382 = .ok (.bipush 116, 2) := by decide +kernel
theorem dX5_init_384 : decode cX5_init 384 = .ok (.castore, 1) := by decide +kernel
theorem dX5_init_385 : decode cX5_init 385 = .ok (.dup, 1) := by decide +kernel
theorem dX5_init_386 : decode cX5_init 386 = .ok (.bipush 57, 2) := by decide +kernel
theorem dX5_init_388 : decode cX5_init 388 = .ok (.bipush 32, 2) := by decide +kernel
theorem dX5_init_390 : decode cX5_init 390 = .ok (.castore, 1) := by decide +kernel
theorem dX5_init_391 : decode cX5_init 391 = .ok (.dup, 1) := by decide +kernel
theorem dX5_init_392 : decode cX5_init 392 = .ok (.bipush 58, 2) := by decide +kernel
theorem dX5_init_394 : decode cX5_init 394 = .ok (.bipush 32, 2) := by decide +kernel
theorem dX5_init_396 : decode cX5_init 396 = .ok (.castore, 1) := by decide +kernel
theorem dX5_init_397 : decode cX5_init 397 = .ok (.dup, 1) := by decide +kernel
theorem dX5_init_398 : decode cX5_init 398 = .ok (.bipush 59, 2) := by decide +kernel
theorem dX5_init_400 : decode cX5_init 400 = .ok (.bipush 32, 2) := by decide +kernel
theorem dX5_init_402 : decode cX5_init 402 = .ok (.castore, 1) := by decide +kernel
theorem dX5_init_403 : decode cX5_init 403 = .ok (.dup, 1) := by decide +kernel
theorem dX5_init_404 : decode cX5_init 404 = .ok (.bipush 60, 2) := by decide +kernel
theorem dX5_init_406 : decode cX5_init 406 = .ok (.bipush 32, 2) := by decide +kernel
theorem dX5_init_408 : decode cX5_init 408 = .ok (.castore, 1) := by decide +kernel
theorem dX5_init_409 : decode cX5_init 409 = .ok (.dup, 1) := by decide +kernel
theorem dX5_init_410 : decode cX5_init 410 = .ok (.bipush 61, 2) := by decide +kernel
theorem dX5_init_412 : decode cX5_init 412 = .ok (.bipush 32, 2) := by decide +kernel
theorem dX5_init_414 : decode cX5_init 414 = .ok (.castore, 1) := by decide +kernel
theorem dX5_init_415 : decode cX5_init 415 = .ok (.dup, 1) := by decide +kernel
theorem dX5_init_416 : decode cX5_init 416 = .ok (.bipush 62, 2) := by decide +kernel
theorem dX5_init_418 : decode cX5_init 418 = .ok (.bipush 32, 2) := by decide +kernel
theorem dX5_init_420 : decode cX5_init 420 = .ok (.castore, 1) := by decide +kernel
theorem dX5_init_421 : decode cX5_init 421 = .ok (.putfield 25, 3) := by decide +kernel
theorem dX5_init_424 : decode cX5_init 424 = .ok (.aload_n 0, 1) := by decide +kernel
theorem dX5_init_425 : decode cX5_init 425 = .ok (.bipush 27, 2) := by decide +kernel
theorem dX5_init_427 : decode cX5_init 427 = .ok (.newarray .char, 2) := by decide +kernel
theorem dX5_init_429 : decode cX5_init 429 = .ok (.dup, 1) := by decide +kernel
theorem dX5_init_430 : decode cX5_init 430 = .ok (.iconst 0, 1) := by decide +kernel
theorem dX5_init_431 : decode cX5_init 431 = .ok (.bipush 97, 2) := by decide +kernel
theorem dX5_init_433 : decode cX5_init 433 = .ok (.castore, 1) := by decide +kernel
theorem dX5_init_434 : decode cX5_init 434 = .ok (.dup, 1) := by decide +kernel
theorem dX5_init_435 : decode cX5_init 435 = .ok (.iconst 1, 1) := by decide +kernel
theorem dX5_init_436 : decode cX5_init 436 = .ok (.bipush 116, 2) := by decide +kernel
theorem dX5_init_438 : decode cX5_init 438 = .ok (.castore, 1) := by decide +kernel
theorem dX5_init_439 : decode cX5_init 439 = .ok (.dup, 1) := by decide +kernel
theorem dX5_init_440 : decode cX5_init 440 = .ok (.iconst 2, 1) := by decide +kernel
theorem dX5_init_441 : decode cX5_init 441 = .ok (.bipush 32, 2) := by decide +kernel
theorem dX5_init_443 : decode cX5_init 443 = .ok (.castore, 1) := by decide +kernel
theorem dX5_init_444 : decode cX5_init 444 = .ok (.dup, 1) := by decide +kernel
theorem dX5_init_445 : decode cX5_init 445 = .ok (.iconst 3, 1) := by decide +kernel
theorem dX5_init_446 : decode cX5_init 446 = .ok (.bipush 32, 2) := by decide +kernel
theorem dX5_init_448 : decode cX5_init 448 = .ok (.castore, 1) := by decide +kernel
theorem dX5_init_449 : decode cX5_init 449 = .ok (.dup, 1) := by decide +kernel
theorem dX5_init_450 : decode cX5_init 450 = .ok (.iconst 4, 1) := by decide +kernel
theorem dX5_init_451 : decode cX5_init 451 = .ok (.bipush 32, 2) := by decide +kernel
theorem dX5_init_453 : decode cX5_init 453 = .ok (.castore, 1) := by decide +kernel
theorem dX5_init_454 : decode cX5_init 454 = .ok (.dup, 1) := by decide +kernel
theorem dX5_init_455 : decode cX5_init 455 = .ok (.iconst 5, 1) := by decide +kernel
theorem dX5_init_456 : decode cX5_init 456 = .ok (.bipush 32, 2) := by decide +kernel
theorem dX5_init_458 : decode cX5_init 458 = .ok (.castore, 1) := by decide +kernel
theorem dX5_init_459 : decode cX5_init 459 = .ok (.dup, 1) := by decide +kernel
theorem dX5_init_460 : decode cX5_init 460 = .ok (.bipush 6, 2) := by decide +kernel
theorem dX5_init_462 : decode cX5_init 462 = .ok (.bipush 32, 2) := by decide +kernel
theorem dX5_init_464 : decode cX5_init 464 = .ok (.castore, 1) := by decide +kernel
theorem dX5_init_465 : decode cX5_init 465 = .ok (.dup, 1) := by decide +kernel
theorem dX5_init_466 : decode cX5_init 466 = .ok (.bipush 7, 2) := by decide +kernel
theorem dX5_init_468 : decode cX5_init 468 = .ok (.bipush 32, 2) := by decide +kernel
theorem dX5_init_470 : decode cX5_init 470 = .ok (.castore, 1) := by decide +kernel
theorem dX5_init_471 : decode cX5_init 471 = .ok (.dup, 1) := by decide +kernel
theorem dX5_init_472 : decode cX5_init 472 = .ok (.bipush 8, 2) := by decide +kernel
theorem dX5_init_474 : decode cX5_init 474 = .ok (.bipush 32, 2) := by decide +kernel
theorem dX5_init_476 : decode cX5_init 476 = .ok (.castore, 1) := by decide +kernel
theorem dX5_init_477 : decode cX5_init 477 = .ok (.dup, 1) := by decide +kernel
theorem dX5_init_478 : decode cX5_init 478 = .ok (.bipush 9, 2) := by decide +kernel
theorem dX5_init_480 : decode cX5_init 480 = .ok (.bipush 97, 2) := by decide +kernel
theorem dX5_init_482 : decode cX5_init 482 = .ok (.castore, 1) := by decide +kernel
theorem dX5_init_483 : decode cX5_init 483 = .ok (.dup, 1) := by decide +kernel
theorem dX5_init_484 : decode cX5_init 484 = .ok (.bipush 10, 2) := by decide +kernel
theorem dX5_init_486 : decode cX5_init 486 = .ok (.bipush 115, 2) := by decide +kernel
theorem dX5_init_488 : decode cX5_init 488 = .ok (.castore, 1) := by decide +kernel
theorem dX5_init_489 : decode cX5_init 489 = .ok (.dup, 1) := by decide +kernel
theorem dX5_init_490 : decode cX5_init 490 = .ok (.bipush 11, 2) := by decide +kernel
theorem dX5_init_492 : decode cX5_init 492 = .ok (.bipush 32, 2) := by decide +kernel
theorem dX5_init_494 : decode cX5_init 494 = .ok (.castore, 1) := by decide +kernel
theorem dX5_init_495 : decode cX5_init 495 = .ok (.dup, 1) := by decide +kernel
theorem dX5_init_496 : decode cX5_init 496 = .ok (.bipush 12, 2) := by decide +kernel
theorem dX5_init_498 : decode cX5_init 498 = .ok (.bipush 32, 2) := by decide +kernel
theorem dX5_init_500 : decode cX5_init 500 = .ok (.castore, 1) := by decide +kernel
theorem dX5_init_501 : decode cX5_init 501 = .ok (.dup, 1) := by decide +kernel
theorem dX5_init_502 : decode cX5_init 502 = .ok (.bipush 13, 2) := by decide +kernel
theorem dX5_init_504 : decode cX5_init 504 = .ok (.bipush 32, 2) := by decide +kernel
theorem dX5_init_506 : decode cX5_init 506 = .ok (.castore, 1) := by decide +kernel
theorem dX5_init_507 : decode cX5_init 507 = .ok (.dup, 1) := by decide +kernel
theorem dX5_init_508 : decode cX5_init 508 = .ok (.bipush 14, 2) := by decide +kernel
theorem dX5_init_510 : decode cX5_init 510 = .ok (.bipush 32, 2) := by decide +kernel
theorem dX5_init_512 : decode cX5_init 512 = .ok (.castore, 1) := by decide +kernel
theorem dX5_init_513 : decode cX5_init 513 = .ok (.dup, 1) := by decide +kernel
theorem dX5_init_514 : decode cX5_init 514 = .ok (.bipush 15, 2) := by decide +kernel
theorem dX5_init_516 : decode cX5_init 516 = .ok (.bipush 32, 2) := by decide +kernel
theorem dX5_init_518 : decode cX5_init 518 = .ok (.castore, 1) := by decide +kernel
theorem dX5_init_519 : decode cX5_init 519 = .ok (.dup, 1) := by decide +kernel
theorem dX5_init_520 : decode cX5_init 520 = .ok (.bipush 16, 2) := by decide +kernel
theorem dX5_init_522 : decode cX5_init 522 = .ok (.bipush 32, 2) := by decide +kernel
theorem dX5_init_524 : decode cX5_init 524 = .ok (.castore, 1) := by decide +kernel
theorem dX5_init_525 : decode cX5_init 525 = .ok (.dup, 1) := by decide +kernel
theorem dX5_init_526 : decode cX5_init 526 = .ok (.bipush 17, 2) := by decide +kernel
theorem dX5_init_528 : decode cX5_init 528 = .ok (.bipush 32, 2) := by decide +kernel
theorem dX5_init_530 : decode cX5_init 530 = .ok (.castore, 1) := by decide +kernel
theorem dX5_init_531 : decode cX5_init 531 = .ok (.dup, 1) := by decide +kernel
theorem dX5_init_532 : decode cX5_init 532 = .ok (.bipush 18, 2) := by decide +kernel
theorem dX5_init_534 : decode cX5_init 534 = .ok (.bipush 111, 2) := by decide +kernel
theorem dX5_init_536 : decode cX5_init 536 = .ok (.castore, 1) := by decide +kernel
theorem dX5_init_537 : decode cX5_init 537 = .ok (.dup, 1) := by decide +kernel
theorem dX5_init_538 : decode cX5_init 538 = .ok (.bipush 19, 2) := by decide +kernel
theorem dX5_init_540 : decode cX5_init 540 = .ok (.bipush 117, 2) := by decide +kernel
theorem dX5_init_542 : decode cX5_init 542 = .ok (.castore, 1) := by decide +kernel
theorem dX5_init_543 : decode cX5_init 543 = .ok (.dup, 1) := by decide +kernel
theorem dX5_init_544 : decode cX5_init 544 = .ok (.bipush 20, 2) := by decide +kernel
theorem dX5_init_546 : decode cX5_init 546 = .ok (.bipush 116, 2) := by decide +kernel
theorem dX5_init_548 : decode cX5_init 548 = .ok (.castore, 1) := by decide +kernel
theorem dX5_init_549 : decode cX5_init 549 = .ok (.dup, 1) := by decide +kernel
theorem dX5_init_550 : decode cX5_init 550 = .ok (.bipush 21, 2) := by decide +kernel
theorem dX5_init_552 : decode cX5_init 552 = .ok (.bipush 32, 2) := by decide +kernel
theorem dX5_init_554 : decode cX5_init 554 = .ok (.castore, 1) := by decide +kernel
theorem dX5_init_555 : decode cX5_init 555 = .ok (.dup, 1) := by decide +kernel
theorem dX5_init_556 : decode cX5_init 556 = .ok (.bipush 22, 2) := by decide +kernel
theorem dX5_init_558 : decode cX5_init 558 = .ok (.bipush 32, 2) := by decide +kernel
theorem dX5_init_560 : decode cX5_init 560 = .ok (.castore, 1) := by decide +kernel
theorem dX5_init_561 : decode cX5_init 561 = .ok (.dup, 1) := by decide +kernel
theorem dX5_init_562 : decode cX5_init 562 = .ok (.bipush 23, 2) := by decide +kernel
theorem dX5_init_564 : decode cX5_init 564 = .ok (.bipush 32, 2) := by decide +kernel
theorem dX5_init_566 : decode cX5_init 566 = .ok (.castore, 1) := by decide +kernel
theorem dX5_init_567 : decode cX5_init 567 = .ok (.dup, 1) := by decide +kernel
theorem dX5_init_568 : decode cX5_init 568 = .ok (.bipush 24, 2) := by decide +kernel
theorem dX5_init_570 : decode cX5_init 570 = .ok (.bipush 32, 2) := by decide +kernel
theorem dX5_init_572 : decode cX5_init 572 = .ok (.castore, 1) := by decide +kernel
theorem dX5_init_573 : decode cX5_init 573 = .ok (.dup, 1) := by decide +kernel
theorem dX5_init_574 : decode cX5_init 574 = .ok (.bipush 25, 2) := by decide +kernel
theorem dX5_init_576 : decode cX5_init 576 = .ok (.bipush 32, 2) := by decide +kernel
theorem dX5_init_578 : decode cX5_init 578 = .ok (.castore, 1) := by decide +kernel
theorem dX5_init_579 : decode cX5_init 579 = .ok (.dup, 1) := by decide +kernel
theorem dX5_init_580 : decode cX5_init 580 = .ok (.bipush 26, 2) := by decide +kernel
theorem dX5_init_582 : decode cX5_init 582 = .ok (.bipush 32, 2) := by decide +kernel
theorem dX5_init_584 : decode cX5_init 584 = .ok (.castore, 1) := by decide +kernel
theorem dX5_init_585 : decode cX5_init 585 = .ok (.putfield 29, 3) := by decide +kernel
theorem dX5_init_588 : decode cX5_init 588 = .ok (.aload_n 0, 1) := by decide +kernel
theorem dX5_init_589 : decode cX5_init 589 = .ok (.bipush 18, 2) := by decide +kernel
theorem dX5_init_591 : decode cX5_init 591 = .ok (.newarray .char, 2) := by decide +kernel
theorem dX5_init_593 : decode cX5_init 593 = .ok (.dup, 1) := by decide +kernel
theorem dX5_init_594 : decode cX5_init 594 = .ok (.iconst 0, 1) := by decide +kernel
theorem dX5_init_595 : decode cX5_init 595 = .ok (.bipush 109, 2) := by decide +kernel
theorem dX5_init_597 : decode cX5_init 597 = .ok (.castore, 1) := by decide +kernel
theorem dX5_init_598 : decode cX5_init 598 = .ok (.dup, 1) := by decide +kernel
theorem dX5_init_599 : decode cX5_init 599 = .ok (.iconst 1, 1) := by decide +kernel
theorem dX5_init_600 : decode cX5_init 600 = .ok (.bipush 101, 2) := by decide +kernel
theorem dX5_init_602 : decode cX5_init 602 = .ok (.castore, 1) := by decide +kernel
theorem dX5_init_603 : decode cX5_init 603 = .ok (.dup, 1) := by decide +kernel
theorem dX5_init_604 : decode cX5_init 604 = .ok (.iconst 2, 1) := by decide +kernel
theorem dX5_init_605 : decode cX5_init 605 = .ok (.bipush 116, 2) := by decide +kernel
theorem dX5_init_607 : decode cX5_init 607 = .ok (.castore, 1) := by decide +kernel
theorem dX5_init_608 : decode cX5_init 608 = .ok (.dup, 1) := by decide +kernel
theorem dX5_init_609 : decode cX5_init 609 = .ok (.iconst 3, 1) := by decide +kernel
theorem dX5_init_610 : decode cX5_init 610 = .ok (.bipush 32, 2) := by decide +kernel
theorem dX5_init_612 : decode cX5_init 612 = .ok (.castore, 1) := by decide +kernel
theorem dX5_init_613 : decode cX5_init 613 = .ok (.dup, 1) := by decide +kernel
theorem dX5_init_614 : decode cX5_init 614 = .ok (.iconst 4, 1) := by decide +kernel
theorem dX5_init_615 : decode cX5_init 615 = .ok (.bipush 32, 2) := by decide +kernel
theorem dX5_init_617 : decode cX5_init 617 = .ok (.castore, 1) := by decide +kernel
theorem dX5_init_618 : decode cX5_init 618 = .ok (.dup, 1) := by decide +kernel
theorem dX5_init_619 : decode cX5_init 619 = .ok (.iconst 5, 1) := by decide +kernel
theorem dX5_init_620 : decode cX5_init 620 = .ok (.bipush 32, 2) := by decide +kernel
theorem dX5_init_622 : decode cX5_init 622 = .ok (.castore, 1) := by decide +kernel
theorem dX5_init_623 : decode cX5_init 623 = .ok (.dup, 1) := by decide +kernel
theorem dX5_init_624 : decode cX5_init 624 = .ok (.bipush 6, 2) := by decide +kernel
theorem dX5_init_626 : decode cX5_init 626 = .ok (.bipush 32, 2) := by decide +kernel
theorem dX5_init_628 : decode cX5_init 628 = .ok (.castore, 1) := by decide +kernel
theorem dX5_init_629 : decode cX5_init 629 = .ok (.dup, 1) := by decide +kernel
theorem dX5_init_630 : decode cX5_init 630 = .ok (.bipush 7, 2) := by decide +kernel
theorem dX5_init_632 : decode cX5_init 632 = .ok (.bipush 32, 2) := by decide +kernel
theorem dX5_init_634 : decode cX5_init 634 = .ok (.castore, 1) := by decide +kernel
theorem dX5_init_635 : decode cX5_init 635 = .ok (.dup, 1) := by decide +kernel
theorem dX5_init_636 : decode cX5_init 636 = .ok (.bipush 8, 2) := by decide +kernel
theorem dX5_init_638 : decode cX5_init 638 = .ok (.bipush 32, 2) := by decide +kernel
theorem dX5_init_640 : decode cX5_init 640 = .ok (.castore, 1) := by decide +kernel
theorem dX5_init_641 : decode cX5_init 641 = .ok (.dup, 1) := by decide +kernel
theorem dX5_init_642 : decode cX5_init 642 = .ok (.bipush 9, 2) := by decide +kernel
theorem dX5_init_644 : decode cX5_init 644 = .ok (.bipush 98, 2) := by decide +kernel
theorem dX5_init_646 : decode cX5_init 646 = .ok (.castore, 1) := by decide +kernel
theorem dX5_init_647 : decode cX5_init 647 = .ok (.dup, 1) := by decide +kernel
theorem dX5_init_648 : decode cX5_init 648 = .ok (.bipush 10, 2) := by decide +kernel
theorem dX5_init_650 : decode cX5_init 650 = .ok (.bipush 101, 2) := by decide +kernel
theorem dX5_init_652 : decode cX5_init 652 = .ok (.castore, 1) := by decide +kernel
theorem dX5_init_653 : decode cX5_init 653 = .ok (.dup, 1) := by decide +kernel
theorem dX5_init_654 : decode cX5_init 654 = .ok (.bipush 11, 2) := by decide +kernel
theorem dX5_init_656 : decode cX5_init 656 = .ok (.bipush 108, 2) := by decide +kernel
theorem dX5_init_658 : decode cX5_init 658 = .ok (.castore, 1) := by decide +kernel
theorem dX5_init_659 : decode cX5_init 659 = .ok (.dup, 1) := by decide +kernel
theorem dX5_init_660 : decode cX5_init 660 = .ok (.bipush 12, 2) := by decide +kernel
theorem dX5_init_662 : decode cX5_init 662 = .ok (.bipush 108, 2) := by decide +kernel
theorem dX5_init_664 : decode cX5_init 664 = .ok (.castore, 1) := by decide +kernel
theorem dX5_init_665 : decode cX5_init 665 = .ok (.dup, 1) := by decide +kernel
theorem dX5_init_666 : decode cX5_init 666 = .ok (.bipush 13, 2) := by decide +kernel
theorem dX5_init_668 : decode cX5_init 668 = .ok (.bipush 32, 2) := by decide +kernel
theorem dX5_init_670 : decode cX5_init 670 = .ok (.castore, 1) := by decide +kernel
theorem dX5_init_671 : decode cX5_init 671 = .ok (.dup, 1) := by decide +kernel
theorem dX5_init_672 : decode cX5_init 672 = .ok (.bipush 14, 2) := by decide +kernel
theorem dX5_init_674 : decode cX5_init 674 = .ok (.bipush 32, 2) := by decide +kernel
theorem dX5_init_676 : decode cX5_init 676 = .ok (.castore, 1) := by decide +kernel
theorem dX5_init_677 : decode cX5_init 677 = .ok (.dup, 1) := by decide +kernel
theorem dX5_init_678 : decode cX5_init 678 = .ok (.bipush 15, 2) := by decide +kernel
theorem dX5_init_680 : decode cX5_init 680 = .ok (.bipush 32, 2) := by decide +kernel
theorem dX5_init_682 : decode cX5_init 682 = .ok (.castore, 1) := by decide +kernel
theorem dX5_init_683 : decode cX5_init 683 = .ok (.dup, 1) := by decide +kernel
theorem dX5_init_684 : decode cX5_init 684 = .ok (.bipush 16, 2) := by decide +kernel
theorem dX5_init_686 : decode cX5_init 686 = .ok (.bipush 32, 2) := by decide +kernel
theorem dX5_init_688 : decode cX5_init 688 = .ok (.castore, 1) := by decide +kernel
theorem dX5_init_689 : decode cX5_init 689 = .ok (.dup, 1) := by decide +kernel
theorem dX5_init_690 : decode cX5_init 690 = .ok (.bipush 17, 2) := by decide +kernel
theorem dX5_init_692 : decode cX5_init 692 = .ok (.bipush 32, 2) := by decide +kernel
theorem dX5_init_694 : decode cX5_init 694 = .ok (.castore, 1) := by decide +kernel
theorem dX5_init_695 : decode cX5_init 695 = .ok (.putfield 32, 3) := by decide +kernel
theorem dX5_init_698 : decode cX5_init 698 = .ok (.aload_n 0, 1) := by decide +kernel
theorem dX5_init_699 : decode cX5_init 699 = .ok (.iconst 4, 1) := by decide +kernel
theorem dX5_init_700 : decode cX5_init 700 = .ok (.newarray .int, 2) := by decide +kernel
theorem dX5_init_702 : decode cX5_init 702 = .ok (.putfield 35, 3) := by decide +kernel
theorem dX5_init_705 : decode cX5_init 705 = .ok (.aload_n 0, 1) := by decide +kernel
theorem dX5_init_706 : decode cX5_init 706 = .ok (.iconst 4, 1) := by decide +kernel
theorem dX5_init_707 : decode cX5_init 707 = .ok (.newarray .int, 2) := by decide +kernel
theorem dX5_init_709 : decode cX5_init 709 = .ok (.putfield 38, 3) := by decide +kernel
theorem dX5_init_712 : decode cX5_init 712 = .ok (.aload_n 0, 1) := by decide +kernel
theorem dX5_init_713 : decode cX5_init 713 = .ok (.sipush 160, 3) := by decide +kernel
theorem dX5_init_716 : decode cX5_init 716 = .ok (.newarray .int, 2) := by decide +kernel
theorem dX5_init_718 : decode cX5_init 718 = .ok (.putfield 41, 3) := by decide +kernel
theorem dX5_init_721 : decode cX5_init 721 = .ok (.aload_n 0, 1) := by decide +kernel
theorem dX5_init_722 : decode cX5_init 722 = .ok (.bipush 40, 2) := by decide +kernel
theorem dX5_init_724 : decode cX5_init 724 = .ok (.newarray .int, 2) := by decide +kernel
theorem dX5_init_726 : decode cX5_init 726 = .ok (.putfield 44, 3) := by decide +kernel
theorem dX5_init_729 : decode cX5_init 729 = .ok (.aload_n 0, 1) := by decide +kernel
theorem dX5_init_730 : decode cX5_init 730 = .ok (.getfield 9, 3) := by decide +kernel
theorem dX5_init_733 : decode cX5_init 733 = .ok (.iconst 2, 1) := by decide +kernel
theorem dX5_init_734 : decode cX5_init 734 = .ok (.iconst 1, 1) := by decide +kernel
theorem dX5_init_735 : decode cX5_init 735 = .ok (.iastore, 1) := by decide +kernel
theorem dX5_init_736 : decode cX5_init 736 = .ok (.iconst 0, 1) := by decide +kernel
theorem dX5_init_737 : decode cX5_init 737 = .ok (.istore_n 1, 1) := by decide +kernel
theorem dX5_init_738 : decode cX5_init 738 = .ok (.iload_n 1, 1) := by decide +kernel
theorem dX5_init_739 : decode cX5_init 739 = .ok (.bipush 10, 2) := by decide +kernel
theorem dX5_init_741 : decode cX5_init 741 = .ok (.if_icmp .ge 19, 3) := by decide +kernel
theorem dX5_init_744 : decode cX5_init 744 = .ok (.aload_n 0, 1) := by decide +kernel
theorem dX5_init_745 : decode cX5_init 745 = .ok (.getfield 9, 3) := by decide +kernel
theorem dX5_init_748 : decode cX5_init 748 = .ok (.bipush 60, 2) := by decide +kernel
theorem dX5_init_750 : decode cX5_init 750 = .ok (.iload_n 1, 1) := by decide +kernel
theorem dX5_init_751 : decode cX5_init 751 = .ok (.iadd, 1) := by decide +kernel
theorem dX5_init_752 : decode cX5_init 752 = .ok (.iconst (-1), 1) := by decide +kernel
theorem dX5_init_753 : decode cX5_init 753 = .ok (.iastore, 1) := by decide +kernel
theorem dX5_init_754 : decode cX5_init 754 = .ok (.iinc 1 1, 3) := by decide +kernel
theorem dX5_init_757 : decode cX5_init 757 = .ok (.goto (-19), 3) := by decide +kernel
theorem dX5_init_760 : decode cX5_init 760 = .ok (.return_, 1) := by decide +kernel
theorem dX5_no_0 : decode cX5_no 0 = .ok (.aload_n 0, 1) := by decide +kernel
theorem dX5_no_1 : decode cX5_no 1 = .ok (.getfield 19, 3) := by decide +kernel
theorem dX5_no_4 : decode cX5_no 4 = .ok (.iload_n 1, 1) := by decide +kernel
theorem dX5_no_5 : decode cX5_no 5 = .ok (.dup2, 1) := by decide +kernel
theorem dX5_no_6 : decode cX5_no 6 = .ok (.iaload, 1) := by decide +kernel
theorem dX5_no_7 : decode cX5_no 7 = .ok (.iconst 1, 1) := by decide +kernel
theorem dX5_no_8 : decode cX5_no 8 = .ok (.iadd, 1) := by decide +kernel
theorem dX5_no_9 : decode cX5_no 9 = .ok (.iastore, 1) := by decide +kernel
theorem dX5_no_10 : decode cX5_no 10 = .ok (.ldc 47, 2) := by decide +kernel
theorem dX5_no_12 : decode cX5_no 12 = .ok (.iload_n 1, 1) := by decide +kernel
theorem dX5_no_13 : decode cX5_no 13 = .ok (.isub, 1) := by decide +kernel
theorem dX5_no_14 : decode cX5_no 14 = .ok (.ireturn, 1) := by decide +kernel
theorem dX5_in1_0 : decode cX5_in1 0 = .ok (.iload_n 0, 1) := by decide +kernel
theorem dX5_in1_1 : decode cX5_in1 1 = .ok (.iload_n 1, 1) := by decide +kernel
theorem dX5_in1_2 : decode cX5_in1 2 = .ok (.if_icmp .lt 12, 3) := by decide +kernel
theorem dX5_in1_5 : decode cX5_in1 5 = .ok (.iload_n 0, 1) := by decide +kernel
theorem dX5_in1_6 : decode cX5_in1 6 = .ok (.iload_n 2, 1) := by decide +kernel
theorem dX5_in1_7 : decode cX5_in1 7 = .ok (.if_icmp .gt 7, 3) := by decide +kernel
theorem dX5_in1_10 : decode cX5_in1 10 = .ok (.iconst 1, 1) := by decide +kernel
theorem dX5_in1_11 : decode cX5_in1 11 = .ok (.goto 4, 3) := by decide +kernel
theorem dX5_in1_14 : decode cX5_in1 14 = .ok (.iconst 0, 1) := by decide +kernel
theorem dX5_in1_15 : decode cX5_in1 15 = .ok (.ireturn, 1) := by decide +kernel
theorem dX5_less_0 : decode cX5_less 0 = .ok (.iload_n 0, 1) := by decide +kernel
theorem dX5_less_1 : decode cX5_less 1 = .ok (.iload_n 1, 1) := by decide +kernel
theorem dX5_less_2 : decode cX5_less 2 = .ok (.if_icmp .ge 7, 3) := by decide +kernel
theorem dX5_less_5 : decode cX5_less 5 = .ok (.iload_n 0, 1) := by decide +kernel
theorem dX5_less_6 : decode cX5_less 6 = .ok (.goto 4, 3) := by decide +kernel
theorem dX5_less_9 : decode cX5_less 9 = .ok (.iload_n 1, 1) := by decide +kernel
theorem dX5_less_10 : decode cX5_less 10 = .ok (.ireturn, 1) := by decide +kernel
theorem dX5_bits_0 : decode cX5_bits 0 = .ok (.iconst 0, 1) := by decide +kernel
theorem dX5_bits_1 : decode cX5_bits 1 = .ok (.istore_n 1, 1) := by decide +kernel
theorem dX5_bits_2 : decode cX5_bits 2 = .ok (.iload_n 0, 1) := by decide +kernel
theorem dX5_bits_3 : decode cX5_bits 3 = .ok (.istore_n 2, 1) := by decide +kernel
theorem dX5_bits_4 : decode cX5_bits 4 = .ok (.iload_n 2, 1) := by decide +kernel
theorem dX5_bits_5 : decode cX5_bits 5 = .ok (.ifCond .eq 15, 3) := by decide +kernel
theorem dX5_bits_8 : decode cX5_bits 8 = .ok (.iinc 1 1, 3) := by decide +kernel
theorem dX5_bits_11 : decode cX5_bits 11 = .ok (.iload_n 2, 1) := by decide +kernel
theorem dX5_bits_12 : decode cX5_bits 12 = .ok (.iload_n 2, 1) := by decide +kernel
theorem dX5_bits_13 : decode cX5_bits 13 = .ok (.iconst 1, 1) := by decide +kernel
theorem dX5_bits_14 : decode cX5_bits 14 = .ok (.isub, 1) := by decide +kernel
theorem dX5_bits_15 : decode cX5_bits 15 = .ok (.iand, 1) := by decide +kernel
theorem dX5_bits_16 : decode cX5_bits 16 = .ok (.istore_n 2, 1) := by decide +kernel
theorem dX5_bits_17 : decode cX5_bits 17 = .ok (.goto (-13), 3) := by decide +kernel
theorem dX5_bits_20 : decode cX5_bits 20 = .ok (.iload_n 1, 1) := by decide +kernel
theorem dX5_bits_21 : decode cX5_bits 21 = .ok (.ireturn, 1) := by decide +kernel
theorem dX5_isCell_0 : decode cX5_isCell 0 = .ok (.iload_n 0, 1) := by decide +kernel
theorem dX5_isCell_1 : decode cX5_isCell 1 = .ok (.iconst 0, 1) := by decide +kernel
theorem dX5_isCell_2 : decode cX5_isCell 2 = .ok (.bipush 15, 2) := by decide +kernel
theorem dX5_isCell_4 : decode cX5_isCell 4 = .ok (.invokestatic 48, 3) := by decide +kernel
theorem dX5_isCell_7 : decode cX5_isCell 7 = .ok (.ireturn, 1) := by decide +kernel
theorem dX5_isGuise_0 : decode cX5_isGuise 0 = .ok (.iload_n 0, 1) := by decide +kernel
theorem dX5_isGuise_1 : decode cX5_isGuise 1 = .ok (.iconst 0, 1) := by decide +kernel
theorem dX5_isGuise_2 : decode cX5_isGuise 2 = .ok (.bipush 11, 2) := by decide +kernel
theorem dX5_isGuise_4 : decode cX5_isGuise 4 = .ok (.invokestatic 48, 3) := by decide +kernel
theorem dX5_isGuise_7 : decode cX5_isGuise 7 = .ok (.ireturn, 1) := by decide +kernel
theorem dX5_isPerson_0 : decode cX5_isPerson 0 = .ok (.iload_n 1, 1) := by decide +kernel
theorem dX5_isPerson_1 : decode cX5_isPerson 1 = .ok (.iconst 0, 1) := by decide +kernel
theorem dX5_isPerson_2 : decode cX5_isPerson 2 = .ok (.aload_n 0, 1) := by decide +kernel
theorem dX5_isPerson_3 : decode cX5_isPerson 3 = .ok (.getfield 9, 3) := by decide +kernel
theorem dX5_isPerson_6 : decode cX5_isPerson 6 = .ok (.iconst 1, 1) := by decide +kernel
theorem dX5_isPerson_7 : decode cX5_isPerson 7 = .ok (.iaload, 1) := by decide +kernel
theorem dX5_isPerson_8 : decode cX5_isPerson 8 = .ok (.iconst 1, 1) := by decide +kernel
theorem dX5_isPerson_9 : decode cX5_isPerson 9 = .ok (.isub, 1) := by decide +kernel
theorem dX5_isPerson_10 : decode cX5_isPerson 10 = .ok (.invokestatic 48, 3) := by decide +kernel
theorem dX5_isPerson_13 : decode cX5_isPerson 13 = .ok (.ireturn, 1) := by decide +kernel
theorem dX5_areTwo_0 : decode cX5_areTwo 0 = .ok (.aload_n 0, 1) := by decide +kernel
theorem dX5_areTwo_1 : decode cX5_areTwo 1 = .ok (.iload_n 1, 1) := by decide +kernel
theorem dX5_areTwo_2 : decode cX5_areTwo 2 = .ok (.invokevirtual 52, 3) := by decide +kernel
theorem dX5_areTwo_5 : decode cX5_areTwo 5 = .ok (.ifCond .eq 20, 3) := by decide +kernel
theorem dX5_areTwo_8 : decode cX5_areTwo 8 = .ok (.aload_n 0, 1) := by decide +kernel
theorem dX5_areTwo_9 : decode cX5_areTwo 9 = .ok (.iload_n 2, 1) := by decide +kernel
theorem dX5_areTwo_10 : decode cX5_areTwo 10 = .ok (.invokevirtual 52, 3) := by decide +kernel
theorem dX5_areTwo_13 : decode cX5_areTwo 13 = .ok (.ifCond .eq 12, 3) := by decide +kernel
theorem dX5_areTwo_16 : decode cX5_areTwo 16 = .ok (.iload_n 1, 1) := by decide +kernel
theorem dX5_areTwo_17 : decode cX5_areTwo 17 = .ok (.iload_n 2, 1) := by decide +kernel
theorem dX5_areTwo_18 : decode cX5_areTwo 18 = .ok (.if_icmp .eq 7, 3) := by decide +kernel
theorem dX5_areTwo_21 : decode cX5_areTwo 21 = .ok (.iconst 1, 1) := by decide +kernel
theorem dX5_areTwo_22 : decode cX5_areTwo 22 = .ok (.goto 4, 3) := by decide +kernel
theorem dX5_areTwo_25 : decode cX5_areTwo 25 = .ok (.iconst 0, 1) := by decide +kernel
theorem dX5_areTwo_26 : decode cX5_areTwo 26 = .ok (.ireturn, 1) := by decide +kernel
theorem dX5_get_0 : decode cX5_get 0 = .ok (.aload_n 0, 1) := by decide +kernel
theorem dX5_get_1 : decode cX5_get 1 = .ok (.getfield 9, 3) := by decide +kernel
theorem dX5_get_4 : decode cX5_get 4 = .ok (.iconst 4, 1) := by decide +kernel
theorem dX5_get_5 : decode cX5_get 5 = .ok (.bipush 7, 2) := by decide +kernel
theorem dX5_get_7 : decode cX5_get 7 = .ok (.iload_n 1, 1) := by decide +kernel
theorem dX5_get_8 : decode cX5_get 8 = .ok (.imul, 1) := by decide +kernel
theorem dX5_get_9 : decode cX5_get 9 = .ok (.iadd, 1) := by decide +kernel
theorem dX5_get_10 : decode cX5_get 10 = .ok (.iload_n 2, 1) := by decide +kernel
theorem dX5_get_11 : decode cX5_get 11 = .ok (.iadd, 1) := by decide +kernel
theorem dX5_get_12 : decode cX5_get 12 = .ok (.iaload, 1) := by decide +kernel
theorem dX5_get_13 : decode cX5_get 13 = .ok (.ireturn, 1) := by decide +kernel
theorem dX5_puts_0 : decode cX5_puts 0 = .ok (.aload_n 0, 1) := by decide +kernel
theorem dX5_puts_1 : decode cX5_puts 1 = .ok (.getfield 9, 3) := by decide +kernel
theorem dX5_puts_4 : decode cX5_puts 4 = .ok (.iconst 4, 1) := by decide +kernel
theorem dX5_puts_5 : decode cX5_puts 5 = .ok (.bipush 7, 2) := by decide +kernel
theorem dX5_puts_7 : decode cX5_puts 7 = .ok (.iload_n 1, 1) := by decide +kernel
theorem dX5_puts_8 : decode cX5_puts 8 = .ok (.imul, 1) := by decide +kernel
theorem dX5_puts_9 : decode cX5_puts 9 = .ok (.iadd, 1) := by decide +kernel
theorem dX5_puts_10 : decode cX5_puts 10 = .ok (.iload_n 2, 1) := by decide +kernel
theorem dX5_puts_11 : decode cX5_puts 11 = .ok (.iadd, 1) := by decide +kernel
theorem dX5_puts_12 : decode cX5_puts 12 = .ok (.iload_n 3, 1) := by decide +kernel
theorem dX5_puts_13 : decode cX5_puts 13 = .ok (.iastore, 1) := by decide +kernel
theorem dX5_puts_14 : decode cX5_puts 14 = .ok (.return_, 1) := by decide +kernel
theorem dX5_setsAside_0 : decode cX5_setsAside 0 = .ok (.iconst 0, 1) := by decide +kernel
theorem dX5_setsAside_1 : decode cX5_setsAside 1 = .ok (.istore_n 1, 1) := by decide +kernel
theorem dX5_setsAside_2 : decode cX5_setsAside 2 = .ok (.iload_n 1, 1) := by decide +kernel
theorem dX5_setsAside_3 : decode cX5_setsAside 3 = .ok (.bipush 70, 2) := by decide +kernel
theorem dX5_setsAside_5 : decode cX5_setsAside 5 = .ok (.if_icmp .ge 21, 3) := by decide +kernel
theorem dX5_setsAside_8 : decode cX5_setsAside 8 = .ok (.aload_n 0, 1) := by decide +kernel
theorem dX5_setsAside_9 : decode cX5_setsAside 9 = .ok (.getfield 16, 3) := by decide +kernel
theorem dX5_setsAside_12 : decode cX5_setsAside 12 = .ok (.iload_n 1, 1) := by decide +kernel
theorem dX5_setsAside_13 : decode cX5_setsAside 13 = .ok (.aload_n 0, 1) := by decide +kernel
theorem dX5_setsAside_14 : decode cX5_setsAside 14 = .ok (.getfield 9, 3) := by decide +kernel
theorem dX5_setsAside_17 : decode cX5_setsAside 17 = .ok (.iload_n 1, 1) := by decide +kernel
theorem dX5_setsAside_18 : decode cX5_setsAside 18 = .ok (.iaload, 1) := by decide +kernel
theorem dX5_setsAside_19 : decode cX5_setsAside 19 = .ok (.iastore, 1) := by decide +kernel
theorem dX5_setsAside_20 : decode cX5_setsAside 20 = .ok (.iinc 1 1, 3) := by decide +kernel
theorem dX5_setsAside_23 : decode cX5_setsAside 23 = .ok (.goto (-21), 3) := by decide +kernel
theorem dX5_setsAside_26 : decode cX5_setsAside 26 = .ok (.return_, 1) := by decide +kernel
theorem dX5_laysBack_0 : decode cX5_laysBack 0 = .ok (.iconst 0, 1) := by decide +kernel
theorem dX5_laysBack_1 : decode cX5_laysBack 1 = .ok (.istore_n 1, 1) := by decide +kernel
theorem dX5_laysBack_2 : decode cX5_laysBack 2 = .ok (.iload_n 1, 1) := by decide +kernel
theorem dX5_laysBack_3 : decode cX5_laysBack 3 = .ok (.bipush 70, 2) := by decide +kernel
theorem dX5_laysBack_5 : decode cX5_laysBack 5 = .ok (.if_icmp .ge 21, 3) := by decide +kernel
theorem dX5_laysBack_8 : decode cX5_laysBack 8 = .ok (.aload_n 0, 1) := by decide +kernel
theorem dX5_laysBack_9 : decode cX5_laysBack 9 = .ok (.getfield 9, 3) := by decide +kernel
theorem dX5_laysBack_12 : decode cX5_laysBack 12 = .ok (.iload_n 1, 1) := by decide +kernel
theorem dX5_laysBack_13 : decode cX5_laysBack 13 = .ok (.aload_n 0, 1) := by decide +kernel
theorem dX5_laysBack_14 : decode cX5_laysBack 14 = .ok (.getfield 16, 3) := by decide +kernel
theorem dX5_laysBack_17 : decode cX5_laysBack 17 = .ok (.iload_n 1, 1) := by decide +kernel
theorem dX5_laysBack_18 : decode cX5_laysBack 18 = .ok (.iaload, 1) := by decide +kernel
theorem dX5_laysBack_19 : decode cX5_laysBack 19 = .ok (.iastore, 1) := by decide +kernel
theorem dX5_laysBack_20 : decode cX5_laysBack 20 = .ok (.iinc 1 1, 3) := by decide +kernel
theorem dX5_laysBack_23 : decode cX5_laysBack 23 = .ok (.goto (-21), 3) := by decide +kernel
theorem dX5_laysBack_26 : decode cX5_laysBack 26 = .ok (.return_, 1) := by decide +kernel
theorem dX5_isBare_0 : decode cX5_isBare 0 = .ok (.aload_n 0, 1) := by decide +kernel
theorem dX5_isBare_1 : decode cX5_isBare 1 = .ok (.getfield 9, 3) := by decide +kernel
theorem dX5_isBare_4 : decode cX5_isBare 4 = .ok (.iconst 0, 1) := by decide +kernel
theorem dX5_isBare_5 : decode cX5_isBare 5 = .ok (.iaload, 1) := by decide +kernel
theorem dX5_isBare_6 : decode cX5_isBare 6 = .ok (.bipush 12, 2) := by decide +kernel
theorem dX5_isBare_8 : decode cX5_isBare 8 = .ok (.irem, 1) := by decide +kernel
theorem dX5_isBare_9 : decode cX5_isBare 9 = .ok (.bipush 11, 2) := by decide +kernel
theorem dX5_isBare_11 : decode cX5_isBare 11 = .ok (.if_icmp .ne 7, 3) := by decide +kernel
theorem dX5_isBare_14 : decode cX5_isBare 14 = .ok (.iconst 1, 1) := by decide +kernel
theorem dX5_isBare_15 : decode cX5_isBare 15 = .ok (.goto 4, 3) := by decide +kernel
theorem dX5_isBare_18 : decode cX5_isBare 18 = .ok (.iconst 0, 1) := by decide +kernel
theorem dX5_isBare_19 : decode cX5_isBare 19 = .ok (.ireturn, 1) := by decide +kernel
theorem dX5_walksOf_0 : decode cX5_walksOf 0 = .ok (.aload_n 0, 1) := by decide +kernel
theorem dX5_walksOf_1 : decode cX5_walksOf 1 = .ok (.getfield 9, 3) := by decide +kernel
theorem dX5_walksOf_4 : decode cX5_walksOf 4 = .ok (.iconst 0, 1) := by decide +kernel
theorem dX5_walksOf_5 : decode cX5_walksOf 5 = .ok (.iaload, 1) := by decide +kernel
theorem dX5_walksOf_6 : decode cX5_walksOf 6 = .ok (.iconst 2, 1) := by decide +kernel
theorem dX5_walksOf_7 : decode cX5_walksOf 7 = .ok (.irem, 1) := by decide +kernel
theorem dX5_walksOf_8 : decode cX5_walksOf 8 = .ok (.istore_n 2, 1) := by decide +kernel
theorem dX5_walksOf_9 : decode cX5_walksOf 9 = .ok (.aload_n 0, 1) := by decide +kernel
theorem dX5_walksOf_10 : decode cX5_walksOf 10 = .ok (.iload_n 1, 1) := by decide +kernel
theorem dX5_walksOf_11 : decode cX5_walksOf 11 = .ok (.iconst 0, 1) := by decide +kernel
theorem dX5_walksOf_12 : decode cX5_walksOf 12 = .ok (.invokevirtual 56, 3) := by decide +kernel
theorem dX5_walksOf_15 : decode cX5_walksOf 15 = .ok (.tableswitch 62 1 6 #[37, 39, 41, 45, 58, 60], 37) := by decide +kernel
theorem dX5_walksOf_52 : decode cX5_walksOf 52 = .ok (.iconst 3, 1) := by decide +kernel
theorem dX5_walksOf_53 : decode cX5_walksOf 53 = .ok (.ireturn, 1) := by decide +kernel
theorem dX5_walksOf_54 : decode cX5_walksOf 54 = .ok (.iload_n 2, 1) := by decide +kernel
theorem dX5_walksOf_55 : decode cX5_walksOf 55 = .ok (.ireturn, 1) := by decide +kernel
theorem dX5_walksOf_56 : decode cX5_walksOf 56 = .ok (.iload_n 2, 1) := by decide +kernel
theorem dX5_walksOf_57 : decode cX5_walksOf 57 = .ok (.iconst 1, 1) := by decide +kernel
theorem dX5_walksOf_58 : decode cX5_walksOf 58 = .ok (.iadd, 1) := by decide +kernel
theorem dX5_walksOf_59 : decode cX5_walksOf 59 = .ok (.ireturn, 1) := by decide +kernel
theorem dX5_walksOf_60 : decode cX5_walksOf 60 = .ok (.aload_n 0, 1) := by decide +kernel
theorem dX5_walksOf_61 : decode cX5_walksOf 61 = .ok (.invokevirtual 60, 3) := by decide +kernel
theorem dX5_walksOf_64 : decode cX5_walksOf 64 = .ok (.ifCond .eq 7, 3) := by decide +kernel
theorem dX5_walksOf_67 : decode cX5_walksOf 67 = .ok (.iconst 5, 1) := by decide +kernel
theorem dX5_walksOf_68 : decode cX5_walksOf 68 = .ok (.goto 4, 3) := by decide +kernel
theorem dX5_walksOf_71 : decode cX5_walksOf 71 = .ok (.iconst 0, 1) := by decide +kernel
theorem dX5_walksOf_72 : decode cX5_walksOf 72 = .ok (.ireturn, 1) := by decide +kernel
theorem dX5_walksOf_73 : decode cX5_walksOf 73 = .ok (.iconst 0, 1) := by decide +kernel
theorem dX5_walksOf_74 : decode cX5_walksOf 74 = .ok (.ireturn, 1) := by decide +kernel
theorem dX5_walksOf_75 : decode cX5_walksOf 75 = .ok (.iconst 2, 1) := by decide +kernel
theorem dX5_walksOf_76 : decode cX5_walksOf 76 = .ok (.ireturn, 1) := by decide +kernel
theorem dX5_walksOf_77 : decode cX5_walksOf 77 = .ok (.iconst 1, 1) := by decide +kernel
theorem dX5_walksOf_78 : decode cX5_walksOf 78 = .ok (.ireturn, 1) := by decide +kernel
theorem dX5_shiftsOf_0 : decode cX5_shiftsOf 0 = .ok (.aload_n 0, 1) := by decide +kernel
theorem dX5_shiftsOf_1 : decode cX5_shiftsOf 1 = .ok (.iload_n 1, 1) := by decide +kernel
theorem dX5_shiftsOf_2 : decode cX5_shiftsOf 2 = .ok (.iconst 0, 1) := by decide +kernel
theorem dX5_shiftsOf_3 : decode cX5_shiftsOf 3 = .ok (.invokevirtual 56, 3) := by decide +kernel
theorem dX5_shiftsOf_6 : decode cX5_shiftsOf 6 = .ok (.tableswitch 61 1 6 #[38, 40, 42, 59, 40, 38], 38) := by decide +kernel
theorem dX5_shiftsOf_44 : decode cX5_shiftsOf 44 = .ok (.iconst 2, 1) := by decide +kernel
theorem dX5_shiftsOf_45 : decode cX5_shiftsOf 45 = .ok (.ireturn, 1) := by decide +kernel
theorem dX5_shiftsOf_46 : decode cX5_shiftsOf 46 = .ok (.iconst 0, 1) := by decide +kernel
theorem dX5_shiftsOf_47 : decode cX5_shiftsOf 47 = .ok (.ireturn, 1) := by decide +kernel
theorem dX5_shiftsOf_48 : decode cX5_shiftsOf 48 = .ok (.aload_n 0, 1) := by decide +kernel
theorem dX5_shiftsOf_49 : decode cX5_shiftsOf 49 = .ok (.getfield 9, 3) := by decide +kernel
theorem dX5_shiftsOf_52 : decode cX5_shiftsOf 52 = .ok (.iconst 0, 1) := by decide +kernel
theorem dX5_shiftsOf_53 : decode cX5_shiftsOf 53 = .ok (.iaload, 1) := by decide +kernel
theorem dX5_shiftsOf_54 : decode cX5_shiftsOf 54 = .ok (.iconst 3, 1) := by decide +kernel
theorem dX5_shiftsOf_55 : decode cX5_shiftsOf 55 = .ok (.irem, 1) := by decide +kernel
theorem dX5_shiftsOf_56 : decode cX5_shiftsOf 56 = .ok (.ifCond .ne 7, 3) := by decide +kernel
theorem dX5_shiftsOf_59 : decode cX5_shiftsOf 59 = .ok (.iconst 1, 1) := by decide +kernel
theorem dX5_shiftsOf_60 : decode cX5_shiftsOf 60 = .ok (.goto 4, 3) := by decide +kernel
theorem dX5_shiftsOf_63 : decode cX5_shiftsOf 63 = .ok (.iconst 0, 1) := by decide +kernel
theorem dX5_shiftsOf_64 : decode cX5_shiftsOf 64 = .ok (.ireturn, 1) := by decide +kernel
theorem dX5_shiftsOf_65 : decode cX5_shiftsOf 65 = .ok (.iconst 5, 1) := by decide +kernel
theorem dX5_shiftsOf_66 : decode cX5_shiftsOf 66 = .ok (.ireturn, 1) := by decide +kernel
theorem dX5_shiftsOf_67 : decode cX5_shiftsOf 67 = .ok (.iconst 1, 1) := by decide +kernel
theorem dX5_shiftsOf_68 : decode cX5_shiftsOf 68 = .ok (.ireturn, 1) := by decide +kernel
theorem dX5_mindsOf_0 : decode cX5_mindsOf 0 = .ok (.iload_n 2, 1) := by decide +kernel
theorem dX5_mindsOf_1 : decode cX5_mindsOf 1 = .ok (.iconst 5, 1) := by decide +kernel
theorem dX5_mindsOf_2 : decode cX5_mindsOf 2 = .ok (.if_icmp .le 13, 3) := by decide +kernel
theorem dX5_mindsOf_5 : decode cX5_mindsOf 5 = .ok (.iload_n 2, 1) := by decide +kernel
theorem dX5_mindsOf_6 : decode cX5_mindsOf 6 = .ok (.aload_n 0, 1) := by decide +kernel
theorem dX5_mindsOf_7 : decode cX5_mindsOf 7 = .ok (.iload_n 1, 1) := by decide +kernel
theorem dX5_mindsOf_8 : decode cX5_mindsOf 8 = .ok (.iconst 2, 1) := by decide +kernel
theorem dX5_mindsOf_9 : decode cX5_mindsOf 9 = .ok (.invokevirtual 56, 3) := by decide +kernel
theorem dX5_mindsOf_12 : decode cX5_mindsOf 12 = .ok (.if_icmp .ne 7, 3) := by decide +kernel
theorem dX5_mindsOf_15 : decode cX5_mindsOf 15 = .ok (.iconst 1, 1) := by decide +kernel
theorem dX5_mindsOf_16 : decode cX5_mindsOf 16 = .ok (.goto 4, 3) := by decide +kernel
theorem dX5_mindsOf_19 : decode cX5_mindsOf 19 = .ok (.iconst 0, 1) := by decide +kernel
theorem dX5_mindsOf_20 : decode cX5_mindsOf 20 = .ok (.istore_n 3, 1) := by decide +kernel
theorem dX5_mindsOf_21 : decode cX5_mindsOf 21 = .ok (.aload_n 0, 1) := by decide +kernel
theorem dX5_mindsOf_22 : decode cX5_mindsOf 22 = .ok (.iload_n 1, 1) := by decide +kernel
theorem dX5_mindsOf_23 : decode cX5_mindsOf 23 = .ok (.iconst 0, 1) := by decide +kernel
theorem dX5_mindsOf_24 : decode cX5_mindsOf 24 = .ok (.invokevirtual 56, 3) := by decide +kernel
theorem dX5_mindsOf_27 : decode cX5_mindsOf 27 = .ok (.tableswitch 92 1 6 #[37, 39, 50, 52, 77, 79], 37) := by decide +kernel
theorem dX5_mindsOf_64 : decode cX5_mindsOf 64 = .ok (.iconst 1, 1) := by decide +kernel
theorem dX5_mindsOf_65 : decode cX5_mindsOf 65 = .ok (.ireturn, 1) := by decide +kernel
theorem dX5_mindsOf_66 : decode cX5_mindsOf 66 = .ok (.iload_n 2, 1) := by decide +kernel
theorem dX5_mindsOf_67 : decode cX5_mindsOf 67 = .ok (.iconst 5, 1) := by decide +kernel
theorem dX5_mindsOf_68 : decode cX5_mindsOf 68 = .ok (.if_icmp .gt 7, 3) := by decide +kernel
theorem dX5_mindsOf_71 : decode cX5_mindsOf 71 = .ok (.iconst 1, 1) := by decide +kernel
theorem dX5_mindsOf_72 : decode cX5_mindsOf 72 = .ok (.goto 4, 3) := by decide +kernel
theorem dX5_mindsOf_75 : decode cX5_mindsOf 75 = .ok (.iconst 0, 1) := by decide +kernel
theorem dX5_mindsOf_76 : decode cX5_mindsOf 76 = .ok (.ireturn, 1) := by decide +kernel
theorem dX5_mindsOf_77 : decode cX5_mindsOf 77 = .ok (.iload_n 3, 1) := by decide +kernel
theorem dX5_mindsOf_78 : decode cX5_mindsOf 78 = .ok (.ireturn, 1) := by decide +kernel
theorem dX5_mindsOf_79 : decode cX5_mindsOf 79 = .ok (.iload_n 2, 1) := by decide +kernel
theorem dX5_mindsOf_80 : decode cX5_mindsOf 80 = .ok (.bipush 9, 2) := by decide +kernel
theorem dX5_mindsOf_82 : decode cX5_mindsOf 82 = .ok (.if_icmp .eq 16, 3) := by decide +kernel
theorem dX5_mindsOf_85 : decode cX5_mindsOf 85 = .ok (.aload_n 0, 1) := by decide +kernel
theorem dX5_mindsOf_86 : decode cX5_mindsOf 86 = .ok (.iload_n 1, 1) := by decide +kernel
theorem dX5_mindsOf_87 : decode cX5_mindsOf 87 = .ok (.iconst 3, 1) := by decide +kernel
theorem dX5_mindsOf_88 : decode cX5_mindsOf 88 = .ok (.invokevirtual 56, 3) := by decide +kernel
theorem dX5_mindsOf_91 : decode cX5_mindsOf 91 = .ok (.ifCond .ne 11, 3) := by decide +kernel
theorem dX5_mindsOf_94 : decode cX5_mindsOf 94 = .ok (.iload_n 3, 1) := by decide +kernel
theorem dX5_mindsOf_95 : decode cX5_mindsOf 95 = .ok (.ifCond .eq 7, 3) := by decide +kernel
theorem dX5_mindsOf_98 : decode cX5_mindsOf 98 = .ok (.iconst 1, 1) := by decide +kernel
theorem dX5_mindsOf_99 : decode cX5_mindsOf 99 = .ok (.goto 4, 3) := by decide +kernel
theorem dX5_mindsOf_102 : decode cX5_mindsOf 102 = .ok (.iconst 0, 1) := by decide +kernel
theorem dX5_mindsOf_103 : decode cX5_mindsOf 103 = .ok (.ireturn, 1) := by decide +kernel
theorem dX5_mindsOf_104 : decode cX5_mindsOf 104 = .ok (.iconst 0, 1) := by decide +kernel
theorem dX5_mindsOf_105 : decode cX5_mindsOf 105 = .ok (.ireturn, 1) := by decide +kernel
theorem dX5_mindsOf_106 : decode cX5_mindsOf 106 = .ok (.iload_n 2, 1) := by decide +kernel
theorem dX5_mindsOf_107 : decode cX5_mindsOf 107 = .ok (.iconst 2, 1) := by decide +kernel
theorem dX5_mindsOf_108 : decode cX5_mindsOf 108 = .ok (.irem, 1) := by decide +kernel
theorem dX5_mindsOf_109 : decode cX5_mindsOf 109 = .ok (.iconst 1, 1) := by decide +kernel
theorem dX5_mindsOf_110 : decode cX5_mindsOf 110 = .ok (.if_icmp .ne 7, 3) := by decide +kernel
theorem dX5_mindsOf_113 : decode cX5_mindsOf 113 = .ok (.iconst 1, 1) := by decide +kernel
theorem dX5_mindsOf_114 : decode cX5_mindsOf 114 = .ok (.goto 4, 3) := by decide +kernel
theorem dX5_mindsOf_117 : decode cX5_mindsOf 117 = .ok (.iconst 0, 1) := by decide +kernel
theorem dX5_mindsOf_118 : decode cX5_mindsOf 118 = .ok (.ireturn, 1) := by decide +kernel
theorem dX5_mindsOf_119 : decode cX5_mindsOf 119 = .ok (.iload_n 2, 1) := by decide +kernel
theorem dX5_mindsOf_120 : decode cX5_mindsOf 120 = .ok (.aload_n 0, 1) := by decide +kernel
theorem dX5_mindsOf_121 : decode cX5_mindsOf 121 = .ok (.iload_n 1, 1) := by decide +kernel
theorem dX5_mindsOf_122 : decode cX5_mindsOf 122 = .ok (.iconst 2, 1) := by decide +kernel
theorem dX5_mindsOf_123 : decode cX5_mindsOf 123 = .ok (.invokevirtual 56, 3) := by decide +kernel
theorem dX5_mindsOf_126 : decode cX5_mindsOf 126 = .ok (.if_icmp .eq 7, 3) := by decide +kernel
theorem dX5_mindsOf_129 : decode cX5_mindsOf 129 = .ok (.iconst 1, 1) := by decide +kernel
end
section
theorem dX5_mindsOf_130 : decode cX5_mindsOf 130 = .ok (.goto 4, 3) := by decide +kernel
theorem dX5_mindsOf_133 : decode cX5_mindsOf 133 = .ok (.iconst 0, 1) := by decide +kernel
theorem dX5_mindsOf_134 : decode cX5_mindsOf 134 = .ok (.ireturn, 1) := by decide +kernel
theorem dX5_shinesOf_0 : decode cX5_shinesOf 0 = .ok (.aload_n 0, 1) := by decide +kernel
theorem dX5_shinesOf_1 : decode cX5_shinesOf 1 = .ok (.iload_n 1, 1) := by decide +kernel
theorem dX5_shinesOf_2 : decode cX5_shinesOf 2 = .ok (.iconst 0, 1) := by decide +kernel
theorem dX5_shinesOf_3 : decode cX5_shinesOf 3 = .ok (.invokevirtual 56, 3) := by decide +kernel
theorem dX5_shinesOf_6 : decode cX5_shinesOf 6 = .ok (.tableswitch 40 0 4 #[34, 40, 36, 36, 38], 34) := by decide +kernel
theorem dX5_shinesOf_40 : decode cX5_shinesOf 40 = .ok (.iconst 1, 1) := by decide +kernel
theorem dX5_shinesOf_41 : decode cX5_shinesOf 41 = .ok (.ireturn, 1) := by decide +kernel
theorem dX5_shinesOf_42 : decode cX5_shinesOf 42 = .ok (.iconst 2, 1) := by decide +kernel
theorem dX5_shinesOf_43 : decode cX5_shinesOf 43 = .ok (.ireturn, 1) := by decide +kernel
theorem dX5_shinesOf_44 : decode cX5_shinesOf 44 = .ok (.iconst 4, 1) := by decide +kernel
theorem dX5_shinesOf_45 : decode cX5_shinesOf 45 = .ok (.ireturn, 1) := by decide +kernel
theorem dX5_shinesOf_46 : decode cX5_shinesOf 46 = .ok (.iconst 0, 1) := by decide +kernel
theorem dX5_shinesOf_47 : decode cX5_shinesOf 47 = .ok (.ireturn, 1) := by decide +kernel
theorem dX5_gladdensOf_0 : decode cX5_gladdensOf 0 = .ok (.iconst 3, 1) := by decide +kernel
theorem dX5_gladdensOf_1 : decode cX5_gladdensOf 1 = .ok (.aload_n 0, 1) := by decide +kernel
theorem dX5_gladdensOf_2 : decode cX5_gladdensOf 2 = .ok (.iload_n 1, 1) := by decide +kernel
theorem dX5_gladdensOf_3 : decode cX5_gladdensOf 3 = .ok (.iconst 4, 1) := by decide +kernel
theorem dX5_gladdensOf_4 : decode cX5_gladdensOf 4 = .ok (.invokevirtual 56, 3) := by decide +kernel
theorem dX5_gladdensOf_7 : decode cX5_gladdensOf 7 = .ok (.invokestatic 64, 3) := by decide +kernel
theorem dX5_gladdensOf_10 : decode cX5_gladdensOf 10 = .ok (.iadd, 1) := by decide +kernel
theorem dX5_gladdensOf_11 : decode cX5_gladdensOf 11 = .ok (.istore_n 2, 1) := by decide +kernel
theorem dX5_gladdensOf_12 : decode cX5_gladdensOf 12 = .ok (.aload_n 0, 1) := by decide +kernel
theorem dX5_gladdensOf_13 : decode cX5_gladdensOf 13 = .ok (.iload_n 1, 1) := by decide +kernel
theorem dX5_gladdensOf_14 : decode cX5_gladdensOf 14 = .ok (.iconst 0, 1) := by decide +kernel
theorem dX5_gladdensOf_15 : decode cX5_gladdensOf 15 = .ok (.invokevirtual 56, 3) := by decide +kernel
theorem dX5_gladdensOf_18 : decode cX5_gladdensOf 18 = .ok (.tableswitch 47 2 6 #[34, 36, 38, 42, 44], 34) := by decide +kernel
theorem dX5_gladdensOf_52 : decode cX5_gladdensOf 52 = .ok (.iconst 3, 1) := by decide +kernel
theorem dX5_gladdensOf_53 : decode cX5_gladdensOf 53 = .ok (.ireturn, 1) := by decide +kernel
theorem dX5_gladdensOf_54 : decode cX5_gladdensOf 54 = .ok (.iload_n 2, 1) := by decide +kernel
theorem dX5_gladdensOf_55 : decode cX5_gladdensOf 55 = .ok (.ireturn, 1) := by decide +kernel
theorem dX5_gladdensOf_56 : decode cX5_gladdensOf 56 = .ok (.iconst 3, 1) := by decide +kernel
theorem dX5_gladdensOf_57 : decode cX5_gladdensOf 57 = .ok (.iload_n 2, 1) := by decide +kernel
theorem dX5_gladdensOf_58 : decode cX5_gladdensOf 58 = .ok (.imul, 1) := by decide +kernel
theorem dX5_gladdensOf_59 : decode cX5_gladdensOf 59 = .ok (.ireturn, 1) := by decide +kernel
theorem dX5_gladdensOf_60 : decode cX5_gladdensOf 60 = .ok (.iconst 0, 1) := by decide +kernel
theorem dX5_gladdensOf_61 : decode cX5_gladdensOf 61 = .ok (.ireturn, 1) := by decide +kernel
theorem dX5_gladdensOf_62 : decode cX5_gladdensOf 62 = .ok (.bipush 20, 2) := by decide +kernel
theorem dX5_gladdensOf_64 : decode cX5_gladdensOf 64 = .ok (.ireturn, 1) := by decide +kernel
theorem dX5_gladdensOf_65 : decode cX5_gladdensOf 65 = .ok (.iconst 1, 1) := by decide +kernel
theorem dX5_gladdensOf_66 : decode cX5_gladdensOf 66 = .ok (.ireturn, 1) := by decide +kernel
theorem dX5_farOf_0 : decode cX5_farOf 0 = .ok (.aload_n 0, 1) := by decide +kernel
theorem dX5_farOf_1 : decode cX5_farOf 1 = .ok (.iload_n 1, 1) := by decide +kernel
theorem dX5_farOf_2 : decode cX5_farOf 2 = .ok (.iconst 1, 1) := by decide +kernel
theorem dX5_farOf_3 : decode cX5_farOf 3 = .ok (.invokevirtual 56, 3) := by decide +kernel
theorem dX5_farOf_6 : decode cX5_farOf 6 = .ok (.bipush 16, 2) := by decide +kernel
theorem dX5_farOf_8 : decode cX5_farOf 8 = .ok (.iadd, 1) := by decide +kernel
theorem dX5_farOf_9 : decode cX5_farOf 9 = .ok (.aload_n 0, 1) := by decide +kernel
theorem dX5_farOf_10 : decode cX5_farOf 10 = .ok (.iload_n 2, 1) := by decide +kernel
theorem dX5_farOf_11 : decode cX5_farOf 11 = .ok (.iconst 1, 1) := by decide +kernel
theorem dX5_farOf_12 : decode cX5_farOf 12 = .ok (.invokevirtual 56, 3) := by decide +kernel
theorem dX5_farOf_15 : decode cX5_farOf 15 = .ok (.isub, 1) := by decide +kernel
theorem dX5_farOf_16 : decode cX5_farOf 16 = .ok (.bipush 16, 2) := by decide +kernel
theorem dX5_farOf_18 : decode cX5_farOf 18 = .ok (.irem, 1) := by decide +kernel
theorem dX5_farOf_19 : decode cX5_farOf 19 = .ok (.istore_n 3, 1) := by decide +kernel
theorem dX5_farOf_20 : decode cX5_farOf 20 = .ok (.iload_n 3, 1) := by decide +kernel
theorem dX5_farOf_21 : decode cX5_farOf 21 = .ok (.bipush 16, 2) := by decide +kernel
theorem dX5_farOf_23 : decode cX5_farOf 23 = .ok (.iload_n 3, 1) := by decide +kernel
theorem dX5_farOf_24 : decode cX5_farOf 24 = .ok (.isub, 1) := by decide +kernel
theorem dX5_farOf_25 : decode cX5_farOf 25 = .ok (.invokestatic 68, 3) := by decide +kernel
theorem dX5_farOf_28 : decode cX5_farOf 28 = .ok (.ireturn, 1) := by decide +kernel
theorem dX5_hasMet_0 : decode cX5_hasMet 0 = .ok (.aload_n 0, 1) := by decide +kernel
theorem dX5_hasMet_1 : decode cX5_hasMet 1 = .ok (.iload_n 1, 1) := by decide +kernel
theorem dX5_hasMet_2 : decode cX5_hasMet 2 = .ok (.iconst 3, 1) := by decide +kernel
theorem dX5_hasMet_3 : decode cX5_hasMet 3 = .ok (.invokevirtual 56, 3) := by decide +kernel
theorem dX5_hasMet_6 : decode cX5_hasMet 6 = .ok (.iload_n 2, 1) := by decide +kernel
theorem dX5_hasMet_7 : decode cX5_hasMet 7 = .ok (.ishr, 1) := by decide +kernel
theorem dX5_hasMet_8 : decode cX5_hasMet 8 = .ok (.iconst 1, 1) := by decide +kernel
theorem dX5_hasMet_9 : decode cX5_hasMet 9 = .ok (.iand, 1) := by decide +kernel
theorem dX5_hasMet_10 : decode cX5_hasMet 10 = .ok (.iconst 1, 1) := by decide +kernel
theorem dX5_hasMet_11 : decode cX5_hasMet 11 = .ok (.if_icmp .ne 7, 3) := by decide +kernel
theorem dX5_hasMet_14 : decode cX5_hasMet 14 = .ok (.iconst 1, 1) := by decide +kernel
theorem dX5_hasMet_15 : decode cX5_hasMet 15 = .ok (.goto 4, 3) := by decide +kernel
theorem dX5_hasMet_18 : decode cX5_hasMet 18 = .ok (.iconst 0, 1) := by decide +kernel
theorem dX5_hasMet_19 : decode cX5_hasMet 19 = .ok (.ireturn, 1) := by decide +kernel
theorem dX5_doesKnow_0 : decode cX5_doesKnow 0 = .ok (.aload_n 0, 1) := by decide +kernel
theorem dX5_doesKnow_1 : decode cX5_doesKnow 1 = .ok (.iload_n 1, 1) := by decide +kernel
theorem dX5_doesKnow_2 : decode cX5_doesKnow 2 = .ok (.iconst 4, 1) := by decide +kernel
theorem dX5_doesKnow_3 : decode cX5_doesKnow 3 = .ok (.invokevirtual 56, 3) := by decide +kernel
theorem dX5_doesKnow_6 : decode cX5_doesKnow 6 = .ok (.iload_n 2, 1) := by decide +kernel
theorem dX5_doesKnow_7 : decode cX5_doesKnow 7 = .ok (.ishr, 1) := by decide +kernel
theorem dX5_doesKnow_8 : decode cX5_doesKnow 8 = .ok (.iconst 1, 1) := by decide +kernel
theorem dX5_doesKnow_9 : decode cX5_doesKnow 9 = .ok (.iand, 1) := by decide +kernel
theorem dX5_doesKnow_10 : decode cX5_doesKnow 10 = .ok (.iconst 1, 1) := by decide +kernel
theorem dX5_doesKnow_11 : decode cX5_doesKnow 11 = .ok (.if_icmp .ne 7, 3) := by decide +kernel
theorem dX5_doesKnow_14 : decode cX5_doesKnow 14 = .ok (.iconst 1, 1) := by decide +kernel
theorem dX5_doesKnow_15 : decode cX5_doesKnow 15 = .ok (.goto 4, 3) := by decide +kernel
theorem dX5_doesKnow_18 : decode cX5_doesKnow 18 = .ok (.iconst 0, 1) := by decide +kernel
theorem dX5_doesKnow_19 : decode cX5_doesKnow 19 = .ok (.ireturn, 1) := by decide +kernel
theorem dX5_wouldSee_0 : decode cX5_wouldSee 0 = .ok (.aload_n 0, 1) := by decide +kernel
theorem dX5_wouldSee_1 : decode cX5_wouldSee 1 = .ok (.iload_n 1, 1) := by decide +kernel
theorem dX5_wouldSee_2 : decode cX5_wouldSee 2 = .ok (.iconst 5, 1) := by decide +kernel
theorem dX5_wouldSee_3 : decode cX5_wouldSee 3 = .ok (.invokevirtual 56, 3) := by decide +kernel
theorem dX5_wouldSee_6 : decode cX5_wouldSee 6 = .ok (.ifCond .ne 38, 3) := by decide +kernel
theorem dX5_wouldSee_9 : decode cX5_wouldSee 9 = .ok (.aload_n 0, 1) := by decide +kernel
theorem dX5_wouldSee_10 : decode cX5_wouldSee 10 = .ok (.iload_n 2, 1) := by decide +kernel
theorem dX5_wouldSee_11 : decode cX5_wouldSee 11 = .ok (.iconst 5, 1) := by decide +kernel
theorem dX5_wouldSee_12 : decode cX5_wouldSee 12 = .ok (.invokevirtual 56, 3) := by decide +kernel
theorem dX5_wouldSee_15 : decode cX5_wouldSee 15 = .ok (.ifCond .ne 29, 3) := by decide +kernel
theorem dX5_wouldSee_18 : decode cX5_wouldSee 18 = .ok (.aload_n 0, 1) := by decide +kernel
theorem dX5_wouldSee_19 : decode cX5_wouldSee 19 = .ok (.iload_n 1, 1) := by decide +kernel
theorem dX5_wouldSee_20 : decode cX5_wouldSee 20 = .ok (.iload_n 2, 1) := by decide +kernel
theorem dX5_wouldSee_21 : decode cX5_wouldSee 21 = .ok (.invokevirtual 71, 3) := by decide +kernel
theorem dX5_wouldSee_24 : decode cX5_wouldSee 24 = .ok (.aload_n 0, 1) := by decide +kernel
theorem dX5_wouldSee_25 : decode cX5_wouldSee 25 = .ok (.iload_n 1, 1) := by decide +kernel
theorem dX5_wouldSee_26 : decode cX5_wouldSee 26 = .ok (.invokevirtual 74, 3) := by decide +kernel
theorem dX5_wouldSee_29 : decode cX5_wouldSee 29 = .ok (.aload_n 0, 1) := by decide +kernel
theorem dX5_wouldSee_30 : decode cX5_wouldSee 30 = .ok (.iload_n 2, 1) := by decide +kernel
theorem dX5_wouldSee_31 : decode cX5_wouldSee 31 = .ok (.invokevirtual 74, 3) := by decide +kernel
theorem dX5_wouldSee_34 : decode cX5_wouldSee 34 = .ok (.invokestatic 68, 3) := by decide +kernel
theorem dX5_wouldSee_37 : decode cX5_wouldSee 37 = .ok (.if_icmp .gt 7, 3) := by decide +kernel
theorem dX5_wouldSee_40 : decode cX5_wouldSee 40 = .ok (.iconst 1, 1) := by decide +kernel
theorem dX5_wouldSee_41 : decode cX5_wouldSee 41 = .ok (.goto 4, 3) := by decide +kernel
theorem dX5_wouldSee_44 : decode cX5_wouldSee 44 = .ok (.iconst 0, 1) := by decide +kernel
theorem dX5_wouldSee_45 : decode cX5_wouldSee 45 = .ok (.ireturn, 1) := by decide +kernel
theorem dX5_meets_0 : decode cX5_meets 0 = .ok (.aload_n 0, 1) := by decide +kernel
theorem dX5_meets_1 : decode cX5_meets 1 = .ok (.iload_n 1, 1) := by decide +kernel
theorem dX5_meets_2 : decode cX5_meets 2 = .ok (.aload_n 0, 1) := by decide +kernel
theorem dX5_meets_3 : decode cX5_meets 3 = .ok (.iload_n 2, 1) := by decide +kernel
theorem dX5_meets_4 : decode cX5_meets 4 = .ok (.iconst 2, 1) := by decide +kernel
theorem dX5_meets_5 : decode cX5_meets 5 = .ok (.invokevirtual 56, 3) := by decide +kernel
theorem dX5_meets_8 : decode cX5_meets 8 = .ok (.invokevirtual 77, 3) := by decide +kernel
theorem dX5_meets_11 : decode cX5_meets 11 = .ok (.ifCond .eq 19, 3) := by decide +kernel
theorem dX5_meets_14 : decode cX5_meets 14 = .ok (.aload_n 0, 1) := by decide +kernel
theorem dX5_meets_15 : decode cX5_meets 15 = .ok (.iload_n 1, 1) := by decide +kernel
theorem dX5_meets_16 : decode cX5_meets 16 = .ok (.iconst 3, 1) := by decide +kernel
theorem dX5_meets_17 : decode cX5_meets 17 = .ok (.aload_n 0, 1) := by decide +kernel
theorem dX5_meets_18 : decode cX5_meets 18 = .ok (.iload_n 1, 1) := by decide +kernel
theorem dX5_meets_19 : decode cX5_meets 19 = .ok (.iconst 3, 1) := by decide +kernel
theorem dX5_meets_20 : decode cX5_meets 20 = .ok (.invokevirtual 56, 3) := by decide +kernel
theorem dX5_meets_23 : decode cX5_meets 23 = .ok (.iconst 1, 1) := by decide +kernel
theorem dX5_meets_24 : decode cX5_meets 24 = .ok (.iload_n 2, 1) := by decide +kernel
theorem dX5_meets_25 : decode cX5_meets 25 = .ok (.ishl, 1) := by decide +kernel
theorem dX5_meets_26 : decode cX5_meets 26 = .ok (.ior, 1) := by decide +kernel
theorem dX5_meets_27 : decode cX5_meets 27 = .ok (.invokevirtual 81, 3) := by decide +kernel
theorem dX5_meets_30 : decode cX5_meets 30 = .ok (.return_, 1) := by decide +kernel
theorem dX5_comesToKnow_0 : decode cX5_comesToKnow 0 = .ok (.aload_n 0, 1) := by decide +kernel
theorem dX5_comesToKnow_1 : decode cX5_comesToKnow 1 = .ok (.iload_n 1, 1) := by decide +kernel
theorem dX5_comesToKnow_2 : decode cX5_comesToKnow 2 = .ok (.iload_n 2, 1) := by decide +kernel
theorem dX5_comesToKnow_3 : decode cX5_comesToKnow 3 = .ok (.invokevirtual 85, 3) := by decide +kernel
theorem dX5_comesToKnow_6 : decode cX5_comesToKnow 6 = .ok (.ifCond .ne 42, 3) := by decide +kernel
theorem dX5_comesToKnow_9 : decode cX5_comesToKnow 9 = .ok (.aload_n 0, 1) := by decide +kernel
theorem dX5_comesToKnow_10 : decode cX5_comesToKnow 10 = .ok (.getfield 9, 3) := by decide +kernel
theorem dX5_comesToKnow_13 : decode cX5_comesToKnow 13 = .ok (.iconst 3, 1) := by decide +kernel
theorem dX5_comesToKnow_14 : decode cX5_comesToKnow 14 = .ok (.ldc 88, 2) := by decide +kernel
theorem dX5_comesToKnow_16 : decode cX5_comesToKnow 16 = .ok (.aload_n 0, 1) := by decide +kernel
theorem dX5_comesToKnow_17 : decode cX5_comesToKnow 17 = .ok (.getfield 9, 3) := by decide +kernel
theorem dX5_comesToKnow_20 : decode cX5_comesToKnow 20 = .ok (.iconst 3, 1) := by decide +kernel
theorem dX5_comesToKnow_21 : decode cX5_comesToKnow 21 = .ok (.iaload, 1) := by decide +kernel
theorem dX5_comesToKnow_22 : decode cX5_comesToKnow 22 = .ok (.aload_n 0, 1) := by decide +kernel
theorem dX5_comesToKnow_23 : decode cX5_comesToKnow 23 = .ok (.iload_n 1, 1) := by decide +kernel
theorem dX5_comesToKnow_24 : decode cX5_comesToKnow 24 = .ok (.invokevirtual 89, 3) := by decide +kernel
theorem dX5_comesToKnow_27 : decode cX5_comesToKnow 27 = .ok (.iadd, 1) := by decide +kernel
theorem dX5_comesToKnow_28 : decode cX5_comesToKnow 28 = .ok (.invokestatic 68, 3) := by decide +kernel
theorem dX5_comesToKnow_31 : decode cX5_comesToKnow 31 = .ok (.iastore, 1) := by decide +kernel
theorem dX5_comesToKnow_32 : decode cX5_comesToKnow 32 = .ok (.aload_n 0, 1) := by decide +kernel
theorem dX5_comesToKnow_33 : decode cX5_comesToKnow 33 = .ok (.iload_n 1, 1) := by decide +kernel
theorem dX5_comesToKnow_34 : decode cX5_comesToKnow 34 = .ok (.iconst 4, 1) := by decide +kernel
theorem dX5_comesToKnow_35 : decode cX5_comesToKnow 35 = .ok (.aload_n 0, 1) := by decide +kernel
theorem dX5_comesToKnow_36 : decode cX5_comesToKnow 36 = .ok (.iload_n 1, 1) := by decide +kernel
theorem dX5_comesToKnow_37 : decode cX5_comesToKnow 37 = .ok (.iconst 4, 1) := by decide +kernel
theorem dX5_comesToKnow_38 : decode cX5_comesToKnow 38 = .ok (.invokevirtual 56, 3) := by decide +kernel
theorem dX5_comesToKnow_41 : decode cX5_comesToKnow 41 = .ok (.iconst 1, 1) := by decide +kernel
theorem dX5_comesToKnow_42 : decode cX5_comesToKnow 42 = .ok (.iload_n 2, 1) := by decide +kernel
theorem dX5_comesToKnow_43 : decode cX5_comesToKnow 43 = .ok (.ishl, 1) := by decide +kernel
theorem dX5_comesToKnow_44 : decode cX5_comesToKnow 44 = .ok (.ior, 1) := by decide +kernel
theorem dX5_comesToKnow_45 : decode cX5_comesToKnow 45 = .ok (.invokevirtual 81, 3) := by decide +kernel
theorem dX5_comesToKnow_48 : decode cX5_comesToKnow 48 = .ok (.return_, 1) := by decide +kernel
theorem dX5_passesBy_0 : decode cX5_passesBy 0 = .ok (.aload_n 0, 1) := by decide +kernel
theorem dX5_passesBy_1 : decode cX5_passesBy 1 = .ok (.iload_n 1, 1) := by decide +kernel
theorem dX5_passesBy_2 : decode cX5_passesBy 2 = .ok (.bipush 6, 2) := by decide +kernel
theorem dX5_passesBy_4 : decode cX5_passesBy 4 = .ok (.sipush 9999, 3) := by decide +kernel
theorem dX5_passesBy_7 : decode cX5_passesBy 7 = .ok (.aload_n 0, 1) := by decide +kernel
theorem dX5_passesBy_8 : decode cX5_passesBy 8 = .ok (.iload_n 1, 1) := by decide +kernel
theorem dX5_passesBy_9 : decode cX5_passesBy 9 = .ok (.bipush 6, 2) := by decide +kernel
theorem dX5_passesBy_11 : decode cX5_passesBy 11 = .ok (.invokevirtual 56, 3) := by decide +kernel
theorem dX5_passesBy_14 : decode cX5_passesBy 14 = .ok (.iconst 1, 1) := by decide +kernel
theorem dX5_passesBy_15 : decode cX5_passesBy 15 = .ok (.iadd, 1) := by decide +kernel
theorem dX5_passesBy_16 : decode cX5_passesBy 16 = .ok (.invokestatic 68, 3) := by decide +kernel
theorem dX5_passesBy_19 : decode cX5_passesBy 19 = .ok (.invokevirtual 81, 3) := by decide +kernel
theorem dX5_passesBy_22 : decode cX5_passesBy 22 = .ok (.return_, 1) := by decide +kernel
theorem dX5_barefaced_0 : decode cX5_barefaced 0 = .ok (.aload_n 0, 1) := by decide +kernel
theorem dX5_barefaced_1 : decode cX5_barefaced 1 = .ok (.iload_n 1, 1) := by decide +kernel
theorem dX5_barefaced_2 : decode cX5_barefaced 2 = .ok (.iload_n 2, 1) := by decide +kernel
theorem dX5_barefaced_3 : decode cX5_barefaced 3 = .ok (.invokevirtual 92, 3) := by decide +kernel
theorem dX5_barefaced_6 : decode cX5_barefaced 6 = .ok (.ifCond .ne 4, 3) := by decide +kernel
theorem dX5_barefaced_9 : decode cX5_barefaced 9 = .ok (.return_, 1) := by decide +kernel
theorem dX5_barefaced_10 : decode cX5_barefaced 10 = .ok (.aload_n 0, 1) := by decide +kernel
theorem dX5_barefaced_11 : decode cX5_barefaced 11 = .ok (.iload_n 1, 1) := by decide +kernel
theorem dX5_barefaced_12 : decode cX5_barefaced 12 = .ok (.iload_n 2, 1) := by decide +kernel
theorem dX5_barefaced_13 : decode cX5_barefaced 13 = .ok (.invokevirtual 95, 3) := by decide +kernel
theorem dX5_barefaced_16 : decode cX5_barefaced 16 = .ok (.ifCond .eq 27, 3) := by decide +kernel
theorem dX5_barefaced_19 : decode cX5_barefaced 19 = .ok (.aload_n 0, 1) := by decide +kernel
theorem dX5_barefaced_20 : decode cX5_barefaced 20 = .ok (.iload_n 2, 1) := by decide +kernel
theorem dX5_barefaced_21 : decode cX5_barefaced 21 = .ok (.iload_n 1, 1) := by decide +kernel
theorem dX5_barefaced_22 : decode cX5_barefaced 22 = .ok (.invokevirtual 95, 3) := by decide +kernel
theorem dX5_barefaced_25 : decode cX5_barefaced 25 = .ok (.ifCond .eq 18, 3) := by decide +kernel
theorem dX5_barefaced_28 : decode cX5_barefaced 28 = .ok (.aload_n 0, 1) := by decide +kernel
theorem dX5_barefaced_29 : decode cX5_barefaced 29 = .ok (.iload_n 1, 1) := by decide +kernel
theorem dX5_barefaced_30 : decode cX5_barefaced 30 = .ok (.iload_n 2, 1) := by decide +kernel
theorem dX5_barefaced_31 : decode cX5_barefaced 31 = .ok (.invokevirtual 98, 3) := by decide +kernel
theorem dX5_barefaced_34 : decode cX5_barefaced 34 = .ok (.aload_n 0, 1) := by decide +kernel
theorem dX5_barefaced_35 : decode cX5_barefaced 35 = .ok (.iload_n 2, 1) := by decide +kernel
theorem dX5_barefaced_36 : decode cX5_barefaced 36 = .ok (.iload_n 1, 1) := by decide +kernel
theorem dX5_barefaced_37 : decode cX5_barefaced 37 = .ok (.invokevirtual 98, 3) := by decide +kernel
theorem dX5_barefaced_40 : decode cX5_barefaced 40 = .ok (.goto 13, 3) := by decide +kernel
theorem dX5_barefaced_43 : decode cX5_barefaced 43 = .ok (.aload_n 0, 1) := by decide +kernel
theorem dX5_barefaced_44 : decode cX5_barefaced 44 = .ok (.iload_n 1, 1) := by decide +kernel
theorem dX5_barefaced_45 : decode cX5_barefaced 45 = .ok (.invokevirtual 102, 3) := by decide +kernel
theorem dX5_barefaced_48 : decode cX5_barefaced 48 = .ok (.aload_n 0, 1) := by decide +kernel
theorem dX5_barefaced_49 : decode cX5_barefaced 49 = .ok (.iload_n 2, 1) := by decide +kernel
theorem dX5_barefaced_50 : decode cX5_barefaced 50 = .ok (.invokevirtual 102, 3) := by decide +kernel
theorem dX5_barefaced_53 : decode cX5_barefaced 53 = .ok (.return_, 1) := by decide +kernel
theorem dX5_goesOn_0 : decode cX5_goesOn 0 = .ok (.aload_n 0, 1) := by decide +kernel
theorem dX5_goesOn_1 : decode cX5_goesOn 1 = .ok (.iload_n 1, 1) := by decide +kernel
theorem dX5_goesOn_2 : decode cX5_goesOn 2 = .ok (.iconst 1, 1) := by decide +kernel
theorem dX5_goesOn_3 : decode cX5_goesOn 3 = .ok (.aload_n 0, 1) := by decide +kernel
theorem dX5_goesOn_4 : decode cX5_goesOn 4 = .ok (.iload_n 1, 1) := by decide +kernel
theorem dX5_goesOn_5 : decode cX5_goesOn 5 = .ok (.iconst 1, 1) := by decide +kernel
theorem dX5_goesOn_6 : decode cX5_goesOn 6 = .ok (.invokevirtual 56, 3) := by decide +kernel
theorem dX5_goesOn_9 : decode cX5_goesOn 9 = .ok (.aload_n 0, 1) := by decide +kernel
theorem dX5_goesOn_10 : decode cX5_goesOn 10 = .ok (.iload_n 1, 1) := by decide +kernel
theorem dX5_goesOn_11 : decode cX5_goesOn 11 = .ok (.invokevirtual 106, 3) := by decide +kernel
theorem dX5_goesOn_14 : decode cX5_goesOn 14 = .ok (.iadd, 1) := by decide +kernel
theorem dX5_goesOn_15 : decode cX5_goesOn 15 = .ok (.bipush 16, 2) := by decide +kernel
theorem dX5_goesOn_17 : decode cX5_goesOn 17 = .ok (.irem, 1) := by decide +kernel
theorem dX5_goesOn_18 : decode cX5_goesOn 18 = .ok (.invokevirtual 81, 3) := by decide +kernel
theorem dX5_goesOn_21 : decode cX5_goesOn 21 = .ok (.aload_n 0, 1) := by decide +kernel
theorem dX5_goesOn_22 : decode cX5_goesOn 22 = .ok (.iload_n 1, 1) := by decide +kernel
theorem dX5_goesOn_23 : decode cX5_goesOn 23 = .ok (.iconst 2, 1) := by decide +kernel
theorem dX5_goesOn_24 : decode cX5_goesOn 24 = .ok (.iload_n 2, 1) := by decide +kernel
theorem dX5_goesOn_25 : decode cX5_goesOn 25 = .ok (.ifCond .eq 12, 3) := by decide +kernel
theorem dX5_goesOn_28 : decode cX5_goesOn 28 = .ok (.aload_n 0, 1) := by decide +kernel
theorem dX5_goesOn_29 : decode cX5_goesOn 29 = .ok (.iload_n 1, 1) := by decide +kernel
theorem dX5_goesOn_30 : decode cX5_goesOn 30 = .ok (.iconst 2, 1) := by decide +kernel
theorem dX5_goesOn_31 : decode cX5_goesOn 31 = .ok (.invokevirtual 56, 3) := by decide +kernel
theorem dX5_goesOn_34 : decode cX5_goesOn 34 = .ok (.goto 18, 3) := by decide +kernel
theorem dX5_goesOn_37 : decode cX5_goesOn 37 = .ok (.aload_n 0, 1) := by decide +kernel
theorem dX5_goesOn_38 : decode cX5_goesOn 38 = .ok (.iload_n 1, 1) := by decide +kernel
theorem dX5_goesOn_39 : decode cX5_goesOn 39 = .ok (.iconst 2, 1) := by decide +kernel
theorem dX5_goesOn_40 : decode cX5_goesOn 40 = .ok (.invokevirtual 56, 3) := by decide +kernel
theorem dX5_goesOn_43 : decode cX5_goesOn 43 = .ok (.aload_n 0, 1) := by decide +kernel
theorem dX5_goesOn_44 : decode cX5_goesOn 44 = .ok (.iload_n 1, 1) := by decide +kernel
theorem dX5_goesOn_45 : decode cX5_goesOn 45 = .ok (.invokevirtual 109, 3) := by decide +kernel
theorem dX5_goesOn_48 : decode cX5_goesOn 48 = .ok (.iadd, 1) := by decide +kernel
theorem dX5_goesOn_49 : decode cX5_goesOn 49 = .ok (.bipush 12, 2) := by decide +kernel
theorem dX5_goesOn_51 : decode cX5_goesOn 51 = .ok (.irem, 1) := by decide +kernel
theorem dX5_goesOn_52 : decode cX5_goesOn 52 = .ok (.invokevirtual 81, 3) := by decide +kernel
theorem dX5_goesOn_55 : decode cX5_goesOn 55 = .ok (.return_, 1) := by decide +kernel
theorem dX5_day_0 : decode cX5_day 0 = .ok (.aload_n 0, 1) := by decide +kernel
theorem dX5_day_1 : decode cX5_day 1 = .ok (.invokevirtual 60, 3) := by decide +kernel
theorem dX5_day_4 : decode cX5_day 4 = .ok (.istore_n 1, 1) := by decide +kernel
theorem dX5_day_5 : decode cX5_day 5 = .ok (.iconst 0, 1) := by decide +kernel
theorem dX5_day_6 : decode cX5_day 6 = .ok (.istore_n 2, 1) := by decide +kernel
theorem dX5_day_7 : decode cX5_day 7 = .ok (.iload_n 2, 1) := by decide +kernel
theorem dX5_day_8 : decode cX5_day 8 = .ok (.aload_n 0, 1) := by decide +kernel
theorem dX5_day_9 : decode cX5_day 9 = .ok (.getfield 9, 3) := by decide +kernel
theorem dX5_day_12 : decode cX5_day 12 = .ok (.iconst 1, 1) := by decide +kernel
theorem dX5_day_13 : decode cX5_day 13 = .ok (.iaload, 1) := by decide +kernel
theorem dX5_day_14 : decode cX5_day 14 = .ok (.if_icmp .ge 15, 3) := by decide +kernel
theorem dX5_day_17 : decode cX5_day 17 = .ok (.aload_n 0, 1) := by decide +kernel
theorem dX5_day_18 : decode cX5_day 18 = .ok (.iload_n 2, 1) := by decide +kernel
theorem dX5_day_19 : decode cX5_day 19 = .ok (.iload_n 1, 1) := by decide +kernel
theorem dX5_day_20 : decode cX5_day 20 = .ok (.invokevirtual 112, 3) := by decide +kernel
theorem dX5_day_23 : decode cX5_day 23 = .ok (.iinc 2 1, 3) := by decide +kernel
theorem dX5_day_26 : decode cX5_day 26 = .ok (.goto (-19), 3) := by decide +kernel
theorem dX5_day_29 : decode cX5_day 29 = .ok (.iconst 0, 1) := by decide +kernel
theorem dX5_day_30 : decode cX5_day 30 = .ok (.istore_n 2, 1) := by decide +kernel
theorem dX5_day_31 : decode cX5_day 31 = .ok (.iload_n 2, 1) := by decide +kernel
theorem dX5_day_32 : decode cX5_day 32 = .ok (.aload_n 0, 1) := by decide +kernel
theorem dX5_day_33 : decode cX5_day 33 = .ok (.getfield 9, 3) := by decide +kernel
theorem dX5_day_36 : decode cX5_day 36 = .ok (.iconst 1, 1) := by decide +kernel
theorem dX5_day_37 : decode cX5_day 37 = .ok (.iaload, 1) := by decide +kernel
theorem dX5_day_38 : decode cX5_day 38 = .ok (.if_icmp .ge 69, 3) := by decide +kernel
theorem dX5_day_41 : decode cX5_day 41 = .ok (.iload_n 2, 1) := by decide +kernel
theorem dX5_day_42 : decode cX5_day 42 = .ok (.iconst 1, 1) := by decide +kernel
theorem dX5_day_43 : decode cX5_day 43 = .ok (.iadd, 1) := by decide +kernel
theorem dX5_day_44 : decode cX5_day 44 = .ok (.istore_n 3, 1) := by decide +kernel
theorem dX5_day_45 : decode cX5_day 45 = .ok (.iload_n 3, 1) := by decide +kernel
theorem dX5_day_46 : decode cX5_day 46 = .ok (.aload_n 0, 1) := by decide +kernel
theorem dX5_day_47 : decode cX5_day 47 = .ok (.getfield 9, 3) := by decide +kernel
theorem dX5_day_50 : decode cX5_day 50 = .ok (.iconst 1, 1) := by decide +kernel
theorem dX5_day_51 : decode cX5_day 51 = .ok (.iaload, 1) := by decide +kernel
theorem dX5_day_52 : decode cX5_day 52 = .ok (.if_icmp .ge 49, 3) := by decide +kernel
theorem dX5_day_55 : decode cX5_day 55 = .ok (.iload_n 1, 1) := by decide +kernel
theorem dX5_day_56 : decode cX5_day 56 = .ok (.ifCond .eq 12, 3) := by decide +kernel
theorem dX5_day_59 : decode cX5_day 59 = .ok (.aload_n 0, 1) := by decide +kernel
theorem dX5_day_60 : decode cX5_day 60 = .ok (.iload_n 2, 1) := by decide +kernel
theorem dX5_day_61 : decode cX5_day 61 = .ok (.iload_n 3, 1) := by decide +kernel
theorem dX5_day_62 : decode cX5_day 62 = .ok (.invokevirtual 116, 3) := by decide +kernel
theorem dX5_day_65 : decode cX5_day 65 = .ok (.goto 30, 3) := by decide +kernel
theorem dX5_day_68 : decode cX5_day 68 = .ok (.aload_n 0, 1) := by decide +kernel
theorem dX5_day_69 : decode cX5_day 69 = .ok (.iload_n 2, 1) := by decide +kernel
theorem dX5_day_70 : decode cX5_day 70 = .ok (.iconst 1, 1) := by decide +kernel
theorem dX5_day_71 : decode cX5_day 71 = .ok (.invokevirtual 56, 3) := by decide +kernel
theorem dX5_day_74 : decode cX5_day 74 = .ok (.aload_n 0, 1) := by decide +kernel
theorem dX5_day_75 : decode cX5_day 75 = .ok (.iload_n 3, 1) := by decide +kernel
theorem dX5_day_76 : decode cX5_day 76 = .ok (.iconst 1, 1) := by decide +kernel
theorem dX5_day_77 : decode cX5_day 77 = .ok (.invokevirtual 56, 3) := by decide +kernel
theorem dX5_day_80 : decode cX5_day 80 = .ok (.if_icmp .ne 15, 3) := by decide +kernel
theorem dX5_day_83 : decode cX5_day 83 = .ok (.aload_n 0, 1) := by decide +kernel
theorem dX5_day_84 : decode cX5_day 84 = .ok (.iload_n 2, 1) := by decide +kernel
theorem dX5_day_85 : decode cX5_day 85 = .ok (.iload_n 3, 1) := by decide +kernel
theorem dX5_day_86 : decode cX5_day 86 = .ok (.invokevirtual 119, 3) := by decide +kernel
theorem dX5_day_89 : decode cX5_day 89 = .ok (.aload_n 0, 1) := by decide +kernel
theorem dX5_day_90 : decode cX5_day 90 = .ok (.iload_n 3, 1) := by decide +kernel
theorem dX5_day_91 : decode cX5_day 91 = .ok (.iload_n 2, 1) := by decide +kernel
theorem dX5_day_92 : decode cX5_day 92 = .ok (.invokevirtual 119, 3) := by decide +kernel
theorem dX5_day_95 : decode cX5_day 95 = .ok (.iinc 3 1, 3) := by decide +kernel
theorem dX5_day_98 : decode cX5_day 98 = .ok (.goto (-53), 3) := by decide +kernel
theorem dX5_day_101 : decode cX5_day 101 = .ok (.iinc 2 1, 3) := by decide +kernel
theorem dX5_day_104 : decode cX5_day 104 = .ok (.goto (-73), 3) := by decide +kernel
theorem dX5_day_107 : decode cX5_day 107 = .ok (.aload_n 0, 1) := by decide +kernel
theorem dX5_day_108 : decode cX5_day 108 = .ok (.getfield 9, 3) := by decide +kernel
theorem dX5_day_111 : decode cX5_day 111 = .ok (.iconst 0, 1) := by decide +kernel
theorem dX5_day_112 : decode cX5_day 112 = .ok (.ldc 88, 2) := by decide +kernel
theorem dX5_day_114 : decode cX5_day 114 = .ok (.aload_n 0, 1) := by decide +kernel
theorem dX5_day_115 : decode cX5_day 115 = .ok (.getfield 9, 3) := by decide +kernel
theorem dX5_day_118 : decode cX5_day 118 = .ok (.iconst 0, 1) := by decide +kernel
theorem dX5_day_119 : decode cX5_day 119 = .ok (.iaload, 1) := by decide +kernel
theorem dX5_day_120 : decode cX5_day 120 = .ok (.iconst 1, 1) := by decide +kernel
theorem dX5_day_121 : decode cX5_day 121 = .ok (.iadd, 1) := by decide +kernel
theorem dX5_day_122 : decode cX5_day 122 = .ok (.invokestatic 68, 3) := by decide +kernel
theorem dX5_day_125 : decode cX5_day 125 = .ok (.iastore, 1) := by decide +kernel
theorem dX5_day_126 : decode cX5_day 126 = .ok (.return_, 1) := by decide +kernel
theorem dX5_goes_0 : decode cX5_goes 0 = .ok (.iconst 0, 1) := by decide +kernel
theorem dX5_goes_1 : decode cX5_goes 1 = .ok (.istore_n 2, 1) := by decide +kernel
theorem dX5_goes_2 : decode cX5_goes 2 = .ok (.iload_n 2, 1) := by decide +kernel
theorem dX5_goes_3 : decode cX5_goes 3 = .ok (.iload_n 1, 1) := by decide +kernel
theorem dX5_goes_4 : decode cX5_goes 4 = .ok (.if_icmp .ge 13, 3) := by decide +kernel
theorem dX5_goes_7 : decode cX5_goes 7 = .ok (.aload_n 0, 1) := by decide +kernel
theorem dX5_goes_8 : decode cX5_goes 8 = .ok (.invokevirtual 122, 3) := by decide +kernel
theorem dX5_goes_11 : decode cX5_goes 11 = .ok (.iinc 2 1, 3) := by decide +kernel
theorem dX5_goes_14 : decode cX5_goes 14 = .ok (.goto (-12), 3) := by decide +kernel
theorem dX5_goes_17 : decode cX5_goes 17 = .ok (.return_, 1) := by decide +kernel
theorem dX5_adds_0 : decode cX5_adds 0 = .ok (.aload_n 0, 1) := by decide +kernel
theorem dX5_adds_1 : decode cX5_adds 1 = .ok (.getfield 9, 3) := by decide +kernel
theorem dX5_adds_4 : decode cX5_adds 4 = .ok (.iconst 1, 1) := by decide +kernel
theorem dX5_adds_5 : decode cX5_adds 5 = .ok (.iaload, 1) := by decide +kernel
theorem dX5_adds_6 : decode cX5_adds 6 = .ok (.istore_n 2, 1) := by decide +kernel
theorem dX5_adds_7 : decode cX5_adds 7 = .ok (.iconst 0, 1) := by decide +kernel
theorem dX5_adds_8 : decode cX5_adds 8 = .ok (.istore_n 3, 1) := by decide +kernel
theorem dX5_adds_9 : decode cX5_adds 9 = .ok (.iload_n 3, 1) := by decide +kernel
theorem dX5_adds_10 : decode cX5_adds 10 = .ok (.bipush 7, 2) := by decide +kernel
theorem dX5_adds_12 : decode cX5_adds 12 = .ok (.if_icmp .ge 16, 3) := by decide +kernel
theorem dX5_adds_15 : decode cX5_adds 15 = .ok (.aload_n 0, 1) := by decide +kernel
theorem dX5_adds_16 : decode cX5_adds 16 = .ok (.iload_n 2, 1) := by decide +kernel
theorem dX5_adds_17 : decode cX5_adds 17 = .ok (.iload_n 3, 1) := by decide +kernel
theorem dX5_adds_18 : decode cX5_adds 18 = .ok (.iconst 0, 1) := by decide +kernel
theorem dX5_adds_19 : decode cX5_adds 19 = .ok (.invokevirtual 81, 3) := by decide +kernel
theorem dX5_adds_22 : decode cX5_adds 22 = .ok (.iinc 3 1, 3) := by decide +kernel
theorem dX5_adds_25 : decode cX5_adds 25 = .ok (.goto (-16), 3) := by decide +kernel
theorem dX5_adds_28 : decode cX5_adds 28 = .ok (.aload_n 0, 1) := by decide +kernel
theorem dX5_adds_29 : decode cX5_adds 29 = .ok (.iload_n 2, 1) := by decide +kernel
theorem dX5_adds_30 : decode cX5_adds 30 = .ok (.iconst 0, 1) := by decide +kernel
theorem dX5_adds_31 : decode cX5_adds 31 = .ok (.iload_n 1, 1) := by decide +kernel
theorem dX5_adds_32 : decode cX5_adds 32 = .ok (.invokevirtual 81, 3) := by decide +kernel
theorem dX5_adds_35 : decode cX5_adds 35 = .ok (.aload_n 0, 1) := by decide +kernel
theorem dX5_adds_36 : decode cX5_adds 36 = .ok (.getfield 9, 3) := by decide +kernel
theorem dX5_adds_39 : decode cX5_adds 39 = .ok (.iconst 1, 1) := by decide +kernel
theorem dX5_adds_40 : decode cX5_adds 40 = .ok (.dup2, 1) := by decide +kernel
theorem dX5_adds_41 : decode cX5_adds 41 = .ok (.iaload, 1) := by decide +kernel
theorem dX5_adds_42 : decode cX5_adds 42 = .ok (.iconst 1, 1) := by decide +kernel
theorem dX5_adds_43 : decode cX5_adds 43 = .ok (.iadd, 1) := by decide +kernel
theorem dX5_adds_44 : decode cX5_adds 44 = .ok (.iastore, 1) := by decide +kernel
theorem dX5_adds_45 : decode cX5_adds 45 = .ok (.return_, 1) := by decide +kernel
theorem dX5_person_0 : decode cX5_person 0 = .ok (.iload_n 1, 1) := by decide +kernel
theorem dX5_person_1 : decode cX5_person 1 = .ok (.iconst 0, 1) := by decide +kernel
theorem dX5_person_2 : decode cX5_person 2 = .ok (.bipush 6, 2) := by decide +kernel
theorem dX5_person_4 : decode cX5_person 4 = .ok (.invokestatic 48, 3) := by decide +kernel
theorem dX5_person_7 : decode cX5_person 7 = .ok (.ifCond .eq 10, 3) := by decide +kernel
theorem dX5_person_10 : decode cX5_person 10 = .ok (.iload_n 2, 1) := by decide +kernel
theorem dX5_person_11 : decode cX5_person 11 = .ok (.invokestatic 125, 3) := by decide +kernel
theorem dX5_person_14 : decode cX5_person 14 = .ok (.ifCond .ne 9, 3) := by decide +kernel
theorem dX5_person_17 : decode cX5_person 17 = .ok (.aload_n 0, 1) := by decide +kernel
theorem dX5_person_18 : decode cX5_person 18 = .ok (.iconst 0, 1) := by decide +kernel
theorem dX5_person_19 : decode cX5_person 19 = .ok (.invokevirtual 128, 3) := by decide +kernel
theorem dX5_person_22 : decode cX5_person 22 = .ok (.ireturn, 1) := by decide +kernel
theorem dX5_person_23 : decode cX5_person 23 = .ok (.aload_n 0, 1) := by decide +kernel
theorem dX5_person_24 : decode cX5_person 24 = .ok (.getfield 9, 3) := by decide +kernel
theorem dX5_person_27 : decode cX5_person 27 = .ok (.iconst 1, 1) := by decide +kernel
theorem dX5_person_28 : decode cX5_person 28 = .ok (.iaload, 1) := by decide +kernel
theorem dX5_person_29 : decode cX5_person 29 = .ok (.bipush 8, 2) := by decide +kernel
theorem dX5_person_31 : decode cX5_person 31 = .ok (.if_icmp .ne 9, 3) := by decide +kernel
theorem dX5_person_34 : decode cX5_person 34 = .ok (.aload_n 0, 1) := by decide +kernel
theorem dX5_person_35 : decode cX5_person 35 = .ok (.iconst 1, 1) := by decide +kernel
theorem dX5_person_36 : decode cX5_person 36 = .ok (.invokevirtual 128, 3) := by decide +kernel
theorem dX5_person_39 : decode cX5_person 39 = .ok (.ireturn, 1) := by decide +kernel
theorem dX5_person_40 : decode cX5_person 40 = .ok (.aload_n 0, 1) := by decide +kernel
theorem dX5_person_41 : decode cX5_person 41 = .ok (.iload_n 1, 1) := by decide +kernel
theorem dX5_person_42 : decode cX5_person 42 = .ok (.invokevirtual 131, 3) := by decide +kernel
theorem dX5_person_45 : decode cX5_person 45 = .ok (.aload_n 0, 1) := by decide +kernel
theorem dX5_person_46 : decode cX5_person 46 = .ok (.aload_n 0, 1) := by decide +kernel
theorem dX5_person_47 : decode cX5_person 47 = .ok (.getfield 9, 3) := by decide +kernel
theorem dX5_person_50 : decode cX5_person 50 = .ok (.iconst 1, 1) := by decide +kernel
theorem dX5_person_51 : decode cX5_person 51 = .ok (.iaload, 1) := by decide +kernel
theorem dX5_person_52 : decode cX5_person 52 = .ok (.iconst 1, 1) := by decide +kernel
theorem dX5_person_53 : decode cX5_person 53 = .ok (.isub, 1) := by decide +kernel
theorem dX5_person_54 : decode cX5_person 54 = .ok (.iconst 1, 1) := by decide +kernel
theorem dX5_person_55 : decode cX5_person 55 = .ok (.iload_n 2, 1) := by decide +kernel
theorem dX5_person_56 : decode cX5_person 56 = .ok (.invokevirtual 81, 3) := by decide +kernel
theorem dX5_person_59 : decode cX5_person 59 = .ok (.aload_n 0, 1) := by decide +kernel
theorem dX5_person_60 : decode cX5_person 60 = .ok (.getfield 9, 3) := by decide +kernel
theorem dX5_person_63 : decode cX5_person 63 = .ok (.iconst 1, 1) := by decide +kernel
theorem dX5_person_64 : decode cX5_person 64 = .ok (.iaload, 1) := by decide +kernel
theorem dX5_person_65 : decode cX5_person 65 = .ok (.iconst 1, 1) := by decide +kernel
theorem dX5_person_66 : decode cX5_person 66 = .ok (.isub, 1) := by decide +kernel
theorem dX5_person_67 : decode cX5_person 67 = .ok (.ireturn, 1) := by decide +kernel
theorem dX5_of_0 : decode cX5_of 0 = .ok (.aload_n 0, 1) := by decide +kernel
theorem dX5_of_1 : decode cX5_of 1 = .ok (.iload_n 1, 1) := by decide +kernel
theorem dX5_of_2 : decode cX5_of 2 = .ok (.invokevirtual 52, 3) := by decide +kernel
theorem dX5_of_5 : decode cX5_of 5 = .ok (.ifCond .eq 13, 3) := by decide +kernel
theorem dX5_of_8 : decode cX5_of 8 = .ok (.iload_n 2, 1) := by decide +kernel
theorem dX5_of_9 : decode cX5_of 9 = .ok (.iconst 0, 1) := by decide +kernel
theorem dX5_of_10 : decode cX5_of 10 = .ok (.bipush 10, 2) := by decide +kernel
theorem dX5_of_12 : decode cX5_of 12 = .ok (.invokestatic 48, 3) := by decide +kernel
theorem dX5_of_15 : decode cX5_of 15 = .ok (.ifCond .ne 9, 3) := by decide +kernel
theorem dX5_of_18 : decode cX5_of 18 = .ok (.aload_n 0, 1) := by decide +kernel
theorem dX5_of_19 : decode cX5_of 19 = .ok (.iconst 0, 1) := by decide +kernel
theorem dX5_of_20 : decode cX5_of 20 = .ok (.invokevirtual 128, 3) := by decide +kernel
theorem dX5_of_23 : decode cX5_of 23 = .ok (.ireturn, 1) := by decide +kernel
theorem dX5_of_24 : decode cX5_of 24 = .ok (.iload_n 2, 1) := by decide +kernel
theorem dX5_of_25 : decode cX5_of 25 = .ok (.tableswitch 55 7 10 #[31, 37, 43, 49], 31) := by decide +kernel
theorem dX5_of_56 : decode cX5_of 56 = .ok (.aload_n 0, 1) := by decide +kernel
theorem dX5_of_57 : decode cX5_of 57 = .ok (.iload_n 1, 1) := by decide +kernel
theorem dX5_of_58 : decode cX5_of 58 = .ok (.invokevirtual 106, 3) := by decide +kernel
theorem dX5_of_61 : decode cX5_of 61 = .ok (.ireturn, 1) := by decide +kernel
theorem dX5_of_62 : decode cX5_of 62 = .ok (.aload_n 0, 1) := by decide +kernel
theorem dX5_of_63 : decode cX5_of 63 = .ok (.iload_n 1, 1) := by decide +kernel
theorem dX5_of_64 : decode cX5_of 64 = .ok (.invokevirtual 109, 3) := by decide +kernel
theorem dX5_of_67 : decode cX5_of 67 = .ok (.ireturn, 1) := by decide +kernel
theorem dX5_of_68 : decode cX5_of 68 = .ok (.aload_n 0, 1) := by decide +kernel
theorem dX5_of_69 : decode cX5_of 69 = .ok (.iload_n 1, 1) := by decide +kernel
theorem dX5_of_70 : decode cX5_of 70 = .ok (.invokevirtual 74, 3) := by decide +kernel
theorem dX5_of_73 : decode cX5_of 73 = .ok (.ireturn, 1) := by decide +kernel
theorem dX5_of_74 : decode cX5_of 74 = .ok (.aload_n 0, 1) := by decide +kernel
theorem dX5_of_75 : decode cX5_of 75 = .ok (.iload_n 1, 1) := by decide +kernel
theorem dX5_of_76 : decode cX5_of 76 = .ok (.invokevirtual 89, 3) := by decide +kernel
theorem dX5_of_79 : decode cX5_of 79 = .ok (.ireturn, 1) := by decide +kernel
theorem dX5_of_80 : decode cX5_of 80 = .ok (.aload_n 0, 1) := by decide +kernel
theorem dX5_of_81 : decode cX5_of 81 = .ok (.iload_n 1, 1) := by decide +kernel
theorem dX5_of_82 : decode cX5_of 82 = .ok (.iload_n 2, 1) := by decide +kernel
theorem dX5_of_83 : decode cX5_of 83 = .ok (.invokevirtual 56, 3) := by decide +kernel
theorem dX5_of_86 : decode cX5_of 86 = .ok (.ireturn, 1) := by decide +kernel
theorem dX5_canBe_0 : decode cX5_canBe 0 = .ok (.iload_n 2, 1) := by decide +kernel
theorem dX5_canBe_1 : decode cX5_canBe 1 = .ok (.tableswitch 77 0 6 #[43, 51, 56, 77, 77, 61, 68], 43) := by decide +kernel
theorem dX5_canBe_44 : decode cX5_canBe 44 = .ok (.iload_n 3, 1) := by decide +kernel
theorem dX5_canBe_45 : decode cX5_canBe 45 = .ok (.iconst 0, 1) := by decide +kernel
theorem dX5_canBe_46 : decode cX5_canBe 46 = .ok (.bipush 6, 2) := by decide +kernel
theorem dX5_canBe_48 : decode cX5_canBe 48 = .ok (.invokestatic 48, 3) := by decide +kernel
theorem dX5_canBe_51 : decode cX5_canBe 51 = .ok (.ireturn, 1) := by decide +kernel
theorem dX5_canBe_52 : decode cX5_canBe 52 = .ok (.iload_n 3, 1) := by decide +kernel
theorem dX5_canBe_53 : decode cX5_canBe 53 = .ok (.invokestatic 125, 3) := by decide +kernel
theorem dX5_canBe_56 : decode cX5_canBe 56 = .ok (.ireturn, 1) := by decide +kernel
theorem dX5_canBe_57 : decode cX5_canBe 57 = .ok (.iload_n 3, 1) := by decide +kernel
theorem dX5_canBe_58 : decode cX5_canBe 58 = .ok (.invokestatic 134, 3) := by decide +kernel
theorem dX5_canBe_61 : decode cX5_canBe 61 = .ok (.ireturn, 1) := by decide +kernel
theorem dX5_canBe_62 : decode cX5_canBe 62 = .ok (.iload_n 3, 1) := by decide +kernel
theorem dX5_canBe_63 : decode cX5_canBe 63 = .ok (.iconst 0, 1) := by decide +kernel
theorem dX5_canBe_64 : decode cX5_canBe 64 = .ok (.iconst 1, 1) := by decide +kernel
theorem dX5_canBe_65 : decode cX5_canBe 65 = .ok (.invokestatic 48, 3) := by decide +kernel
theorem dX5_canBe_68 : decode cX5_canBe 68 = .ok (.ireturn, 1) := by decide +kernel
theorem dX5_canBe_69 : decode cX5_canBe 69 = .ok (.iload_n 3, 1) := by decide +kernel
theorem dX5_canBe_70 : decode cX5_canBe 70 = .ok (.iconst 0, 1) := by decide +kernel
theorem dX5_canBe_71 : decode cX5_canBe 71 = .ok (.sipush 9999, 3) := by decide +kernel
theorem dX5_canBe_74 : decode cX5_canBe 74 = .ok (.invokestatic 48, 3) := by decide +kernel
theorem dX5_canBe_77 : decode cX5_canBe 77 = .ok (.ireturn, 1) := by decide +kernel
theorem dX5_canBe_78 : decode cX5_canBe 78 = .ok (.iload_n 3, 1) := by decide +kernel
theorem dX5_canBe_79 : decode cX5_canBe 79 = .ok (.iconst 0, 1) := by decide +kernel
theorem dX5_canBe_80 : decode cX5_canBe 80 = .ok (.iconst 1, 1) := by decide +kernel
theorem dX5_canBe_81 : decode cX5_canBe 81 = .ok (.aload_n 0, 1) := by decide +kernel
theorem dX5_canBe_82 : decode cX5_canBe 82 = .ok (.getfield 9, 3) := by decide +kernel
theorem dX5_canBe_85 : decode cX5_canBe 85 = .ok (.iconst 1, 1) := by decide +kernel
theorem dX5_canBe_86 : decode cX5_canBe 86 = .ok (.iaload, 1) := by decide +kernel
theorem dX5_canBe_87 : decode cX5_canBe 87 = .ok (.ishl, 1) := by decide +kernel
theorem dX5_canBe_88 : decode cX5_canBe 88 = .ok (.iconst 1, 1) := by decide +kernel
theorem dX5_canBe_89 : decode cX5_canBe 89 = .ok (.isub, 1) := by decide +kernel
theorem dX5_canBe_90 : decode cX5_canBe 90 = .ok (.invokestatic 48, 3) := by decide +kernel
theorem dX5_canBe_93 : decode cX5_canBe 93 = .ok (.ifCond .eq 15, 3) := by decide +kernel
theorem dX5_canBe_96 : decode cX5_canBe 96 = .ok (.iload_n 3, 1) := by decide +kernel
theorem dX5_canBe_97 : decode cX5_canBe 97 = .ok (.iload_n 1, 1) := by decide +kernel
theorem dX5_canBe_98 : decode cX5_canBe 98 = .ok (.ishr, 1) := by decide +kernel
theorem dX5_canBe_99 : decode cX5_canBe 99 = .ok (.iconst 1, 1) := by decide +kernel
theorem dX5_canBe_100 : decode cX5_canBe 100 = .ok (.iand, 1) := by decide +kernel
theorem dX5_canBe_101 : decode cX5_canBe 101 = .ok (.ifCond .ne 7, 3) := by decide +kernel
theorem dX5_canBe_104 : decode cX5_canBe 104 = .ok (.iconst 1, 1) := by decide +kernel
theorem dX5_canBe_105 : decode cX5_canBe 105 = .ok (.goto 4, 3) := by decide +kernel
theorem dX5_canBe_108 : decode cX5_canBe 108 = .ok (.iconst 0, 1) := by decide +kernel
theorem dX5_canBe_109 : decode cX5_canBe 109 = .ok (.ireturn, 1) := by decide +kernel
theorem dX5_change_0 : decode cX5_change 0 = .ok (.aload_n 0, 1) := by decide +kernel
theorem dX5_change_1 : decode cX5_change 1 = .ok (.iload_n 1, 1) := by decide +kernel
theorem dX5_change_2 : decode cX5_change 2 = .ok (.invokevirtual 52, 3) := by decide +kernel
theorem dX5_change_5 : decode cX5_change 5 = .ok (.ifCond .eq 23, 3) := by decide +kernel
theorem dX5_change_8 : decode cX5_change 8 = .ok (.iload_n 2, 1) := by decide +kernel
theorem dX5_change_9 : decode cX5_change 9 = .ok (.iconst 0, 1) := by decide +kernel
theorem dX5_change_10 : decode cX5_change 10 = .ok (.bipush 6, 2) := by decide +kernel
theorem dX5_change_12 : decode cX5_change 12 = .ok (.invokestatic 48, 3) := by decide +kernel
theorem dX5_change_15 : decode cX5_change 15 = .ok (.ifCond .eq 13, 3) := by decide +kernel
theorem dX5_change_18 : decode cX5_change 18 = .ok (.aload_n 0, 1) := by decide +kernel
theorem dX5_change_19 : decode cX5_change 19 = .ok (.iload_n 1, 1) := by decide +kernel
theorem dX5_change_20 : decode cX5_change 20 = .ok (.iload_n 2, 1) := by decide +kernel
theorem dX5_change_21 : decode cX5_change 21 = .ok (.iload_n 3, 1) := by decide +kernel
theorem dX5_change_22 : decode cX5_change 22 = .ok (.invokevirtual 137, 3) := by decide +kernel
theorem dX5_change_25 : decode cX5_change 25 = .ok (.ifCond .ne 9, 3) := by decide +kernel
theorem dX5_change_28 : decode cX5_change 28 = .ok (.aload_n 0, 1) := by decide +kernel
theorem dX5_change_29 : decode cX5_change 29 = .ok (.iconst 0, 1) := by decide +kernel
theorem dX5_change_30 : decode cX5_change 30 = .ok (.invokevirtual 128, 3) := by decide +kernel
theorem dX5_change_33 : decode cX5_change 33 = .ok (.ireturn, 1) := by decide +kernel
theorem dX5_change_34 : decode cX5_change 34 = .ok (.aload_n 0, 1) := by decide +kernel
theorem dX5_change_35 : decode cX5_change 35 = .ok (.iload_n 1, 1) := by decide +kernel
theorem dX5_change_36 : decode cX5_change 36 = .ok (.iload_n 2, 1) := by decide +kernel
theorem dX5_change_37 : decode cX5_change 37 = .ok (.invokevirtual 56, 3) := by decide +kernel
theorem dX5_change_40 : decode cX5_change 40 = .ok (.istore 4, 2) := by decide +kernel
theorem dX5_change_42 : decode cX5_change 42 = .ok (.aload_n 0, 1) := by decide +kernel
theorem dX5_change_43 : decode cX5_change 43 = .ok (.iload_n 1, 1) := by decide +kernel
theorem dX5_change_44 : decode cX5_change 44 = .ok (.iload_n 2, 1) := by decide +kernel
theorem dX5_change_45 : decode cX5_change 45 = .ok (.iload_n 3, 1) := by decide +kernel
theorem dX5_change_46 : decode cX5_change 46 = .ok (.invokevirtual 81, 3) := by decide +kernel
theorem dX5_change_49 : decode cX5_change 49 = .ok (.iload 4, 2) := by decide +kernel
theorem dX5_change_51 : decode cX5_change 51 = .ok (.ireturn, 1) := by decide +kernel
theorem dX5_minds_0 : decode cX5_minds 0 = .ok (.aload_n 0, 1) := by decide +kernel
theorem dX5_minds_1 : decode cX5_minds 1 = .ok (.iload_n 1, 1) := by decide +kernel
theorem dX5_minds_2 : decode cX5_minds 2 = .ok (.invokevirtual 52, 3) := by decide +kernel
theorem dX5_minds_5 : decode cX5_minds 5 = .ok (.ifCond .eq 10, 3) := by decide +kernel
theorem dX5_minds_8 : decode cX5_minds 8 = .ok (.iload_n 2, 1) := by decide +kernel
theorem dX5_minds_9 : decode cX5_minds 9 = .ok (.invokestatic 134, 3) := by decide +kernel
theorem dX5_minds_12 : decode cX5_minds 12 = .ok (.ifCond .ne 11, 3) := by decide +kernel
theorem dX5_minds_15 : decode cX5_minds 15 = .ok (.aload_n 0, 1) := by decide +kernel
theorem dX5_minds_16 : decode cX5_minds 16 = .ok (.iconst 0, 1) := by decide +kernel
theorem dX5_minds_17 : decode cX5_minds 17 = .ok (.invokevirtual 128, 3) := by decide +kernel
theorem dX5_minds_20 : decode cX5_minds 20 = .ok (.goto 17, 3) := by decide +kernel
theorem dX5_minds_23 : decode cX5_minds 23 = .ok (.aload_n 0, 1) := by decide +kernel
theorem dX5_minds_24 : decode cX5_minds 24 = .ok (.iload_n 1, 1) := by decide +kernel
theorem dX5_minds_25 : decode cX5_minds 25 = .ok (.iload_n 2, 1) := by decide +kernel
theorem dX5_minds_26 : decode cX5_minds 26 = .ok (.invokevirtual 77, 3) := by decide +kernel
theorem dX5_minds_29 : decode cX5_minds 29 = .ok (.ifCond .eq 7, 3) := by decide +kernel
theorem dX5_minds_32 : decode cX5_minds 32 = .ok (.iconst 1, 1) := by decide +kernel
theorem dX5_minds_33 : decode cX5_minds 33 = .ok (.goto 4, 3) := by decide +kernel
theorem dX5_minds_36 : decode cX5_minds 36 = .ok (.iconst 0, 1) := by decide +kernel
theorem dX5_minds_37 : decode cX5_minds 37 = .ok (.ireturn, 1) := by decide +kernel
theorem dX5_far_0 : decode cX5_far 0 = .ok (.aload_n 0, 1) := by decide +kernel
theorem dX5_far_1 : decode cX5_far 1 = .ok (.iload_n 1, 1) := by decide +kernel
theorem dX5_far_2 : decode cX5_far 2 = .ok (.iload_n 2, 1) := by decide +kernel
theorem dX5_far_3 : decode cX5_far 3 = .ok (.invokevirtual 140, 3) := by decide +kernel
theorem dX5_far_6 : decode cX5_far 6 = .ok (.ifCond .eq 12, 3) := by decide +kernel
theorem dX5_far_9 : decode cX5_far 9 = .ok (.aload_n 0, 1) := by decide +kernel
theorem dX5_far_10 : decode cX5_far 10 = .ok (.iload_n 1, 1) := by decide +kernel
theorem dX5_far_11 : decode cX5_far 11 = .ok (.iload_n 2, 1) := by decide +kernel
theorem dX5_far_12 : decode cX5_far 12 = .ok (.invokevirtual 71, 3) := by decide +kernel
theorem dX5_far_15 : decode cX5_far 15 = .ok (.goto 8, 3) := by decide +kernel
theorem dX5_far_18 : decode cX5_far 18 = .ok (.aload_n 0, 1) := by decide +kernel
theorem dX5_far_19 : decode cX5_far 19 = .ok (.iconst 0, 1) := by decide +kernel
theorem dX5_far_20 : decode cX5_far 20 = .ok (.invokevirtual 128, 3) := by decide +kernel
theorem dX5_far_23 : decode cX5_far 23 = .ok (.ireturn, 1) := by decide +kernel
theorem dX5_who_0 : decode cX5_who 0 = .ok (.iload_n 1, 1) := by decide +kernel
theorem dX5_who_1 : decode cX5_who 1 = .ok (.invokestatic 125, 3) := by decide +kernel
theorem dX5_who_4 : decode cX5_who 4 = .ok (.ifCond .ne 9, 3) := by decide +kernel
theorem dX5_who_7 : decode cX5_who 7 = .ok (.aload_n 0, 1) := by decide +kernel
theorem dX5_who_8 : decode cX5_who 8 = .ok (.iconst 0, 1) := by decide +kernel
theorem dX5_who_9 : decode cX5_who 9 = .ok (.invokevirtual 128, 3) := by decide +kernel
theorem dX5_who_12 : decode cX5_who 12 = .ok (.ireturn, 1) := by decide +kernel
theorem dX5_who_13 : decode cX5_who 13 = .ok (.iconst 0, 1) := by decide +kernel
theorem dX5_who_14 : decode cX5_who 14 = .ok (.istore_n 2, 1) := by decide +kernel
theorem dX5_who_15 : decode cX5_who 15 = .ok (.iconst 0, 1) := by decide +kernel
theorem dX5_who_16 : decode cX5_who 16 = .ok (.istore_n 3, 1) := by decide +kernel
theorem dX5_who_17 : decode cX5_who 17 = .ok (.iload_n 3, 1) := by decide +kernel
theorem dX5_who_18 : decode cX5_who 18 = .ok (.aload_n 0, 1) := by decide +kernel
theorem dX5_who_19 : decode cX5_who 19 = .ok (.getfield 9, 3) := by decide +kernel
theorem dX5_who_22 : decode cX5_who 22 = .ok (.iconst 1, 1) := by decide +kernel
theorem dX5_who_23 : decode cX5_who 23 = .ok (.iaload, 1) := by decide +kernel
theorem dX5_who_24 : decode cX5_who 24 = .ok (.if_icmp .ge 29, 3) := by decide +kernel
theorem dX5_who_27 : decode cX5_who 27 = .ok (.iload_n 2, 1) := by decide +kernel
theorem dX5_who_28 : decode cX5_who 28 = .ok (.aload_n 0, 1) := by decide +kernel
theorem dX5_who_29 : decode cX5_who 29 = .ok (.iload_n 3, 1) := by decide +kernel
theorem dX5_who_30 : decode cX5_who 30 = .ok (.iconst 1, 1) := by decide +kernel
theorem dX5_who_31 : decode cX5_who 31 = .ok (.invokevirtual 56, 3) := by decide +kernel
theorem dX5_who_34 : decode cX5_who 34 = .ok (.iload_n 1, 1) := by decide +kernel
theorem dX5_who_35 : decode cX5_who 35 = .ok (.if_icmp .ne 9, 3) := by decide +kernel
theorem dX5_who_38 : decode cX5_who 38 = .ok (.iconst 1, 1) := by decide +kernel
theorem dX5_who_39 : decode cX5_who 39 = .ok (.iload_n 3, 1) := by decide +kernel
theorem dX5_who_40 : decode cX5_who 40 = .ok (.ishl, 1) := by decide +kernel
theorem dX5_who_41 : decode cX5_who 41 = .ok (.goto 4, 3) := by decide +kernel
theorem dX5_who_44 : decode cX5_who 44 = .ok (.iconst 0, 1) := by decide +kernel
theorem dX5_who_45 : decode cX5_who 45 = .ok (.ior, 1) := by decide +kernel
theorem dX5_who_46 : decode cX5_who 46 = .ok (.istore_n 2, 1) := by decide +kernel
theorem dX5_who_47 : decode cX5_who 47 = .ok (.iinc 3 1, 3) := by decide +kernel
theorem dX5_who_50 : decode cX5_who 50 = .ok (.goto (-33), 3) := by decide +kernel
theorem dX5_who_53 : decode cX5_who 53 = .ok (.iload_n 2, 1) := by decide +kernel
theorem dX5_who_54 : decode cX5_who 54 = .ok (.ireturn, 1) := by decide +kernel
theorem dX5_two_0 : decode cX5_two 0 = .ok (.aload_n 0, 1) := by decide +kernel
theorem dX5_two_1 : decode cX5_two 1 = .ok (.iload_n 1, 1) := by decide +kernel
theorem dX5_two_2 : decode cX5_two 2 = .ok (.iload_n 2, 1) := by decide +kernel
theorem dX5_two_3 : decode cX5_two 3 = .ok (.invokevirtual 140, 3) := by decide +kernel
theorem dX5_two_6 : decode cX5_two 6 = .ok (.ifCond .eq 12, 3) := by decide +kernel
theorem dX5_two_9 : decode cX5_two 9 = .ok (.iload_n 3, 1) := by decide +kernel
theorem dX5_two_10 : decode cX5_two 10 = .ok (.iconst 0, 1) := by decide +kernel
theorem dX5_two_11 : decode cX5_two 11 = .ok (.iconst 2, 1) := by decide +kernel
theorem dX5_two_12 : decode cX5_two 12 = .ok (.invokestatic 48, 3) := by decide +kernel
theorem dX5_two_15 : decode cX5_two 15 = .ok (.ifCond .ne 9, 3) := by decide +kernel
theorem dX5_two_18 : decode cX5_two 18 = .ok (.aload_n 0, 1) := by decide +kernel
theorem dX5_two_19 : decode cX5_two 19 = .ok (.iconst 0, 1) := by decide +kernel
theorem dX5_two_20 : decode cX5_two 20 = .ok (.invokevirtual 128, 3) := by decide +kernel
theorem dX5_two_23 : decode cX5_two 23 = .ok (.ireturn, 1) := by decide +kernel
theorem dX5_two_24 : decode cX5_two 24 = .ok (.iload_n 3, 1) := by decide +kernel
theorem dX5_two_25 : decode cX5_two 25 = .ok (.ifCond .ne 29, 3) := by decide +kernel
theorem dX5_two_28 : decode cX5_two 28 = .ok (.aload_n 0, 1) := by decide +kernel
theorem dX5_two_29 : decode cX5_two 29 = .ok (.iload_n 1, 1) := by decide +kernel
theorem dX5_two_30 : decode cX5_two 30 = .ok (.iload_n 2, 1) := by decide +kernel
theorem dX5_two_31 : decode cX5_two 31 = .ok (.invokevirtual 95, 3) := by decide +kernel
theorem dX5_two_34 : decode cX5_two 34 = .ok (.ifCond .eq 16, 3) := by decide +kernel
theorem dX5_two_37 : decode cX5_two 37 = .ok (.aload_n 0, 1) := by decide +kernel
theorem dX5_two_38 : decode cX5_two 38 = .ok (.iload_n 2, 1) := by decide +kernel
theorem dX5_two_39 : decode cX5_two 39 = .ok (.iload_n 1, 1) := by decide +kernel
theorem dX5_two_40 : decode cX5_two 40 = .ok (.invokevirtual 95, 3) := by decide +kernel
theorem dX5_two_43 : decode cX5_two 43 = .ok (.ifCond .eq 7, 3) := by decide +kernel
theorem dX5_two_46 : decode cX5_two 46 = .ok (.iconst 1, 1) := by decide +kernel
theorem dX5_two_47 : decode cX5_two 47 = .ok (.goto 44, 3) := by decide +kernel
theorem dX5_two_50 : decode cX5_two 50 = .ok (.iconst 0, 1) := by decide +kernel
theorem dX5_two_51 : decode cX5_two 51 = .ok (.goto 40, 3) := by decide +kernel
theorem dX5_two_54 : decode cX5_two 54 = .ok (.iload_n 3, 1) := by decide +kernel
theorem dX5_two_55 : decode cX5_two 55 = .ok (.iconst 1, 1) := by decide +kernel
theorem dX5_two_56 : decode cX5_two 56 = .ok (.if_icmp .ne 29, 3) := by decide +kernel
theorem dX5_two_59 : decode cX5_two 59 = .ok (.aload_n 0, 1) := by decide +kernel
theorem dX5_two_60 : decode cX5_two 60 = .ok (.iload_n 1, 1) := by decide +kernel
theorem dX5_two_61 : decode cX5_two 61 = .ok (.iload_n 2, 1) := by decide +kernel
theorem dX5_two_62 : decode cX5_two 62 = .ok (.invokevirtual 85, 3) := by decide +kernel
theorem dX5_two_65 : decode cX5_two 65 = .ok (.ifCond .eq 16, 3) := by decide +kernel
theorem dX5_two_68 : decode cX5_two 68 = .ok (.aload_n 0, 1) := by decide +kernel
theorem dX5_two_69 : decode cX5_two 69 = .ok (.iload_n 2, 1) := by decide +kernel
theorem dX5_two_70 : decode cX5_two 70 = .ok (.iload_n 1, 1) := by decide +kernel
theorem dX5_two_71 : decode cX5_two 71 = .ok (.invokevirtual 85, 3) := by decide +kernel
theorem dX5_two_74 : decode cX5_two 74 = .ok (.ifCond .eq 7, 3) := by decide +kernel
theorem dX5_two_77 : decode cX5_two 77 = .ok (.iconst 1, 1) := by decide +kernel
theorem dX5_two_78 : decode cX5_two 78 = .ok (.goto 13, 3) := by decide +kernel
theorem dX5_two_81 : decode cX5_two 81 = .ok (.iconst 0, 1) := by decide +kernel
theorem dX5_two_82 : decode cX5_two 82 = .ok (.goto 9, 3) := by decide +kernel
theorem dX5_two_85 : decode cX5_two 85 = .ok (.aload_n 0, 1) := by decide +kernel
theorem dX5_two_86 : decode cX5_two 86 = .ok (.iload_n 1, 1) := by decide +kernel
theorem dX5_two_87 : decode cX5_two 87 = .ok (.iload_n 2, 1) := by decide +kernel
theorem dX5_two_88 : decode cX5_two 88 = .ok (.invokevirtual 92, 3) := by decide +kernel
theorem dX5_two_91 : decode cX5_two 91 = .ok (.istore 4, 2) := by decide +kernel
theorem dX5_two_93 : decode cX5_two 93 = .ok (.iload 4, 2) := by decide +kernel
theorem dX5_two_95 : decode cX5_two 95 = .ok (.ifCond .eq 7, 3) := by decide +kernel
theorem dX5_two_98 : decode cX5_two 98 = .ok (.iconst 1, 1) := by decide +kernel
theorem dX5_two_99 : decode cX5_two 99 = .ok (.goto 4, 3) := by decide +kernel
theorem dX5_two_102 : decode cX5_two 102 = .ok (.iconst 0, 1) := by decide +kernel
theorem dX5_two_103 : decode cX5_two 103 = .ok (.ireturn, 1) := by decide +kernel
theorem dX5_go_0 : decode cX5_go 0 = .ok (.iload_n 1, 1) := by decide +kernel
theorem dX5_go_1 : decode cX5_go 1 = .ok (.iconst 1, 1) := by decide +kernel
theorem dX5_go_2 : decode cX5_go 2 = .ok (.bipush 60, 2) := by decide +kernel
theorem dX5_go_4 : decode cX5_go 4 = .ok (.invokestatic 48, 3) := by decide +kernel
theorem dX5_go_7 : decode cX5_go 7 = .ok (.ifCond .ne 9, 3) := by decide +kernel
theorem dX5_go_10 : decode cX5_go 10 = .ok (.aload_n 0, 1) := by decide +kernel
theorem dX5_go_11 : decode cX5_go 11 = .ok (.iconst 0, 1) := by decide +kernel
theorem dX5_go_12 : decode cX5_go 12 = .ok (.invokevirtual 128, 3) := by decide +kernel
theorem dX5_go_15 : decode cX5_go 15 = .ok (.ireturn, 1) := by decide +kernel
theorem dX5_go_16 : decode cX5_go 16 = .ok (.aload_n 0, 1) := by decide +kernel
theorem dX5_go_17 : decode cX5_go 17 = .ok (.getfield 9, 3) := by decide +kernel
theorem dX5_go_20 : decode cX5_go 20 = .ok (.iconst 0, 1) := by decide +kernel
theorem dX5_go_21 : decode cX5_go 21 = .ok (.iaload, 1) := by decide +kernel
theorem dX5_go_22 : decode cX5_go 22 = .ok (.iload_n 1, 1) := by decide +kernel
theorem dX5_go_23 : decode cX5_go 23 = .ok (.iadd, 1) := by decide +kernel
theorem dX5_go_24 : decode cX5_go 24 = .ok (.ldc 88, 2) := by decide +kernel
theorem dX5_go_26 : decode cX5_go 26 = .ok (.if_icmp .le 9, 3) := by decide +kernel
theorem dX5_go_29 : decode cX5_go 29 = .ok (.aload_n 0, 1) := by decide +kernel
theorem dX5_go_30 : decode cX5_go 30 = .ok (.iconst 4, 1) := by decide +kernel
theorem dX5_go_31 : decode cX5_go 31 = .ok (.invokevirtual 128, 3) := by decide +kernel
theorem dX5_go_34 : decode cX5_go 34 = .ok (.ireturn, 1) := by decide +kernel
theorem dX5_go_35 : decode cX5_go 35 = .ok (.aload_n 0, 1) := by decide +kernel
theorem dX5_go_36 : decode cX5_go 36 = .ok (.iload_n 1, 1) := by decide +kernel
theorem dX5_go_37 : decode cX5_go 37 = .ok (.invokevirtual 143, 3) := by decide +kernel
theorem dX5_go_40 : decode cX5_go 40 = .ok (.aload_n 0, 1) := by decide +kernel
theorem dX5_go_41 : decode cX5_go 41 = .ok (.getfield 9, 3) := by decide +kernel
theorem dX5_go_44 : decode cX5_go 44 = .ok (.iconst 3, 1) := by decide +kernel
theorem dX5_go_45 : decode cX5_go 45 = .ok (.iaload, 1) := by decide +kernel
theorem dX5_go_46 : decode cX5_go 46 = .ok (.ireturn, 1) := by decide +kernel
theorem dX5_passedAll_0 : decode cX5_passedAll 0 = .ok (.iconst 0, 1) := by decide +kernel
theorem dX5_passedAll_1 : decode cX5_passedAll 1 = .ok (.istore_n 1, 1) := by decide +kernel
theorem dX5_passedAll_2 : decode cX5_passedAll 2 = .ok (.iconst 0, 1) := by decide +kernel
theorem dX5_passedAll_3 : decode cX5_passedAll 3 = .ok (.istore_n 2, 1) := by decide +kernel
theorem dX5_passedAll_4 : decode cX5_passedAll 4 = .ok (.iload_n 2, 1) := by decide +kernel
theorem dX5_passedAll_5 : decode cX5_passedAll 5 = .ok (.aload_n 0, 1) := by decide +kernel
theorem dX5_passedAll_6 : decode cX5_passedAll 6 = .ok (.getfield 9, 3) := by decide +kernel
theorem dX5_passedAll_9 : decode cX5_passedAll 9 = .ok (.iconst 1, 1) := by decide +kernel
theorem dX5_passedAll_10 : decode cX5_passedAll 10 = .ok (.iaload, 1) := by decide +kernel
theorem dX5_passedAll_11 : decode cX5_passedAll 11 = .ok (.if_icmp .ge 19, 3) := by decide +kernel
theorem dX5_passedAll_14 : decode cX5_passedAll 14 = .ok (.iload_n 1, 1) := by decide +kernel
theorem dX5_passedAll_15 : decode cX5_passedAll 15 = .ok (.aload_n 0, 1) := by decide +kernel
theorem dX5_passedAll_16 : decode cX5_passedAll 16 = .ok (.iload_n 2, 1) := by decide +kernel
theorem dX5_passedAll_17 : decode cX5_passedAll 17 = .ok (.bipush 6, 2) := by decide +kernel
theorem dX5_passedAll_19 : decode cX5_passedAll 19 = .ok (.invokevirtual 56, 3) := by decide +kernel
theorem dX5_passedAll_22 : decode cX5_passedAll 22 = .ok (.iadd, 1) := by decide +kernel
theorem dX5_passedAll_23 : decode cX5_passedAll 23 = .ok (.istore_n 1, 1) := by decide +kernel
theorem dX5_passedAll_24 : decode cX5_passedAll 24 = .ok (.iinc 2 1, 3) := by decide +kernel
theorem dX5_passedAll_27 : decode cX5_passedAll 27 = .ok (.goto (-23), 3) := by decide +kernel
theorem dX5_passedAll_30 : decode cX5_passedAll 30 = .ok (.iload_n 1, 1) := by decide +kernel
theorem dX5_passedAll_31 : decode cX5_passedAll 31 = .ok (.ireturn, 1) := by decide +kernel
theorem dX5_whoKnow_0 : decode cX5_whoKnow 0 = .ok (.iconst 0, 1) := by decide +kernel
theorem dX5_whoKnow_1 : decode cX5_whoKnow 1 = .ok (.istore_n 1, 1) := by decide +kernel
theorem dX5_whoKnow_2 : decode cX5_whoKnow 2 = .ok (.iconst 0, 1) := by decide +kernel
theorem dX5_whoKnow_3 : decode cX5_whoKnow 3 = .ok (.istore_n 2, 1) := by decide +kernel
theorem dX5_whoKnow_4 : decode cX5_whoKnow 4 = .ok (.iload_n 2, 1) := by decide +kernel
theorem dX5_whoKnow_5 : decode cX5_whoKnow 5 = .ok (.aload_n 0, 1) := by decide +kernel
theorem dX5_whoKnow_6 : decode cX5_whoKnow 6 = .ok (.getfield 9, 3) := by decide +kernel
theorem dX5_whoKnow_9 : decode cX5_whoKnow 9 = .ok (.iconst 1, 1) := by decide +kernel
theorem dX5_whoKnow_10 : decode cX5_whoKnow 10 = .ok (.iaload, 1) := by decide +kernel
theorem dX5_whoKnow_11 : decode cX5_whoKnow 11 = .ok (.if_icmp .ge 28, 3) := by decide +kernel
theorem dX5_whoKnow_14 : decode cX5_whoKnow 14 = .ok (.iload_n 1, 1) := by decide +kernel
theorem dX5_whoKnow_15 : decode cX5_whoKnow 15 = .ok (.aload_n 0, 1) := by decide +kernel
theorem dX5_whoKnow_16 : decode cX5_whoKnow 16 = .ok (.iload_n 2, 1) := by decide +kernel
theorem dX5_whoKnow_17 : decode cX5_whoKnow 17 = .ok (.iconst 4, 1) := by decide +kernel
theorem dX5_whoKnow_18 : decode cX5_whoKnow 18 = .ok (.invokevirtual 56, 3) := by decide +kernel
theorem dX5_whoKnow_21 : decode cX5_whoKnow 21 = .ok (.ifCond .eq 9, 3) := by decide +kernel
theorem dX5_whoKnow_24 : decode cX5_whoKnow 24 = .ok (.iconst 1, 1) := by decide +kernel
theorem dX5_whoKnow_25 : decode cX5_whoKnow 25 = .ok (.iload_n 2, 1) := by decide +kernel
theorem dX5_whoKnow_26 : decode cX5_whoKnow 26 = .ok (.ishl, 1) := by decide +kernel
theorem dX5_whoKnow_27 : decode cX5_whoKnow 27 = .ok (.goto 4, 3) := by decide +kernel
theorem dX5_whoKnow_30 : decode cX5_whoKnow 30 = .ok (.iconst 0, 1) := by decide +kernel
theorem dX5_whoKnow_31 : decode cX5_whoKnow 31 = .ok (.ior, 1) := by decide +kernel
theorem dX5_whoKnow_32 : decode cX5_whoKnow 32 = .ok (.istore_n 1, 1) := by decide +kernel
theorem dX5_whoKnow_33 : decode cX5_whoKnow 33 = .ok (.iinc 2 1, 3) := by decide +kernel
theorem dX5_whoKnow_36 : decode cX5_whoKnow 36 = .ok (.goto (-32), 3) := by decide +kernel
theorem dX5_whoKnow_39 : decode cX5_whoKnow 39 = .ok (.iload_n 1, 1) := by decide +kernel
theorem dX5_whoKnow_40 : decode cX5_whoKnow 40 = .ok (.ireturn, 1) := by decide +kernel
theorem dX5_pairs_0 : decode cX5_pairs 0 = .ok (.iconst 0, 1) := by decide +kernel
theorem dX5_pairs_1 : decode cX5_pairs 1 = .ok (.istore_n 2, 1) := by decide +kernel
theorem dX5_pairs_2 : decode cX5_pairs 2 = .ok (.iconst 0, 1) := by decide +kernel
theorem dX5_pairs_3 : decode cX5_pairs 3 = .ok (.istore_n 3, 1) := by decide +kernel
theorem dX5_pairs_4 : decode cX5_pairs 4 = .ok (.iload_n 3, 1) := by decide +kernel
theorem dX5_pairs_5 : decode cX5_pairs 5 = .ok (.aload_n 0, 1) := by decide +kernel
theorem dX5_pairs_6 : decode cX5_pairs 6 = .ok (.getfield 9, 3) := by decide +kernel
theorem dX5_pairs_9 : decode cX5_pairs 9 = .ok (.iconst 1, 1) := by decide +kernel
theorem dX5_pairs_10 : decode cX5_pairs 10 = .ok (.iaload, 1) := by decide +kernel
theorem dX5_pairs_11 : decode cX5_pairs 11 = .ok (.if_icmp .ge 55, 3) := by decide +kernel
theorem dX5_pairs_14 : decode cX5_pairs 14 = .ok (.iload_n 3, 1) := by decide +kernel
theorem dX5_pairs_15 : decode cX5_pairs 15 = .ok (.iconst 1, 1) := by decide +kernel
theorem dX5_pairs_16 : decode cX5_pairs 16 = .ok (.iadd, 1) := by decide +kernel
theorem dX5_pairs_17 : decode cX5_pairs 17 = .ok (.istore 4, 2) := by decide +kernel
theorem dX5_pairs_19 : decode cX5_pairs 19 = .ok (.iload 4, 2) := by decide +kernel
theorem dX5_pairs_21 : decode cX5_pairs 21 = .ok (.aload_n 0, 1) := by decide +kernel
theorem dX5_pairs_22 : decode cX5_pairs 22 = .ok (.getfield 9, 3) := by decide +kernel
theorem dX5_pairs_25 : decode cX5_pairs 25 = .ok (.iconst 1, 1) := by decide +kernel
theorem dX5_pairs_26 : decode cX5_pairs 26 = .ok (.iaload, 1) := by decide +kernel
theorem dX5_pairs_27 : decode cX5_pairs 27 = .ok (.if_icmp .ge 33, 3) := by decide +kernel
theorem dX5_pairs_30 : decode cX5_pairs 30 = .ok (.iload_n 2, 1) := by decide +kernel
theorem dX5_pairs_31 : decode cX5_pairs 31 = .ok (.aload_n 0, 1) := by decide +kernel
theorem dX5_pairs_32 : decode cX5_pairs 32 = .ok (.iload_n 3, 1) := by decide +kernel
theorem dX5_pairs_33 : decode cX5_pairs 33 = .ok (.iload_n 1, 1) := by decide +kernel
theorem dX5_pairs_34 : decode cX5_pairs 34 = .ok (.invokevirtual 56, 3) := by decide +kernel
theorem dX5_pairs_37 : decode cX5_pairs 37 = .ok (.iload 4, 2) := by decide +kernel
theorem dX5_pairs_39 : decode cX5_pairs 39 = .ok (.ishr, 1) := by decide +kernel
theorem dX5_pairs_40 : decode cX5_pairs 40 = .ok (.aload_n 0, 1) := by decide +kernel
theorem dX5_pairs_41 : decode cX5_pairs 41 = .ok (.iload 4, 2) := by decide +kernel
theorem dX5_pairs_43 : decode cX5_pairs 43 = .ok (.iload_n 1, 1) := by decide +kernel
theorem dX5_pairs_44 : decode cX5_pairs 44 = .ok (.invokevirtual 56, 3) := by decide +kernel
theorem dX5_pairs_47 : decode cX5_pairs 47 = .ok (.iload_n 3, 1) := by decide +kernel
theorem dX5_pairs_48 : decode cX5_pairs 48 = .ok (.ishr, 1) := by decide +kernel
theorem dX5_pairs_49 : decode cX5_pairs 49 = .ok (.iand, 1) := by decide +kernel
theorem dX5_pairs_50 : decode cX5_pairs 50 = .ok (.iconst 1, 1) := by decide +kernel
theorem dX5_pairs_51 : decode cX5_pairs 51 = .ok (.iand, 1) := by decide +kernel
theorem dX5_pairs_52 : decode cX5_pairs 52 = .ok (.iadd, 1) := by decide +kernel
theorem dX5_pairs_53 : decode cX5_pairs 53 = .ok (.istore_n 2, 1) := by decide +kernel
theorem dX5_pairs_54 : decode cX5_pairs 54 = .ok (.iinc 4 1, 3) := by decide +kernel
theorem dX5_pairs_57 : decode cX5_pairs 57 = .ok (.goto (-38), 3) := by decide +kernel
theorem dX5_pairs_60 : decode cX5_pairs 60 = .ok (.iinc 3 1, 3) := by decide +kernel
theorem dX5_pairs_63 : decode cX5_pairs 63 = .ok (.goto (-59), 3) := by decide +kernel
theorem dX5_pairs_66 : decode cX5_pairs 66 = .ok (.iload_n 2, 1) := by decide +kernel
theorem dX5_pairs_67 : decode cX5_pairs 67 = .ok (.ireturn, 1) := by decide +kernel
theorem dX5_worn_0 : decode cX5_worn 0 = .ok (.iconst 0, 1) := by decide +kernel
theorem dX5_worn_1 : decode cX5_worn 1 = .ok (.istore_n 1, 1) := by decide +kernel
theorem dX5_worn_2 : decode cX5_worn 2 = .ok (.iconst 0, 1) := by decide +kernel
theorem dX5_worn_3 : decode cX5_worn 3 = .ok (.istore_n 2, 1) := by decide +kernel
theorem dX5_worn_4 : decode cX5_worn 4 = .ok (.iload_n 2, 1) := by decide +kernel
theorem dX5_worn_5 : decode cX5_worn 5 = .ok (.aload_n 0, 1) := by decide +kernel
theorem dX5_worn_6 : decode cX5_worn 6 = .ok (.getfield 9, 3) := by decide +kernel
theorem dX5_worn_9 : decode cX5_worn 9 = .ok (.iconst 1, 1) := by decide +kernel
theorem dX5_worn_10 : decode cX5_worn 10 = .ok (.iaload, 1) := by decide +kernel
theorem dX5_worn_11 : decode cX5_worn 11 = .ok (.if_icmp .ge 20, 3) := by decide +kernel
theorem dX5_worn_14 : decode cX5_worn 14 = .ok (.iload_n 1, 1) := by decide +kernel
theorem dX5_worn_15 : decode cX5_worn 15 = .ok (.iconst 1, 1) := by decide +kernel
theorem dX5_worn_16 : decode cX5_worn 16 = .ok (.aload_n 0, 1) := by decide +kernel
theorem dX5_worn_17 : decode cX5_worn 17 = .ok (.iload_n 2, 1) := by decide +kernel
theorem dX5_worn_18 : decode cX5_worn 18 = .ok (.iconst 2, 1) := by decide +kernel
theorem dX5_worn_19 : decode cX5_worn 19 = .ok (.invokevirtual 56, 3) := by decide +kernel
theorem dX5_worn_22 : decode cX5_worn 22 = .ok (.ishl, 1) := by decide +kernel
theorem dX5_worn_23 : decode cX5_worn 23 = .ok (.ior, 1) := by decide +kernel
theorem dX5_worn_24 : decode cX5_worn 24 = .ok (.istore_n 1, 1) := by decide +kernel
theorem dX5_worn_25 : decode cX5_worn 25 = .ok (.iinc 2 1, 3) := by decide +kernel
theorem dX5_worn_28 : decode cX5_worn 28 = .ok (.goto (-24), 3) := by decide +kernel
theorem dX5_worn_31 : decode cX5_worn 31 = .ok (.iload_n 1, 1) := by decide +kernel
theorem dX5_worn_32 : decode cX5_worn 32 = .ok (.ireturn, 1) := by decide +kernel
theorem dX5_now_0 : decode cX5_now 0 = .ok (.iload_n 1, 1) := by decide +kernel
theorem dX5_now_1 : decode cX5_now 1 = .ok (.tableswitch 101 0 7 #[47, 54, 61, 66, 72, 78, 83, 88], 47) := by decide +kernel
theorem dX5_now_48 : decode cX5_now 48 = .ok (.aload_n 0, 1) := by decide +kernel
theorem dX5_now_49 : decode cX5_now 49 = .ok (.getfield 9, 3) := by decide +kernel
theorem dX5_now_52 : decode cX5_now 52 = .ok (.iconst 0, 1) := by decide +kernel
theorem dX5_now_53 : decode cX5_now 53 = .ok (.iaload, 1) := by decide +kernel
theorem dX5_now_54 : decode cX5_now 54 = .ok (.ireturn, 1) := by decide +kernel
theorem dX5_now_55 : decode cX5_now 55 = .ok (.aload_n 0, 1) := by decide +kernel
theorem dX5_now_56 : decode cX5_now 56 = .ok (.getfield 9, 3) := by decide +kernel
theorem dX5_now_59 : decode cX5_now 59 = .ok (.iconst 3, 1) := by decide +kernel
theorem dX5_now_60 : decode cX5_now 60 = .ok (.iaload, 1) := by decide +kernel
theorem dX5_now_61 : decode cX5_now 61 = .ok (.ireturn, 1) := by decide +kernel
theorem dX5_now_62 : decode cX5_now 62 = .ok (.aload_n 0, 1) := by decide +kernel
theorem dX5_now_63 : decode cX5_now 63 = .ok (.invokevirtual 146, 3) := by decide +kernel
theorem dX5_now_66 : decode cX5_now 66 = .ok (.ireturn, 1) := by decide +kernel
theorem dX5_now_67 : decode cX5_now 67 = .ok (.aload_n 0, 1) := by decide +kernel
theorem dX5_now_68 : decode cX5_now 68 = .ok (.iconst 4, 1) := by decide +kernel
theorem dX5_now_69 : decode cX5_now 69 = .ok (.invokevirtual 150, 3) := by decide +kernel
theorem dX5_now_72 : decode cX5_now 72 = .ok (.ireturn, 1) := by decide +kernel
theorem dX5_now_73 : decode cX5_now 73 = .ok (.aload_n 0, 1) := by decide +kernel
theorem dX5_now_74 : decode cX5_now 74 = .ok (.iconst 3, 1) := by decide +kernel
theorem dX5_now_75 : decode cX5_now 75 = .ok (.invokevirtual 150, 3) := by decide +kernel
theorem dX5_now_78 : decode cX5_now 78 = .ok (.ireturn, 1) := by decide +kernel
theorem dX5_now_79 : decode cX5_now 79 = .ok (.aload_n 0, 1) := by decide +kernel
theorem dX5_now_80 : decode cX5_now 80 = .ok (.invokevirtual 153, 3) := by decide +kernel
theorem dX5_now_83 : decode cX5_now 83 = .ok (.ireturn, 1) := by decide +kernel
theorem dX5_now_84 : decode cX5_now 84 = .ok (.aload_n 0, 1) := by decide +kernel
theorem dX5_now_85 : decode cX5_now 85 = .ok (.invokevirtual 156, 3) := by decide +kernel
theorem dX5_now_88 : decode cX5_now 88 = .ok (.ireturn, 1) := by decide +kernel
theorem dX5_now_89 : decode cX5_now 89 = .ok (.aload_n 0, 1) := by decide +kernel
theorem dX5_now_90 : decode cX5_now 90 = .ok (.invokevirtual 60, 3) := by decide +kernel
theorem dX5_now_93 : decode cX5_now 93 = .ok (.ifCond .eq 7, 3) := by decide +kernel
theorem dX5_now_96 : decode cX5_now 96 = .ok (.iconst 1, 1) := by decide +kernel
theorem dX5_now_97 : decode cX5_now 97 = .ok (.goto 4, 3) := by decide +kernel
theorem dX5_now_100 : decode cX5_now 100 = .ok (.iconst 0, 1) := by decide +kernel
theorem dX5_now_101 : decode cX5_now 101 = .ok (.ireturn, 1) := by decide +kernel
theorem dX5_now_102 : decode cX5_now 102 = .ok (.aload_n 0, 1) := by decide +kernel
theorem dX5_now_103 : decode cX5_now 103 = .ok (.iconst 0, 1) := by decide +kernel
theorem dX5_now_104 : decode cX5_now 104 = .ok (.invokevirtual 128, 3) := by decide +kernel
theorem dX5_now_107 : decode cX5_now 107 = .ok (.ireturn, 1) := by decide +kernel
theorem dX5_thenAt_0 : decode cX5_thenAt 0 = .ok (.aload_n 0, 1) := by decide +kernel
theorem dX5_thenAt_1 : decode cX5_thenAt 1 = .ok (.invokevirtual 159, 3) := by decide +kernel
theorem dX5_thenAt_4 : decode cX5_thenAt 4 = .ok (.aload_n 0, 1) := by decide +kernel
theorem dX5_thenAt_5 : decode cX5_thenAt 5 = .ok (.iload_n 2, 1) := by decide +kernel
theorem dX5_thenAt_6 : decode cX5_thenAt 6 = .ok (.invokevirtual 143, 3) := by decide +kernel
theorem dX5_thenAt_9 : decode cX5_thenAt 9 = .ok (.aload_n 0, 1) := by decide +kernel
theorem dX5_thenAt_10 : decode cX5_thenAt 10 = .ok (.getfield 9, 3) := by decide +kernel
theorem dX5_thenAt_13 : decode cX5_thenAt 13 = .ok (.iload_n 1, 1) := by decide +kernel
theorem dX5_thenAt_14 : decode cX5_thenAt 14 = .ok (.iaload, 1) := by decide +kernel
theorem dX5_thenAt_15 : decode cX5_thenAt 15 = .ok (.istore_n 3, 1) := by decide +kernel
theorem dX5_thenAt_16 : decode cX5_thenAt 16 = .ok (.aload_n 0, 1) := by decide +kernel
theorem dX5_thenAt_17 : decode cX5_thenAt 17 = .ok (.invokevirtual 162, 3) := by decide +kernel
theorem dX5_thenAt_20 : decode cX5_thenAt 20 = .ok (.iload_n 3, 1) := by decide +kernel
theorem dX5_thenAt_21 : decode cX5_thenAt 21 = .ok (.ireturn, 1) := by decide +kernel
theorem dX5_ahead_0 : decode cX5_ahead 0 = .ok (.iload_n 2, 1) := by decide +kernel
theorem dX5_ahead_1 : decode cX5_ahead 1 = .ok (.iconst 1, 1) := by decide +kernel
theorem dX5_ahead_2 : decode cX5_ahead 2 = .ok (.iconst 4, 1) := by decide +kernel
theorem dX5_ahead_3 : decode cX5_ahead 3 = .ok (.invokestatic 48, 3) := by decide +kernel
theorem dX5_ahead_6 : decode cX5_ahead 6 = .ok (.ifCond .ne 9, 3) := by decide +kernel
theorem dX5_ahead_9 : decode cX5_ahead 9 = .ok (.iload_n 2, 1) := by decide +kernel
theorem dX5_ahead_10 : decode cX5_ahead 10 = .ok (.bipush 6, 2) := by decide +kernel
theorem dX5_ahead_12 : decode cX5_ahead 12 = .ok (.if_icmp .ne 7, 3) := by decide +kernel
theorem dX5_ahead_15 : decode cX5_ahead 15 = .ok (.iconst 1, 1) := by decide +kernel
theorem dX5_ahead_16 : decode cX5_ahead 16 = .ok (.goto 4, 3) := by decide +kernel
theorem dX5_ahead_19 : decode cX5_ahead 19 = .ok (.iconst 0, 1) := by decide +kernel
theorem dX5_ahead_20 : decode cX5_ahead 20 = .ok (.istore 4, 2) := by decide +kernel
theorem dX5_ahead_22 : decode cX5_ahead 22 = .ok (.aload_n 0, 1) := by decide +kernel
theorem dX5_ahead_23 : decode cX5_ahead 23 = .ok (.iload_n 1, 1) := by decide +kernel
theorem dX5_ahead_24 : decode cX5_ahead 24 = .ok (.invokevirtual 52, 3) := by decide +kernel
theorem dX5_ahead_27 : decode cX5_ahead 27 = .ok (.ifCond .eq 34, 3) := by decide +kernel
theorem dX5_ahead_30 : decode cX5_ahead 30 = .ok (.iload 4, 2) := by decide +kernel
theorem dX5_ahead_32 : decode cX5_ahead 32 = .ok (.ifCond .eq 29, 3) := by decide +kernel
theorem dX5_ahead_35 : decode cX5_ahead 35 = .ok (.iload_n 3, 1) := by decide +kernel
theorem dX5_ahead_36 : decode cX5_ahead 36 = .ok (.iconst 0, 1) := by decide +kernel
theorem dX5_ahead_37 : decode cX5_ahead 37 = .ok (.bipush 100, 2) := by decide +kernel
theorem dX5_ahead_39 : decode cX5_ahead 39 = .ok (.invokestatic 48, 3) := by decide +kernel
theorem dX5_ahead_42 : decode cX5_ahead 42 = .ok (.ifCond .eq 19, 3) := by decide +kernel
theorem dX5_ahead_45 : decode cX5_ahead 45 = .ok (.aload_n 0, 1) := by decide +kernel
theorem dX5_ahead_46 : decode cX5_ahead 46 = .ok (.iconst 4, 1) := by decide +kernel
theorem dX5_ahead_47 : decode cX5_ahead 47 = .ok (.bipush 7, 2) := by decide +kernel
theorem dX5_ahead_49 : decode cX5_ahead 49 = .ok (.iload_n 1, 1) := by decide +kernel
theorem dX5_ahead_50 : decode cX5_ahead 50 = .ok (.imul, 1) := by decide +kernel
theorem dX5_ahead_51 : decode cX5_ahead 51 = .ok (.iadd, 1) := by decide +kernel
theorem dX5_ahead_52 : decode cX5_ahead 52 = .ok (.iload_n 2, 1) := by decide +kernel
theorem dX5_ahead_53 : decode cX5_ahead 53 = .ok (.iadd, 1) := by decide +kernel
theorem dX5_ahead_54 : decode cX5_ahead 54 = .ok (.iload_n 3, 1) := by decide +kernel
theorem dX5_ahead_55 : decode cX5_ahead 55 = .ok (.invokevirtual 165, 3) := by decide +kernel
theorem dX5_ahead_58 : decode cX5_ahead 58 = .ok (.goto 8, 3) := by decide +kernel
theorem dX5_ahead_61 : decode cX5_ahead 61 = .ok (.aload_n 0, 1) := by decide +kernel
theorem dX5_ahead_62 : decode cX5_ahead 62 = .ok (.iconst 0, 1) := by decide +kernel
theorem dX5_ahead_63 : decode cX5_ahead 63 = .ok (.invokevirtual 128, 3) := by decide +kernel
theorem dX5_ahead_66 : decode cX5_ahead 66 = .ok (.ireturn, 1) := by decide +kernel
theorem dX5_joy_0 : decode cX5_joy 0 = .ok (.iload_n 1, 1) := by decide +kernel
theorem dX5_joy_1 : decode cX5_joy 1 = .ok (.iconst 0, 1) := by decide +kernel
theorem dX5_joy_2 : decode cX5_joy 2 = .ok (.bipush 100, 2) := by decide +kernel
theorem dX5_joy_4 : decode cX5_joy 4 = .ok (.invokestatic 48, 3) := by decide +kernel
theorem dX5_joy_7 : decode cX5_joy 7 = .ok (.ifCond .eq 12, 3) := by decide +kernel
theorem dX5_joy_10 : decode cX5_joy 10 = .ok (.aload_n 0, 1) := by decide +kernel
theorem dX5_joy_11 : decode cX5_joy 11 = .ok (.iconst 3, 1) := by decide +kernel
theorem dX5_joy_12 : decode cX5_joy 12 = .ok (.iload_n 1, 1) := by decide +kernel
theorem dX5_joy_13 : decode cX5_joy 13 = .ok (.invokevirtual 165, 3) := by decide +kernel
theorem dX5_joy_16 : decode cX5_joy 16 = .ok (.goto 8, 3) := by decide +kernel
theorem dX5_joy_19 : decode cX5_joy 19 = .ok (.aload_n 0, 1) := by decide +kernel
theorem dX5_joy_20 : decode cX5_joy 20 = .ok (.iconst 0, 1) := by decide +kernel
theorem dX5_joy_21 : decode cX5_joy 21 = .ok (.invokevirtual 128, 3) := by decide +kernel
theorem dX5_joy_24 : decode cX5_joy 24 = .ok (.ireturn, 1) := by decide +kernel
theorem dX5_isSo_0 : decode cX5_isSo 0 = .ok (.iload_n 1, 1) := by decide +kernel
theorem dX5_isSo_1 : decode cX5_isSo 1 = .ok (.tableswitch 113 0 3 #[31, 55, 79, 100], 31) := by decide +kernel
theorem dX5_isSo_32 : decode cX5_isSo 32 = .ok (.aload_n 0, 1) := by decide +kernel
theorem dX5_isSo_33 : decode cX5_isSo 33 = .ok (.iload_n 2, 1) := by decide +kernel
theorem dX5_isSo_34 : decode cX5_isSo 34 = .ok (.iload_n 3, 1) := by decide +kernel
theorem dX5_isSo_35 : decode cX5_isSo 35 = .ok (.invokevirtual 95, 3) := by decide +kernel
theorem dX5_isSo_38 : decode cX5_isSo 38 = .ok (.ifCond .eq 16, 3) := by decide +kernel
theorem dX5_isSo_41 : decode cX5_isSo 41 = .ok (.aload_n 0, 1) := by decide +kernel
theorem dX5_isSo_42 : decode cX5_isSo 42 = .ok (.iload_n 3, 1) := by decide +kernel
theorem dX5_isSo_43 : decode cX5_isSo 43 = .ok (.iload_n 2, 1) := by decide +kernel
theorem dX5_isSo_44 : decode cX5_isSo 44 = .ok (.invokevirtual 95, 3) := by decide +kernel
theorem dX5_isSo_47 : decode cX5_isSo 47 = .ok (.ifCond .eq 7, 3) := by decide +kernel
theorem dX5_isSo_50 : decode cX5_isSo 50 = .ok (.iconst 1, 1) := by decide +kernel
theorem dX5_isSo_51 : decode cX5_isSo 51 = .ok (.goto 4, 3) := by decide +kernel
theorem dX5_isSo_54 : decode cX5_isSo 54 = .ok (.iconst 0, 1) := by decide +kernel
theorem dX5_isSo_55 : decode cX5_isSo 55 = .ok (.ireturn, 1) := by decide +kernel
theorem dX5_isSo_56 : decode cX5_isSo 56 = .ok (.aload_n 0, 1) := by decide +kernel
theorem dX5_isSo_57 : decode cX5_isSo 57 = .ok (.iload_n 2, 1) := by decide +kernel
theorem dX5_isSo_58 : decode cX5_isSo 58 = .ok (.iload_n 3, 1) := by decide +kernel
theorem dX5_isSo_59 : decode cX5_isSo 59 = .ok (.invokevirtual 85, 3) := by decide +kernel
theorem dX5_isSo_62 : decode cX5_isSo 62 = .ok (.ifCond .eq 16, 3) := by decide +kernel
theorem dX5_isSo_65 : decode cX5_isSo 65 = .ok (.aload_n 0, 1) := by decide +kernel
theorem dX5_isSo_66 : decode cX5_isSo 66 = .ok (.iload_n 3, 1) := by decide +kernel
theorem dX5_isSo_67 : decode cX5_isSo 67 = .ok (.iload_n 2, 1) := by decide +kernel
theorem dX5_isSo_68 : decode cX5_isSo 68 = .ok (.invokevirtual 85, 3) := by decide +kernel
theorem dX5_isSo_71 : decode cX5_isSo 71 = .ok (.ifCond .eq 7, 3) := by decide +kernel
theorem dX5_isSo_74 : decode cX5_isSo 74 = .ok (.iconst 1, 1) := by decide +kernel
theorem dX5_isSo_75 : decode cX5_isSo 75 = .ok (.goto 4, 3) := by decide +kernel
theorem dX5_isSo_78 : decode cX5_isSo 78 = .ok (.iconst 0, 1) := by decide +kernel
theorem dX5_isSo_79 : decode cX5_isSo 79 = .ok (.ireturn, 1) := by decide +kernel
theorem dX5_isSo_80 : decode cX5_isSo 80 = .ok (.aload_n 0, 1) := by decide +kernel
theorem dX5_isSo_81 : decode cX5_isSo 81 = .ok (.iload_n 2, 1) := by decide +kernel
theorem dX5_isSo_82 : decode cX5_isSo 82 = .ok (.iconst 1, 1) := by decide +kernel
theorem dX5_isSo_83 : decode cX5_isSo 83 = .ok (.invokevirtual 56, 3) := by decide +kernel
theorem dX5_isSo_86 : decode cX5_isSo 86 = .ok (.aload_n 0, 1) := by decide +kernel
theorem dX5_isSo_87 : decode cX5_isSo 87 = .ok (.iload_n 3, 1) := by decide +kernel
theorem dX5_isSo_88 : decode cX5_isSo 88 = .ok (.iconst 1, 1) := by decide +kernel
theorem dX5_isSo_89 : decode cX5_isSo 89 = .ok (.invokevirtual 56, 3) := by decide +kernel
theorem dX5_isSo_92 : decode cX5_isSo 92 = .ok (.if_icmp .ne 7, 3) := by decide +kernel
theorem dX5_isSo_95 : decode cX5_isSo 95 = .ok (.iconst 1, 1) := by decide +kernel
theorem dX5_isSo_96 : decode cX5_isSo 96 = .ok (.goto 4, 3) := by decide +kernel
theorem dX5_isSo_99 : decode cX5_isSo 99 = .ok (.iconst 0, 1) := by decide +kernel
theorem dX5_isSo_100 : decode cX5_isSo 100 = .ok (.ireturn, 1) := by decide +kernel
theorem dX5_isSo_101 : decode cX5_isSo 101 = .ok (.aload_n 0, 1) := by decide +kernel
theorem dX5_isSo_102 : decode cX5_isSo 102 = .ok (.invokevirtual 146, 3) := by decide +kernel
theorem dX5_isSo_105 : decode cX5_isSo 105 = .ok (.ifCond .eq 7, 3) := by decide +kernel
theorem dX5_isSo_108 : decode cX5_isSo 108 = .ok (.iconst 1, 1) := by decide +kernel
theorem dX5_isSo_109 : decode cX5_isSo 109 = .ok (.goto 4, 3) := by decide +kernel
theorem dX5_isSo_112 : decode cX5_isSo 112 = .ok (.iconst 0, 1) := by decide +kernel
theorem dX5_isSo_113 : decode cX5_isSo 113 = .ok (.ireturn, 1) := by decide +kernel
theorem dX5_isSo_114 : decode cX5_isSo 114 = .ok (.aload_n 0, 1) := by decide +kernel
theorem dX5_isSo_115 : decode cX5_isSo 115 = .ok (.iload_n 2, 1) := by decide +kernel
theorem dX5_isSo_116 : decode cX5_isSo 116 = .ok (.bipush 6, 2) := by decide +kernel
theorem dX5_isSo_118 : decode cX5_isSo 118 = .ok (.invokevirtual 56, 3) := by decide +kernel
theorem dX5_isSo_121 : decode cX5_isSo 121 = .ok (.iload_n 3, 1) := by decide +kernel
theorem dX5_isSo_122 : decode cX5_isSo 122 = .ok (.if_icmp .lt 7, 3) := by decide +kernel
theorem dX5_isSo_125 : decode cX5_isSo 125 = .ok (.iconst 1, 1) := by decide +kernel
theorem dX5_isSo_126 : decode cX5_isSo 126 = .ok (.goto 4, 3) := by decide +kernel
theorem dX5_isSo_129 : decode cX5_isSo 129 = .ok (.iconst 0, 1) := by decide +kernel
theorem dX5_isSo_130 : decode cX5_isSo 130 = .ok (.ireturn, 1) := by decide +kernel
theorem dX5_firstBy_0 : decode cX5_firstBy 0 = .ok (.aload_n 0, 1) := by decide +kernel
theorem dX5_firstBy_1 : decode cX5_firstBy 1 = .ok (.invokevirtual 159, 3) := by decide +kernel
theorem dX5_firstBy_4 : decode cX5_firstBy 4 = .ok (.iconst 0, 1) := by decide +kernel
theorem dX5_firstBy_5 : decode cX5_firstBy 5 = .ok (.istore 4, 2) := by decide +kernel
theorem dX5_firstBy_7 : decode cX5_firstBy 7 = .ok (.iload 4, 2) := by decide +kernel
theorem dX5_firstBy_9 : decode cX5_firstBy 9 = .ok (.sipush 200, 3) := by decide +kernel
theorem dX5_firstBy_12 : decode cX5_firstBy 12 = .ok (.if_icmp .gt 23, 3) := by decide +kernel
theorem dX5_firstBy_15 : decode cX5_firstBy 15 = .ok (.aload_n 0, 1) := by decide +kernel
theorem dX5_firstBy_16 : decode cX5_firstBy 16 = .ok (.iload_n 1, 1) := by decide +kernel
theorem dX5_firstBy_17 : decode cX5_firstBy 17 = .ok (.iload_n 2, 1) := by decide +kernel
theorem dX5_firstBy_18 : decode cX5_firstBy 18 = .ok (.iload_n 3, 1) := by decide +kernel
theorem dX5_firstBy_19 : decode cX5_firstBy 19 = .ok (.invokevirtual 168, 3) := by decide +kernel
theorem dX5_firstBy_22 : decode cX5_firstBy 22 = .ok (.ifCond .ne 13, 3) := by decide +kernel
theorem dX5_firstBy_25 : decode cX5_firstBy 25 = .ok (.aload_n 0, 1) := by decide +kernel
theorem dX5_firstBy_26 : decode cX5_firstBy 26 = .ok (.invokevirtual 122, 3) := by decide +kernel
theorem dX5_firstBy_29 : decode cX5_firstBy 29 = .ok (.iinc 4 1, 3) := by decide +kernel
theorem dX5_firstBy_32 : decode cX5_firstBy 32 = .ok (.goto (-25), 3) := by decide +kernel
theorem dX5_firstBy_35 : decode cX5_firstBy 35 = .ok (.aload_n 0, 1) := by decide +kernel
theorem dX5_firstBy_36 : decode cX5_firstBy 36 = .ok (.invokevirtual 162, 3) := by decide +kernel
theorem dX5_firstBy_39 : decode cX5_firstBy 39 = .ok (.iload 4, 2) := by decide +kernel
theorem dX5_firstBy_41 : decode cX5_firstBy 41 = .ok (.sipush 200, 3) := by decide +kernel
theorem dX5_firstBy_44 : decode cX5_firstBy 44 = .ok (.if_icmp .le 11, 3) := by decide +kernel
theorem dX5_firstBy_47 : decode cX5_firstBy 47 = .ok (.aload_n 0, 1) := by decide +kernel
theorem dX5_firstBy_48 : decode cX5_firstBy 48 = .ok (.iconst 3, 1) := by decide +kernel
theorem dX5_firstBy_49 : decode cX5_firstBy 49 = .ok (.invokevirtual 128, 3) := by decide +kernel
theorem dX5_firstBy_52 : decode cX5_firstBy 52 = .ok (.goto 5, 3) := by decide +kernel
theorem dX5_firstBy_55 : decode cX5_firstBy 55 = .ok (.iload 4, 2) := by decide +kernel
theorem dX5_firstBy_57 : decode cX5_firstBy 57 = .ok (.ireturn, 1) := by decide +kernel
theorem dX5_when_0 : decode cX5_when 0 = .ok (.aload_n 0, 1) := by decide +kernel
theorem dX5_when_1 : decode cX5_when 1 = .ok (.iload_n 1, 1) := by decide +kernel
theorem dX5_when_2 : decode cX5_when 2 = .ok (.iload_n 2, 1) := by decide +kernel
theorem dX5_when_3 : decode cX5_when 3 = .ok (.invokevirtual 140, 3) := by decide +kernel
theorem dX5_when_6 : decode cX5_when 6 = .ok (.ifCond .eq 22, 3) := by decide +kernel
theorem dX5_when_9 : decode cX5_when 9 = .ok (.iload_n 3, 1) := by decide +kernel
theorem dX5_when_10 : decode cX5_when 10 = .ok (.iconst 0, 1) := by decide +kernel
theorem dX5_when_11 : decode cX5_when 11 = .ok (.iconst 2, 1) := by decide +kernel
theorem dX5_when_12 : decode cX5_when 12 = .ok (.invokestatic 48, 3) := by decide +kernel
theorem dX5_when_15 : decode cX5_when 15 = .ok (.ifCond .eq 13, 3) := by decide +kernel
theorem dX5_when_18 : decode cX5_when 18 = .ok (.aload_n 0, 1) := by decide +kernel
theorem dX5_when_19 : decode cX5_when 19 = .ok (.iload_n 3, 1) := by decide +kernel
theorem dX5_when_20 : decode cX5_when 20 = .ok (.iload_n 1, 1) := by decide +kernel
theorem dX5_when_21 : decode cX5_when 21 = .ok (.iload_n 2, 1) := by decide +kernel
theorem dX5_when_22 : decode cX5_when 22 = .ok (.invokevirtual 171, 3) := by decide +kernel
theorem dX5_when_25 : decode cX5_when 25 = .ok (.goto 8, 3) := by decide +kernel
theorem dX5_when_28 : decode cX5_when 28 = .ok (.aload_n 0, 1) := by decide +kernel
theorem dX5_when_29 : decode cX5_when 29 = .ok (.iconst 0, 1) := by decide +kernel
theorem dX5_when_30 : decode cX5_when 30 = .ok (.invokevirtual 128, 3) := by decide +kernel
theorem dX5_when_33 : decode cX5_when 33 = .ok (.ireturn, 1) := by decide +kernel
theorem dX5_known_0 : decode cX5_known 0 = .ok (.aload_n 0, 1) := by decide +kernel
theorem dX5_known_1 : decode cX5_known 1 = .ok (.iconst 3, 1) := by decide +kernel
theorem dX5_known_2 : decode cX5_known 2 = .ok (.iconst 0, 1) := by decide +kernel
theorem dX5_known_3 : decode cX5_known 3 = .ok (.iconst 0, 1) := by decide +kernel
theorem dX5_known_4 : decode cX5_known 4 = .ok (.invokevirtual 171, 3) := by decide +kernel
theorem dX5_known_7 : decode cX5_known 7 = .ok (.ireturn, 1) := by decide +kernel
theorem dX5_passed_0 : decode cX5_passed 0 = .ok (.aload_n 0, 1) := by decide +kernel
theorem dX5_passed_1 : decode cX5_passed 1 = .ok (.iload_n 1, 1) := by decide +kernel
theorem dX5_passed_2 : decode cX5_passed 2 = .ok (.invokevirtual 52, 3) := by decide +kernel
theorem dX5_passed_5 : decode cX5_passed 5 = .ok (.ifCond .eq 24, 3) := by decide +kernel
theorem dX5_passed_8 : decode cX5_passed 8 = .ok (.iload_n 2, 1) := by decide +kernel
theorem dX5_passed_9 : decode cX5_passed 9 = .ok (.iconst 0, 1) := by decide +kernel
theorem dX5_passed_10 : decode cX5_passed 10 = .ok (.sipush 9999, 3) := by decide +kernel
theorem dX5_passed_13 : decode cX5_passed 13 = .ok (.invokestatic 48, 3) := by decide +kernel
theorem dX5_passed_16 : decode cX5_passed 16 = .ok (.ifCond .eq 13, 3) := by decide +kernel
theorem dX5_passed_19 : decode cX5_passed 19 = .ok (.aload_n 0, 1) := by decide +kernel
theorem dX5_passed_20 : decode cX5_passed 20 = .ok (.iconst 4, 1) := by decide +kernel
theorem dX5_passed_21 : decode cX5_passed 21 = .ok (.iload_n 1, 1) := by decide +kernel
theorem dX5_passed_22 : decode cX5_passed 22 = .ok (.iload_n 2, 1) := by decide +kernel
theorem dX5_passed_23 : decode cX5_passed 23 = .ok (.invokevirtual 171, 3) := by decide +kernel
theorem dX5_passed_26 : decode cX5_passed 26 = .ok (.goto 8, 3) := by decide +kernel
theorem dX5_passed_29 : decode cX5_passed 29 = .ok (.aload_n 0, 1) := by decide +kernel
theorem dX5_passed_30 : decode cX5_passed 30 = .ok (.iconst 0, 1) := by decide +kernel
theorem dX5_passed_31 : decode cX5_passed 31 = .ok (.invokevirtual 128, 3) := by decide +kernel
theorem dX5_passed_34 : decode cX5_passed 34 = .ok (.ireturn, 1) := by decide +kernel
theorem dX5_gladdestBy_0 : decode cX5_gladdestBy 0 = .ok (.iconst 0, 1) := by decide +kernel
theorem dX5_gladdestBy_1 : decode cX5_gladdestBy 1 = .ok (.istore 5, 2) := by decide +kernel
theorem dX5_gladdestBy_3 : decode cX5_gladdestBy 3 = .ok (.iconst (-1), 1) := by decide +kernel
theorem dX5_gladdestBy_4 : decode cX5_gladdestBy 4 = .ok (.istore 6, 2) := by decide +kernel
theorem dX5_gladdestBy_6 : decode cX5_gladdestBy 6 = .ok (.iconst 0, 1) := by decide +kernel
theorem dX5_gladdestBy_7 : decode cX5_gladdestBy 7 = .ok (.istore 7, 2) := by decide +kernel
theorem dX5_gladdestBy_9 : decode cX5_gladdestBy 9 = .ok (.iload 7, 2) := by decide +kernel
theorem dX5_gladdestBy_11 : decode cX5_gladdestBy 11 = .ok (.iload_n 3, 1) := by decide +kernel
theorem dX5_gladdestBy_12 : decode cX5_gladdestBy 12 = .ok (.if_icmp .ge 71, 3) := by decide +kernel
theorem dX5_gladdestBy_15 : decode cX5_gladdestBy 15 = .ok (.aload_n 0, 1) := by decide +kernel
theorem dX5_gladdestBy_16 : decode cX5_gladdestBy 16 = .ok (.invokevirtual 159, 3) := by decide +kernel
theorem dX5_gladdestBy_19 : decode cX5_gladdestBy 19 = .ok (.aload_n 0, 1) := by decide +kernel
theorem dX5_gladdestBy_20 : decode cX5_gladdestBy 20 = .ok (.iload_n 1, 1) := by decide +kernel
theorem dX5_gladdestBy_21 : decode cX5_gladdestBy 21 = .ok (.iload_n 2, 1) := by decide +kernel
theorem dX5_gladdestBy_22 : decode cX5_gladdestBy 22 = .ok (.iload 7, 2) := by decide +kernel
theorem dX5_gladdestBy_24 : decode cX5_gladdestBy 24 = .ok (.invokevirtual 81, 3) := by decide +kernel
theorem dX5_gladdestBy_27 : decode cX5_gladdestBy 27 = .ok (.aload_n 0, 1) := by decide +kernel
theorem dX5_gladdestBy_28 : decode cX5_gladdestBy 28 = .ok (.iload 4, 2) := by decide +kernel
theorem dX5_gladdestBy_30 : decode cX5_gladdestBy 30 = .ok (.invokevirtual 143, 3) := by decide +kernel
theorem dX5_gladdestBy_33 : decode cX5_gladdestBy 33 = .ok (.aload_n 0, 1) := by decide +kernel
theorem dX5_gladdestBy_34 : decode cX5_gladdestBy 34 = .ok (.getfield 9, 3) := by decide +kernel
theorem dX5_gladdestBy_37 : decode cX5_gladdestBy 37 = .ok (.iconst 3, 1) := by decide +kernel
theorem dX5_gladdestBy_38 : decode cX5_gladdestBy 38 = .ok (.iaload, 1) := by decide +kernel
theorem dX5_gladdestBy_39 : decode cX5_gladdestBy 39 = .ok (.istore 8, 2) := by decide +kernel
theorem dX5_gladdestBy_41 : decode cX5_gladdestBy 41 = .ok (.aload_n 0, 1) := by decide +kernel
theorem dX5_gladdestBy_42 : decode cX5_gladdestBy 42 = .ok (.invokevirtual 162, 3) := by decide +kernel
theorem dX5_gladdestBy_45 : decode cX5_gladdestBy 45 = .ok (.iload 8, 2) := by decide +kernel
theorem dX5_gladdestBy_47 : decode cX5_gladdestBy 47 = .ok (.iload 6, 2) := by decide +kernel
theorem dX5_gladdestBy_49 : decode cX5_gladdestBy 49 = .ok (.if_icmp .le 8, 3) := by decide +kernel
theorem dX5_gladdestBy_52 : decode cX5_gladdestBy 52 = .ok (.iload 7, 2) := by decide +kernel
theorem dX5_gladdestBy_54 : decode cX5_gladdestBy 54 = .ok (.goto 5, 3) := by decide +kernel
theorem dX5_gladdestBy_57 : decode cX5_gladdestBy 57 = .ok (.iload 5, 2) := by decide +kernel
theorem dX5_gladdestBy_59 : decode cX5_gladdestBy 59 = .ok (.istore 5, 2) := by decide +kernel
theorem dX5_gladdestBy_61 : decode cX5_gladdestBy 61 = .ok (.iload 8, 2) := by decide +kernel
theorem dX5_gladdestBy_63 : decode cX5_gladdestBy 63 = .ok (.iload 6, 2) := by decide +kernel
theorem dX5_gladdestBy_65 : decode cX5_gladdestBy 65 = .ok (.if_icmp .le 8, 3) := by decide +kernel
theorem dX5_gladdestBy_68 : decode cX5_gladdestBy 68 = .ok (.iload 8, 2) := by decide +kernel
theorem dX5_gladdestBy_70 : decode cX5_gladdestBy 70 = .ok (.goto 5, 3) := by decide +kernel
theorem dX5_gladdestBy_73 : decode cX5_gladdestBy 73 = .ok (.iload 6, 2) := by decide +kernel
theorem dX5_gladdestBy_75 : decode cX5_gladdestBy 75 = .ok (.istore 6, 2) := by decide +kernel
theorem dX5_gladdestBy_77 : decode cX5_gladdestBy 77 = .ok (.iinc 7 1, 3) := by decide +kernel
theorem dX5_gladdestBy_80 : decode cX5_gladdestBy 80 = .ok (.goto (-71), 3) := by decide +kernel
theorem dX5_gladdestBy_83 : decode cX5_gladdestBy 83 = .ok (.iload 5, 2) := by decide +kernel
theorem dX5_gladdestBy_85 : decode cX5_gladdestBy 85 = .ok (.ireturn, 1) := by decide +kernel
theorem dX5_isAsked_0 : decode cX5_isAsked 0 = .ok (.aload_n 0, 1) := by decide +kernel
theorem dX5_isAsked_1 : decode cX5_isAsked 1 = .ok (.iload_n 1, 1) := by decide +kernel
theorem dX5_isAsked_2 : decode cX5_isAsked 2 = .ok (.invokevirtual 52, 3) := by decide +kernel
theorem dX5_isAsked_5 : decode cX5_isAsked 5 = .ok (.ifCond .eq 17, 3) := by decide +kernel
theorem dX5_isAsked_8 : decode cX5_isAsked 8 = .ok (.iload_n 2, 1) := by decide +kernel
theorem dX5_isAsked_9 : decode cX5_isAsked 9 = .ok (.iconst 0, 1) := by decide +kernel
theorem dX5_isAsked_10 : decode cX5_isAsked 10 = .ok (.bipush 60, 2) := by decide +kernel
theorem dX5_isAsked_12 : decode cX5_isAsked 12 = .ok (.invokestatic 48, 3) := by decide +kernel
theorem dX5_isAsked_15 : decode cX5_isAsked 15 = .ok (.ifCond .eq 7, 3) := by decide +kernel
theorem dX5_isAsked_18 : decode cX5_isAsked 18 = .ok (.iconst 1, 1) := by decide +kernel
theorem dX5_isAsked_19 : decode cX5_isAsked 19 = .ok (.goto 4, 3) := by decide +kernel
theorem dX5_isAsked_22 : decode cX5_isAsked 22 = .ok (.iconst 0, 1) := by decide +kernel
theorem dX5_isAsked_23 : decode cX5_isAsked 23 = .ok (.ireturn, 1) := by decide +kernel
theorem dX5_standFor_0 : decode cX5_standFor 0 = .ok (.aload_n 0, 1) := by decide +kernel
theorem dX5_standFor_1 : decode cX5_standFor 1 = .ok (.iload_n 1, 1) := by decide +kernel
theorem dX5_standFor_2 : decode cX5_standFor 2 = .ok (.iload_n 2, 1) := by decide +kernel
theorem dX5_standFor_3 : decode cX5_standFor 3 = .ok (.invokevirtual 175, 3) := by decide +kernel
theorem dX5_standFor_6 : decode cX5_standFor 6 = .ok (.ifCond .eq 15, 3) := by decide +kernel
theorem dX5_standFor_9 : decode cX5_standFor 9 = .ok (.aload_n 0, 1) := by decide +kernel
theorem dX5_standFor_10 : decode cX5_standFor 10 = .ok (.iload_n 1, 1) := by decide +kernel
theorem dX5_standFor_11 : decode cX5_standFor 11 = .ok (.iconst 1, 1) := by decide +kernel
theorem dX5_standFor_12 : decode cX5_standFor 12 = .ok (.bipush 16, 2) := by decide +kernel
theorem dX5_standFor_14 : decode cX5_standFor 14 = .ok (.iload_n 2, 1) := by decide +kernel
theorem dX5_standFor_15 : decode cX5_standFor 15 = .ok (.invokevirtual 178, 3) := by decide +kernel
theorem dX5_standFor_18 : decode cX5_standFor 18 = .ok (.goto 8, 3) := by decide +kernel
theorem dX5_standFor_21 : decode cX5_standFor 21 = .ok (.aload_n 0, 1) := by decide +kernel
theorem dX5_standFor_22 : decode cX5_standFor 22 = .ok (.iconst 0, 1) := by decide +kernel
theorem dX5_standFor_23 : decode cX5_standFor 23 = .ok (.invokevirtual 128, 3) := by decide +kernel
theorem dX5_standFor_26 : decode cX5_standFor 26 = .ok (.ireturn, 1) := by decide +kernel
theorem dX5_guiseFor_0 : decode cX5_guiseFor 0 = .ok (.aload_n 0, 1) := by decide +kernel
theorem dX5_guiseFor_1 : decode cX5_guiseFor 1 = .ok (.iload_n 1, 1) := by decide +kernel
theorem dX5_guiseFor_2 : decode cX5_guiseFor 2 = .ok (.iload_n 2, 1) := by decide +kernel
theorem dX5_guiseFor_3 : decode cX5_guiseFor 3 = .ok (.invokevirtual 175, 3) := by decide +kernel
theorem dX5_guiseFor_6 : decode cX5_guiseFor 6 = .ok (.ifCond .eq 15, 3) := by decide +kernel
theorem dX5_guiseFor_9 : decode cX5_guiseFor 9 = .ok (.aload_n 0, 1) := by decide +kernel
theorem dX5_guiseFor_10 : decode cX5_guiseFor 10 = .ok (.iload_n 1, 1) := by decide +kernel
theorem dX5_guiseFor_11 : decode cX5_guiseFor 11 = .ok (.iconst 2, 1) := by decide +kernel
theorem dX5_guiseFor_12 : decode cX5_guiseFor 12 = .ok (.bipush 12, 2) := by decide +kernel
theorem dX5_guiseFor_14 : decode cX5_guiseFor 14 = .ok (.iload_n 2, 1) := by decide +kernel
theorem dX5_guiseFor_15 : decode cX5_guiseFor 15 = .ok (.invokevirtual 178, 3) := by decide +kernel
theorem dX5_guiseFor_18 : decode cX5_guiseFor 18 = .ok (.goto 8, 3) := by decide +kernel
theorem dX5_guiseFor_21 : decode cX5_guiseFor 21 = .ok (.aload_n 0, 1) := by decide +kernel
theorem dX5_guiseFor_22 : decode cX5_guiseFor 22 = .ok (.iconst 0, 1) := by decide +kernel
theorem dX5_guiseFor_23 : decode cX5_guiseFor 23 = .ok (.invokevirtual 128, 3) := by decide +kernel
theorem dX5_guiseFor_26 : decode cX5_guiseFor 26 = .ok (.ireturn, 1) := by decide +kernel
theorem dX5_kindFor_0 : decode cX5_kindFor 0 = .ok (.aload_n 0, 1) := by decide +kernel
theorem dX5_kindFor_1 : decode cX5_kindFor 1 = .ok (.iload_n 1, 1) := by decide +kernel
theorem dX5_kindFor_2 : decode cX5_kindFor 2 = .ok (.iload_n 2, 1) := by decide +kernel
theorem dX5_kindFor_3 : decode cX5_kindFor 3 = .ok (.invokevirtual 175, 3) := by decide +kernel
theorem dX5_kindFor_6 : decode cX5_kindFor 6 = .ok (.ifCond .eq 15, 3) := by decide +kernel
theorem dX5_kindFor_9 : decode cX5_kindFor 9 = .ok (.aload_n 0, 1) := by decide +kernel
theorem dX5_kindFor_10 : decode cX5_kindFor 10 = .ok (.iload_n 1, 1) := by decide +kernel
theorem dX5_kindFor_11 : decode cX5_kindFor 11 = .ok (.iconst 0, 1) := by decide +kernel
theorem dX5_kindFor_12 : decode cX5_kindFor 12 = .ok (.bipush 7, 2) := by decide +kernel
theorem dX5_kindFor_14 : decode cX5_kindFor 14 = .ok (.iload_n 2, 1) := by decide +kernel
theorem dX5_kindFor_15 : decode cX5_kindFor 15 = .ok (.invokevirtual 178, 3) := by decide +kernel
theorem dX5_kindFor_18 : decode cX5_kindFor 18 = .ok (.goto 8, 3) := by decide +kernel
theorem dX5_kindFor_21 : decode cX5_kindFor 21 = .ok (.aload_n 0, 1) := by decide +kernel
theorem dX5_kindFor_22 : decode cX5_kindFor 22 = .ok (.iconst 0, 1) := by decide +kernel
theorem dX5_kindFor_23 : decode cX5_kindFor 23 = .ok (.invokevirtual 128, 3) := by decide +kernel
theorem dX5_kindFor_26 : decode cX5_kindFor 26 = .ok (.ireturn, 1) := by decide +kernel
theorem dX5_joyWith_0 : decode cX5_joyWith 0 = .ok (.aload_n 0, 1) := by decide +kernel
theorem dX5_joyWith_1 : decode cX5_joyWith 1 = .ok (.invokevirtual 159, 3) := by decide +kernel
theorem dX5_joyWith_4 : decode cX5_joyWith 4 = .ok (.iconst 0, 1) := by decide +kernel
theorem dX5_joyWith_5 : decode cX5_joyWith 5 = .ok (.istore_n 3, 1) := by decide +kernel
theorem dX5_joyWith_6 : decode cX5_joyWith 6 = .ok (.iload_n 3, 1) := by decide +kernel
theorem dX5_joyWith_7 : decode cX5_joyWith 7 = .ok (.aload_n 0, 1) := by decide +kernel
theorem dX5_joyWith_8 : decode cX5_joyWith 8 = .ok (.getfield 9, 3) := by decide +kernel
theorem dX5_joyWith_11 : decode cX5_joyWith 11 = .ok (.iconst 1, 1) := by decide +kernel
theorem dX5_joyWith_12 : decode cX5_joyWith 12 = .ok (.iaload, 1) := by decide +kernel
theorem dX5_joyWith_13 : decode cX5_joyWith 13 = .ok (.if_icmp .ge 27, 3) := by decide +kernel
theorem dX5_joyWith_16 : decode cX5_joyWith 16 = .ok (.aload_n 0, 1) := by decide +kernel
theorem dX5_joyWith_17 : decode cX5_joyWith 17 = .ok (.iload_n 3, 1) := by decide +kernel
theorem dX5_joyWith_18 : decode cX5_joyWith 18 = .ok (.iconst 5, 1) := by decide +kernel
theorem dX5_joyWith_19 : decode cX5_joyWith 19 = .ok (.aload_n 0, 1) := by decide +kernel
theorem dX5_joyWith_20 : decode cX5_joyWith 20 = .ok (.iload_n 3, 1) := by decide +kernel
theorem dX5_joyWith_21 : decode cX5_joyWith 21 = .ok (.iconst 5, 1) := by decide +kernel
theorem dX5_joyWith_22 : decode cX5_joyWith 22 = .ok (.invokevirtual 56, 3) := by decide +kernel
theorem dX5_joyWith_25 : decode cX5_joyWith 25 = .ok (.iload_n 1, 1) := by decide +kernel
theorem dX5_joyWith_26 : decode cX5_joyWith 26 = .ok (.iload_n 3, 1) := by decide +kernel
theorem dX5_joyWith_27 : decode cX5_joyWith 27 = .ok (.ishr, 1) := by decide +kernel
theorem dX5_joyWith_28 : decode cX5_joyWith 28 = .ok (.iconst 1, 1) := by decide +kernel
theorem dX5_joyWith_29 : decode cX5_joyWith 29 = .ok (.iand, 1) := by decide +kernel
theorem dX5_joyWith_30 : decode cX5_joyWith 30 = .ok (.ior, 1) := by decide +kernel
theorem dX5_joyWith_31 : decode cX5_joyWith 31 = .ok (.invokevirtual 81, 3) := by decide +kernel
theorem dX5_joyWith_34 : decode cX5_joyWith 34 = .ok (.iinc 3 1, 3) := by decide +kernel
theorem dX5_joyWith_37 : decode cX5_joyWith 37 = .ok (.goto (-31), 3) := by decide +kernel
theorem dX5_joyWith_40 : decode cX5_joyWith 40 = .ok (.aload_n 0, 1) := by decide +kernel
theorem dX5_joyWith_41 : decode cX5_joyWith 41 = .ok (.iload_n 2, 1) := by decide +kernel
theorem dX5_joyWith_42 : decode cX5_joyWith 42 = .ok (.invokevirtual 143, 3) := by decide +kernel
theorem dX5_joyWith_45 : decode cX5_joyWith 45 = .ok (.aload_n 0, 1) := by decide +kernel
theorem dX5_joyWith_46 : decode cX5_joyWith 46 = .ok (.getfield 9, 3) := by decide +kernel
theorem dX5_joyWith_49 : decode cX5_joyWith 49 = .ok (.iconst 3, 1) := by decide +kernel
theorem dX5_joyWith_50 : decode cX5_joyWith 50 = .ok (.iaload, 1) := by decide +kernel
theorem dX5_joyWith_51 : decode cX5_joyWith 51 = .ok (.istore_n 3, 1) := by decide +kernel
theorem dX5_joyWith_52 : decode cX5_joyWith 52 = .ok (.aload_n 0, 1) := by decide +kernel
theorem dX5_joyWith_53 : decode cX5_joyWith 53 = .ok (.invokevirtual 162, 3) := by decide +kernel
theorem dX5_joyWith_56 : decode cX5_joyWith 56 = .ok (.iload_n 3, 1) := by decide +kernel
theorem dX5_joyWith_57 : decode cX5_joyWith 57 = .ok (.ireturn, 1) := by decide +kernel
theorem dX5_dark_0 : decode cX5_dark 0 = .ok (.iload_n 1, 1) := by decide +kernel
theorem dX5_dark_1 : decode cX5_dark 1 = .ok (.iconst 0, 1) := by decide +kernel
theorem dX5_dark_2 : decode cX5_dark 2 = .ok (.bipush 24, 2) := by decide +kernel
theorem dX5_dark_4 : decode cX5_dark 4 = .ok (.invokestatic 48, 3) := by decide +kernel
theorem dX5_dark_7 : decode cX5_dark 7 = .ok (.ifCond .ne 9, 3) := by decide +kernel
theorem dX5_dark_10 : decode cX5_dark 10 = .ok (.aload_n 0, 1) := by decide +kernel
theorem dX5_dark_11 : decode cX5_dark 11 = .ok (.iconst 0, 1) := by decide +kernel
theorem dX5_dark_12 : decode cX5_dark 12 = .ok (.invokevirtual 128, 3) := by decide +kernel
theorem dX5_dark_15 : decode cX5_dark 15 = .ok (.ireturn, 1) := by decide +kernel
theorem dX5_dark_16 : decode cX5_dark 16 = .ok (.iconst (-1), 1) := by decide +kernel
theorem dX5_dark_17 : decode cX5_dark 17 = .ok (.istore_n 2, 1) := by decide +kernel
theorem dX5_dark_18 : decode cX5_dark 18 = .ok (.iconst 0, 1) := by decide +kernel
theorem dX5_dark_19 : decode cX5_dark 19 = .ok (.istore_n 3, 1) := by decide +kernel
theorem dX5_dark_20 : decode cX5_dark 20 = .ok (.iload_n 3, 1) := by decide +kernel
theorem dX5_dark_21 : decode cX5_dark 21 = .ok (.iconst 1, 1) := by decide +kernel
theorem dX5_dark_22 : decode cX5_dark 22 = .ok (.aload_n 0, 1) := by decide +kernel
theorem dX5_dark_23 : decode cX5_dark 23 = .ok (.getfield 9, 3) := by decide +kernel
theorem dX5_dark_26 : decode cX5_dark 26 = .ok (.iconst 1, 1) := by decide +kernel
theorem dX5_dark_27 : decode cX5_dark 27 = .ok (.iaload, 1) := by decide +kernel
theorem dX5_dark_28 : decode cX5_dark 28 = .ok (.ishl, 1) := by decide +kernel
theorem dX5_dark_29 : decode cX5_dark 29 = .ok (.if_icmp .ge 57, 3) := by decide +kernel
theorem dX5_dark_32 : decode cX5_dark 32 = .ok (.iload_n 2, 1) := by decide +kernel
theorem dX5_dark_33 : decode cX5_dark 33 = .ok (.ifCond .lt 14, 3) := by decide +kernel
theorem dX5_dark_36 : decode cX5_dark 36 = .ok (.iload_n 3, 1) := by decide +kernel
theorem dX5_dark_37 : decode cX5_dark 37 = .ok (.invokestatic 64, 3) := by decide +kernel
theorem dX5_dark_40 : decode cX5_dark 40 = .ok (.iload_n 2, 1) := by decide +kernel
theorem dX5_dark_41 : decode cX5_dark 41 = .ok (.invokestatic 64, 3) := by decide +kernel
theorem dX5_dark_44 : decode cX5_dark 44 = .ok (.if_icmp .ge 7, 3) := by decide +kernel
theorem dX5_dark_47 : decode cX5_dark 47 = .ok (.iconst 1, 1) := by decide +kernel
theorem dX5_dark_48 : decode cX5_dark 48 = .ok (.goto 4, 3) := by decide +kernel
theorem dX5_dark_51 : decode cX5_dark 51 = .ok (.iconst 0, 1) := by decide +kernel
theorem dX5_dark_52 : decode cX5_dark 52 = .ok (.istore 4, 2) := by decide +kernel
theorem dX5_dark_54 : decode cX5_dark 54 = .ok (.iload 4, 2) := by decide +kernel
theorem dX5_dark_56 : decode cX5_dark 56 = .ok (.ifCond .eq 22, 3) := by decide +kernel
theorem dX5_dark_59 : decode cX5_dark 59 = .ok (.aload_n 0, 1) := by decide +kernel
theorem dX5_dark_60 : decode cX5_dark 60 = .ok (.iload_n 3, 1) := by decide +kernel
theorem dX5_dark_61 : decode cX5_dark 61 = .ok (.iload_n 1, 1) := by decide +kernel
theorem dX5_dark_62 : decode cX5_dark 62 = .ok (.invokevirtual 182, 3) := by decide +kernel
theorem dX5_dark_65 : decode cX5_dark 65 = .ok (.aload_n 0, 1) := by decide +kernel
theorem dX5_dark_66 : decode cX5_dark 66 = .ok (.getfield 9, 3) := by decide +kernel
theorem dX5_dark_69 : decode cX5_dark 69 = .ok (.iconst 3, 1) := by decide +kernel
theorem dX5_dark_70 : decode cX5_dark 70 = .ok (.iaload, 1) := by decide +kernel
theorem dX5_dark_71 : decode cX5_dark 71 = .ok (.if_icmp .ne 7, 3) := by decide +kernel
theorem dX5_dark_74 : decode cX5_dark 74 = .ok (.iload_n 3, 1) := by decide +kernel
theorem dX5_dark_75 : decode cX5_dark 75 = .ok (.goto 4, 3) := by decide +kernel
theorem dX5_dark_78 : decode cX5_dark 78 = .ok (.iload_n 2, 1) := by decide +kernel
theorem dX5_dark_79 : decode cX5_dark 79 = .ok (.istore_n 2, 1) := by decide +kernel
theorem dX5_dark_80 : decode cX5_dark 80 = .ok (.iinc 3 1, 3) := by decide +kernel
theorem dX5_dark_83 : decode cX5_dark 83 = .ok (.goto (-63), 3) := by decide +kernel
theorem dX5_dark_86 : decode cX5_dark 86 = .ok (.iload_n 2, 1) := by decide +kernel
theorem dX5_dark_87 : decode cX5_dark 87 = .ok (.ifCond .ge 11, 3) := by decide +kernel
theorem dX5_dark_90 : decode cX5_dark 90 = .ok (.aload_n 0, 1) := by decide +kernel
theorem dX5_dark_91 : decode cX5_dark 91 = .ok (.iconst 3, 1) := by decide +kernel
theorem dX5_dark_92 : decode cX5_dark 92 = .ok (.invokevirtual 128, 3) := by decide +kernel
theorem dX5_dark_95 : decode cX5_dark 95 = .ok (.goto 4, 3) := by decide +kernel
theorem dX5_dark_98 : decode cX5_dark 98 = .ok (.iload_n 2, 1) := by decide +kernel
theorem dX5_dark_99 : decode cX5_dark 99 = .ok (.ireturn, 1) := by decide +kernel
theorem dX5_isCircle_0 : decode cX5_isCircle 0 = .ok (.iconst 0, 1) := by decide +kernel
theorem dX5_isCircle_1 : decode cX5_isCircle 1 = .ok (.istore_n 3, 1) := by decide +kernel
theorem dX5_isCircle_2 : decode cX5_isCircle 2 = .ok (.iload_n 3, 1) := by decide +kernel
theorem dX5_isCircle_3 : decode cX5_isCircle 3 = .ok (.aload_n 0, 1) := by decide +kernel
theorem dX5_isCircle_4 : decode cX5_isCircle 4 = .ok (.getfield 9, 3) := by decide +kernel
theorem dX5_isCircle_7 : decode cX5_isCircle 7 = .ok (.iconst 1, 1) := by decide +kernel
theorem dX5_isCircle_8 : decode cX5_isCircle 8 = .ok (.iaload, 1) := by decide +kernel
theorem dX5_isCircle_9 : decode cX5_isCircle 9 = .ok (.if_icmp .ge 39, 3) := by decide +kernel
theorem dX5_isCircle_12 : decode cX5_isCircle 12 = .ok (.iload_n 1, 1) := by decide +kernel
theorem dX5_isCircle_13 : decode cX5_isCircle 13 = .ok (.iload_n 3, 1) := by decide +kernel
theorem dX5_isCircle_14 : decode cX5_isCircle 14 = .ok (.ishr, 1) := by decide +kernel
theorem dX5_isCircle_15 : decode cX5_isCircle 15 = .ok (.iconst 1, 1) := by decide +kernel
theorem dX5_isCircle_16 : decode cX5_isCircle 16 = .ok (.iand, 1) := by decide +kernel
theorem dX5_isCircle_17 : decode cX5_isCircle 17 = .ok (.iconst 1, 1) := by decide +kernel
theorem dX5_isCircle_18 : decode cX5_isCircle 18 = .ok (.if_icmp .ne 24, 3) := by decide +kernel
theorem dX5_isCircle_21 : decode cX5_isCircle 21 = .ok (.iload_n 1, 1) := by decide +kernel
theorem dX5_isCircle_22 : decode cX5_isCircle 22 = .ok (.iconst 1, 1) := by decide +kernel
theorem dX5_isCircle_23 : decode cX5_isCircle 23 = .ok (.iload_n 3, 1) := by decide +kernel
theorem dX5_isCircle_24 : decode cX5_isCircle 24 = .ok (.ishl, 1) := by decide +kernel
theorem dX5_isCircle_25 : decode cX5_isCircle 25 = .ok (.iconst (-1), 1) := by decide +kernel
theorem dX5_isCircle_26 : decode cX5_isCircle 26 = .ok (.ixor, 1) := by decide +kernel
theorem dX5_isCircle_27 : decode cX5_isCircle 27 = .ok (.iand, 1) := by decide +kernel
theorem dX5_isCircle_28 : decode cX5_isCircle 28 = .ok (.aload_n 0, 1) := by decide +kernel
theorem dX5_isCircle_29 : decode cX5_isCircle 29 = .ok (.iload_n 3, 1) := by decide +kernel
theorem dX5_isCircle_30 : decode cX5_isCircle 30 = .ok (.iload_n 2, 1) := by decide +kernel
theorem dX5_isCircle_31 : decode cX5_isCircle 31 = .ok (.invokevirtual 56, 3) := by decide +kernel
theorem dX5_isCircle_34 : decode cX5_isCircle 34 = .ok (.iconst (-1), 1) := by decide +kernel
theorem dX5_isCircle_35 : decode cX5_isCircle 35 = .ok (.ixor, 1) := by decide +kernel
theorem dX5_isCircle_36 : decode cX5_isCircle 36 = .ok (.iand, 1) := by decide +kernel
theorem dX5_isCircle_37 : decode cX5_isCircle 37 = .ok (.ifCond .eq 5, 3) := by decide +kernel
theorem dX5_isCircle_40 : decode cX5_isCircle 40 = .ok (.iconst 0, 1) := by decide +kernel
theorem dX5_isCircle_41 : decode cX5_isCircle 41 = .ok (.ireturn, 1) := by decide +kernel
theorem dX5_isCircle_42 : decode cX5_isCircle 42 = .ok (.iinc 3 1, 3) := by decide +kernel
theorem dX5_isCircle_45 : decode cX5_isCircle 45 = .ok (.goto (-43), 3) := by decide +kernel
theorem dX5_isCircle_48 : decode cX5_isCircle 48 = .ok (.iconst 1, 1) := by decide +kernel
theorem dX5_isCircle_49 : decode cX5_isCircle 49 = .ok (.ireturn, 1) := by decide +kernel
theorem dX5_circle_0 : decode cX5_circle 0 = .ok (.iload_n 1, 1) := by decide +kernel
theorem dX5_circle_1 : decode cX5_circle 1 = .ok (.iconst 0, 1) := by decide +kernel
theorem dX5_circle_2 : decode cX5_circle 2 = .ok (.iconst 1, 1) := by decide +kernel
theorem dX5_circle_3 : decode cX5_circle 3 = .ok (.invokestatic 48, 3) := by decide +kernel
theorem dX5_circle_6 : decode cX5_circle 6 = .ok (.ifCond .ne 9, 3) := by decide +kernel
theorem dX5_circle_9 : decode cX5_circle 9 = .ok (.aload_n 0, 1) := by decide +kernel
theorem dX5_circle_10 : decode cX5_circle 10 = .ok (.iconst 0, 1) := by decide +kernel
theorem dX5_circle_11 : decode cX5_circle 11 = .ok (.invokevirtual 128, 3) := by decide +kernel
theorem dX5_circle_14 : decode cX5_circle 14 = .ok (.ireturn, 1) := by decide +kernel
theorem dX5_circle_15 : decode cX5_circle 15 = .ok (.iconst 0, 1) := by decide +kernel
theorem dX5_circle_16 : decode cX5_circle 16 = .ok (.istore_n 2, 1) := by decide +kernel
theorem dX5_circle_17 : decode cX5_circle 17 = .ok (.iconst 1, 1) := by decide +kernel
theorem dX5_circle_18 : decode cX5_circle 18 = .ok (.istore_n 3, 1) := by decide +kernel
theorem dX5_circle_19 : decode cX5_circle 19 = .ok (.iload_n 3, 1) := by decide +kernel
theorem dX5_circle_20 : decode cX5_circle 20 = .ok (.iconst 1, 1) := by decide +kernel
theorem dX5_circle_21 : decode cX5_circle 21 = .ok (.aload_n 0, 1) := by decide +kernel
theorem dX5_circle_22 : decode cX5_circle 22 = .ok (.getfield 9, 3) := by decide +kernel
theorem dX5_circle_25 : decode cX5_circle 25 = .ok (.iconst 1, 1) := by decide +kernel
theorem dX5_circle_26 : decode cX5_circle 26 = .ok (.iaload, 1) := by decide +kernel
theorem dX5_circle_27 : decode cX5_circle 27 = .ok (.ishl, 1) := by decide +kernel
theorem dX5_circle_28 : decode cX5_circle 28 = .ok (.if_icmp .ge 43, 3) := by decide +kernel
theorem dX5_circle_31 : decode cX5_circle 31 = .ok (.iload_n 3, 1) := by decide +kernel
theorem dX5_circle_32 : decode cX5_circle 32 = .ok (.invokestatic 64, 3) := by decide +kernel
theorem dX5_circle_35 : decode cX5_circle 35 = .ok (.iload_n 2, 1) := by decide +kernel
theorem dX5_circle_36 : decode cX5_circle 36 = .ok (.invokestatic 64, 3) := by decide +kernel
theorem dX5_circle_39 : decode cX5_circle 39 = .ok (.if_icmp .le 24, 3) := by decide +kernel
theorem dX5_circle_42 : decode cX5_circle 42 = .ok (.aload_n 0, 1) := by decide +kernel
theorem dX5_circle_43 : decode cX5_circle 43 = .ok (.iload_n 3, 1) := by decide +kernel
theorem dX5_circle_44 : decode cX5_circle 44 = .ok (.iload_n 1, 1) := by decide +kernel
theorem dX5_circle_45 : decode cX5_circle 45 = .ok (.ifCond .ne 7, 3) := by decide +kernel
theorem dX5_circle_48 : decode cX5_circle 48 = .ok (.iconst 3, 1) := by decide +kernel
theorem dX5_circle_49 : decode cX5_circle 49 = .ok (.goto 4, 3) := by decide +kernel
theorem dX5_circle_52 : decode cX5_circle 52 = .ok (.iconst 4, 1) := by decide +kernel
theorem dX5_circle_53 : decode cX5_circle 53 = .ok (.invokevirtual 185, 3) := by decide +kernel
theorem dX5_circle_56 : decode cX5_circle 56 = .ok (.ifCond .eq 7, 3) := by decide +kernel
theorem dX5_circle_59 : decode cX5_circle 59 = .ok (.iload_n 3, 1) := by decide +kernel
theorem dX5_circle_60 : decode cX5_circle 60 = .ok (.goto 4, 3) := by decide +kernel
theorem dX5_circle_63 : decode cX5_circle 63 = .ok (.iload_n 2, 1) := by decide +kernel
theorem dX5_circle_64 : decode cX5_circle 64 = .ok (.istore_n 2, 1) := by decide +kernel
theorem dX5_circle_65 : decode cX5_circle 65 = .ok (.iinc 3 1, 3) := by decide +kernel
theorem dX5_circle_68 : decode cX5_circle 68 = .ok (.goto (-49), 3) := by decide +kernel
theorem dX5_circle_71 : decode cX5_circle 71 = .ok (.iload_n 2, 1) := by decide +kernel
theorem dX5_circle_72 : decode cX5_circle 72 = .ok (.ireturn, 1) := by decide +kernel
theorem dX5_isSheet_0 : decode cX5_isSheet 0 = .ok (.iload_n 0, 1) := by decide +kernel
theorem dX5_isSheet_1 : decode cX5_isSheet 1 = .ok (.iconst 0, 1) := by decide +kernel
theorem dX5_isSheet_2 : decode cX5_isSheet 2 = .ok (.iconst 3, 1) := by decide +kernel
theorem dX5_isSheet_3 : decode cX5_isSheet 3 = .ok (.invokestatic 48, 3) := by decide +kernel
theorem dX5_isSheet_6 : decode cX5_isSheet 6 = .ok (.ireturn, 1) := by decide +kernel
theorem dX5_wrongSheet_0 : decode cX5_wrongSheet 0 = .ok (.iload_n 1, 1) := by decide +kernel
theorem dX5_wrongSheet_1 : decode cX5_wrongSheet 1 = .ok (.invokestatic 188, 3) := by decide +kernel
theorem dX5_wrongSheet_4 : decode cX5_wrongSheet 4 = .ok (.ifCond .ne 7, 3) := by decide +kernel
theorem dX5_wrongSheet_7 : decode cX5_wrongSheet 7 = .ok (.iconst 0, 1) := by decide +kernel
theorem dX5_wrongSheet_8 : decode cX5_wrongSheet 8 = .ok (.goto 17, 3) := by decide +kernel
theorem dX5_wrongSheet_11 : decode cX5_wrongSheet 11 = .ok (.aload_n 0, 1) := by decide +kernel
theorem dX5_wrongSheet_12 : decode cX5_wrongSheet 12 = .ok (.getfield 35, 3) := by decide +kernel
theorem dX5_wrongSheet_15 : decode cX5_wrongSheet 15 = .ok (.iload_n 1, 1) := by decide +kernel
theorem dX5_wrongSheet_16 : decode cX5_wrongSheet 16 = .ok (.iaload, 1) := by decide +kernel
theorem dX5_wrongSheet_17 : decode cX5_wrongSheet 17 = .ok (.ifCond .ne 7, 3) := by decide +kernel
theorem dX5_wrongSheet_20 : decode cX5_wrongSheet 20 = .ok (.iconst 5, 1) := by decide +kernel
theorem dX5_wrongSheet_21 : decode cX5_wrongSheet 21 = .ok (.goto 4, 3) := by decide +kernel
theorem dX5_wrongSheet_24 : decode cX5_wrongSheet 24 = .ok (.iconst (-1), 1) := by decide +kernel
theorem dX5_wrongSheet_25 : decode cX5_wrongSheet 25 = .ok (.ireturn, 1) := by decide +kernel
theorem dX5_wrongTold_0 : decode cX5_wrongTold 0 = .ok (.aload_n 0, 1) := by decide +kernel
theorem dX5_wrongTold_1 : decode cX5_wrongTold 1 = .ok (.iload_n 1, 1) := by decide +kernel
theorem dX5_wrongTold_2 : decode cX5_wrongTold 2 = .ok (.invokevirtual 191, 3) := by decide +kernel
theorem dX5_wrongTold_5 : decode cX5_wrongTold 5 = .ok (.istore_n 3, 1) := by decide +kernel
theorem dX5_wrongTold_6 : decode cX5_wrongTold 6 = .ok (.iload_n 3, 1) := by decide +kernel
theorem dX5_wrongTold_7 : decode cX5_wrongTold 7 = .ok (.ifCond .lt 7, 3) := by decide +kernel
theorem dX5_wrongTold_10 : decode cX5_wrongTold 10 = .ok (.iload_n 3, 1) := by decide +kernel
theorem dX5_wrongTold_11 : decode cX5_wrongTold 11 = .ok (.goto 16, 3) := by decide +kernel
theorem dX5_wrongTold_14 : decode cX5_wrongTold 14 = .ok (.aload_n 0, 1) := by decide +kernel
theorem dX5_wrongTold_15 : decode cX5_wrongTold 15 = .ok (.iload_n 2, 1) := by decide +kernel
theorem dX5_wrongTold_16 : decode cX5_wrongTold 16 = .ok (.invokevirtual 52, 3) := by decide +kernel
theorem dX5_wrongTold_19 : decode cX5_wrongTold 19 = .ok (.ifCond .eq 7, 3) := by decide +kernel
theorem dX5_wrongTold_22 : decode cX5_wrongTold 22 = .ok (.iconst (-1), 1) := by decide +kernel
theorem dX5_wrongTold_23 : decode cX5_wrongTold 23 = .ok (.goto 4, 3) := by decide +kernel
theorem dX5_wrongTold_26 : decode cX5_wrongTold 26 = .ok (.iconst 0, 1) := by decide +kernel
theorem dX5_wrongTold_27 : decode cX5_wrongTold 27 = .ok (.ireturn, 1) := by decide +kernel
theorem dX5_told_0 : decode cX5_told 0 = .ok (.aload_n 0, 1) := by decide +kernel
theorem dX5_told_1 : decode cX5_told 1 = .ok (.getfield 41, 3) := by decide +kernel
theorem dX5_told_4 : decode cX5_told 4 = .ok (.bipush 40, 2) := by decide +kernel
theorem dX5_told_6 : decode cX5_told 6 = .ok (.iload_n 1, 1) := by decide +kernel
theorem dX5_told_7 : decode cX5_told 7 = .ok (.imul, 1) := by decide +kernel
theorem dX5_told_8 : decode cX5_told 8 = .ok (.iload_n 2, 1) := by decide +kernel
theorem dX5_told_9 : decode cX5_told 9 = .ok (.iadd, 1) := by decide +kernel
theorem dX5_told_10 : decode cX5_told 10 = .ok (.iaload, 1) := by decide +kernel
theorem dX5_told_11 : decode cX5_told 11 = .ok (.ireturn, 1) := by decide +kernel
theorem dX5_allThatFit_0 : decode cX5_allThatFit 0 = .ok (.iconst 0, 1) := by decide +kernel
theorem dX5_allThatFit_1 : decode cX5_allThatFit 1 = .ok (.istore 5, 2) := by decide +kernel
theorem dX5_allThatFit_3 : decode cX5_allThatFit 3 = .ok (.iconst 0, 1) := by decide +kernel
theorem dX5_allThatFit_4 : decode cX5_allThatFit 4 = .ok (.istore 6, 2) := by decide +kernel
theorem dX5_allThatFit_6 : decode cX5_allThatFit 6 = .ok (.iload 6, 2) := by decide +kernel
theorem dX5_allThatFit_8 : decode cX5_allThatFit 8 = .ok (.iload 4, 2) := by decide +kernel
theorem dX5_allThatFit_10 : decode cX5_allThatFit 10 = .ok (.if_icmp .ge 109, 3) := by decide +kernel
theorem dX5_allThatFit_13 : decode cX5_allThatFit 13 = .ok (.aload_n 0, 1) := by decide +kernel
theorem dX5_allThatFit_14 : decode cX5_allThatFit 14 = .ok (.invokevirtual 159, 3) := by decide +kernel
theorem dX5_allThatFit_17 : decode cX5_allThatFit 17 = .ok (.aload_n 0, 1) := by decide +kernel
theorem dX5_allThatFit_18 : decode cX5_allThatFit 18 = .ok (.iload_n 2, 1) := by decide +kernel
theorem dX5_allThatFit_19 : decode cX5_allThatFit 19 = .ok (.iload_n 3, 1) := by decide +kernel
theorem dX5_allThatFit_20 : decode cX5_allThatFit 20 = .ok (.iload 6, 2) := by decide +kernel
theorem dX5_allThatFit_22 : decode cX5_allThatFit 22 = .ok (.invokevirtual 81, 3) := by decide +kernel
theorem dX5_allThatFit_25 : decode cX5_allThatFit 25 = .ok (.iconst 1, 1) := by decide +kernel
theorem dX5_allThatFit_26 : decode cX5_allThatFit 26 = .ok (.istore 7, 2) := by decide +kernel
theorem dX5_allThatFit_28 : decode cX5_allThatFit 28 = .ok (.iconst 0, 1) := by decide +kernel
theorem dX5_allThatFit_29 : decode cX5_allThatFit 29 = .ok (.istore 8, 2) := by decide +kernel
theorem dX5_allThatFit_31 : decode cX5_allThatFit 31 = .ok (.iload 8, 2) := by decide +kernel
theorem dX5_allThatFit_33 : decode cX5_allThatFit 33 = .ok (.aload_n 0, 1) := by decide +kernel
theorem dX5_allThatFit_34 : decode cX5_allThatFit 34 = .ok (.getfield 38, 3) := by decide +kernel
theorem dX5_allThatFit_37 : decode cX5_allThatFit 37 = .ok (.iload_n 1, 1) := by decide +kernel
theorem dX5_allThatFit_38 : decode cX5_allThatFit 38 = .ok (.iaload, 1) := by decide +kernel
theorem dX5_allThatFit_39 : decode cX5_allThatFit 39 = .ok (.if_icmp .ge 52, 3) := by decide +kernel
theorem dX5_allThatFit_42 : decode cX5_allThatFit 42 = .ok (.iload 7, 2) := by decide +kernel
theorem dX5_allThatFit_44 : decode cX5_allThatFit 44 = .ok (.ifCond .eq 47, 3) := by decide +kernel
theorem dX5_allThatFit_47 : decode cX5_allThatFit 47 = .ok (.aload_n 0, 1) := by decide +kernel
theorem dX5_allThatFit_48 : decode cX5_allThatFit 48 = .ok (.iload_n 1, 1) := by decide +kernel
theorem dX5_allThatFit_49 : decode cX5_allThatFit 49 = .ok (.iload 8, 2) := by decide +kernel
theorem dX5_allThatFit_51 : decode cX5_allThatFit 51 = .ok (.invokevirtual 194, 3) := by decide +kernel
theorem dX5_allThatFit_54 : decode cX5_allThatFit 54 = .ok (.iconst (-1), 1) := by decide +kernel
theorem dX5_allThatFit_55 : decode cX5_allThatFit 55 = .ok (.if_icmp .eq 19, 3) := by decide +kernel
theorem dX5_allThatFit_58 : decode cX5_allThatFit 58 = .ok (.aload_n 0, 1) := by decide +kernel
theorem dX5_allThatFit_59 : decode cX5_allThatFit 59 = .ok (.iload_n 1, 1) := by decide +kernel
theorem dX5_allThatFit_60 : decode cX5_allThatFit 60 = .ok (.iload 8, 2) := by decide +kernel
theorem dX5_allThatFit_62 : decode cX5_allThatFit 62 = .ok (.invokevirtual 194, 3) := by decide +kernel
theorem dX5_allThatFit_65 : decode cX5_allThatFit 65 = .ok (.aload_n 0, 1) := by decide +kernel
theorem dX5_allThatFit_66 : decode cX5_allThatFit 66 = .ok (.iload_n 2, 1) := by decide +kernel
theorem dX5_allThatFit_67 : decode cX5_allThatFit 67 = .ok (.iconst 3, 1) := by decide +kernel
theorem dX5_allThatFit_68 : decode cX5_allThatFit 68 = .ok (.invokevirtual 56, 3) := by decide +kernel
theorem dX5_allThatFit_71 : decode cX5_allThatFit 71 = .ok (.if_icmp .ne 7, 3) := by decide +kernel
theorem dX5_allThatFit_74 : decode cX5_allThatFit 74 = .ok (.iconst 1, 1) := by decide +kernel
theorem dX5_allThatFit_75 : decode cX5_allThatFit 75 = .ok (.goto 4, 3) := by decide +kernel
theorem dX5_allThatFit_78 : decode cX5_allThatFit 78 = .ok (.iconst 0, 1) := by decide +kernel
theorem dX5_allThatFit_79 : decode cX5_allThatFit 79 = .ok (.istore 7, 2) := by decide +kernel
theorem dX5_allThatFit_81 : decode cX5_allThatFit 81 = .ok (.aload_n 0, 1) := by decide +kernel
theorem dX5_allThatFit_82 : decode cX5_allThatFit 82 = .ok (.invokevirtual 122, 3) := by decide +kernel
theorem dX5_allThatFit_85 : decode cX5_allThatFit 85 = .ok (.iinc 8 1, 3) := by decide +kernel
theorem dX5_allThatFit_88 : decode cX5_allThatFit 88 = .ok (.goto (-57), 3) := by decide +kernel
theorem dX5_allThatFit_91 : decode cX5_allThatFit 91 = .ok (.aload_n 0, 1) := by decide +kernel
theorem dX5_allThatFit_92 : decode cX5_allThatFit 92 = .ok (.invokevirtual 162, 3) := by decide +kernel
theorem dX5_allThatFit_95 : decode cX5_allThatFit 95 = .ok (.iload 5, 2) := by decide +kernel
theorem dX5_allThatFit_97 : decode cX5_allThatFit 97 = .ok (.iload 7, 2) := by decide +kernel
theorem dX5_allThatFit_99 : decode cX5_allThatFit 99 = .ok (.ifCond .eq 10, 3) := by decide +kernel
theorem dX5_allThatFit_102 : decode cX5_allThatFit 102 = .ok (.iconst 1, 1) := by decide +kernel
theorem dX5_allThatFit_103 : decode cX5_allThatFit 103 = .ok (.iload 6, 2) := by decide +kernel
theorem dX5_allThatFit_105 : decode cX5_allThatFit 105 = .ok (.ishl, 1) := by decide +kernel
theorem dX5_allThatFit_106 : decode cX5_allThatFit 106 = .ok (.goto 4, 3) := by decide +kernel
theorem dX5_allThatFit_109 : decode cX5_allThatFit 109 = .ok (.iconst 0, 1) := by decide +kernel
theorem dX5_allThatFit_110 : decode cX5_allThatFit 110 = .ok (.ior, 1) := by decide +kernel
theorem dX5_allThatFit_111 : decode cX5_allThatFit 111 = .ok (.istore 5, 2) := by decide +kernel
theorem dX5_allThatFit_113 : decode cX5_allThatFit 113 = .ok (.iinc 6 1, 3) := by decide +kernel
theorem dX5_allThatFit_116 : decode cX5_allThatFit 116 = .ok (.goto (-110), 3) := by decide +kernel
theorem dX5_allThatFit_119 : decode cX5_allThatFit 119 = .ok (.iload 5, 2) := by decide +kernel
theorem dX5_allThatFit_121 : decode cX5_allThatFit 121 = .ok (.ireturn, 1) := by decide +kernel
theorem dX5_fits_0 : decode cX5_fits 0 = .ok (.aload_n 0, 1) := by decide +kernel
theorem dX5_fits_1 : decode cX5_fits 1 = .ok (.iload_n 1, 1) := by decide +kernel
theorem dX5_fits_2 : decode cX5_fits 2 = .ok (.iload_n 2, 1) := by decide +kernel
theorem dX5_fits_3 : decode cX5_fits 3 = .ok (.invokevirtual 197, 3) := by decide +kernel
theorem dX5_fits_6 : decode cX5_fits 6 = .ok (.istore_n 3, 1) := by decide +kernel
theorem dX5_fits_7 : decode cX5_fits 7 = .ok (.iload_n 3, 1) := by decide +kernel
theorem dX5_fits_8 : decode cX5_fits 8 = .ok (.ifCond .lt 11, 3) := by decide +kernel
theorem dX5_fits_11 : decode cX5_fits 11 = .ok (.aload_n 0, 1) := by decide +kernel
theorem dX5_fits_12 : decode cX5_fits 12 = .ok (.iload_n 3, 1) := by decide +kernel
theorem dX5_fits_13 : decode cX5_fits 13 = .ok (.invokevirtual 128, 3) := by decide +kernel
theorem dX5_fits_16 : decode cX5_fits 16 = .ok (.goto 12, 3) := by decide +kernel
theorem dX5_fits_19 : decode cX5_fits 19 = .ok (.aload_n 0, 1) := by decide +kernel
theorem dX5_fits_20 : decode cX5_fits 20 = .ok (.iload_n 1, 1) := by decide +kernel
theorem dX5_fits_21 : decode cX5_fits 21 = .ok (.iload_n 2, 1) := by decide +kernel
theorem dX5_fits_22 : decode cX5_fits 22 = .ok (.iconst 2, 1) := by decide +kernel
theorem dX5_fits_23 : decode cX5_fits 23 = .ok (.bipush 12, 2) := by decide +kernel
theorem dX5_fits_25 : decode cX5_fits 25 = .ok (.invokevirtual 200, 3) := by decide +kernel
theorem dX5_fits_28 : decode cX5_fits 28 = .ok (.ireturn, 1) := by decide +kernel
theorem dX5_kinds_0 : decode cX5_kinds 0 = .ok (.aload_n 0, 1) := by decide +kernel
theorem dX5_kinds_1 : decode cX5_kinds 1 = .ok (.iload_n 1, 1) := by decide +kernel
theorem dX5_kinds_2 : decode cX5_kinds 2 = .ok (.iload_n 2, 1) := by decide +kernel
theorem dX5_kinds_3 : decode cX5_kinds 3 = .ok (.invokevirtual 197, 3) := by decide +kernel
theorem dX5_kinds_6 : decode cX5_kinds 6 = .ok (.istore_n 3, 1) := by decide +kernel
theorem dX5_kinds_7 : decode cX5_kinds 7 = .ok (.iload_n 3, 1) := by decide +kernel
theorem dX5_kinds_8 : decode cX5_kinds 8 = .ok (.ifCond .lt 11, 3) := by decide +kernel
theorem dX5_kinds_11 : decode cX5_kinds 11 = .ok (.aload_n 0, 1) := by decide +kernel
theorem dX5_kinds_12 : decode cX5_kinds 12 = .ok (.iload_n 3, 1) := by decide +kernel
theorem dX5_kinds_13 : decode cX5_kinds 13 = .ok (.invokevirtual 128, 3) := by decide +kernel
theorem dX5_kinds_16 : decode cX5_kinds 16 = .ok (.goto 12, 3) := by decide +kernel
theorem dX5_kinds_19 : decode cX5_kinds 19 = .ok (.aload_n 0, 1) := by decide +kernel
theorem dX5_kinds_20 : decode cX5_kinds 20 = .ok (.iload_n 1, 1) := by decide +kernel
theorem dX5_kinds_21 : decode cX5_kinds 21 = .ok (.iload_n 2, 1) := by decide +kernel
theorem dX5_kinds_22 : decode cX5_kinds 22 = .ok (.iconst 0, 1) := by decide +kernel
theorem dX5_kinds_23 : decode cX5_kinds 23 = .ok (.bipush 7, 2) := by decide +kernel
theorem dX5_kinds_25 : decode cX5_kinds 25 = .ok (.invokevirtual 200, 3) := by decide +kernel
theorem dX5_kinds_28 : decode cX5_kinds 28 = .ok (.ireturn, 1) := by decide +kernel
theorem dX5_draw_0 : decode cX5_draw 0 = .ok (.aload_n 0, 1) := by decide +kernel
theorem dX5_draw_1 : decode cX5_draw 1 = .ok (.getfield 9, 3) := by decide +kernel
theorem dX5_draw_4 : decode cX5_draw 4 = .ok (.iconst 2, 1) := by decide +kernel
theorem dX5_draw_5 : decode cX5_draw 5 = .ok (.aload_n 0, 1) := by decide +kernel
theorem dX5_draw_6 : decode cX5_draw 6 = .ok (.getfield 9, 3) := by decide +kernel
theorem dX5_draw_9 : decode cX5_draw 9 = .ok (.iconst 2, 1) := by decide +kernel
theorem dX5_draw_10 : decode cX5_draw 10 = .ok (.iaload, 1) := by decide +kernel
theorem dX5_draw_11 : decode cX5_draw 11 = .ok (.ldc 203, 2) := by decide +kernel
theorem dX5_draw_13 : decode cX5_draw 13 = .ok (.imul, 1) := by decide +kernel
theorem dX5_draw_14 : decode cX5_draw 14 = .ok (.sipush 12345, 3) := by decide +kernel
theorem dX5_draw_17 : decode cX5_draw 17 = .ok (.iadd, 1) := by decide +kernel
theorem dX5_draw_18 : decode cX5_draw 18 = .ok (.iastore, 1) := by decide +kernel
theorem dX5_draw_19 : decode cX5_draw 19 = .ok (.aload_n 0, 1) := by decide +kernel
theorem dX5_draw_20 : decode cX5_draw 20 = .ok (.getfield 9, 3) := by decide +kernel
theorem dX5_draw_23 : decode cX5_draw 23 = .ok (.iconst 2, 1) := by decide +kernel
theorem dX5_draw_24 : decode cX5_draw 24 = .ok (.iaload, 1) := by decide +kernel
theorem dX5_draw_25 : decode cX5_draw 25 = .ok (.bipush 8, 2) := by decide +kernel
theorem dX5_draw_27 : decode cX5_draw 27 = .ok (.iushr, 1) := by decide +kernel
theorem dX5_draw_28 : decode cX5_draw 28 = .ok (.ireturn, 1) := by decide +kernel
theorem dX5_night_0 : decode cX5_night 0 = .ok (.iload_n 1, 1) := by decide +kernel
theorem dX5_night_1 : decode cX5_night 1 = .ok (.iconst 1, 1) := by decide +kernel
theorem dX5_night_2 : decode cX5_night 2 = .ok (.bipush 20, 2) := by decide +kernel
theorem dX5_night_4 : decode cX5_night 4 = .ok (.invokestatic 48, 3) := by decide +kernel
theorem dX5_night_7 : decode cX5_night 7 = .ok (.ifCond .ne 9, 3) := by decide +kernel
theorem dX5_night_10 : decode cX5_night 10 = .ok (.aload_n 0, 1) := by decide +kernel
theorem dX5_night_11 : decode cX5_night 11 = .ok (.iconst 0, 1) := by decide +kernel
theorem dX5_night_12 : decode cX5_night 12 = .ok (.invokevirtual 128, 3) := by decide +kernel
theorem dX5_night_15 : decode cX5_night 15 = .ok (.ireturn, 1) := by decide +kernel
theorem dX5_night_16 : decode cX5_night 16 = .ok (.aload_n 0, 1) := by decide +kernel
theorem dX5_night_17 : decode cX5_night 17 = .ok (.getfield 9, 3) := by decide +kernel
theorem dX5_night_20 : decode cX5_night 20 = .ok (.iconst 0, 1) := by decide +kernel
theorem dX5_night_21 : decode cX5_night 21 = .ok (.iaload, 1) := by decide +kernel
theorem dX5_night_22 : decode cX5_night 22 = .ok (.iload_n 1, 1) := by decide +kernel
theorem dX5_night_23 : decode cX5_night 23 = .ok (.iadd, 1) := by decide +kernel
theorem dX5_night_24 : decode cX5_night 24 = .ok (.ldc 88, 2) := by decide +kernel
theorem dX5_night_26 : decode cX5_night 26 = .ok (.if_icmp .le 9, 3) := by decide +kernel
theorem dX5_night_29 : decode cX5_night 29 = .ok (.aload_n 0, 1) := by decide +kernel
theorem dX5_night_30 : decode cX5_night 30 = .ok (.iconst 4, 1) := by decide +kernel
theorem dX5_night_31 : decode cX5_night 31 = .ok (.invokevirtual 128, 3) := by decide +kernel
theorem dX5_night_34 : decode cX5_night 34 = .ok (.ireturn, 1) := by decide +kernel
theorem dX5_night_35 : decode cX5_night 35 = .ok (.iconst 0, 1) := by decide +kernel
theorem dX5_night_36 : decode cX5_night 36 = .ok (.istore_n 2, 1) := by decide +kernel
theorem dX5_night_37 : decode cX5_night 37 = .ok (.iload_n 2, 1) := by decide +kernel
theorem dX5_night_38 : decode cX5_night 38 = .ok (.iload_n 1, 1) := by decide +kernel
theorem dX5_night_39 : decode cX5_night 39 = .ok (.if_icmp .ge 63, 3) := by decide +kernel
theorem dX5_night_42 : decode cX5_night 42 = .ok (.aload_n 0, 1) := by decide +kernel
theorem dX5_night_43 : decode cX5_night 43 = .ok (.invokevirtual 204, 3) := by decide +kernel
theorem dX5_night_46 : decode cX5_night 46 = .ok (.bipush 8, 2) := by decide +kernel
theorem dX5_night_48 : decode cX5_night 48 = .ok (.irem, 1) := by decide +kernel
theorem dX5_night_49 : decode cX5_night 49 = .ok (.istore_n 3, 1) := by decide +kernel
theorem dX5_night_50 : decode cX5_night 50 = .ok (.aload_n 0, 1) := by decide +kernel
theorem dX5_night_51 : decode cX5_night 51 = .ok (.invokevirtual 204, 3) := by decide +kernel
theorem dX5_night_54 : decode cX5_night 54 = .ok (.bipush 16, 2) := by decide +kernel
theorem dX5_night_56 : decode cX5_night 56 = .ok (.irem, 1) := by decide +kernel
theorem dX5_night_57 : decode cX5_night 57 = .ok (.istore 4, 2) := by decide +kernel
theorem dX5_night_59 : decode cX5_night 59 = .ok (.aload_n 0, 1) := by decide +kernel
theorem dX5_night_60 : decode cX5_night 60 = .ok (.invokevirtual 204, 3) := by decide +kernel
theorem dX5_night_63 : decode cX5_night 63 = .ok (.bipush 12, 2) := by decide +kernel
theorem dX5_night_65 : decode cX5_night 65 = .ok (.irem, 1) := by decide +kernel
theorem dX5_night_66 : decode cX5_night 66 = .ok (.istore 5, 2) := by decide +kernel
theorem dX5_night_68 : decode cX5_night 68 = .ok (.aload_n 0, 1) := by decide +kernel
theorem dX5_night_69 : decode cX5_night 69 = .ok (.iload_n 3, 1) := by decide +kernel
theorem dX5_night_70 : decode cX5_night 70 = .ok (.invokevirtual 52, 3) := by decide +kernel
theorem dX5_night_73 : decode cX5_night 73 = .ok (.ifCond .eq 19, 3) := by decide +kernel
theorem dX5_night_76 : decode cX5_night 76 = .ok (.aload_n 0, 1) := by decide +kernel
theorem dX5_night_77 : decode cX5_night 77 = .ok (.iload_n 3, 1) := by decide +kernel
theorem dX5_night_78 : decode cX5_night 78 = .ok (.iconst 1, 1) := by decide +kernel
theorem dX5_night_79 : decode cX5_night 79 = .ok (.iload 4, 2) := by decide +kernel
theorem dX5_night_81 : decode cX5_night 81 = .ok (.invokevirtual 81, 3) := by decide +kernel
theorem dX5_night_84 : decode cX5_night 84 = .ok (.aload_n 0, 1) := by decide +kernel
theorem dX5_night_85 : decode cX5_night 85 = .ok (.iload_n 3, 1) := by decide +kernel
theorem dX5_night_86 : decode cX5_night 86 = .ok (.iconst 2, 1) := by decide +kernel
theorem dX5_night_87 : decode cX5_night 87 = .ok (.iload 5, 2) := by decide +kernel
theorem dX5_night_89 : decode cX5_night 89 = .ok (.invokevirtual 81, 3) := by decide +kernel
theorem dX5_night_92 : decode cX5_night 92 = .ok (.aload_n 0, 1) := by decide +kernel
theorem dX5_night_93 : decode cX5_night 93 = .ok (.invokevirtual 122, 3) := by decide +kernel
theorem dX5_night_96 : decode cX5_night 96 = .ok (.iinc 2 1, 3) := by decide +kernel
theorem dX5_night_99 : decode cX5_night 99 = .ok (.goto (-62), 3) := by decide +kernel
theorem dX5_night_102 : decode cX5_night 102 = .ok (.aload_n 0, 1) := by decide +kernel
theorem dX5_night_103 : decode cX5_night 103 = .ok (.getfield 9, 3) := by decide +kernel
theorem dX5_night_106 : decode cX5_night 106 = .ok (.iconst 3, 1) := by decide +kernel
theorem dX5_night_107 : decode cX5_night 107 = .ok (.iaload, 1) := by decide +kernel
theorem dX5_night_108 : decode cX5_night 108 = .ok (.ireturn, 1) := by decide +kernel
theorem dX5_odds_0 : decode cX5_odds 0 = .ok (.aload_n 0, 1) := by decide +kernel
theorem dX5_odds_1 : decode cX5_odds 1 = .ok (.iload_n 1, 1) := by decide +kernel
theorem dX5_odds_2 : decode cX5_odds 2 = .ok (.invokevirtual 52, 3) := by decide +kernel
theorem dX5_odds_5 : decode cX5_odds 5 = .ok (.ifCond .eq 22, 3) := by decide +kernel
theorem dX5_odds_8 : decode cX5_odds 8 = .ok (.iload_n 2, 1) := by decide +kernel
theorem dX5_odds_9 : decode cX5_odds 9 = .ok (.iconst 0, 1) := by decide +kernel
theorem dX5_odds_10 : decode cX5_odds 10 = .ok (.bipush 17, 2) := by decide +kernel
theorem dX5_odds_12 : decode cX5_odds 12 = .ok (.invokestatic 48, 3) := by decide +kernel
theorem dX5_odds_15 : decode cX5_odds 15 = .ok (.ifCond .eq 12, 3) := by decide +kernel
theorem dX5_odds_18 : decode cX5_odds 18 = .ok (.iload_n 3, 1) := by decide +kernel
theorem dX5_odds_19 : decode cX5_odds 19 = .ok (.iconst 0, 1) := by decide +kernel
theorem dX5_odds_20 : decode cX5_odds 20 = .ok (.iconst 1, 1) := by decide +kernel
theorem dX5_odds_21 : decode cX5_odds 21 = .ok (.invokestatic 48, 3) := by decide +kernel
theorem dX5_odds_24 : decode cX5_odds 24 = .ok (.ifCond .ne 10, 3) := by decide +kernel
theorem dX5_odds_27 : decode cX5_odds 27 = .ok (.aload_n 0, 1) := by decide +kernel
theorem dX5_odds_28 : decode cX5_odds 28 = .ok (.iconst 0, 1) := by decide +kernel
theorem dX5_odds_29 : decode cX5_odds 29 = .ok (.invokevirtual 128, 3) := by decide +kernel
theorem dX5_odds_32 : decode cX5_odds 32 = .ok (.i2l, 1) := by decide +kernel
theorem dX5_odds_33 : decode cX5_odds 33 = .ok (.lreturn, 1) := by decide +kernel
theorem dX5_odds_34 : decode cX5_odds 34 = .ok (.iconst 0, 1) := by decide +kernel
theorem dX5_odds_35 : decode cX5_odds 35 = .ok (.istore 4, 2) := by decide +kernel
theorem dX5_odds_37 : decode cX5_odds 37 = .ok (.iconst 0, 1) := by decide +kernel
theorem dX5_odds_38 : decode cX5_odds 38 = .ok (.istore 5, 2) := by decide +kernel
theorem dX5_odds_40 : decode cX5_odds 40 = .ok (.iload 5, 2) := by decide +kernel
theorem dX5_odds_42 : decode cX5_odds 42 = .ok (.bipush 12, 2) := by decide +kernel
theorem dX5_odds_44 : decode cX5_odds 44 = .ok (.if_icmp .ge 29, 3) := by decide +kernel
theorem dX5_odds_47 : decode cX5_odds 47 = .ok (.iload 4, 2) := by decide +kernel
theorem dX5_odds_49 : decode cX5_odds 49 = .ok (.aload_n 0, 1) := by decide +kernel
theorem dX5_odds_50 : decode cX5_odds 50 = .ok (.iload_n 1, 1) := by decide +kernel
theorem dX5_odds_51 : decode cX5_odds 51 = .ok (.iload 5, 2) := by decide +kernel
theorem dX5_odds_53 : decode cX5_odds 53 = .ok (.invokevirtual 77, 3) := by decide +kernel
theorem dX5_odds_56 : decode cX5_odds 56 = .ok (.ifCond .eq 7, 3) := by decide +kernel
theorem dX5_odds_59 : decode cX5_odds 59 = .ok (.iconst 1, 1) := by decide +kernel
theorem dX5_odds_60 : decode cX5_odds 60 = .ok (.goto 4, 3) := by decide +kernel
theorem dX5_odds_63 : decode cX5_odds 63 = .ok (.iconst 0, 1) := by decide +kernel
theorem dX5_odds_64 : decode cX5_odds 64 = .ok (.iadd, 1) := by decide +kernel
theorem dX5_odds_65 : decode cX5_odds 65 = .ok (.istore 4, 2) := by decide +kernel
theorem dX5_odds_67 : decode cX5_odds 67 = .ok (.iinc 5 1, 3) := by decide +kernel
theorem dX5_odds_70 : decode cX5_odds 70 = .ok (.goto (-30), 3) := by decide +kernel
theorem dX5_odds_73 : decode cX5_odds 73 = .ok (.lconst 1, 1) := by decide +kernel
theorem dX5_odds_74 : decode cX5_odds 74 = .ok (.lstore 5, 2) := by decide +kernel
theorem dX5_odds_76 : decode cX5_odds 76 = .ok (.lconst 1, 1) := by decide +kernel
theorem dX5_odds_77 : decode cX5_odds 77 = .ok (.lstore 7, 2) := by decide +kernel
theorem dX5_odds_79 : decode cX5_odds 79 = .ok (.iconst 0, 1) := by decide +kernel
theorem dX5_odds_80 : decode cX5_odds 80 = .ok (.istore 9, 2) := by decide +kernel
theorem dX5_odds_82 : decode cX5_odds 82 = .ok (.iload 9, 2) := by decide +kernel
theorem dX5_odds_84 : decode cX5_odds 84 = .ok (.iload_n 2, 1) := by decide +kernel
theorem dX5_odds_85 : decode cX5_odds 85 = .ok (.if_icmp .ge 25, 3) := by decide +kernel
theorem dX5_odds_88 : decode cX5_odds 88 = .ok (.lload 5, 2) := by decide +kernel
theorem dX5_odds_90 : decode cX5_odds 90 = .ok (.iload 4, 2) := by decide +kernel
theorem dX5_odds_92 : decode cX5_odds 92 = .ok (.i2l, 1) := by decide +kernel
theorem dX5_odds_93 : decode cX5_odds 93 = .ok (.lmul, 1) := by decide +kernel
theorem dX5_odds_94 : decode cX5_odds 94 = .ok (.lstore 5, 2) := by decide +kernel
theorem dX5_odds_96 : decode cX5_odds 96 = .ok (.lload 7, 2) := by decide +kernel
theorem dX5_odds_98 : decode cX5_odds 98 = .ok (.ldc2_w 207, 3) := by decide +kernel
theorem dX5_odds_101 : decode cX5_odds 101 = .ok (.lmul, 1) := by decide +kernel
theorem dX5_odds_102 : decode cX5_odds 102 = .ok (.lstore 7, 2) := by decide +kernel
theorem dX5_odds_104 : decode cX5_odds 104 = .ok (.iinc 9 1, 3) := by decide +kernel
theorem dX5_odds_107 : decode cX5_odds 107 = .ok (.goto (-25), 3) := by decide +kernel
theorem dX5_odds_110 : decode cX5_odds 110 = .ok (.lload 5, 2) := by decide +kernel
theorem dX5_odds_112 : decode cX5_odds 112 = .ok (.lstore 9, 2) := by decide +kernel
theorem dX5_odds_114 : decode cX5_odds 114 = .ok (.lload 7, 2) := by decide +kernel
theorem dX5_odds_116 : decode cX5_odds 116 = .ok (.lstore 11, 2) := by decide +kernel
theorem dX5_odds_118 : decode cX5_odds 118 = .ok (.lload 11, 2) := by decide +kernel
theorem dX5_odds_120 : decode cX5_odds 120 = .ok (.lconst 0, 1) := by decide +kernel
theorem dX5_odds_121 : decode cX5_odds 121 = .ok (.lcmp, 1) := by decide +kernel
theorem dX5_odds_122 : decode cX5_odds 122 = .ok (.ifCond .eq 21, 3) := by decide +kernel
theorem dX5_odds_125 : decode cX5_odds 125 = .ok (.lload 9, 2) := by decide +kernel
theorem dX5_odds_127 : decode cX5_odds 127 = .ok (.lload 11, 2) := by decide +kernel
theorem dX5_odds_129 : decode cX5_odds 129 = .ok (.lrem, 1) := by decide +kernel
theorem dX5_odds_130 : decode cX5_odds 130 = .ok (.lstore 13, 2) := by decide +kernel
theorem dX5_odds_132 : decode cX5_odds 132 = .ok (.lload 11, 2) := by decide +kernel
theorem dX5_odds_134 : decode cX5_odds 134 = .ok (.lstore 9, 2) := by decide +kernel
theorem dX5_odds_136 : decode cX5_odds 136 = .ok (.lload 13, 2) := by decide +kernel
theorem dX5_odds_138 : decode cX5_odds 138 = .ok (.lstore 11, 2) := by decide +kernel
theorem dX5_odds_140 : decode cX5_odds 140 = .ok (.goto (-22), 3) := by decide +kernel
theorem dX5_odds_143 : decode cX5_odds 143 = .ok (.iload_n 3, 1) := by decide +kernel
theorem dX5_odds_144 : decode cX5_odds 144 = .ok (.ifCond .ne 11, 3) := by decide +kernel
theorem dX5_odds_147 : decode cX5_odds 147 = .ok (.lload 5, 2) := by decide +kernel
theorem dX5_odds_149 : decode cX5_odds 149 = .ok (.lload 9, 2) := by decide +kernel
theorem dX5_odds_151 : decode cX5_odds 151 = .ok (.ldiv, 1) := by decide +kernel
theorem dX5_odds_152 : decode cX5_odds 152 = .ok (.goto 8, 3) := by decide +kernel
theorem dX5_odds_155 : decode cX5_odds 155 = .ok (.lload 7, 2) := by decide +kernel
theorem dX5_odds_157 : decode cX5_odds 157 = .ok (.lload 9, 2) := by decide +kernel
theorem dX5_odds_159 : decode cX5_odds 159 = .ok (.ldiv, 1) := by decide +kernel
theorem dX5_odds_160 : decode cX5_odds 160 = .ok (.lreturn, 1) := by decide +kernel
theorem dX5_seed_0 : decode cX5_seed 0 = .ok (.aload_n 0, 1) := by decide +kernel
theorem dX5_seed_1 : decode cX5_seed 1 = .ok (.getfield 9, 3) := by decide +kernel
theorem dX5_seed_4 : decode cX5_seed 4 = .ok (.iconst 2, 1) := by decide +kernel
theorem dX5_seed_5 : decode cX5_seed 5 = .ok (.iaload, 1) := by decide +kernel
theorem dX5_seed_6 : decode cX5_seed 6 = .ok (.istore_n 2, 1) := by decide +kernel
theorem dX5_seed_7 : decode cX5_seed 7 = .ok (.aload_n 0, 1) := by decide +kernel
theorem dX5_seed_8 : decode cX5_seed 8 = .ok (.getfield 9, 3) := by decide +kernel
theorem dX5_seed_11 : decode cX5_seed 11 = .ok (.iconst 2, 1) := by decide +kernel
theorem dX5_seed_12 : decode cX5_seed 12 = .ok (.iload_n 1, 1) := by decide +kernel
theorem dX5_seed_13 : decode cX5_seed 13 = .ok (.iastore, 1) := by decide +kernel
theorem dX5_seed_14 : decode cX5_seed 14 = .ok (.iload_n 2, 1) := by decide +kernel
theorem dX5_seed_15 : decode cX5_seed 15 = .ok (.ireturn, 1) := by decide +kernel
theorem dX5_feed_0 : decode cX5_feed 0 = .ok (.iload_n 2, 1) := by decide +kernel
theorem dX5_feed_1 : decode cX5_feed 1 = .ok (.iconst 1, 1) := by decide +kernel
theorem dX5_feed_2 : decode cX5_feed 2 = .ok (.iconst 4, 1) := by decide +kernel
theorem dX5_feed_3 : decode cX5_feed 3 = .ok (.invokestatic 48, 3) := by decide +kernel
theorem dX5_feed_6 : decode cX5_feed 6 = .ok (.ifCond .ne 9, 3) := by decide +kernel
theorem dX5_feed_9 : decode cX5_feed 9 = .ok (.aload_n 0, 1) := by decide +kernel
theorem dX5_feed_10 : decode cX5_feed 10 = .ok (.iconst 0, 1) := by decide +kernel
theorem dX5_feed_11 : decode cX5_feed 11 = .ok (.invokevirtual 128, 3) := by decide +kernel
theorem dX5_feed_14 : decode cX5_feed 14 = .ok (.ireturn, 1) := by decide +kernel
theorem dX5_feed_15 : decode cX5_feed 15 = .ok (.aload_n 0, 1) := by decide +kernel
theorem dX5_feed_16 : decode cX5_feed 16 = .ok (.getfield 209, 3) := by decide +kernel
theorem dX5_feed_19 : decode cX5_feed 19 = .ok (.iload_n 2, 1) := by decide +kernel
theorem dX5_feed_20 : decode cX5_feed 20 = .ok (.iadd, 1) := by decide +kernel
theorem dX5_feed_21 : decode cX5_feed 21 = .ok (.bipush 120, 2) := by decide +kernel
theorem dX5_feed_23 : decode cX5_feed 23 = .ok (.if_icmp .le 9, 3) := by decide +kernel
theorem dX5_feed_26 : decode cX5_feed 26 = .ok (.aload_n 0, 1) := by decide +kernel
theorem dX5_feed_27 : decode cX5_feed 27 = .ok (.iconst 1, 1) := by decide +kernel
theorem dX5_feed_28 : decode cX5_feed 28 = .ok (.invokevirtual 128, 3) := by decide +kernel
theorem dX5_feed_31 : decode cX5_feed 31 = .ok (.ireturn, 1) := by decide +kernel
theorem dX5_feed_32 : decode cX5_feed 32 = .ok (.iload_n 2, 1) := by decide +kernel
theorem dX5_feed_33 : decode cX5_feed 33 = .ok (.iconst 1, 1) := by decide +kernel
theorem dX5_feed_34 : decode cX5_feed 34 = .ok (.isub, 1) := by decide +kernel
theorem dX5_feed_35 : decode cX5_feed 35 = .ok (.istore_n 3, 1) := by decide +kernel
theorem dX5_feed_36 : decode cX5_feed 36 = .ok (.iload_n 3, 1) := by decide +kernel
theorem dX5_feed_37 : decode cX5_feed 37 = .ok (.ifCond .lt 38, 3) := by decide +kernel
theorem dX5_feed_40 : decode cX5_feed 40 = .ok (.aload_n 0, 1) := by decide +kernel
theorem dX5_feed_41 : decode cX5_feed 41 = .ok (.getfield 22, 3) := by decide +kernel
theorem dX5_feed_44 : decode cX5_feed 44 = .ok (.aload_n 0, 1) := by decide +kernel
theorem dX5_feed_45 : decode cX5_feed 45 = .ok (.getfield 209, 3) := by decide +kernel
theorem dX5_feed_48 : decode cX5_feed 48 = .ok (.iload_n 1, 1) := by decide +kernel
theorem dX5_feed_49 : decode cX5_feed 49 = .ok (.bipush 8, 2) := by decide +kernel
theorem dX5_feed_51 : decode cX5_feed 51 = .ok (.iload_n 3, 1) := by decide +kernel
theorem dX5_feed_52 : decode cX5_feed 52 = .ok (.imul, 1) := by decide +kernel
theorem dX5_feed_53 : decode cX5_feed 53 = .ok (.ishr, 1) := by decide +kernel
theorem dX5_feed_54 : decode cX5_feed 54 = .ok (.sipush 255, 3) := by decide +kernel
theorem dX5_feed_57 : decode cX5_feed 57 = .ok (.iand, 1) := by decide +kernel
theorem dX5_feed_58 : decode cX5_feed 58 = .ok (.iastore, 1) := by decide +kernel
theorem dX5_feed_59 : decode cX5_feed 59 = .ok (.aload_n 0, 1) := by decide +kernel
theorem dX5_feed_60 : decode cX5_feed 60 = .ok (.dup, 1) := by decide +kernel
theorem dX5_feed_61 : decode cX5_feed 61 = .ok (.getfield 209, 3) := by decide +kernel
theorem dX5_feed_64 : decode cX5_feed 64 = .ok (.iconst 1, 1) := by decide +kernel
theorem dX5_feed_65 : decode cX5_feed 65 = .ok (.iadd, 1) := by decide +kernel
theorem dX5_feed_66 : decode cX5_feed 66 = .ok (.putfield 209, 3) := by decide +kernel
theorem dX5_feed_69 : decode cX5_feed 69 = .ok (.iinc 3 (-1), 3) := by decide +kernel
theorem dX5_feed_72 : decode cX5_feed 72 = .ok (.goto (-36), 3) := by decide +kernel
theorem dX5_feed_75 : decode cX5_feed 75 = .ok (.aload_n 0, 1) := by decide +kernel
theorem dX5_feed_76 : decode cX5_feed 76 = .ok (.getfield 209, 3) := by decide +kernel
theorem dX5_feed_79 : decode cX5_feed 79 = .ok (.ireturn, 1) := by decide +kernel
theorem dX5_wipe_0 : decode cX5_wipe 0 = .ok (.aload_n 0, 1) := by decide +kernel
theorem dX5_wipe_1 : decode cX5_wipe 1 = .ok (.getfield 209, 3) := by decide +kernel
theorem dX5_wipe_4 : decode cX5_wipe 4 = .ok (.istore_n 1, 1) := by decide +kernel
theorem dX5_wipe_5 : decode cX5_wipe 5 = .ok (.aload_n 0, 1) := by decide +kernel
theorem dX5_wipe_6 : decode cX5_wipe 6 = .ok (.iconst 0, 1) := by decide +kernel
theorem dX5_wipe_7 : decode cX5_wipe 7 = .ok (.putfield 209, 3) := by decide +kernel
theorem dX5_wipe_10 : decode cX5_wipe 10 = .ok (.iload_n 1, 1) := by decide +kernel
theorem dX5_wipe_11 : decode cX5_wipe 11 = .ok (.ireturn, 1) := by decide +kernel
theorem dX5_isLetter_0 : decode cX5_isLetter 0 = .ok (.iload_n 0, 1) := by decide +kernel
theorem dX5_isLetter_1 : decode cX5_isLetter 1 = .ok (.bipush 97, 2) := by decide +kernel
theorem dX5_isLetter_3 : decode cX5_isLetter 3 = .ok (.bipush 122, 2) := by decide +kernel
theorem dX5_isLetter_5 : decode cX5_isLetter 5 = .ok (.invokestatic 48, 3) := by decide +kernel
theorem dX5_isLetter_8 : decode cX5_isLetter 8 = .ok (.ireturn, 1) := by decide +kernel
theorem dX5_isDigit_0 : decode cX5_isDigit 0 = .ok (.iload_n 0, 1) := by decide +kernel
theorem dX5_isDigit_1 : decode cX5_isDigit 1 = .ok (.bipush 48, 2) := by decide +kernel
theorem dX5_isDigit_3 : decode cX5_isDigit 3 = .ok (.bipush 57, 2) := by decide +kernel
theorem dX5_isDigit_5 : decode cX5_isDigit 5 = .ok (.invokestatic 48, 3) := by decide +kernel
theorem dX5_isDigit_8 : decode cX5_isDigit 8 = .ok (.ireturn, 1) := by decide +kernel
theorem dX5_nextToken_0 : decode cX5_nextToken 0 = .ok (.aload_n 0, 1) := by decide +kernel
theorem dX5_nextToken_1 : decode cX5_nextToken 1 = .ok (.aload_n 0, 1) := by decide +kernel
theorem dX5_nextToken_2 : decode cX5_nextToken 2 = .ok (.getfield 213, 3) := by decide +kernel
theorem dX5_nextToken_5 : decode cX5_nextToken 5 = .ok (.putfield 216, 3) := by decide +kernel
theorem dX5_nextToken_8 : decode cX5_nextToken 8 = .ok (.aload_n 0, 1) := by decide +kernel
theorem dX5_nextToken_9 : decode cX5_nextToken 9 = .ok (.getfield 216, 3) := by decide +kernel
theorem dX5_nextToken_12 : decode cX5_nextToken 12 = .ok (.aload_n 0, 1) := by decide +kernel
theorem dX5_nextToken_13 : decode cX5_nextToken 13 = .ok (.getfield 209, 3) := by decide +kernel
theorem dX5_nextToken_16 : decode cX5_nextToken 16 = .ok (.if_icmp .ge 30, 3) := by decide +kernel
theorem dX5_nextToken_19 : decode cX5_nextToken 19 = .ok (.aload_n 0, 1) := by decide +kernel
theorem dX5_nextToken_20 : decode cX5_nextToken 20 = .ok (.getfield 22, 3) := by decide +kernel
theorem dX5_nextToken_23 : decode cX5_nextToken 23 = .ok (.aload_n 0, 1) := by decide +kernel
theorem dX5_nextToken_24 : decode cX5_nextToken 24 = .ok (.getfield 216, 3) := by decide +kernel
theorem dX5_nextToken_27 : decode cX5_nextToken 27 = .ok (.iaload, 1) := by decide +kernel
theorem dX5_nextToken_28 : decode cX5_nextToken 28 = .ok (.bipush 32, 2) := by decide +kernel
theorem dX5_nextToken_30 : decode cX5_nextToken 30 = .ok (.if_icmp .ne 16, 3) := by decide +kernel
theorem dX5_nextToken_33 : decode cX5_nextToken 33 = .ok (.aload_n 0, 1) := by decide +kernel
theorem dX5_nextToken_34 : decode cX5_nextToken 34 = .ok (.dup, 1) := by decide +kernel
theorem dX5_nextToken_35 : decode cX5_nextToken 35 = .ok (.getfield 216, 3) := by decide +kernel
theorem dX5_nextToken_38 : decode cX5_nextToken 38 = .ok (.iconst 1, 1) := by decide +kernel
theorem dX5_nextToken_39 : decode cX5_nextToken 39 = .ok (.iadd, 1) := by decide +kernel
theorem dX5_nextToken_40 : decode cX5_nextToken 40 = .ok (.putfield 216, 3) := by decide +kernel
theorem dX5_nextToken_43 : decode cX5_nextToken 43 = .ok (.goto (-35), 3) := by decide +kernel
theorem dX5_nextToken_46 : decode cX5_nextToken 46 = .ok (.aload_n 0, 1) := by decide +kernel
theorem dX5_nextToken_47 : decode cX5_nextToken 47 = .ok (.aload_n 0, 1) := by decide +kernel
theorem dX5_nextToken_48 : decode cX5_nextToken 48 = .ok (.getfield 216, 3) := by decide +kernel
theorem dX5_nextToken_51 : decode cX5_nextToken 51 = .ok (.putfield 213, 3) := by decide +kernel
theorem dX5_nextToken_54 : decode cX5_nextToken 54 = .ok (.aload_n 0, 1) := by decide +kernel
theorem dX5_nextToken_55 : decode cX5_nextToken 55 = .ok (.lconst 0, 1) := by decide +kernel
theorem dX5_nextToken_56 : decode cX5_nextToken 56 = .ok (.putfield 219, 3) := by decide +kernel
theorem dX5_nextToken_59 : decode cX5_nextToken 59 = .ok (.aload_n 0, 1) := by decide +kernel
theorem dX5_nextToken_60 : decode cX5_nextToken 60 = .ok (.getfield 216, 3) := by decide +kernel
theorem dX5_nextToken_63 : decode cX5_nextToken 63 = .ok (.aload_n 0, 1) := by decide +kernel
theorem dX5_nextToken_64 : decode cX5_nextToken 64 = .ok (.getfield 209, 3) := by decide +kernel
theorem dX5_nextToken_67 : decode cX5_nextToken 67 = .ok (.if_icmp .ne 11, 3) := by decide +kernel
theorem dX5_nextToken_70 : decode cX5_nextToken 70 = .ok (.aload_n 0, 1) := by decide +kernel
theorem dX5_nextToken_71 : decode cX5_nextToken 71 = .ok (.iconst 0, 1) := by decide +kernel
theorem dX5_nextToken_72 : decode cX5_nextToken 72 = .ok (.putfield 223, 3) := by decide +kernel
theorem dX5_nextToken_75 : decode cX5_nextToken 75 = .ok (.goto 262, 3) := by decide +kernel
theorem dX5_nextToken_78 : decode cX5_nextToken 78 = .ok (.aload_n 0, 1) := by decide +kernel
theorem dX5_nextToken_79 : decode cX5_nextToken 79 = .ok (.getfield 22, 3) := by decide +kernel
theorem dX5_nextToken_82 : decode cX5_nextToken 82 = .ok (.aload_n 0, 1) := by decide +kernel
theorem dX5_nextToken_83 : decode cX5_nextToken 83 = .ok (.getfield 216, 3) := by decide +kernel
theorem dX5_nextToken_86 : decode cX5_nextToken 86 = .ok (.iaload, 1) := by decide +kernel
theorem dX5_nextToken_87 : decode cX5_nextToken 87 = .ok (.invokestatic 226, 3) := by decide +kernel
theorem dX5_nextToken_90 : decode cX5_nextToken 90 = .ok (.ifCond .eq 92, 3) := by decide +kernel
theorem dX5_nextToken_93 : decode cX5_nextToken 93 = .ok (.aload_n 0, 1) := by decide +kernel
theorem dX5_nextToken_94 : decode cX5_nextToken 94 = .ok (.iconst 1, 1) := by decide +kernel
theorem dX5_nextToken_95 : decode cX5_nextToken 95 = .ok (.putfield 223, 3) := by decide +kernel
theorem dX5_nextToken_98 : decode cX5_nextToken 98 = .ok (.aload_n 0, 1) := by decide +kernel
theorem dX5_nextToken_99 : decode cX5_nextToken 99 = .ok (.getfield 213, 3) := by decide +kernel
theorem dX5_nextToken_102 : decode cX5_nextToken 102 = .ok (.aload_n 0, 1) := by decide +kernel
theorem dX5_nextToken_103 : decode cX5_nextToken 103 = .ok (.getfield 209, 3) := by decide +kernel
theorem dX5_nextToken_106 : decode cX5_nextToken 106 = .ok (.if_icmp .ge 231, 3) := by decide +kernel
theorem dX5_nextToken_109 : decode cX5_nextToken 109 = .ok (.aload_n 0, 1) := by decide +kernel
theorem dX5_nextToken_110 : decode cX5_nextToken 110 = .ok (.getfield 22, 3) := by decide +kernel
theorem dX5_nextToken_113 : decode cX5_nextToken 113 = .ok (.aload_n 0, 1) := by decide +kernel
theorem dX5_nextToken_114 : decode cX5_nextToken 114 = .ok (.getfield 213, 3) := by decide +kernel
theorem dX5_nextToken_117 : decode cX5_nextToken 117 = .ok (.iaload, 1) := by decide +kernel
theorem dX5_nextToken_118 : decode cX5_nextToken 118 = .ok (.invokestatic 226, 3) := by decide +kernel
theorem dX5_nextToken_121 : decode cX5_nextToken 121 = .ok (.ifCond .eq 216, 3) := by decide +kernel
theorem dX5_nextToken_124 : decode cX5_nextToken 124 = .ok (.aload_n 0, 1) := by decide +kernel
theorem dX5_nextToken_125 : decode cX5_nextToken 125 = .ok (.aload_n 0, 1) := by decide +kernel
theorem dX5_nextToken_126 : decode cX5_nextToken 126 = .ok (.getfield 219, 3) := by decide +kernel
theorem dX5_nextToken_129 : decode cX5_nextToken 129 = .ok (.ldc2_w 229, 3) := by decide +kernel
theorem dX5_nextToken_132 : decode cX5_nextToken 132 = .ok (.lcmp, 1) := by decide +kernel
theorem dX5_nextToken_133 : decode cX5_nextToken 133 = .ok (.ifCond .le 10, 3) := by decide +kernel
theorem dX5_nextToken_136 : decode cX5_nextToken 136 = .ok (.aload_n 0, 1) := by decide +kernel
theorem dX5_nextToken_137 : decode cX5_nextToken 137 = .ok (.getfield 219, 3) := by decide +kernel
theorem dX5_nextToken_140 : decode cX5_nextToken 140 = .ok (.goto 26, 3) := by decide +kernel
theorem dX5_nextToken_143 : decode cX5_nextToken 143 = .ok (.aload_n 0, 1) := by decide +kernel
theorem dX5_nextToken_144 : decode cX5_nextToken 144 = .ok (.getfield 219, 3) := by decide +kernel
theorem dX5_nextToken_147 : decode cX5_nextToken 147 = .ok (.ldc2_w 231, 3) := by decide +kernel
theorem dX5_nextToken_150 : decode cX5_nextToken 150 = .ok (.lmul, 1) := by decide +kernel
theorem dX5_nextToken_151 : decode cX5_nextToken 151 = .ok (.aload_n 0, 1) := by decide +kernel
theorem dX5_nextToken_152 : decode cX5_nextToken 152 = .ok (.getfield 22, 3) := by decide +kernel
theorem dX5_nextToken_155 : decode cX5_nextToken 155 = .ok (.aload_n 0, 1) := by decide +kernel
theorem dX5_nextToken_156 : decode cX5_nextToken 156 = .ok (.getfield 213, 3) := by decide +kernel
theorem dX5_nextToken_159 : decode cX5_nextToken 159 = .ok (.iaload, 1) := by decide +kernel
theorem dX5_nextToken_160 : decode cX5_nextToken 160 = .ok (.i2l, 1) := by decide +kernel
theorem dX5_nextToken_161 : decode cX5_nextToken 161 = .ok (.ladd, 1) := by decide +kernel
theorem dX5_nextToken_162 : decode cX5_nextToken 162 = .ok (.ldc2_w 233, 3) := by decide +kernel
theorem dX5_nextToken_165 : decode cX5_nextToken 165 = .ok (.lsub, 1) := by decide +kernel
theorem dX5_nextToken_166 : decode cX5_nextToken 166 = .ok (.putfield 219, 3) := by decide +kernel
theorem dX5_nextToken_169 : decode cX5_nextToken 169 = .ok (.aload_n 0, 1) := by decide +kernel
theorem dX5_nextToken_170 : decode cX5_nextToken 170 = .ok (.dup, 1) := by decide +kernel
theorem dX5_nextToken_171 : decode cX5_nextToken 171 = .ok (.getfield 213, 3) := by decide +kernel
theorem dX5_nextToken_174 : decode cX5_nextToken 174 = .ok (.iconst 1, 1) := by decide +kernel
theorem dX5_nextToken_175 : decode cX5_nextToken 175 = .ok (.iadd, 1) := by decide +kernel
theorem dX5_nextToken_176 : decode cX5_nextToken 176 = .ok (.putfield 213, 3) := by decide +kernel
theorem dX5_nextToken_179 : decode cX5_nextToken 179 = .ok (.goto (-81), 3) := by decide +kernel
theorem dX5_nextToken_182 : decode cX5_nextToken 182 = .ok (.aload_n 0, 1) := by decide +kernel
theorem dX5_nextToken_183 : decode cX5_nextToken 183 = .ok (.getfield 22, 3) := by decide +kernel
theorem dX5_nextToken_186 : decode cX5_nextToken 186 = .ok (.aload_n 0, 1) := by decide +kernel
theorem dX5_nextToken_187 : decode cX5_nextToken 187 = .ok (.getfield 216, 3) := by decide +kernel
theorem dX5_nextToken_190 : decode cX5_nextToken 190 = .ok (.iaload, 1) := by decide +kernel
theorem dX5_nextToken_191 : decode cX5_nextToken 191 = .ok (.invokestatic 235, 3) := by decide +kernel
theorem dX5_nextToken_194 : decode cX5_nextToken 194 = .ok (.ifCond .eq 110, 3) := by decide +kernel
theorem dX5_nextToken_197 : decode cX5_nextToken 197 = .ok (.aload_n 0, 1) := by decide +kernel
theorem dX5_nextToken_198 : decode cX5_nextToken 198 = .ok (.getfield 213, 3) := by decide +kernel
theorem dX5_nextToken_201 : decode cX5_nextToken 201 = .ok (.aload_n 0, 1) := by decide +kernel
theorem dX5_nextToken_202 : decode cX5_nextToken 202 = .ok (.getfield 209, 3) := by decide +kernel
theorem dX5_nextToken_205 : decode cX5_nextToken 205 = .ok (.if_icmp .ge 76, 3) := by decide +kernel
theorem dX5_nextToken_208 : decode cX5_nextToken 208 = .ok (.aload_n 0, 1) := by decide +kernel
theorem dX5_nextToken_209 : decode cX5_nextToken 209 = .ok (.getfield 22, 3) := by decide +kernel
theorem dX5_nextToken_212 : decode cX5_nextToken 212 = .ok (.aload_n 0, 1) := by decide +kernel
theorem dX5_nextToken_213 : decode cX5_nextToken 213 = .ok (.getfield 213, 3) := by decide +kernel
theorem dX5_nextToken_216 : decode cX5_nextToken 216 = .ok (.iaload, 1) := by decide +kernel
theorem dX5_nextToken_217 : decode cX5_nextToken 217 = .ok (.invokestatic 235, 3) := by decide +kernel
theorem dX5_nextToken_220 : decode cX5_nextToken 220 = .ok (.ifCond .eq 61, 3) := by decide +kernel
theorem dX5_nextToken_223 : decode cX5_nextToken 223 = .ok (.aload_n 0, 1) := by decide +kernel
theorem dX5_nextToken_224 : decode cX5_nextToken 224 = .ok (.aload_n 0, 1) := by decide +kernel
theorem dX5_nextToken_225 : decode cX5_nextToken 225 = .ok (.getfield 219, 3) := by decide +kernel
theorem dX5_nextToken_228 : decode cX5_nextToken 228 = .ok (.ldc2_w 238, 3) := by decide +kernel
theorem dX5_nextToken_231 : decode cX5_nextToken 231 = .ok (.lcmp, 1) := by decide +kernel
theorem dX5_nextToken_232 : decode cX5_nextToken 232 = .ok (.ifCond .le 10, 3) := by decide +kernel
theorem dX5_nextToken_235 : decode cX5_nextToken 235 = .ok (.aload_n 0, 1) := by decide +kernel
theorem dX5_nextToken_236 : decode cX5_nextToken 236 = .ok (.getfield 219, 3) := by decide +kernel
theorem dX5_nextToken_239 : decode cX5_nextToken 239 = .ok (.goto 26, 3) := by decide +kernel
theorem dX5_nextToken_242 : decode cX5_nextToken 242 = .ok (.aload_n 0, 1) := by decide +kernel
theorem dX5_nextToken_243 : decode cX5_nextToken 243 = .ok (.getfield 219, 3) := by decide +kernel
theorem dX5_nextToken_246 : decode cX5_nextToken 246 = .ok (.ldc2_w 240, 3) := by decide +kernel
theorem dX5_nextToken_249 : decode cX5_nextToken 249 = .ok (.lmul, 1) := by decide +kernel
theorem dX5_nextToken_250 : decode cX5_nextToken 250 = .ok (.aload_n 0, 1) := by decide +kernel
theorem dX5_nextToken_251 : decode cX5_nextToken 251 = .ok (.getfield 22, 3) := by decide +kernel
theorem dX5_nextToken_254 : decode cX5_nextToken 254 = .ok (.aload_n 0, 1) := by decide +kernel
theorem dX5_nextToken_255 : decode cX5_nextToken 255 = .ok (.getfield 213, 3) := by decide +kernel
theorem dX5_nextToken_258 : decode cX5_nextToken 258 = .ok (.iaload, 1) := by decide +kernel
theorem dX5_nextToken_259 : decode cX5_nextToken 259 = .ok (.i2l, 1) := by decide +kernel
theorem dX5_nextToken_260 : decode cX5_nextToken 260 = .ok (.ladd, 1) := by decide +kernel
theorem dX5_nextToken_261 : decode cX5_nextToken 261 = .ok (.ldc2_w 242, 3) := by decide +kernel
theorem dX5_nextToken_264 : decode cX5_nextToken 264 = .ok (.lsub, 1) := by decide +kernel
theorem dX5_nextToken_265 : decode cX5_nextToken 265 = .ok (.putfield 219, 3) := by decide +kernel
theorem dX5_nextToken_268 : decode cX5_nextToken 268 = .ok (.aload_n 0, 1) := by decide +kernel
theorem dX5_nextToken_269 : decode cX5_nextToken 269 = .ok (.dup, 1) := by decide +kernel
theorem dX5_nextToken_270 : decode cX5_nextToken 270 = .ok (.getfield 213, 3) := by decide +kernel
theorem dX5_nextToken_273 : decode cX5_nextToken 273 = .ok (.iconst 1, 1) := by decide +kernel
theorem dX5_nextToken_274 : decode cX5_nextToken 274 = .ok (.iadd, 1) := by decide +kernel
theorem dX5_nextToken_275 : decode cX5_nextToken 275 = .ok (.putfield 213, 3) := by decide +kernel
theorem dX5_nextToken_278 : decode cX5_nextToken 278 = .ok (.goto (-81), 3) := by decide +kernel
theorem dX5_nextToken_281 : decode cX5_nextToken 281 = .ok (.aload_n 0, 1) := by decide +kernel
theorem dX5_nextToken_282 : decode cX5_nextToken 282 = .ok (.aload_n 0, 1) := by decide +kernel
theorem dX5_nextToken_283 : decode cX5_nextToken 283 = .ok (.getfield 219, 3) := by decide +kernel
theorem dX5_nextToken_286 : decode cX5_nextToken 286 = .ok (.ldc2_w 238, 3) := by decide +kernel
theorem dX5_nextToken_289 : decode cX5_nextToken 289 = .ok (.lcmp, 1) := by decide +kernel
theorem dX5_nextToken_290 : decode cX5_nextToken 290 = .ok (.ifCond .le 7, 3) := by decide +kernel
theorem dX5_nextToken_293 : decode cX5_nextToken 293 = .ok (.iconst 4, 1) := by decide +kernel
theorem dX5_nextToken_294 : decode cX5_nextToken 294 = .ok (.goto 4, 3) := by decide +kernel
theorem dX5_nextToken_297 : decode cX5_nextToken 297 = .ok (.iconst 2, 1) := by decide +kernel
theorem dX5_nextToken_298 : decode cX5_nextToken 298 = .ok (.putfield 223, 3) := by decide +kernel
theorem dX5_nextToken_301 : decode cX5_nextToken 301 = .ok (.goto 36, 3) := by decide +kernel
theorem dX5_nextToken_304 : decode cX5_nextToken 304 = .ok (.aload_n 0, 1) := by decide +kernel
theorem dX5_nextToken_305 : decode cX5_nextToken 305 = .ok (.aload_n 0, 1) := by decide +kernel
theorem dX5_nextToken_306 : decode cX5_nextToken 306 = .ok (.getfield 22, 3) := by decide +kernel
theorem dX5_nextToken_309 : decode cX5_nextToken 309 = .ok (.aload_n 0, 1) := by decide +kernel
theorem dX5_nextToken_310 : decode cX5_nextToken 310 = .ok (.getfield 216, 3) := by decide +kernel
theorem dX5_nextToken_313 : decode cX5_nextToken 313 = .ok (.iaload, 1) := by decide +kernel
theorem dX5_nextToken_314 : decode cX5_nextToken 314 = .ok (.bipush 59, 2) := by decide +kernel
theorem dX5_nextToken_316 : decode cX5_nextToken 316 = .ok (.if_icmp .ne 7, 3) := by decide +kernel
theorem dX5_nextToken_319 : decode cX5_nextToken 319 = .ok (.iconst 3, 1) := by decide +kernel
theorem dX5_nextToken_320 : decode cX5_nextToken 320 = .ok (.goto 4, 3) := by decide +kernel
theorem dX5_nextToken_323 : decode cX5_nextToken 323 = .ok (.iconst 4, 1) := by decide +kernel
theorem dX5_nextToken_324 : decode cX5_nextToken 324 = .ok (.putfield 223, 3) := by decide +kernel
theorem dX5_nextToken_327 : decode cX5_nextToken 327 = .ok (.aload_n 0, 1) := by decide +kernel
theorem dX5_nextToken_328 : decode cX5_nextToken 328 = .ok (.dup, 1) := by decide +kernel
theorem dX5_nextToken_329 : decode cX5_nextToken 329 = .ok (.getfield 213, 3) := by decide +kernel
theorem dX5_nextToken_332 : decode cX5_nextToken 332 = .ok (.iconst 1, 1) := by decide +kernel
theorem dX5_nextToken_333 : decode cX5_nextToken 333 = .ok (.iadd, 1) := by decide +kernel
theorem dX5_nextToken_334 : decode cX5_nextToken 334 = .ok (.putfield 213, 3) := by decide +kernel
theorem dX5_nextToken_337 : decode cX5_nextToken 337 = .ok (.return_, 1) := by decide +kernel
theorem dX5_wordOf_0 : decode cX5_wordOf 0 = .ok (.iconst (-1), 1) := by decide +kernel
theorem dX5_wordOf_1 : decode cX5_wordOf 1 = .ok (.istore_n 2, 1) := by decide +kernel
theorem dX5_wordOf_2 : decode cX5_wordOf 2 = .ok (.iconst 0, 1) := by decide +kernel
theorem dX5_wordOf_3 : decode cX5_wordOf 3 = .ok (.istore_n 3, 1) := by decide +kernel
theorem dX5_wordOf_4 : decode cX5_wordOf 4 = .ok (.iload_n 3, 1) := by decide +kernel
theorem dX5_wordOf_5 : decode cX5_wordOf 5 = .ok (.aload_n 1, 1) := by decide +kernel
theorem dX5_wordOf_6 : decode cX5_wordOf 6 = .ok (.arraylength, 1) := by decide +kernel
theorem dX5_wordOf_7 : decode cX5_wordOf 7 = .ok (.bipush 9, 2) := by decide +kernel
theorem dX5_wordOf_9 : decode cX5_wordOf 9 = .ok (.idiv, 1) := by decide +kernel
theorem dX5_wordOf_10 : decode cX5_wordOf 10 = .ok (.if_icmp .ge 94, 3) := by decide +kernel
theorem dX5_wordOf_13 : decode cX5_wordOf 13 = .ok (.aload_n 0, 1) := by decide +kernel
theorem dX5_wordOf_14 : decode cX5_wordOf 14 = .ok (.getfield 223, 3) := by decide +kernel
theorem dX5_wordOf_17 : decode cX5_wordOf 17 = .ok (.iconst 1, 1) := by decide +kernel
theorem dX5_wordOf_18 : decode cX5_wordOf 18 = .ok (.if_icmp .ne 86, 3) := by decide +kernel
theorem dX5_wordOf_21 : decode cX5_wordOf 21 = .ok (.lconst 0, 1) := by decide +kernel
theorem dX5_wordOf_22 : decode cX5_wordOf 22 = .ok (.lstore 4, 2) := by decide +kernel
theorem dX5_wordOf_24 : decode cX5_wordOf 24 = .ok (.iconst 0, 1) := by decide +kernel
theorem dX5_wordOf_25 : decode cX5_wordOf 25 = .ok (.istore 6, 2) := by decide +kernel
theorem dX5_wordOf_27 : decode cX5_wordOf 27 = .ok (.iload 6, 2) := by decide +kernel
theorem dX5_wordOf_29 : decode cX5_wordOf 29 = .ok (.bipush 9, 2) := by decide +kernel
theorem dX5_wordOf_31 : decode cX5_wordOf 31 = .ok (.if_icmp .ge 51, 3) := by decide +kernel
theorem dX5_wordOf_34 : decode cX5_wordOf 34 = .ok (.aload_n 1, 1) := by decide +kernel
theorem dX5_wordOf_35 : decode cX5_wordOf 35 = .ok (.bipush 9, 2) := by decide +kernel
theorem dX5_wordOf_37 : decode cX5_wordOf 37 = .ok (.iload_n 3, 1) := by decide +kernel
theorem dX5_wordOf_38 : decode cX5_wordOf 38 = .ok (.imul, 1) := by decide +kernel
theorem dX5_wordOf_39 : decode cX5_wordOf 39 = .ok (.iload 6, 2) := by decide +kernel
theorem dX5_wordOf_41 : decode cX5_wordOf 41 = .ok (.iadd, 1) := by decide +kernel
theorem dX5_wordOf_42 : decode cX5_wordOf 42 = .ok (.caload, 1) := by decide +kernel
theorem dX5_wordOf_43 : decode cX5_wordOf 43 = .ok (.bipush 32, 2) := by decide +kernel
theorem dX5_wordOf_45 : decode cX5_wordOf 45 = .ok (.if_icmp .ne 8, 3) := by decide +kernel
theorem dX5_wordOf_48 : decode cX5_wordOf 48 = .ok (.lload 4, 2) := by decide +kernel
theorem dX5_wordOf_50 : decode cX5_wordOf 50 = .ok (.goto 24, 3) := by decide +kernel
theorem dX5_wordOf_53 : decode cX5_wordOf 53 = .ok (.lload 4, 2) := by decide +kernel
theorem dX5_wordOf_55 : decode cX5_wordOf 55 = .ok (.ldc2_w 231, 3) := by decide +kernel
theorem dX5_wordOf_58 : decode cX5_wordOf 58 = .ok (.lmul, 1) := by decide +kernel
theorem dX5_wordOf_59 : decode cX5_wordOf 59 = .ok (.aload_n 1, 1) := by decide +kernel
theorem dX5_wordOf_60 : decode cX5_wordOf 60 = .ok (.bipush 9, 2) := by decide +kernel
theorem dX5_wordOf_62 : decode cX5_wordOf 62 = .ok (.iload_n 3, 1) := by decide +kernel
theorem dX5_wordOf_63 : decode cX5_wordOf 63 = .ok (.imul, 1) := by decide +kernel
theorem dX5_wordOf_64 : decode cX5_wordOf 64 = .ok (.iload 6, 2) := by decide +kernel
theorem dX5_wordOf_66 : decode cX5_wordOf 66 = .ok (.iadd, 1) := by decide +kernel
theorem dX5_wordOf_67 : decode cX5_wordOf 67 = .ok (.caload, 1) := by decide +kernel
theorem dX5_wordOf_68 : decode cX5_wordOf 68 = .ok (.i2l, 1) := by decide +kernel
theorem dX5_wordOf_69 : decode cX5_wordOf 69 = .ok (.ladd, 1) := by decide +kernel
theorem dX5_wordOf_70 : decode cX5_wordOf 70 = .ok (.ldc2_w 233, 3) := by decide +kernel
theorem dX5_wordOf_73 : decode cX5_wordOf 73 = .ok (.lsub, 1) := by decide +kernel
theorem dX5_wordOf_74 : decode cX5_wordOf 74 = .ok (.lstore 4, 2) := by decide +kernel
theorem dX5_wordOf_76 : decode cX5_wordOf 76 = .ok (.iinc 6 1, 3) := by decide +kernel
theorem dX5_wordOf_79 : decode cX5_wordOf 79 = .ok (.goto (-52), 3) := by decide +kernel
theorem dX5_wordOf_82 : decode cX5_wordOf 82 = .ok (.lload 4, 2) := by decide +kernel
theorem dX5_wordOf_84 : decode cX5_wordOf 84 = .ok (.aload_n 0, 1) := by decide +kernel
theorem dX5_wordOf_85 : decode cX5_wordOf 85 = .ok (.getfield 219, 3) := by decide +kernel
theorem dX5_wordOf_88 : decode cX5_wordOf 88 = .ok (.lcmp, 1) := by decide +kernel
theorem dX5_wordOf_89 : decode cX5_wordOf 89 = .ok (.ifCond .ne 7, 3) := by decide +kernel
theorem dX5_wordOf_92 : decode cX5_wordOf 92 = .ok (.iload_n 3, 1) := by decide +kernel
theorem dX5_wordOf_93 : decode cX5_wordOf 93 = .ok (.goto 4, 3) := by decide +kernel
theorem dX5_wordOf_96 : decode cX5_wordOf 96 = .ok (.iload_n 2, 1) := by decide +kernel
theorem dX5_wordOf_97 : decode cX5_wordOf 97 = .ok (.istore_n 2, 1) := by decide +kernel
theorem dX5_wordOf_98 : decode cX5_wordOf 98 = .ok (.iinc 3 1, 3) := by decide +kernel
theorem dX5_wordOf_101 : decode cX5_wordOf 101 = .ok (.goto (-97), 3) := by decide +kernel
theorem dX5_wordOf_104 : decode cX5_wordOf 104 = .ok (.iload_n 2, 1) := by decide +kernel
theorem dX5_wordOf_105 : decode cX5_wordOf 105 = .ok (.ireturn, 1) := by decide +kernel
theorem dX5_takesNumber_0 : decode cX5_takesNumber 0 = .ok (.aload_n 0, 1) := by decide +kernel
theorem dX5_takesNumber_1 : decode cX5_takesNumber 1 = .ok (.getfield 223, 3) := by decide +kernel
theorem dX5_takesNumber_4 : decode cX5_takesNumber 4 = .ok (.iconst 2, 1) := by decide +kernel
theorem dX5_takesNumber_5 : decode cX5_takesNumber 5 = .ok (.if_icmp .ne 24, 3) := by decide +kernel
theorem dX5_takesNumber_8 : decode cX5_takesNumber 8 = .ok (.aload_n 0, 1) := by decide +kernel
theorem dX5_takesNumber_9 : decode cX5_takesNumber 9 = .ok (.getfield 219, 3) := by decide +kernel
theorem dX5_takesNumber_12 : decode cX5_takesNumber 12 = .ok (.l2i, 1) := by decide +kernel
theorem dX5_takesNumber_13 : decode cX5_takesNumber 13 = .ok (.iload_n 1, 1) := by decide +kernel
theorem dX5_takesNumber_14 : decode cX5_takesNumber 14 = .ok (.iload_n 2, 1) := by decide +kernel
theorem dX5_takesNumber_15 : decode cX5_takesNumber 15 = .ok (.invokestatic 48, 3) := by decide +kernel
theorem dX5_takesNumber_18 : decode cX5_takesNumber 18 = .ok (.ifCond .eq 11, 3) := by decide +kernel
theorem dX5_takesNumber_21 : decode cX5_takesNumber 21 = .ok (.aload_n 0, 1) := by decide +kernel
theorem dX5_takesNumber_22 : decode cX5_takesNumber 22 = .ok (.getfield 219, 3) := by decide +kernel
theorem dX5_takesNumber_25 : decode cX5_takesNumber 25 = .ok (.l2i, 1) := by decide +kernel
theorem dX5_takesNumber_26 : decode cX5_takesNumber 26 = .ok (.goto 4, 3) := by decide +kernel
theorem dX5_takesNumber_29 : decode cX5_takesNumber 29 = .ok (.iconst (-1), 1) := by decide +kernel
theorem dX5_takesNumber_30 : decode cX5_takesNumber 30 = .ok (.istore_n 3, 1) := by decide +kernel
theorem dX5_takesNumber_31 : decode cX5_takesNumber 31 = .ok (.iload_n 3, 1) := by decide +kernel
theorem dX5_takesNumber_32 : decode cX5_takesNumber 32 = .ok (.ifCond .lt 7, 3) := by decide +kernel
theorem dX5_takesNumber_35 : decode cX5_takesNumber 35 = .ok (.aload_n 0, 1) := by decide +kernel
theorem dX5_takesNumber_36 : decode cX5_takesNumber 36 = .ok (.invokevirtual 244, 3) := by decide +kernel
theorem dX5_takesNumber_39 : decode cX5_takesNumber 39 = .ok (.iload_n 3, 1) := by decide +kernel
theorem dX5_takesNumber_40 : decode cX5_takesNumber 40 = .ok (.ireturn, 1) := by decide +kernel
theorem dX5_readsPerson_0 : decode cX5_readsPerson 0 = .ok (.aload_n 0, 1) := by decide +kernel
theorem dX5_readsPerson_1 : decode cX5_readsPerson 1 = .ok (.getfield 9, 3) := by decide +kernel
theorem dX5_readsPerson_4 : decode cX5_readsPerson 4 = .ok (.iconst 1, 1) := by decide +kernel
theorem dX5_readsPerson_5 : decode cX5_readsPerson 5 = .ok (.iaload, 1) := by decide +kernel
theorem dX5_readsPerson_6 : decode cX5_readsPerson 6 = .ok (.bipush 8, 2) := by decide +kernel
theorem dX5_readsPerson_8 : decode cX5_readsPerson 8 = .ok (.if_icmp .ne 5, 3) := by decide +kernel
theorem dX5_readsPerson_11 : decode cX5_readsPerson 11 = .ok (.iconst 0, 1) := by decide +kernel
theorem dX5_readsPerson_12 : decode cX5_readsPerson 12 = .ok (.ireturn, 1) := by decide +kernel
theorem dX5_readsPerson_13 : decode cX5_readsPerson 13 = .ok (.aload_n 0, 1) := by decide +kernel
theorem dX5_readsPerson_14 : decode cX5_readsPerson 14 = .ok (.getfield 9, 3) := by decide +kernel
end
section
theorem dX5_readsPerson_17 : decode cX5_readsPerson 17 = .ok (.iconst 1, 1) := by decide +kernel
theorem dX5_readsPerson_18 : decode cX5_readsPerson 18 = .ok (.iaload, 1) := by decide +kernel
theorem dX5_readsPerson_19 : decode cX5_readsPerson 19 = .ok (.istore_n 2, 1) := by decide +kernel
theorem dX5_readsPerson_20 : decode cX5_readsPerson 20 = .ok (.aload_n 0, 1) := by decide +kernel
theorem dX5_readsPerson_21 : decode cX5_readsPerson 21 = .ok (.iload_n 1, 1) := by decide +kernel
theorem dX5_readsPerson_22 : decode cX5_readsPerson 22 = .ok (.invokevirtual 131, 3) := by decide +kernel
theorem dX5_readsPerson_25 : decode cX5_readsPerson 25 = .ok (.aload_n 0, 1) := by decide +kernel
theorem dX5_readsPerson_26 : decode cX5_readsPerson 26 = .ok (.invokevirtual 244, 3) := by decide +kernel
theorem dX5_readsPerson_29 : decode cX5_readsPerson 29 = .ok (.iconst 0, 1) := by decide +kernel
theorem dX5_readsPerson_30 : decode cX5_readsPerson 30 = .ok (.istore_n 3, 1) := by decide +kernel
theorem dX5_readsPerson_31 : decode cX5_readsPerson 31 = .ok (.iload_n 3, 1) := by decide +kernel
theorem dX5_readsPerson_32 : decode cX5_readsPerson 32 = .ok (.iconst 2, 1) := by decide +kernel
theorem dX5_readsPerson_33 : decode cX5_readsPerson 33 = .ok (.if_icmp .ge 60, 3) := by decide +kernel
theorem dX5_readsPerson_36 : decode cX5_readsPerson 36 = .ok (.aload_n 0, 1) := by decide +kernel
theorem dX5_readsPerson_37 : decode cX5_readsPerson 37 = .ok (.aload_n 0, 1) := by decide +kernel
theorem dX5_readsPerson_38 : decode cX5_readsPerson 38 = .ok (.getfield 29, 3) := by decide +kernel
theorem dX5_readsPerson_41 : decode cX5_readsPerson 41 = .ok (.invokevirtual 247, 3) := by decide +kernel
theorem dX5_readsPerson_44 : decode cX5_readsPerson 44 = .ok (.iload_n 3, 1) := by decide +kernel
theorem dX5_readsPerson_45 : decode cX5_readsPerson 45 = .ok (.if_icmp .ne 42, 3) := by decide +kernel
theorem dX5_readsPerson_48 : decode cX5_readsPerson 48 = .ok (.aload_n 0, 1) := by decide +kernel
theorem dX5_readsPerson_49 : decode cX5_readsPerson 49 = .ok (.invokevirtual 244, 3) := by decide +kernel
theorem dX5_readsPerson_52 : decode cX5_readsPerson 52 = .ok (.aload_n 0, 1) := by decide +kernel
theorem dX5_readsPerson_53 : decode cX5_readsPerson 53 = .ok (.iconst 0, 1) := by decide +kernel
theorem dX5_readsPerson_54 : decode cX5_readsPerson 54 = .ok (.iload_n 3, 1) := by decide +kernel
theorem dX5_readsPerson_55 : decode cX5_readsPerson 55 = .ok (.ifCond .ne 8, 3) := by decide +kernel
theorem dX5_readsPerson_58 : decode cX5_readsPerson 58 = .ok (.bipush 15, 2) := by decide +kernel
theorem dX5_readsPerson_60 : decode cX5_readsPerson 60 = .ok (.goto 5, 3) := by decide +kernel
theorem dX5_readsPerson_63 : decode cX5_readsPerson 63 = .ok (.bipush 11, 2) := by decide +kernel
theorem dX5_readsPerson_65 : decode cX5_readsPerson 65 = .ok (.invokevirtual 251, 3) := by decide +kernel
theorem dX5_readsPerson_68 : decode cX5_readsPerson 68 = .ok (.istore 4, 2) := by decide +kernel
theorem dX5_readsPerson_70 : decode cX5_readsPerson 70 = .ok (.iload 4, 2) := by decide +kernel
theorem dX5_readsPerson_72 : decode cX5_readsPerson 72 = .ok (.ifCond .ge 5, 3) := by decide +kernel
theorem dX5_readsPerson_75 : decode cX5_readsPerson 75 = .ok (.iconst 0, 1) := by decide +kernel
theorem dX5_readsPerson_76 : decode cX5_readsPerson 76 = .ok (.ireturn, 1) := by decide +kernel
theorem dX5_readsPerson_77 : decode cX5_readsPerson 77 = .ok (.aload_n 0, 1) := by decide +kernel
theorem dX5_readsPerson_78 : decode cX5_readsPerson 78 = .ok (.iload_n 2, 1) := by decide +kernel
theorem dX5_readsPerson_79 : decode cX5_readsPerson 79 = .ok (.iconst 1, 1) := by decide +kernel
theorem dX5_readsPerson_80 : decode cX5_readsPerson 80 = .ok (.iload_n 3, 1) := by decide +kernel
theorem dX5_readsPerson_81 : decode cX5_readsPerson 81 = .ok (.iadd, 1) := by decide +kernel
theorem dX5_readsPerson_82 : decode cX5_readsPerson 82 = .ok (.iload 4, 2) := by decide +kernel
theorem dX5_readsPerson_84 : decode cX5_readsPerson 84 = .ok (.invokevirtual 81, 3) := by decide +kernel
theorem dX5_readsPerson_87 : decode cX5_readsPerson 87 = .ok (.iinc 3 1, 3) := by decide +kernel
theorem dX5_readsPerson_90 : decode cX5_readsPerson 90 = .ok (.goto (-59), 3) := by decide +kernel
theorem dX5_readsPerson_93 : decode cX5_readsPerson 93 = .ok (.aload_n 0, 1) := by decide +kernel
theorem dX5_readsPerson_94 : decode cX5_readsPerson 94 = .ok (.aload_n 0, 1) := by decide +kernel
theorem dX5_readsPerson_95 : decode cX5_readsPerson 95 = .ok (.getfield 29, 3) := by decide +kernel
theorem dX5_readsPerson_98 : decode cX5_readsPerson 98 = .ok (.invokevirtual 247, 3) := by decide +kernel
theorem dX5_readsPerson_101 : decode cX5_readsPerson 101 = .ok (.iconst 2, 1) := by decide +kernel
theorem dX5_readsPerson_102 : decode cX5_readsPerson 102 = .ok (.if_icmp .ne 14, 3) := by decide +kernel
theorem dX5_readsPerson_105 : decode cX5_readsPerson 105 = .ok (.aload_n 0, 1) := by decide +kernel
theorem dX5_readsPerson_106 : decode cX5_readsPerson 106 = .ok (.invokevirtual 244, 3) := by decide +kernel
theorem dX5_readsPerson_109 : decode cX5_readsPerson 109 = .ok (.aload_n 0, 1) := by decide +kernel
theorem dX5_readsPerson_110 : decode cX5_readsPerson 110 = .ok (.iload_n 2, 1) := by decide +kernel
theorem dX5_readsPerson_111 : decode cX5_readsPerson 111 = .ok (.iconst 5, 1) := by decide +kernel
theorem dX5_readsPerson_112 : decode cX5_readsPerson 112 = .ok (.iconst 1, 1) := by decide +kernel
theorem dX5_readsPerson_113 : decode cX5_readsPerson 113 = .ok (.invokevirtual 81, 3) := by decide +kernel
theorem dX5_readsPerson_116 : decode cX5_readsPerson 116 = .ok (.iconst 1, 1) := by decide +kernel
theorem dX5_readsPerson_117 : decode cX5_readsPerson 117 = .ok (.ireturn, 1) := by decide +kernel
theorem dX5_readsMet_0 : decode cX5_readsMet 0 = .ok (.aload_n 0, 1) := by decide +kernel
theorem dX5_readsMet_1 : decode cX5_readsMet 1 = .ok (.iconst 0, 1) := by decide +kernel
theorem dX5_readsMet_2 : decode cX5_readsMet 2 = .ok (.aload_n 0, 1) := by decide +kernel
theorem dX5_readsMet_3 : decode cX5_readsMet 3 = .ok (.getfield 9, 3) := by decide +kernel
theorem dX5_readsMet_6 : decode cX5_readsMet 6 = .ok (.iconst 1, 1) := by decide +kernel
theorem dX5_readsMet_7 : decode cX5_readsMet 7 = .ok (.iaload, 1) := by decide +kernel
theorem dX5_readsMet_8 : decode cX5_readsMet 8 = .ok (.iconst 1, 1) := by decide +kernel
theorem dX5_readsMet_9 : decode cX5_readsMet 9 = .ok (.isub, 1) := by decide +kernel
theorem dX5_readsMet_10 : decode cX5_readsMet 10 = .ok (.invokevirtual 251, 3) := by decide +kernel
theorem dX5_readsMet_13 : decode cX5_readsMet 13 = .ok (.istore_n 1, 1) := by decide +kernel
theorem dX5_readsMet_14 : decode cX5_readsMet 14 = .ok (.iload_n 1, 1) := by decide +kernel
theorem dX5_readsMet_15 : decode cX5_readsMet 15 = .ok (.ifCond .lt 21, 3) := by decide +kernel
theorem dX5_readsMet_18 : decode cX5_readsMet 18 = .ok (.aload_n 0, 1) := by decide +kernel
theorem dX5_readsMet_19 : decode cX5_readsMet 19 = .ok (.getfield 223, 3) := by decide +kernel
theorem dX5_readsMet_22 : decode cX5_readsMet 22 = .ok (.iconst 2, 1) := by decide +kernel
theorem dX5_readsMet_23 : decode cX5_readsMet 23 = .ok (.if_icmp .ne 15, 3) := by decide +kernel
theorem dX5_readsMet_26 : decode cX5_readsMet 26 = .ok (.aload_n 0, 1) := by decide +kernel
theorem dX5_readsMet_27 : decode cX5_readsMet 27 = .ok (.getfield 219, 3) := by decide +kernel
theorem dX5_readsMet_30 : decode cX5_readsMet 30 = .ok (.iload_n 1, 1) := by decide +kernel
theorem dX5_readsMet_31 : decode cX5_readsMet 31 = .ok (.i2l, 1) := by decide +kernel
theorem dX5_readsMet_32 : decode cX5_readsMet 32 = .ok (.lcmp, 1) := by decide +kernel
theorem dX5_readsMet_33 : decode cX5_readsMet 33 = .ok (.ifCond .ne 5, 3) := by decide +kernel
theorem dX5_readsMet_36 : decode cX5_readsMet 36 = .ok (.iconst 0, 1) := by decide +kernel
theorem dX5_readsMet_37 : decode cX5_readsMet 37 = .ok (.ireturn, 1) := by decide +kernel
theorem dX5_readsMet_38 : decode cX5_readsMet 38 = .ok (.aload_n 0, 1) := by decide +kernel
theorem dX5_readsMet_39 : decode cX5_readsMet 39 = .ok (.iconst 0, 1) := by decide +kernel
theorem dX5_readsMet_40 : decode cX5_readsMet 40 = .ok (.aload_n 0, 1) := by decide +kernel
theorem dX5_readsMet_41 : decode cX5_readsMet 41 = .ok (.getfield 9, 3) := by decide +kernel
theorem dX5_readsMet_44 : decode cX5_readsMet 44 = .ok (.iconst 1, 1) := by decide +kernel
theorem dX5_readsMet_45 : decode cX5_readsMet 45 = .ok (.iaload, 1) := by decide +kernel
theorem dX5_readsMet_46 : decode cX5_readsMet 46 = .ok (.iconst 1, 1) := by decide +kernel
theorem dX5_readsMet_47 : decode cX5_readsMet 47 = .ok (.isub, 1) := by decide +kernel
theorem dX5_readsMet_48 : decode cX5_readsMet 48 = .ok (.invokevirtual 251, 3) := by decide +kernel
theorem dX5_readsMet_51 : decode cX5_readsMet 51 = .ok (.istore_n 2, 1) := by decide +kernel
theorem dX5_readsMet_52 : decode cX5_readsMet 52 = .ok (.iload_n 2, 1) := by decide +kernel
theorem dX5_readsMet_53 : decode cX5_readsMet 53 = .ok (.ifCond .lt 35, 3) := by decide +kernel
theorem dX5_readsMet_56 : decode cX5_readsMet 56 = .ok (.aload_n 0, 1) := by decide +kernel
theorem dX5_readsMet_57 : decode cX5_readsMet 57 = .ok (.iload_n 1, 1) := by decide +kernel
theorem dX5_readsMet_58 : decode cX5_readsMet 58 = .ok (.iconst 3, 1) := by decide +kernel
theorem dX5_readsMet_59 : decode cX5_readsMet 59 = .ok (.aload_n 0, 1) := by decide +kernel
theorem dX5_readsMet_60 : decode cX5_readsMet 60 = .ok (.iload_n 1, 1) := by decide +kernel
theorem dX5_readsMet_61 : decode cX5_readsMet 61 = .ok (.iconst 3, 1) := by decide +kernel
theorem dX5_readsMet_62 : decode cX5_readsMet 62 = .ok (.invokevirtual 56, 3) := by decide +kernel
theorem dX5_readsMet_65 : decode cX5_readsMet 65 = .ok (.iconst 1, 1) := by decide +kernel
theorem dX5_readsMet_66 : decode cX5_readsMet 66 = .ok (.iload_n 2, 1) := by decide +kernel
theorem dX5_readsMet_67 : decode cX5_readsMet 67 = .ok (.ishl, 1) := by decide +kernel
theorem dX5_readsMet_68 : decode cX5_readsMet 68 = .ok (.ior, 1) := by decide +kernel
theorem dX5_readsMet_69 : decode cX5_readsMet 69 = .ok (.invokevirtual 81, 3) := by decide +kernel
theorem dX5_readsMet_72 : decode cX5_readsMet 72 = .ok (.aload_n 0, 1) := by decide +kernel
theorem dX5_readsMet_73 : decode cX5_readsMet 73 = .ok (.iload_n 2, 1) := by decide +kernel
theorem dX5_readsMet_74 : decode cX5_readsMet 74 = .ok (.iconst 3, 1) := by decide +kernel
theorem dX5_readsMet_75 : decode cX5_readsMet 75 = .ok (.aload_n 0, 1) := by decide +kernel
theorem dX5_readsMet_76 : decode cX5_readsMet 76 = .ok (.iload_n 2, 1) := by decide +kernel
theorem dX5_readsMet_77 : decode cX5_readsMet 77 = .ok (.iconst 3, 1) := by decide +kernel
theorem dX5_readsMet_78 : decode cX5_readsMet 78 = .ok (.invokevirtual 56, 3) := by decide +kernel
theorem dX5_readsMet_81 : decode cX5_readsMet 81 = .ok (.iconst 1, 1) := by decide +kernel
theorem dX5_readsMet_82 : decode cX5_readsMet 82 = .ok (.iload_n 1, 1) := by decide +kernel
theorem dX5_readsMet_83 : decode cX5_readsMet 83 = .ok (.ishl, 1) := by decide +kernel
theorem dX5_readsMet_84 : decode cX5_readsMet 84 = .ok (.ior, 1) := by decide +kernel
theorem dX5_readsMet_85 : decode cX5_readsMet 85 = .ok (.invokevirtual 81, 3) := by decide +kernel
theorem dX5_readsMet_88 : decode cX5_readsMet 88 = .ok (.iload_n 2, 1) := by decide +kernel
theorem dX5_readsMet_89 : decode cX5_readsMet 89 = .ok (.ifCond .lt 7, 3) := by decide +kernel
theorem dX5_readsMet_92 : decode cX5_readsMet 92 = .ok (.iconst 1, 1) := by decide +kernel
theorem dX5_readsMet_93 : decode cX5_readsMet 93 = .ok (.goto 4, 3) := by decide +kernel
theorem dX5_readsMet_96 : decode cX5_readsMet 96 = .ok (.iconst 0, 1) := by decide +kernel
theorem dX5_readsMet_97 : decode cX5_readsMet 97 = .ok (.ireturn, 1) := by decide +kernel
theorem dX5_readsItem_0 : decode cX5_readsItem 0 = .ok (.aload_n 0, 1) := by decide +kernel
theorem dX5_readsItem_1 : decode cX5_readsItem 1 = .ok (.aload_n 0, 1) := by decide +kernel
theorem dX5_readsItem_2 : decode cX5_readsItem 2 = .ok (.getfield 25, 3) := by decide +kernel
theorem dX5_readsItem_5 : decode cX5_readsItem 5 = .ok (.invokevirtual 247, 3) := by decide +kernel
theorem dX5_readsItem_8 : decode cX5_readsItem 8 = .ok (.istore_n 1, 1) := by decide +kernel
theorem dX5_readsItem_9 : decode cX5_readsItem 9 = .ok (.iload_n 1, 1) := by decide +kernel
theorem dX5_readsItem_10 : decode cX5_readsItem 10 = .ok (.ifCond .lt 9, 3) := by decide +kernel
theorem dX5_readsItem_13 : decode cX5_readsItem 13 = .ok (.aload_n 0, 1) := by decide +kernel
theorem dX5_readsItem_14 : decode cX5_readsItem 14 = .ok (.iload_n 1, 1) := by decide +kernel
theorem dX5_readsItem_15 : decode cX5_readsItem 15 = .ok (.invokevirtual 254, 3) := by decide +kernel
theorem dX5_readsItem_18 : decode cX5_readsItem 18 = .ok (.ireturn, 1) := by decide +kernel
theorem dX5_readsItem_19 : decode cX5_readsItem 19 = .ok (.aload_n 0, 1) := by decide +kernel
theorem dX5_readsItem_20 : decode cX5_readsItem 20 = .ok (.aload_n 0, 1) := by decide +kernel
theorem dX5_readsItem_21 : decode cX5_readsItem 21 = .ok (.getfield 32, 3) := by decide +kernel
theorem dX5_readsItem_24 : decode cX5_readsItem 24 = .ok (.invokevirtual 247, 3) := by decide +kernel
theorem dX5_readsItem_27 : decode cX5_readsItem 27 = .ok (.istore_n 2, 1) := by decide +kernel
theorem dX5_readsItem_28 : decode cX5_readsItem 28 = .ok (.iload_n 2, 1) := by decide +kernel
theorem dX5_readsItem_29 : decode cX5_readsItem 29 = .ok (.ifCond .ge 5, 3) := by decide +kernel
theorem dX5_readsItem_32 : decode cX5_readsItem 32 = .ok (.iconst 0, 1) := by decide +kernel
theorem dX5_readsItem_33 : decode cX5_readsItem 33 = .ok (.ireturn, 1) := by decide +kernel
theorem dX5_readsItem_34 : decode cX5_readsItem 34 = .ok (.aload_n 0, 1) := by decide +kernel
theorem dX5_readsItem_35 : decode cX5_readsItem 35 = .ok (.invokevirtual 244, 3) := by decide +kernel
theorem dX5_readsItem_38 : decode cX5_readsItem 38 = .ok (.iload_n 2, 1) := by decide +kernel
theorem dX5_readsItem_39 : decode cX5_readsItem 39 = .ok (.ifCond .ne 8, 3) := by decide +kernel
theorem dX5_readsItem_42 : decode cX5_readsItem 42 = .ok (.aload_n 0, 1) := by decide +kernel
theorem dX5_readsItem_43 : decode cX5_readsItem 43 = .ok (.invokevirtual 257, 3) := by decide +kernel
theorem dX5_readsItem_46 : decode cX5_readsItem 46 = .ok (.ireturn, 1) := by decide +kernel
theorem dX5_readsItem_47 : decode cX5_readsItem 47 = .ok (.aload_n 0, 1) := by decide +kernel
theorem dX5_readsItem_48 : decode cX5_readsItem 48 = .ok (.iconst 0, 1) := by decide +kernel
theorem dX5_readsItem_49 : decode cX5_readsItem 49 = .ok (.bipush 11, 2) := by decide +kernel
theorem dX5_readsItem_51 : decode cX5_readsItem 51 = .ok (.invokevirtual 251, 3) := by decide +kernel
theorem dX5_readsItem_54 : decode cX5_readsItem 54 = .ok (.istore_n 3, 1) := by decide +kernel
theorem dX5_readsItem_55 : decode cX5_readsItem 55 = .ok (.aload_n 0, 1) := by decide +kernel
theorem dX5_readsItem_56 : decode cX5_readsItem 56 = .ok (.getfield 9, 3) := by decide +kernel
theorem dX5_readsItem_59 : decode cX5_readsItem 59 = .ok (.iconst 0, 1) := by decide +kernel
theorem dX5_readsItem_60 : decode cX5_readsItem 60 = .ok (.iload_n 3, 1) := by decide +kernel
theorem dX5_readsItem_61 : decode cX5_readsItem 61 = .ok (.ifCond .ge 12, 3) := by decide +kernel
theorem dX5_readsItem_64 : decode cX5_readsItem 64 = .ok (.aload_n 0, 1) := by decide +kernel
theorem dX5_readsItem_65 : decode cX5_readsItem 65 = .ok (.getfield 9, 3) := by decide +kernel
theorem dX5_readsItem_68 : decode cX5_readsItem 68 = .ok (.iconst 0, 1) := by decide +kernel
theorem dX5_readsItem_69 : decode cX5_readsItem 69 = .ok (.iaload, 1) := by decide +kernel
theorem dX5_readsItem_70 : decode cX5_readsItem 70 = .ok (.goto 16, 3) := by decide +kernel
theorem dX5_readsItem_73 : decode cX5_readsItem 73 = .ok (.ldc 88, 2) := by decide +kernel
theorem dX5_readsItem_75 : decode cX5_readsItem 75 = .ok (.aload_n 0, 1) := by decide +kernel
theorem dX5_readsItem_76 : decode cX5_readsItem 76 = .ok (.getfield 9, 3) := by decide +kernel
theorem dX5_readsItem_79 : decode cX5_readsItem 79 = .ok (.iconst 0, 1) := by decide +kernel
theorem dX5_readsItem_80 : decode cX5_readsItem 80 = .ok (.iaload, 1) := by decide +kernel
theorem dX5_readsItem_81 : decode cX5_readsItem 81 = .ok (.iload_n 3, 1) := by decide +kernel
theorem dX5_readsItem_82 : decode cX5_readsItem 82 = .ok (.iadd, 1) := by decide +kernel
theorem dX5_readsItem_83 : decode cX5_readsItem 83 = .ok (.invokestatic 68, 3) := by decide +kernel
theorem dX5_readsItem_86 : decode cX5_readsItem 86 = .ok (.iastore, 1) := by decide +kernel
theorem dX5_readsItem_87 : decode cX5_readsItem 87 = .ok (.iload_n 3, 1) := by decide +kernel
theorem dX5_readsItem_88 : decode cX5_readsItem 88 = .ok (.ifCond .lt 7, 3) := by decide +kernel
theorem dX5_readsItem_91 : decode cX5_readsItem 91 = .ok (.iconst 1, 1) := by decide +kernel
theorem dX5_readsItem_92 : decode cX5_readsItem 92 = .ok (.goto 4, 3) := by decide +kernel
theorem dX5_readsItem_95 : decode cX5_readsItem 95 = .ok (.iconst 0, 1) := by decide +kernel
theorem dX5_readsItem_96 : decode cX5_readsItem 96 = .ok (.ireturn, 1) := by decide +kernel
theorem dX5_text_0 : decode cX5_text 0 = .ok (.aload_n 0, 1) := by decide +kernel
theorem dX5_text_1 : decode cX5_text 1 = .ok (.invokevirtual 159, 3) := by decide +kernel
theorem dX5_text_4 : decode cX5_text 4 = .ok (.aload_n 0, 1) := by decide +kernel
theorem dX5_text_5 : decode cX5_text 5 = .ok (.iconst 0, 1) := by decide +kernel
theorem dX5_text_6 : decode cX5_text 6 = .ok (.putfield 213, 3) := by decide +kernel
theorem dX5_text_9 : decode cX5_text 9 = .ok (.aload_n 0, 1) := by decide +kernel
theorem dX5_text_10 : decode cX5_text 10 = .ok (.invokevirtual 244, 3) := by decide +kernel
theorem dX5_text_13 : decode cX5_text 13 = .ok (.iconst 1, 1) := by decide +kernel
theorem dX5_text_14 : decode cX5_text 14 = .ok (.istore_n 1, 1) := by decide +kernel
theorem dX5_text_15 : decode cX5_text 15 = .ok (.aload_n 0, 1) := by decide +kernel
theorem dX5_text_16 : decode cX5_text 16 = .ok (.invokevirtual 260, 3) := by decide +kernel
theorem dX5_text_19 : decode cX5_text 19 = .ok (.istore_n 2, 1) := by decide +kernel
theorem dX5_text_20 : decode cX5_text 20 = .ok (.iload_n 2, 1) := by decide +kernel
theorem dX5_text_21 : decode cX5_text 21 = .ok (.ifCond .eq 26, 3) := by decide +kernel
theorem dX5_text_24 : decode cX5_text 24 = .ok (.aload_n 0, 1) := by decide +kernel
theorem dX5_text_25 : decode cX5_text 25 = .ok (.getfield 223, 3) := by decide +kernel
theorem dX5_text_28 : decode cX5_text 28 = .ok (.iconst 3, 1) := by decide +kernel
theorem dX5_text_29 : decode cX5_text 29 = .ok (.if_icmp .ne 18, 3) := by decide +kernel
theorem dX5_text_32 : decode cX5_text 32 = .ok (.aload_n 0, 1) := by decide +kernel
theorem dX5_text_33 : decode cX5_text 33 = .ok (.invokevirtual 244, 3) := by decide +kernel
theorem dX5_text_36 : decode cX5_text 36 = .ok (.aload_n 0, 1) := by decide +kernel
theorem dX5_text_37 : decode cX5_text 37 = .ok (.invokevirtual 260, 3) := by decide +kernel
theorem dX5_text_40 : decode cX5_text 40 = .ok (.istore_n 2, 1) := by decide +kernel
theorem dX5_text_41 : decode cX5_text 41 = .ok (.iinc 1 1, 3) := by decide +kernel
theorem dX5_text_44 : decode cX5_text 44 = .ok (.goto (-24), 3) := by decide +kernel
theorem dX5_text_47 : decode cX5_text 47 = .ok (.iload_n 2, 1) := by decide +kernel
theorem dX5_text_48 : decode cX5_text 48 = .ok (.ifCond .eq 14, 3) := by decide +kernel
theorem dX5_text_51 : decode cX5_text 51 = .ok (.aload_n 0, 1) := by decide +kernel
theorem dX5_text_52 : decode cX5_text 52 = .ok (.getfield 223, 3) := by decide +kernel
theorem dX5_text_55 : decode cX5_text 55 = .ok (.ifCond .ne 7, 3) := by decide +kernel
theorem dX5_text_58 : decode cX5_text 58 = .ok (.iconst 1, 1) := by decide +kernel
theorem dX5_text_59 : decode cX5_text 59 = .ok (.goto 4, 3) := by decide +kernel
theorem dX5_text_62 : decode cX5_text 62 = .ok (.iconst 0, 1) := by decide +kernel
theorem dX5_text_63 : decode cX5_text 63 = .ok (.istore_n 2, 1) := by decide +kernel
theorem dX5_text_64 : decode cX5_text 64 = .ok (.aload_n 0, 1) := by decide +kernel
theorem dX5_text_65 : decode cX5_text 65 = .ok (.iconst 0, 1) := by decide +kernel
theorem dX5_text_66 : decode cX5_text 66 = .ok (.putfield 209, 3) := by decide +kernel
theorem dX5_text_69 : decode cX5_text 69 = .ok (.iload_n 2, 1) := by decide +kernel
theorem dX5_text_70 : decode cX5_text 70 = .ok (.ifCond .ne 14, 3) := by decide +kernel
theorem dX5_text_73 : decode cX5_text 73 = .ok (.aload_n 0, 1) := by decide +kernel
theorem dX5_text_74 : decode cX5_text 74 = .ok (.invokevirtual 162, 3) := by decide +kernel
theorem dX5_text_77 : decode cX5_text 77 = .ok (.iconst (-1), 1) := by decide +kernel
theorem dX5_text_78 : decode cX5_text 78 = .ok (.aload_n 0, 1) := by decide +kernel
theorem dX5_text_79 : decode cX5_text 79 = .ok (.getfield 216, 3) := by decide +kernel
theorem dX5_text_82 : decode cX5_text 82 = .ok (.isub, 1) := by decide +kernel
theorem dX5_text_83 : decode cX5_text 83 = .ok (.ireturn, 1) := by decide +kernel
theorem dX5_text_84 : decode cX5_text 84 = .ok (.iload_n 1, 1) := by decide +kernel
theorem dX5_text_85 : decode cX5_text 85 = .ok (.ireturn, 1) := by decide +kernel
theorem dX5_isSpot_0 : decode cX5_isSpot 0 = .ok (.iload_n 0, 1) := by decide +kernel
theorem dX5_isSpot_1 : decode cX5_isSpot 1 = .ok (.iconst 0, 1) := by decide +kernel
theorem dX5_isSpot_2 : decode cX5_isSpot 2 = .ok (.bipush 9, 2) := by decide +kernel
theorem dX5_isSpot_4 : decode cX5_isSpot 4 = .ok (.invokestatic 48, 3) := by decide +kernel
theorem dX5_isSpot_7 : decode cX5_isSpot 7 = .ok (.ireturn, 1) := by decide +kernel
theorem dX5_hold_0 : decode cX5_hold 0 = .ok (.iload_n 1, 1) := by decide +kernel
theorem dX5_hold_1 : decode cX5_hold 1 = .ok (.invokestatic 263, 3) := by decide +kernel
theorem dX5_hold_4 : decode cX5_hold 4 = .ok (.ifCond .eq 16, 3) := by decide +kernel
theorem dX5_hold_7 : decode cX5_hold 7 = .ok (.iload_n 2, 1) := by decide +kernel
theorem dX5_hold_8 : decode cX5_hold 8 = .ok (.iconst (-1), 1) := by decide +kernel
theorem dX5_hold_9 : decode cX5_hold 9 = .ok (.if_icmp .eq 17, 3) := by decide +kernel
theorem dX5_hold_12 : decode cX5_hold 12 = .ok (.aload_n 0, 1) := by decide +kernel
theorem dX5_hold_13 : decode cX5_hold 13 = .ok (.iload_n 2, 1) := by decide +kernel
theorem dX5_hold_14 : decode cX5_hold 14 = .ok (.invokevirtual 52, 3) := by decide +kernel
theorem dX5_hold_17 : decode cX5_hold 17 = .ok (.ifCond .ne 9, 3) := by decide +kernel
theorem dX5_hold_20 : decode cX5_hold 20 = .ok (.aload_n 0, 1) := by decide +kernel
theorem dX5_hold_21 : decode cX5_hold 21 = .ok (.iconst 0, 1) := by decide +kernel
theorem dX5_hold_22 : decode cX5_hold 22 = .ok (.invokevirtual 128, 3) := by decide +kernel
theorem dX5_hold_25 : decode cX5_hold 25 = .ok (.ireturn, 1) := by decide +kernel
theorem dX5_hold_26 : decode cX5_hold 26 = .ok (.aload_n 0, 1) := by decide +kernel
theorem dX5_hold_27 : decode cX5_hold 27 = .ok (.getfield 9, 3) := by decide +kernel
theorem dX5_hold_30 : decode cX5_hold 30 = .ok (.bipush 60, 2) := by decide +kernel
theorem dX5_hold_32 : decode cX5_hold 32 = .ok (.iload_n 1, 1) := by decide +kernel
theorem dX5_hold_33 : decode cX5_hold 33 = .ok (.iadd, 1) := by decide +kernel
theorem dX5_hold_34 : decode cX5_hold 34 = .ok (.iload_n 2, 1) := by decide +kernel
theorem dX5_hold_35 : decode cX5_hold 35 = .ok (.iastore, 1) := by decide +kernel
theorem dX5_hold_36 : decode cX5_hold 36 = .ok (.iconst 1, 1) := by decide +kernel
theorem dX5_hold_37 : decode cX5_hold 37 = .ok (.ireturn, 1) := by decide +kernel
theorem dX5_above_0 : decode cX5_above 0 = .ok (.iload_n 0, 1) := by decide +kernel
theorem dX5_above_1 : decode cX5_above 1 = .ok (.iconst 3, 1) := by decide +kernel
theorem dX5_above_2 : decode cX5_above 2 = .ok (.if_icmp .ne 7, 3) := by decide +kernel
theorem dX5_above_5 : decode cX5_above 5 = .ok (.iconst 2, 1) := by decide +kernel
theorem dX5_above_6 : decode cX5_above 6 = .ok (.goto 23, 3) := by decide +kernel
theorem dX5_above_9 : decode cX5_above 9 = .ok (.iload_n 0, 1) := by decide +kernel
theorem dX5_above_10 : decode cX5_above 10 = .ok (.iconst 4, 1) := by decide +kernel
theorem dX5_above_11 : decode cX5_above 11 = .ok (.if_icmp .ne 7, 3) := by decide +kernel
theorem dX5_above_14 : decode cX5_above 14 = .ok (.iconst 3, 1) := by decide +kernel
theorem dX5_above_15 : decode cX5_above 15 = .ok (.goto 14, 3) := by decide +kernel
theorem dX5_above_18 : decode cX5_above 18 = .ok (.iload_n 0, 1) := by decide +kernel
theorem dX5_above_19 : decode cX5_above 19 = .ok (.bipush 6, 2) := by decide +kernel
theorem dX5_above_21 : decode cX5_above 21 = .ok (.if_icmp .ne 7, 3) := by decide +kernel
theorem dX5_above_24 : decode cX5_above 24 = .ok (.iconst 1, 1) := by decide +kernel
theorem dX5_above_25 : decode cX5_above 25 = .ok (.goto 4, 3) := by decide +kernel
theorem dX5_above_28 : decode cX5_above 28 = .ok (.iconst 0, 1) := by decide +kernel
theorem dX5_above_29 : decode cX5_above 29 = .ok (.ireturn, 1) := by decide +kernel
theorem dX5_as_0 : decode cX5_as 0 = .ok (.iload_n 1, 1) := by decide +kernel
theorem dX5_as_1 : decode cX5_as 1 = .ok (.invokestatic 263, 3) := by decide +kernel
theorem dX5_as_4 : decode cX5_as 4 = .ok (.ifCond .eq 13, 3) := by decide +kernel
theorem dX5_as_7 : decode cX5_as 7 = .ok (.iload_n 2, 1) := by decide +kernel
theorem dX5_as_8 : decode cX5_as 8 = .ok (.iconst 0, 1) := by decide +kernel
theorem dX5_as_9 : decode cX5_as 9 = .ok (.bipush 6, 2) := by decide +kernel
theorem dX5_as_11 : decode cX5_as 11 = .ok (.invokestatic 48, 3) := by decide +kernel
theorem dX5_as_14 : decode cX5_as 14 = .ok (.ifCond .ne 9, 3) := by decide +kernel
theorem dX5_as_17 : decode cX5_as 17 = .ok (.aload_n 0, 1) := by decide +kernel
theorem dX5_as_18 : decode cX5_as 18 = .ok (.iconst 0, 1) := by decide +kernel
theorem dX5_as_19 : decode cX5_as 19 = .ok (.invokevirtual 128, 3) := by decide +kernel
theorem dX5_as_22 : decode cX5_as 22 = .ok (.ireturn, 1) := by decide +kernel
theorem dX5_as_23 : decode cX5_as 23 = .ok (.aload_n 0, 1) := by decide +kernel
theorem dX5_as_24 : decode cX5_as 24 = .ok (.getfield 9, 3) := by decide +kernel
theorem dX5_as_27 : decode cX5_as 27 = .ok (.bipush 60, 2) := by decide +kernel
theorem dX5_as_29 : decode cX5_as 29 = .ok (.iload_n 1, 1) := by decide +kernel
theorem dX5_as_30 : decode cX5_as 30 = .ok (.iadd, 1) := by decide +kernel
theorem dX5_as_31 : decode cX5_as 31 = .ok (.iaload, 1) := by decide +kernel
theorem dX5_as_32 : decode cX5_as 32 = .ok (.istore_n 3, 1) := by decide +kernel
theorem dX5_as_33 : decode cX5_as 33 = .ok (.iload_n 3, 1) := by decide +kernel
theorem dX5_as_34 : decode cX5_as 34 = .ok (.ifCond .ge 9, 3) := by decide +kernel
theorem dX5_as_37 : decode cX5_as 37 = .ok (.aload_n 0, 1) := by decide +kernel
theorem dX5_as_38 : decode cX5_as 38 = .ok (.iconst 5, 1) := by decide +kernel
theorem dX5_as_39 : decode cX5_as 39 = .ok (.invokevirtual 128, 3) := by decide +kernel
theorem dX5_as_42 : decode cX5_as 42 = .ok (.ireturn, 1) := by decide +kernel
theorem dX5_as_43 : decode cX5_as 43 = .ok (.aload_n 0, 1) := by decide +kernel
theorem dX5_as_44 : decode cX5_as 44 = .ok (.iload_n 3, 1) := by decide +kernel
theorem dX5_as_45 : decode cX5_as 45 = .ok (.iconst 0, 1) := by decide +kernel
theorem dX5_as_46 : decode cX5_as 46 = .ok (.invokevirtual 56, 3) := by decide +kernel
theorem dX5_as_49 : decode cX5_as 49 = .ok (.istore 4, 2) := by decide +kernel
theorem dX5_as_51 : decode cX5_as 51 = .ok (.iload 4, 2) := by decide +kernel
theorem dX5_as_53 : decode cX5_as 53 = .ok (.iload_n 2, 1) := by decide +kernel
theorem dX5_as_54 : decode cX5_as 54 = .ok (.if_icmp .eq 18, 3) := by decide +kernel
theorem dX5_as_57 : decode cX5_as 57 = .ok (.iload 4, 2) := by decide +kernel
theorem dX5_as_59 : decode cX5_as 59 = .ok (.ifCond .eq 13, 3) := by decide +kernel
theorem dX5_as_62 : decode cX5_as 62 = .ok (.iload 4, 2) := by decide +kernel
theorem dX5_as_64 : decode cX5_as 64 = .ok (.invokestatic 266, 3) := by decide +kernel
theorem dX5_as_67 : decode cX5_as 67 = .ok (.istore 4, 2) := by decide +kernel
theorem dX5_as_69 : decode cX5_as 69 = .ok (.goto (-18), 3) := by decide +kernel
theorem dX5_as_72 : decode cX5_as 72 = .ok (.iload 4, 2) := by decide +kernel
theorem dX5_as_74 : decode cX5_as 74 = .ok (.iload_n 2, 1) := by decide +kernel
theorem dX5_as_75 : decode cX5_as 75 = .ok (.if_icmp .ne 7, 3) := by decide +kernel
theorem dX5_as_78 : decode cX5_as 78 = .ok (.iload_n 3, 1) := by decide +kernel
theorem dX5_as_79 : decode cX5_as 79 = .ok (.goto 8, 3) := by decide +kernel
theorem dX5_as_82 : decode cX5_as 82 = .ok (.aload_n 0, 1) := by decide +kernel
theorem dX5_as_83 : decode cX5_as 83 = .ok (.iconst 2, 1) := by decide +kernel
theorem dX5_as_84 : decode cX5_as 84 = .ok (.invokevirtual 128, 3) := by decide +kernel
theorem dX5_as_87 : decode cX5_as 87 = .ok (.ireturn, 1) := by decide +kernel
theorem dX5_sheet_0 : decode cX5_sheet 0 = .ok (.iload_n 1, 1) := by decide +kernel
theorem dX5_sheet_1 : decode cX5_sheet 1 = .ok (.invokestatic 188, 3) := by decide +kernel
theorem dX5_sheet_4 : decode cX5_sheet 4 = .ok (.ifCond .eq 25, 3) := by decide +kernel
theorem dX5_sheet_7 : decode cX5_sheet 7 = .ok (.iload_n 2, 1) := by decide +kernel
theorem dX5_sheet_8 : decode cX5_sheet 8 = .ok (.ifCond .eq 27, 3) := by decide +kernel
theorem dX5_sheet_11 : decode cX5_sheet 11 = .ok (.iload_n 2, 1) := by decide +kernel
theorem dX5_sheet_12 : decode cX5_sheet 12 = .ok (.bipush 8, 2) := by decide +kernel
theorem dX5_sheet_14 : decode cX5_sheet 14 = .ok (.if_icmp .eq 21, 3) := by decide +kernel
theorem dX5_sheet_17 : decode cX5_sheet 17 = .ok (.iload_n 2, 1) := by decide +kernel
theorem dX5_sheet_18 : decode cX5_sheet 18 = .ok (.bipush 16, 2) := by decide +kernel
theorem dX5_sheet_20 : decode cX5_sheet 20 = .ok (.if_icmp .eq 15, 3) := by decide +kernel
theorem dX5_sheet_23 : decode cX5_sheet 23 = .ok (.iload_n 2, 1) := by decide +kernel
theorem dX5_sheet_24 : decode cX5_sheet 24 = .ok (.bipush 32, 2) := by decide +kernel
theorem dX5_sheet_26 : decode cX5_sheet 26 = .ok (.if_icmp .eq 9, 3) := by decide +kernel
theorem dX5_sheet_29 : decode cX5_sheet 29 = .ok (.aload_n 0, 1) := by decide +kernel
theorem dX5_sheet_30 : decode cX5_sheet 30 = .ok (.iconst 0, 1) := by decide +kernel
theorem dX5_sheet_31 : decode cX5_sheet 31 = .ok (.invokevirtual 128, 3) := by decide +kernel
theorem dX5_sheet_34 : decode cX5_sheet 34 = .ok (.ireturn, 1) := by decide +kernel
theorem dX5_sheet_35 : decode cX5_sheet 35 = .ok (.iload_n 3, 1) := by decide +kernel
theorem dX5_sheet_36 : decode cX5_sheet 36 = .ok (.ifCond .ge 10, 3) := by decide +kernel
theorem dX5_sheet_39 : decode cX5_sheet 39 = .ok (.aload_n 0, 1) := by decide +kernel
theorem dX5_sheet_40 : decode cX5_sheet 40 = .ok (.bipush 6, 2) := by decide +kernel
theorem dX5_sheet_42 : decode cX5_sheet 42 = .ok (.invokevirtual 128, 3) := by decide +kernel
theorem dX5_sheet_45 : decode cX5_sheet 45 = .ok (.ireturn, 1) := by decide +kernel
theorem dX5_sheet_46 : decode cX5_sheet 46 = .ok (.iload_n 3, 1) := by decide +kernel
theorem dX5_sheet_47 : decode cX5_sheet 47 = .ok (.bipush 40, 2) := by decide +kernel
theorem dX5_sheet_49 : decode cX5_sheet 49 = .ok (.if_icmp .le 9, 3) := by decide +kernel
theorem dX5_sheet_52 : decode cX5_sheet 52 = .ok (.aload_n 0, 1) := by decide +kernel
theorem dX5_sheet_53 : decode cX5_sheet 53 = .ok (.iconst 0, 1) := by decide +kernel
theorem dX5_sheet_54 : decode cX5_sheet 54 = .ok (.invokevirtual 128, 3) := by decide +kernel
theorem dX5_sheet_57 : decode cX5_sheet 57 = .ok (.ireturn, 1) := by decide +kernel
theorem dX5_sheet_58 : decode cX5_sheet 58 = .ok (.aload_n 0, 1) := by decide +kernel
theorem dX5_sheet_59 : decode cX5_sheet 59 = .ok (.getfield 35, 3) := by decide +kernel
theorem dX5_sheet_62 : decode cX5_sheet 62 = .ok (.iload_n 1, 1) := by decide +kernel
theorem dX5_sheet_63 : decode cX5_sheet 63 = .ok (.iload_n 2, 1) := by decide +kernel
theorem dX5_sheet_64 : decode cX5_sheet 64 = .ok (.iastore, 1) := by decide +kernel
theorem dX5_sheet_65 : decode cX5_sheet 65 = .ok (.aload_n 0, 1) := by decide +kernel
theorem dX5_sheet_66 : decode cX5_sheet 66 = .ok (.getfield 38, 3) := by decide +kernel
theorem dX5_sheet_69 : decode cX5_sheet 69 = .ok (.iload_n 1, 1) := by decide +kernel
theorem dX5_sheet_70 : decode cX5_sheet 70 = .ok (.iload_n 2, 1) := by decide +kernel
theorem dX5_sheet_71 : decode cX5_sheet 71 = .ok (.ifCond .ne 7, 3) := by decide +kernel
theorem dX5_sheet_74 : decode cX5_sheet 74 = .ok (.iconst 0, 1) := by decide +kernel
theorem dX5_sheet_75 : decode cX5_sheet 75 = .ok (.goto 4, 3) := by decide +kernel
theorem dX5_sheet_78 : decode cX5_sheet 78 = .ok (.iload_n 3, 1) := by decide +kernel
theorem dX5_sheet_79 : decode cX5_sheet 79 = .ok (.iastore, 1) := by decide +kernel
theorem dX5_sheet_80 : decode cX5_sheet 80 = .ok (.iconst 0, 1) := by decide +kernel
theorem dX5_sheet_81 : decode cX5_sheet 81 = .ok (.istore 4, 2) := by decide +kernel
theorem dX5_sheet_83 : decode cX5_sheet 83 = .ok (.iload 4, 2) := by decide +kernel
theorem dX5_sheet_85 : decode cX5_sheet 85 = .ok (.bipush 40, 2) := by decide +kernel
theorem dX5_sheet_87 : decode cX5_sheet 87 = .ok (.if_icmp .ge 22, 3) := by decide +kernel
theorem dX5_sheet_90 : decode cX5_sheet 90 = .ok (.aload_n 0, 1) := by decide +kernel
theorem dX5_sheet_91 : decode cX5_sheet 91 = .ok (.getfield 41, 3) := by decide +kernel
theorem dX5_sheet_94 : decode cX5_sheet 94 = .ok (.bipush 40, 2) := by decide +kernel
theorem dX5_sheet_96 : decode cX5_sheet 96 = .ok (.iload_n 1, 1) := by decide +kernel
theorem dX5_sheet_97 : decode cX5_sheet 97 = .ok (.imul, 1) := by decide +kernel
theorem dX5_sheet_98 : decode cX5_sheet 98 = .ok (.iload 4, 2) := by decide +kernel
theorem dX5_sheet_100 : decode cX5_sheet 100 = .ok (.iadd, 1) := by decide +kernel
theorem dX5_sheet_101 : decode cX5_sheet 101 = .ok (.iconst 0, 1) := by decide +kernel
theorem dX5_sheet_102 : decode cX5_sheet 102 = .ok (.iastore, 1) := by decide +kernel
theorem dX5_sheet_103 : decode cX5_sheet 103 = .ok (.iinc 4 1, 3) := by decide +kernel
theorem dX5_sheet_106 : decode cX5_sheet 106 = .ok (.goto (-23), 3) := by decide +kernel
theorem dX5_sheet_109 : decode cX5_sheet 109 = .ok (.aload_n 0, 1) := by decide +kernel
theorem dX5_sheet_110 : decode cX5_sheet 110 = .ok (.getfield 38, 3) := by decide +kernel
theorem dX5_sheet_113 : decode cX5_sheet 113 = .ok (.iload_n 1, 1) := by decide +kernel
theorem dX5_sheet_114 : decode cX5_sheet 114 = .ok (.iaload, 1) := by decide +kernel
theorem dX5_sheet_115 : decode cX5_sheet 115 = .ok (.ireturn, 1) := by decide +kernel
theorem dX5_write_0 : decode cX5_write 0 = .ok (.aload_n 0, 1) := by decide +kernel
theorem dX5_write_1 : decode cX5_write 1 = .ok (.iload_n 1, 1) := by decide +kernel
theorem dX5_write_2 : decode cX5_write 2 = .ok (.invokevirtual 191, 3) := by decide +kernel
theorem dX5_write_5 : decode cX5_write 5 = .ok (.istore 4, 2) := by decide +kernel
theorem dX5_write_7 : decode cX5_write 7 = .ok (.iload 4, 2) := by decide +kernel
theorem dX5_write_9 : decode cX5_write 9 = .ok (.ifCond .ge 22, 3) := by decide +kernel
theorem dX5_write_12 : decode cX5_write 12 = .ok (.iload_n 2, 1) := by decide +kernel
theorem dX5_write_13 : decode cX5_write 13 = .ok (.iconst 0, 1) := by decide +kernel
theorem dX5_write_14 : decode cX5_write 14 = .ok (.aload_n 0, 1) := by decide +kernel
theorem dX5_write_15 : decode cX5_write 15 = .ok (.getfield 38, 3) := by decide +kernel
theorem dX5_write_18 : decode cX5_write 18 = .ok (.iload_n 1, 1) := by decide +kernel
theorem dX5_write_19 : decode cX5_write 19 = .ok (.iaload, 1) := by decide +kernel
theorem dX5_write_20 : decode cX5_write 20 = .ok (.iconst 1, 1) := by decide +kernel
theorem dX5_write_21 : decode cX5_write 21 = .ok (.isub, 1) := by decide +kernel
theorem dX5_write_22 : decode cX5_write 22 = .ok (.invokestatic 48, 3) := by decide +kernel
theorem dX5_write_25 : decode cX5_write 25 = .ok (.ifCond .ne 6, 3) := by decide +kernel
theorem dX5_write_28 : decode cX5_write 28 = .ok (.iconst 0, 1) := by decide +kernel
theorem dX5_write_29 : decode cX5_write 29 = .ok (.istore 4, 2) := by decide +kernel
theorem dX5_write_31 : decode cX5_write 31 = .ok (.iload 4, 2) := by decide +kernel
theorem dX5_write_33 : decode cX5_write 33 = .ok (.ifCond .lt 10, 3) := by decide +kernel
theorem dX5_write_36 : decode cX5_write 36 = .ok (.aload_n 0, 1) := by decide +kernel
theorem dX5_write_37 : decode cX5_write 37 = .ok (.iload 4, 2) := by decide +kernel
theorem dX5_write_39 : decode cX5_write 39 = .ok (.invokevirtual 128, 3) := by decide +kernel
theorem dX5_write_42 : decode cX5_write 42 = .ok (.ireturn, 1) := by decide +kernel
theorem dX5_write_43 : decode cX5_write 43 = .ok (.aload_n 0, 1) := by decide +kernel
theorem dX5_write_44 : decode cX5_write 44 = .ok (.getfield 41, 3) := by decide +kernel
theorem dX5_write_47 : decode cX5_write 47 = .ok (.bipush 40, 2) := by decide +kernel
theorem dX5_write_49 : decode cX5_write 49 = .ok (.iload_n 1, 1) := by decide +kernel
theorem dX5_write_50 : decode cX5_write 50 = .ok (.imul, 1) := by decide +kernel
theorem dX5_write_51 : decode cX5_write 51 = .ok (.iload_n 2, 1) := by decide +kernel
theorem dX5_write_52 : decode cX5_write 52 = .ok (.iadd, 1) := by decide +kernel
theorem dX5_write_53 : decode cX5_write 53 = .ok (.aload_n 0, 1) := by decide +kernel
theorem dX5_write_54 : decode cX5_write 54 = .ok (.getfield 35, 3) := by decide +kernel
theorem dX5_write_57 : decode cX5_write 57 = .ok (.iload_n 1, 1) := by decide +kernel
theorem dX5_write_58 : decode cX5_write 58 = .ok (.iaload, 1) := by decide +kernel
theorem dX5_write_59 : decode cX5_write 59 = .ok (.bipush 8, 2) := by decide +kernel
theorem dX5_write_61 : decode cX5_write 61 = .ok (.if_icmp .ne 8, 3) := by decide +kernel
theorem dX5_write_64 : decode cX5_write 64 = .ok (.iload_n 3, 1) := by decide +kernel
theorem dX5_write_65 : decode cX5_write 65 = .ok (.i2b, 1) := by decide +kernel
theorem dX5_write_66 : decode cX5_write 66 = .ok (.goto 20, 3) := by decide +kernel
theorem dX5_write_69 : decode cX5_write 69 = .ok (.aload_n 0, 1) := by decide +kernel
theorem dX5_write_70 : decode cX5_write 70 = .ok (.getfield 35, 3) := by decide +kernel
theorem dX5_write_73 : decode cX5_write 73 = .ok (.iload_n 1, 1) := by decide +kernel
theorem dX5_write_74 : decode cX5_write 74 = .ok (.iaload, 1) := by decide +kernel
theorem dX5_write_75 : decode cX5_write 75 = .ok (.bipush 16, 2) := by decide +kernel
theorem dX5_write_77 : decode cX5_write 77 = .ok (.if_icmp .ne 8, 3) := by decide +kernel
theorem dX5_write_80 : decode cX5_write 80 = .ok (.iload_n 3, 1) := by decide +kernel
theorem dX5_write_81 : decode cX5_write 81 = .ok (.i2s, 1) := by decide +kernel
theorem dX5_write_82 : decode cX5_write 82 = .ok (.goto 4, 3) := by decide +kernel
theorem dX5_write_85 : decode cX5_write 85 = .ok (.iload_n 3, 1) := by decide +kernel
theorem dX5_write_86 : decode cX5_write 86 = .ok (.iastore, 1) := by decide +kernel
theorem dX5_write_87 : decode cX5_write 87 = .ok (.iconst 1, 1) := by decide +kernel
theorem dX5_write_88 : decode cX5_write 88 = .ok (.ireturn, 1) := by decide +kernel
theorem dX5_copy_0 : decode cX5_copy 0 = .ok (.iload_n 1, 1) := by decide +kernel
theorem dX5_copy_1 : decode cX5_copy 1 = .ok (.invokestatic 188, 3) := by decide +kernel
theorem dX5_copy_4 : decode cX5_copy 4 = .ok (.ifCond .eq 10, 3) := by decide +kernel
theorem dX5_copy_7 : decode cX5_copy 7 = .ok (.iload_n 3, 1) := by decide +kernel
theorem dX5_copy_8 : decode cX5_copy 8 = .ok (.invokestatic 188, 3) := by decide +kernel
theorem dX5_copy_11 : decode cX5_copy 11 = .ok (.ifCond .ne 9, 3) := by decide +kernel
theorem dX5_copy_14 : decode cX5_copy 14 = .ok (.aload_n 0, 1) := by decide +kernel
theorem dX5_copy_15 : decode cX5_copy 15 = .ok (.iconst 0, 1) := by decide +kernel
theorem dX5_copy_16 : decode cX5_copy 16 = .ok (.invokevirtual 128, 3) := by decide +kernel
theorem dX5_copy_19 : decode cX5_copy 19 = .ok (.ireturn, 1) := by decide +kernel
theorem dX5_copy_20 : decode cX5_copy 20 = .ok (.aload_n 0, 1) := by decide +kernel
theorem dX5_copy_21 : decode cX5_copy 21 = .ok (.getfield 35, 3) := by decide +kernel
theorem dX5_copy_24 : decode cX5_copy 24 = .ok (.iload_n 1, 1) := by decide +kernel
theorem dX5_copy_25 : decode cX5_copy 25 = .ok (.iaload, 1) := by decide +kernel
theorem dX5_copy_26 : decode cX5_copy 26 = .ok (.ifCond .eq 12, 3) := by decide +kernel
theorem dX5_copy_29 : decode cX5_copy 29 = .ok (.aload_n 0, 1) := by decide +kernel
theorem dX5_copy_30 : decode cX5_copy 30 = .ok (.getfield 35, 3) := by decide +kernel
theorem dX5_copy_33 : decode cX5_copy 33 = .ok (.iload_n 3, 1) := by decide +kernel
theorem dX5_copy_34 : decode cX5_copy 34 = .ok (.iaload, 1) := by decide +kernel
theorem dX5_copy_35 : decode cX5_copy 35 = .ok (.ifCond .ne 9, 3) := by decide +kernel
theorem dX5_copy_38 : decode cX5_copy 38 = .ok (.aload_n 0, 1) := by decide +kernel
theorem dX5_copy_39 : decode cX5_copy 39 = .ok (.iconst 5, 1) := by decide +kernel
theorem dX5_copy_40 : decode cX5_copy 40 = .ok (.invokevirtual 128, 3) := by decide +kernel
theorem dX5_copy_43 : decode cX5_copy 43 = .ok (.ireturn, 1) := by decide +kernel
theorem dX5_copy_44 : decode cX5_copy 44 = .ok (.aload_n 0, 1) := by decide +kernel
theorem dX5_copy_45 : decode cX5_copy 45 = .ok (.getfield 35, 3) := by decide +kernel
theorem dX5_copy_48 : decode cX5_copy 48 = .ok (.iload_n 1, 1) := by decide +kernel
theorem dX5_copy_49 : decode cX5_copy 49 = .ok (.iaload, 1) := by decide +kernel
theorem dX5_copy_50 : decode cX5_copy 50 = .ok (.aload_n 0, 1) := by decide +kernel
theorem dX5_copy_51 : decode cX5_copy 51 = .ok (.getfield 35, 3) := by decide +kernel
theorem dX5_copy_54 : decode cX5_copy 54 = .ok (.iload_n 3, 1) := by decide +kernel
theorem dX5_copy_55 : decode cX5_copy 55 = .ok (.iaload, 1) := by decide +kernel
theorem dX5_copy_56 : decode cX5_copy 56 = .ok (.if_icmp .eq 9, 3) := by decide +kernel
theorem dX5_copy_59 : decode cX5_copy 59 = .ok (.aload_n 0, 1) := by decide +kernel
theorem dX5_copy_60 : decode cX5_copy 60 = .ok (.iconst 2, 1) := by decide +kernel
theorem dX5_copy_61 : decode cX5_copy 61 = .ok (.invokevirtual 128, 3) := by decide +kernel
theorem dX5_copy_64 : decode cX5_copy 64 = .ok (.ireturn, 1) := by decide +kernel
theorem dX5_copy_65 : decode cX5_copy 65 = .ok (.iload 5, 2) := by decide +kernel
theorem dX5_copy_67 : decode cX5_copy 67 = .ok (.ifCond .lt 39, 3) := by decide +kernel
theorem dX5_copy_70 : decode cX5_copy 70 = .ok (.iload_n 2, 1) := by decide +kernel
theorem dX5_copy_71 : decode cX5_copy 71 = .ok (.ifCond .lt 35, 3) := by decide +kernel
theorem dX5_copy_74 : decode cX5_copy 74 = .ok (.iload 4, 2) := by decide +kernel
theorem dX5_copy_76 : decode cX5_copy 76 = .ok (.ifCond .lt 30, 3) := by decide +kernel
theorem dX5_copy_79 : decode cX5_copy 79 = .ok (.iload_n 2, 1) := by decide +kernel
theorem dX5_copy_80 : decode cX5_copy 80 = .ok (.aload_n 0, 1) := by decide +kernel
theorem dX5_copy_81 : decode cX5_copy 81 = .ok (.getfield 38, 3) := by decide +kernel
theorem dX5_copy_84 : decode cX5_copy 84 = .ok (.iload_n 1, 1) := by decide +kernel
theorem dX5_copy_85 : decode cX5_copy 85 = .ok (.iaload, 1) := by decide +kernel
theorem dX5_copy_86 : decode cX5_copy 86 = .ok (.iload 5, 2) := by decide +kernel
theorem dX5_copy_88 : decode cX5_copy 88 = .ok (.isub, 1) := by decide +kernel
theorem dX5_copy_89 : decode cX5_copy 89 = .ok (.if_icmp .gt 17, 3) := by decide +kernel
theorem dX5_copy_92 : decode cX5_copy 92 = .ok (.iload 4, 2) := by decide +kernel
theorem dX5_copy_94 : decode cX5_copy 94 = .ok (.aload_n 0, 1) := by decide +kernel
theorem dX5_copy_95 : decode cX5_copy 95 = .ok (.getfield 38, 3) := by decide +kernel
theorem dX5_copy_98 : decode cX5_copy 98 = .ok (.iload_n 3, 1) := by decide +kernel
theorem dX5_copy_99 : decode cX5_copy 99 = .ok (.iaload, 1) := by decide +kernel
theorem dX5_copy_100 : decode cX5_copy 100 = .ok (.iload 5, 2) := by decide +kernel
theorem dX5_copy_102 : decode cX5_copy 102 = .ok (.isub, 1) := by decide +kernel
theorem dX5_copy_103 : decode cX5_copy 103 = .ok (.if_icmp .le 9, 3) := by decide +kernel
theorem dX5_copy_106 : decode cX5_copy 106 = .ok (.aload_n 0, 1) := by decide +kernel
theorem dX5_copy_107 : decode cX5_copy 107 = .ok (.iconst 0, 1) := by decide +kernel
theorem dX5_copy_108 : decode cX5_copy 108 = .ok (.invokevirtual 128, 3) := by decide +kernel
theorem dX5_copy_111 : decode cX5_copy 111 = .ok (.ireturn, 1) := by decide +kernel
theorem dX5_copy_112 : decode cX5_copy 112 = .ok (.iconst 0, 1) := by decide +kernel
theorem dX5_copy_113 : decode cX5_copy 113 = .ok (.istore 6, 2) := by decide +kernel
theorem dX5_copy_115 : decode cX5_copy 115 = .ok (.iload 6, 2) := by decide +kernel
theorem dX5_copy_117 : decode cX5_copy 117 = .ok (.iload 5, 2) := by decide +kernel
theorem dX5_copy_119 : decode cX5_copy 119 = .ok (.if_icmp .ge 30, 3) := by decide +kernel
theorem dX5_copy_122 : decode cX5_copy 122 = .ok (.aload_n 0, 1) := by decide +kernel
theorem dX5_copy_123 : decode cX5_copy 123 = .ok (.getfield 44, 3) := by decide +kernel
theorem dX5_copy_126 : decode cX5_copy 126 = .ok (.iload 6, 2) := by decide +kernel
theorem dX5_copy_128 : decode cX5_copy 128 = .ok (.aload_n 0, 1) := by decide +kernel
theorem dX5_copy_129 : decode cX5_copy 129 = .ok (.getfield 41, 3) := by decide +kernel
theorem dX5_copy_132 : decode cX5_copy 132 = .ok (.bipush 40, 2) := by decide +kernel
theorem dX5_copy_134 : decode cX5_copy 134 = .ok (.iload_n 1, 1) := by decide +kernel
theorem dX5_copy_135 : decode cX5_copy 135 = .ok (.imul, 1) := by decide +kernel
theorem dX5_copy_136 : decode cX5_copy 136 = .ok (.iload_n 2, 1) := by decide +kernel
theorem dX5_copy_137 : decode cX5_copy 137 = .ok (.iadd, 1) := by decide +kernel
theorem dX5_copy_138 : decode cX5_copy 138 = .ok (.iload 6, 2) := by decide +kernel
theorem dX5_copy_140 : decode cX5_copy 140 = .ok (.iadd, 1) := by decide +kernel
theorem dX5_copy_141 : decode cX5_copy 141 = .ok (.iaload, 1) := by decide +kernel
theorem dX5_copy_142 : decode cX5_copy 142 = .ok (.iastore, 1) := by decide +kernel
theorem dX5_copy_143 : decode cX5_copy 143 = .ok (.iinc 6 1, 3) := by decide +kernel
theorem dX5_copy_146 : decode cX5_copy 146 = .ok (.goto (-31), 3) := by decide +kernel
theorem dX5_copy_149 : decode cX5_copy 149 = .ok (.iconst 0, 1) := by decide +kernel
theorem dX5_copy_150 : decode cX5_copy 150 = .ok (.istore 6, 2) := by decide +kernel
theorem dX5_copy_152 : decode cX5_copy 152 = .ok (.iload 6, 2) := by decide +kernel
theorem dX5_copy_154 : decode cX5_copy 154 = .ok (.iload 5, 2) := by decide +kernel
theorem dX5_copy_156 : decode cX5_copy 156 = .ok (.if_icmp .ge 31, 3) := by decide +kernel
theorem dX5_copy_159 : decode cX5_copy 159 = .ok (.aload_n 0, 1) := by decide +kernel
theorem dX5_copy_160 : decode cX5_copy 160 = .ok (.getfield 41, 3) := by decide +kernel
theorem dX5_copy_163 : decode cX5_copy 163 = .ok (.bipush 40, 2) := by decide +kernel
theorem dX5_copy_165 : decode cX5_copy 165 = .ok (.iload_n 3, 1) := by decide +kernel
theorem dX5_copy_166 : decode cX5_copy 166 = .ok (.imul, 1) := by decide +kernel
theorem dX5_copy_167 : decode cX5_copy 167 = .ok (.iload 4, 2) := by decide +kernel
theorem dX5_copy_169 : decode cX5_copy 169 = .ok (.iadd, 1) := by decide +kernel
theorem dX5_copy_170 : decode cX5_copy 170 = .ok (.iload 6, 2) := by decide +kernel
theorem dX5_copy_172 : decode cX5_copy 172 = .ok (.iadd, 1) := by decide +kernel
theorem dX5_copy_173 : decode cX5_copy 173 = .ok (.aload_n 0, 1) := by decide +kernel
theorem dX5_copy_174 : decode cX5_copy 174 = .ok (.getfield 44, 3) := by decide +kernel
theorem dX5_copy_177 : decode cX5_copy 177 = .ok (.iload 6, 2) := by decide +kernel
theorem dX5_copy_179 : decode cX5_copy 179 = .ok (.iaload, 1) := by decide +kernel
theorem dX5_copy_180 : decode cX5_copy 180 = .ok (.iastore, 1) := by decide +kernel
theorem dX5_copy_181 : decode cX5_copy 181 = .ok (.iinc 6 1, 3) := by decide +kernel
theorem dX5_copy_184 : decode cX5_copy 184 = .ok (.goto (-32), 3) := by decide +kernel
theorem dX5_copy_187 : decode cX5_copy 187 = .ok (.iload 5, 2) := by decide +kernel
theorem dX5_copy_189 : decode cX5_copy 189 = .ok (.ireturn, 1) := by decide +kernel
theorem dX5_load_0 : decode cX5_load 0 = .ok (.aload_n 0, 1) := by decide +kernel
theorem dX5_load_1 : decode cX5_load 1 = .ok (.iload_n 1, 1) := by decide +kernel
theorem dX5_load_2 : decode cX5_load 2 = .ok (.invokevirtual 191, 3) := by decide +kernel
theorem dX5_load_5 : decode cX5_load 5 = .ok (.istore_n 2, 1) := by decide +kernel
theorem dX5_load_6 : decode cX5_load 6 = .ok (.iload_n 2, 1) := by decide +kernel
theorem dX5_load_7 : decode cX5_load 7 = .ok (.ifCond .lt 9, 3) := by decide +kernel
theorem dX5_load_10 : decode cX5_load 10 = .ok (.aload_n 0, 1) := by decide +kernel
theorem dX5_load_11 : decode cX5_load 11 = .ok (.iload_n 2, 1) := by decide +kernel
theorem dX5_load_12 : decode cX5_load 12 = .ok (.invokevirtual 128, 3) := by decide +kernel
theorem dX5_load_15 : decode cX5_load 15 = .ok (.ireturn, 1) := by decide +kernel
theorem dX5_load_16 : decode cX5_load 16 = .ok (.iconst 0, 1) := by decide +kernel
theorem dX5_load_17 : decode cX5_load 17 = .ok (.istore_n 3, 1) := by decide +kernel
theorem dX5_load_18 : decode cX5_load 18 = .ok (.iload_n 3, 1) := by decide +kernel
theorem dX5_load_19 : decode cX5_load 19 = .ok (.aload_n 0, 1) := by decide +kernel
theorem dX5_load_20 : decode cX5_load 20 = .ok (.getfield 38, 3) := by decide +kernel
theorem dX5_load_23 : decode cX5_load 23 = .ok (.iload_n 1, 1) := by decide +kernel
theorem dX5_load_24 : decode cX5_load 24 = .ok (.iaload, 1) := by decide +kernel
theorem dX5_load_25 : decode cX5_load 25 = .ok (.if_icmp .ge 43, 3) := by decide +kernel
theorem dX5_load_28 : decode cX5_load 28 = .ok (.iload_n 3, 1) := by decide +kernel
theorem dX5_load_29 : decode cX5_load 29 = .ok (.aload_n 0, 1) := by decide +kernel
theorem dX5_load_30 : decode cX5_load 30 = .ok (.getfield 9, 3) := by decide +kernel
theorem dX5_load_33 : decode cX5_load 33 = .ok (.iconst 1, 1) := by decide +kernel
theorem dX5_load_34 : decode cX5_load 34 = .ok (.iaload, 1) := by decide +kernel
theorem dX5_load_35 : decode cX5_load 35 = .ok (.if_icmp .ge 33, 3) := by decide +kernel
theorem dX5_load_38 : decode cX5_load 38 = .ok (.aload_n 0, 1) := by decide +kernel
theorem dX5_load_39 : decode cX5_load 39 = .ok (.iload_n 1, 1) := by decide +kernel
theorem dX5_load_40 : decode cX5_load 40 = .ok (.iload_n 3, 1) := by decide +kernel
theorem dX5_load_41 : decode cX5_load 41 = .ok (.invokevirtual 194, 3) := by decide +kernel
theorem dX5_load_44 : decode cX5_load 44 = .ok (.invokestatic 134, 3) := by decide +kernel
theorem dX5_load_47 : decode cX5_load 47 = .ok (.ifCond .eq 21, 3) := by decide +kernel
theorem dX5_load_50 : decode cX5_load 50 = .ok (.aload_n 0, 1) := by decide +kernel
theorem dX5_load_51 : decode cX5_load 51 = .ok (.iload_n 3, 1) := by decide +kernel
theorem dX5_load_52 : decode cX5_load 52 = .ok (.iconst 2, 1) := by decide +kernel
theorem dX5_load_53 : decode cX5_load 53 = .ok (.aload_n 0, 1) := by decide +kernel
theorem dX5_load_54 : decode cX5_load 54 = .ok (.iload_n 1, 1) := by decide +kernel
theorem dX5_load_55 : decode cX5_load 55 = .ok (.iload_n 3, 1) := by decide +kernel
theorem dX5_load_56 : decode cX5_load 56 = .ok (.invokevirtual 194, 3) := by decide +kernel
theorem dX5_load_59 : decode cX5_load 59 = .ok (.invokevirtual 81, 3) := by decide +kernel
theorem dX5_load_62 : decode cX5_load 62 = .ok (.iinc 3 1, 3) := by decide +kernel
theorem dX5_load_65 : decode cX5_load 65 = .ok (.goto (-47), 3) := by decide +kernel
theorem dX5_load_68 : decode cX5_load 68 = .ok (.iload_n 3, 1) := by decide +kernel
theorem dX5_load_69 : decode cX5_load 69 = .ok (.ireturn, 1) := by decide +kernel
theorem dX5_judge_0 : decode cX5_judge 0 = .ok (.aload_n 0, 1) := by decide +kernel
theorem dX5_judge_1 : decode cX5_judge 1 = .ok (.iload_n 1, 1) := by decide +kernel
theorem dX5_judge_2 : decode cX5_judge 2 = .ok (.invokevirtual 191, 3) := by decide +kernel
theorem dX5_judge_5 : decode cX5_judge 5 = .ok (.istore_n 2, 1) := by decide +kernel
theorem dX5_judge_6 : decode cX5_judge 6 = .ok (.iload_n 2, 1) := by decide +kernel
theorem dX5_judge_7 : decode cX5_judge 7 = .ok (.ifCond .lt 9, 3) := by decide +kernel
theorem dX5_judge_10 : decode cX5_judge 10 = .ok (.aload_n 0, 1) := by decide +kernel
theorem dX5_judge_11 : decode cX5_judge 11 = .ok (.iload_n 2, 1) := by decide +kernel
theorem dX5_judge_12 : decode cX5_judge 12 = .ok (.invokevirtual 128, 3) := by decide +kernel
theorem dX5_judge_15 : decode cX5_judge 15 = .ok (.ireturn, 1) := by decide +kernel
theorem dX5_judge_16 : decode cX5_judge 16 = .ok (.iconst 0, 1) := by decide +kernel
theorem dX5_judge_17 : decode cX5_judge 17 = .ok (.istore_n 3, 1) := by decide +kernel
theorem dX5_judge_18 : decode cX5_judge 18 = .ok (.iload_n 3, 1) := by decide +kernel
theorem dX5_judge_19 : decode cX5_judge 19 = .ok (.aload_n 0, 1) := by decide +kernel
theorem dX5_judge_20 : decode cX5_judge 20 = .ok (.getfield 38, 3) := by decide +kernel
theorem dX5_judge_23 : decode cX5_judge 23 = .ok (.iload_n 1, 1) := by decide +kernel
theorem dX5_judge_24 : decode cX5_judge 24 = .ok (.iaload, 1) := by decide +kernel
theorem dX5_judge_25 : decode cX5_judge 25 = .ok (.if_icmp .ge 36, 3) := by decide +kernel
theorem dX5_judge_28 : decode cX5_judge 28 = .ok (.aload_n 0, 1) := by decide +kernel
theorem dX5_judge_29 : decode cX5_judge 29 = .ok (.iload_n 3, 1) := by decide +kernel
theorem dX5_judge_30 : decode cX5_judge 30 = .ok (.invokevirtual 52, 3) := by decide +kernel
theorem dX5_judge_33 : decode cX5_judge 33 = .ok (.ifCond .eq 18, 3) := by decide +kernel
theorem dX5_judge_36 : decode cX5_judge 36 = .ok (.aload_n 0, 1) := by decide +kernel
theorem dX5_judge_37 : decode cX5_judge 37 = .ok (.iload_n 3, 1) := by decide +kernel
theorem dX5_judge_38 : decode cX5_judge 38 = .ok (.iconst 4, 1) := by decide +kernel
theorem dX5_judge_39 : decode cX5_judge 39 = .ok (.invokevirtual 56, 3) := by decide +kernel
theorem dX5_judge_42 : decode cX5_judge 42 = .ok (.aload_n 0, 1) := by decide +kernel
theorem dX5_judge_43 : decode cX5_judge 43 = .ok (.iload_n 1, 1) := by decide +kernel
theorem dX5_judge_44 : decode cX5_judge 44 = .ok (.iload_n 3, 1) := by decide +kernel
theorem dX5_judge_45 : decode cX5_judge 45 = .ok (.invokevirtual 194, 3) := by decide +kernel
theorem dX5_judge_48 : decode cX5_judge 48 = .ok (.if_icmp .eq 7, 3) := by decide +kernel
theorem dX5_judge_51 : decode cX5_judge 51 = .ok (.iconst 1, 1) := by decide +kernel
theorem dX5_judge_52 : decode cX5_judge 52 = .ok (.iload_n 3, 1) := by decide +kernel
theorem dX5_judge_53 : decode cX5_judge 53 = .ok (.iadd, 1) := by decide +kernel
theorem dX5_judge_54 : decode cX5_judge 54 = .ok (.ireturn, 1) := by decide +kernel
theorem dX5_judge_55 : decode cX5_judge 55 = .ok (.iinc 3 1, 3) := by decide +kernel
theorem dX5_judge_58 : decode cX5_judge 58 = .ok (.goto (-40), 3) := by decide +kernel
theorem dX5_judge_61 : decode cX5_judge 61 = .ok (.iconst 0, 1) := by decide +kernel
theorem dX5_judge_62 : decode cX5_judge 62 = .ok (.ireturn, 1) := by decide +kernel
theorem dX5_image_0 : decode cX5_image 0 = .ok (.iconst 0, 1) := by decide +kernel
theorem dX5_image_1 : decode cX5_image 1 = .ok (.istore_n 1, 1) := by decide +kernel
theorem dX5_image_2 : decode cX5_image 2 = .ok (.iload_n 1, 1) := by decide +kernel
theorem dX5_image_3 : decode cX5_image 3 = .ok (.bipush 70, 2) := by decide +kernel
theorem dX5_image_5 : decode cX5_image 5 = .ok (.if_icmp .ge 21, 3) := by decide +kernel
theorem dX5_image_8 : decode cX5_image 8 = .ok (.aload_n 0, 1) := by decide +kernel
theorem dX5_image_9 : decode cX5_image 9 = .ok (.getfield 13, 3) := by decide +kernel
theorem dX5_image_12 : decode cX5_image 12 = .ok (.iload_n 1, 1) := by decide +kernel
theorem dX5_image_13 : decode cX5_image 13 = .ok (.aload_n 0, 1) := by decide +kernel
theorem dX5_image_14 : decode cX5_image 14 = .ok (.getfield 9, 3) := by decide +kernel
theorem dX5_image_17 : decode cX5_image 17 = .ok (.iload_n 1, 1) := by decide +kernel
theorem dX5_image_18 : decode cX5_image 18 = .ok (.iaload, 1) := by decide +kernel
theorem dX5_image_19 : decode cX5_image 19 = .ok (.iastore, 1) := by decide +kernel
theorem dX5_image_20 : decode cX5_image 20 = .ok (.iinc 1 1, 3) := by decide +kernel
theorem dX5_image_23 : decode cX5_image 23 = .ok (.goto (-21), 3) := by decide +kernel
theorem dX5_image_26 : decode cX5_image 26 = .ok (.aload_n 0, 1) := by decide +kernel
theorem dX5_image_27 : decode cX5_image 27 = .ok (.iconst 1, 1) := by decide +kernel
theorem dX5_image_28 : decode cX5_image 28 = .ok (.putfield 269, 3) := by decide +kernel
theorem dX5_image_31 : decode cX5_image 31 = .ok (.iconst 1, 1) := by decide +kernel
theorem dX5_image_32 : decode cX5_image 32 = .ok (.ireturn, 1) := by decide +kernel
theorem dX5_undo_0 : decode cX5_undo 0 = .ok (.aload_n 0, 1) := by decide +kernel
theorem dX5_undo_1 : decode cX5_undo 1 = .ok (.getfield 269, 3) := by decide +kernel
theorem dX5_undo_4 : decode cX5_undo 4 = .ok (.ifCond .ne 9, 3) := by decide +kernel
theorem dX5_undo_7 : decode cX5_undo 7 = .ok (.aload_n 0, 1) := by decide +kernel
theorem dX5_undo_8 : decode cX5_undo 8 = .ok (.iconst 3, 1) := by decide +kernel
theorem dX5_undo_9 : decode cX5_undo 9 = .ok (.invokevirtual 128, 3) := by decide +kernel
theorem dX5_undo_12 : decode cX5_undo 12 = .ok (.ireturn, 1) := by decide +kernel
theorem dX5_undo_13 : decode cX5_undo 13 = .ok (.iconst 0, 1) := by decide +kernel
theorem dX5_undo_14 : decode cX5_undo 14 = .ok (.istore_n 1, 1) := by decide +kernel
theorem dX5_undo_15 : decode cX5_undo 15 = .ok (.iload_n 1, 1) := by decide +kernel
theorem dX5_undo_16 : decode cX5_undo 16 = .ok (.bipush 70, 2) := by decide +kernel
theorem dX5_undo_18 : decode cX5_undo 18 = .ok (.if_icmp .ge 21, 3) := by decide +kernel
theorem dX5_undo_21 : decode cX5_undo 21 = .ok (.aload_n 0, 1) := by decide +kernel
theorem dX5_undo_22 : decode cX5_undo 22 = .ok (.getfield 9, 3) := by decide +kernel
theorem dX5_undo_25 : decode cX5_undo 25 = .ok (.iload_n 1, 1) := by decide +kernel
theorem dX5_undo_26 : decode cX5_undo 26 = .ok (.aload_n 0, 1) := by decide +kernel
theorem dX5_undo_27 : decode cX5_undo 27 = .ok (.getfield 13, 3) := by decide +kernel
theorem dX5_undo_30 : decode cX5_undo 30 = .ok (.iload_n 1, 1) := by decide +kernel
theorem dX5_undo_31 : decode cX5_undo 31 = .ok (.iaload, 1) := by decide +kernel
theorem dX5_undo_32 : decode cX5_undo 32 = .ok (.iastore, 1) := by decide +kernel
theorem dX5_undo_33 : decode cX5_undo 33 = .ok (.iinc 1 1, 3) := by decide +kernel
theorem dX5_undo_36 : decode cX5_undo 36 = .ok (.goto (-21), 3) := by decide +kernel
theorem dX5_undo_39 : decode cX5_undo 39 = .ok (.aload_n 0, 1) := by decide +kernel
theorem dX5_undo_40 : decode cX5_undo 40 = .ok (.getfield 9, 3) := by decide +kernel
theorem dX5_undo_43 : decode cX5_undo 43 = .ok (.iconst 0, 1) := by decide +kernel
theorem dX5_undo_44 : decode cX5_undo 44 = .ok (.iaload, 1) := by decide +kernel
theorem dX5_undo_45 : decode cX5_undo 45 = .ok (.ireturn, 1) := by decide +kernel
theorem dX5_tear_0 : decode cX5_tear 0 = .ok (.aload_n 0, 1) := by decide +kernel
theorem dX5_tear_1 : decode cX5_tear 1 = .ok (.getfield 269, 3) := by decide +kernel
theorem dX5_tear_4 : decode cX5_tear 4 = .ok (.ifCond .eq 7, 3) := by decide +kernel
theorem dX5_tear_7 : decode cX5_tear 7 = .ok (.iconst 1, 1) := by decide +kernel
theorem dX5_tear_8 : decode cX5_tear 8 = .ok (.goto 4, 3) := by decide +kernel
theorem dX5_tear_11 : decode cX5_tear 11 = .ok (.iconst 0, 1) := by decide +kernel
theorem dX5_tear_12 : decode cX5_tear 12 = .ok (.istore_n 1, 1) := by decide +kernel
theorem dX5_tear_13 : decode cX5_tear 13 = .ok (.aload_n 0, 1) := by decide +kernel
theorem dX5_tear_14 : decode cX5_tear 14 = .ok (.iconst 0, 1) := by decide +kernel
theorem dX5_tear_15 : decode cX5_tear 15 = .ok (.putfield 269, 3) := by decide +kernel
theorem dX5_tear_18 : decode cX5_tear 18 = .ok (.iload_n 1, 1) := by decide +kernel
theorem dX5_tear_19 : decode cX5_tear 19 = .ok (.ireturn, 1) := by decide +kernel
theorem dX5_count_0 : decode cX5_count 0 = .ok (.iconst 0, 1) := by decide +kernel
theorem dX5_count_1 : decode cX5_count 1 = .ok (.istore_n 2, 1) := by decide +kernel
theorem dX5_count_2 : decode cX5_count 2 = .ok (.iload_n 1, 1) := by decide +kernel
theorem dX5_count_3 : decode cX5_count 3 = .ok (.tableswitch 125 0 7 #[45, 52, 59, 66, 72, 77, 82, 89], 45) := by decide +kernel
theorem dX5_count_48 : decode cX5_count 48 = .ok (.aload_n 0, 1) := by decide +kernel
theorem dX5_count_49 : decode cX5_count 49 = .ok (.getfield 9, 3) := by decide +kernel
theorem dX5_count_52 : decode cX5_count 52 = .ok (.iconst 0, 1) := by decide +kernel
theorem dX5_count_53 : decode cX5_count 53 = .ok (.iaload, 1) := by decide +kernel
theorem dX5_count_54 : decode cX5_count 54 = .ok (.ireturn, 1) := by decide +kernel
theorem dX5_count_55 : decode cX5_count 55 = .ok (.aload_n 0, 1) := by decide +kernel
theorem dX5_count_56 : decode cX5_count 56 = .ok (.getfield 9, 3) := by decide +kernel
theorem dX5_count_59 : decode cX5_count 59 = .ok (.iconst 1, 1) := by decide +kernel
theorem dX5_count_60 : decode cX5_count 60 = .ok (.iaload, 1) := by decide +kernel
theorem dX5_count_61 : decode cX5_count 61 = .ok (.ireturn, 1) := by decide +kernel
theorem dX5_count_62 : decode cX5_count 62 = .ok (.aload_n 0, 1) := by decide +kernel
theorem dX5_count_63 : decode cX5_count 63 = .ok (.getfield 9, 3) := by decide +kernel
theorem dX5_count_66 : decode cX5_count 66 = .ok (.iconst 3, 1) := by decide +kernel
theorem dX5_count_67 : decode cX5_count 67 = .ok (.iaload, 1) := by decide +kernel
theorem dX5_count_68 : decode cX5_count 68 = .ok (.ireturn, 1) := by decide +kernel
theorem dX5_count_69 : decode cX5_count 69 = .ok (.aload_n 0, 1) := by decide +kernel
theorem dX5_count_70 : decode cX5_count 70 = .ok (.iconst 4, 1) := by decide +kernel
theorem dX5_count_71 : decode cX5_count 71 = .ok (.invokevirtual 150, 3) := by decide +kernel
theorem dX5_count_74 : decode cX5_count 74 = .ok (.ireturn, 1) := by decide +kernel
theorem dX5_count_75 : decode cX5_count 75 = .ok (.aload_n 0, 1) := by decide +kernel
theorem dX5_count_76 : decode cX5_count 76 = .ok (.invokevirtual 156, 3) := by decide +kernel
theorem dX5_count_79 : decode cX5_count 79 = .ok (.ireturn, 1) := by decide +kernel
theorem dX5_count_80 : decode cX5_count 80 = .ok (.aload_n 0, 1) := by decide +kernel
theorem dX5_count_81 : decode cX5_count 81 = .ok (.getfield 209, 3) := by decide +kernel
theorem dX5_count_84 : decode cX5_count 84 = .ok (.ireturn, 1) := by decide +kernel
theorem dX5_count_85 : decode cX5_count 85 = .ok (.aload_n 0, 1) := by decide +kernel
theorem dX5_count_86 : decode cX5_count 86 = .ok (.getfield 9, 3) := by decide +kernel
theorem dX5_count_89 : decode cX5_count 89 = .ok (.iconst 2, 1) := by decide +kernel
theorem dX5_count_90 : decode cX5_count 90 = .ok (.iaload, 1) := by decide +kernel
theorem dX5_count_91 : decode cX5_count 91 = .ok (.ireturn, 1) := by decide +kernel
theorem dX5_count_92 : decode cX5_count 92 = .ok (.iconst 0, 1) := by decide +kernel
theorem dX5_count_93 : decode cX5_count 93 = .ok (.istore_n 3, 1) := by decide +kernel
theorem dX5_count_94 : decode cX5_count 94 = .ok (.iload_n 3, 1) := by decide +kernel
theorem dX5_count_95 : decode cX5_count 95 = .ok (.bipush 10, 2) := by decide +kernel
theorem dX5_count_97 : decode cX5_count 97 = .ok (.if_icmp .ge 29, 3) := by decide +kernel
theorem dX5_count_100 : decode cX5_count 100 = .ok (.iload_n 2, 1) := by decide +kernel
theorem dX5_count_101 : decode cX5_count 101 = .ok (.aload_n 0, 1) := by decide +kernel
theorem dX5_count_102 : decode cX5_count 102 = .ok (.getfield 9, 3) := by decide +kernel
theorem dX5_count_105 : decode cX5_count 105 = .ok (.bipush 60, 2) := by decide +kernel
theorem dX5_count_107 : decode cX5_count 107 = .ok (.iload_n 3, 1) := by decide +kernel
theorem dX5_count_108 : decode cX5_count 108 = .ok (.iadd, 1) := by decide +kernel
theorem dX5_count_109 : decode cX5_count 109 = .ok (.iaload, 1) := by decide +kernel
theorem dX5_count_110 : decode cX5_count 110 = .ok (.ifCond .lt 7, 3) := by decide +kernel
theorem dX5_count_113 : decode cX5_count 113 = .ok (.iconst 1, 1) := by decide +kernel
theorem dX5_count_114 : decode cX5_count 114 = .ok (.goto 4, 3) := by decide +kernel
theorem dX5_count_117 : decode cX5_count 117 = .ok (.iconst 0, 1) := by decide +kernel
theorem dX5_count_118 : decode cX5_count 118 = .ok (.iadd, 1) := by decide +kernel
theorem dX5_count_119 : decode cX5_count 119 = .ok (.istore_n 2, 1) := by decide +kernel
theorem dX5_count_120 : decode cX5_count 120 = .ok (.iinc 3 1, 3) := by decide +kernel
theorem dX5_count_123 : decode cX5_count 123 = .ok (.goto (-29), 3) := by decide +kernel
theorem dX5_count_126 : decode cX5_count 126 = .ok (.iload_n 2, 1) := by decide +kernel
theorem dX5_count_127 : decode cX5_count 127 = .ok (.ireturn, 1) := by decide +kernel
theorem dX5_count_128 : decode cX5_count 128 = .ok (.aload_n 0, 1) := by decide +kernel
theorem dX5_count_129 : decode cX5_count 129 = .ok (.iconst 0, 1) := by decide +kernel
theorem dX5_count_130 : decode cX5_count 130 = .ok (.invokevirtual 128, 3) := by decide +kernel
theorem dX5_count_133 : decode cX5_count 133 = .ok (.ireturn, 1) := by decide +kernel
theorem dX5_status_0 : decode cX5_status 0 = .ok (.iload_n 1, 1) := by decide +kernel
theorem dX5_status_1 : decode cX5_status 1 = .ok (.iconst (-1), 1) := by decide +kernel
theorem dX5_status_2 : decode cX5_status 2 = .ok (.bipush 6, 2) := by decide +kernel
theorem dX5_status_4 : decode cX5_status 4 = .ok (.invokestatic 48, 3) := by decide +kernel
theorem dX5_status_7 : decode cX5_status 7 = .ok (.ifCond .ne 9, 3) := by decide +kernel
theorem dX5_status_10 : decode cX5_status 10 = .ok (.aload_n 0, 1) := by decide +kernel
theorem dX5_status_11 : decode cX5_status 11 = .ok (.iconst 0, 1) := by decide +kernel
theorem dX5_status_12 : decode cX5_status 12 = .ok (.invokevirtual 128, 3) := by decide +kernel
theorem dX5_status_15 : decode cX5_status 15 = .ok (.ireturn, 1) := by decide +kernel
theorem dX5_status_16 : decode cX5_status 16 = .ok (.iconst 0, 1) := by decide +kernel
theorem dX5_status_17 : decode cX5_status 17 = .ok (.istore_n 2, 1) := by decide +kernel
theorem dX5_status_18 : decode cX5_status 18 = .ok (.iconst 0, 1) := by decide +kernel
theorem dX5_status_19 : decode cX5_status 19 = .ok (.istore_n 3, 1) := by decide +kernel
theorem dX5_status_20 : decode cX5_status 20 = .ok (.iload_n 3, 1) := by decide +kernel
theorem dX5_status_21 : decode cX5_status 21 = .ok (.bipush 7, 2) := by decide +kernel
theorem dX5_status_23 : decode cX5_status 23 = .ok (.if_icmp .ge 32, 3) := by decide +kernel
theorem dX5_status_26 : decode cX5_status 26 = .ok (.iload_n 2, 1) := by decide +kernel
theorem dX5_status_27 : decode cX5_status 27 = .ok (.iload_n 1, 1) := by decide +kernel
theorem dX5_status_28 : decode cX5_status 28 = .ok (.iconst (-1), 1) := by decide +kernel
theorem dX5_status_29 : decode cX5_status 29 = .ok (.if_icmp .eq 8, 3) := by decide +kernel
theorem dX5_status_32 : decode cX5_status 32 = .ok (.iload_n 1, 1) := by decide +kernel
theorem dX5_status_33 : decode cX5_status 33 = .ok (.iload_n 3, 1) := by decide +kernel
theorem dX5_status_34 : decode cX5_status 34 = .ok (.if_icmp .ne 12, 3) := by decide +kernel
theorem dX5_status_37 : decode cX5_status 37 = .ok (.aload_n 0, 1) := by decide +kernel
theorem dX5_status_38 : decode cX5_status 38 = .ok (.getfield 19, 3) := by decide +kernel
theorem dX5_status_41 : decode cX5_status 41 = .ok (.iload_n 3, 1) := by decide +kernel
theorem dX5_status_42 : decode cX5_status 42 = .ok (.iaload, 1) := by decide +kernel
theorem dX5_status_43 : decode cX5_status 43 = .ok (.goto 4, 3) := by decide +kernel
theorem dX5_status_46 : decode cX5_status 46 = .ok (.iconst 0, 1) := by decide +kernel
theorem dX5_status_47 : decode cX5_status 47 = .ok (.iadd, 1) := by decide +kernel
theorem dX5_status_48 : decode cX5_status 48 = .ok (.istore_n 2, 1) := by decide +kernel
theorem dX5_status_49 : decode cX5_status 49 = .ok (.iinc 3 1, 3) := by decide +kernel
theorem dX5_status_52 : decode cX5_status 52 = .ok (.goto (-32), 3) := by decide +kernel
theorem dX5_status_55 : decode cX5_status 55 = .ok (.iload_n 2, 1) := by decide +kernel
theorem dX5_status_56 : decode cX5_status 56 = .ok (.ireturn, 1) := by decide +kernel
theorem dJ6_bitCount_0f7a4_0 : decode cJ6_bitCount_0f7a4 0 = .ok (.iload_n 0, 1) := by decide +kernel
theorem dJ6_bitCount_0f7a4_1 : decode cJ6_bitCount_0f7a4 1 = .ok (.iload_n 0, 1) := by decide +kernel
theorem dJ6_bitCount_0f7a4_2 : decode cJ6_bitCount_0f7a4 2 = .ok (.iconst 1, 1) := by decide +kernel
theorem dJ6_bitCount_0f7a4_3 : decode cJ6_bitCount_0f7a4 3 = .ok (.iushr, 1) := by decide +kernel
theorem dJ6_bitCount_0f7a4_4 : decode cJ6_bitCount_0f7a4 4 = .ok (.ldc_w 265, 3) := by decide +kernel
theorem dJ6_bitCount_0f7a4_7 : decode cJ6_bitCount_0f7a4 7 = .ok (.iand, 1) := by decide +kernel
theorem dJ6_bitCount_0f7a4_8 : decode cJ6_bitCount_0f7a4 8 = .ok (.isub, 1) := by decide +kernel
theorem dJ6_bitCount_0f7a4_9 : decode cJ6_bitCount_0f7a4 9 = .ok (.istore_n 0, 1) := by decide +kernel
theorem dJ6_bitCount_0f7a4_10 : decode cJ6_bitCount_0f7a4 10 = .ok (.iload_n 0, 1) := by decide +kernel
theorem dJ6_bitCount_0f7a4_11 : decode cJ6_bitCount_0f7a4 11 = .ok (.ldc_w 266, 3) := by decide +kernel
theorem dJ6_bitCount_0f7a4_14 : decode cJ6_bitCount_0f7a4 14 = .ok (.iand, 1) := by decide +kernel
theorem dJ6_bitCount_0f7a4_15 : decode cJ6_bitCount_0f7a4 15 = .ok (.iload_n 0, 1) := by decide +kernel
theorem dJ6_bitCount_0f7a4_16 : decode cJ6_bitCount_0f7a4 16 = .ok (.iconst 2, 1) := by decide +kernel
theorem dJ6_bitCount_0f7a4_17 : decode cJ6_bitCount_0f7a4 17 = .ok (.iushr, 1) := by decide +kernel
theorem dJ6_bitCount_0f7a4_18 : decode cJ6_bitCount_0f7a4 18 = .ok (.ldc_w 266, 3) := by decide +kernel
theorem dJ6_bitCount_0f7a4_21 : decode cJ6_bitCount_0f7a4 21 = .ok (.iand, 1) := by decide +kernel
theorem dJ6_bitCount_0f7a4_22 : decode cJ6_bitCount_0f7a4 22 = .ok (.iadd, 1) := by decide +kernel
theorem dJ6_bitCount_0f7a4_23 : decode cJ6_bitCount_0f7a4 23 = .ok (.istore_n 0, 1) := by decide +kernel
theorem dJ6_bitCount_0f7a4_24 : decode cJ6_bitCount_0f7a4 24 = .ok (.iload_n 0, 1) := by decide +kernel
theorem dJ6_bitCount_0f7a4_25 : decode cJ6_bitCount_0f7a4 25 = .ok (.iload_n 0, 1) := by decide +kernel
theorem dJ6_bitCount_0f7a4_26 : decode cJ6_bitCount_0f7a4 26 = .ok (.iconst 4, 1) := by decide +kernel
theorem dJ6_bitCount_0f7a4_27 : decode cJ6_bitCount_0f7a4 27 = .ok (.iushr, 1) := by decide +kernel
theorem dJ6_bitCount_0f7a4_28 : decode cJ6_bitCount_0f7a4 28 = .ok (.iadd, 1) := by decide +kernel
theorem dJ6_bitCount_0f7a4_29 : decode cJ6_bitCount_0f7a4 29 = .ok (.ldc_w 267, 3) := by decide +kernel
theorem dJ6_bitCount_0f7a4_32 : decode cJ6_bitCount_0f7a4 32 = .ok (.iand, 1) := by decide +kernel
theorem dJ6_bitCount_0f7a4_33 : decode cJ6_bitCount_0f7a4 33 = .ok (.istore_n 0, 1) := by decide +kernel
theorem dJ6_bitCount_0f7a4_34 : decode cJ6_bitCount_0f7a4 34 = .ok (.iload_n 0, 1) := by decide +kernel
theorem dJ6_bitCount_0f7a4_35 : decode cJ6_bitCount_0f7a4 35 = .ok (.iload_n 0, 1) := by decide +kernel
theorem dJ6_bitCount_0f7a4_36 : decode cJ6_bitCount_0f7a4 36 = .ok (.bipush 8, 2) := by decide +kernel
theorem dJ6_bitCount_0f7a4_38 : decode cJ6_bitCount_0f7a4 38 = .ok (.iushr, 1) := by decide +kernel
theorem dJ6_bitCount_0f7a4_39 : decode cJ6_bitCount_0f7a4 39 = .ok (.iadd, 1) := by decide +kernel
theorem dJ6_bitCount_0f7a4_40 : decode cJ6_bitCount_0f7a4 40 = .ok (.istore_n 0, 1) := by decide +kernel
theorem dJ6_bitCount_0f7a4_41 : decode cJ6_bitCount_0f7a4 41 = .ok (.iload_n 0, 1) := by decide +kernel
theorem dJ6_bitCount_0f7a4_42 : decode cJ6_bitCount_0f7a4 42 = .ok (.iload_n 0, 1) := by decide +kernel
theorem dJ6_bitCount_0f7a4_43 : decode cJ6_bitCount_0f7a4 43 = .ok (.bipush 16, 2) := by decide +kernel
theorem dJ6_bitCount_0f7a4_45 : decode cJ6_bitCount_0f7a4 45 = .ok (.iushr, 1) := by decide +kernel
theorem dJ6_bitCount_0f7a4_46 : decode cJ6_bitCount_0f7a4 46 = .ok (.iadd, 1) := by decide +kernel
theorem dJ6_bitCount_0f7a4_47 : decode cJ6_bitCount_0f7a4 47 = .ok (.istore_n 0, 1) := by decide +kernel
theorem dJ6_bitCount_0f7a4_48 : decode cJ6_bitCount_0f7a4 48 = .ok (.iload_n 0, 1) := by decide +kernel
theorem dJ6_bitCount_0f7a4_49 : decode cJ6_bitCount_0f7a4 49 = .ok (.bipush 63, 2) := by decide +kernel
theorem dJ6_bitCount_0f7a4_51 : decode cJ6_bitCount_0f7a4 51 = .ok (.iand, 1) := by decide +kernel
theorem dJ6_bitCount_0f7a4_52 : decode cJ6_bitCount_0f7a4 52 = .ok (.ireturn, 1) := by decide +kernel
theorem dJ9_abs_0f7a4_0 : decode cJ9_abs_0f7a4 0 = .ok (.iload_n 0, 1) := by decide +kernel
theorem dJ9_abs_0f7a4_1 : decode cJ9_abs_0f7a4 1 = .ok (.ifCond .ge 8, 3) := by decide +kernel
theorem dJ9_abs_0f7a4_4 : decode cJ9_abs_0f7a4 4 = .ok (.iload_n 0, 1) := by decide +kernel
theorem dJ9_abs_0f7a4_5 : decode cJ9_abs_0f7a4 5 = .ok (.ineg, 1) := by decide +kernel
theorem dJ9_abs_0f7a4_6 : decode cJ9_abs_0f7a4 6 = .ok (.goto 4, 3) := by decide +kernel
theorem dJ9_abs_0f7a4_9 : decode cJ9_abs_0f7a4 9 = .ok (.iload_n 0, 1) := by decide +kernel
theorem dJ9_abs_0f7a4_10 : decode cJ9_abs_0f7a4 10 = .ok (.ireturn, 1) := by decide +kernel
theorem dJ9_min_7cf53_0 : decode cJ9_min_7cf53 0 = .ok (.iload_n 0, 1) := by decide +kernel
theorem dJ9_min_7cf53_1 : decode cJ9_min_7cf53 1 = .ok (.iload_n 1, 1) := by decide +kernel
theorem dJ9_min_7cf53_2 : decode cJ9_min_7cf53 2 = .ok (.if_icmp .gt 7, 3) := by decide +kernel
theorem dJ9_min_7cf53_5 : decode cJ9_min_7cf53 5 = .ok (.iload_n 0, 1) := by decide +kernel
theorem dJ9_min_7cf53_6 : decode cJ9_min_7cf53 6 = .ok (.goto 4, 3) := by decide +kernel
theorem dJ9_min_7cf53_9 : decode cJ9_min_7cf53 9 = .ok (.iload_n 1, 1) := by decide +kernel
theorem dJ9_min_7cf53_10 : decode cJ9_min_7cf53 10 = .ok (.ireturn, 1) := by decide +kernel
theorem dJ0_length_8abf5_0 : decode cJ0_length_8abf5 0 = .ok (.aload_n 0, 1) := by decide +kernel
theorem dJ0_length_8abf5_1 : decode cJ0_length_8abf5 1 = .ok (.getfield 9, 3) := by decide +kernel
theorem dJ0_length_8abf5_4 : decode cJ0_length_8abf5 4 = .ok (.arraylength, 1) := by decide +kernel
theorem dJ0_length_8abf5_5 : decode cJ0_length_8abf5 5 = .ok (.aload_n 0, 1) := by decide +kernel
theorem dJ0_length_8abf5_6 : decode cJ0_length_8abf5 6 = .ok (.invokevirtual 335, 3) := by decide +kernel
theorem dJ0_length_8abf5_9 : decode cJ0_length_8abf5 9 = .ok (.ishr, 1) := by decide +kernel
theorem dJ0_length_8abf5_10 : decode cJ0_length_8abf5 10 = .ok (.ireturn, 1) := by decide +kernel
theorem dJ0_charAt_5068e_0 : decode cJ0_charAt_5068e 0 = .ok (.aload_n 0, 1) := by decide +kernel
theorem dJ0_charAt_5068e_1 : decode cJ0_charAt_5068e 1 = .ok (.invokevirtual 492, 3) := by decide +kernel
theorem dJ0_charAt_5068e_4 : decode cJ0_charAt_5068e 4 = .ok (.ifCond .eq 12, 3) := by decide +kernel
theorem dJ0_charAt_5068e_7 : decode cJ0_charAt_5068e 7 = .ok (.aload_n 0, 1) := by decide +kernel
theorem dJ0_charAt_5068e_8 : decode cJ0_charAt_5068e 8 = .ok (.getfield 9, 3) := by decide +kernel
theorem dJ0_charAt_5068e_11 : decode cJ0_charAt_5068e 11 = .ok (.iload_n 1, 1) := by decide +kernel
theorem dJ0_charAt_5068e_12 : decode cJ0_charAt_5068e 12 = .ok (.invokestatic 495, 3) := by decide +kernel
theorem dJ0_charAt_5068e_15 : decode cJ0_charAt_5068e 15 = .ok (.ireturn, 1) := by decide +kernel
theorem dJ0_charAt_5068e_16 : decode cJ0_charAt_5068e 16 = .ok (.aload_n 0, 1) := by decide +kernel
theorem dJ0_charAt_5068e_17 : decode cJ0_charAt_5068e 17 = .ok (.getfield 9, 3) := by decide +kernel
theorem dJ0_charAt_5068e_20 : decode cJ0_charAt_5068e 20 = .ok (.iload_n 1, 1) := by decide +kernel
theorem dJ0_charAt_5068e_21 : decode cJ0_charAt_5068e 21 = .ok (.invokestatic 498, 3) := by decide +kernel
theorem dJ0_charAt_5068e_24 : decode cJ0_charAt_5068e 24 = .ok (.ireturn, 1) := by decide +kernel
theorem dJ0_coder_7d493_0 : decode cJ0_coder_7d493 0 = .ok (.getstatic 38, 3) := by decide +kernel
theorem dJ0_coder_7d493_3 : decode cJ0_coder_7d493 3 = .ok (.ifCond .eq 10, 3) := by decide +kernel
theorem dJ0_coder_7d493_6 : decode cJ0_coder_7d493 6 = .ok (.aload_n 0, 1) := by decide +kernel
theorem dJ0_coder_7d493_7 : decode cJ0_coder_7d493 7 = .ok (.getfield 15, 3) := by decide +kernel
theorem dJ0_coder_7d493_10 : decode cJ0_coder_7d493 10 = .ok (.goto 4, 3) := by decide +kernel
theorem dJ0_coder_7d493_13 : decode cJ0_coder_7d493 13 = .ok (.iconst 1, 1) := by decide +kernel
theorem dJ0_coder_7d493_14 : decode cJ0_coder_7d493 14 = .ok (.ireturn, 1) := by decide +kernel
theorem dJ0_isLatin1_aae02_0 : decode cJ0_isLatin1_aae02 0 = .ok (.getstatic 38, 3) := by decide +kernel
theorem dJ0_isLatin1_aae02_3 : decode cJ0_isLatin1_aae02 3 = .ok (.ifCond .eq 14, 3) := by decide +kernel
theorem dJ0_isLatin1_aae02_6 : decode cJ0_isLatin1_aae02 6 = .ok (.aload_n 0, 1) := by decide +kernel
theorem dJ0_isLatin1_aae02_7 : decode cJ0_isLatin1_aae02 7 = .ok (.getfield 15, 3) := by decide +kernel
theorem dJ0_isLatin1_aae02_10 : decode cJ0_isLatin1_aae02 10 = .ok (.ifCond .ne 7, 3) := by decide +kernel
theorem dJ0_isLatin1_aae02_13 : decode cJ0_isLatin1_aae02 13 = .ok (.iconst 1, 1) := by decide +kernel
theorem dJ0_isLatin1_aae02_14 : decode cJ0_isLatin1_aae02 14 = .ok (.goto 4, 3) := by decide +kernel
theorem dJ0_isLatin1_aae02_17 : decode cJ0_isLatin1_aae02 17 = .ok (.iconst 0, 1) := by decide +kernel
theorem dJ0_isLatin1_aae02_18 : decode cJ0_isLatin1_aae02 18 = .ok (.ireturn, 1) := by decide +kernel
theorem dJ0_checkIndex_df160_0 : decode cJ0_checkIndex_df160 0 = .ok (.iload_n 0, 1) := by decide +kernel
theorem dJ0_checkIndex_df160_1 : decode cJ0_checkIndex_df160 1 = .ok (.iload_n 1, 1) := by decide +kernel
theorem dJ0_checkIndex_df160_2 : decode cJ0_checkIndex_df160 2 = .ok (.getstatic 1053, 3) := by decide +kernel
theorem dJ0_checkIndex_df160_5 : decode cJ0_checkIndex_df160 5 = .ok (.invokestatic 1059, 3) := by decide +kernel
theorem dJ0_checkIndex_df160_8 : decode cJ0_checkIndex_df160 8 = .ok (.pop, 1) := by decide +kernel
theorem dJ0_checkIndex_df160_9 : decode cJ0_checkIndex_df160 9 = .ok (.return_, 1) := by decide +kernel
theorem dJ1_charAt_3b067_0 : decode cJ1_charAt_3b067 0 = .ok (.iload_n 1, 1) := by decide +kernel
theorem dJ1_charAt_3b067_1 : decode cJ1_charAt_3b067 1 = .ok (.aload_n 0, 1) := by decide +kernel
theorem dJ1_charAt_3b067_2 : decode cJ1_charAt_3b067 2 = .ok (.arraylength, 1) := by decide +kernel
theorem dJ1_charAt_3b067_3 : decode cJ1_charAt_3b067 3 = .ok (.invokestatic 9, 3) := by decide +kernel
theorem dJ1_charAt_3b067_6 : decode cJ1_charAt_3b067 6 = .ok (.aload_n 0, 1) := by decide +kernel
theorem dJ1_charAt_3b067_7 : decode cJ1_charAt_3b067 7 = .ok (.iload_n 1, 1) := by decide +kernel
theorem dJ1_charAt_3b067_8 : decode cJ1_charAt_3b067 8 = .ok (.baload, 1) := by decide +kernel
theorem dJ1_charAt_3b067_9 : decode cJ1_charAt_3b067 9 = .ok (.sipush 255, 3) := by decide +kernel
theorem dJ1_charAt_3b067_12 : decode cJ1_charAt_3b067 12 = .ok (.iand, 1) := by decide +kernel
theorem dJ1_charAt_3b067_13 : decode cJ1_charAt_3b067 13 = .ok (.i2c, 1) := by decide +kernel
theorem dJ1_charAt_3b067_14 : decode cJ1_charAt_3b067 14 = .ok (.ireturn, 1) := by decide +kernel
theorem dJ2_getChar_3b067_0 : decode cJ2_getChar_3b067 0 = .ok (.getstatic 44, 3) := by decide +kernel
theorem dJ2_getChar_3b067_3 : decode cJ2_getChar_3b067 3 = .ok (.ifCond .ne 25, 3) := by decide +kernel
theorem dJ2_getChar_3b067_6 : decode cJ2_getChar_3b067 6 = .ok (.iload_n 1, 1) := by decide +kernel
theorem dJ2_getChar_3b067_7 : decode cJ2_getChar_3b067 7 = .ok (.ifCond .lt 11, 3) := by decide +kernel
theorem dJ2_getChar_3b067_10 : decode cJ2_getChar_3b067 10 = .ok (.iload_n 1, 1) := by decide +kernel
theorem dJ2_getChar_3b067_11 : decode cJ2_getChar_3b067 11 = .ok (.aload_n 0, 1) := by decide +kernel
theorem dJ2_getChar_3b067_12 : decode cJ2_getChar_3b067 12 = .ok (.invokestatic 48, 3) := by decide +kernel
theorem dJ2_getChar_3b067_15 : decode cJ2_getChar_3b067 15 = .ok (.if_icmp .lt 13, 3) := by decide +kernel
theorem dJ2_getChar_3b067_18 : decode cJ2_getChar_3b067 18 = .ok (.new 52, 3) := by decide +kernel
theorem dJ2_getChar_3b067_21 : decode cJ2_getChar_3b067 21 = .ok (.dup, 1) := by decide +kernel
theorem dJ2_getChar_3b067_22 : decode cJ2_getChar_3b067 22 = .ok (.ldc 54, 2) := by decide +kernel
theorem dJ2_getChar_3b067_24 : decode cJ2_getChar_3b067 24 = .ok (.invokespecial 56, 3) := by decide +kernel
theorem dJ2_getChar_3b067_27 : decode cJ2_getChar_3b067 27 = .ok (.athrow, 1) := by decide +kernel
theorem dJ2_getChar_3b067_28 : decode cJ2_getChar_3b067 28 = .ok (.iload_n 1, 1) := by decide +kernel
theorem dJ2_getChar_3b067_29 : decode cJ2_getChar_3b067 29 = .ok (.iconst 1, 1) := by decide +kernel
theorem dJ2_getChar_3b067_30 : decode cJ2_getChar_3b067 30 = .ok (.ishl, 1) := by decide +kernel
theorem dJ2_getChar_3b067_31 : decode cJ2_getChar_3b067 31 = .ok (.istore_n 1, 1) := by decide +kernel
theorem dJ2_getChar_3b067_32 : decode cJ2_getChar_3b067 32 = .ok (.aload_n 0, 1) := by decide +kernel
theorem dJ2_getChar_3b067_33 : decode cJ2_getChar_3b067 33 = .ok (.iload_n 1, 1) := by decide +kernel
theorem dJ2_getChar_3b067_34 : decode cJ2_getChar_3b067 34 = .ok (.iinc 1 1, 3) := by decide +kernel
theorem dJ2_getChar_3b067_37 : decode cJ2_getChar_3b067 37 = .ok (.baload, 1) := by decide +kernel
theorem dJ2_getChar_3b067_38 : decode cJ2_getChar_3b067 38 = .ok (.sipush 255, 3) := by decide +kernel
theorem dJ2_getChar_3b067_41 : decode cJ2_getChar_3b067 41 = .ok (.iand, 1) := by decide +kernel
theorem dJ2_getChar_3b067_42 : decode cJ2_getChar_3b067 42 = .ok (.getstatic 59, 3) := by decide +kernel
theorem dJ2_getChar_3b067_45 : decode cJ2_getChar_3b067 45 = .ok (.ishl, 1) := by decide +kernel
theorem dJ2_getChar_3b067_46 : decode cJ2_getChar_3b067 46 = .ok (.aload_n 0, 1) := by decide +kernel
theorem dJ2_getChar_3b067_47 : decode cJ2_getChar_3b067 47 = .ok (.iload_n 1, 1) := by decide +kernel
theorem dJ2_getChar_3b067_48 : decode cJ2_getChar_3b067 48 = .ok (.baload, 1) := by decide +kernel
theorem dJ2_getChar_3b067_49 : decode cJ2_getChar_3b067 49 = .ok (.sipush 255, 3) := by decide +kernel
theorem dJ2_getChar_3b067_52 : decode cJ2_getChar_3b067 52 = .ok (.iand, 1) := by decide +kernel
theorem dJ2_getChar_3b067_53 : decode cJ2_getChar_3b067 53 = .ok (.getstatic 63, 3) := by decide +kernel
theorem dJ2_getChar_3b067_56 : decode cJ2_getChar_3b067 56 = .ok (.ishl, 1) := by decide +kernel
theorem dJ2_getChar_3b067_57 : decode cJ2_getChar_3b067 57 = .ok (.ior, 1) := by decide +kernel
theorem dJ2_getChar_3b067_58 : decode cJ2_getChar_3b067 58 = .ok (.i2c, 1) := by decide +kernel
theorem dJ2_getChar_3b067_59 : decode cJ2_getChar_3b067 59 = .ok (.ireturn, 1) := by decide +kernel
theorem dJ2_length_9d52b_0 : decode cJ2_length_9d52b 0 = .ok (.aload_n 0, 1) := by decide +kernel
theorem dJ2_length_9d52b_1 : decode cJ2_length_9d52b 1 = .ok (.arraylength, 1) := by decide +kernel
theorem dJ2_length_9d52b_2 : decode cJ2_length_9d52b 2 = .ok (.iconst 1, 1) := by decide +kernel
theorem dJ2_length_9d52b_3 : decode cJ2_length_9d52b 3 = .ok (.ishr, 1) := by decide +kernel
theorem dJ2_length_9d52b_4 : decode cJ2_length_9d52b 4 = .ok (.ireturn, 1) := by decide +kernel
theorem dJ2_charAt_3b067_0 : decode cJ2_charAt_3b067 0 = .ok (.iload_n 1, 1) := by decide +kernel
theorem dJ2_charAt_3b067_1 : decode cJ2_charAt_3b067 1 = .ok (.aload_n 0, 1) := by decide +kernel
theorem dJ2_charAt_3b067_2 : decode cJ2_charAt_3b067 2 = .ok (.invokestatic 67, 3) := by decide +kernel
theorem dJ2_charAt_3b067_5 : decode cJ2_charAt_3b067 5 = .ok (.aload_n 0, 1) := by decide +kernel
theorem dJ2_charAt_3b067_6 : decode cJ2_charAt_3b067 6 = .ok (.iload_n 1, 1) := by decide +kernel
theorem dJ2_charAt_3b067_7 : decode cJ2_charAt_3b067 7 = .ok (.invokestatic 71, 3) := by decide +kernel
theorem dJ2_charAt_3b067_10 : decode cJ2_charAt_3b067 10 = .ok (.ireturn, 1) := by decide +kernel
theorem dJ2_checkIndex_2214a_0 : decode cJ2_checkIndex_2214a 0 = .ok (.iload_n 0, 1) := by decide +kernel
theorem dJ2_checkIndex_2214a_1 : decode cJ2_checkIndex_2214a 1 = .ok (.aload_n 1, 1) := by decide +kernel
theorem dJ2_checkIndex_2214a_2 : decode cJ2_checkIndex_2214a 2 = .ok (.invokestatic 48, 3) := by decide +kernel
theorem dJ2_checkIndex_2214a_5 : decode cJ2_checkIndex_2214a 5 = .ok (.invokestatic 414, 3) := by decide +kernel
theorem dJ2_checkIndex_2214a_8 : decode cJ2_checkIndex_2214a 8 = .ok (.return_, 1) := by decide +kernel
theorem dJ7_rangeCheck_23922_0 : decode cJ7_rangeCheck_23922 0 = .ok (.iload_n 1, 1) := by decide +kernel
theorem dJ7_rangeCheck_23922_1 : decode cJ7_rangeCheck_23922 1 = .ok (.iload_n 2, 1) := by decide +kernel
theorem dJ7_rangeCheck_23922_2 : decode cJ7_rangeCheck_23922 2 = .ok (.if_icmp .le 44, 3) := by decide +kernel
theorem dJ7_rangeCheck_23922_5 : decode cJ7_rangeCheck_23922 5 = .ok (.new 43, 3) := by decide +kernel
theorem dJ7_rangeCheck_23922_8 : decode cJ7_rangeCheck_23922 8 = .ok (.dup, 1) := by decide +kernel
theorem dJ7_rangeCheck_23922_9 : decode cJ7_rangeCheck_23922 9 = .ok (.new 45, 3) := by decide +kernel
theorem dJ7_rangeCheck_23922_12 : decode cJ7_rangeCheck_23922 12 = .ok (.dup, 1) := by decide +kernel
theorem dJ7_rangeCheck_23922_13 : decode cJ7_rangeCheck_23922 13 = .ok (.invokespecial 47, 3) := by decide +kernel
theorem dJ7_rangeCheck_23922_16 : decode cJ7_rangeCheck_23922 16 = .ok (.ldc 48, 2) := by decide +kernel
theorem dJ7_rangeCheck_23922_18 : decode cJ7_rangeCheck_23922 18 = .ok (.invokevirtual 50, 3) := by decide +kernel
theorem dJ7_rangeCheck_23922_21 : decode cJ7_rangeCheck_23922 21 = .ok (.iload_n 1, 1) := by decide +kernel
theorem dJ7_rangeCheck_23922_22 : decode cJ7_rangeCheck_23922 22 = .ok (.invokevirtual 54, 3) := by decide +kernel
theorem dJ7_rangeCheck_23922_25 : decode cJ7_rangeCheck_23922 25 = .ok (.ldc 57, 2) := by decide +kernel
theorem dJ7_rangeCheck_23922_27 : decode cJ7_rangeCheck_23922 27 = .ok (.invokevirtual 50, 3) := by decide +kernel
theorem dJ7_rangeCheck_23922_30 : decode cJ7_rangeCheck_23922 30 = .ok (.iload_n 2, 1) := by decide +kernel
theorem dJ7_rangeCheck_23922_31 : decode cJ7_rangeCheck_23922 31 = .ok (.invokevirtual 54, 3) := by decide +kernel
theorem dJ7_rangeCheck_23922_34 : decode cJ7_rangeCheck_23922 34 = .ok (.ldc 59, 2) := by decide +kernel
theorem dJ7_rangeCheck_23922_36 : decode cJ7_rangeCheck_23922 36 = .ok (.invokevirtual 50, 3) := by decide +kernel
theorem dJ7_rangeCheck_23922_39 : decode cJ7_rangeCheck_23922 39 = .ok (.invokevirtual 61, 3) := by decide +kernel
theorem dJ7_rangeCheck_23922_42 : decode cJ7_rangeCheck_23922 42 = .ok (.invokespecial 65, 3) := by decide +kernel
theorem dJ7_rangeCheck_23922_45 : decode cJ7_rangeCheck_23922 45 = .ok (.athrow, 1) := by decide +kernel
theorem dJ7_rangeCheck_23922_46 : decode cJ7_rangeCheck_23922 46 = .ok (.iload_n 1, 1) := by decide +kernel
theorem dJ7_rangeCheck_23922_47 : decode cJ7_rangeCheck_23922 47 = .ok (.ifCond .ge 12, 3) := by decide +kernel
theorem dJ7_rangeCheck_23922_50 : decode cJ7_rangeCheck_23922 50 = .ok (.new 68, 3) := by decide +kernel
theorem dJ7_rangeCheck_23922_53 : decode cJ7_rangeCheck_23922 53 = .ok (.dup, 1) := by decide +kernel
theorem dJ7_rangeCheck_23922_54 : decode cJ7_rangeCheck_23922 54 = .ok (.iload_n 1, 1) := by decide +kernel
theorem dJ7_rangeCheck_23922_55 : decode cJ7_rangeCheck_23922 55 = .ok (.invokespecial 70, 3) := by decide +kernel
theorem dJ7_rangeCheck_23922_58 : decode cJ7_rangeCheck_23922 58 = .ok (.athrow, 1) := by decide +kernel
theorem dJ7_rangeCheck_23922_59 : decode cJ7_rangeCheck_23922 59 = .ok (.iload_n 2, 1) := by decide +kernel
theorem dJ7_rangeCheck_23922_60 : decode cJ7_rangeCheck_23922 60 = .ok (.iload_n 0, 1) := by decide +kernel
theorem dJ7_rangeCheck_23922_61 : decode cJ7_rangeCheck_23922 61 = .ok (.if_icmp .le 12, 3) := by decide +kernel
theorem dJ7_rangeCheck_23922_64 : decode cJ7_rangeCheck_23922 64 = .ok (.new 68, 3) := by decide +kernel
theorem dJ7_rangeCheck_23922_67 : decode cJ7_rangeCheck_23922 67 = .ok (.dup, 1) := by decide +kernel
theorem dJ7_rangeCheck_23922_68 : decode cJ7_rangeCheck_23922 68 = .ok (.iload_n 2, 1) := by decide +kernel
theorem dJ7_rangeCheck_23922_69 : decode cJ7_rangeCheck_23922 69 = .ok (.invokespecial 70, 3) := by decide +kernel
theorem dJ7_rangeCheck_23922_72 : decode cJ7_rangeCheck_23922 72 = .ok (.athrow, 1) := by decide +kernel
theorem dJ7_rangeCheck_23922_73 : decode cJ7_rangeCheck_23922 73 = .ok (.return_, 1) := by decide +kernel
theorem dJ7_fill_53178_0 : decode cJ7_fill_53178 0 = .ok (.iconst 0, 1) := by decide +kernel
theorem dJ7_fill_53178_1 : decode cJ7_fill_53178 1 = .ok (.istore_n 2, 1) := by decide +kernel
theorem dJ7_fill_53178_2 : decode cJ7_fill_53178 2 = .ok (.aload_n 0, 1) := by decide +kernel
theorem dJ7_fill_53178_3 : decode cJ7_fill_53178 3 = .ok (.arraylength, 1) := by decide +kernel
theorem dJ7_fill_53178_4 : decode cJ7_fill_53178 4 = .ok (.istore_n 3, 1) := by decide +kernel
theorem dJ7_fill_53178_5 : decode cJ7_fill_53178 5 = .ok (.iload_n 2, 1) := by decide +kernel
theorem dJ7_fill_53178_6 : decode cJ7_fill_53178 6 = .ok (.iload_n 3, 1) := by decide +kernel
theorem dJ7_fill_53178_7 : decode cJ7_fill_53178 7 = .ok (.if_icmp .ge 13, 3) := by decide +kernel
theorem dJ7_fill_53178_10 : decode cJ7_fill_53178 10 = .ok (.aload_n 0, 1) := by decide +kernel
theorem dJ7_fill_53178_11 : decode cJ7_fill_53178 11 = .ok (.iload_n 2, 1) := by decide +kernel
theorem dJ7_fill_53178_12 : decode cJ7_fill_53178 12 = .ok (.iload_n 1, 1) := by decide +kernel
theorem dJ7_fill_53178_13 : decode cJ7_fill_53178 13 = .ok (.iastore, 1) := by decide +kernel
theorem dJ7_fill_53178_14 : decode cJ7_fill_53178 14 = .ok (.iinc 2 1, 3) := by decide +kernel
theorem dJ7_fill_53178_17 : decode cJ7_fill_53178 17 = .ok (.goto (-12), 3) := by decide +kernel
theorem dJ7_fill_53178_20 : decode cJ7_fill_53178 20 = .ok (.return_, 1) := by decide +kernel
theorem dJ7_fill_fda19_0 : decode cJ7_fill_fda19 0 = .ok (.aload_n 0, 1) := by decide +kernel
theorem dJ7_fill_fda19_1 : decode cJ7_fill_fda19 1 = .ok (.arraylength, 1) := by decide +kernel
theorem dJ7_fill_fda19_2 : decode cJ7_fill_fda19 2 = .ok (.iload_n 1, 1) := by decide +kernel
theorem dJ7_fill_fda19_3 : decode cJ7_fill_fda19 3 = .ok (.iload_n 2, 1) := by decide +kernel
theorem dJ7_fill_fda19_4 : decode cJ7_fill_fda19 4 = .ok (.invokestatic 13, 3) := by decide +kernel
theorem dJ7_fill_fda19_7 : decode cJ7_fill_fda19 7 = .ok (.iload_n 1, 1) := by decide +kernel
theorem dJ7_fill_fda19_8 : decode cJ7_fill_fda19 8 = .ok (.istore 4, 2) := by decide +kernel
theorem dJ7_fill_fda19_10 : decode cJ7_fill_fda19 10 = .ok (.iload 4, 2) := by decide +kernel
theorem dJ7_fill_fda19_12 : decode cJ7_fill_fda19 12 = .ok (.iload_n 2, 1) := by decide +kernel
theorem dJ7_fill_fda19_13 : decode cJ7_fill_fda19 13 = .ok (.if_icmp .ge 14, 3) := by decide +kernel
theorem dJ7_fill_fda19_16 : decode cJ7_fill_fda19 16 = .ok (.aload_n 0, 1) := by decide +kernel
theorem dJ7_fill_fda19_17 : decode cJ7_fill_fda19 17 = .ok (.iload 4, 2) := by decide +kernel
theorem dJ7_fill_fda19_19 : decode cJ7_fill_fda19 19 = .ok (.iload_n 3, 1) := by decide +kernel
theorem dJ7_fill_fda19_20 : decode cJ7_fill_fda19 20 = .ok (.iastore, 1) := by decide +kernel
theorem dJ7_fill_fda19_21 : decode cJ7_fill_fda19 21 = .ok (.iinc 4 1, 3) := by decide +kernel
theorem dJ7_fill_fda19_24 : decode cJ7_fill_fda19 24 = .ok (.goto (-14), 3) := by decide +kernel
theorem dJ7_fill_fda19_27 : decode cJ7_fill_fda19 27 = .ok (.return_, 1) := by decide +kernel
theorem dJ3_checkIndex_8e157_0 : decode cJ3_checkIndex_8e157 0 = .ok (.iload_n 0, 1) := by decide +kernel
theorem dJ3_checkIndex_8e157_1 : decode cJ3_checkIndex_8e157 1 = .ok (.ifCond .lt 8, 3) := by decide +kernel
theorem dJ3_checkIndex_8e157_4 : decode cJ3_checkIndex_8e157 4 = .ok (.iload_n 0, 1) := by decide +kernel
theorem dJ3_checkIndex_8e157_5 : decode cJ3_checkIndex_8e157 5 = .ok (.iload_n 1, 1) := by decide +kernel
theorem dJ3_checkIndex_8e157_6 : decode cJ3_checkIndex_8e157 6 = .ok (.if_icmp .lt 10, 3) := by decide +kernel
theorem dJ3_checkIndex_8e157_9 : decode cJ3_checkIndex_8e157 9 = .ok (.aload_n 2, 1) := by decide +kernel
theorem dJ3_checkIndex_8e157_10 : decode cJ3_checkIndex_8e157 10 = .ok (.iload_n 0, 1) := by decide +kernel
theorem dJ3_checkIndex_8e157_11 : decode cJ3_checkIndex_8e157 11 = .ok (.iload_n 1, 1) := by decide +kernel
theorem dJ3_checkIndex_8e157_12 : decode cJ3_checkIndex_8e157 12 = .ok (.invokestatic 95, 3) := by decide +kernel
theorem dJ3_checkIndex_8e157_15 : decode cJ3_checkIndex_8e157 15 = .ok (.athrow, 1) := by decide +kernel
theorem dJ3_checkIndex_8e157_16 : decode cJ3_checkIndex_8e157 16 = .ok (.iload_n 0, 1) := by decide +kernel
theorem dJ3_checkIndex_8e157_17 : decode cJ3_checkIndex_8e157 17 = .ok (.ireturn, 1) := by decide +kernel
theorem dL_law_0 : decode cL_law 0 = .ok (.new 7, 3) := by decide +kernel
theorem dL_law_3 : decode cL_law 3 = .ok (.dup, 1) := by decide +kernel
theorem dL_law_4 : decode cL_law 4 = .ok (.invokespecial 9, 3) := by decide +kernel
theorem dL_law_7 : decode cL_law 7 = .ok (.astore_n 1, 1) := by decide +kernel
theorem dL_law_8 : decode cL_law 8 = .ok (.new 10, 3) := by decide +kernel
theorem dL_law_11 : decode cL_law 11 = .ok (.dup, 1) := by decide +kernel
theorem dL_law_12 : decode cL_law 12 = .ok (.invokespecial 12, 3) := by decide +kernel
theorem dL_law_15 : decode cL_law 15 = .ok (.astore_n 2, 1) := by decide +kernel
theorem dL_law_16 : decode cL_law 16 = .ok (.iconst 0, 1) := by decide +kernel
theorem dL_law_17 : decode cL_law 17 = .ok (.istore_n 3, 1) := by decide +kernel
theorem dL_law_18 : decode cL_law 18 = .ok (.iload_n 3, 1) := by decide +kernel
theorem dL_law_19 : decode cL_law 19 = .ok (.aload_n 0, 1) := by decide +kernel
theorem dL_law_20 : decode cL_law 20 = .ok (.arraylength, 1) := by decide +kernel
theorem dL_law_21 : decode cL_law 21 = .ok (.bipush 6, 2) := by decide +kernel
theorem dL_law_23 : decode cL_law 23 = .ok (.isub, 1) := by decide +kernel
theorem dL_law_24 : decode cL_law 24 = .ok (.if_icmp .gt 1334, 3) := by decide +kernel
theorem dL_law_27 : decode cL_law 27 = .ok (.aload_n 0, 1) := by decide +kernel
theorem dL_law_28 : decode cL_law 28 = .ok (.iload_n 3, 1) := by decide +kernel
theorem dL_law_29 : decode cL_law 29 = .ok (.iaload, 1) := by decide +kernel
theorem dL_law_30 : decode cL_law 30 = .ok (.bipush 63, 2) := by decide +kernel
theorem dL_law_32 : decode cL_law 32 = .ok (.iand, 1) := by decide +kernel
theorem dL_law_33 : decode cL_law 33 = .ok (.tableswitch 1319 0 38 #[171, 204, 237, 280, 313, 346, 369, 412, 435, 458, 501, 524, 567, 580, 613, 646, 679, 712, 735, 758, 791, 824, 847, 891, 914, 947, 960, 973, 1006, 1039, 1082, 1125, 1188, 1211, 1234, 1247, 1260, 1273, 1296], 171) := by decide +kernel
theorem dL_law_204 : decode cL_law 204 = .ok (.aload_n 1, 1) := by decide +kernel
theorem dL_law_205 : decode cL_law 205 = .ok (.aload_n 0, 1) := by decide +kernel
theorem dL_law_206 : decode cL_law 206 = .ok (.iload_n 3, 1) := by decide +kernel
theorem dL_law_207 : decode cL_law 207 = .ok (.iconst 1, 1) := by decide +kernel
theorem dL_law_208 : decode cL_law 208 = .ok (.iadd, 1) := by decide +kernel
theorem dL_law_209 : decode cL_law 209 = .ok (.iaload, 1) := by decide +kernel
theorem dL_law_210 : decode cL_law 210 = .ok (.aload_n 0, 1) := by decide +kernel
theorem dL_law_211 : decode cL_law 211 = .ok (.iload_n 3, 1) := by decide +kernel
theorem dL_law_212 : decode cL_law 212 = .ok (.iconst 2, 1) := by decide +kernel
theorem dL_law_213 : decode cL_law 213 = .ok (.iadd, 1) := by decide +kernel
theorem dL_law_214 : decode cL_law 214 = .ok (.iaload, 1) := by decide +kernel
theorem dL_law_215 : decode cL_law 215 = .ok (.invokevirtual 13, 3) := by decide +kernel
theorem dL_law_218 : decode cL_law 218 = .ok (.aload_n 2, 1) := by decide +kernel
theorem dL_law_219 : decode cL_law 219 = .ok (.aload_n 0, 1) := by decide +kernel
theorem dL_law_220 : decode cL_law 220 = .ok (.iload_n 3, 1) := by decide +kernel
theorem dL_law_221 : decode cL_law 221 = .ok (.iconst 1, 1) := by decide +kernel
theorem dL_law_222 : decode cL_law 222 = .ok (.iadd, 1) := by decide +kernel
theorem dL_law_223 : decode cL_law 223 = .ok (.iaload, 1) := by decide +kernel
theorem dL_law_224 : decode cL_law 224 = .ok (.aload_n 0, 1) := by decide +kernel
theorem dL_law_225 : decode cL_law 225 = .ok (.iload_n 3, 1) := by decide +kernel
theorem dL_law_226 : decode cL_law 226 = .ok (.iconst 2, 1) := by decide +kernel
theorem dL_law_227 : decode cL_law 227 = .ok (.iadd, 1) := by decide +kernel
theorem dL_law_228 : decode cL_law 228 = .ok (.iaload, 1) := by decide +kernel
theorem dL_law_229 : decode cL_law 229 = .ok (.invokevirtual 17, 3) := by decide +kernel
theorem dL_law_232 : decode cL_law 232 = .ok (.if_icmp .eq 1120, 3) := by decide +kernel
theorem dL_law_235 : decode cL_law 235 = .ok (.iconst 0, 1) := by decide +kernel
theorem dL_law_236 : decode cL_law 236 = .ok (.ireturn, 1) := by decide +kernel
theorem dL_law_237 : decode cL_law 237 = .ok (.aload_n 1, 1) := by decide +kernel
theorem dL_law_238 : decode cL_law 238 = .ok (.aload_n 0, 1) := by decide +kernel
theorem dL_law_239 : decode cL_law 239 = .ok (.iload_n 3, 1) := by decide +kernel
theorem dL_law_240 : decode cL_law 240 = .ok (.iconst 1, 1) := by decide +kernel
theorem dL_law_241 : decode cL_law 241 = .ok (.iadd, 1) := by decide +kernel
theorem dL_law_242 : decode cL_law 242 = .ok (.iaload, 1) := by decide +kernel
theorem dL_law_243 : decode cL_law 243 = .ok (.aload_n 0, 1) := by decide +kernel
theorem dL_law_244 : decode cL_law 244 = .ok (.iload_n 3, 1) := by decide +kernel
theorem dL_law_245 : decode cL_law 245 = .ok (.iconst 2, 1) := by decide +kernel
theorem dL_law_246 : decode cL_law 246 = .ok (.iadd, 1) := by decide +kernel
theorem dL_law_247 : decode cL_law 247 = .ok (.iaload, 1) := by decide +kernel
theorem dL_law_248 : decode cL_law 248 = .ok (.invokevirtual 18, 3) := by decide +kernel
theorem dL_law_251 : decode cL_law 251 = .ok (.aload_n 2, 1) := by decide +kernel
theorem dL_law_252 : decode cL_law 252 = .ok (.aload_n 0, 1) := by decide +kernel
theorem dL_law_253 : decode cL_law 253 = .ok (.iload_n 3, 1) := by decide +kernel
theorem dL_law_254 : decode cL_law 254 = .ok (.iconst 1, 1) := by decide +kernel
theorem dL_law_255 : decode cL_law 255 = .ok (.iadd, 1) := by decide +kernel
theorem dL_law_256 : decode cL_law 256 = .ok (.iaload, 1) := by decide +kernel
theorem dL_law_257 : decode cL_law 257 = .ok (.aload_n 0, 1) := by decide +kernel
theorem dL_law_258 : decode cL_law 258 = .ok (.iload_n 3, 1) := by decide +kernel
theorem dL_law_259 : decode cL_law 259 = .ok (.iconst 2, 1) := by decide +kernel
theorem dL_law_260 : decode cL_law 260 = .ok (.iadd, 1) := by decide +kernel
theorem dL_law_261 : decode cL_law 261 = .ok (.iaload, 1) := by decide +kernel
theorem dL_law_262 : decode cL_law 262 = .ok (.invokevirtual 21, 3) := by decide +kernel
theorem dL_law_265 : decode cL_law 265 = .ok (.if_icmp .eq 1087, 3) := by decide +kernel
theorem dL_law_268 : decode cL_law 268 = .ok (.iconst 0, 1) := by decide +kernel
theorem dL_law_269 : decode cL_law 269 = .ok (.ireturn, 1) := by decide +kernel
theorem dL_law_270 : decode cL_law 270 = .ok (.aload_n 1, 1) := by decide +kernel
theorem dL_law_271 : decode cL_law 271 = .ok (.aload_n 0, 1) := by decide +kernel
theorem dL_law_272 : decode cL_law 272 = .ok (.iload_n 3, 1) := by decide +kernel
theorem dL_law_273 : decode cL_law 273 = .ok (.iconst 1, 1) := by decide +kernel
theorem dL_law_274 : decode cL_law 274 = .ok (.iadd, 1) := by decide +kernel
theorem dL_law_275 : decode cL_law 275 = .ok (.iaload, 1) := by decide +kernel
theorem dL_law_276 : decode cL_law 276 = .ok (.aload_n 0, 1) := by decide +kernel
theorem dL_law_277 : decode cL_law 277 = .ok (.iload_n 3, 1) := by decide +kernel
theorem dL_law_278 : decode cL_law 278 = .ok (.iconst 2, 1) := by decide +kernel
theorem dL_law_279 : decode cL_law 279 = .ok (.iadd, 1) := by decide +kernel
theorem dL_law_280 : decode cL_law 280 = .ok (.iaload, 1) := by decide +kernel
theorem dL_law_281 : decode cL_law 281 = .ok (.aload_n 0, 1) := by decide +kernel
theorem dL_law_282 : decode cL_law 282 = .ok (.iload_n 3, 1) := by decide +kernel
theorem dL_law_283 : decode cL_law 283 = .ok (.iconst 3, 1) := by decide +kernel
theorem dL_law_284 : decode cL_law 284 = .ok (.iadd, 1) := by decide +kernel
theorem dL_law_285 : decode cL_law 285 = .ok (.iaload, 1) := by decide +kernel
theorem dL_law_286 : decode cL_law 286 = .ok (.invokevirtual 22, 3) := by decide +kernel
theorem dL_law_289 : decode cL_law 289 = .ok (.aload_n 2, 1) := by decide +kernel
theorem dL_law_290 : decode cL_law 290 = .ok (.aload_n 0, 1) := by decide +kernel
theorem dL_law_291 : decode cL_law 291 = .ok (.iload_n 3, 1) := by decide +kernel
theorem dL_law_292 : decode cL_law 292 = .ok (.iconst 1, 1) := by decide +kernel
theorem dL_law_293 : decode cL_law 293 = .ok (.iadd, 1) := by decide +kernel
theorem dL_law_294 : decode cL_law 294 = .ok (.iaload, 1) := by decide +kernel
theorem dL_law_295 : decode cL_law 295 = .ok (.aload_n 0, 1) := by decide +kernel
theorem dL_law_296 : decode cL_law 296 = .ok (.iload_n 3, 1) := by decide +kernel
theorem dL_law_297 : decode cL_law 297 = .ok (.iconst 2, 1) := by decide +kernel
theorem dL_law_298 : decode cL_law 298 = .ok (.iadd, 1) := by decide +kernel
theorem dL_law_299 : decode cL_law 299 = .ok (.iaload, 1) := by decide +kernel
theorem dL_law_300 : decode cL_law 300 = .ok (.aload_n 0, 1) := by decide +kernel
theorem dL_law_301 : decode cL_law 301 = .ok (.iload_n 3, 1) := by decide +kernel
theorem dL_law_302 : decode cL_law 302 = .ok (.iconst 3, 1) := by decide +kernel
theorem dL_law_303 : decode cL_law 303 = .ok (.iadd, 1) := by decide +kernel
theorem dL_law_304 : decode cL_law 304 = .ok (.iaload, 1) := by decide +kernel
theorem dL_law_305 : decode cL_law 305 = .ok (.invokevirtual 26, 3) := by decide +kernel
theorem dL_law_308 : decode cL_law 308 = .ok (.if_icmp .eq 1044, 3) := by decide +kernel
theorem dL_law_311 : decode cL_law 311 = .ok (.iconst 0, 1) := by decide +kernel
theorem dL_law_312 : decode cL_law 312 = .ok (.ireturn, 1) := by decide +kernel
theorem dL_law_313 : decode cL_law 313 = .ok (.aload_n 1, 1) := by decide +kernel
theorem dL_law_314 : decode cL_law 314 = .ok (.aload_n 0, 1) := by decide +kernel
theorem dL_law_315 : decode cL_law 315 = .ok (.iload_n 3, 1) := by decide +kernel
theorem dL_law_316 : decode cL_law 316 = .ok (.iconst 1, 1) := by decide +kernel
theorem dL_law_317 : decode cL_law 317 = .ok (.iadd, 1) := by decide +kernel
theorem dL_law_318 : decode cL_law 318 = .ok (.iaload, 1) := by decide +kernel
theorem dL_law_319 : decode cL_law 319 = .ok (.aload_n 0, 1) := by decide +kernel
theorem dL_law_320 : decode cL_law 320 = .ok (.iload_n 3, 1) := by decide +kernel
theorem dL_law_321 : decode cL_law 321 = .ok (.iconst 2, 1) := by decide +kernel
theorem dL_law_322 : decode cL_law 322 = .ok (.iadd, 1) := by decide +kernel
theorem dL_law_323 : decode cL_law 323 = .ok (.iaload, 1) := by decide +kernel
theorem dL_law_324 : decode cL_law 324 = .ok (.invokevirtual 27, 3) := by decide +kernel
theorem dL_law_327 : decode cL_law 327 = .ok (.aload_n 2, 1) := by decide +kernel
theorem dL_law_328 : decode cL_law 328 = .ok (.aload_n 0, 1) := by decide +kernel
theorem dL_law_329 : decode cL_law 329 = .ok (.iload_n 3, 1) := by decide +kernel
theorem dL_law_330 : decode cL_law 330 = .ok (.iconst 1, 1) := by decide +kernel
theorem dL_law_331 : decode cL_law 331 = .ok (.iadd, 1) := by decide +kernel
theorem dL_law_332 : decode cL_law 332 = .ok (.iaload, 1) := by decide +kernel
theorem dL_law_333 : decode cL_law 333 = .ok (.aload_n 0, 1) := by decide +kernel
theorem dL_law_334 : decode cL_law 334 = .ok (.iload_n 3, 1) := by decide +kernel
theorem dL_law_335 : decode cL_law 335 = .ok (.iconst 2, 1) := by decide +kernel
theorem dL_law_336 : decode cL_law 336 = .ok (.iadd, 1) := by decide +kernel
theorem dL_law_337 : decode cL_law 337 = .ok (.iaload, 1) := by decide +kernel
theorem dL_law_338 : decode cL_law 338 = .ok (.invokevirtual 30, 3) := by decide +kernel
theorem dL_law_341 : decode cL_law 341 = .ok (.if_icmp .eq 1011, 3) := by decide +kernel
theorem dL_law_344 : decode cL_law 344 = .ok (.iconst 0, 1) := by decide +kernel
theorem dL_law_345 : decode cL_law 345 = .ok (.ireturn, 1) := by decide +kernel
theorem dL_law_346 : decode cL_law 346 = .ok (.aload_n 1, 1) := by decide +kernel
theorem dL_law_347 : decode cL_law 347 = .ok (.aload_n 0, 1) := by decide +kernel
theorem dL_law_348 : decode cL_law 348 = .ok (.iload_n 3, 1) := by decide +kernel
theorem dL_law_349 : decode cL_law 349 = .ok (.iconst 1, 1) := by decide +kernel
theorem dL_law_350 : decode cL_law 350 = .ok (.iadd, 1) := by decide +kernel
theorem dL_law_351 : decode cL_law 351 = .ok (.iaload, 1) := by decide +kernel
theorem dL_law_352 : decode cL_law 352 = .ok (.aload_n 0, 1) := by decide +kernel
theorem dL_law_353 : decode cL_law 353 = .ok (.iload_n 3, 1) := by decide +kernel
theorem dL_law_354 : decode cL_law 354 = .ok (.iconst 2, 1) := by decide +kernel
theorem dL_law_355 : decode cL_law 355 = .ok (.iadd, 1) := by decide +kernel
theorem dL_law_356 : decode cL_law 356 = .ok (.iaload, 1) := by decide +kernel
theorem dL_law_357 : decode cL_law 357 = .ok (.invokevirtual 31, 3) := by decide +kernel
theorem dL_law_360 : decode cL_law 360 = .ok (.aload_n 2, 1) := by decide +kernel
theorem dL_law_361 : decode cL_law 361 = .ok (.aload_n 0, 1) := by decide +kernel
theorem dL_law_362 : decode cL_law 362 = .ok (.iload_n 3, 1) := by decide +kernel
theorem dL_law_363 : decode cL_law 363 = .ok (.iconst 1, 1) := by decide +kernel
theorem dL_law_364 : decode cL_law 364 = .ok (.iadd, 1) := by decide +kernel
theorem dL_law_365 : decode cL_law 365 = .ok (.iaload, 1) := by decide +kernel
theorem dL_law_366 : decode cL_law 366 = .ok (.aload_n 0, 1) := by decide +kernel
theorem dL_law_367 : decode cL_law 367 = .ok (.iload_n 3, 1) := by decide +kernel
theorem dL_law_368 : decode cL_law 368 = .ok (.iconst 2, 1) := by decide +kernel
theorem dL_law_369 : decode cL_law 369 = .ok (.iadd, 1) := by decide +kernel
theorem dL_law_370 : decode cL_law 370 = .ok (.iaload, 1) := by decide +kernel
theorem dL_law_371 : decode cL_law 371 = .ok (.invokevirtual 34, 3) := by decide +kernel
theorem dL_law_374 : decode cL_law 374 = .ok (.if_icmp .eq 978, 3) := by decide +kernel
theorem dL_law_377 : decode cL_law 377 = .ok (.iconst 0, 1) := by decide +kernel
theorem dL_law_378 : decode cL_law 378 = .ok (.ireturn, 1) := by decide +kernel
theorem dL_law_379 : decode cL_law 379 = .ok (.aload_n 1, 1) := by decide +kernel
theorem dL_law_380 : decode cL_law 380 = .ok (.aload_n 0, 1) := by decide +kernel
theorem dL_law_381 : decode cL_law 381 = .ok (.iload_n 3, 1) := by decide +kernel
theorem dL_law_382 : decode cL_law 382 = .ok (.iconst 1, 1) := by decide +kernel
theorem dL_law_383 : decode cL_law 383 = .ok (.iadd, 1) := by decide +kernel
theorem dL_law_384 : decode cL_law 384 = .ok (.iaload, 1) := by decide +kernel
theorem dL_law_385 : decode cL_law 385 = .ok (.invokevirtual 35, 3) := by decide +kernel
theorem dL_law_388 : decode cL_law 388 = .ok (.aload_n 2, 1) := by decide +kernel
theorem dL_law_389 : decode cL_law 389 = .ok (.aload_n 0, 1) := by decide +kernel
theorem dL_law_390 : decode cL_law 390 = .ok (.iload_n 3, 1) := by decide +kernel
theorem dL_law_391 : decode cL_law 391 = .ok (.iconst 1, 1) := by decide +kernel
theorem dL_law_392 : decode cL_law 392 = .ok (.iadd, 1) := by decide +kernel
theorem dL_law_393 : decode cL_law 393 = .ok (.iaload, 1) := by decide +kernel
theorem dL_law_394 : decode cL_law 394 = .ok (.invokevirtual 39, 3) := by decide +kernel
theorem dL_law_397 : decode cL_law 397 = .ok (.if_icmp .eq 955, 3) := by decide +kernel
theorem dL_law_400 : decode cL_law 400 = .ok (.iconst 0, 1) := by decide +kernel
theorem dL_law_401 : decode cL_law 401 = .ok (.ireturn, 1) := by decide +kernel
theorem dL_law_402 : decode cL_law 402 = .ok (.aload_n 1, 1) := by decide +kernel
theorem dL_law_403 : decode cL_law 403 = .ok (.aload_n 0, 1) := by decide +kernel
theorem dL_law_404 : decode cL_law 404 = .ok (.iload_n 3, 1) := by decide +kernel
theorem dL_law_405 : decode cL_law 405 = .ok (.iconst 1, 1) := by decide +kernel
theorem dL_law_406 : decode cL_law 406 = .ok (.iadd, 1) := by decide +kernel
theorem dL_law_407 : decode cL_law 407 = .ok (.iaload, 1) := by decide +kernel
theorem dL_law_408 : decode cL_law 408 = .ok (.aload_n 0, 1) := by decide +kernel
theorem dL_law_409 : decode cL_law 409 = .ok (.iload_n 3, 1) := by decide +kernel
theorem dL_law_410 : decode cL_law 410 = .ok (.iconst 2, 1) := by decide +kernel
theorem dL_law_411 : decode cL_law 411 = .ok (.iadd, 1) := by decide +kernel
theorem dL_law_412 : decode cL_law 412 = .ok (.iaload, 1) := by decide +kernel
theorem dL_law_413 : decode cL_law 413 = .ok (.aload_n 0, 1) := by decide +kernel
theorem dL_law_414 : decode cL_law 414 = .ok (.iload_n 3, 1) := by decide +kernel
theorem dL_law_415 : decode cL_law 415 = .ok (.iconst 3, 1) := by decide +kernel
theorem dL_law_416 : decode cL_law 416 = .ok (.iadd, 1) := by decide +kernel
theorem dL_law_417 : decode cL_law 417 = .ok (.iaload, 1) := by decide +kernel
theorem dL_law_418 : decode cL_law 418 = .ok (.invokevirtual 40, 3) := by decide +kernel
theorem dL_law_421 : decode cL_law 421 = .ok (.aload_n 2, 1) := by decide +kernel
theorem dL_law_422 : decode cL_law 422 = .ok (.aload_n 0, 1) := by decide +kernel
theorem dL_law_423 : decode cL_law 423 = .ok (.iload_n 3, 1) := by decide +kernel
theorem dL_law_424 : decode cL_law 424 = .ok (.iconst 1, 1) := by decide +kernel
theorem dL_law_425 : decode cL_law 425 = .ok (.iadd, 1) := by decide +kernel
theorem dL_law_426 : decode cL_law 426 = .ok (.iaload, 1) := by decide +kernel
theorem dL_law_427 : decode cL_law 427 = .ok (.aload_n 0, 1) := by decide +kernel
theorem dL_law_428 : decode cL_law 428 = .ok (.iload_n 3, 1) := by decide +kernel
theorem dL_law_429 : decode cL_law 429 = .ok (.iconst 2, 1) := by decide +kernel
theorem dL_law_430 : decode cL_law 430 = .ok (.iadd, 1) := by decide +kernel
theorem dL_law_431 : decode cL_law 431 = .ok (.iaload, 1) := by decide +kernel
theorem dL_law_432 : decode cL_law 432 = .ok (.aload_n 0, 1) := by decide +kernel
theorem dL_law_433 : decode cL_law 433 = .ok (.iload_n 3, 1) := by decide +kernel
theorem dL_law_434 : decode cL_law 434 = .ok (.iconst 3, 1) := by decide +kernel
theorem dL_law_435 : decode cL_law 435 = .ok (.iadd, 1) := by decide +kernel
theorem dL_law_436 : decode cL_law 436 = .ok (.iaload, 1) := by decide +kernel
theorem dL_law_437 : decode cL_law 437 = .ok (.invokevirtual 43, 3) := by decide +kernel
theorem dL_law_440 : decode cL_law 440 = .ok (.if_icmp .eq 912, 3) := by decide +kernel
theorem dL_law_443 : decode cL_law 443 = .ok (.iconst 0, 1) := by decide +kernel
theorem dL_law_444 : decode cL_law 444 = .ok (.ireturn, 1) := by decide +kernel
theorem dL_law_445 : decode cL_law 445 = .ok (.aload_n 1, 1) := by decide +kernel
theorem dL_law_446 : decode cL_law 446 = .ok (.aload_n 0, 1) := by decide +kernel
theorem dL_law_447 : decode cL_law 447 = .ok (.iload_n 3, 1) := by decide +kernel
theorem dL_law_448 : decode cL_law 448 = .ok (.iconst 1, 1) := by decide +kernel
theorem dL_law_449 : decode cL_law 449 = .ok (.iadd, 1) := by decide +kernel
theorem dL_law_450 : decode cL_law 450 = .ok (.iaload, 1) := by decide +kernel
theorem dL_law_451 : decode cL_law 451 = .ok (.invokevirtual 44, 3) := by decide +kernel
theorem dL_law_454 : decode cL_law 454 = .ok (.aload_n 2, 1) := by decide +kernel
theorem dL_law_455 : decode cL_law 455 = .ok (.aload_n 0, 1) := by decide +kernel
theorem dL_law_456 : decode cL_law 456 = .ok (.iload_n 3, 1) := by decide +kernel
theorem dL_law_457 : decode cL_law 457 = .ok (.iconst 1, 1) := by decide +kernel
theorem dL_law_458 : decode cL_law 458 = .ok (.iadd, 1) := by decide +kernel
theorem dL_law_459 : decode cL_law 459 = .ok (.iaload, 1) := by decide +kernel
theorem dL_law_460 : decode cL_law 460 = .ok (.invokevirtual 47, 3) := by decide +kernel
theorem dL_law_463 : decode cL_law 463 = .ok (.if_icmp .eq 889, 3) := by decide +kernel
theorem dL_law_466 : decode cL_law 466 = .ok (.iconst 0, 1) := by decide +kernel
theorem dL_law_467 : decode cL_law 467 = .ok (.ireturn, 1) := by decide +kernel
theorem dL_law_468 : decode cL_law 468 = .ok (.aload_n 1, 1) := by decide +kernel
theorem dL_law_469 : decode cL_law 469 = .ok (.aload_n 0, 1) := by decide +kernel
theorem dL_law_470 : decode cL_law 470 = .ok (.iload_n 3, 1) := by decide +kernel
theorem dL_law_471 : decode cL_law 471 = .ok (.iconst 1, 1) := by decide +kernel
theorem dL_law_472 : decode cL_law 472 = .ok (.iadd, 1) := by decide +kernel
theorem dL_law_473 : decode cL_law 473 = .ok (.iaload, 1) := by decide +kernel
theorem dL_law_474 : decode cL_law 474 = .ok (.invokevirtual 48, 3) := by decide +kernel
theorem dL_law_477 : decode cL_law 477 = .ok (.aload_n 2, 1) := by decide +kernel
theorem dL_law_478 : decode cL_law 478 = .ok (.aload_n 0, 1) := by decide +kernel
theorem dL_law_479 : decode cL_law 479 = .ok (.iload_n 3, 1) := by decide +kernel
theorem dL_law_480 : decode cL_law 480 = .ok (.iconst 1, 1) := by decide +kernel
theorem dL_law_481 : decode cL_law 481 = .ok (.iadd, 1) := by decide +kernel
theorem dL_law_482 : decode cL_law 482 = .ok (.iaload, 1) := by decide +kernel
theorem dL_law_483 : decode cL_law 483 = .ok (.invokevirtual 51, 3) := by decide +kernel
theorem dL_law_486 : decode cL_law 486 = .ok (.if_icmp .eq 866, 3) := by decide +kernel
theorem dL_law_489 : decode cL_law 489 = .ok (.iconst 0, 1) := by decide +kernel
theorem dL_law_490 : decode cL_law 490 = .ok (.ireturn, 1) := by decide +kernel
theorem dL_law_491 : decode cL_law 491 = .ok (.aload_n 1, 1) := by decide +kernel
theorem dL_law_492 : decode cL_law 492 = .ok (.aload_n 0, 1) := by decide +kernel
theorem dL_law_493 : decode cL_law 493 = .ok (.iload_n 3, 1) := by decide +kernel
theorem dL_law_494 : decode cL_law 494 = .ok (.iconst 1, 1) := by decide +kernel
theorem dL_law_495 : decode cL_law 495 = .ok (.iadd, 1) := by decide +kernel
theorem dL_law_496 : decode cL_law 496 = .ok (.iaload, 1) := by decide +kernel
theorem dL_law_497 : decode cL_law 497 = .ok (.aload_n 0, 1) := by decide +kernel
theorem dL_law_498 : decode cL_law 498 = .ok (.iload_n 3, 1) := by decide +kernel
theorem dL_law_499 : decode cL_law 499 = .ok (.iconst 2, 1) := by decide +kernel
theorem dL_law_500 : decode cL_law 500 = .ok (.iadd, 1) := by decide +kernel
theorem dL_law_501 : decode cL_law 501 = .ok (.iaload, 1) := by decide +kernel
theorem dL_law_502 : decode cL_law 502 = .ok (.aload_n 0, 1) := by decide +kernel
theorem dL_law_503 : decode cL_law 503 = .ok (.iload_n 3, 1) := by decide +kernel
theorem dL_law_504 : decode cL_law 504 = .ok (.iconst 3, 1) := by decide +kernel
theorem dL_law_505 : decode cL_law 505 = .ok (.iadd, 1) := by decide +kernel
theorem dL_law_506 : decode cL_law 506 = .ok (.iaload, 1) := by decide +kernel
theorem dL_law_507 : decode cL_law 507 = .ok (.invokevirtual 52, 3) := by decide +kernel
theorem dL_law_510 : decode cL_law 510 = .ok (.aload_n 2, 1) := by decide +kernel
theorem dL_law_511 : decode cL_law 511 = .ok (.aload_n 0, 1) := by decide +kernel
theorem dL_law_512 : decode cL_law 512 = .ok (.iload_n 3, 1) := by decide +kernel
theorem dL_law_513 : decode cL_law 513 = .ok (.iconst 1, 1) := by decide +kernel
theorem dL_law_514 : decode cL_law 514 = .ok (.iadd, 1) := by decide +kernel
theorem dL_law_515 : decode cL_law 515 = .ok (.iaload, 1) := by decide +kernel
theorem dL_law_516 : decode cL_law 516 = .ok (.aload_n 0, 1) := by decide +kernel
theorem dL_law_517 : decode cL_law 517 = .ok (.iload_n 3, 1) := by decide +kernel
theorem dL_law_518 : decode cL_law 518 = .ok (.iconst 2, 1) := by decide +kernel
theorem dL_law_519 : decode cL_law 519 = .ok (.iadd, 1) := by decide +kernel
theorem dL_law_520 : decode cL_law 520 = .ok (.iaload, 1) := by decide +kernel
theorem dL_law_521 : decode cL_law 521 = .ok (.aload_n 0, 1) := by decide +kernel
theorem dL_law_522 : decode cL_law 522 = .ok (.iload_n 3, 1) := by decide +kernel
theorem dL_law_523 : decode cL_law 523 = .ok (.iconst 3, 1) := by decide +kernel
theorem dL_law_524 : decode cL_law 524 = .ok (.iadd, 1) := by decide +kernel
theorem dL_law_525 : decode cL_law 525 = .ok (.iaload, 1) := by decide +kernel
theorem dL_law_526 : decode cL_law 526 = .ok (.invokevirtual 55, 3) := by decide +kernel
theorem dL_law_529 : decode cL_law 529 = .ok (.if_icmp .eq 823, 3) := by decide +kernel
theorem dL_law_532 : decode cL_law 532 = .ok (.iconst 0, 1) := by decide +kernel
theorem dL_law_533 : decode cL_law 533 = .ok (.ireturn, 1) := by decide +kernel
theorem dL_law_534 : decode cL_law 534 = .ok (.aload_n 1, 1) := by decide +kernel
theorem dL_law_535 : decode cL_law 535 = .ok (.aload_n 0, 1) := by decide +kernel
theorem dL_law_536 : decode cL_law 536 = .ok (.iload_n 3, 1) := by decide +kernel
theorem dL_law_537 : decode cL_law 537 = .ok (.iconst 1, 1) := by decide +kernel
theorem dL_law_538 : decode cL_law 538 = .ok (.iadd, 1) := by decide +kernel
theorem dL_law_539 : decode cL_law 539 = .ok (.iaload, 1) := by decide +kernel
theorem dL_law_540 : decode cL_law 540 = .ok (.invokevirtual 56, 3) := by decide +kernel
theorem dL_law_543 : decode cL_law 543 = .ok (.aload_n 2, 1) := by decide +kernel
theorem dL_law_544 : decode cL_law 544 = .ok (.aload_n 0, 1) := by decide +kernel
theorem dL_law_545 : decode cL_law 545 = .ok (.iload_n 3, 1) := by decide +kernel
theorem dL_law_546 : decode cL_law 546 = .ok (.iconst 1, 1) := by decide +kernel
theorem dL_law_547 : decode cL_law 547 = .ok (.iadd, 1) := by decide +kernel
theorem dL_law_548 : decode cL_law 548 = .ok (.iaload, 1) := by decide +kernel
theorem dL_law_549 : decode cL_law 549 = .ok (.invokevirtual 59, 3) := by decide +kernel
theorem dL_law_552 : decode cL_law 552 = .ok (.if_icmp .eq 800, 3) := by decide +kernel
theorem dL_law_555 : decode cL_law 555 = .ok (.iconst 0, 1) := by decide +kernel
theorem dL_law_556 : decode cL_law 556 = .ok (.ireturn, 1) := by decide +kernel
theorem dL_law_557 : decode cL_law 557 = .ok (.aload_n 1, 1) := by decide +kernel
theorem dL_law_558 : decode cL_law 558 = .ok (.aload_n 0, 1) := by decide +kernel
theorem dL_law_559 : decode cL_law 559 = .ok (.iload_n 3, 1) := by decide +kernel
theorem dL_law_560 : decode cL_law 560 = .ok (.iconst 1, 1) := by decide +kernel
theorem dL_law_561 : decode cL_law 561 = .ok (.iadd, 1) := by decide +kernel
theorem dL_law_562 : decode cL_law 562 = .ok (.iaload, 1) := by decide +kernel
theorem dL_law_563 : decode cL_law 563 = .ok (.aload_n 0, 1) := by decide +kernel
theorem dL_law_564 : decode cL_law 564 = .ok (.iload_n 3, 1) := by decide +kernel
theorem dL_law_565 : decode cL_law 565 = .ok (.iconst 2, 1) := by decide +kernel
theorem dL_law_566 : decode cL_law 566 = .ok (.iadd, 1) := by decide +kernel
theorem dL_law_567 : decode cL_law 567 = .ok (.iaload, 1) := by decide +kernel
theorem dL_law_568 : decode cL_law 568 = .ok (.aload_n 0, 1) := by decide +kernel
theorem dL_law_569 : decode cL_law 569 = .ok (.iload_n 3, 1) := by decide +kernel
theorem dL_law_570 : decode cL_law 570 = .ok (.iconst 3, 1) := by decide +kernel
theorem dL_law_571 : decode cL_law 571 = .ok (.iadd, 1) := by decide +kernel
theorem dL_law_572 : decode cL_law 572 = .ok (.iaload, 1) := by decide +kernel
theorem dL_law_573 : decode cL_law 573 = .ok (.invokevirtual 60, 3) := by decide +kernel
theorem dL_law_576 : decode cL_law 576 = .ok (.aload_n 2, 1) := by decide +kernel
theorem dL_law_577 : decode cL_law 577 = .ok (.aload_n 0, 1) := by decide +kernel
theorem dL_law_578 : decode cL_law 578 = .ok (.iload_n 3, 1) := by decide +kernel
theorem dL_law_579 : decode cL_law 579 = .ok (.iconst 1, 1) := by decide +kernel
theorem dL_law_580 : decode cL_law 580 = .ok (.iadd, 1) := by decide +kernel
theorem dL_law_581 : decode cL_law 581 = .ok (.iaload, 1) := by decide +kernel
theorem dL_law_582 : decode cL_law 582 = .ok (.aload_n 0, 1) := by decide +kernel
theorem dL_law_583 : decode cL_law 583 = .ok (.iload_n 3, 1) := by decide +kernel
theorem dL_law_584 : decode cL_law 584 = .ok (.iconst 2, 1) := by decide +kernel
theorem dL_law_585 : decode cL_law 585 = .ok (.iadd, 1) := by decide +kernel
theorem dL_law_586 : decode cL_law 586 = .ok (.iaload, 1) := by decide +kernel
theorem dL_law_587 : decode cL_law 587 = .ok (.aload_n 0, 1) := by decide +kernel
theorem dL_law_588 : decode cL_law 588 = .ok (.iload_n 3, 1) := by decide +kernel
theorem dL_law_589 : decode cL_law 589 = .ok (.iconst 3, 1) := by decide +kernel
theorem dL_law_590 : decode cL_law 590 = .ok (.iadd, 1) := by decide +kernel
theorem dL_law_591 : decode cL_law 591 = .ok (.iaload, 1) := by decide +kernel
theorem dL_law_592 : decode cL_law 592 = .ok (.invokevirtual 63, 3) := by decide +kernel
theorem dL_law_595 : decode cL_law 595 = .ok (.if_icmp .eq 757, 3) := by decide +kernel
theorem dL_law_598 : decode cL_law 598 = .ok (.iconst 0, 1) := by decide +kernel
theorem dL_law_599 : decode cL_law 599 = .ok (.ireturn, 1) := by decide +kernel
theorem dL_law_600 : decode cL_law 600 = .ok (.aload_n 1, 1) := by decide +kernel
theorem dL_law_601 : decode cL_law 601 = .ok (.invokevirtual 64, 3) := by decide +kernel
theorem dL_law_604 : decode cL_law 604 = .ok (.aload_n 2, 1) := by decide +kernel
theorem dL_law_605 : decode cL_law 605 = .ok (.invokevirtual 68, 3) := by decide +kernel
theorem dL_law_608 : decode cL_law 608 = .ok (.if_icmp .eq 744, 3) := by decide +kernel
theorem dL_law_611 : decode cL_law 611 = .ok (.iconst 0, 1) := by decide +kernel
theorem dL_law_612 : decode cL_law 612 = .ok (.ireturn, 1) := by decide +kernel
theorem dL_law_613 : decode cL_law 613 = .ok (.aload_n 1, 1) := by decide +kernel
theorem dL_law_614 : decode cL_law 614 = .ok (.aload_n 0, 1) := by decide +kernel
theorem dL_law_615 : decode cL_law 615 = .ok (.iload_n 3, 1) := by decide +kernel
theorem dL_law_616 : decode cL_law 616 = .ok (.iconst 1, 1) := by decide +kernel
theorem dL_law_617 : decode cL_law 617 = .ok (.iadd, 1) := by decide +kernel
theorem dL_law_618 : decode cL_law 618 = .ok (.iaload, 1) := by decide +kernel
theorem dL_law_619 : decode cL_law 619 = .ok (.aload_n 0, 1) := by decide +kernel
theorem dL_law_620 : decode cL_law 620 = .ok (.iload_n 3, 1) := by decide +kernel
theorem dL_law_621 : decode cL_law 621 = .ok (.iconst 2, 1) := by decide +kernel
theorem dL_law_622 : decode cL_law 622 = .ok (.iadd, 1) := by decide +kernel
theorem dL_law_623 : decode cL_law 623 = .ok (.iaload, 1) := by decide +kernel
theorem dL_law_624 : decode cL_law 624 = .ok (.invokevirtual 69, 3) := by decide +kernel
theorem dL_law_627 : decode cL_law 627 = .ok (.aload_n 2, 1) := by decide +kernel
theorem dL_law_628 : decode cL_law 628 = .ok (.aload_n 0, 1) := by decide +kernel
theorem dL_law_629 : decode cL_law 629 = .ok (.iload_n 3, 1) := by decide +kernel
theorem dL_law_630 : decode cL_law 630 = .ok (.iconst 1, 1) := by decide +kernel
theorem dL_law_631 : decode cL_law 631 = .ok (.iadd, 1) := by decide +kernel
theorem dL_law_632 : decode cL_law 632 = .ok (.iaload, 1) := by decide +kernel
theorem dL_law_633 : decode cL_law 633 = .ok (.aload_n 0, 1) := by decide +kernel
theorem dL_law_634 : decode cL_law 634 = .ok (.iload_n 3, 1) := by decide +kernel
theorem dL_law_635 : decode cL_law 635 = .ok (.iconst 2, 1) := by decide +kernel
theorem dL_law_636 : decode cL_law 636 = .ok (.iadd, 1) := by decide +kernel
theorem dL_law_637 : decode cL_law 637 = .ok (.iaload, 1) := by decide +kernel
theorem dL_law_638 : decode cL_law 638 = .ok (.invokevirtual 72, 3) := by decide +kernel
theorem dL_law_641 : decode cL_law 641 = .ok (.if_icmp .eq 711, 3) := by decide +kernel
theorem dL_law_644 : decode cL_law 644 = .ok (.iconst 0, 1) := by decide +kernel
theorem dL_law_645 : decode cL_law 645 = .ok (.ireturn, 1) := by decide +kernel
theorem dL_law_646 : decode cL_law 646 = .ok (.aload_n 1, 1) := by decide +kernel
theorem dL_law_647 : decode cL_law 647 = .ok (.aload_n 0, 1) := by decide +kernel
theorem dL_law_648 : decode cL_law 648 = .ok (.iload_n 3, 1) := by decide +kernel
theorem dL_law_649 : decode cL_law 649 = .ok (.iconst 1, 1) := by decide +kernel
theorem dL_law_650 : decode cL_law 650 = .ok (.iadd, 1) := by decide +kernel
theorem dL_law_651 : decode cL_law 651 = .ok (.iaload, 1) := by decide +kernel
theorem dL_law_652 : decode cL_law 652 = .ok (.aload_n 0, 1) := by decide +kernel
theorem dL_law_653 : decode cL_law 653 = .ok (.iload_n 3, 1) := by decide +kernel
theorem dL_law_654 : decode cL_law 654 = .ok (.iconst 2, 1) := by decide +kernel
theorem dL_law_655 : decode cL_law 655 = .ok (.iadd, 1) := by decide +kernel
theorem dL_law_656 : decode cL_law 656 = .ok (.iaload, 1) := by decide +kernel
theorem dL_law_657 : decode cL_law 657 = .ok (.invokevirtual 73, 3) := by decide +kernel
theorem dL_law_660 : decode cL_law 660 = .ok (.aload_n 2, 1) := by decide +kernel
theorem dL_law_661 : decode cL_law 661 = .ok (.aload_n 0, 1) := by decide +kernel
theorem dL_law_662 : decode cL_law 662 = .ok (.iload_n 3, 1) := by decide +kernel
theorem dL_law_663 : decode cL_law 663 = .ok (.iconst 1, 1) := by decide +kernel
theorem dL_law_664 : decode cL_law 664 = .ok (.iadd, 1) := by decide +kernel
theorem dL_law_665 : decode cL_law 665 = .ok (.iaload, 1) := by decide +kernel
theorem dL_law_666 : decode cL_law 666 = .ok (.aload_n 0, 1) := by decide +kernel
theorem dL_law_667 : decode cL_law 667 = .ok (.iload_n 3, 1) := by decide +kernel
theorem dL_law_668 : decode cL_law 668 = .ok (.iconst 2, 1) := by decide +kernel
theorem dL_law_669 : decode cL_law 669 = .ok (.iadd, 1) := by decide +kernel
theorem dL_law_670 : decode cL_law 670 = .ok (.iaload, 1) := by decide +kernel
theorem dL_law_671 : decode cL_law 671 = .ok (.invokevirtual 76, 3) := by decide +kernel
theorem dL_law_674 : decode cL_law 674 = .ok (.if_icmp .eq 678, 3) := by decide +kernel
theorem dL_law_677 : decode cL_law 677 = .ok (.iconst 0, 1) := by decide +kernel
theorem dL_law_678 : decode cL_law 678 = .ok (.ireturn, 1) := by decide +kernel
theorem dL_law_679 : decode cL_law 679 = .ok (.aload_n 1, 1) := by decide +kernel
theorem dL_law_680 : decode cL_law 680 = .ok (.aload_n 0, 1) := by decide +kernel
theorem dL_law_681 : decode cL_law 681 = .ok (.iload_n 3, 1) := by decide +kernel
theorem dL_law_682 : decode cL_law 682 = .ok (.iconst 1, 1) := by decide +kernel
theorem dL_law_683 : decode cL_law 683 = .ok (.iadd, 1) := by decide +kernel
theorem dL_law_684 : decode cL_law 684 = .ok (.iaload, 1) := by decide +kernel
theorem dL_law_685 : decode cL_law 685 = .ok (.aload_n 0, 1) := by decide +kernel
theorem dL_law_686 : decode cL_law 686 = .ok (.iload_n 3, 1) := by decide +kernel
theorem dL_law_687 : decode cL_law 687 = .ok (.iconst 2, 1) := by decide +kernel
theorem dL_law_688 : decode cL_law 688 = .ok (.iadd, 1) := by decide +kernel
theorem dL_law_689 : decode cL_law 689 = .ok (.iaload, 1) := by decide +kernel
theorem dL_law_690 : decode cL_law 690 = .ok (.invokevirtual 77, 3) := by decide +kernel
theorem dL_law_693 : decode cL_law 693 = .ok (.aload_n 2, 1) := by decide +kernel
theorem dL_law_694 : decode cL_law 694 = .ok (.aload_n 0, 1) := by decide +kernel
theorem dL_law_695 : decode cL_law 695 = .ok (.iload_n 3, 1) := by decide +kernel
theorem dL_law_696 : decode cL_law 696 = .ok (.iconst 1, 1) := by decide +kernel
theorem dL_law_697 : decode cL_law 697 = .ok (.iadd, 1) := by decide +kernel
theorem dL_law_698 : decode cL_law 698 = .ok (.iaload, 1) := by decide +kernel
theorem dL_law_699 : decode cL_law 699 = .ok (.aload_n 0, 1) := by decide +kernel
theorem dL_law_700 : decode cL_law 700 = .ok (.iload_n 3, 1) := by decide +kernel
theorem dL_law_701 : decode cL_law 701 = .ok (.iconst 2, 1) := by decide +kernel
theorem dL_law_702 : decode cL_law 702 = .ok (.iadd, 1) := by decide +kernel
theorem dL_law_703 : decode cL_law 703 = .ok (.iaload, 1) := by decide +kernel
theorem dL_law_704 : decode cL_law 704 = .ok (.invokevirtual 80, 3) := by decide +kernel
theorem dL_law_707 : decode cL_law 707 = .ok (.if_icmp .eq 645, 3) := by decide +kernel
theorem dL_law_710 : decode cL_law 710 = .ok (.iconst 0, 1) := by decide +kernel
theorem dL_law_711 : decode cL_law 711 = .ok (.ireturn, 1) := by decide +kernel
theorem dL_law_712 : decode cL_law 712 = .ok (.aload_n 1, 1) := by decide +kernel
theorem dL_law_713 : decode cL_law 713 = .ok (.aload_n 0, 1) := by decide +kernel
theorem dL_law_714 : decode cL_law 714 = .ok (.iload_n 3, 1) := by decide +kernel
theorem dL_law_715 : decode cL_law 715 = .ok (.iconst 1, 1) := by decide +kernel
theorem dL_law_716 : decode cL_law 716 = .ok (.iadd, 1) := by decide +kernel
theorem dL_law_717 : decode cL_law 717 = .ok (.iaload, 1) := by decide +kernel
theorem dL_law_718 : decode cL_law 718 = .ok (.aload_n 0, 1) := by decide +kernel
theorem dL_law_719 : decode cL_law 719 = .ok (.iload_n 3, 1) := by decide +kernel
theorem dL_law_720 : decode cL_law 720 = .ok (.iconst 2, 1) := by decide +kernel
theorem dL_law_721 : decode cL_law 721 = .ok (.iadd, 1) := by decide +kernel
theorem dL_law_722 : decode cL_law 722 = .ok (.iaload, 1) := by decide +kernel
theorem dL_law_723 : decode cL_law 723 = .ok (.invokevirtual 81, 3) := by decide +kernel
theorem dL_law_726 : decode cL_law 726 = .ok (.aload_n 2, 1) := by decide +kernel
theorem dL_law_727 : decode cL_law 727 = .ok (.aload_n 0, 1) := by decide +kernel
theorem dL_law_728 : decode cL_law 728 = .ok (.iload_n 3, 1) := by decide +kernel
theorem dL_law_729 : decode cL_law 729 = .ok (.iconst 1, 1) := by decide +kernel
theorem dL_law_730 : decode cL_law 730 = .ok (.iadd, 1) := by decide +kernel
theorem dL_law_731 : decode cL_law 731 = .ok (.iaload, 1) := by decide +kernel
theorem dL_law_732 : decode cL_law 732 = .ok (.aload_n 0, 1) := by decide +kernel
theorem dL_law_733 : decode cL_law 733 = .ok (.iload_n 3, 1) := by decide +kernel
theorem dL_law_734 : decode cL_law 734 = .ok (.iconst 2, 1) := by decide +kernel
theorem dL_law_735 : decode cL_law 735 = .ok (.iadd, 1) := by decide +kernel
theorem dL_law_736 : decode cL_law 736 = .ok (.iaload, 1) := by decide +kernel
theorem dL_law_737 : decode cL_law 737 = .ok (.invokevirtual 84, 3) := by decide +kernel
theorem dL_law_740 : decode cL_law 740 = .ok (.if_icmp .eq 612, 3) := by decide +kernel
theorem dL_law_743 : decode cL_law 743 = .ok (.iconst 0, 1) := by decide +kernel
theorem dL_law_744 : decode cL_law 744 = .ok (.ireturn, 1) := by decide +kernel
theorem dL_law_745 : decode cL_law 745 = .ok (.aload_n 1, 1) := by decide +kernel
theorem dL_law_746 : decode cL_law 746 = .ok (.aload_n 0, 1) := by decide +kernel
theorem dL_law_747 : decode cL_law 747 = .ok (.iload_n 3, 1) := by decide +kernel
theorem dL_law_748 : decode cL_law 748 = .ok (.iconst 1, 1) := by decide +kernel
theorem dL_law_749 : decode cL_law 749 = .ok (.iadd, 1) := by decide +kernel
theorem dL_law_750 : decode cL_law 750 = .ok (.iaload, 1) := by decide +kernel
theorem dL_law_751 : decode cL_law 751 = .ok (.invokevirtual 85, 3) := by decide +kernel
theorem dL_law_754 : decode cL_law 754 = .ok (.aload_n 2, 1) := by decide +kernel
theorem dL_law_755 : decode cL_law 755 = .ok (.aload_n 0, 1) := by decide +kernel
theorem dL_law_756 : decode cL_law 756 = .ok (.iload_n 3, 1) := by decide +kernel
theorem dL_law_757 : decode cL_law 757 = .ok (.iconst 1, 1) := by decide +kernel
theorem dL_law_758 : decode cL_law 758 = .ok (.iadd, 1) := by decide +kernel
theorem dL_law_759 : decode cL_law 759 = .ok (.iaload, 1) := by decide +kernel
theorem dL_law_760 : decode cL_law 760 = .ok (.invokevirtual 88, 3) := by decide +kernel
theorem dL_law_763 : decode cL_law 763 = .ok (.if_icmp .eq 589, 3) := by decide +kernel
theorem dL_law_766 : decode cL_law 766 = .ok (.iconst 0, 1) := by decide +kernel
theorem dL_law_767 : decode cL_law 767 = .ok (.ireturn, 1) := by decide +kernel
theorem dL_law_768 : decode cL_law 768 = .ok (.aload_n 1, 1) := by decide +kernel
theorem dL_law_769 : decode cL_law 769 = .ok (.aload_n 0, 1) := by decide +kernel
theorem dL_law_770 : decode cL_law 770 = .ok (.iload_n 3, 1) := by decide +kernel
theorem dL_law_771 : decode cL_law 771 = .ok (.iconst 1, 1) := by decide +kernel
theorem dL_law_772 : decode cL_law 772 = .ok (.iadd, 1) := by decide +kernel
theorem dL_law_773 : decode cL_law 773 = .ok (.iaload, 1) := by decide +kernel
theorem dL_law_774 : decode cL_law 774 = .ok (.invokevirtual 89, 3) := by decide +kernel
theorem dL_law_777 : decode cL_law 777 = .ok (.aload_n 2, 1) := by decide +kernel
theorem dL_law_778 : decode cL_law 778 = .ok (.aload_n 0, 1) := by decide +kernel
theorem dL_law_779 : decode cL_law 779 = .ok (.iload_n 3, 1) := by decide +kernel
theorem dL_law_780 : decode cL_law 780 = .ok (.iconst 1, 1) := by decide +kernel
theorem dL_law_781 : decode cL_law 781 = .ok (.iadd, 1) := by decide +kernel
theorem dL_law_782 : decode cL_law 782 = .ok (.iaload, 1) := by decide +kernel
theorem dL_law_783 : decode cL_law 783 = .ok (.invokevirtual 92, 3) := by decide +kernel
theorem dL_law_786 : decode cL_law 786 = .ok (.if_icmp .eq 566, 3) := by decide +kernel
theorem dL_law_789 : decode cL_law 789 = .ok (.iconst 0, 1) := by decide +kernel
theorem dL_law_790 : decode cL_law 790 = .ok (.ireturn, 1) := by decide +kernel
theorem dL_law_791 : decode cL_law 791 = .ok (.aload_n 1, 1) := by decide +kernel
theorem dL_law_792 : decode cL_law 792 = .ok (.aload_n 0, 1) := by decide +kernel
theorem dL_law_793 : decode cL_law 793 = .ok (.iload_n 3, 1) := by decide +kernel
theorem dL_law_794 : decode cL_law 794 = .ok (.iconst 1, 1) := by decide +kernel
theorem dL_law_795 : decode cL_law 795 = .ok (.iadd, 1) := by decide +kernel
theorem dL_law_796 : decode cL_law 796 = .ok (.iaload, 1) := by decide +kernel
theorem dL_law_797 : decode cL_law 797 = .ok (.aload_n 0, 1) := by decide +kernel
theorem dL_law_798 : decode cL_law 798 = .ok (.iload_n 3, 1) := by decide +kernel
theorem dL_law_799 : decode cL_law 799 = .ok (.iconst 2, 1) := by decide +kernel
theorem dL_law_800 : decode cL_law 800 = .ok (.iadd, 1) := by decide +kernel
theorem dL_law_801 : decode cL_law 801 = .ok (.iaload, 1) := by decide +kernel
theorem dL_law_802 : decode cL_law 802 = .ok (.invokevirtual 93, 3) := by decide +kernel
theorem dL_law_805 : decode cL_law 805 = .ok (.aload_n 2, 1) := by decide +kernel
theorem dL_law_806 : decode cL_law 806 = .ok (.aload_n 0, 1) := by decide +kernel
theorem dL_law_807 : decode cL_law 807 = .ok (.iload_n 3, 1) := by decide +kernel
theorem dL_law_808 : decode cL_law 808 = .ok (.iconst 1, 1) := by decide +kernel
theorem dL_law_809 : decode cL_law 809 = .ok (.iadd, 1) := by decide +kernel
theorem dL_law_810 : decode cL_law 810 = .ok (.iaload, 1) := by decide +kernel
theorem dL_law_811 : decode cL_law 811 = .ok (.aload_n 0, 1) := by decide +kernel
theorem dL_law_812 : decode cL_law 812 = .ok (.iload_n 3, 1) := by decide +kernel
theorem dL_law_813 : decode cL_law 813 = .ok (.iconst 2, 1) := by decide +kernel
theorem dL_law_814 : decode cL_law 814 = .ok (.iadd, 1) := by decide +kernel
theorem dL_law_815 : decode cL_law 815 = .ok (.iaload, 1) := by decide +kernel
theorem dL_law_816 : decode cL_law 816 = .ok (.invokevirtual 96, 3) := by decide +kernel
theorem dL_law_819 : decode cL_law 819 = .ok (.if_icmp .eq 533, 3) := by decide +kernel
theorem dL_law_822 : decode cL_law 822 = .ok (.iconst 0, 1) := by decide +kernel
theorem dL_law_823 : decode cL_law 823 = .ok (.ireturn, 1) := by decide +kernel
theorem dL_law_824 : decode cL_law 824 = .ok (.aload_n 1, 1) := by decide +kernel
theorem dL_law_825 : decode cL_law 825 = .ok (.aload_n 0, 1) := by decide +kernel
theorem dL_law_826 : decode cL_law 826 = .ok (.iload_n 3, 1) := by decide +kernel
theorem dL_law_827 : decode cL_law 827 = .ok (.iconst 1, 1) := by decide +kernel
theorem dL_law_828 : decode cL_law 828 = .ok (.iadd, 1) := by decide +kernel
theorem dL_law_829 : decode cL_law 829 = .ok (.iaload, 1) := by decide +kernel
theorem dL_law_830 : decode cL_law 830 = .ok (.aload_n 0, 1) := by decide +kernel
theorem dL_law_831 : decode cL_law 831 = .ok (.iload_n 3, 1) := by decide +kernel
theorem dL_law_832 : decode cL_law 832 = .ok (.iconst 2, 1) := by decide +kernel
theorem dL_law_833 : decode cL_law 833 = .ok (.iadd, 1) := by decide +kernel
theorem dL_law_834 : decode cL_law 834 = .ok (.iaload, 1) := by decide +kernel
theorem dL_law_835 : decode cL_law 835 = .ok (.invokevirtual 97, 3) := by decide +kernel
theorem dL_law_838 : decode cL_law 838 = .ok (.aload_n 2, 1) := by decide +kernel
theorem dL_law_839 : decode cL_law 839 = .ok (.aload_n 0, 1) := by decide +kernel
theorem dL_law_840 : decode cL_law 840 = .ok (.iload_n 3, 1) := by decide +kernel
theorem dL_law_841 : decode cL_law 841 = .ok (.iconst 1, 1) := by decide +kernel
theorem dL_law_842 : decode cL_law 842 = .ok (.iadd, 1) := by decide +kernel
theorem dL_law_843 : decode cL_law 843 = .ok (.iaload, 1) := by decide +kernel
theorem dL_law_844 : decode cL_law 844 = .ok (.aload_n 0, 1) := by decide +kernel
theorem dL_law_845 : decode cL_law 845 = .ok (.iload_n 3, 1) := by decide +kernel
theorem dL_law_846 : decode cL_law 846 = .ok (.iconst 2, 1) := by decide +kernel
theorem dL_law_847 : decode cL_law 847 = .ok (.iadd, 1) := by decide +kernel
theorem dL_law_848 : decode cL_law 848 = .ok (.iaload, 1) := by decide +kernel
theorem dL_law_849 : decode cL_law 849 = .ok (.invokevirtual 100, 3) := by decide +kernel
theorem dL_law_852 : decode cL_law 852 = .ok (.if_icmp .eq 500, 3) := by decide +kernel
theorem dL_law_855 : decode cL_law 855 = .ok (.iconst 0, 1) := by decide +kernel
theorem dL_law_856 : decode cL_law 856 = .ok (.ireturn, 1) := by decide +kernel
theorem dL_law_857 : decode cL_law 857 = .ok (.aload_n 1, 1) := by decide +kernel
theorem dL_law_858 : decode cL_law 858 = .ok (.aload_n 0, 1) := by decide +kernel
theorem dL_law_859 : decode cL_law 859 = .ok (.iload_n 3, 1) := by decide +kernel
theorem dL_law_860 : decode cL_law 860 = .ok (.iconst 1, 1) := by decide +kernel
theorem dL_law_861 : decode cL_law 861 = .ok (.iadd, 1) := by decide +kernel
theorem dL_law_862 : decode cL_law 862 = .ok (.iaload, 1) := by decide +kernel
theorem dL_law_863 : decode cL_law 863 = .ok (.invokevirtual 101, 3) := by decide +kernel
theorem dL_law_866 : decode cL_law 866 = .ok (.aload_n 2, 1) := by decide +kernel
theorem dL_law_867 : decode cL_law 867 = .ok (.aload_n 0, 1) := by decide +kernel
theorem dL_law_868 : decode cL_law 868 = .ok (.iload_n 3, 1) := by decide +kernel
theorem dL_law_869 : decode cL_law 869 = .ok (.iconst 1, 1) := by decide +kernel
theorem dL_law_870 : decode cL_law 870 = .ok (.iadd, 1) := by decide +kernel
theorem dL_law_871 : decode cL_law 871 = .ok (.iaload, 1) := by decide +kernel
theorem dL_law_872 : decode cL_law 872 = .ok (.invokevirtual 104, 3) := by decide +kernel
theorem dL_law_875 : decode cL_law 875 = .ok (.if_icmp .eq 477, 3) := by decide +kernel
theorem dL_law_878 : decode cL_law 878 = .ok (.iconst 0, 1) := by decide +kernel
theorem dL_law_879 : decode cL_law 879 = .ok (.ireturn, 1) := by decide +kernel
theorem dL_law_880 : decode cL_law 880 = .ok (.aload_n 1, 1) := by decide +kernel
theorem dL_law_881 : decode cL_law 881 = .ok (.aload_n 0, 1) := by decide +kernel
theorem dL_law_882 : decode cL_law 882 = .ok (.iload_n 3, 1) := by decide +kernel
theorem dL_law_883 : decode cL_law 883 = .ok (.iconst 1, 1) := by decide +kernel
theorem dL_law_884 : decode cL_law 884 = .ok (.iadd, 1) := by decide +kernel
theorem dL_law_885 : decode cL_law 885 = .ok (.iaload, 1) := by decide +kernel
theorem dL_law_886 : decode cL_law 886 = .ok (.aload_n 0, 1) := by decide +kernel
theorem dL_law_887 : decode cL_law 887 = .ok (.iload_n 3, 1) := by decide +kernel
theorem dL_law_888 : decode cL_law 888 = .ok (.iconst 2, 1) := by decide +kernel
theorem dL_law_889 : decode cL_law 889 = .ok (.iadd, 1) := by decide +kernel
theorem dL_law_890 : decode cL_law 890 = .ok (.iaload, 1) := by decide +kernel
theorem dL_law_891 : decode cL_law 891 = .ok (.aload_n 0, 1) := by decide +kernel
theorem dL_law_892 : decode cL_law 892 = .ok (.iload_n 3, 1) := by decide +kernel
theorem dL_law_893 : decode cL_law 893 = .ok (.iconst 3, 1) := by decide +kernel
theorem dL_law_894 : decode cL_law 894 = .ok (.iadd, 1) := by decide +kernel
theorem dL_law_895 : decode cL_law 895 = .ok (.iaload, 1) := by decide +kernel
theorem dL_law_896 : decode cL_law 896 = .ok (.invokevirtual 105, 3) := by decide +kernel
theorem dL_law_899 : decode cL_law 899 = .ok (.aload_n 2, 1) := by decide +kernel
theorem dL_law_900 : decode cL_law 900 = .ok (.aload_n 0, 1) := by decide +kernel
theorem dL_law_901 : decode cL_law 901 = .ok (.iload_n 3, 1) := by decide +kernel
theorem dL_law_902 : decode cL_law 902 = .ok (.iconst 1, 1) := by decide +kernel
theorem dL_law_903 : decode cL_law 903 = .ok (.iadd, 1) := by decide +kernel
theorem dL_law_904 : decode cL_law 904 = .ok (.iaload, 1) := by decide +kernel
theorem dL_law_905 : decode cL_law 905 = .ok (.aload_n 0, 1) := by decide +kernel
theorem dL_law_906 : decode cL_law 906 = .ok (.iload_n 3, 1) := by decide +kernel
theorem dL_law_907 : decode cL_law 907 = .ok (.iconst 2, 1) := by decide +kernel
theorem dL_law_908 : decode cL_law 908 = .ok (.iadd, 1) := by decide +kernel
theorem dL_law_909 : decode cL_law 909 = .ok (.iaload, 1) := by decide +kernel
theorem dL_law_910 : decode cL_law 910 = .ok (.aload_n 0, 1) := by decide +kernel
theorem dL_law_911 : decode cL_law 911 = .ok (.iload_n 3, 1) := by decide +kernel
theorem dL_law_912 : decode cL_law 912 = .ok (.iconst 3, 1) := by decide +kernel
theorem dL_law_913 : decode cL_law 913 = .ok (.iadd, 1) := by decide +kernel
theorem dL_law_914 : decode cL_law 914 = .ok (.iaload, 1) := by decide +kernel
theorem dL_law_915 : decode cL_law 915 = .ok (.invokevirtual 109, 3) := by decide +kernel
theorem dL_law_918 : decode cL_law 918 = .ok (.lcmp, 1) := by decide +kernel
theorem dL_law_919 : decode cL_law 919 = .ok (.ifCond .eq 433, 3) := by decide +kernel
theorem dL_law_922 : decode cL_law 922 = .ok (.iconst 0, 1) := by decide +kernel
theorem dL_law_923 : decode cL_law 923 = .ok (.ireturn, 1) := by decide +kernel
theorem dL_law_924 : decode cL_law 924 = .ok (.aload_n 1, 1) := by decide +kernel
theorem dL_law_925 : decode cL_law 925 = .ok (.aload_n 0, 1) := by decide +kernel
theorem dL_law_926 : decode cL_law 926 = .ok (.iload_n 3, 1) := by decide +kernel
theorem dL_law_927 : decode cL_law 927 = .ok (.iconst 1, 1) := by decide +kernel
theorem dL_law_928 : decode cL_law 928 = .ok (.iadd, 1) := by decide +kernel
theorem dL_law_929 : decode cL_law 929 = .ok (.iaload, 1) := by decide +kernel
theorem dL_law_930 : decode cL_law 930 = .ok (.invokevirtual 110, 3) := by decide +kernel
theorem dL_law_933 : decode cL_law 933 = .ok (.aload_n 2, 1) := by decide +kernel
theorem dL_law_934 : decode cL_law 934 = .ok (.aload_n 0, 1) := by decide +kernel
theorem dL_law_935 : decode cL_law 935 = .ok (.iload_n 3, 1) := by decide +kernel
theorem dL_law_936 : decode cL_law 936 = .ok (.iconst 1, 1) := by decide +kernel
theorem dL_law_937 : decode cL_law 937 = .ok (.iadd, 1) := by decide +kernel
theorem dL_law_938 : decode cL_law 938 = .ok (.iaload, 1) := by decide +kernel
theorem dL_law_939 : decode cL_law 939 = .ok (.invokevirtual 113, 3) := by decide +kernel
theorem dL_law_942 : decode cL_law 942 = .ok (.if_icmp .eq 410, 3) := by decide +kernel
theorem dL_law_945 : decode cL_law 945 = .ok (.iconst 0, 1) := by decide +kernel
theorem dL_law_946 : decode cL_law 946 = .ok (.ireturn, 1) := by decide +kernel
theorem dL_law_947 : decode cL_law 947 = .ok (.aload_n 1, 1) := by decide +kernel
theorem dL_law_948 : decode cL_law 948 = .ok (.aload_n 0, 1) := by decide +kernel
theorem dL_law_949 : decode cL_law 949 = .ok (.iload_n 3, 1) := by decide +kernel
theorem dL_law_950 : decode cL_law 950 = .ok (.iconst 1, 1) := by decide +kernel
theorem dL_law_951 : decode cL_law 951 = .ok (.iadd, 1) := by decide +kernel
theorem dL_law_952 : decode cL_law 952 = .ok (.iaload, 1) := by decide +kernel
theorem dL_law_953 : decode cL_law 953 = .ok (.aload_n 0, 1) := by decide +kernel
theorem dL_law_954 : decode cL_law 954 = .ok (.iload_n 3, 1) := by decide +kernel
theorem dL_law_955 : decode cL_law 955 = .ok (.iconst 2, 1) := by decide +kernel
theorem dL_law_956 : decode cL_law 956 = .ok (.iadd, 1) := by decide +kernel
theorem dL_law_957 : decode cL_law 957 = .ok (.iaload, 1) := by decide +kernel
theorem dL_law_958 : decode cL_law 958 = .ok (.invokevirtual 114, 3) := by decide +kernel
theorem dL_law_961 : decode cL_law 961 = .ok (.aload_n 2, 1) := by decide +kernel
theorem dL_law_962 : decode cL_law 962 = .ok (.aload_n 0, 1) := by decide +kernel
theorem dL_law_963 : decode cL_law 963 = .ok (.iload_n 3, 1) := by decide +kernel
theorem dL_law_964 : decode cL_law 964 = .ok (.iconst 1, 1) := by decide +kernel
theorem dL_law_965 : decode cL_law 965 = .ok (.iadd, 1) := by decide +kernel
theorem dL_law_966 : decode cL_law 966 = .ok (.iaload, 1) := by decide +kernel
theorem dL_law_967 : decode cL_law 967 = .ok (.aload_n 0, 1) := by decide +kernel
theorem dL_law_968 : decode cL_law 968 = .ok (.iload_n 3, 1) := by decide +kernel
theorem dL_law_969 : decode cL_law 969 = .ok (.iconst 2, 1) := by decide +kernel
theorem dL_law_970 : decode cL_law 970 = .ok (.iadd, 1) := by decide +kernel
theorem dL_law_971 : decode cL_law 971 = .ok (.iaload, 1) := by decide +kernel
theorem dL_law_972 : decode cL_law 972 = .ok (.invokevirtual 117, 3) := by decide +kernel
theorem dL_law_975 : decode cL_law 975 = .ok (.if_icmp .eq 377, 3) := by decide +kernel
theorem dL_law_978 : decode cL_law 978 = .ok (.iconst 0, 1) := by decide +kernel
theorem dL_law_979 : decode cL_law 979 = .ok (.ireturn, 1) := by decide +kernel
theorem dL_law_980 : decode cL_law 980 = .ok (.aload_n 1, 1) := by decide +kernel
theorem dL_law_981 : decode cL_law 981 = .ok (.invokevirtual 118, 3) := by decide +kernel
theorem dL_law_984 : decode cL_law 984 = .ok (.aload_n 2, 1) := by decide +kernel
theorem dL_law_985 : decode cL_law 985 = .ok (.invokevirtual 121, 3) := by decide +kernel
theorem dL_law_988 : decode cL_law 988 = .ok (.if_icmp .eq 364, 3) := by decide +kernel
theorem dL_law_991 : decode cL_law 991 = .ok (.iconst 0, 1) := by decide +kernel
theorem dL_law_992 : decode cL_law 992 = .ok (.ireturn, 1) := by decide +kernel
theorem dL_law_993 : decode cL_law 993 = .ok (.aload_n 1, 1) := by decide +kernel
theorem dL_law_994 : decode cL_law 994 = .ok (.invokevirtual 122, 3) := by decide +kernel
theorem dL_law_997 : decode cL_law 997 = .ok (.aload_n 2, 1) := by decide +kernel
theorem dL_law_998 : decode cL_law 998 = .ok (.invokevirtual 125, 3) := by decide +kernel
theorem dL_law_1001 : decode cL_law 1001 = .ok (.if_icmp .eq 351, 3) := by decide +kernel
theorem dL_law_1004 : decode cL_law 1004 = .ok (.iconst 0, 1) := by decide +kernel
theorem dL_law_1005 : decode cL_law 1005 = .ok (.ireturn, 1) := by decide +kernel
theorem dL_law_1006 : decode cL_law 1006 = .ok (.aload_n 1, 1) := by decide +kernel
theorem dL_law_1007 : decode cL_law 1007 = .ok (.aload_n 0, 1) := by decide +kernel
theorem dL_law_1008 : decode cL_law 1008 = .ok (.iload_n 3, 1) := by decide +kernel
theorem dL_law_1009 : decode cL_law 1009 = .ok (.iconst 1, 1) := by decide +kernel
theorem dL_law_1010 : decode cL_law 1010 = .ok (.iadd, 1) := by decide +kernel
theorem dL_law_1011 : decode cL_law 1011 = .ok (.iaload, 1) := by decide +kernel
theorem dL_law_1012 : decode cL_law 1012 = .ok (.aload_n 0, 1) := by decide +kernel
theorem dL_law_1013 : decode cL_law 1013 = .ok (.iload_n 3, 1) := by decide +kernel
theorem dL_law_1014 : decode cL_law 1014 = .ok (.iconst 2, 1) := by decide +kernel
theorem dL_law_1015 : decode cL_law 1015 = .ok (.iadd, 1) := by decide +kernel
theorem dL_law_1016 : decode cL_law 1016 = .ok (.iaload, 1) := by decide +kernel
theorem dL_law_1017 : decode cL_law 1017 = .ok (.invokevirtual 126, 3) := by decide +kernel
theorem dL_law_1020 : decode cL_law 1020 = .ok (.aload_n 2, 1) := by decide +kernel
theorem dL_law_1021 : decode cL_law 1021 = .ok (.aload_n 0, 1) := by decide +kernel
theorem dL_law_1022 : decode cL_law 1022 = .ok (.iload_n 3, 1) := by decide +kernel
theorem dL_law_1023 : decode cL_law 1023 = .ok (.iconst 1, 1) := by decide +kernel
theorem dL_law_1024 : decode cL_law 1024 = .ok (.iadd, 1) := by decide +kernel
theorem dL_law_1025 : decode cL_law 1025 = .ok (.iaload, 1) := by decide +kernel
theorem dL_law_1026 : decode cL_law 1026 = .ok (.aload_n 0, 1) := by decide +kernel
theorem dL_law_1027 : decode cL_law 1027 = .ok (.iload_n 3, 1) := by decide +kernel
theorem dL_law_1028 : decode cL_law 1028 = .ok (.iconst 2, 1) := by decide +kernel
theorem dL_law_1029 : decode cL_law 1029 = .ok (.iadd, 1) := by decide +kernel
theorem dL_law_1030 : decode cL_law 1030 = .ok (.iaload, 1) := by decide +kernel
theorem dL_law_1031 : decode cL_law 1031 = .ok (.invokevirtual 129, 3) := by decide +kernel
theorem dL_law_1034 : decode cL_law 1034 = .ok (.if_icmp .eq 318, 3) := by decide +kernel
theorem dL_law_1037 : decode cL_law 1037 = .ok (.iconst 0, 1) := by decide +kernel
theorem dL_law_1038 : decode cL_law 1038 = .ok (.ireturn, 1) := by decide +kernel
theorem dL_law_1039 : decode cL_law 1039 = .ok (.aload_n 1, 1) := by decide +kernel
theorem dL_law_1040 : decode cL_law 1040 = .ok (.aload_n 0, 1) := by decide +kernel
theorem dL_law_1041 : decode cL_law 1041 = .ok (.iload_n 3, 1) := by decide +kernel
theorem dL_law_1042 : decode cL_law 1042 = .ok (.iconst 1, 1) := by decide +kernel
theorem dL_law_1043 : decode cL_law 1043 = .ok (.iadd, 1) := by decide +kernel
theorem dL_law_1044 : decode cL_law 1044 = .ok (.iaload, 1) := by decide +kernel
theorem dL_law_1045 : decode cL_law 1045 = .ok (.aload_n 0, 1) := by decide +kernel
theorem dL_law_1046 : decode cL_law 1046 = .ok (.iload_n 3, 1) := by decide +kernel
theorem dL_law_1047 : decode cL_law 1047 = .ok (.iconst 2, 1) := by decide +kernel
theorem dL_law_1048 : decode cL_law 1048 = .ok (.iadd, 1) := by decide +kernel
theorem dL_law_1049 : decode cL_law 1049 = .ok (.iaload, 1) := by decide +kernel
theorem dL_law_1050 : decode cL_law 1050 = .ok (.invokevirtual 130, 3) := by decide +kernel
theorem dL_law_1053 : decode cL_law 1053 = .ok (.aload_n 2, 1) := by decide +kernel
theorem dL_law_1054 : decode cL_law 1054 = .ok (.aload_n 0, 1) := by decide +kernel
theorem dL_law_1055 : decode cL_law 1055 = .ok (.iload_n 3, 1) := by decide +kernel
theorem dL_law_1056 : decode cL_law 1056 = .ok (.iconst 1, 1) := by decide +kernel
theorem dL_law_1057 : decode cL_law 1057 = .ok (.iadd, 1) := by decide +kernel
theorem dL_law_1058 : decode cL_law 1058 = .ok (.iaload, 1) := by decide +kernel
theorem dL_law_1059 : decode cL_law 1059 = .ok (.aload_n 0, 1) := by decide +kernel
theorem dL_law_1060 : decode cL_law 1060 = .ok (.iload_n 3, 1) := by decide +kernel
theorem dL_law_1061 : decode cL_law 1061 = .ok (.iconst 2, 1) := by decide +kernel
theorem dL_law_1062 : decode cL_law 1062 = .ok (.iadd, 1) := by decide +kernel
theorem dL_law_1063 : decode cL_law 1063 = .ok (.iaload, 1) := by decide +kernel
theorem dL_law_1064 : decode cL_law 1064 = .ok (.invokevirtual 133, 3) := by decide +kernel
theorem dL_law_1067 : decode cL_law 1067 = .ok (.if_icmp .eq 285, 3) := by decide +kernel
theorem dL_law_1070 : decode cL_law 1070 = .ok (.iconst 0, 1) := by decide +kernel
theorem dL_law_1071 : decode cL_law 1071 = .ok (.ireturn, 1) := by decide +kernel
theorem dL_law_1072 : decode cL_law 1072 = .ok (.aload_n 1, 1) := by decide +kernel
theorem dL_law_1073 : decode cL_law 1073 = .ok (.aload_n 0, 1) := by decide +kernel
theorem dL_law_1074 : decode cL_law 1074 = .ok (.iload_n 3, 1) := by decide +kernel
theorem dL_law_1075 : decode cL_law 1075 = .ok (.iconst 1, 1) := by decide +kernel
theorem dL_law_1076 : decode cL_law 1076 = .ok (.iadd, 1) := by decide +kernel
theorem dL_law_1077 : decode cL_law 1077 = .ok (.iaload, 1) := by decide +kernel
theorem dL_law_1078 : decode cL_law 1078 = .ok (.aload_n 0, 1) := by decide +kernel
theorem dL_law_1079 : decode cL_law 1079 = .ok (.iload_n 3, 1) := by decide +kernel
theorem dL_law_1080 : decode cL_law 1080 = .ok (.iconst 2, 1) := by decide +kernel
theorem dL_law_1081 : decode cL_law 1081 = .ok (.iadd, 1) := by decide +kernel
theorem dL_law_1082 : decode cL_law 1082 = .ok (.iaload, 1) := by decide +kernel
theorem dL_law_1083 : decode cL_law 1083 = .ok (.aload_n 0, 1) := by decide +kernel
theorem dL_law_1084 : decode cL_law 1084 = .ok (.iload_n 3, 1) := by decide +kernel
theorem dL_law_1085 : decode cL_law 1085 = .ok (.iconst 3, 1) := by decide +kernel
theorem dL_law_1086 : decode cL_law 1086 = .ok (.iadd, 1) := by decide +kernel
theorem dL_law_1087 : decode cL_law 1087 = .ok (.iaload, 1) := by decide +kernel
theorem dL_law_1088 : decode cL_law 1088 = .ok (.invokevirtual 134, 3) := by decide +kernel
theorem dL_law_1091 : decode cL_law 1091 = .ok (.aload_n 2, 1) := by decide +kernel
theorem dL_law_1092 : decode cL_law 1092 = .ok (.aload_n 0, 1) := by decide +kernel
theorem dL_law_1093 : decode cL_law 1093 = .ok (.iload_n 3, 1) := by decide +kernel
theorem dL_law_1094 : decode cL_law 1094 = .ok (.iconst 1, 1) := by decide +kernel
theorem dL_law_1095 : decode cL_law 1095 = .ok (.iadd, 1) := by decide +kernel
theorem dL_law_1096 : decode cL_law 1096 = .ok (.iaload, 1) := by decide +kernel
theorem dL_law_1097 : decode cL_law 1097 = .ok (.aload_n 0, 1) := by decide +kernel
theorem dL_law_1098 : decode cL_law 1098 = .ok (.iload_n 3, 1) := by decide +kernel
theorem dL_law_1099 : decode cL_law 1099 = .ok (.iconst 2, 1) := by decide +kernel
theorem dL_law_1100 : decode cL_law 1100 = .ok (.iadd, 1) := by decide +kernel
theorem dL_law_1101 : decode cL_law 1101 = .ok (.iaload, 1) := by decide +kernel
theorem dL_law_1102 : decode cL_law 1102 = .ok (.aload_n 0, 1) := by decide +kernel
theorem dL_law_1103 : decode cL_law 1103 = .ok (.iload_n 3, 1) := by decide +kernel
theorem dL_law_1104 : decode cL_law 1104 = .ok (.iconst 3, 1) := by decide +kernel
theorem dL_law_1105 : decode cL_law 1105 = .ok (.iadd, 1) := by decide +kernel
theorem dL_law_1106 : decode cL_law 1106 = .ok (.iaload, 1) := by decide +kernel
theorem dL_law_1107 : decode cL_law 1107 = .ok (.invokevirtual 137, 3) := by decide +kernel
theorem dL_law_1110 : decode cL_law 1110 = .ok (.if_icmp .eq 242, 3) := by decide +kernel
theorem dL_law_1113 : decode cL_law 1113 = .ok (.iconst 0, 1) := by decide +kernel
theorem dL_law_1114 : decode cL_law 1114 = .ok (.ireturn, 1) := by decide +kernel
theorem dL_law_1115 : decode cL_law 1115 = .ok (.aload_n 1, 1) := by decide +kernel
theorem dL_law_1116 : decode cL_law 1116 = .ok (.aload_n 0, 1) := by decide +kernel
theorem dL_law_1117 : decode cL_law 1117 = .ok (.iload_n 3, 1) := by decide +kernel
theorem dL_law_1118 : decode cL_law 1118 = .ok (.iconst 1, 1) := by decide +kernel
theorem dL_law_1119 : decode cL_law 1119 = .ok (.iadd, 1) := by decide +kernel
theorem dL_law_1120 : decode cL_law 1120 = .ok (.iaload, 1) := by decide +kernel
theorem dL_law_1121 : decode cL_law 1121 = .ok (.aload_n 0, 1) := by decide +kernel
theorem dL_law_1122 : decode cL_law 1122 = .ok (.iload_n 3, 1) := by decide +kernel
theorem dL_law_1123 : decode cL_law 1123 = .ok (.iconst 2, 1) := by decide +kernel
theorem dL_law_1124 : decode cL_law 1124 = .ok (.iadd, 1) := by decide +kernel
theorem dL_law_1125 : decode cL_law 1125 = .ok (.iaload, 1) := by decide +kernel
theorem dL_law_1126 : decode cL_law 1126 = .ok (.aload_n 0, 1) := by decide +kernel
theorem dL_law_1127 : decode cL_law 1127 = .ok (.iload_n 3, 1) := by decide +kernel
theorem dL_law_1128 : decode cL_law 1128 = .ok (.iconst 3, 1) := by decide +kernel
theorem dL_law_1129 : decode cL_law 1129 = .ok (.iadd, 1) := by decide +kernel
theorem dL_law_1130 : decode cL_law 1130 = .ok (.iaload, 1) := by decide +kernel
theorem dL_law_1131 : decode cL_law 1131 = .ok (.invokevirtual 138, 3) := by decide +kernel
theorem dL_law_1134 : decode cL_law 1134 = .ok (.aload_n 2, 1) := by decide +kernel
theorem dL_law_1135 : decode cL_law 1135 = .ok (.aload_n 0, 1) := by decide +kernel
theorem dL_law_1136 : decode cL_law 1136 = .ok (.iload_n 3, 1) := by decide +kernel
theorem dL_law_1137 : decode cL_law 1137 = .ok (.iconst 1, 1) := by decide +kernel
theorem dL_law_1138 : decode cL_law 1138 = .ok (.iadd, 1) := by decide +kernel
theorem dL_law_1139 : decode cL_law 1139 = .ok (.iaload, 1) := by decide +kernel
theorem dL_law_1140 : decode cL_law 1140 = .ok (.aload_n 0, 1) := by decide +kernel
theorem dL_law_1141 : decode cL_law 1141 = .ok (.iload_n 3, 1) := by decide +kernel
theorem dL_law_1142 : decode cL_law 1142 = .ok (.iconst 2, 1) := by decide +kernel
theorem dL_law_1143 : decode cL_law 1143 = .ok (.iadd, 1) := by decide +kernel
theorem dL_law_1144 : decode cL_law 1144 = .ok (.iaload, 1) := by decide +kernel
theorem dL_law_1145 : decode cL_law 1145 = .ok (.aload_n 0, 1) := by decide +kernel
theorem dL_law_1146 : decode cL_law 1146 = .ok (.iload_n 3, 1) := by decide +kernel
theorem dL_law_1147 : decode cL_law 1147 = .ok (.iconst 3, 1) := by decide +kernel
theorem dL_law_1148 : decode cL_law 1148 = .ok (.iadd, 1) := by decide +kernel
theorem dL_law_1149 : decode cL_law 1149 = .ok (.iaload, 1) := by decide +kernel
theorem dL_law_1150 : decode cL_law 1150 = .ok (.invokevirtual 141, 3) := by decide +kernel
theorem dL_law_1153 : decode cL_law 1153 = .ok (.if_icmp .eq 199, 3) := by decide +kernel
theorem dL_law_1156 : decode cL_law 1156 = .ok (.iconst 0, 1) := by decide +kernel
theorem dL_law_1157 : decode cL_law 1157 = .ok (.ireturn, 1) := by decide +kernel
theorem dL_law_1158 : decode cL_law 1158 = .ok (.aload_n 1, 1) := by decide +kernel
theorem dL_law_1159 : decode cL_law 1159 = .ok (.aload_n 0, 1) := by decide +kernel
theorem dL_law_1160 : decode cL_law 1160 = .ok (.iload_n 3, 1) := by decide +kernel
theorem dL_law_1161 : decode cL_law 1161 = .ok (.iconst 1, 1) := by decide +kernel
theorem dL_law_1162 : decode cL_law 1162 = .ok (.iadd, 1) := by decide +kernel
theorem dL_law_1163 : decode cL_law 1163 = .ok (.iaload, 1) := by decide +kernel
theorem dL_law_1164 : decode cL_law 1164 = .ok (.aload_n 0, 1) := by decide +kernel
theorem dL_law_1165 : decode cL_law 1165 = .ok (.iload_n 3, 1) := by decide +kernel
theorem dL_law_1166 : decode cL_law 1166 = .ok (.iconst 2, 1) := by decide +kernel
theorem dL_law_1167 : decode cL_law 1167 = .ok (.iadd, 1) := by decide +kernel
theorem dL_law_1168 : decode cL_law 1168 = .ok (.iaload, 1) := by decide +kernel
theorem dL_law_1169 : decode cL_law 1169 = .ok (.aload_n 0, 1) := by decide +kernel
theorem dL_law_1170 : decode cL_law 1170 = .ok (.iload_n 3, 1) := by decide +kernel
theorem dL_law_1171 : decode cL_law 1171 = .ok (.iconst 3, 1) := by decide +kernel
theorem dL_law_1172 : decode cL_law 1172 = .ok (.iadd, 1) := by decide +kernel
theorem dL_law_1173 : decode cL_law 1173 = .ok (.iaload, 1) := by decide +kernel
theorem dL_law_1174 : decode cL_law 1174 = .ok (.aload_n 0, 1) := by decide +kernel
theorem dL_law_1175 : decode cL_law 1175 = .ok (.iload_n 3, 1) := by decide +kernel
theorem dL_law_1176 : decode cL_law 1176 = .ok (.iconst 4, 1) := by decide +kernel
theorem dL_law_1177 : decode cL_law 1177 = .ok (.iadd, 1) := by decide +kernel
theorem dL_law_1178 : decode cL_law 1178 = .ok (.iaload, 1) := by decide +kernel
theorem dL_law_1179 : decode cL_law 1179 = .ok (.aload_n 0, 1) := by decide +kernel
theorem dL_law_1180 : decode cL_law 1180 = .ok (.iload_n 3, 1) := by decide +kernel
theorem dL_law_1181 : decode cL_law 1181 = .ok (.iconst 5, 1) := by decide +kernel
theorem dL_law_1182 : decode cL_law 1182 = .ok (.iadd, 1) := by decide +kernel
theorem dL_law_1183 : decode cL_law 1183 = .ok (.iaload, 1) := by decide +kernel
theorem dL_law_1184 : decode cL_law 1184 = .ok (.invokevirtual 142, 3) := by decide +kernel
theorem dL_law_1187 : decode cL_law 1187 = .ok (.aload_n 2, 1) := by decide +kernel
theorem dL_law_1188 : decode cL_law 1188 = .ok (.aload_n 0, 1) := by decide +kernel
theorem dL_law_1189 : decode cL_law 1189 = .ok (.iload_n 3, 1) := by decide +kernel
theorem dL_law_1190 : decode cL_law 1190 = .ok (.iconst 1, 1) := by decide +kernel
theorem dL_law_1191 : decode cL_law 1191 = .ok (.iadd, 1) := by decide +kernel
theorem dL_law_1192 : decode cL_law 1192 = .ok (.iaload, 1) := by decide +kernel
theorem dL_law_1193 : decode cL_law 1193 = .ok (.aload_n 0, 1) := by decide +kernel
theorem dL_law_1194 : decode cL_law 1194 = .ok (.iload_n 3, 1) := by decide +kernel
theorem dL_law_1195 : decode cL_law 1195 = .ok (.iconst 2, 1) := by decide +kernel
theorem dL_law_1196 : decode cL_law 1196 = .ok (.iadd, 1) := by decide +kernel
theorem dL_law_1197 : decode cL_law 1197 = .ok (.iaload, 1) := by decide +kernel
theorem dL_law_1198 : decode cL_law 1198 = .ok (.aload_n 0, 1) := by decide +kernel
theorem dL_law_1199 : decode cL_law 1199 = .ok (.iload_n 3, 1) := by decide +kernel
theorem dL_law_1200 : decode cL_law 1200 = .ok (.iconst 3, 1) := by decide +kernel
theorem dL_law_1201 : decode cL_law 1201 = .ok (.iadd, 1) := by decide +kernel
theorem dL_law_1202 : decode cL_law 1202 = .ok (.iaload, 1) := by decide +kernel
theorem dL_law_1203 : decode cL_law 1203 = .ok (.aload_n 0, 1) := by decide +kernel
theorem dL_law_1204 : decode cL_law 1204 = .ok (.iload_n 3, 1) := by decide +kernel
theorem dL_law_1205 : decode cL_law 1205 = .ok (.iconst 4, 1) := by decide +kernel
theorem dL_law_1206 : decode cL_law 1206 = .ok (.iadd, 1) := by decide +kernel
theorem dL_law_1207 : decode cL_law 1207 = .ok (.iaload, 1) := by decide +kernel
theorem dL_law_1208 : decode cL_law 1208 = .ok (.aload_n 0, 1) := by decide +kernel
theorem dL_law_1209 : decode cL_law 1209 = .ok (.iload_n 3, 1) := by decide +kernel
theorem dL_law_1210 : decode cL_law 1210 = .ok (.iconst 5, 1) := by decide +kernel
theorem dL_law_1211 : decode cL_law 1211 = .ok (.iadd, 1) := by decide +kernel
theorem dL_law_1212 : decode cL_law 1212 = .ok (.iaload, 1) := by decide +kernel
theorem dL_law_1213 : decode cL_law 1213 = .ok (.invokevirtual 146, 3) := by decide +kernel
theorem dL_law_1216 : decode cL_law 1216 = .ok (.if_icmp .eq 136, 3) := by decide +kernel
theorem dL_law_1219 : decode cL_law 1219 = .ok (.iconst 0, 1) := by decide +kernel
theorem dL_law_1220 : decode cL_law 1220 = .ok (.ireturn, 1) := by decide +kernel
theorem dL_law_1221 : decode cL_law 1221 = .ok (.aload_n 1, 1) := by decide +kernel
theorem dL_law_1222 : decode cL_law 1222 = .ok (.aload_n 0, 1) := by decide +kernel
theorem dL_law_1223 : decode cL_law 1223 = .ok (.iload_n 3, 1) := by decide +kernel
theorem dL_law_1224 : decode cL_law 1224 = .ok (.iconst 1, 1) := by decide +kernel
theorem dL_law_1225 : decode cL_law 1225 = .ok (.iadd, 1) := by decide +kernel
theorem dL_law_1226 : decode cL_law 1226 = .ok (.iaload, 1) := by decide +kernel
theorem dL_law_1227 : decode cL_law 1227 = .ok (.invokevirtual 147, 3) := by decide +kernel
theorem dL_law_1230 : decode cL_law 1230 = .ok (.aload_n 2, 1) := by decide +kernel
theorem dL_law_1231 : decode cL_law 1231 = .ok (.aload_n 0, 1) := by decide +kernel
theorem dL_law_1232 : decode cL_law 1232 = .ok (.iload_n 3, 1) := by decide +kernel
theorem dL_law_1233 : decode cL_law 1233 = .ok (.iconst 1, 1) := by decide +kernel
theorem dL_law_1234 : decode cL_law 1234 = .ok (.iadd, 1) := by decide +kernel
theorem dL_law_1235 : decode cL_law 1235 = .ok (.iaload, 1) := by decide +kernel
theorem dL_law_1236 : decode cL_law 1236 = .ok (.invokevirtual 150, 3) := by decide +kernel
theorem dL_law_1239 : decode cL_law 1239 = .ok (.if_icmp .eq 113, 3) := by decide +kernel
theorem dL_law_1242 : decode cL_law 1242 = .ok (.iconst 0, 1) := by decide +kernel
theorem dL_law_1243 : decode cL_law 1243 = .ok (.ireturn, 1) := by decide +kernel
theorem dL_law_1244 : decode cL_law 1244 = .ok (.aload_n 1, 1) := by decide +kernel
theorem dL_law_1245 : decode cL_law 1245 = .ok (.aload_n 0, 1) := by decide +kernel
theorem dL_law_1246 : decode cL_law 1246 = .ok (.iload_n 3, 1) := by decide +kernel
theorem dL_law_1247 : decode cL_law 1247 = .ok (.iconst 1, 1) := by decide +kernel
theorem dL_law_1248 : decode cL_law 1248 = .ok (.iadd, 1) := by decide +kernel
theorem dL_law_1249 : decode cL_law 1249 = .ok (.iaload, 1) := by decide +kernel
theorem dL_law_1250 : decode cL_law 1250 = .ok (.invokevirtual 151, 3) := by decide +kernel
theorem dL_law_1253 : decode cL_law 1253 = .ok (.aload_n 2, 1) := by decide +kernel
theorem dL_law_1254 : decode cL_law 1254 = .ok (.aload_n 0, 1) := by decide +kernel
theorem dL_law_1255 : decode cL_law 1255 = .ok (.iload_n 3, 1) := by decide +kernel
theorem dL_law_1256 : decode cL_law 1256 = .ok (.iconst 1, 1) := by decide +kernel
theorem dL_law_1257 : decode cL_law 1257 = .ok (.iadd, 1) := by decide +kernel
theorem dL_law_1258 : decode cL_law 1258 = .ok (.iaload, 1) := by decide +kernel
theorem dL_law_1259 : decode cL_law 1259 = .ok (.invokevirtual 154, 3) := by decide +kernel
theorem dL_law_1262 : decode cL_law 1262 = .ok (.if_icmp .eq 90, 3) := by decide +kernel
theorem dL_law_1265 : decode cL_law 1265 = .ok (.iconst 0, 1) := by decide +kernel
theorem dL_law_1266 : decode cL_law 1266 = .ok (.ireturn, 1) := by decide +kernel
theorem dL_law_1267 : decode cL_law 1267 = .ok (.aload_n 1, 1) := by decide +kernel
theorem dL_law_1268 : decode cL_law 1268 = .ok (.invokevirtual 155, 3) := by decide +kernel
theorem dL_law_1271 : decode cL_law 1271 = .ok (.aload_n 2, 1) := by decide +kernel
theorem dL_law_1272 : decode cL_law 1272 = .ok (.invokevirtual 158, 3) := by decide +kernel
theorem dL_law_1275 : decode cL_law 1275 = .ok (.if_icmp .eq 77, 3) := by decide +kernel
theorem dL_law_1278 : decode cL_law 1278 = .ok (.iconst 0, 1) := by decide +kernel
theorem dL_law_1279 : decode cL_law 1279 = .ok (.ireturn, 1) := by decide +kernel
theorem dL_law_1280 : decode cL_law 1280 = .ok (.aload_n 1, 1) := by decide +kernel
theorem dL_law_1281 : decode cL_law 1281 = .ok (.invokevirtual 159, 3) := by decide +kernel
theorem dL_law_1284 : decode cL_law 1284 = .ok (.aload_n 2, 1) := by decide +kernel
theorem dL_law_1285 : decode cL_law 1285 = .ok (.invokevirtual 162, 3) := by decide +kernel
theorem dL_law_1288 : decode cL_law 1288 = .ok (.if_icmp .eq 64, 3) := by decide +kernel
theorem dL_law_1291 : decode cL_law 1291 = .ok (.iconst 0, 1) := by decide +kernel
theorem dL_law_1292 : decode cL_law 1292 = .ok (.ireturn, 1) := by decide +kernel
theorem dL_law_1293 : decode cL_law 1293 = .ok (.aload_n 1, 1) := by decide +kernel
theorem dL_law_1294 : decode cL_law 1294 = .ok (.invokevirtual 163, 3) := by decide +kernel
theorem dL_law_1297 : decode cL_law 1297 = .ok (.aload_n 2, 1) := by decide +kernel
theorem dL_law_1298 : decode cL_law 1298 = .ok (.invokevirtual 166, 3) := by decide +kernel
theorem dL_law_1301 : decode cL_law 1301 = .ok (.if_icmp .eq 51, 3) := by decide +kernel
theorem dL_law_1304 : decode cL_law 1304 = .ok (.iconst 0, 1) := by decide +kernel
theorem dL_law_1305 : decode cL_law 1305 = .ok (.ireturn, 1) := by decide +kernel
theorem dL_law_1306 : decode cL_law 1306 = .ok (.aload_n 1, 1) := by decide +kernel
theorem dL_law_1307 : decode cL_law 1307 = .ok (.aload_n 0, 1) := by decide +kernel
theorem dL_law_1308 : decode cL_law 1308 = .ok (.iload_n 3, 1) := by decide +kernel
theorem dL_law_1309 : decode cL_law 1309 = .ok (.iconst 1, 1) := by decide +kernel
theorem dL_law_1310 : decode cL_law 1310 = .ok (.iadd, 1) := by decide +kernel
theorem dL_law_1311 : decode cL_law 1311 = .ok (.iaload, 1) := by decide +kernel
theorem dL_law_1312 : decode cL_law 1312 = .ok (.invokevirtual 167, 3) := by decide +kernel
theorem dL_law_1315 : decode cL_law 1315 = .ok (.aload_n 2, 1) := by decide +kernel
theorem dL_law_1316 : decode cL_law 1316 = .ok (.aload_n 0, 1) := by decide +kernel
theorem dL_law_1317 : decode cL_law 1317 = .ok (.iload_n 3, 1) := by decide +kernel
theorem dL_law_1318 : decode cL_law 1318 = .ok (.iconst 1, 1) := by decide +kernel
theorem dL_law_1319 : decode cL_law 1319 = .ok (.iadd, 1) := by decide +kernel
theorem dL_law_1320 : decode cL_law 1320 = .ok (.iaload, 1) := by decide +kernel
theorem dL_law_1321 : decode cL_law 1321 = .ok (.invokevirtual 170, 3) := by decide +kernel
theorem dL_law_1324 : decode cL_law 1324 = .ok (.if_icmp .eq 28, 3) := by decide +kernel
theorem dL_law_1327 : decode cL_law 1327 = .ok (.iconst 0, 1) := by decide +kernel
theorem dL_law_1328 : decode cL_law 1328 = .ok (.ireturn, 1) := by decide +kernel
theorem dL_law_1329 : decode cL_law 1329 = .ok (.aload_n 1, 1) := by decide +kernel
theorem dL_law_1330 : decode cL_law 1330 = .ok (.aload_n 0, 1) := by decide +kernel
theorem dL_law_1331 : decode cL_law 1331 = .ok (.iload_n 3, 1) := by decide +kernel
theorem dL_law_1332 : decode cL_law 1332 = .ok (.iconst 1, 1) := by decide +kernel
theorem dL_law_1333 : decode cL_law 1333 = .ok (.iadd, 1) := by decide +kernel
theorem dL_law_1334 : decode cL_law 1334 = .ok (.iaload, 1) := by decide +kernel
theorem dL_law_1335 : decode cL_law 1335 = .ok (.invokevirtual 171, 3) := by decide +kernel
theorem dL_law_1338 : decode cL_law 1338 = .ok (.aload_n 2, 1) := by decide +kernel
theorem dL_law_1339 : decode cL_law 1339 = .ok (.aload_n 0, 1) := by decide +kernel
theorem dL_law_1340 : decode cL_law 1340 = .ok (.iload_n 3, 1) := by decide +kernel
theorem dL_law_1341 : decode cL_law 1341 = .ok (.iconst 1, 1) := by decide +kernel
theorem dL_law_1342 : decode cL_law 1342 = .ok (.iadd, 1) := by decide +kernel
theorem dL_law_1343 : decode cL_law 1343 = .ok (.iaload, 1) := by decide +kernel
theorem dL_law_1344 : decode cL_law 1344 = .ok (.invokevirtual 174, 3) := by decide +kernel
theorem dL_law_1347 : decode cL_law 1347 = .ok (.if_icmp .eq 5, 3) := by decide +kernel
theorem dL_law_1350 : decode cL_law 1350 = .ok (.iconst 0, 1) := by decide +kernel
theorem dL_law_1351 : decode cL_law 1351 = .ok (.ireturn, 1) := by decide +kernel
theorem dL_law_1352 : decode cL_law 1352 = .ok (.iinc 3 6, 3) := by decide +kernel
theorem dL_law_1355 : decode cL_law 1355 = .ok (.goto (-1337), 3) := by decide +kernel
theorem dL_law_1358 : decode cL_law 1358 = .ok (.iconst 1, 1) := by decide +kernel
theorem dL_law_1359 : decode cL_law 1359 = .ok (.ireturn, 1) := by decide +kernel
end
