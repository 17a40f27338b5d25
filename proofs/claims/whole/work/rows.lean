section
/-- a private method of a class that the tables say can be made, by its rows of tables_1 -/
def lw_okq (q : MethodName × Nat) : Prop := (q.1.cls ≠ "java/lang/invoke/MethodHandle" ∧ q.1.cls ≠ "java/lang/invoke/VarHandle") ∧ Cond.instantiable q.1.cls q.2 ∈ tables_1 ∧ Cond.privateMethod q.1 ∈ tables_1 ∧ Cond.instanceMethod q.1 ∈ tables_1
theorem lw_p0 : lw_okq (⟨"KidGloves", "hasShop", "()Z"⟩, 11) := ⟨⟨by decide +kernel, by decide +kernel⟩, List.mem_of_getElem? (i := 14) (by decide +kernel), List.mem_of_getElem? (i := 415) (by decide +kernel), List.mem_of_getElem? (i := 416) (by decide +kernel)⟩
theorem lw_p1 : lw_okq (⟨"KidGloves", "digestOfWearer", "(JI)J"⟩, 11) := ⟨⟨by decide +kernel, by decide +kernel⟩, List.mem_of_getElem? (i := 14) (by decide +kernel), List.mem_of_getElem? (i := 579) (by decide +kernel), List.mem_of_getElem? (i := 580) (by decide +kernel)⟩
theorem lw_p2 : lw_okq (⟨"KidGloves", "digestOfBoxes", "(J)J"⟩, 11) := ⟨⟨by decide +kernel, by decide +kernel⟩, List.mem_of_getElem? (i := 14) (by decide +kernel), List.mem_of_getElem? (i := 586) (by decide +kernel), List.mem_of_getElem? (i := 587) (by decide +kernel)⟩
theorem lw_p3 : lw_okq (⟨"KidGlovesModel", "read", "()I"⟩, 38) := ⟨⟨by decide +kernel, by decide +kernel⟩, List.mem_of_getElem? (i := 591) (by decide +kernel), List.mem_of_getElem? (i := 728) (by decide +kernel), List.mem_of_getElem? (i := 729) (by decide +kernel)⟩
theorem lw_p4 : lw_okq (⟨"KidGlovesModel", "at", "(I)I"⟩, 38) := ⟨⟨by decide +kernel, by decide +kernel⟩, List.mem_of_getElem? (i := 591) (by decide +kernel), List.mem_of_getElem? (i := 732) (by decide +kernel), List.mem_of_getElem? (i := 733) (by decide +kernel)⟩
theorem lw_p5 : lw_okq (⟨"KidGlovesModel", "isFigure", "(I)Z"⟩, 38) := ⟨⟨by decide +kernel, by decide +kernel⟩, List.mem_of_getElem? (i := 591) (by decide +kernel), List.mem_of_getElem? (i := 739) (by decide +kernel), List.mem_of_getElem? (i := 740) (by decide +kernel)⟩
theorem lw_p6 : lw_okq (⟨"KidGlovesModel", "readWearers", "(I)I"⟩, 38) := ⟨⟨by decide +kernel, by decide +kernel⟩, List.mem_of_getElem? (i := 591) (by decide +kernel), List.mem_of_getElem? (i := 743) (by decide +kernel), List.mem_of_getElem? (i := 744) (by decide +kernel)⟩
theorem lw_p7 : lw_okq (⟨"KidGlovesModel", "isGlove", "(I)Z"⟩, 38) := ⟨⟨by decide +kernel, by decide +kernel⟩, List.mem_of_getElem? (i := 591) (by decide +kernel), List.mem_of_getElem? (i := 755) (by decide +kernel), List.mem_of_getElem? (i := 756) (by decide +kernel)⟩
theorem lw_p8 : lw_okq (⟨"KidGlovesModel", "gloveNow", "(II)I"⟩, 38) := ⟨⟨by decide +kernel, by decide +kernel⟩, List.mem_of_getElem? (i := 591) (by decide +kernel), List.mem_of_getElem? (i := 759) (by decide +kernel), List.mem_of_getElem? (i := 760) (by decide +kernel)⟩
theorem lw_p9 : lw_okq (⟨"KidGlovesModel", "temperBehind", "(II)I"⟩, 38) := ⟨⟨by decide +kernel, by decide +kernel⟩, List.mem_of_getElem? (i := 591) (by decide +kernel), List.mem_of_getElem? (i := 763) (by decide +kernel), List.mem_of_getElem? (i := 764) (by decide +kernel)⟩
theorem lw_p10 : lw_okq (⟨"KidGlovesModel", "aged", "(II)I"⟩, 38) := ⟨⟨by decide +kernel, by decide +kernel⟩, List.mem_of_getElem? (i := 591) (by decide +kernel), List.mem_of_getElem? (i := 767) (by decide +kernel), List.mem_of_getElem? (i := 768) (by decide +kernel)⟩
theorem lw_p11 : lw_okq (⟨"KidGlovesModel", "temperBy", "(III)I"⟩, 38) := ⟨⟨by decide +kernel, by decide +kernel⟩, List.mem_of_getElem? (i := 591) (by decide +kernel), List.mem_of_getElem? (i := 771) (by decide +kernel), List.mem_of_getElem? (i := 772) (by decide +kernel)⟩
theorem lw_p12 : lw_okq (⟨"KidGlovesModel", "quarrels", "(I)I"⟩, 38) := ⟨⟨by decide +kernel, by decide +kernel⟩, List.mem_of_getElem? (i := 591) (by decide +kernel), List.mem_of_getElem? (i := 775) (by decide +kernel), List.mem_of_getElem? (i := 776) (by decide +kernel)⟩
theorem lw_p13 : lw_okq (⟨"KidGlovesModel", "quarrel", "(III)Z"⟩, 38) := ⟨⟨by decide +kernel, by decide +kernel⟩, List.mem_of_getElem? (i := 591) (by decide +kernel), List.mem_of_getElem? (i := 779) (by decide +kernel), List.mem_of_getElem? (i := 780) (by decide +kernel)⟩
theorem lw_p14 : lw_okq (⟨"KidGlovesModel", "marksOf", "(I)I"⟩, 38) := ⟨⟨by decide +kernel, by decide +kernel⟩, List.mem_of_getElem? (i := 591) (by decide +kernel), List.mem_of_getElem? (i := 783) (by decide +kernel), List.mem_of_getElem? (i := 784) (by decide +kernel)⟩
theorem lw_p15 : lw_okq (⟨"KidGlovesModel", "feelFor", "(I)I"⟩, 38) := ⟨⟨by decide +kernel, by decide +kernel⟩, List.mem_of_getElem? (i := 591) (by decide +kernel), List.mem_of_getElem? (i := 787) (by decide +kernel), List.mem_of_getElem? (i := 788) (by decide +kernel)⟩
def lw_privs_1 : List (MethodName × Nat) := [(⟨"KidGloves", "hasShop", "()Z"⟩, 11), (⟨"KidGloves", "digestOfWearer", "(JI)J"⟩, 11), (⟨"KidGloves", "digestOfBoxes", "(J)J"⟩, 11), (⟨"KidGlovesModel", "read", "()I"⟩, 38), (⟨"KidGlovesModel", "at", "(I)I"⟩, 38), (⟨"KidGlovesModel", "isFigure", "(I)Z"⟩, 38), (⟨"KidGlovesModel", "readWearers", "(I)I"⟩, 38), (⟨"KidGlovesModel", "isGlove", "(I)Z"⟩, 38), (⟨"KidGlovesModel", "gloveNow", "(II)I"⟩, 38), (⟨"KidGlovesModel", "temperBehind", "(II)I"⟩, 38), (⟨"KidGlovesModel", "aged", "(II)I"⟩, 38), (⟨"KidGlovesModel", "temperBy", "(III)I"⟩, 38), (⟨"KidGlovesModel", "quarrels", "(I)I"⟩, 38), (⟨"KidGlovesModel", "quarrel", "(III)Z"⟩, 38), (⟨"KidGlovesModel", "marksOf", "(I)I"⟩, 38), (⟨"KidGlovesModel", "feelFor", "(I)I"⟩, 38)]
theorem lw_r1 : ∀ q ∈ lw_privs_1, lw_okq q := List.forall_mem_cons.mpr ⟨lw_p0, List.forall_mem_cons.mpr ⟨lw_p1, List.forall_mem_cons.mpr ⟨lw_p2, List.forall_mem_cons.mpr ⟨lw_p3, List.forall_mem_cons.mpr ⟨lw_p4, List.forall_mem_cons.mpr ⟨lw_p5, List.forall_mem_cons.mpr ⟨lw_p6, List.forall_mem_cons.mpr ⟨lw_p7, List.forall_mem_cons.mpr ⟨lw_p8, List.forall_mem_cons.mpr ⟨lw_p9, List.forall_mem_cons.mpr ⟨lw_p10, List.forall_mem_cons.mpr ⟨lw_p11, List.forall_mem_cons.mpr ⟨lw_p12, List.forall_mem_cons.mpr ⟨lw_p13, List.forall_mem_cons.mpr ⟨lw_p14, List.forall_mem_cons.mpr ⟨lw_p15, fun _ h => absurd h List.not_mem_nil⟩⟩⟩⟩⟩⟩⟩⟩⟩⟩⟩⟩⟩⟩⟩⟩
theorem lw_p16 : lw_okq (⟨"KidGlovesModel", "worstBy", "(III)I"⟩, 38) := ⟨⟨by decide +kernel, by decide +kernel⟩, List.mem_of_getElem? (i := 591) (by decide +kernel), List.mem_of_getElem? (i := 792) (by decide +kernel), List.mem_of_getElem? (i := 793) (by decide +kernel)⟩
theorem lw_p17 : lw_okq (⟨"KidGlovesModel", "isWearer", "(I)Z"⟩, 38) := ⟨⟨by decide +kernel, by decide +kernel⟩, List.mem_of_getElem? (i := 591) (by decide +kernel), List.mem_of_getElem? (i := 807) (by decide +kernel), List.mem_of_getElem? (i := 808) (by decide +kernel)⟩
theorem lw_p18 : lw_okq (⟨"KidGlovesModel", "wearerNow", "(II)I"⟩, 38) := ⟨⟨by decide +kernel, by decide +kernel⟩, List.mem_of_getElem? (i := 591) (by decide +kernel), List.mem_of_getElem? (i := 811) (by decide +kernel), List.mem_of_getElem? (i := 812) (by decide +kernel)⟩
theorem lw_p19 : lw_okq (⟨"KidGlovesModel", "moodNow", "(I)I"⟩, 38) := ⟨⟨by decide +kernel, by decide +kernel⟩, List.mem_of_getElem? (i := 591) (by decide +kernel), List.mem_of_getElem? (i := 815) (by decide +kernel), List.mem_of_getElem? (i := 816) (by decide +kernel)⟩
theorem lw_p20 : lw_okq (⟨"KidGlovesModel", "wornBy", "(I)I"⟩, 38) := ⟨⟨by decide +kernel, by decide +kernel⟩, List.mem_of_getElem? (i := 591) (by decide +kernel), List.mem_of_getElem? (i := 819) (by decide +kernel), List.mem_of_getElem? (i := 820) (by decide +kernel)⟩
theorem lw_p21 : lw_okq (⟨"KidGlovesModel", "moodWith", "(III)I"⟩, 38) := ⟨⟨by decide +kernel, by decide +kernel⟩, List.mem_of_getElem? (i := 591) (by decide +kernel), List.mem_of_getElem? (i := 823) (by decide +kernel), List.mem_of_getElem? (i := 824) (by decide +kernel)⟩
theorem lw_p22 : lw_okq (⟨"KidGlovesModel", "onHand", "(I)I"⟩, 38) := ⟨⟨by decide +kernel, by decide +kernel⟩, List.mem_of_getElem? (i := 591) (by decide +kernel), List.mem_of_getElem? (i := 827) (by decide +kernel), List.mem_of_getElem? (i := 828) (by decide +kernel)⟩
theorem lw_p23 : lw_okq (⟨"KidGlovesModel", "isWished", "(II)Z"⟩, 38) := ⟨⟨by decide +kernel, by decide +kernel⟩, List.mem_of_getElem? (i := 591) (by decide +kernel), List.mem_of_getElem? (i := 834) (by decide +kernel), List.mem_of_getElem? (i := 835) (by decide +kernel)⟩
theorem lw_p24 : lw_okq (⟨"KidGlovesModel", "changesNow", "(II)I"⟩, 38) := ⟨⟨by decide +kernel, by decide +kernel⟩, List.mem_of_getElem? (i := 591) (by decide +kernel), List.mem_of_getElem? (i := 838) (by decide +kernel), List.mem_of_getElem? (i := 839) (by decide +kernel)⟩
theorem lw_p25 : lw_okq (⟨"KidGlovesModel", "goBy", "()V"⟩, 38) := ⟨⟨by decide +kernel, by decide +kernel⟩, List.mem_of_getElem? (i := 591) (by decide +kernel), List.mem_of_getElem? (i := 857) (by decide +kernel), List.mem_of_getElem? (i := 858) (by decide +kernel)⟩
theorem lw_p26 : lw_okq (⟨"KidGlovesModel", "dressNow", "(I)I"⟩, 38) := ⟨⟨by decide +kernel, by decide +kernel⟩, List.mem_of_getElem? (i := 591) (by decide +kernel), List.mem_of_getElem? (i := 877) (by decide +kernel), List.mem_of_getElem? (i := 878) (by decide +kernel)⟩
theorem lw_p27 : lw_okq (⟨"KidGlovesModel", "begin", "()V"⟩, 38) := ⟨⟨by decide +kernel, by decide +kernel⟩, List.mem_of_getElem? (i := 591) (by decide +kernel), List.mem_of_getElem? (i := 881) (by decide +kernel), List.mem_of_getElem? (i := 882) (by decide +kernel)⟩
theorem lw_p28 : lw_okq (⟨"KidGlovesModel", "wishedBy", "()I"⟩, 38) := ⟨⟨by decide +kernel, by decide +kernel⟩, List.mem_of_getElem? (i := 591) (by decide +kernel), List.mem_of_getElem? (i := 885) (by decide +kernel), List.mem_of_getElem? (i := 886) (by decide +kernel)⟩
theorem lw_p29 : lw_okq (⟨"KidGlovesModel", "givenTo", "(I)I"⟩, 38) := ⟨⟨by decide +kernel, by decide +kernel⟩, List.mem_of_getElem? (i := 591) (by decide +kernel), List.mem_of_getElem? (i := 889) (by decide +kernel), List.mem_of_getElem? (i := 890) (by decide +kernel)⟩
theorem lw_p30 : lw_okq (⟨"KidGlovesModel", "given", "()I"⟩, 38) := ⟨⟨by decide +kernel, by decide +kernel⟩, List.mem_of_getElem? (i := 591) (by decide +kernel), List.mem_of_getElem? (i := 893) (by decide +kernel), List.mem_of_getElem? (i := 894) (by decide +kernel)⟩
theorem lw_p31 : lw_okq (⟨"KidGlovesModel", "keepRow", "(I)V"⟩, 38) := ⟨⟨by decide +kernel, by decide +kernel⟩, List.mem_of_getElem? (i := 591) (by decide +kernel), List.mem_of_getElem? (i := 897) (by decide +kernel), List.mem_of_getElem? (i := 898) (by decide +kernel)⟩
def lw_privs_2 : List (MethodName × Nat) := [(⟨"KidGlovesModel", "worstBy", "(III)I"⟩, 38), (⟨"KidGlovesModel", "isWearer", "(I)Z"⟩, 38), (⟨"KidGlovesModel", "wearerNow", "(II)I"⟩, 38), (⟨"KidGlovesModel", "moodNow", "(I)I"⟩, 38), (⟨"KidGlovesModel", "wornBy", "(I)I"⟩, 38), (⟨"KidGlovesModel", "moodWith", "(III)I"⟩, 38), (⟨"KidGlovesModel", "onHand", "(I)I"⟩, 38), (⟨"KidGlovesModel", "isWished", "(II)Z"⟩, 38), (⟨"KidGlovesModel", "changesNow", "(II)I"⟩, 38), (⟨"KidGlovesModel", "goBy", "()V"⟩, 38), (⟨"KidGlovesModel", "dressNow", "(I)I"⟩, 38), (⟨"KidGlovesModel", "begin", "()V"⟩, 38), (⟨"KidGlovesModel", "wishedBy", "()I"⟩, 38), (⟨"KidGlovesModel", "givenTo", "(I)I"⟩, 38), (⟨"KidGlovesModel", "given", "()I"⟩, 38), (⟨"KidGlovesModel", "keepRow", "(I)V"⟩, 38)]
theorem lw_r2 : ∀ q ∈ lw_privs_2, lw_okq q := List.forall_mem_cons.mpr ⟨lw_p16, List.forall_mem_cons.mpr ⟨lw_p17, List.forall_mem_cons.mpr ⟨lw_p18, List.forall_mem_cons.mpr ⟨lw_p19, List.forall_mem_cons.mpr ⟨lw_p20, List.forall_mem_cons.mpr ⟨lw_p21, List.forall_mem_cons.mpr ⟨lw_p22, List.forall_mem_cons.mpr ⟨lw_p23, List.forall_mem_cons.mpr ⟨lw_p24, List.forall_mem_cons.mpr ⟨lw_p25, List.forall_mem_cons.mpr ⟨lw_p26, List.forall_mem_cons.mpr ⟨lw_p27, List.forall_mem_cons.mpr ⟨lw_p28, List.forall_mem_cons.mpr ⟨lw_p29, List.forall_mem_cons.mpr ⟨lw_p30, List.forall_mem_cons.mpr ⟨lw_p31, fun _ h => absurd h List.not_mem_nil⟩⟩⟩⟩⟩⟩⟩⟩⟩⟩⟩⟩⟩⟩⟩⟩
theorem lw_p32 : lw_okq (⟨"KidGlovesModel", "nextGiven", "()Z"⟩, 38) := ⟨⟨by decide +kernel, by decide +kernel⟩, List.mem_of_getElem? (i := 591) (by decide +kernel), List.mem_of_getElem? (i := 901) (by decide +kernel), List.mem_of_getElem? (i := 902) (by decide +kernel)⟩
theorem lw_p33 : lw_okq (⟨"KidGlovesModel", "boxesNow", "(I)I"⟩, 38) := ⟨⟨by decide +kernel, by decide +kernel⟩, List.mem_of_getElem? (i := 591) (by decide +kernel), List.mem_of_getElem? (i := 909) (by decide +kernel), List.mem_of_getElem? (i := 910) (by decide +kernel)⟩
theorem lw_p34 : lw_okq (⟨"KidGlovesModel", "boxesAhead", "(I)I"⟩, 38) := ⟨⟨by decide +kernel, by decide +kernel⟩, List.mem_of_getElem? (i := 591) (by decide +kernel), List.mem_of_getElem? (i := 913) (by decide +kernel), List.mem_of_getElem? (i := 914) (by decide +kernel)⟩
theorem lw_p35 : lw_okq (⟨"KidGlovesModel", "areQuiet", "()Z"⟩, 38) := ⟨⟨by decide +kernel, by decide +kernel⟩, List.mem_of_getElem? (i := 591) (by decide +kernel), List.mem_of_getElem? (i := 917) (by decide +kernel), List.mem_of_getElem? (i := 918) (by decide +kernel)⟩
theorem lw_p36 : lw_okq (⟨"KidGlovesModel", "nextBoxes", "()Z"⟩, 38) := ⟨⟨by decide +kernel, by decide +kernel⟩, List.mem_of_getElem? (i := 591) (by decide +kernel), List.mem_of_getElem? (i := 921) (by decide +kernel), List.mem_of_getElem? (i := 922) (by decide +kernel)⟩
theorem lw_p37 : lw_okq (⟨"KidGlovesModel", "oddsNow", "(IIII)I"⟩, 38) := ⟨⟨by decide +kernel, by decide +kernel⟩, List.mem_of_getElem? (i := 591) (by decide +kernel), List.mem_of_getElem? (i := 929) (by decide +kernel), List.mem_of_getElem? (i := 930) (by decide +kernel)⟩
theorem lw_p38 : lw_okq (⟨"KidGlovesModel", "teasNow", "(III)I"⟩, 38) := ⟨⟨by decide +kernel, by decide +kernel⟩, List.mem_of_getElem? (i := 591) (by decide +kernel), List.mem_of_getElem? (i := 948) (by decide +kernel), List.mem_of_getElem? (i := 949) (by decide +kernel)⟩
theorem lw_p39 : lw_okq (⟨"KidGlovesModel", "takeTea", "()V"⟩, 38) := ⟨⟨by decide +kernel, by decide +kernel⟩, List.mem_of_getElem? (i := 591) (by decide +kernel), List.mem_of_getElem? (i := 952) (by decide +kernel), List.mem_of_getElem? (i := 953) (by decide +kernel)⟩
theorem lw_p40 : lw_okq (⟨"KidGlovesModel", "draw", "(I)I"⟩, 38) := ⟨⟨by decide +kernel, by decide +kernel⟩, List.mem_of_getElem? (i := 591) (by decide +kernel), List.mem_of_getElem? (i := 956) (by decide +kernel), List.mem_of_getElem? (i := 957) (by decide +kernel)⟩
theorem lw_p41 : lw_okq (⟨"KidGlovesModel", "butting", "()I"⟩, 38) := ⟨⟨by decide +kernel, by decide +kernel⟩, List.mem_of_getElem? (i := 591) (by decide +kernel), List.mem_of_getElem? (i := 964) (by decide +kernel), List.mem_of_getElem? (i := 965) (by decide +kernel)⟩
theorem lw_p42 : lw_okq (⟨"KidGlovesModel", "onHands", "()I"⟩, 38) := ⟨⟨by decide +kernel, by decide +kernel⟩, List.mem_of_getElem? (i := 591) (by decide +kernel), List.mem_of_getElem? (i := 968) (by decide +kernel), List.mem_of_getElem? (i := 969) (by decide +kernel)⟩
theorem lw_p43 : lw_okq (⟨"KidGlovesModel", "howMany", "(I)I"⟩, 38) := ⟨⟨by decide +kernel, by decide +kernel⟩, List.mem_of_getElem? (i := 591) (by decide +kernel), List.mem_of_getElem? (i := 984) (by decide +kernel), List.mem_of_getElem? (i := 985) (by decide +kernel)⟩
theorem lw_p44 : lw_okq (⟨"KidGlovesModel", "ofWearers", "(I)I"⟩, 38) := ⟨⟨by decide +kernel, by decide +kernel⟩, List.mem_of_getElem? (i := 591) (by decide +kernel), List.mem_of_getElem? (i := 988) (by decide +kernel), List.mem_of_getElem? (i := 989) (by decide +kernel)⟩
theorem lw_p45 : lw_okq (⟨"KidGlovesModel", "ofGloves", "(Z)I"⟩, 38) := ⟨⟨by decide +kernel, by decide +kernel⟩, List.mem_of_getElem? (i := 591) (by decide +kernel), List.mem_of_getElem? (i := 992) (by decide +kernel), List.mem_of_getElem? (i := 993) (by decide +kernel)⟩
theorem lw_p46 : lw_okq (⟨"KidGlovesModel", "mix", "(J)V"⟩, 38) := ⟨⟨by decide +kernel, by decide +kernel⟩, List.mem_of_getElem? (i := 591) (by decide +kernel), List.mem_of_getElem? (i := 1001) (by decide +kernel), List.mem_of_getElem? (i := 1002) (by decide +kernel)⟩
theorem lw_p47 : lw_okq (⟨"KidGlovesModel", "mixWearer", "(I)V"⟩, 38) := ⟨⟨by decide +kernel, by decide +kernel⟩, List.mem_of_getElem? (i := 591) (by decide +kernel), List.mem_of_getElem? (i := 1006) (by decide +kernel), List.mem_of_getElem? (i := 1007) (by decide +kernel)⟩
def lw_privs_3 : List (MethodName × Nat) := [(⟨"KidGlovesModel", "nextGiven", "()Z"⟩, 38), (⟨"KidGlovesModel", "boxesNow", "(I)I"⟩, 38), (⟨"KidGlovesModel", "boxesAhead", "(I)I"⟩, 38), (⟨"KidGlovesModel", "areQuiet", "()Z"⟩, 38), (⟨"KidGlovesModel", "nextBoxes", "()Z"⟩, 38), (⟨"KidGlovesModel", "oddsNow", "(IIII)I"⟩, 38), (⟨"KidGlovesModel", "teasNow", "(III)I"⟩, 38), (⟨"KidGlovesModel", "takeTea", "()V"⟩, 38), (⟨"KidGlovesModel", "draw", "(I)I"⟩, 38), (⟨"KidGlovesModel", "butting", "()I"⟩, 38), (⟨"KidGlovesModel", "onHands", "()I"⟩, 38), (⟨"KidGlovesModel", "howMany", "(I)I"⟩, 38), (⟨"KidGlovesModel", "ofWearers", "(I)I"⟩, 38), (⟨"KidGlovesModel", "ofGloves", "(Z)I"⟩, 38), (⟨"KidGlovesModel", "mix", "(J)V"⟩, 38), (⟨"KidGlovesModel", "mixWearer", "(I)V"⟩, 38)]
theorem lw_r3 : ∀ q ∈ lw_privs_3, lw_okq q := List.forall_mem_cons.mpr ⟨lw_p32, List.forall_mem_cons.mpr ⟨lw_p33, List.forall_mem_cons.mpr ⟨lw_p34, List.forall_mem_cons.mpr ⟨lw_p35, List.forall_mem_cons.mpr ⟨lw_p36, List.forall_mem_cons.mpr ⟨lw_p37, List.forall_mem_cons.mpr ⟨lw_p38, List.forall_mem_cons.mpr ⟨lw_p39, List.forall_mem_cons.mpr ⟨lw_p40, List.forall_mem_cons.mpr ⟨lw_p41, List.forall_mem_cons.mpr ⟨lw_p42, List.forall_mem_cons.mpr ⟨lw_p43, List.forall_mem_cons.mpr ⟨lw_p44, List.forall_mem_cons.mpr ⟨lw_p45, List.forall_mem_cons.mpr ⟨lw_p46, List.forall_mem_cons.mpr ⟨lw_p47, fun _ h => absurd h List.not_mem_nil⟩⟩⟩⟩⟩⟩⟩⟩⟩⟩⟩⟩⟩⟩⟩⟩
def lw_privs : List (MethodName × Nat) := lw_privs_1 ++ (lw_privs_2 ++ (lw_privs_3))
def lw_tbl : List Cond := k2_sels lw_privs ++ tables_1
theorem lw_privs_ok : ∀ q ∈ lw_privs, lw_okq q := by
  show ∀ q ∈ lw_privs_1 ++ (lw_privs_2 ++ (lw_privs_3)), lw_okq q
  exact List.forall_mem_append.mpr ⟨lw_r1, List.forall_mem_append.mpr ⟨lw_r2, lw_r3⟩⟩
end
section
def RX0 : String := "KidGloves$Chances"
def TX0 : u_T := fun k => match k with
  | 0 => ("KidGloves$Chances", "ways", "[I", true)
  | _ => ("KidGloves$Chances", "all", "I", false)
def tyX0 : Nat → FieldType := fun k => match k with
  | 0 => .array .int
  | _ => .int
abbrev wsX00 : List Cond := u_ws RX0 TX0 2
theorem nmX0 : ∀ a, a < 2 → ∀ b, b < 2 → a ≠ b → (TX0 a).2.1 ≠ (TX0 b).2.1 := by decide +kernel
theorem tyX0_ok : ∀ k, k < 2 → parseFieldDescriptor (TX0 k).2.2.1 = some (tyX0 k) := by decide +kernel
abbrev cX0_init : ByteArray := prog_2_method_1_code
def yX0_init : MethodName := ⟨RX0, "<init>", "()V"⟩
abbrev cX0_spread : ByteArray := prog_2_method_2_code
def yX0_spread : MethodName := ⟨RX0, "spread", "(II)V"⟩
def RX1 : String := "KidGloves$Draws"
def TX1 : u_T := fun k => match k with
  | _ => ("KidGloves$Draws", "seed", "I", false)
def tyX1 : Nat → FieldType := fun k => match k with
  | _ => .int
abbrev wsX10 : List Cond := u_ws RX1 TX1 1
theorem nmX1 : ∀ a, a < 1 → ∀ b, b < 1 → a ≠ b → (TX1 a).2.1 ≠ (TX1 b).2.1 := by decide +kernel
theorem tyX1_ok : ∀ k, k < 1 → parseFieldDescriptor (TX1 k).2.2.1 = some (tyX1 k) := by decide +kernel
abbrev cX1_init : ByteArray := prog_3_method_1_code
def yX1_init : MethodName := ⟨RX1, "<init>", "()V"⟩
abbrev cX1_next : ByteArray := prog_3_method_2_code
def yX1_next : MethodName := ⟨RX1, "next", "(I)I"⟩
def RX2 : String := "KidGloves$Dressing"
def TX2 : u_T := fun k => match k with
  | 0 => ("KidGloves$Dressing", "pleased", "[I", true)
  | 1 => ("KidGloves$Dressing", "sets", "[I", true)
  | 2 => ("KidGloves$Dressing", "given", "[I", true)
  | 3 => ("KidGloves$Dressing", "best", "[I", true)
  | 4 => ("KidGloves$Dressing", "mostPleased", "I", false)
  | _ => ("KidGloves$Dressing", "fewestGiven", "I", false)
def tyX2 : Nat → FieldType := fun k => match k with
  | 0 => .array .int
  | 1 => .array .int
  | 2 => .array .int
  | 3 => .array .int
  | 4 => .int
  | _ => .int
abbrev wsX20 : List Cond := u_ws RX2 TX2 6
theorem nmX2 : ∀ a, a < 6 → ∀ b, b < 6 → a ≠ b → (TX2 a).2.1 ≠ (TX2 b).2.1 := by decide +kernel
theorem tyX2_ok : ∀ k, k < 6 → parseFieldDescriptor (TX2 k).2.2.1 = some (tyX2 k) := by decide +kernel
abbrev cX2_init : ByteArray := prog_4_method_1_code
def yX2_init : MethodName := ⟨RX2, "<init>", "()V"⟩
abbrev cX2_find : ByteArray := prog_4_method_2_code
def yX2_find : MethodName := ⟨RX2, "find", "(LKidGloves$Shop;)V"⟩
abbrev cX2_judgeSets : ByteArray := prog_4_method_3_code
def yX2_judgeSets : MethodName := ⟨RX2, "judgeSets", "(LKidGloves$Shop;)V"⟩
abbrev cX2_give : ByteArray := prog_4_method_4_code
def yX2_give : MethodName := ⟨RX2, "give", "(LKidGloves$Dressing;LKidGloves$Shop;II)V"⟩
abbrev cX2_keepIfBetter : ByteArray := prog_4_method_5_code
def yX2_keepIfBetter : MethodName := ⟨RX2, "keepIfBetter", "(II)V"⟩
def RX3 : String := "KidGloves$Packing"
def TX3 : u_T := fun k => match k with
  | 0 => ("KidGloves$Packing", "quarrels", "[I", true)
  | 1 => ("KidGloves$Packing", "inBox", "[I", true)
  | 2 => ("KidGloves$Packing", "boxOf", "[I", true)
  | 3 => ("KidGloves$Packing", "best", "[I", true)
  | _ => ("KidGloves$Packing", "fewest", "I", false)
def tyX3 : Nat → FieldType := fun k => match k with
  | 0 => .array .int
  | 1 => .array .int
  | 2 => .array .int
  | 3 => .array .int
  | _ => .int
abbrev wsX30 : List Cond := u_ws RX3 TX3 5
theorem nmX3 : ∀ a, a < 5 → ∀ b, b < 5 → a ≠ b → (TX3 a).2.1 ≠ (TX3 b).2.1 := by decide +kernel
theorem tyX3_ok : ∀ k, k < 5 → parseFieldDescriptor (TX3 k).2.2.1 = some (tyX3 k) := by decide +kernel
abbrev cX3_init : ByteArray := prog_5_method_1_code
def yX3_init : MethodName := ⟨RX3, "<init>", "()V"⟩
abbrev cX3_find : ByteArray := prog_5_method_2_code
def yX3_find : MethodName := ⟨RX3, "find", "(LKidGloves$Shop;)V"⟩
abbrev cX3_pack : ByteArray := prog_5_method_3_code
def yX3_pack : MethodName := ⟨RX3, "pack", "(LKidGloves$Packing;III)V"⟩
def RX4 : String := "KidGloves$Page"
def TX4 : u_T := fun k => match k with
  | 0 => ("KidGloves$Page", "codes", "[I", true)
  | _ => ("KidGloves$Page", "length", "I", false)
def tyX4 : Nat → FieldType := fun k => match k with
  | 0 => .array .int
  | _ => .int
abbrev wsX40 : List Cond := u_ws RX4 TX4 2
theorem nmX4 : ∀ a, a < 2 → ∀ b, b < 2 → a ≠ b → (TX4 a).2.1 ≠ (TX4 b).2.1 := by decide +kernel
theorem tyX4_ok : ∀ k, k < 2 → parseFieldDescriptor (TX4 k).2.2.1 = some (tyX4 k) := by decide +kernel
abbrev cX4_init : ByteArray := prog_6_method_1_code
def yX4_init : MethodName := ⟨RX4, "<init>", "()V"⟩
abbrev cX4_add : ByteArray := prog_6_method_2_code
def yX4_add : MethodName := ⟨RX4, "add", "(I)Z"⟩
abbrev cX4_semicolon : ByteArray := prog_6_method_3_code
def yX4_semicolon : MethodName := ⟨RX4, "semicolon", "()I"⟩
abbrev cX4_firstFault : ByteArray := prog_6_method_4_code
def yX4_firstFault : MethodName := ⟨RX4, "firstFault", "()I"⟩
abbrev cX4_isShop : ByteArray := prog_6_method_5_code
def yX4_isShop : MethodName := ⟨RX4, "isShop", "()Z"⟩
abbrev cX4_isOfGloves : ByteArray := prog_6_method_6_code
def yX4_isOfGloves : MethodName := ⟨RX4, "isOfGloves", "(II)Z"⟩
abbrev cX4_isNerve : ByteArray := prog_6_method_7_code
def yX4_isNerve : MethodName := ⟨RX4, "isNerve", "(II)Z"⟩
abbrev cX4_isDigit : ByteArray := prog_6_method_8_code
def yX4_isDigit : MethodName := ⟨RX4, "isDigit", "(I)Z"⟩
abbrev cX4_readInto : ByteArray := prog_6_method_9_code
def yX4_readInto : MethodName := ⟨RX4, "readInto", "(LKidGloves$Shop;)V"⟩
def RX5 : String := "KidGloves$Shop"
def TX5 : u_T := fun k => match k with
  | 0 => ("KidGloves$Shop", "kinds", "[I", true)
  | 1 => ("KidGloves$Shop", "marks", "[I", true)
  | 2 => ("KidGloves$Shop", "ages", "[I", true)
  | 3 => ("KidGloves$Shop", "holders", "[I", true)
  | 4 => ("KidGloves$Shop", "sides", "[I", true)
  | 5 => ("KidGloves$Shop", "nerves", "[I", true)
  | 6 => ("KidGloves$Shop", "wishes", "[I", true)
  | 7 => ("KidGloves$Shop", "seenGloves", "[I", true)
  | 8 => ("KidGloves$Shop", "seenMores", "[I", true)
  | 9 => ("KidGloves$Shop", "seenTempers", "[I", true)
  | 10 => ("KidGloves$Shop", "leftByTemper", "[I", true)
  | 11 => ("KidGloves$Shop", "gloves", "I", false)
  | 12 => ("KidGloves$Shop", "wearers", "I", false)
  | 13 => ("KidGloves$Shop", "hours", "I", false)
  | _ => ("KidGloves$Shop", "seen", "I", false)
def tyX5 : Nat → FieldType := fun k => match k with
  | 0 => .array .int
  | 1 => .array .int
  | 2 => .array .int
  | 3 => .array .int
  | 4 => .array .int
  | 5 => .array .int
  | 6 => .array .int
  | 7 => .array .int
  | 8 => .array .int
  | 9 => .array .int
  | 10 => .array .int
  | 11 => .int
  | 12 => .int
  | 13 => .int
  | _ => .int
abbrev wsX50 : List Cond := u_ws RX5 TX5 15
theorem nmX5 : ∀ a, a < 15 → ∀ b, b < 15 → a ≠ b → (TX5 a).2.1 ≠ (TX5 b).2.1 := by decide +kernel
theorem tyX5_ok : ∀ k, k < 15 → parseFieldDescriptor (TX5 k).2.2.1 = some (tyX5 k) := by decide +kernel
abbrev cX5_init : ByteArray := prog_7_method_1_code
def yX5_init : MethodName := ⟨RX5, "<init>", "()V"⟩
abbrev cX5_open : ByteArray := prog_7_method_2_code
def yX5_open : MethodName := ⟨RX5, "open", "(II)V"⟩
abbrev cX5_copyFrom : ByteArray := prog_7_method_3_code
def yX5_copyFrom : MethodName := ⟨RX5, "copyFrom", "(LKidGloves$Shop;)V"⟩
abbrev cX5_hasGlove : ByteArray := prog_7_method_4_code
def yX5_hasGlove : MethodName := ⟨RX5, "hasGlove", "(I)Z"⟩
abbrev cX5_hasWearer : ByteArray := prog_7_method_5_code
def yX5_hasWearer : MethodName := ⟨RX5, "hasWearer", "(I)Z"⟩
abbrev cX5_putOn : ByteArray := prog_7_method_6_code
def yX5_putOn : MethodName := ⟨RX5, "putOn", "(III)V"⟩
abbrev cX5_takeOff : ByteArray := prog_7_method_7_code
def yX5_takeOff : MethodName := ⟨RX5, "takeOff", "(I)V"⟩
abbrev cX5_gloveOn : ByteArray := prog_7_method_8_code
def yX5_gloveOn : MethodName := ⟨RX5, "gloveOn", "(II)I"⟩
abbrev cX5_heldBy : ByteArray := prog_7_method_9_code
def yX5_heldBy : MethodName := ⟨RX5, "heldBy", "(I)I"⟩
abbrev cX5_passHour : ByteArray := prog_7_method_10_code
def yX5_passHour : MethodName := ⟨RX5, "passHour", "()V"⟩
abbrev cX5_temper : ByteArray := prog_7_method_11_code
def yX5_temper : MethodName := ⟨RX5, "temper", "(II)I"⟩
abbrev cX5_quarrels : ByteArray := prog_7_method_12_code
def yX5_quarrels : MethodName := ⟨RX5, "quarrels", "(I)I"⟩
abbrev cX5_moodWith : ByteArray := prog_7_method_13_code
def yX5_moodWith : MethodName := ⟨RX5, "moodWith", "(III)I"⟩
abbrev cX5_moodOf : ByteArray := prog_7_method_14_code
def yX5_moodOf : MethodName := ⟨RX5, "moodOf", "(II)I"⟩
abbrev cX5_pleases : ByteArray := prog_7_method_15_code
def yX5_pleases : MethodName := ⟨RX5, "pleases", "(II)Z"⟩
abbrev cX5_stillSet : ByteArray := prog_7_method_16_code
def yX5_stillSet : MethodName := ⟨RX5, "stillSet", "(I)I"⟩
abbrev cX5_changesTo : ByteArray := prog_7_method_17_code
def yX5_changesTo : MethodName := ⟨RX5, "changesTo", "(II)I"⟩
abbrev cX5_addSeen : ByteArray := prog_7_method_18_code
def yX5_addSeen : MethodName := ⟨RX5, "addSeen", "(III)Z"⟩
abbrev cX5_possibleMarks : ByteArray := prog_7_method_19_code
def yX5_possibleMarks : MethodName := ⟨RX5, "possibleMarks", "(I)I"⟩
abbrev cX5_agreesWithSeen : ByteArray := prog_7_method_20_code
def yX5_agreesWithSeen : MethodName := ⟨RX5, "agreesWithSeen", "(II)Z"⟩
abbrev cX5_bestFeel : ByteArray := prog_7_method_21_code
def yX5_bestFeel : MethodName := ⟨RX5, "bestFeel", "(I)I"⟩
abbrev cX5_mostLeft : ByteArray := prog_7_method_22_code
def yX5_mostLeft : MethodName := ⟨RX5, "mostLeft", "(III)I"⟩
abbrev cX5_changeByDraws : ByteArray := prog_7_method_23_code
def yX5_changeByDraws : MethodName := ⟨RX5, "changeByDraws", "(LKidGloves$Draws;)V"⟩
abbrev cX5_countOnHands : ByteArray := prog_7_method_24_code
def yX5_countOnHands : MethodName := ⟨RX5, "countOnHands", "()I"⟩
abbrev cX5_countDoing : ByteArray := prog_7_method_25_code
def yX5_countDoing : MethodName := ⟨RX5, "countDoing", "(I)I"⟩
abbrev cX5_countPleased : ByteArray := prog_7_method_26_code
def yX5_countPleased : MethodName := ⟨RX5, "countPleased", "()I"⟩
abbrev cX5_countQuarrels : ByteArray := prog_7_method_27_code
def yX5_countQuarrels : MethodName := ⟨RX5, "countQuarrels", "()I"⟩
abbrev cX5_sumOfTempers : ByteArray := prog_7_method_28_code
def yX5_sumOfTempers : MethodName := ⟨RX5, "sumOfTempers", "()I"⟩
def RX6 : String := "KidGloves"
def TX6 : u_T := fun k => match k with
  | 0 => ("KidGloves", "page", "LKidGloves$Page;", true)
  | 1 => ("KidGloves", "now", "LKidGloves$Shop;", true)
  | 2 => ("KidGloves", "kept", "LKidGloves$Shop;", true)
  | 3 => ("KidGloves", "dreamt", "LKidGloves$Shop;", true)
  | 4 => ("KidGloves", "dressing", "LKidGloves$Dressing;", true)
  | 5 => ("KidGloves", "packing", "LKidGloves$Packing;", true)
  | 6 => ("KidGloves", "chances", "LKidGloves$Chances;", true)
  | 7 => ("KidGloves", "draws", "LKidGloves$Draws;", true)
  | 8 => ("KidGloves", "imageKept", "Z", false)
  | 9 => ("KidGloves", "timesRead", "I", false)
  | _ => ("KidGloves", "timesDressed", "I", false)
def tyX6 : Nat → FieldType := fun k => match k with
  | 0 => .object "KidGloves$Page"
  | 1 => .object "KidGloves$Shop"
  | 2 => .object "KidGloves$Shop"
  | 3 => .object "KidGloves$Shop"
  | 4 => .object "KidGloves$Dressing"
  | 5 => .object "KidGloves$Packing"
  | 6 => .object "KidGloves$Chances"
  | 7 => .object "KidGloves$Draws"
  | 8 => .boolean
  | 9 => .int
  | _ => .int
abbrev wsX60 : List Cond := u_ws RX6 TX6 11
theorem nmX6 : ∀ a, a < 11 → ∀ b, b < 11 → a ≠ b → (TX6 a).2.1 ≠ (TX6 b).2.1 := by decide +kernel
theorem tyX6_ok : ∀ k, k < 11 → parseFieldDescriptor (TX6 k).2.2.1 = some (tyX6 k) := by decide +kernel
abbrev cX6_init : ByteArray := prog_1_method_1_code
def yX6_init : MethodName := ⟨RX6, "<init>", "()V"⟩
abbrev cX6_letter : ByteArray := prog_1_method_2_code
def yX6_letter : MethodName := ⟨RX6, "letter", "(I)I"⟩
abbrev cX6_blank : ByteArray := prog_1_method_3_code
def yX6_blank : MethodName := ⟨RX6, "blank", "()I"⟩
abbrev cX6_fault : ByteArray := prog_1_method_4_code
def yX6_fault : MethodName := ⟨RX6, "fault", "()I"⟩
abbrev cX6_shop : ByteArray := prog_1_method_5_code
def yX6_shop : MethodName := ⟨RX6, "shop", "()I"⟩
abbrev cX6_glove : ByteArray := prog_1_method_6_code
def yX6_glove : MethodName := ⟨RX6, "glove", "(II)I"⟩
abbrev cX6_as : ByteArray := prog_1_method_7_code
def yX6_as : MethodName := ⟨RX6, "as", "(II)I"⟩
abbrev cX6_wearer : ByteArray := prog_1_method_8_code
def yX6_wearer : MethodName := ⟨RX6, "wearer", "(II)I"⟩
abbrev cX6_wear : ByteArray := prog_1_method_9_code
def yX6_wear : MethodName := ⟨RX6, "wear", "(III)I"⟩
abbrev cX6_off : ByteArray := prog_1_method_10_code
def yX6_off : MethodName := ⟨RX6, "off", "(I)I"⟩
abbrev cX6_hour : ByteArray := prog_1_method_11_code
def yX6_hour : MethodName := ⟨RX6, "hour", "()I"⟩
abbrev cX6_book : ByteArray := prog_1_method_12_code
def yX6_book : MethodName := ⟨RX6, "book", "(II)I"⟩
abbrev cX6_wish : ByteArray := prog_1_method_13_code
def yX6_wish : MethodName := ⟨RX6, "wish", "(III)I"⟩
abbrev cX6_mood : ByteArray := prog_1_method_14_code
def yX6_mood : MethodName := ⟨RX6, "mood", "(II)I"⟩
abbrev cX6_dress : ByteArray := prog_1_method_15_code
def yX6_dress : MethodName := ⟨RX6, "dress", "(I)I"⟩
abbrev cX6_boxes : ByteArray := prog_1_method_16_code
def yX6_boxes : MethodName := ⟨RX6, "boxes", "(I)I"⟩
abbrev cX6_odds : ByteArray := prog_1_method_17_code
def yX6_odds : MethodName := ⟨RX6, "odds", "(IIII)I"⟩
abbrev cX6_see : ByteArray := prog_1_method_18_code
def yX6_see : MethodName := ⟨RX6, "see", "(III)I"⟩
abbrev cX6_forget : ByteArray := prog_1_method_19_code
def yX6_forget : MethodName := ⟨RX6, "forget", "()I"⟩
abbrev cX6_teas : ByteArray := prog_1_method_20_code
def yX6_teas : MethodName := ⟨RX6, "teas", "(III)I"⟩
abbrev cX6_image : ByteArray := prog_1_method_21_code
def yX6_image : MethodName := ⟨RX6, "image", "()I"⟩
abbrev cX6_restore : ByteArray := prog_1_method_22_code
def yX6_restore : MethodName := ⟨RX6, "restore", "()I"⟩
abbrev cX6_count : ByteArray := prog_1_method_23_code
def yX6_count : MethodName := ⟨RX6, "count", "(I)I"⟩
abbrev cX6_digest : ByteArray := prog_1_method_24_code
def yX6_digest : MethodName := ⟨RX6, "digest", "()J"⟩
abbrev cX6_digestOfWearer : ByteArray := prog_1_method_25_code
def yX6_digestOfWearer : MethodName := ⟨RX6, "digestOfWearer", "(JI)J"⟩
abbrev cX6_digestOfBoxes : ByteArray := prog_1_method_26_code
def yX6_digestOfBoxes : MethodName := ⟨RX6, "digestOfBoxes", "(J)J"⟩
abbrev cX6_hasShop : ByteArray := prog_1_method_27_code
def yX6_hasShop : MethodName := ⟨RX6, "hasShop", "()Z"⟩
abbrev cX6_asksOfGlove : ByteArray := prog_1_method_28_code
def yX6_asksOfGlove : MethodName := ⟨RX6, "asksOfGlove", "(I)Z"⟩
abbrev cX6_within : ByteArray := prog_1_method_29_code
def yX6_within : MethodName := ⟨RX6, "within", "(III)Z"⟩
abbrev cX6_at : ByteArray := prog_1_method_30_code
def yX6_at : MethodName := ⟨RX6, "at", "([II)I"⟩
abbrev cX6_put : ByteArray := prog_1_method_31_code
def yX6_put : MethodName := ⟨RX6, "put", "([III)V"⟩
abbrev cX6_copyRow : ByteArray := prog_1_method_32_code
def yX6_copyRow : MethodName := ⟨RX6, "copyRow", "([I[I)V"⟩
abbrev cX6_hasBit : ByteArray := prog_1_method_33_code
def yX6_hasBit : MethodName := ⟨RX6, "hasBit", "(II)Z"⟩
abbrev cX6_kindOf : ByteArray := prog_1_method_34_code
def yX6_kindOf : MethodName := ⟨RX6, "kindOf", "(I)I"⟩
abbrev cX6_isOfKind : ByteArray := prog_1_method_35_code
def yX6_isOfKind : MethodName := ⟨RX6, "isOfKind", "(II)Z"⟩
abbrev cX6_ageOf : ByteArray := prog_1_method_36_code
def yX6_ageOf : MethodName := ⟨RX6, "ageOf", "(I)I"⟩
abbrev cX6_temperOf : ByteArray := prog_1_method_37_code
def yX6_temperOf : MethodName := ⟨RX6, "temperOf", "(III)I"⟩
abbrev cX6_doing : ByteArray := prog_1_method_38_code
def yX6_doing : MethodName := ⟨RX6, "doing", "(I)I"⟩
abbrev cX6_commonDivisor : ByteArray := prog_1_method_39_code
def yX6_commonDivisor : MethodName := ⟨RX6, "commonDivisor", "(II)I"⟩
def RX7 : String := "KidGlovesModel"
def TX7 : u_T := fun k => match k with
  | 0 => ("KidGlovesModel", "shops", "I", false)
  | 1 => ("KidGlovesModel", "gloves", "I", false)
  | 2 => ("KidGlovesModel", "wearers", "I", false)
  | 3 => ("KidGlovesModel", "kindOf", "[I", true)
  | 4 => ("KidGlovesModel", "markOf", "[I", true)
  | 5 => ("KidGlovesModel", "ageOf", "[I", true)
  | 6 => ("KidGlovesModel", "handOf", "[I", true)
  | 7 => ("KidGlovesModel", "nerveOf", "[I", true)
  | 8 => ("KidGlovesModel", "wishOf", "[I", true)
  | 9 => ("KidGlovesModel", "hours", "I", false)
  | 10 => ("KidGlovesModel", "asks", "I", false)
  | 11 => ("KidGlovesModel", "seen", "I", false)
  | 12 => ("KidGlovesModel", "seenGlove", "[I", true)
  | 13 => ("KidGlovesModel", "seenMore", "[I", true)
  | 14 => ("KidGlovesModel", "seenTemper", "[I", true)
  | 15 => ("KidGlovesModel", "pageLength", "I", false)
  | 16 => ("KidGlovesModel", "page", "[B", true)
  | 17 => ("KidGlovesModel", "isWhole", "Z", false)
  | 18 => ("KidGlovesModel", "newGloves", "I", false)
  | 19 => ("KidGlovesModel", "newWearers", "I", false)
  | 20 => ("KidGlovesModel", "row", "[I", true)
  | 21 => ("KidGlovesModel", "bestRow", "[I", true)
  | 22 => ("KidGlovesModel", "seedNow", "J", false)
  | 23 => ("KidGlovesModel", "savedAge", "[I", true)
  | 24 => ("KidGlovesModel", "savedHand", "[I", true)
  | 25 => ("KidGlovesModel", "isKept", "Z", false)
  | 26 => ("KidGlovesModel", "keptShop", "I", false)
  | 27 => ("KidGlovesModel", "keptHours", "I", false)
  | 28 => ("KidGlovesModel", "keptSeen", "I", false)
  | 29 => ("KidGlovesModel", "keptMark", "[I", true)
  | 30 => ("KidGlovesModel", "keptAge", "[I", true)
  | 31 => ("KidGlovesModel", "keptHand", "[I", true)
  | 32 => ("KidGlovesModel", "keptNerve", "[I", true)
  | 33 => ("KidGlovesModel", "keptWish", "[I", true)
  | 34 => ("KidGlovesModel", "keptGlove", "[I", true)
  | 35 => ("KidGlovesModel", "keptMore", "[I", true)
  | 36 => ("KidGlovesModel", "keptTemper", "[I", true)
  | _ => ("KidGlovesModel", "h", "J", false)
def tyX7 : Nat → FieldType := fun k => match k with
  | 0 => .int
  | 1 => .int
  | 2 => .int
  | 3 => .array .int
  | 4 => .array .int
  | 5 => .array .int
  | 6 => .array .int
  | 7 => .array .int
  | 8 => .array .int
  | 9 => .int
  | 10 => .int
  | 11 => .int
  | 12 => .array .int
  | 13 => .array .int
  | 14 => .array .int
  | 15 => .int
  | 16 => .array .byte
  | 17 => .boolean
  | 18 => .int
  | 19 => .int
  | 20 => .array .int
  | 21 => .array .int
  | 22 => .long
  | 23 => .array .int
  | 24 => .array .int
  | 25 => .boolean
  | 26 => .int
  | 27 => .int
  | 28 => .int
  | 29 => .array .int
  | 30 => .array .int
  | 31 => .array .int
  | 32 => .array .int
  | 33 => .array .int
  | 34 => .array .int
  | 35 => .array .int
  | 36 => .array .int
  | _ => .long
abbrev wsX70 : List Cond := u_ws RX7 TX7 38
theorem nmX7 : ∀ a, a < 38 → ∀ b, b < 38 → a ≠ b → (TX7 a).2.1 ≠ (TX7 b).2.1 := by decide +kernel
theorem tyX7_ok : ∀ k, k < 38 → parseFieldDescriptor (TX7 k).2.2.1 = some (tyX7 k) := by decide +kernel
abbrev cX7_init : ByteArray := prog_9_method_1_code
def yX7_init : MethodName := ⟨RX7, "<init>", "()V"⟩
abbrev cX7_within : ByteArray := prog_9_method_3_code
def yX7_within : MethodName := ⟨RX7, "within", "(III)Z"⟩
abbrev cX7_isIn : ByteArray := prog_9_method_4_code
def yX7_isIn : MethodName := ⟨RX7, "isIn", "(II)Z"⟩
abbrev cX7_size : ByteArray := prog_9_method_5_code
def yX7_size : MethodName := ⟨RX7, "size", "(I)I"⟩
abbrev cX7_divisor : ByteArray := prog_9_method_6_code
def yX7_divisor : MethodName := ⟨RX7, "divisor", "(II)I"⟩
abbrev cX7_letter : ByteArray := prog_9_method_7_code
def yX7_letter : MethodName := ⟨RX7, "letter", "(I)I"⟩
abbrev cX7_blank : ByteArray := prog_9_method_8_code
def yX7_blank : MethodName := ⟨RX7, "blank", "()I"⟩
abbrev cX7_kindBy : ByteArray := prog_9_method_9_code
def yX7_kindBy : MethodName := ⟨RX7, "kindBy", "(I)I"⟩
abbrev cX7_at : ByteArray := prog_9_method_10_code
def yX7_at : MethodName := ⟨RX7, "at", "(I)I"⟩
abbrev cX7_isFigure : ByteArray := prog_9_method_11_code
def yX7_isFigure : MethodName := ⟨RX7, "isFigure", "(I)Z"⟩
abbrev cX7_readWearers : ByteArray := prog_9_method_12_code
def yX7_readWearers : MethodName := ⟨RX7, "readWearers", "(I)I"⟩
abbrev cX7_read : ByteArray := prog_9_method_13_code
def yX7_read : MethodName := ⟨RX7, "read", "()I"⟩
abbrev cX7_fault : ByteArray := prog_9_method_14_code
def yX7_fault : MethodName := ⟨RX7, "fault", "()I"⟩
abbrev cX7_shop : ByteArray := prog_9_method_15_code
def yX7_shop : MethodName := ⟨RX7, "shop", "()I"⟩
abbrev cX7_isGlove : ByteArray := prog_9_method_16_code
def yX7_isGlove : MethodName := ⟨RX7, "isGlove", "(I)Z"⟩
abbrev cX7_isWearer : ByteArray := prog_9_method_17_code
def yX7_isWearer : MethodName := ⟨RX7, "isWearer", "(I)Z"⟩
abbrev cX7_temperBy : ByteArray := prog_9_method_18_code
def yX7_temperBy : MethodName := ⟨RX7, "temperBy", "(III)I"⟩
abbrev cX7_aged : ByteArray := prog_9_method_19_code
def yX7_aged : MethodName := ⟨RX7, "aged", "(II)I"⟩
abbrev cX7_temperBehind : ByteArray := prog_9_method_20_code
def yX7_temperBehind : MethodName := ⟨RX7, "temperBehind", "(II)I"⟩
abbrev cX7_quarrel : ByteArray := prog_9_method_21_code
def yX7_quarrel : MethodName := ⟨RX7, "quarrel", "(III)Z"⟩
abbrev cX7_wornBy : ByteArray := prog_9_method_22_code
def yX7_wornBy : MethodName := ⟨RX7, "wornBy", "(I)I"⟩
abbrev cX7_moodWith : ByteArray := prog_9_method_23_code
def yX7_moodWith : MethodName := ⟨RX7, "moodWith", "(III)I"⟩
abbrev cX7_moodNow : ByteArray := prog_9_method_24_code
def yX7_moodNow : MethodName := ⟨RX7, "moodNow", "(I)I"⟩
abbrev cX7_doesBy : ByteArray := prog_9_method_25_code
def yX7_doesBy : MethodName := ⟨RX7, "doesBy", "(I)I"⟩
abbrev cX7_isWished : ByteArray := prog_9_method_26_code
def yX7_isWished : MethodName := ⟨RX7, "isWished", "(II)Z"⟩
abbrev cX7_quarrels : ByteArray := prog_9_method_27_code
def yX7_quarrels : MethodName := ⟨RX7, "quarrels", "(I)I"⟩
abbrev cX7_gloveNow : ByteArray := prog_9_method_28_code
def yX7_gloveNow : MethodName := ⟨RX7, "gloveNow", "(II)I"⟩
abbrev cX7_glove : ByteArray := prog_9_method_29_code
def yX7_glove : MethodName := ⟨RX7, "glove", "(II)I"⟩
abbrev cX7_as : ByteArray := prog_9_method_30_code
def yX7_as : MethodName := ⟨RX7, "as", "(II)I"⟩
abbrev cX7_onHand : ByteArray := prog_9_method_31_code
def yX7_onHand : MethodName := ⟨RX7, "onHand", "(I)I"⟩
abbrev cX7_wearerNow : ByteArray := prog_9_method_32_code
def yX7_wearerNow : MethodName := ⟨RX7, "wearerNow", "(II)I"⟩
abbrev cX7_wearer : ByteArray := prog_9_method_33_code
def yX7_wearer : MethodName := ⟨RX7, "wearer", "(II)I"⟩
abbrev cX7_wear : ByteArray := prog_9_method_34_code
def yX7_wear : MethodName := ⟨RX7, "wear", "(III)I"⟩
abbrev cX7_off : ByteArray := prog_9_method_35_code
def yX7_off : MethodName := ⟨RX7, "off", "(I)I"⟩
abbrev cX7_goBy : ByteArray := prog_9_method_36_code
def yX7_goBy : MethodName := ⟨RX7, "goBy", "()V"⟩
abbrev cX7_hour : ByteArray := prog_9_method_37_code
def yX7_hour : MethodName := ⟨RX7, "hour", "()I"⟩
abbrev cX7_book : ByteArray := prog_9_method_38_code
def yX7_book : MethodName := ⟨RX7, "book", "(II)I"⟩
abbrev cX7_wish : ByteArray := prog_9_method_39_code
def yX7_wish : MethodName := ⟨RX7, "wish", "(III)I"⟩
abbrev cX7_mood : ByteArray := prog_9_method_40_code
def yX7_mood : MethodName := ⟨RX7, "mood", "(II)I"⟩
abbrev cX7_begin : ByteArray := prog_9_method_41_code
def yX7_begin : MethodName := ⟨RX7, "begin", "()V"⟩
abbrev cX7_keepRow : ByteArray := prog_9_method_42_code
def yX7_keepRow : MethodName := ⟨RX7, "keepRow", "(I)V"⟩
abbrev cX7_givenTo : ByteArray := prog_9_method_43_code
def yX7_givenTo : MethodName := ⟨RX7, "givenTo", "(I)I"⟩
abbrev cX7_wishedBy : ByteArray := prog_9_method_44_code
def yX7_wishedBy : MethodName := ⟨RX7, "wishedBy", "()I"⟩
abbrev cX7_given : ByteArray := prog_9_method_45_code
def yX7_given : MethodName := ⟨RX7, "given", "()I"⟩
abbrev cX7_nextGiven : ByteArray := prog_9_method_46_code
def yX7_nextGiven : MethodName := ⟨RX7, "nextGiven", "()Z"⟩
abbrev cX7_dressNow : ByteArray := prog_9_method_47_code
def yX7_dressNow : MethodName := ⟨RX7, "dressNow", "(I)I"⟩
abbrev cX7_dress : ByteArray := prog_9_method_48_code
def yX7_dress : MethodName := ⟨RX7, "dress", "(I)I"⟩
abbrev cX7_boxesAhead : ByteArray := prog_9_method_49_code
def yX7_boxesAhead : MethodName := ⟨RX7, "boxesAhead", "(I)I"⟩
abbrev cX7_areQuiet : ByteArray := prog_9_method_50_code
def yX7_areQuiet : MethodName := ⟨RX7, "areQuiet", "()Z"⟩
abbrev cX7_nextBoxes : ByteArray := prog_9_method_51_code
def yX7_nextBoxes : MethodName := ⟨RX7, "nextBoxes", "()Z"⟩
abbrev cX7_boxesNow : ByteArray := prog_9_method_52_code
def yX7_boxesNow : MethodName := ⟨RX7, "boxesNow", "(I)I"⟩
abbrev cX7_boxes : ByteArray := prog_9_method_53_code
def yX7_boxes : MethodName := ⟨RX7, "boxes", "(I)I"⟩
abbrev cX7_changesNow : ByteArray := prog_9_method_54_code
def yX7_changesNow : MethodName := ⟨RX7, "changesNow", "(II)I"⟩
abbrev cX7_oddsNow : ByteArray := prog_9_method_55_code
def yX7_oddsNow : MethodName := ⟨RX7, "oddsNow", "(IIII)I"⟩
abbrev cX7_odds : ByteArray := prog_9_method_56_code
def yX7_odds : MethodName := ⟨RX7, "odds", "(IIII)I"⟩
abbrev cX7_see : ByteArray := prog_9_method_57_code
def yX7_see : MethodName := ⟨RX7, "see", "(III)I"⟩
abbrev cX7_forget : ByteArray := prog_9_method_58_code
def yX7_forget : MethodName := ⟨RX7, "forget", "()I"⟩
abbrev cX7_marksOf : ByteArray := prog_9_method_59_code
def yX7_marksOf : MethodName := ⟨RX7, "marksOf", "(I)I"⟩
abbrev cX7_worstBy : ByteArray := prog_9_method_60_code
def yX7_worstBy : MethodName := ⟨RX7, "worstBy", "(III)I"⟩
abbrev cX7_feelFor : ByteArray := prog_9_method_61_code
def yX7_feelFor : MethodName := ⟨RX7, "feelFor", "(I)I"⟩
abbrev cX7_draw : ByteArray := prog_9_method_62_code
def yX7_draw : MethodName := ⟨RX7, "draw", "(I)I"⟩
abbrev cX7_butting : ByteArray := prog_9_method_63_code
def yX7_butting : MethodName := ⟨RX7, "butting", "()I"⟩
abbrev cX7_onHands : ByteArray := prog_9_method_64_code
def yX7_onHands : MethodName := ⟨RX7, "onHands", "()I"⟩
abbrev cX7_takeTea : ByteArray := prog_9_method_65_code
def yX7_takeTea : MethodName := ⟨RX7, "takeTea", "()V"⟩
abbrev cX7_teasNow : ByteArray := prog_9_method_66_code
def yX7_teasNow : MethodName := ⟨RX7, "teasNow", "(III)I"⟩
abbrev cX7_teas : ByteArray := prog_9_method_67_code
def yX7_teas : MethodName := ⟨RX7, "teas", "(III)I"⟩
abbrev cX7_image : ByteArray := prog_9_method_68_code
def yX7_image : MethodName := ⟨RX7, "image", "()I"⟩
abbrev cX7_restore : ByteArray := prog_9_method_69_code
def yX7_restore : MethodName := ⟨RX7, "restore", "()I"⟩
abbrev cX7_ofWearers : ByteArray := prog_9_method_70_code
def yX7_ofWearers : MethodName := ⟨RX7, "ofWearers", "(I)I"⟩
abbrev cX7_ofGloves : ByteArray := prog_9_method_71_code
def yX7_ofGloves : MethodName := ⟨RX7, "ofGloves", "(Z)I"⟩
abbrev cX7_howMany : ByteArray := prog_9_method_72_code
def yX7_howMany : MethodName := ⟨RX7, "howMany", "(I)I"⟩
abbrev cX7_count : ByteArray := prog_9_method_73_code
def yX7_count : MethodName := ⟨RX7, "count", "(I)I"⟩
abbrev cX7_mix : ByteArray := prog_9_method_74_code
def yX7_mix : MethodName := ⟨RX7, "mix", "(J)V"⟩
abbrev cX7_mixWearer : ByteArray := prog_9_method_75_code
def yX7_mixWearer : MethodName := ⟨RX7, "mixWearer", "(I)V"⟩
abbrev cX7_digest : ByteArray := prog_9_method_76_code
def yX7_digest : MethodName := ⟨RX7, "digest", "()J"⟩
def RJ6 : String := "java/lang/Integer"
abbrev cJ6_bitCount_0f7a4 : ByteArray := prog_10_method_49_code
def yJ6_bitCount_0f7a4 : MethodName := ⟨RJ6, "bitCount", "(I)I"⟩
def RJ9 : String := "java/lang/Math"
abbrev cJ9_abs_0f7a4 : ByteArray := prog_11_method_59_code
def yJ9_abs_0f7a4 : MethodName := ⟨RJ9, "abs", "(I)I"⟩
abbrev cJ9_max_7cf53 : ByteArray := prog_11_method_65_code
def yJ9_max_7cf53 : MethodName := ⟨RJ9, "max", "(II)I"⟩
abbrev cJ9_min_7cf53 : ByteArray := prog_11_method_69_code
def yJ9_min_7cf53 : MethodName := ⟨RJ9, "min", "(II)I"⟩
def RJ10 : String := "java/lang/System"
def RJ7 : String := "java/util/Arrays"
abbrev cJ7_fill_53178 : ByteArray := prog_13_method_103_code
def yJ7_fill_53178 : MethodName := ⟨RJ7, "fill", "([II)V"⟩
def RL : String := "KidGlovesLaw"
abbrev cL_law : ByteArray := code
end
section
theorem dX0_init_0 : decode cX0_init 0 = .ok (.aload_n 0, 1) := by decide +kernel
theorem dX0_init_1 : decode cX0_init 1 = .ok (.invokespecial 3, 3) := by decide +kernel
theorem dX0_init_4 : decode cX0_init 4 = .ok (.aload_n 0, 1) := by decide +kernel
theorem dX0_init_5 : decode cX0_init 5 = .ok (.bipush 9, 2) := by decide +kernel
theorem dX0_init_7 : decode cX0_init 7 = .ok (.newarray .int, 2) := by decide +kernel
theorem dX0_init_9 : decode cX0_init 9 = .ok (.putfield 9, 3) := by decide +kernel
theorem dX0_init_12 : decode cX0_init 12 = .ok (.return_, 1) := by decide +kernel
theorem dX0_spread_0 : decode cX0_spread 0 = .ok (.aload_n 0, 1) := by decide +kernel
theorem dX0_spread_1 : decode cX0_spread 1 = .ok (.getfield 9, 3) := by decide +kernel
theorem dX0_spread_4 : decode cX0_spread 4 = .ok (.iconst 0, 1) := by decide +kernel
theorem dX0_spread_5 : decode cX0_spread 5 = .ok (.invokestatic 15, 3) := by decide +kernel
theorem dX0_spread_8 : decode cX0_spread 8 = .ok (.aload_n 0, 1) := by decide +kernel
theorem dX0_spread_9 : decode cX0_spread 9 = .ok (.getfield 9, 3) := by decide +kernel
theorem dX0_spread_12 : decode cX0_spread 12 = .ok (.iconst 0, 1) := by decide +kernel
theorem dX0_spread_13 : decode cX0_spread 13 = .ok (.iconst 1, 1) := by decide +kernel
theorem dX0_spread_14 : decode cX0_spread 14 = .ok (.invokestatic 21, 3) := by decide +kernel
theorem dX0_spread_17 : decode cX0_spread 17 = .ok (.aload_n 0, 1) := by decide +kernel
theorem dX0_spread_18 : decode cX0_spread 18 = .ok (.iconst 1, 1) := by decide +kernel
theorem dX0_spread_19 : decode cX0_spread 19 = .ok (.putfield 25, 3) := by decide +kernel
theorem dX0_spread_22 : decode cX0_spread 22 = .ok (.iconst 1, 1) := by decide +kernel
theorem dX0_spread_23 : decode cX0_spread 23 = .ok (.istore_n 3, 1) := by decide +kernel
theorem dX0_spread_24 : decode cX0_spread 24 = .ok (.iload_n 3, 1) := by decide +kernel
theorem dX0_spread_25 : decode cX0_spread 25 = .ok (.iload_n 1, 1) := by decide +kernel
theorem dX0_spread_26 : decode cX0_spread 26 = .ok (.if_icmp .gt 93, 3) := by decide +kernel
theorem dX0_spread_29 : decode cX0_spread 29 = .ok (.aload_n 0, 1) := by decide +kernel
theorem dX0_spread_30 : decode cX0_spread 30 = .ok (.dup, 1) := by decide +kernel
theorem dX0_spread_31 : decode cX0_spread 31 = .ok (.getfield 25, 3) := by decide +kernel
theorem dX0_spread_34 : decode cX0_spread 34 = .ok (.bipush 10, 2) := by decide +kernel
theorem dX0_spread_36 : decode cX0_spread 36 = .ok (.imul, 1) := by decide +kernel
theorem dX0_spread_37 : decode cX0_spread 37 = .ok (.putfield 25, 3) := by decide +kernel
theorem dX0_spread_40 : decode cX0_spread 40 = .ok (.iload_n 3, 1) := by decide +kernel
theorem dX0_spread_41 : decode cX0_spread 41 = .ok (.istore 4, 2) := by decide +kernel
theorem dX0_spread_43 : decode cX0_spread 43 = .ok (.iload 4, 2) := by decide +kernel
theorem dX0_spread_45 : decode cX0_spread 45 = .ok (.iconst 1, 1) := by decide +kernel
theorem dX0_spread_46 : decode cX0_spread 46 = .ok (.if_icmp .lt 46, 3) := by decide +kernel
theorem dX0_spread_49 : decode cX0_spread 49 = .ok (.aload_n 0, 1) := by decide +kernel
theorem dX0_spread_50 : decode cX0_spread 50 = .ok (.getfield 9, 3) := by decide +kernel
theorem dX0_spread_53 : decode cX0_spread 53 = .ok (.iload 4, 2) := by decide +kernel
theorem dX0_spread_55 : decode cX0_spread 55 = .ok (.aload_n 0, 1) := by decide +kernel
theorem dX0_spread_56 : decode cX0_spread 56 = .ok (.getfield 9, 3) := by decide +kernel
theorem dX0_spread_59 : decode cX0_spread 59 = .ok (.iload 4, 2) := by decide +kernel
theorem dX0_spread_61 : decode cX0_spread 61 = .ok (.invokestatic 29, 3) := by decide +kernel
theorem dX0_spread_64 : decode cX0_spread 64 = .ok (.bipush 10, 2) := by decide +kernel
theorem dX0_spread_66 : decode cX0_spread 66 = .ok (.iload_n 2, 1) := by decide +kernel
theorem dX0_spread_67 : decode cX0_spread 67 = .ok (.isub, 1) := by decide +kernel
theorem dX0_spread_68 : decode cX0_spread 68 = .ok (.imul, 1) := by decide +kernel
theorem dX0_spread_69 : decode cX0_spread 69 = .ok (.aload_n 0, 1) := by decide +kernel
theorem dX0_spread_70 : decode cX0_spread 70 = .ok (.getfield 9, 3) := by decide +kernel
theorem dX0_spread_73 : decode cX0_spread 73 = .ok (.iload 4, 2) := by decide +kernel
theorem dX0_spread_75 : decode cX0_spread 75 = .ok (.iconst 1, 1) := by decide +kernel
theorem dX0_spread_76 : decode cX0_spread 76 = .ok (.isub, 1) := by decide +kernel
theorem dX0_spread_77 : decode cX0_spread 77 = .ok (.invokestatic 29, 3) := by decide +kernel
theorem dX0_spread_80 : decode cX0_spread 80 = .ok (.iload_n 2, 1) := by decide +kernel
theorem dX0_spread_81 : decode cX0_spread 81 = .ok (.imul, 1) := by decide +kernel
theorem dX0_spread_82 : decode cX0_spread 82 = .ok (.iadd, 1) := by decide +kernel
theorem dX0_spread_83 : decode cX0_spread 83 = .ok (.invokestatic 21, 3) := by decide +kernel
theorem dX0_spread_86 : decode cX0_spread 86 = .ok (.iinc 4 (-1), 3) := by decide +kernel
theorem dX0_spread_89 : decode cX0_spread 89 = .ok (.goto (-46), 3) := by decide +kernel
theorem dX0_spread_92 : decode cX0_spread 92 = .ok (.aload_n 0, 1) := by decide +kernel
theorem dX0_spread_93 : decode cX0_spread 93 = .ok (.getfield 9, 3) := by decide +kernel
theorem dX0_spread_96 : decode cX0_spread 96 = .ok (.iconst 0, 1) := by decide +kernel
theorem dX0_spread_97 : decode cX0_spread 97 = .ok (.aload_n 0, 1) := by decide +kernel
theorem dX0_spread_98 : decode cX0_spread 98 = .ok (.getfield 9, 3) := by decide +kernel
theorem dX0_spread_101 : decode cX0_spread 101 = .ok (.iconst 0, 1) := by decide +kernel
theorem dX0_spread_102 : decode cX0_spread 102 = .ok (.invokestatic 29, 3) := by decide +kernel
theorem dX0_spread_105 : decode cX0_spread 105 = .ok (.bipush 10, 2) := by decide +kernel
theorem dX0_spread_107 : decode cX0_spread 107 = .ok (.iload_n 2, 1) := by decide +kernel
theorem dX0_spread_108 : decode cX0_spread 108 = .ok (.isub, 1) := by decide +kernel
theorem dX0_spread_109 : decode cX0_spread 109 = .ok (.imul, 1) := by decide +kernel
theorem dX0_spread_110 : decode cX0_spread 110 = .ok (.invokestatic 21, 3) := by decide +kernel
theorem dX0_spread_113 : decode cX0_spread 113 = .ok (.iinc 3 1, 3) := by decide +kernel
theorem dX0_spread_116 : decode cX0_spread 116 = .ok (.goto (-92), 3) := by decide +kernel
theorem dX0_spread_119 : decode cX0_spread 119 = .ok (.return_, 1) := by decide +kernel
theorem dX1_init_0 : decode cX1_init 0 = .ok (.aload_n 0, 1) := by decide +kernel
theorem dX1_init_1 : decode cX1_init 1 = .ok (.invokespecial 1, 3) := by decide +kernel
theorem dX1_init_4 : decode cX1_init 4 = .ok (.return_, 1) := by decide +kernel
theorem dX1_next_0 : decode cX1_next 0 = .ok (.aload_n 0, 1) := by decide +kernel
theorem dX1_next_1 : decode cX1_next 1 = .ok (.ldc2_w 7, 3) := by decide +kernel
theorem dX1_next_4 : decode cX1_next 4 = .ok (.aload_n 0, 1) := by decide +kernel
theorem dX1_next_5 : decode cX1_next 5 = .ok (.getfield 9, 3) := by decide +kernel
theorem dX1_next_8 : decode cX1_next 8 = .ok (.i2l, 1) := by decide +kernel
theorem dX1_next_9 : decode cX1_next 9 = .ok (.lmul, 1) := by decide +kernel
theorem dX1_next_10 : decode cX1_next 10 = .ok (.ldc2_w 15, 3) := by decide +kernel
theorem dX1_next_13 : decode cX1_next 13 = .ok (.ladd, 1) := by decide +kernel
theorem dX1_next_14 : decode cX1_next 14 = .ok (.ldc2_w 17, 3) := by decide +kernel
theorem dX1_next_17 : decode cX1_next 17 = .ok (.lrem, 1) := by decide +kernel
theorem dX1_next_18 : decode cX1_next 18 = .ok (.l2i, 1) := by decide +kernel
theorem dX1_next_19 : decode cX1_next 19 = .ok (.putfield 9, 3) := by decide +kernel
theorem dX1_next_22 : decode cX1_next 22 = .ok (.iload_n 1, 1) := by decide +kernel
theorem dX1_next_23 : decode cX1_next 23 = .ok (.ifCond .le 15, 3) := by decide +kernel
theorem dX1_next_26 : decode cX1_next 26 = .ok (.aload_n 0, 1) := by decide +kernel
theorem dX1_next_27 : decode cX1_next 27 = .ok (.getfield 9, 3) := by decide +kernel
theorem dX1_next_30 : decode cX1_next 30 = .ok (.ldc 19, 2) := by decide +kernel
theorem dX1_next_32 : decode cX1_next 32 = .ok (.idiv, 1) := by decide +kernel
theorem dX1_next_33 : decode cX1_next 33 = .ok (.iload_n 1, 1) := by decide +kernel
theorem dX1_next_34 : decode cX1_next 34 = .ok (.irem, 1) := by decide +kernel
theorem dX1_next_35 : decode cX1_next 35 = .ok (.goto 4, 3) := by decide +kernel
theorem dX1_next_38 : decode cX1_next 38 = .ok (.iconst 0, 1) := by decide +kernel
theorem dX1_next_39 : decode cX1_next 39 = .ok (.ireturn, 1) := by decide +kernel
theorem dX2_init_0 : decode cX2_init 0 = .ok (.aload_n 0, 1) := by decide +kernel
theorem dX2_init_1 : decode cX2_init 1 = .ok (.invokespecial 3, 3) := by decide +kernel
theorem dX2_init_4 : decode cX2_init 4 = .ok (.aload_n 0, 1) := by decide +kernel
theorem dX2_init_5 : decode cX2_init 5 = .ok (.sipush 192, 3) := by decide +kernel
theorem dX2_init_8 : decode cX2_init 8 = .ok (.newarray .int, 2) := by decide +kernel
theorem dX2_init_10 : decode cX2_init 10 = .ok (.putfield 9, 3) := by decide +kernel
theorem dX2_init_13 : decode cX2_init 13 = .ok (.aload_n 0, 1) := by decide +kernel
theorem dX2_init_14 : decode cX2_init 14 = .ok (.iconst 3, 1) := by decide +kernel
theorem dX2_init_15 : decode cX2_init 15 = .ok (.newarray .int, 2) := by decide +kernel
theorem dX2_init_17 : decode cX2_init 17 = .ok (.putfield 15, 3) := by decide +kernel
theorem dX2_init_20 : decode cX2_init 20 = .ok (.aload_n 0, 1) := by decide +kernel
theorem dX2_init_21 : decode cX2_init 21 = .ok (.bipush 6, 2) := by decide +kernel
theorem dX2_init_23 : decode cX2_init 23 = .ok (.newarray .int, 2) := by decide +kernel
theorem dX2_init_25 : decode cX2_init 25 = .ok (.putfield 18, 3) := by decide +kernel
theorem dX2_init_28 : decode cX2_init 28 = .ok (.aload_n 0, 1) := by decide +kernel
theorem dX2_init_29 : decode cX2_init 29 = .ok (.bipush 6, 2) := by decide +kernel
theorem dX2_init_31 : decode cX2_init 31 = .ok (.newarray .int, 2) := by decide +kernel
theorem dX2_init_33 : decode cX2_init 33 = .ok (.putfield 21, 3) := by decide +kernel
theorem dX2_init_36 : decode cX2_init 36 = .ok (.return_, 1) := by decide +kernel
theorem dX2_find_0 : decode cX2_find 0 = .ok (.aload_n 0, 1) := by decide +kernel
theorem dX2_find_1 : decode cX2_find 1 = .ok (.getfield 15, 3) := by decide +kernel
theorem dX2_find_4 : decode cX2_find 4 = .ok (.iconst 0, 1) := by decide +kernel
theorem dX2_find_5 : decode cX2_find 5 = .ok (.invokestatic 24, 3) := by decide +kernel
theorem dX2_find_8 : decode cX2_find 8 = .ok (.aload_n 0, 1) := by decide +kernel
theorem dX2_find_9 : decode cX2_find 9 = .ok (.getfield 18, 3) := by decide +kernel
theorem dX2_find_12 : decode cX2_find 12 = .ok (.iconst (-1), 1) := by decide +kernel
theorem dX2_find_13 : decode cX2_find 13 = .ok (.invokestatic 24, 3) := by decide +kernel
theorem dX2_find_16 : decode cX2_find 16 = .ok (.aload_n 0, 1) := by decide +kernel
theorem dX2_find_17 : decode cX2_find 17 = .ok (.iconst (-1), 1) := by decide +kernel
theorem dX2_find_18 : decode cX2_find 18 = .ok (.putfield 30, 3) := by decide +kernel
theorem dX2_find_21 : decode cX2_find 21 = .ok (.aload_n 0, 1) := by decide +kernel
theorem dX2_find_22 : decode cX2_find 22 = .ok (.iconst 0, 1) := by decide +kernel
theorem dX2_find_23 : decode cX2_find 23 = .ok (.putfield 34, 3) := by decide +kernel
theorem dX2_find_26 : decode cX2_find 26 = .ok (.aload_n 0, 1) := by decide +kernel
theorem dX2_find_27 : decode cX2_find 27 = .ok (.aload_n 1, 1) := by decide +kernel
theorem dX2_find_28 : decode cX2_find 28 = .ok (.invokevirtual 37, 3) := by decide +kernel
theorem dX2_find_31 : decode cX2_find 31 = .ok (.aload_n 0, 1) := by decide +kernel
theorem dX2_find_32 : decode cX2_find 32 = .ok (.aload_n 1, 1) := by decide +kernel
theorem dX2_find_33 : decode cX2_find 33 = .ok (.iconst 0, 1) := by decide +kernel
theorem dX2_find_34 : decode cX2_find 34 = .ok (.iconst 0, 1) := by decide +kernel
theorem dX2_find_35 : decode cX2_find 35 = .ok (.invokestatic 41, 3) := by decide +kernel
theorem dX2_find_38 : decode cX2_find 38 = .ok (.return_, 1) := by decide +kernel
theorem dX2_judgeSets_0 : decode cX2_judgeSets 0 = .ok (.iconst 0, 1) := by decide +kernel
theorem dX2_judgeSets_1 : decode cX2_judgeSets 1 = .ok (.istore_n 2, 1) := by decide +kernel
theorem dX2_judgeSets_2 : decode cX2_judgeSets 2 = .ok (.iload_n 2, 1) := by decide +kernel
theorem dX2_judgeSets_3 : decode cX2_judgeSets 3 = .ok (.aload_n 1, 1) := by decide +kernel
theorem dX2_judgeSets_4 : decode cX2_judgeSets 4 = .ok (.getfield 45, 3) := by decide +kernel
theorem dX2_judgeSets_7 : decode cX2_judgeSets 7 = .ok (.if_icmp .ge 72, 3) := by decide +kernel
theorem dX2_judgeSets_10 : decode cX2_judgeSets 10 = .ok (.iconst 0, 1) := by decide +kernel
theorem dX2_judgeSets_11 : decode cX2_judgeSets 11 = .ok (.istore_n 3, 1) := by decide +kernel
theorem dX2_judgeSets_12 : decode cX2_judgeSets 12 = .ok (.iload_n 3, 1) := by decide +kernel
theorem dX2_judgeSets_13 : decode cX2_judgeSets 13 = .ok (.iconst 1, 1) := by decide +kernel
theorem dX2_judgeSets_14 : decode cX2_judgeSets 14 = .ok (.aload_n 1, 1) := by decide +kernel
theorem dX2_judgeSets_15 : decode cX2_judgeSets 15 = .ok (.getfield 50, 3) := by decide +kernel
theorem dX2_judgeSets_18 : decode cX2_judgeSets 18 = .ok (.ishl, 1) := by decide +kernel
theorem dX2_judgeSets_19 : decode cX2_judgeSets 19 = .ok (.if_icmp .ge 54, 3) := by decide +kernel
theorem dX2_judgeSets_22 : decode cX2_judgeSets 22 = .ok (.iload_n 3, 1) := by decide +kernel
theorem dX2_judgeSets_23 : decode cX2_judgeSets 23 = .ok (.invokestatic 53, 3) := by decide +kernel
theorem dX2_judgeSets_26 : decode cX2_judgeSets 26 = .ok (.iconst 2, 1) := by decide +kernel
theorem dX2_judgeSets_27 : decode cX2_judgeSets 27 = .ok (.if_icmp .gt 40, 3) := by decide +kernel
theorem dX2_judgeSets_30 : decode cX2_judgeSets 30 = .ok (.aload_n 1, 1) := by decide +kernel
theorem dX2_judgeSets_31 : decode cX2_judgeSets 31 = .ok (.iload_n 2, 1) := by decide +kernel
theorem dX2_judgeSets_32 : decode cX2_judgeSets 32 = .ok (.aload_n 1, 1) := by decide +kernel
theorem dX2_judgeSets_33 : decode cX2_judgeSets 33 = .ok (.iload_n 2, 1) := by decide +kernel
theorem dX2_judgeSets_34 : decode cX2_judgeSets 34 = .ok (.iload_n 3, 1) := by decide +kernel
theorem dX2_judgeSets_35 : decode cX2_judgeSets 35 = .ok (.iconst 0, 1) := by decide +kernel
theorem dX2_judgeSets_36 : decode cX2_judgeSets 36 = .ok (.invokevirtual 59, 3) := by decide +kernel
theorem dX2_judgeSets_39 : decode cX2_judgeSets 39 = .ok (.invokevirtual 63, 3) := by decide +kernel
theorem dX2_judgeSets_42 : decode cX2_judgeSets 42 = .ok (.istore 4, 2) := by decide +kernel
theorem dX2_judgeSets_44 : decode cX2_judgeSets 44 = .ok (.aload_n 0, 1) := by decide +kernel
theorem dX2_judgeSets_45 : decode cX2_judgeSets 45 = .ok (.getfield 9, 3) := by decide +kernel
theorem dX2_judgeSets_48 : decode cX2_judgeSets 48 = .ok (.iload_n 2, 1) := by decide +kernel
theorem dX2_judgeSets_49 : decode cX2_judgeSets 49 = .ok (.bipush 64, 2) := by decide +kernel
theorem dX2_judgeSets_51 : decode cX2_judgeSets 51 = .ok (.imul, 1) := by decide +kernel
theorem dX2_judgeSets_52 : decode cX2_judgeSets 52 = .ok (.iload_n 3, 1) := by decide +kernel
theorem dX2_judgeSets_53 : decode cX2_judgeSets 53 = .ok (.iadd, 1) := by decide +kernel
theorem dX2_judgeSets_54 : decode cX2_judgeSets 54 = .ok (.iload 4, 2) := by decide +kernel
theorem dX2_judgeSets_56 : decode cX2_judgeSets 56 = .ok (.ifCond .eq 7, 3) := by decide +kernel
theorem dX2_judgeSets_59 : decode cX2_judgeSets 59 = .ok (.iconst 1, 1) := by decide +kernel
theorem dX2_judgeSets_60 : decode cX2_judgeSets 60 = .ok (.goto 4, 3) := by decide +kernel
theorem dX2_judgeSets_63 : decode cX2_judgeSets 63 = .ok (.iconst 0, 1) := by decide +kernel
theorem dX2_judgeSets_64 : decode cX2_judgeSets 64 = .ok (.invokestatic 67, 3) := by decide +kernel
theorem dX2_judgeSets_67 : decode cX2_judgeSets 67 = .ok (.iinc 3 1, 3) := by decide +kernel
theorem dX2_judgeSets_70 : decode cX2_judgeSets 70 = .ok (.goto (-58), 3) := by decide +kernel
theorem dX2_judgeSets_73 : decode cX2_judgeSets 73 = .ok (.iinc 2 1, 3) := by decide +kernel
theorem dX2_judgeSets_76 : decode cX2_judgeSets 76 = .ok (.goto (-74), 3) := by decide +kernel
theorem dX2_judgeSets_79 : decode cX2_judgeSets 79 = .ok (.return_, 1) := by decide +kernel
theorem dX2_give_0 : decode cX2_give 0 = .ok (.iload_n 2, 1) := by decide +kernel
theorem dX2_give_1 : decode cX2_give 1 = .ok (.aload_n 1, 1) := by decide +kernel
theorem dX2_give_2 : decode cX2_give 2 = .ok (.getfield 50, 3) := by decide +kernel
theorem dX2_give_5 : decode cX2_give 5 = .ok (.if_icmp .ge 9, 3) := by decide +kernel
theorem dX2_give_8 : decode cX2_give 8 = .ok (.iload_n 2, 1) := by decide +kernel
theorem dX2_give_9 : decode cX2_give 9 = .ok (.bipush 6, 2) := by decide +kernel
theorem dX2_give_11 : decode cX2_give 11 = .ok (.if_icmp .lt 13, 3) := by decide +kernel
theorem dX2_give_14 : decode cX2_give 14 = .ok (.aload_n 0, 1) := by decide +kernel
theorem dX2_give_15 : decode cX2_give 15 = .ok (.aload_n 1, 1) := by decide +kernel
theorem dX2_give_16 : decode cX2_give 16 = .ok (.getfield 45, 3) := by decide +kernel
theorem dX2_give_19 : decode cX2_give 19 = .ok (.iload_n 3, 1) := by decide +kernel
theorem dX2_give_20 : decode cX2_give 20 = .ok (.invokevirtual 71, 3) := by decide +kernel
theorem dX2_give_23 : decode cX2_give 23 = .ok (.return_, 1) := by decide +kernel
theorem dX2_give_24 : decode cX2_give 24 = .ok (.aload_n 0, 1) := by decide +kernel
theorem dX2_give_25 : decode cX2_give 25 = .ok (.getfield 18, 3) := by decide +kernel
theorem dX2_give_28 : decode cX2_give 28 = .ok (.iload_n 2, 1) := by decide +kernel
theorem dX2_give_29 : decode cX2_give 29 = .ok (.iconst (-1), 1) := by decide +kernel
theorem dX2_give_30 : decode cX2_give 30 = .ok (.invokestatic 67, 3) := by decide +kernel
theorem dX2_give_33 : decode cX2_give 33 = .ok (.aload_n 0, 1) := by decide +kernel
theorem dX2_give_34 : decode cX2_give 34 = .ok (.aload_n 1, 1) := by decide +kernel
theorem dX2_give_35 : decode cX2_give 35 = .ok (.iload_n 2, 1) := by decide +kernel
theorem dX2_give_36 : decode cX2_give 36 = .ok (.iconst 1, 1) := by decide +kernel
theorem dX2_give_37 : decode cX2_give 37 = .ok (.iadd, 1) := by decide +kernel
theorem dX2_give_38 : decode cX2_give 38 = .ok (.iload_n 3, 1) := by decide +kernel
theorem dX2_give_39 : decode cX2_give 39 = .ok (.invokestatic 41, 3) := by decide +kernel
theorem dX2_give_42 : decode cX2_give 42 = .ok (.iconst 0, 1) := by decide +kernel
theorem dX2_give_43 : decode cX2_give 43 = .ok (.istore 4, 2) := by decide +kernel
theorem dX2_give_45 : decode cX2_give 45 = .ok (.iload 4, 2) := by decide +kernel
theorem dX2_give_47 : decode cX2_give 47 = .ok (.aload_n 1, 1) := by decide +kernel
theorem dX2_give_48 : decode cX2_give 48 = .ok (.getfield 45, 3) := by decide +kernel
theorem dX2_give_51 : decode cX2_give 51 = .ok (.if_icmp .ge 76, 3) := by decide +kernel
theorem dX2_give_54 : decode cX2_give 54 = .ok (.aload_n 0, 1) := by decide +kernel
theorem dX2_give_55 : decode cX2_give 55 = .ok (.getfield 15, 3) := by decide +kernel
theorem dX2_give_58 : decode cX2_give 58 = .ok (.iload 4, 2) := by decide +kernel
theorem dX2_give_60 : decode cX2_give 60 = .ok (.invokestatic 75, 3) := by decide +kernel
theorem dX2_give_63 : decode cX2_give 63 = .ok (.istore 5, 2) := by decide +kernel
theorem dX2_give_65 : decode cX2_give 65 = .ok (.iload 5, 2) := by decide +kernel
theorem dX2_give_67 : decode cX2_give 67 = .ok (.invokestatic 53, 3) := by decide +kernel
theorem dX2_give_70 : decode cX2_give 70 = .ok (.iconst 2, 1) := by decide +kernel
theorem dX2_give_71 : decode cX2_give 71 = .ok (.if_icmp .ge 50, 3) := by decide +kernel
theorem dX2_give_74 : decode cX2_give 74 = .ok (.aload_n 0, 1) := by decide +kernel
theorem dX2_give_75 : decode cX2_give 75 = .ok (.getfield 18, 3) := by decide +kernel
theorem dX2_give_78 : decode cX2_give 78 = .ok (.iload_n 2, 1) := by decide +kernel
theorem dX2_give_79 : decode cX2_give 79 = .ok (.iload 4, 2) := by decide +kernel
theorem dX2_give_81 : decode cX2_give 81 = .ok (.invokestatic 67, 3) := by decide +kernel
theorem dX2_give_84 : decode cX2_give 84 = .ok (.aload_n 0, 1) := by decide +kernel
theorem dX2_give_85 : decode cX2_give 85 = .ok (.getfield 15, 3) := by decide +kernel
theorem dX2_give_88 : decode cX2_give 88 = .ok (.iload 4, 2) := by decide +kernel
theorem dX2_give_90 : decode cX2_give 90 = .ok (.iload 5, 2) := by decide +kernel
theorem dX2_give_92 : decode cX2_give 92 = .ok (.iconst 1, 1) := by decide +kernel
theorem dX2_give_93 : decode cX2_give 93 = .ok (.iload_n 2, 1) := by decide +kernel
theorem dX2_give_94 : decode cX2_give 94 = .ok (.ishl, 1) := by decide +kernel
theorem dX2_give_95 : decode cX2_give 95 = .ok (.ior, 1) := by decide +kernel
theorem dX2_give_96 : decode cX2_give 96 = .ok (.invokestatic 67, 3) := by decide +kernel
theorem dX2_give_99 : decode cX2_give 99 = .ok (.aload_n 0, 1) := by decide +kernel
theorem dX2_give_100 : decode cX2_give 100 = .ok (.aload_n 1, 1) := by decide +kernel
theorem dX2_give_101 : decode cX2_give 101 = .ok (.iload_n 2, 1) := by decide +kernel
theorem dX2_give_102 : decode cX2_give 102 = .ok (.iconst 1, 1) := by decide +kernel
theorem dX2_give_103 : decode cX2_give 103 = .ok (.iadd, 1) := by decide +kernel
theorem dX2_give_104 : decode cX2_give 104 = .ok (.iload_n 3, 1) := by decide +kernel
theorem dX2_give_105 : decode cX2_give 105 = .ok (.iconst 1, 1) := by decide +kernel
theorem dX2_give_106 : decode cX2_give 106 = .ok (.iadd, 1) := by decide +kernel
theorem dX2_give_107 : decode cX2_give 107 = .ok (.invokestatic 41, 3) := by decide +kernel
theorem dX2_give_110 : decode cX2_give 110 = .ok (.aload_n 0, 1) := by decide +kernel
theorem dX2_give_111 : decode cX2_give 111 = .ok (.getfield 15, 3) := by decide +kernel
theorem dX2_give_114 : decode cX2_give 114 = .ok (.iload 4, 2) := by decide +kernel
theorem dX2_give_116 : decode cX2_give 116 = .ok (.iload 5, 2) := by decide +kernel
theorem dX2_give_118 : decode cX2_give 118 = .ok (.invokestatic 67, 3) := by decide +kernel
theorem dX2_give_121 : decode cX2_give 121 = .ok (.iinc 4 1, 3) := by decide +kernel
theorem dX2_give_124 : decode cX2_give 124 = .ok (.goto (-79), 3) := by decide +kernel
theorem dX2_give_127 : decode cX2_give 127 = .ok (.return_, 1) := by decide +kernel
theorem dX2_keepIfBetter_0 : decode cX2_keepIfBetter 0 = .ok (.iconst 0, 1) := by decide +kernel
theorem dX2_keepIfBetter_1 : decode cX2_keepIfBetter 1 = .ok (.istore_n 3, 1) := by decide +kernel
theorem dX2_keepIfBetter_2 : decode cX2_keepIfBetter 2 = .ok (.iconst 0, 1) := by decide +kernel
theorem dX2_keepIfBetter_3 : decode cX2_keepIfBetter 3 = .ok (.istore 4, 2) := by decide +kernel
theorem dX2_keepIfBetter_5 : decode cX2_keepIfBetter 5 = .ok (.iload 4, 2) := by decide +kernel
theorem dX2_keepIfBetter_7 : decode cX2_keepIfBetter 7 = .ok (.iload_n 1, 1) := by decide +kernel
theorem dX2_keepIfBetter_8 : decode cX2_keepIfBetter 8 = .ok (.if_icmp .ge 34, 3) := by decide +kernel
theorem dX2_keepIfBetter_11 : decode cX2_keepIfBetter 11 = .ok (.iload_n 3, 1) := by decide +kernel
theorem dX2_keepIfBetter_12 : decode cX2_keepIfBetter 12 = .ok (.aload_n 0, 1) := by decide +kernel
theorem dX2_keepIfBetter_13 : decode cX2_keepIfBetter 13 = .ok (.getfield 9, 3) := by decide +kernel
theorem dX2_keepIfBetter_16 : decode cX2_keepIfBetter 16 = .ok (.iload 4, 2) := by decide +kernel
theorem dX2_keepIfBetter_18 : decode cX2_keepIfBetter 18 = .ok (.bipush 64, 2) := by decide +kernel
theorem dX2_keepIfBetter_20 : decode cX2_keepIfBetter 20 = .ok (.imul, 1) := by decide +kernel
theorem dX2_keepIfBetter_21 : decode cX2_keepIfBetter 21 = .ok (.aload_n 0, 1) := by decide +kernel
theorem dX2_keepIfBetter_22 : decode cX2_keepIfBetter 22 = .ok (.getfield 15, 3) := by decide +kernel
theorem dX2_keepIfBetter_25 : decode cX2_keepIfBetter 25 = .ok (.iload 4, 2) := by decide +kernel
theorem dX2_keepIfBetter_27 : decode cX2_keepIfBetter 27 = .ok (.invokestatic 75, 3) := by decide +kernel
theorem dX2_keepIfBetter_30 : decode cX2_keepIfBetter 30 = .ok (.iadd, 1) := by decide +kernel
theorem dX2_keepIfBetter_31 : decode cX2_keepIfBetter 31 = .ok (.invokestatic 75, 3) := by decide +kernel
theorem dX2_keepIfBetter_34 : decode cX2_keepIfBetter 34 = .ok (.iadd, 1) := by decide +kernel
theorem dX2_keepIfBetter_35 : decode cX2_keepIfBetter 35 = .ok (.istore_n 3, 1) := by decide +kernel
theorem dX2_keepIfBetter_36 : decode cX2_keepIfBetter 36 = .ok (.iinc 4 1, 3) := by decide +kernel
theorem dX2_keepIfBetter_39 : decode cX2_keepIfBetter 39 = .ok (.goto (-34), 3) := by decide +kernel
theorem dX2_keepIfBetter_42 : decode cX2_keepIfBetter 42 = .ok (.iload_n 3, 1) := by decide +kernel
theorem dX2_keepIfBetter_43 : decode cX2_keepIfBetter 43 = .ok (.aload_n 0, 1) := by decide +kernel
theorem dX2_keepIfBetter_44 : decode cX2_keepIfBetter 44 = .ok (.getfield 30, 3) := by decide +kernel
theorem dX2_keepIfBetter_47 : decode cX2_keepIfBetter 47 = .ok (.if_icmp .gt 19, 3) := by decide +kernel
theorem dX2_keepIfBetter_50 : decode cX2_keepIfBetter 50 = .ok (.iload_n 3, 1) := by decide +kernel
theorem dX2_keepIfBetter_51 : decode cX2_keepIfBetter 51 = .ok (.aload_n 0, 1) := by decide +kernel
theorem dX2_keepIfBetter_52 : decode cX2_keepIfBetter 52 = .ok (.getfield 30, 3) := by decide +kernel
theorem dX2_keepIfBetter_55 : decode cX2_keepIfBetter 55 = .ok (.if_icmp .ne 32, 3) := by decide +kernel
theorem dX2_keepIfBetter_58 : decode cX2_keepIfBetter 58 = .ok (.iload_n 2, 1) := by decide +kernel
theorem dX2_keepIfBetter_59 : decode cX2_keepIfBetter 59 = .ok (.aload_n 0, 1) := by decide +kernel
theorem dX2_keepIfBetter_60 : decode cX2_keepIfBetter 60 = .ok (.getfield 34, 3) := by decide +kernel
theorem dX2_keepIfBetter_63 : decode cX2_keepIfBetter 63 = .ok (.if_icmp .ge 24, 3) := by decide +kernel
theorem dX2_keepIfBetter_66 : decode cX2_keepIfBetter 66 = .ok (.aload_n 0, 1) := by decide +kernel
theorem dX2_keepIfBetter_67 : decode cX2_keepIfBetter 67 = .ok (.iload_n 3, 1) := by decide +kernel
theorem dX2_keepIfBetter_68 : decode cX2_keepIfBetter 68 = .ok (.putfield 30, 3) := by decide +kernel
theorem dX2_keepIfBetter_71 : decode cX2_keepIfBetter 71 = .ok (.aload_n 0, 1) := by decide +kernel
theorem dX2_keepIfBetter_72 : decode cX2_keepIfBetter 72 = .ok (.iload_n 2, 1) := by decide +kernel
theorem dX2_keepIfBetter_73 : decode cX2_keepIfBetter 73 = .ok (.putfield 34, 3) := by decide +kernel
theorem dX2_keepIfBetter_76 : decode cX2_keepIfBetter 76 = .ok (.aload_n 0, 1) := by decide +kernel
theorem dX2_keepIfBetter_77 : decode cX2_keepIfBetter 77 = .ok (.getfield 18, 3) := by decide +kernel
theorem dX2_keepIfBetter_80 : decode cX2_keepIfBetter 80 = .ok (.aload_n 0, 1) := by decide +kernel
theorem dX2_keepIfBetter_81 : decode cX2_keepIfBetter 81 = .ok (.getfield 21, 3) := by decide +kernel
theorem dX2_keepIfBetter_84 : decode cX2_keepIfBetter 84 = .ok (.invokestatic 79, 3) := by decide +kernel
theorem dX2_keepIfBetter_87 : decode cX2_keepIfBetter 87 = .ok (.return_, 1) := by decide +kernel
theorem dX3_init_0 : decode cX3_init 0 = .ok (.aload_n 0, 1) := by decide +kernel
theorem dX3_init_1 : decode cX3_init 1 = .ok (.invokespecial 3, 3) := by decide +kernel
theorem dX3_init_4 : decode cX3_init 4 = .ok (.aload_n 0, 1) := by decide +kernel
theorem dX3_init_5 : decode cX3_init 5 = .ok (.bipush 6, 2) := by decide +kernel
theorem dX3_init_7 : decode cX3_init 7 = .ok (.newarray .int, 2) := by decide +kernel
theorem dX3_init_9 : decode cX3_init 9 = .ok (.putfield 9, 3) := by decide +kernel
theorem dX3_init_12 : decode cX3_init 12 = .ok (.aload_n 0, 1) := by decide +kernel
theorem dX3_init_13 : decode cX3_init 13 = .ok (.bipush 6, 2) := by decide +kernel
theorem dX3_init_15 : decode cX3_init 15 = .ok (.newarray .int, 2) := by decide +kernel
theorem dX3_init_17 : decode cX3_init 17 = .ok (.putfield 15, 3) := by decide +kernel
theorem dX3_init_20 : decode cX3_init 20 = .ok (.aload_n 0, 1) := by decide +kernel
theorem dX3_init_21 : decode cX3_init 21 = .ok (.bipush 6, 2) := by decide +kernel
theorem dX3_init_23 : decode cX3_init 23 = .ok (.newarray .int, 2) := by decide +kernel
theorem dX3_init_25 : decode cX3_init 25 = .ok (.putfield 18, 3) := by decide +kernel
theorem dX3_init_28 : decode cX3_init 28 = .ok (.aload_n 0, 1) := by decide +kernel
theorem dX3_init_29 : decode cX3_init 29 = .ok (.bipush 6, 2) := by decide +kernel
theorem dX3_init_31 : decode cX3_init 31 = .ok (.newarray .int, 2) := by decide +kernel
theorem dX3_init_33 : decode cX3_init 33 = .ok (.putfield 21, 3) := by decide +kernel
theorem dX3_init_36 : decode cX3_init 36 = .ok (.return_, 1) := by decide +kernel
theorem dX3_find_0 : decode cX3_find 0 = .ok (.aload_n 0, 1) := by decide +kernel
theorem dX3_find_1 : decode cX3_find 1 = .ok (.getfield 15, 3) := by decide +kernel
theorem dX3_find_4 : decode cX3_find 4 = .ok (.iconst 0, 1) := by decide +kernel
theorem dX3_find_5 : decode cX3_find 5 = .ok (.invokestatic 24, 3) := by decide +kernel
theorem dX3_find_8 : decode cX3_find 8 = .ok (.aload_n 0, 1) := by decide +kernel
theorem dX3_find_9 : decode cX3_find 9 = .ok (.getfield 18, 3) := by decide +kernel
theorem dX3_find_12 : decode cX3_find 12 = .ok (.iconst (-1), 1) := by decide +kernel
theorem dX3_find_13 : decode cX3_find 13 = .ok (.invokestatic 24, 3) := by decide +kernel
theorem dX3_find_16 : decode cX3_find 16 = .ok (.aload_n 0, 1) := by decide +kernel
theorem dX3_find_17 : decode cX3_find 17 = .ok (.bipush 7, 2) := by decide +kernel
theorem dX3_find_19 : decode cX3_find 19 = .ok (.putfield 30, 3) := by decide +kernel
theorem dX3_find_22 : decode cX3_find 22 = .ok (.iconst 0, 1) := by decide +kernel
theorem dX3_find_23 : decode cX3_find 23 = .ok (.istore_n 2, 1) := by decide +kernel
theorem dX3_find_24 : decode cX3_find 24 = .ok (.iload_n 2, 1) := by decide +kernel
theorem dX3_find_25 : decode cX3_find 25 = .ok (.aload_n 1, 1) := by decide +kernel
theorem dX3_find_26 : decode cX3_find 26 = .ok (.getfield 34, 3) := by decide +kernel
theorem dX3_find_29 : decode cX3_find 29 = .ok (.if_icmp .ge 22, 3) := by decide +kernel
theorem dX3_find_32 : decode cX3_find 32 = .ok (.aload_n 0, 1) := by decide +kernel
theorem dX3_find_33 : decode cX3_find 33 = .ok (.getfield 9, 3) := by decide +kernel
theorem dX3_find_36 : decode cX3_find 36 = .ok (.iload_n 2, 1) := by decide +kernel
theorem dX3_find_37 : decode cX3_find 37 = .ok (.aload_n 1, 1) := by decide +kernel
theorem dX3_find_38 : decode cX3_find 38 = .ok (.iload_n 2, 1) := by decide +kernel
theorem dX3_find_39 : decode cX3_find 39 = .ok (.invokevirtual 39, 3) := by decide +kernel
theorem dX3_find_42 : decode cX3_find 42 = .ok (.invokestatic 42, 3) := by decide +kernel
theorem dX3_find_45 : decode cX3_find 45 = .ok (.iinc 2 1, 3) := by decide +kernel
theorem dX3_find_48 : decode cX3_find 48 = .ok (.goto (-24), 3) := by decide +kernel
theorem dX3_find_51 : decode cX3_find 51 = .ok (.aload_n 0, 1) := by decide +kernel
theorem dX3_find_52 : decode cX3_find 52 = .ok (.aload_n 1, 1) := by decide +kernel
theorem dX3_find_53 : decode cX3_find 53 = .ok (.getfield 34, 3) := by decide +kernel
theorem dX3_find_56 : decode cX3_find 56 = .ok (.iconst 0, 1) := by decide +kernel
theorem dX3_find_57 : decode cX3_find 57 = .ok (.iconst 0, 1) := by decide +kernel
theorem dX3_find_58 : decode cX3_find 58 = .ok (.invokestatic 46, 3) := by decide +kernel
theorem dX3_find_61 : decode cX3_find 61 = .ok (.return_, 1) := by decide +kernel
theorem dX3_pack_0 : decode cX3_pack 0 = .ok (.iload_n 3, 1) := by decide +kernel
theorem dX3_pack_1 : decode cX3_pack 1 = .ok (.aload_n 0, 1) := by decide +kernel
theorem dX3_pack_2 : decode cX3_pack 2 = .ok (.getfield 30, 3) := by decide +kernel
theorem dX3_pack_5 : decode cX3_pack 5 = .ok (.if_icmp .lt 4, 3) := by decide +kernel
theorem dX3_pack_8 : decode cX3_pack 8 = .ok (.return_, 1) := by decide +kernel
theorem dX3_pack_9 : decode cX3_pack 9 = .ok (.iload_n 2, 1) := by decide +kernel
theorem dX3_pack_10 : decode cX3_pack 10 = .ok (.iload_n 1, 1) := by decide +kernel
theorem dX3_pack_11 : decode cX3_pack 11 = .ok (.if_icmp .ge 9, 3) := by decide +kernel
theorem dX3_pack_14 : decode cX3_pack 14 = .ok (.iload_n 2, 1) := by decide +kernel
theorem dX3_pack_15 : decode cX3_pack 15 = .ok (.bipush 6, 2) := by decide +kernel
theorem dX3_pack_17 : decode cX3_pack 17 = .ok (.if_icmp .lt 20, 3) := by decide +kernel
theorem dX3_pack_20 : decode cX3_pack 20 = .ok (.aload_n 0, 1) := by decide +kernel
theorem dX3_pack_21 : decode cX3_pack 21 = .ok (.iload_n 3, 1) := by decide +kernel
theorem dX3_pack_22 : decode cX3_pack 22 = .ok (.putfield 30, 3) := by decide +kernel
theorem dX3_pack_25 : decode cX3_pack 25 = .ok (.aload_n 0, 1) := by decide +kernel
theorem dX3_pack_26 : decode cX3_pack 26 = .ok (.getfield 18, 3) := by decide +kernel
theorem dX3_pack_29 : decode cX3_pack 29 = .ok (.aload_n 0, 1) := by decide +kernel
theorem dX3_pack_30 : decode cX3_pack 30 = .ok (.getfield 21, 3) := by decide +kernel
theorem dX3_pack_33 : decode cX3_pack 33 = .ok (.invokestatic 50, 3) := by decide +kernel
theorem dX3_pack_36 : decode cX3_pack 36 = .ok (.return_, 1) := by decide +kernel
theorem dX3_pack_37 : decode cX3_pack 37 = .ok (.iconst 0, 1) := by decide +kernel
theorem dX3_pack_38 : decode cX3_pack 38 = .ok (.istore 4, 2) := by decide +kernel
theorem dX3_pack_40 : decode cX3_pack 40 = .ok (.iload 4, 2) := by decide +kernel
theorem dX3_pack_42 : decode cX3_pack 42 = .ok (.iload_n 3, 1) := by decide +kernel
theorem dX3_pack_43 : decode cX3_pack 43 = .ok (.if_icmp .gt 91, 3) := by decide +kernel
theorem dX3_pack_46 : decode cX3_pack 46 = .ok (.aload_n 0, 1) := by decide +kernel
theorem dX3_pack_47 : decode cX3_pack 47 = .ok (.getfield 15, 3) := by decide +kernel
theorem dX3_pack_50 : decode cX3_pack 50 = .ok (.iload 4, 2) := by decide +kernel
theorem dX3_pack_52 : decode cX3_pack 52 = .ok (.invokestatic 54, 3) := by decide +kernel
theorem dX3_pack_55 : decode cX3_pack 55 = .ok (.istore 5, 2) := by decide +kernel
theorem dX3_pack_57 : decode cX3_pack 57 = .ok (.iload 5, 2) := by decide +kernel
theorem dX3_pack_59 : decode cX3_pack 59 = .ok (.aload_n 0, 1) := by decide +kernel
theorem dX3_pack_60 : decode cX3_pack 60 = .ok (.getfield 9, 3) := by decide +kernel
theorem dX3_pack_63 : decode cX3_pack 63 = .ok (.iload_n 2, 1) := by decide +kernel
theorem dX3_pack_64 : decode cX3_pack 64 = .ok (.invokestatic 54, 3) := by decide +kernel
theorem dX3_pack_67 : decode cX3_pack 67 = .ok (.iand, 1) := by decide +kernel
theorem dX3_pack_68 : decode cX3_pack 68 = .ok (.ifCond .ne 60, 3) := by decide +kernel
theorem dX3_pack_71 : decode cX3_pack 71 = .ok (.aload_n 0, 1) := by decide +kernel
theorem dX3_pack_72 : decode cX3_pack 72 = .ok (.getfield 18, 3) := by decide +kernel
theorem dX3_pack_75 : decode cX3_pack 75 = .ok (.iload_n 2, 1) := by decide +kernel
theorem dX3_pack_76 : decode cX3_pack 76 = .ok (.iload 4, 2) := by decide +kernel
theorem dX3_pack_78 : decode cX3_pack 78 = .ok (.invokestatic 42, 3) := by decide +kernel
theorem dX3_pack_81 : decode cX3_pack 81 = .ok (.aload_n 0, 1) := by decide +kernel
theorem dX3_pack_82 : decode cX3_pack 82 = .ok (.getfield 15, 3) := by decide +kernel
theorem dX3_pack_85 : decode cX3_pack 85 = .ok (.iload 4, 2) := by decide +kernel
theorem dX3_pack_87 : decode cX3_pack 87 = .ok (.iload 5, 2) := by decide +kernel
theorem dX3_pack_89 : decode cX3_pack 89 = .ok (.iconst 1, 1) := by decide +kernel
theorem dX3_pack_90 : decode cX3_pack 90 = .ok (.iload_n 2, 1) := by decide +kernel
theorem dX3_pack_91 : decode cX3_pack 91 = .ok (.ishl, 1) := by decide +kernel
theorem dX3_pack_92 : decode cX3_pack 92 = .ok (.ior, 1) := by decide +kernel
theorem dX3_pack_93 : decode cX3_pack 93 = .ok (.invokestatic 42, 3) := by decide +kernel
theorem dX3_pack_96 : decode cX3_pack 96 = .ok (.aload_n 0, 1) := by decide +kernel
theorem dX3_pack_97 : decode cX3_pack 97 = .ok (.iload_n 1, 1) := by decide +kernel
theorem dX3_pack_98 : decode cX3_pack 98 = .ok (.iload_n 2, 1) := by decide +kernel
theorem dX3_pack_99 : decode cX3_pack 99 = .ok (.iconst 1, 1) := by decide +kernel
theorem dX3_pack_100 : decode cX3_pack 100 = .ok (.iadd, 1) := by decide +kernel
theorem dX3_pack_101 : decode cX3_pack 101 = .ok (.iload 4, 2) := by decide +kernel
theorem dX3_pack_103 : decode cX3_pack 103 = .ok (.iload_n 3, 1) := by decide +kernel
theorem dX3_pack_104 : decode cX3_pack 104 = .ok (.if_icmp .ne 9, 3) := by decide +kernel
theorem dX3_pack_107 : decode cX3_pack 107 = .ok (.iload_n 3, 1) := by decide +kernel
theorem dX3_pack_108 : decode cX3_pack 108 = .ok (.iconst 1, 1) := by decide +kernel
theorem dX3_pack_109 : decode cX3_pack 109 = .ok (.iadd, 1) := by decide +kernel
theorem dX3_pack_110 : decode cX3_pack 110 = .ok (.goto 4, 3) := by decide +kernel
theorem dX3_pack_113 : decode cX3_pack 113 = .ok (.iload_n 3, 1) := by decide +kernel
theorem dX3_pack_114 : decode cX3_pack 114 = .ok (.invokestatic 46, 3) := by decide +kernel
theorem dX3_pack_117 : decode cX3_pack 117 = .ok (.aload_n 0, 1) := by decide +kernel
theorem dX3_pack_118 : decode cX3_pack 118 = .ok (.getfield 15, 3) := by decide +kernel
theorem dX3_pack_121 : decode cX3_pack 121 = .ok (.iload 4, 2) := by decide +kernel
theorem dX3_pack_123 : decode cX3_pack 123 = .ok (.iload 5, 2) := by decide +kernel
theorem dX3_pack_125 : decode cX3_pack 125 = .ok (.invokestatic 42, 3) := by decide +kernel
theorem dX3_pack_128 : decode cX3_pack 128 = .ok (.iinc 4 1, 3) := by decide +kernel
theorem dX3_pack_131 : decode cX3_pack 131 = .ok (.goto (-91), 3) := by decide +kernel
theorem dX3_pack_134 : decode cX3_pack 134 = .ok (.return_, 1) := by decide +kernel
theorem dX4_init_0 : decode cX4_init 0 = .ok (.aload_n 0, 1) := by decide +kernel
theorem dX4_init_1 : decode cX4_init 1 = .ok (.invokespecial 3, 3) := by decide +kernel
theorem dX4_init_4 : decode cX4_init 4 = .ok (.aload_n 0, 1) := by decide +kernel
theorem dX4_init_5 : decode cX4_init 5 = .ok (.bipush 26, 2) := by decide +kernel
theorem dX4_init_7 : decode cX4_init 7 = .ok (.newarray .int, 2) := by decide +kernel
theorem dX4_init_9 : decode cX4_init 9 = .ok (.putfield 9, 3) := by decide +kernel
theorem dX4_init_12 : decode cX4_init 12 = .ok (.return_, 1) := by decide +kernel
theorem dX4_add_0 : decode cX4_add 0 = .ok (.aload_n 0, 1) := by decide +kernel
theorem dX4_add_1 : decode cX4_add 1 = .ok (.getfield 15, 3) := by decide +kernel
theorem dX4_add_4 : decode cX4_add 4 = .ok (.bipush 26, 2) := by decide +kernel
theorem dX4_add_6 : decode cX4_add 6 = .ok (.if_icmp .lt 5, 3) := by decide +kernel
theorem dX4_add_9 : decode cX4_add 9 = .ok (.iconst 0, 1) := by decide +kernel
theorem dX4_add_10 : decode cX4_add 10 = .ok (.ireturn, 1) := by decide +kernel
theorem dX4_add_11 : decode cX4_add 11 = .ok (.aload_n 0, 1) := by decide +kernel
theorem dX4_add_12 : decode cX4_add 12 = .ok (.getfield 9, 3) := by decide +kernel
theorem dX4_add_15 : decode cX4_add 15 = .ok (.aload_n 0, 1) := by decide +kernel
theorem dX4_add_16 : decode cX4_add 16 = .ok (.getfield 15, 3) := by decide +kernel
theorem dX4_add_19 : decode cX4_add 19 = .ok (.iload_n 1, 1) := by decide +kernel
theorem dX4_add_20 : decode cX4_add 20 = .ok (.invokestatic 19, 3) := by decide +kernel
theorem dX4_add_23 : decode cX4_add 23 = .ok (.aload_n 0, 1) := by decide +kernel
theorem dX4_add_24 : decode cX4_add 24 = .ok (.dup, 1) := by decide +kernel
theorem dX4_add_25 : decode cX4_add 25 = .ok (.getfield 15, 3) := by decide +kernel
theorem dX4_add_28 : decode cX4_add 28 = .ok (.iconst 1, 1) := by decide +kernel
theorem dX4_add_29 : decode cX4_add 29 = .ok (.iadd, 1) := by decide +kernel
theorem dX4_add_30 : decode cX4_add 30 = .ok (.putfield 15, 3) := by decide +kernel
theorem dX4_add_33 : decode cX4_add 33 = .ok (.iconst 1, 1) := by decide +kernel
theorem dX4_add_34 : decode cX4_add 34 = .ok (.ireturn, 1) := by decide +kernel
theorem dX4_semicolon_0 : decode cX4_semicolon 0 = .ok (.iconst 0, 1) := by decide +kernel
theorem dX4_semicolon_1 : decode cX4_semicolon 1 = .ok (.istore_n 1, 1) := by decide +kernel
theorem dX4_semicolon_2 : decode cX4_semicolon 2 = .ok (.iload_n 1, 1) := by decide +kernel
theorem dX4_semicolon_3 : decode cX4_semicolon 3 = .ok (.aload_n 0, 1) := by decide +kernel
theorem dX4_semicolon_4 : decode cX4_semicolon 4 = .ok (.getfield 15, 3) := by decide +kernel
theorem dX4_semicolon_7 : decode cX4_semicolon 7 = .ok (.if_icmp .ge 24, 3) := by decide +kernel
theorem dX4_semicolon_10 : decode cX4_semicolon 10 = .ok (.aload_n 0, 1) := by decide +kernel
theorem dX4_semicolon_11 : decode cX4_semicolon 11 = .ok (.getfield 9, 3) := by decide +kernel
theorem dX4_semicolon_14 : decode cX4_semicolon 14 = .ok (.iload_n 1, 1) := by decide +kernel
theorem dX4_semicolon_15 : decode cX4_semicolon 15 = .ok (.invokestatic 23, 3) := by decide +kernel
theorem dX4_semicolon_18 : decode cX4_semicolon 18 = .ok (.bipush 59, 2) := by decide +kernel
theorem dX4_semicolon_20 : decode cX4_semicolon 20 = .ok (.if_icmp .ne 5, 3) := by decide +kernel
theorem dX4_semicolon_23 : decode cX4_semicolon 23 = .ok (.iload_n 1, 1) := by decide +kernel
theorem dX4_semicolon_24 : decode cX4_semicolon 24 = .ok (.ireturn, 1) := by decide +kernel
theorem dX4_semicolon_25 : decode cX4_semicolon 25 = .ok (.iinc 1 1, 3) := by decide +kernel
theorem dX4_semicolon_28 : decode cX4_semicolon 28 = .ok (.goto (-26), 3) := by decide +kernel
theorem dX4_semicolon_31 : decode cX4_semicolon 31 = .ok (.iconst (-1), 1) := by decide +kernel
theorem dX4_semicolon_32 : decode cX4_semicolon 32 = .ok (.ireturn, 1) := by decide +kernel
theorem dX4_firstFault_0 : decode cX4_firstFault 0 = .ok (.aload_n 0, 1) := by decide +kernel
theorem dX4_firstFault_1 : decode cX4_firstFault 1 = .ok (.invokevirtual 27, 3) := by decide +kernel
theorem dX4_firstFault_4 : decode cX4_firstFault 4 = .ok (.istore_n 1, 1) := by decide +kernel
theorem dX4_firstFault_5 : decode cX4_firstFault 5 = .ok (.iconst 0, 1) := by decide +kernel
theorem dX4_firstFault_6 : decode cX4_firstFault 6 = .ok (.istore_n 2, 1) := by decide +kernel
theorem dX4_firstFault_7 : decode cX4_firstFault 7 = .ok (.iload_n 2, 1) := by decide +kernel
theorem dX4_firstFault_8 : decode cX4_firstFault 8 = .ok (.aload_n 0, 1) := by decide +kernel
theorem dX4_firstFault_9 : decode cX4_firstFault 9 = .ok (.getfield 15, 3) := by decide +kernel
theorem dX4_firstFault_12 : decode cX4_firstFault 12 = .ok (.if_icmp .ge 63, 3) := by decide +kernel
theorem dX4_firstFault_15 : decode cX4_firstFault 15 = .ok (.aload_n 0, 1) := by decide +kernel
theorem dX4_firstFault_16 : decode cX4_firstFault 16 = .ok (.getfield 9, 3) := by decide +kernel
theorem dX4_firstFault_19 : decode cX4_firstFault 19 = .ok (.iload_n 2, 1) := by decide +kernel
theorem dX4_firstFault_20 : decode cX4_firstFault 20 = .ok (.invokestatic 23, 3) := by decide +kernel
theorem dX4_firstFault_23 : decode cX4_firstFault 23 = .ok (.istore_n 3, 1) := by decide +kernel
theorem dX4_firstFault_24 : decode cX4_firstFault 24 = .ok (.iload_n 1, 1) := by decide +kernel
theorem dX4_firstFault_25 : decode cX4_firstFault 25 = .ok (.iconst (-1), 1) := by decide +kernel
theorem dX4_firstFault_26 : decode cX4_firstFault 26 = .ok (.if_icmp .eq 12, 3) := by decide +kernel
theorem dX4_firstFault_29 : decode cX4_firstFault 29 = .ok (.iload_n 2, 1) := by decide +kernel
theorem dX4_firstFault_30 : decode cX4_firstFault 30 = .ok (.iload_n 1, 1) := by decide +kernel
theorem dX4_firstFault_31 : decode cX4_firstFault 31 = .ok (.if_icmp .le 7, 3) := by decide +kernel
theorem dX4_firstFault_34 : decode cX4_firstFault 34 = .ok (.iconst 1, 1) := by decide +kernel
theorem dX4_firstFault_35 : decode cX4_firstFault 35 = .ok (.goto 4, 3) := by decide +kernel
theorem dX4_firstFault_38 : decode cX4_firstFault 38 = .ok (.iconst 0, 1) := by decide +kernel
theorem dX4_firstFault_39 : decode cX4_firstFault 39 = .ok (.istore 4, 2) := by decide +kernel
theorem dX4_firstFault_41 : decode cX4_firstFault 41 = .ok (.iload 4, 2) := by decide +kernel
theorem dX4_firstFault_43 : decode cX4_firstFault 43 = .ok (.ifCond .eq 16, 3) := by decide +kernel
theorem dX4_firstFault_46 : decode cX4_firstFault 46 = .ok (.iload_n 3, 1) := by decide +kernel
theorem dX4_firstFault_47 : decode cX4_firstFault 47 = .ok (.iload_n 2, 1) := by decide +kernel
theorem dX4_firstFault_48 : decode cX4_firstFault 48 = .ok (.iload_n 1, 1) := by decide +kernel
theorem dX4_firstFault_49 : decode cX4_firstFault 49 = .ok (.isub, 1) := by decide +kernel
theorem dX4_firstFault_50 : decode cX4_firstFault 50 = .ok (.invokestatic 31, 3) := by decide +kernel
theorem dX4_firstFault_53 : decode cX4_firstFault 53 = .ok (.ifCond .ne 16, 3) := by decide +kernel
theorem dX4_firstFault_56 : decode cX4_firstFault 56 = .ok (.goto 11, 3) := by decide +kernel
theorem dX4_firstFault_59 : decode cX4_firstFault 59 = .ok (.iload_n 3, 1) := by decide +kernel
theorem dX4_firstFault_60 : decode cX4_firstFault 60 = .ok (.iload_n 2, 1) := by decide +kernel
theorem dX4_firstFault_61 : decode cX4_firstFault 61 = .ok (.invokestatic 35, 3) := by decide +kernel
theorem dX4_firstFault_64 : decode cX4_firstFault 64 = .ok (.ifCond .ne 5, 3) := by decide +kernel
theorem dX4_firstFault_67 : decode cX4_firstFault 67 = .ok (.iload_n 2, 1) := by decide +kernel
theorem dX4_firstFault_68 : decode cX4_firstFault 68 = .ok (.ireturn, 1) := by decide +kernel
theorem dX4_firstFault_69 : decode cX4_firstFault 69 = .ok (.iinc 2 1, 3) := by decide +kernel
theorem dX4_firstFault_72 : decode cX4_firstFault 72 = .ok (.goto (-65), 3) := by decide +kernel
theorem dX4_firstFault_75 : decode cX4_firstFault 75 = .ok (.aload_n 0, 1) := by decide +kernel
theorem dX4_firstFault_76 : decode cX4_firstFault 76 = .ok (.getfield 15, 3) := by decide +kernel
theorem dX4_firstFault_79 : decode cX4_firstFault 79 = .ok (.ireturn, 1) := by decide +kernel
theorem dX4_isShop_0 : decode cX4_isShop 0 = .ok (.aload_n 0, 1) := by decide +kernel
theorem dX4_isShop_1 : decode cX4_isShop 1 = .ok (.invokevirtual 27, 3) := by decide +kernel
theorem dX4_isShop_4 : decode cX4_isShop 4 = .ok (.istore_n 1, 1) := by decide +kernel
theorem dX4_isShop_5 : decode cX4_isShop 5 = .ok (.iload_n 1, 1) := by decide +kernel
theorem dX4_isShop_6 : decode cX4_isShop 6 = .ok (.iconst (-1), 1) := by decide +kernel
theorem dX4_isShop_7 : decode cX4_isShop 7 = .ok (.if_icmp .eq 28, 3) := by decide +kernel
theorem dX4_isShop_10 : decode cX4_isShop 10 = .ok (.aload_n 0, 1) := by decide +kernel
theorem dX4_isShop_11 : decode cX4_isShop 11 = .ok (.getfield 15, 3) := by decide +kernel
theorem dX4_isShop_14 : decode cX4_isShop 14 = .ok (.iload_n 1, 1) := by decide +kernel
theorem dX4_isShop_15 : decode cX4_isShop 15 = .ok (.iconst 1, 1) := by decide +kernel
theorem dX4_isShop_16 : decode cX4_isShop 16 = .ok (.iadd, 1) := by decide +kernel
theorem dX4_isShop_17 : decode cX4_isShop 17 = .ok (.if_icmp .le 18, 3) := by decide +kernel
theorem dX4_isShop_20 : decode cX4_isShop 20 = .ok (.aload_n 0, 1) := by decide +kernel
theorem dX4_isShop_21 : decode cX4_isShop 21 = .ok (.invokevirtual 38, 3) := by decide +kernel
theorem dX4_isShop_24 : decode cX4_isShop 24 = .ok (.aload_n 0, 1) := by decide +kernel
theorem dX4_isShop_25 : decode cX4_isShop 25 = .ok (.getfield 15, 3) := by decide +kernel
theorem dX4_isShop_28 : decode cX4_isShop 28 = .ok (.if_icmp .ne 7, 3) := by decide +kernel
theorem dX4_isShop_31 : decode cX4_isShop 31 = .ok (.iconst 1, 1) := by decide +kernel
theorem dX4_isShop_32 : decode cX4_isShop 32 = .ok (.goto 4, 3) := by decide +kernel
theorem dX4_isShop_35 : decode cX4_isShop 35 = .ok (.iconst 0, 1) := by decide +kernel
theorem dX4_isShop_36 : decode cX4_isShop 36 = .ok (.ireturn, 1) := by decide +kernel
theorem dX4_isOfGloves_0 : decode cX4_isOfGloves 0 = .ok (.iload_n 1, 1) := by decide +kernel
theorem dX4_isOfGloves_1 : decode cX4_isOfGloves 1 = .ok (.iconst 3, 1) := by decide +kernel
theorem dX4_isOfGloves_2 : decode cX4_isOfGloves 2 = .ok (.idiv, 1) := by decide +kernel
theorem dX4_isOfGloves_3 : decode cX4_isOfGloves 3 = .ok (.iconst 1, 1) := by decide +kernel
theorem dX4_isOfGloves_4 : decode cX4_isOfGloves 4 = .ok (.iadd, 1) := by decide +kernel
theorem dX4_isOfGloves_5 : decode cX4_isOfGloves 5 = .ok (.istore_n 2, 1) := by decide +kernel
theorem dX4_isOfGloves_6 : decode cX4_isOfGloves 6 = .ok (.iload_n 1, 1) := by decide +kernel
theorem dX4_isOfGloves_7 : decode cX4_isOfGloves 7 = .ok (.iconst 3, 1) := by decide +kernel
theorem dX4_isOfGloves_8 : decode cX4_isOfGloves 8 = .ok (.irem, 1) := by decide +kernel
theorem dX4_isOfGloves_9 : decode cX4_isOfGloves 9 = .ok (.lookupswitch 46 #[(0, 27), (1, 41)], 27) := by decide +kernel
theorem dX4_isOfGloves_36 : decode cX4_isOfGloves 36 = .ok (.iload_n 0, 1) := by decide +kernel
theorem dX4_isOfGloves_37 : decode cX4_isOfGloves 37 = .ok (.invokestatic 41, 3) := by decide +kernel
theorem dX4_isOfGloves_40 : decode cX4_isOfGloves 40 = .ok (.iconst (-1), 1) := by decide +kernel
theorem dX4_isOfGloves_41 : decode cX4_isOfGloves 41 = .ok (.if_icmp .eq 7, 3) := by decide +kernel
theorem dX4_isOfGloves_44 : decode cX4_isOfGloves 44 = .ok (.iconst 1, 1) := by decide +kernel
theorem dX4_isOfGloves_45 : decode cX4_isOfGloves 45 = .ok (.goto 4, 3) := by decide +kernel
theorem dX4_isOfGloves_48 : decode cX4_isOfGloves 48 = .ok (.iconst 0, 1) := by decide +kernel
theorem dX4_isOfGloves_49 : decode cX4_isOfGloves 49 = .ok (.ireturn, 1) := by decide +kernel
theorem dX4_isOfGloves_50 : decode cX4_isOfGloves 50 = .ok (.iload_n 0, 1) := by decide +kernel
theorem dX4_isOfGloves_51 : decode cX4_isOfGloves 51 = .ok (.invokestatic 45, 3) := by decide +kernel
theorem dX4_isOfGloves_54 : decode cX4_isOfGloves 54 = .ok (.ireturn, 1) := by decide +kernel
theorem dX4_isOfGloves_55 : decode cX4_isOfGloves 55 = .ok (.iload_n 0, 1) := by decide +kernel
theorem dX4_isOfGloves_56 : decode cX4_isOfGloves 56 = .ok (.bipush 44, 2) := by decide +kernel
theorem dX4_isOfGloves_58 : decode cX4_isOfGloves 58 = .ok (.if_icmp .ne 9, 3) := by decide +kernel
theorem dX4_isOfGloves_61 : decode cX4_isOfGloves 61 = .ok (.iload_n 2, 1) := by decide +kernel
theorem dX4_isOfGloves_62 : decode cX4_isOfGloves 62 = .ok (.bipush 6, 2) := by decide +kernel
theorem dX4_isOfGloves_64 : decode cX4_isOfGloves 64 = .ok (.if_icmp .lt 14, 3) := by decide +kernel
theorem dX4_isOfGloves_67 : decode cX4_isOfGloves 67 = .ok (.iload_n 0, 1) := by decide +kernel
theorem dX4_isOfGloves_68 : decode cX4_isOfGloves 68 = .ok (.bipush 59, 2) := by decide +kernel
theorem dX4_isOfGloves_70 : decode cX4_isOfGloves 70 = .ok (.if_icmp .ne 12, 3) := by decide +kernel
theorem dX4_isOfGloves_73 : decode cX4_isOfGloves 73 = .ok (.iload_n 2, 1) := by decide +kernel
theorem dX4_isOfGloves_74 : decode cX4_isOfGloves 74 = .ok (.iconst 2, 1) := by decide +kernel
theorem dX4_isOfGloves_75 : decode cX4_isOfGloves 75 = .ok (.if_icmp .lt 7, 3) := by decide +kernel
theorem dX4_isOfGloves_78 : decode cX4_isOfGloves 78 = .ok (.iconst 1, 1) := by decide +kernel
theorem dX4_isOfGloves_79 : decode cX4_isOfGloves 79 = .ok (.goto 4, 3) := by decide +kernel
theorem dX4_isOfGloves_82 : decode cX4_isOfGloves 82 = .ok (.iconst 0, 1) := by decide +kernel
theorem dX4_isOfGloves_83 : decode cX4_isOfGloves 83 = .ok (.ireturn, 1) := by decide +kernel
theorem dX4_isNerve_0 : decode cX4_isNerve 0 = .ok (.iload_n 0, 1) := by decide +kernel
theorem dX4_isNerve_1 : decode cX4_isNerve 1 = .ok (.invokestatic 45, 3) := by decide +kernel
theorem dX4_isNerve_4 : decode cX4_isNerve 4 = .ok (.ifCond .eq 12, 3) := by decide +kernel
theorem dX4_isNerve_7 : decode cX4_isNerve 7 = .ok (.iload_n 1, 1) := by decide +kernel
theorem dX4_isNerve_8 : decode cX4_isNerve 8 = .ok (.iconst 3, 1) := by decide +kernel
theorem dX4_isNerve_9 : decode cX4_isNerve 9 = .ok (.if_icmp .gt 7, 3) := by decide +kernel
theorem dX4_isNerve_12 : decode cX4_isNerve 12 = .ok (.iconst 1, 1) := by decide +kernel
theorem dX4_isNerve_13 : decode cX4_isNerve 13 = .ok (.goto 4, 3) := by decide +kernel
theorem dX4_isNerve_16 : decode cX4_isNerve 16 = .ok (.iconst 0, 1) := by decide +kernel
theorem dX4_isNerve_17 : decode cX4_isNerve 17 = .ok (.ireturn, 1) := by decide +kernel
theorem dX4_isDigit_0 : decode cX4_isDigit 0 = .ok (.iload_n 0, 1) := by decide +kernel
theorem dX4_isDigit_1 : decode cX4_isDigit 1 = .ok (.bipush 48, 2) := by decide +kernel
theorem dX4_isDigit_3 : decode cX4_isDigit 3 = .ok (.bipush 57, 2) := by decide +kernel
theorem dX4_isDigit_5 : decode cX4_isDigit 5 = .ok (.invokestatic 49, 3) := by decide +kernel
theorem dX4_isDigit_8 : decode cX4_isDigit 8 = .ok (.ireturn, 1) := by decide +kernel
theorem dX4_readInto_0 : decode cX4_readInto 0 = .ok (.aload_n 0, 1) := by decide +kernel
theorem dX4_readInto_1 : decode cX4_readInto 1 = .ok (.invokevirtual 27, 3) := by decide +kernel
theorem dX4_readInto_4 : decode cX4_readInto 4 = .ok (.istore_n 2, 1) := by decide +kernel
theorem dX4_readInto_5 : decode cX4_readInto 5 = .ok (.aload_n 1, 1) := by decide +kernel
theorem dX4_readInto_6 : decode cX4_readInto 6 = .ok (.iload_n 2, 1) := by decide +kernel
theorem dX4_readInto_7 : decode cX4_readInto 7 = .ok (.iconst 1, 1) := by decide +kernel
theorem dX4_readInto_8 : decode cX4_readInto 8 = .ok (.iadd, 1) := by decide +kernel
theorem dX4_readInto_9 : decode cX4_readInto 9 = .ok (.iconst 3, 1) := by decide +kernel
theorem dX4_readInto_10 : decode cX4_readInto 10 = .ok (.idiv, 1) := by decide +kernel
theorem dX4_readInto_11 : decode cX4_readInto 11 = .ok (.aload_n 0, 1) := by decide +kernel
theorem dX4_readInto_12 : decode cX4_readInto 12 = .ok (.getfield 15, 3) := by decide +kernel
theorem dX4_readInto_15 : decode cX4_readInto 15 = .ok (.iload_n 2, 1) := by decide +kernel
theorem dX4_readInto_16 : decode cX4_readInto 16 = .ok (.isub, 1) := by decide +kernel
theorem dX4_readInto_17 : decode cX4_readInto 17 = .ok (.iconst 1, 1) := by decide +kernel
theorem dX4_readInto_18 : decode cX4_readInto 18 = .ok (.isub, 1) := by decide +kernel
theorem dX4_readInto_19 : decode cX4_readInto 19 = .ok (.invokevirtual 53, 3) := by decide +kernel
theorem dX4_readInto_22 : decode cX4_readInto 22 = .ok (.iconst 0, 1) := by decide +kernel
theorem dX4_readInto_23 : decode cX4_readInto 23 = .ok (.istore_n 3, 1) := by decide +kernel
theorem dX4_readInto_24 : decode cX4_readInto 24 = .ok (.iload_n 3, 1) := by decide +kernel
theorem dX4_readInto_25 : decode cX4_readInto 25 = .ok (.aload_n 1, 1) := by decide +kernel
theorem dX4_readInto_26 : decode cX4_readInto 26 = .ok (.getfield 59, 3) := by decide +kernel
theorem dX4_readInto_29 : decode cX4_readInto 29 = .ok (.if_icmp .ge 53, 3) := by decide +kernel
theorem dX4_readInto_32 : decode cX4_readInto 32 = .ok (.aload_n 1, 1) := by decide +kernel
theorem dX4_readInto_33 : decode cX4_readInto 33 = .ok (.getfield 62, 3) := by decide +kernel
theorem dX4_readInto_36 : decode cX4_readInto 36 = .ok (.iload_n 3, 1) := by decide +kernel
theorem dX4_readInto_37 : decode cX4_readInto 37 = .ok (.aload_n 0, 1) := by decide +kernel
theorem dX4_readInto_38 : decode cX4_readInto 38 = .ok (.getfield 9, 3) := by decide +kernel
theorem dX4_readInto_41 : decode cX4_readInto 41 = .ok (.iconst 3, 1) := by decide +kernel
theorem dX4_readInto_42 : decode cX4_readInto 42 = .ok (.iload_n 3, 1) := by decide +kernel
theorem dX4_readInto_43 : decode cX4_readInto 43 = .ok (.imul, 1) := by decide +kernel
theorem dX4_readInto_44 : decode cX4_readInto 44 = .ok (.invokestatic 23, 3) := by decide +kernel
theorem dX4_readInto_47 : decode cX4_readInto 47 = .ok (.invokestatic 41, 3) := by decide +kernel
theorem dX4_readInto_50 : decode cX4_readInto 50 = .ok (.invokestatic 19, 3) := by decide +kernel
theorem dX4_readInto_53 : decode cX4_readInto 53 = .ok (.aload_n 1, 1) := by decide +kernel
theorem dX4_readInto_54 : decode cX4_readInto 54 = .ok (.getfield 65, 3) := by decide +kernel
theorem dX4_readInto_57 : decode cX4_readInto 57 = .ok (.iload_n 3, 1) := by decide +kernel
theorem dX4_readInto_58 : decode cX4_readInto 58 = .ok (.aload_n 0, 1) := by decide +kernel
theorem dX4_readInto_59 : decode cX4_readInto 59 = .ok (.getfield 9, 3) := by decide +kernel
theorem dX4_readInto_62 : decode cX4_readInto 62 = .ok (.iconst 3, 1) := by decide +kernel
theorem dX4_readInto_63 : decode cX4_readInto 63 = .ok (.iload_n 3, 1) := by decide +kernel
theorem dX4_readInto_64 : decode cX4_readInto 64 = .ok (.imul, 1) := by decide +kernel
theorem dX4_readInto_65 : decode cX4_readInto 65 = .ok (.iconst 1, 1) := by decide +kernel
theorem dX4_readInto_66 : decode cX4_readInto 66 = .ok (.iadd, 1) := by decide +kernel
theorem dX4_readInto_67 : decode cX4_readInto 67 = .ok (.invokestatic 23, 3) := by decide +kernel
theorem dX4_readInto_70 : decode cX4_readInto 70 = .ok (.bipush 48, 2) := by decide +kernel
theorem dX4_readInto_72 : decode cX4_readInto 72 = .ok (.isub, 1) := by decide +kernel
theorem dX4_readInto_73 : decode cX4_readInto 73 = .ok (.invokestatic 19, 3) := by decide +kernel
theorem dX4_readInto_76 : decode cX4_readInto 76 = .ok (.iinc 3 1, 3) := by decide +kernel
theorem dX4_readInto_79 : decode cX4_readInto 79 = .ok (.goto (-55), 3) := by decide +kernel
theorem dX4_readInto_82 : decode cX4_readInto 82 = .ok (.iconst 0, 1) := by decide +kernel
theorem dX4_readInto_83 : decode cX4_readInto 83 = .ok (.istore_n 3, 1) := by decide +kernel
theorem dX4_readInto_84 : decode cX4_readInto 84 = .ok (.iload_n 3, 1) := by decide +kernel
theorem dX4_readInto_85 : decode cX4_readInto 85 = .ok (.aload_n 1, 1) := by decide +kernel
theorem dX4_readInto_86 : decode cX4_readInto 86 = .ok (.getfield 68, 3) := by decide +kernel
theorem dX4_readInto_89 : decode cX4_readInto 89 = .ok (.if_icmp .ge 32, 3) := by decide +kernel
theorem dX4_readInto_92 : decode cX4_readInto 92 = .ok (.aload_n 1, 1) := by decide +kernel
theorem dX4_readInto_93 : decode cX4_readInto 93 = .ok (.getfield 71, 3) := by decide +kernel
theorem dX4_readInto_96 : decode cX4_readInto 96 = .ok (.iload_n 3, 1) := by decide +kernel
theorem dX4_readInto_97 : decode cX4_readInto 97 = .ok (.aload_n 0, 1) := by decide +kernel
theorem dX4_readInto_98 : decode cX4_readInto 98 = .ok (.getfield 9, 3) := by decide +kernel
theorem dX4_readInto_101 : decode cX4_readInto 101 = .ok (.iload_n 2, 1) := by decide +kernel
theorem dX4_readInto_102 : decode cX4_readInto 102 = .ok (.iconst 1, 1) := by decide +kernel
theorem dX4_readInto_103 : decode cX4_readInto 103 = .ok (.iadd, 1) := by decide +kernel
theorem dX4_readInto_104 : decode cX4_readInto 104 = .ok (.iload_n 3, 1) := by decide +kernel
theorem dX4_readInto_105 : decode cX4_readInto 105 = .ok (.iadd, 1) := by decide +kernel
theorem dX4_readInto_106 : decode cX4_readInto 106 = .ok (.invokestatic 23, 3) := by decide +kernel
theorem dX4_readInto_109 : decode cX4_readInto 109 = .ok (.bipush 48, 2) := by decide +kernel
theorem dX4_readInto_111 : decode cX4_readInto 111 = .ok (.isub, 1) := by decide +kernel
theorem dX4_readInto_112 : decode cX4_readInto 112 = .ok (.invokestatic 19, 3) := by decide +kernel
theorem dX4_readInto_115 : decode cX4_readInto 115 = .ok (.iinc 3 1, 3) := by decide +kernel
theorem dX4_readInto_118 : decode cX4_readInto 118 = .ok (.goto (-34), 3) := by decide +kernel
theorem dX4_readInto_121 : decode cX4_readInto 121 = .ok (.return_, 1) := by decide +kernel
theorem dX5_init_0 : decode cX5_init 0 = .ok (.aload_n 0, 1) := by decide +kernel
theorem dX5_init_1 : decode cX5_init 1 = .ok (.invokespecial 3, 3) := by decide +kernel
theorem dX5_init_4 : decode cX5_init 4 = .ok (.aload_n 0, 1) := by decide +kernel
theorem dX5_init_5 : decode cX5_init 5 = .ok (.bipush 6, 2) := by decide +kernel
theorem dX5_init_7 : decode cX5_init 7 = .ok (.newarray .int, 2) := by decide +kernel
theorem dX5_init_9 : decode cX5_init 9 = .ok (.putfield 9, 3) := by decide +kernel
theorem dX5_init_12 : decode cX5_init 12 = .ok (.aload_n 0, 1) := by decide +kernel
theorem dX5_init_13 : decode cX5_init 13 = .ok (.bipush 6, 2) := by decide +kernel
theorem dX5_init_15 : decode cX5_init 15 = .ok (.newarray .int, 2) := by decide +kernel
theorem dX5_init_17 : decode cX5_init 17 = .ok (.putfield 15, 3) := by decide +kernel
theorem dX5_init_20 : decode cX5_init 20 = .ok (.aload_n 0, 1) := by decide +kernel
theorem dX5_init_21 : decode cX5_init 21 = .ok (.bipush 6, 2) := by decide +kernel
theorem dX5_init_23 : decode cX5_init 23 = .ok (.newarray .int, 2) := by decide +kernel
theorem dX5_init_25 : decode cX5_init 25 = .ok (.putfield 18, 3) := by decide +kernel
theorem dX5_init_28 : decode cX5_init 28 = .ok (.aload_n 0, 1) := by decide +kernel
theorem dX5_init_29 : decode cX5_init 29 = .ok (.bipush 6, 2) := by decide +kernel
theorem dX5_init_31 : decode cX5_init 31 = .ok (.newarray .int, 2) := by decide +kernel
theorem dX5_init_33 : decode cX5_init 33 = .ok (.putfield 21, 3) := by decide +kernel
theorem dX5_init_36 : decode cX5_init 36 = .ok (.aload_n 0, 1) := by decide +kernel
theorem dX5_init_37 : decode cX5_init 37 = .ok (.bipush 6, 2) := by decide +kernel
theorem dX5_init_39 : decode cX5_init 39 = .ok (.newarray .int, 2) := by decide +kernel
theorem dX5_init_41 : decode cX5_init 41 = .ok (.putfield 24, 3) := by decide +kernel
theorem dX5_init_44 : decode cX5_init 44 = .ok (.aload_n 0, 1) := by decide +kernel
theorem dX5_init_45 : decode cX5_init 45 = .ok (.iconst 3, 1) := by decide +kernel
theorem dX5_init_46 : decode cX5_init 46 = .ok (.newarray .int, 2) := by decide +kernel
theorem dX5_init_48 : decode cX5_init 48 = .ok (.putfield 27, 3) := by decide +kernel
theorem dX5_init_51 : decode cX5_init 51 = .ok (.aload_n 0, 1) := by decide +kernel
theorem dX5_init_52 : decode cX5_init 52 = .ok (.iconst 3, 1) := by decide +kernel
theorem dX5_init_53 : decode cX5_init 53 = .ok (.newarray .int, 2) := by decide +kernel
theorem dX5_init_55 : decode cX5_init 55 = .ok (.putfield 30, 3) := by decide +kernel
theorem dX5_init_58 : decode cX5_init 58 = .ok (.aload_n 0, 1) := by decide +kernel
theorem dX5_init_59 : decode cX5_init 59 = .ok (.bipush 8, 2) := by decide +kernel
theorem dX5_init_61 : decode cX5_init 61 = .ok (.newarray .int, 2) := by decide +kernel
theorem dX5_init_63 : decode cX5_init 63 = .ok (.putfield 33, 3) := by decide +kernel
theorem dX5_init_66 : decode cX5_init 66 = .ok (.aload_n 0, 1) := by decide +kernel
theorem dX5_init_67 : decode cX5_init 67 = .ok (.bipush 8, 2) := by decide +kernel
theorem dX5_init_69 : decode cX5_init 69 = .ok (.newarray .int, 2) := by decide +kernel
theorem dX5_init_71 : decode cX5_init 71 = .ok (.putfield 36, 3) := by decide +kernel
theorem dX5_init_74 : decode cX5_init 74 = .ok (.aload_n 0, 1) := by decide +kernel
theorem dX5_init_75 : decode cX5_init 75 = .ok (.bipush 8, 2) := by decide +kernel
theorem dX5_init_77 : decode cX5_init 77 = .ok (.newarray .int, 2) := by decide +kernel
theorem dX5_init_79 : decode cX5_init 79 = .ok (.putfield 39, 3) := by decide +kernel
theorem dX5_init_82 : decode cX5_init 82 = .ok (.aload_n 0, 1) := by decide +kernel
theorem dX5_init_83 : decode cX5_init 83 = .ok (.bipush 10, 2) := by decide +kernel
theorem dX5_init_85 : decode cX5_init 85 = .ok (.newarray .int, 2) := by decide +kernel
theorem dX5_init_87 : decode cX5_init 87 = .ok (.putfield 42, 3) := by decide +kernel
theorem dX5_init_90 : decode cX5_init 90 = .ok (.return_, 1) := by decide +kernel
theorem dX5_open_0 : decode cX5_open 0 = .ok (.aload_n 0, 1) := by decide +kernel
theorem dX5_open_1 : decode cX5_open 1 = .ok (.iload_n 1, 1) := by decide +kernel
theorem dX5_open_2 : decode cX5_open 2 = .ok (.putfield 45, 3) := by decide +kernel
theorem dX5_open_5 : decode cX5_open 5 = .ok (.aload_n 0, 1) := by decide +kernel
theorem dX5_open_6 : decode cX5_open 6 = .ok (.iload_n 2, 1) := by decide +kernel
theorem dX5_open_7 : decode cX5_open 7 = .ok (.putfield 49, 3) := by decide +kernel
theorem dX5_open_10 : decode cX5_open 10 = .ok (.aload_n 0, 1) := by decide +kernel
theorem dX5_open_11 : decode cX5_open 11 = .ok (.iconst 0, 1) := by decide +kernel
theorem dX5_open_12 : decode cX5_open 12 = .ok (.putfield 52, 3) := by decide +kernel
theorem dX5_open_15 : decode cX5_open 15 = .ok (.aload_n 0, 1) := by decide +kernel
theorem dX5_open_16 : decode cX5_open 16 = .ok (.iconst 0, 1) := by decide +kernel
theorem dX5_open_17 : decode cX5_open 17 = .ok (.putfield 55, 3) := by decide +kernel
theorem dX5_open_20 : decode cX5_open 20 = .ok (.aload_n 0, 1) := by decide +kernel
theorem dX5_open_21 : decode cX5_open 21 = .ok (.getfield 18, 3) := by decide +kernel
theorem dX5_open_24 : decode cX5_open 24 = .ok (.iconst 0, 1) := by decide +kernel
theorem dX5_open_25 : decode cX5_open 25 = .ok (.invokestatic 58, 3) := by decide +kernel
theorem dX5_open_28 : decode cX5_open 28 = .ok (.aload_n 0, 1) := by decide +kernel
theorem dX5_open_29 : decode cX5_open 29 = .ok (.getfield 21, 3) := by decide +kernel
theorem dX5_open_32 : decode cX5_open 32 = .ok (.iconst (-1), 1) := by decide +kernel
theorem dX5_open_33 : decode cX5_open 33 = .ok (.invokestatic 58, 3) := by decide +kernel
theorem dX5_open_36 : decode cX5_open 36 = .ok (.aload_n 0, 1) := by decide +kernel
theorem dX5_open_37 : decode cX5_open 37 = .ok (.getfield 24, 3) := by decide +kernel
theorem dX5_open_40 : decode cX5_open 40 = .ok (.iconst (-1), 1) := by decide +kernel
theorem dX5_open_41 : decode cX5_open 41 = .ok (.invokestatic 58, 3) := by decide +kernel
theorem dX5_open_44 : decode cX5_open 44 = .ok (.aload_n 0, 1) := by decide +kernel
theorem dX5_open_45 : decode cX5_open 45 = .ok (.getfield 30, 3) := by decide +kernel
theorem dX5_open_48 : decode cX5_open 48 = .ok (.iconst 2, 1) := by decide +kernel
theorem dX5_open_49 : decode cX5_open 49 = .ok (.invokestatic 58, 3) := by decide +kernel
theorem dX5_open_52 : decode cX5_open 52 = .ok (.return_, 1) := by decide +kernel
theorem dX5_copyFrom_0 : decode cX5_copyFrom 0 = .ok (.aload_n 0, 1) := by decide +kernel
theorem dX5_copyFrom_1 : decode cX5_copyFrom 1 = .ok (.aload_n 1, 1) := by decide +kernel
theorem dX5_copyFrom_2 : decode cX5_copyFrom 2 = .ok (.getfield 45, 3) := by decide +kernel
theorem dX5_copyFrom_5 : decode cX5_copyFrom 5 = .ok (.putfield 45, 3) := by decide +kernel
theorem dX5_copyFrom_8 : decode cX5_copyFrom 8 = .ok (.aload_n 0, 1) := by decide +kernel
theorem dX5_copyFrom_9 : decode cX5_copyFrom 9 = .ok (.aload_n 1, 1) := by decide +kernel
theorem dX5_copyFrom_10 : decode cX5_copyFrom 10 = .ok (.getfield 49, 3) := by decide +kernel
theorem dX5_copyFrom_13 : decode cX5_copyFrom 13 = .ok (.putfield 49, 3) := by decide +kernel
theorem dX5_copyFrom_16 : decode cX5_copyFrom 16 = .ok (.aload_n 0, 1) := by decide +kernel
theorem dX5_copyFrom_17 : decode cX5_copyFrom 17 = .ok (.aload_n 1, 1) := by decide +kernel
theorem dX5_copyFrom_18 : decode cX5_copyFrom 18 = .ok (.getfield 52, 3) := by decide +kernel
theorem dX5_copyFrom_21 : decode cX5_copyFrom 21 = .ok (.putfield 52, 3) := by decide +kernel
theorem dX5_copyFrom_24 : decode cX5_copyFrom 24 = .ok (.aload_n 0, 1) := by decide +kernel
theorem dX5_copyFrom_25 : decode cX5_copyFrom 25 = .ok (.aload_n 1, 1) := by decide +kernel
theorem dX5_copyFrom_26 : decode cX5_copyFrom 26 = .ok (.getfield 55, 3) := by decide +kernel
theorem dX5_copyFrom_29 : decode cX5_copyFrom 29 = .ok (.putfield 55, 3) := by decide +kernel
theorem dX5_copyFrom_32 : decode cX5_copyFrom 32 = .ok (.aload_n 1, 1) := by decide +kernel
theorem dX5_copyFrom_33 : decode cX5_copyFrom 33 = .ok (.getfield 9, 3) := by decide +kernel
theorem dX5_copyFrom_36 : decode cX5_copyFrom 36 = .ok (.aload_n 0, 1) := by decide +kernel
theorem dX5_copyFrom_37 : decode cX5_copyFrom 37 = .ok (.getfield 9, 3) := by decide +kernel
theorem dX5_copyFrom_40 : decode cX5_copyFrom 40 = .ok (.invokestatic 64, 3) := by decide +kernel
theorem dX5_copyFrom_43 : decode cX5_copyFrom 43 = .ok (.aload_n 1, 1) := by decide +kernel
theorem dX5_copyFrom_44 : decode cX5_copyFrom 44 = .ok (.getfield 15, 3) := by decide +kernel
theorem dX5_copyFrom_47 : decode cX5_copyFrom 47 = .ok (.aload_n 0, 1) := by decide +kernel
theorem dX5_copyFrom_48 : decode cX5_copyFrom 48 = .ok (.getfield 15, 3) := by decide +kernel
theorem dX5_copyFrom_51 : decode cX5_copyFrom 51 = .ok (.invokestatic 64, 3) := by decide +kernel
theorem dX5_copyFrom_54 : decode cX5_copyFrom 54 = .ok (.aload_n 1, 1) := by decide +kernel
theorem dX5_copyFrom_55 : decode cX5_copyFrom 55 = .ok (.getfield 18, 3) := by decide +kernel
theorem dX5_copyFrom_58 : decode cX5_copyFrom 58 = .ok (.aload_n 0, 1) := by decide +kernel
theorem dX5_copyFrom_59 : decode cX5_copyFrom 59 = .ok (.getfield 18, 3) := by decide +kernel
theorem dX5_copyFrom_62 : decode cX5_copyFrom 62 = .ok (.invokestatic 64, 3) := by decide +kernel
theorem dX5_copyFrom_65 : decode cX5_copyFrom 65 = .ok (.aload_n 1, 1) := by decide +kernel
theorem dX5_copyFrom_66 : decode cX5_copyFrom 66 = .ok (.getfield 21, 3) := by decide +kernel
theorem dX5_copyFrom_69 : decode cX5_copyFrom 69 = .ok (.aload_n 0, 1) := by decide +kernel
theorem dX5_copyFrom_70 : decode cX5_copyFrom 70 = .ok (.getfield 21, 3) := by decide +kernel
theorem dX5_copyFrom_73 : decode cX5_copyFrom 73 = .ok (.invokestatic 64, 3) := by decide +kernel
theorem dX5_copyFrom_76 : decode cX5_copyFrom 76 = .ok (.aload_n 1, 1) := by decide +kernel
theorem dX5_copyFrom_77 : decode cX5_copyFrom 77 = .ok (.getfield 24, 3) := by decide +kernel
theorem dX5_copyFrom_80 : decode cX5_copyFrom 80 = .ok (.aload_n 0, 1) := by decide +kernel
theorem dX5_copyFrom_81 : decode cX5_copyFrom 81 = .ok (.getfield 24, 3) := by decide +kernel
theorem dX5_copyFrom_84 : decode cX5_copyFrom 84 = .ok (.invokestatic 64, 3) := by decide +kernel
theorem dX5_copyFrom_87 : decode cX5_copyFrom 87 = .ok (.aload_n 1, 1) := by decide +kernel
theorem dX5_copyFrom_88 : decode cX5_copyFrom 88 = .ok (.getfield 27, 3) := by decide +kernel
theorem dX5_copyFrom_91 : decode cX5_copyFrom 91 = .ok (.aload_n 0, 1) := by decide +kernel
theorem dX5_copyFrom_92 : decode cX5_copyFrom 92 = .ok (.getfield 27, 3) := by decide +kernel
theorem dX5_copyFrom_95 : decode cX5_copyFrom 95 = .ok (.invokestatic 64, 3) := by decide +kernel
theorem dX5_copyFrom_98 : decode cX5_copyFrom 98 = .ok (.aload_n 1, 1) := by decide +kernel
theorem dX5_copyFrom_99 : decode cX5_copyFrom 99 = .ok (.getfield 30, 3) := by decide +kernel
theorem dX5_copyFrom_102 : decode cX5_copyFrom 102 = .ok (.aload_n 0, 1) := by decide +kernel
theorem dX5_copyFrom_103 : decode cX5_copyFrom 103 = .ok (.getfield 30, 3) := by decide +kernel
theorem dX5_copyFrom_106 : decode cX5_copyFrom 106 = .ok (.invokestatic 64, 3) := by decide +kernel
theorem dX5_copyFrom_109 : decode cX5_copyFrom 109 = .ok (.aload_n 1, 1) := by decide +kernel
theorem dX5_copyFrom_110 : decode cX5_copyFrom 110 = .ok (.getfield 33, 3) := by decide +kernel
theorem dX5_copyFrom_113 : decode cX5_copyFrom 113 = .ok (.aload_n 0, 1) := by decide +kernel
theorem dX5_copyFrom_114 : decode cX5_copyFrom 114 = .ok (.getfield 33, 3) := by decide +kernel
theorem dX5_copyFrom_117 : decode cX5_copyFrom 117 = .ok (.invokestatic 64, 3) := by decide +kernel
theorem dX5_copyFrom_120 : decode cX5_copyFrom 120 = .ok (.aload_n 1, 1) := by decide +kernel
theorem dX5_copyFrom_121 : decode cX5_copyFrom 121 = .ok (.getfield 36, 3) := by decide +kernel
theorem dX5_copyFrom_124 : decode cX5_copyFrom 124 = .ok (.aload_n 0, 1) := by decide +kernel
theorem dX5_copyFrom_125 : decode cX5_copyFrom 125 = .ok (.getfield 36, 3) := by decide +kernel
theorem dX5_copyFrom_128 : decode cX5_copyFrom 128 = .ok (.invokestatic 64, 3) := by decide +kernel
theorem dX5_copyFrom_131 : decode cX5_copyFrom 131 = .ok (.aload_n 1, 1) := by decide +kernel
theorem dX5_copyFrom_132 : decode cX5_copyFrom 132 = .ok (.getfield 39, 3) := by decide +kernel
theorem dX5_copyFrom_135 : decode cX5_copyFrom 135 = .ok (.aload_n 0, 1) := by decide +kernel
theorem dX5_copyFrom_136 : decode cX5_copyFrom 136 = .ok (.getfield 39, 3) := by decide +kernel
theorem dX5_copyFrom_139 : decode cX5_copyFrom 139 = .ok (.invokestatic 64, 3) := by decide +kernel
theorem dX5_copyFrom_142 : decode cX5_copyFrom 142 = .ok (.return_, 1) := by decide +kernel
theorem dX5_hasGlove_0 : decode cX5_hasGlove 0 = .ok (.iload_n 1, 1) := by decide +kernel
theorem dX5_hasGlove_1 : decode cX5_hasGlove 1 = .ok (.ifCond .lt 15, 3) := by decide +kernel
theorem dX5_hasGlove_4 : decode cX5_hasGlove 4 = .ok (.iload_n 1, 1) := by decide +kernel
theorem dX5_hasGlove_5 : decode cX5_hasGlove 5 = .ok (.aload_n 0, 1) := by decide +kernel
theorem dX5_hasGlove_6 : decode cX5_hasGlove 6 = .ok (.getfield 45, 3) := by decide +kernel
theorem dX5_hasGlove_9 : decode cX5_hasGlove 9 = .ok (.if_icmp .ge 7, 3) := by decide +kernel
theorem dX5_hasGlove_12 : decode cX5_hasGlove 12 = .ok (.iconst 1, 1) := by decide +kernel
theorem dX5_hasGlove_13 : decode cX5_hasGlove 13 = .ok (.goto 4, 3) := by decide +kernel
theorem dX5_hasGlove_16 : decode cX5_hasGlove 16 = .ok (.iconst 0, 1) := by decide +kernel
theorem dX5_hasGlove_17 : decode cX5_hasGlove 17 = .ok (.ireturn, 1) := by decide +kernel
theorem dX5_hasWearer_0 : decode cX5_hasWearer 0 = .ok (.iload_n 1, 1) := by decide +kernel
theorem dX5_hasWearer_1 : decode cX5_hasWearer 1 = .ok (.ifCond .lt 15, 3) := by decide +kernel
theorem dX5_hasWearer_4 : decode cX5_hasWearer 4 = .ok (.iload_n 1, 1) := by decide +kernel
theorem dX5_hasWearer_5 : decode cX5_hasWearer 5 = .ok (.aload_n 0, 1) := by decide +kernel
theorem dX5_hasWearer_6 : decode cX5_hasWearer 6 = .ok (.getfield 49, 3) := by decide +kernel
theorem dX5_hasWearer_9 : decode cX5_hasWearer 9 = .ok (.if_icmp .ge 7, 3) := by decide +kernel
theorem dX5_hasWearer_12 : decode cX5_hasWearer 12 = .ok (.iconst 1, 1) := by decide +kernel
theorem dX5_hasWearer_13 : decode cX5_hasWearer 13 = .ok (.goto 4, 3) := by decide +kernel
theorem dX5_hasWearer_16 : decode cX5_hasWearer 16 = .ok (.iconst 0, 1) := by decide +kernel
theorem dX5_hasWearer_17 : decode cX5_hasWearer 17 = .ok (.ireturn, 1) := by decide +kernel
theorem dX5_putOn_0 : decode cX5_putOn 0 = .ok (.aload_n 0, 1) := by decide +kernel
theorem dX5_putOn_1 : decode cX5_putOn 1 = .ok (.getfield 21, 3) := by decide +kernel
theorem dX5_putOn_4 : decode cX5_putOn 4 = .ok (.iload_n 1, 1) := by decide +kernel
theorem dX5_putOn_5 : decode cX5_putOn 5 = .ok (.iload_n 2, 1) := by decide +kernel
theorem dX5_putOn_6 : decode cX5_putOn 6 = .ok (.invokestatic 68, 3) := by decide +kernel
theorem dX5_putOn_9 : decode cX5_putOn 9 = .ok (.aload_n 0, 1) := by decide +kernel
theorem dX5_putOn_10 : decode cX5_putOn 10 = .ok (.getfield 24, 3) := by decide +kernel
theorem dX5_putOn_13 : decode cX5_putOn 13 = .ok (.iload_n 1, 1) := by decide +kernel
theorem dX5_putOn_14 : decode cX5_putOn 14 = .ok (.iload_n 3, 1) := by decide +kernel
theorem dX5_putOn_15 : decode cX5_putOn 15 = .ok (.invokestatic 68, 3) := by decide +kernel
theorem dX5_putOn_18 : decode cX5_putOn 18 = .ok (.return_, 1) := by decide +kernel
theorem dX5_takeOff_0 : decode cX5_takeOff 0 = .ok (.aload_n 0, 1) := by decide +kernel
theorem dX5_takeOff_1 : decode cX5_takeOff 1 = .ok (.getfield 21, 3) := by decide +kernel
theorem dX5_takeOff_4 : decode cX5_takeOff 4 = .ok (.iload_n 1, 1) := by decide +kernel
theorem dX5_takeOff_5 : decode cX5_takeOff 5 = .ok (.iconst (-1), 1) := by decide +kernel
theorem dX5_takeOff_6 : decode cX5_takeOff 6 = .ok (.invokestatic 68, 3) := by decide +kernel
theorem dX5_takeOff_9 : decode cX5_takeOff 9 = .ok (.aload_n 0, 1) := by decide +kernel
theorem dX5_takeOff_10 : decode cX5_takeOff 10 = .ok (.getfield 24, 3) := by decide +kernel
theorem dX5_takeOff_13 : decode cX5_takeOff 13 = .ok (.iload_n 1, 1) := by decide +kernel
theorem dX5_takeOff_14 : decode cX5_takeOff 14 = .ok (.iconst (-1), 1) := by decide +kernel
theorem dX5_takeOff_15 : decode cX5_takeOff 15 = .ok (.invokestatic 68, 3) := by decide +kernel
theorem dX5_takeOff_18 : decode cX5_takeOff 18 = .ok (.return_, 1) := by decide +kernel
theorem dX5_gloveOn_0 : decode cX5_gloveOn 0 = .ok (.iconst 0, 1) := by decide +kernel
theorem dX5_gloveOn_1 : decode cX5_gloveOn 1 = .ok (.istore_n 3, 1) := by decide +kernel
theorem dX5_gloveOn_2 : decode cX5_gloveOn 2 = .ok (.iload_n 3, 1) := by decide +kernel
theorem dX5_gloveOn_3 : decode cX5_gloveOn 3 = .ok (.aload_n 0, 1) := by decide +kernel
theorem dX5_gloveOn_4 : decode cX5_gloveOn 4 = .ok (.getfield 45, 3) := by decide +kernel
theorem dX5_gloveOn_7 : decode cX5_gloveOn 7 = .ok (.if_icmp .ge 35, 3) := by decide +kernel
theorem dX5_gloveOn_10 : decode cX5_gloveOn 10 = .ok (.aload_n 0, 1) := by decide +kernel
theorem dX5_gloveOn_11 : decode cX5_gloveOn 11 = .ok (.getfield 21, 3) := by decide +kernel
theorem dX5_gloveOn_14 : decode cX5_gloveOn 14 = .ok (.iload_n 3, 1) := by decide +kernel
theorem dX5_gloveOn_15 : decode cX5_gloveOn 15 = .ok (.invokestatic 72, 3) := by decide +kernel
theorem dX5_gloveOn_18 : decode cX5_gloveOn 18 = .ok (.iload_n 1, 1) := by decide +kernel
theorem dX5_gloveOn_19 : decode cX5_gloveOn 19 = .ok (.if_icmp .ne 17, 3) := by decide +kernel
theorem dX5_gloveOn_22 : decode cX5_gloveOn 22 = .ok (.aload_n 0, 1) := by decide +kernel
theorem dX5_gloveOn_23 : decode cX5_gloveOn 23 = .ok (.getfield 24, 3) := by decide +kernel
theorem dX5_gloveOn_26 : decode cX5_gloveOn 26 = .ok (.iload_n 3, 1) := by decide +kernel
theorem dX5_gloveOn_27 : decode cX5_gloveOn 27 = .ok (.invokestatic 72, 3) := by decide +kernel
theorem dX5_gloveOn_30 : decode cX5_gloveOn 30 = .ok (.iload_n 2, 1) := by decide +kernel
theorem dX5_gloveOn_31 : decode cX5_gloveOn 31 = .ok (.if_icmp .ne 5, 3) := by decide +kernel
theorem dX5_gloveOn_34 : decode cX5_gloveOn 34 = .ok (.iload_n 3, 1) := by decide +kernel
theorem dX5_gloveOn_35 : decode cX5_gloveOn 35 = .ok (.ireturn, 1) := by decide +kernel
theorem dX5_gloveOn_36 : decode cX5_gloveOn 36 = .ok (.iinc 3 1, 3) := by decide +kernel
theorem dX5_gloveOn_39 : decode cX5_gloveOn 39 = .ok (.goto (-37), 3) := by decide +kernel
theorem dX5_gloveOn_42 : decode cX5_gloveOn 42 = .ok (.iconst (-1), 1) := by decide +kernel
theorem dX5_gloveOn_43 : decode cX5_gloveOn 43 = .ok (.ireturn, 1) := by decide +kernel
theorem dX5_heldBy_0 : decode cX5_heldBy 0 = .ok (.iconst 0, 1) := by decide +kernel
theorem dX5_heldBy_1 : decode cX5_heldBy 1 = .ok (.istore_n 2, 1) := by decide +kernel
theorem dX5_heldBy_2 : decode cX5_heldBy 2 = .ok (.iconst 0, 1) := by decide +kernel
theorem dX5_heldBy_3 : decode cX5_heldBy 3 = .ok (.istore_n 3, 1) := by decide +kernel
theorem dX5_heldBy_4 : decode cX5_heldBy 4 = .ok (.iload_n 3, 1) := by decide +kernel
theorem dX5_heldBy_5 : decode cX5_heldBy 5 = .ok (.aload_n 0, 1) := by decide +kernel
theorem dX5_heldBy_6 : decode cX5_heldBy 6 = .ok (.getfield 45, 3) := by decide +kernel
theorem dX5_heldBy_9 : decode cX5_heldBy 9 = .ok (.if_icmp .ge 27, 3) := by decide +kernel
theorem dX5_heldBy_12 : decode cX5_heldBy 12 = .ok (.aload_n 0, 1) := by decide +kernel
theorem dX5_heldBy_13 : decode cX5_heldBy 13 = .ok (.getfield 21, 3) := by decide +kernel
theorem dX5_heldBy_16 : decode cX5_heldBy 16 = .ok (.iload_n 3, 1) := by decide +kernel
theorem dX5_heldBy_17 : decode cX5_heldBy 17 = .ok (.invokestatic 72, 3) := by decide +kernel
theorem dX5_heldBy_20 : decode cX5_heldBy 20 = .ok (.iload_n 1, 1) := by decide +kernel
theorem dX5_heldBy_21 : decode cX5_heldBy 21 = .ok (.if_icmp .ne 9, 3) := by decide +kernel
theorem dX5_heldBy_24 : decode cX5_heldBy 24 = .ok (.iload_n 2, 1) := by decide +kernel
theorem dX5_heldBy_25 : decode cX5_heldBy 25 = .ok (.iconst 1, 1) := by decide +kernel
theorem dX5_heldBy_26 : decode cX5_heldBy 26 = .ok (.iload_n 3, 1) := by decide +kernel
theorem dX5_heldBy_27 : decode cX5_heldBy 27 = .ok (.ishl, 1) := by decide +kernel
theorem dX5_heldBy_28 : decode cX5_heldBy 28 = .ok (.ior, 1) := by decide +kernel
theorem dX5_heldBy_29 : decode cX5_heldBy 29 = .ok (.istore_n 2, 1) := by decide +kernel
theorem dX5_heldBy_30 : decode cX5_heldBy 30 = .ok (.iinc 3 1, 3) := by decide +kernel
theorem dX5_heldBy_33 : decode cX5_heldBy 33 = .ok (.goto (-29), 3) := by decide +kernel
theorem dX5_heldBy_36 : decode cX5_heldBy 36 = .ok (.iload_n 2, 1) := by decide +kernel
theorem dX5_heldBy_37 : decode cX5_heldBy 37 = .ok (.ireturn, 1) := by decide +kernel
theorem dX5_passHour_0 : decode cX5_passHour 0 = .ok (.aload_n 0, 1) := by decide +kernel
theorem dX5_passHour_1 : decode cX5_passHour 1 = .ok (.dup, 1) := by decide +kernel
theorem dX5_passHour_2 : decode cX5_passHour 2 = .ok (.getfield 52, 3) := by decide +kernel
theorem dX5_passHour_5 : decode cX5_passHour 5 = .ok (.iconst 1, 1) := by decide +kernel
theorem dX5_passHour_6 : decode cX5_passHour 6 = .ok (.iadd, 1) := by decide +kernel
theorem dX5_passHour_7 : decode cX5_passHour 7 = .ok (.putfield 52, 3) := by decide +kernel
theorem dX5_passHour_10 : decode cX5_passHour 10 = .ok (.iconst 0, 1) := by decide +kernel
theorem dX5_passHour_11 : decode cX5_passHour 11 = .ok (.istore_n 1, 1) := by decide +kernel
theorem dX5_passHour_12 : decode cX5_passHour 12 = .ok (.iload_n 1, 1) := by decide +kernel
theorem dX5_passHour_13 : decode cX5_passHour 13 = .ok (.aload_n 0, 1) := by decide +kernel
theorem dX5_passHour_14 : decode cX5_passHour 14 = .ok (.getfield 45, 3) := by decide +kernel
theorem dX5_passHour_17 : decode cX5_passHour 17 = .ok (.if_icmp .ge 42, 3) := by decide +kernel
theorem dX5_passHour_20 : decode cX5_passHour 20 = .ok (.aload_n 0, 1) := by decide +kernel
theorem dX5_passHour_21 : decode cX5_passHour 21 = .ok (.getfield 21, 3) := by decide +kernel
theorem dX5_passHour_24 : decode cX5_passHour 24 = .ok (.iload_n 1, 1) := by decide +kernel
theorem dX5_passHour_25 : decode cX5_passHour 25 = .ok (.invokestatic 72, 3) := by decide +kernel
theorem dX5_passHour_28 : decode cX5_passHour 28 = .ok (.iconst (-1), 1) := by decide +kernel
theorem dX5_passHour_29 : decode cX5_passHour 29 = .ok (.if_icmp .eq 24, 3) := by decide +kernel
theorem dX5_passHour_32 : decode cX5_passHour 32 = .ok (.aload_n 0, 1) := by decide +kernel
theorem dX5_passHour_33 : decode cX5_passHour 33 = .ok (.getfield 18, 3) := by decide +kernel
theorem dX5_passHour_36 : decode cX5_passHour 36 = .ok (.iload_n 1, 1) := by decide +kernel
theorem dX5_passHour_37 : decode cX5_passHour 37 = .ok (.aload_n 0, 1) := by decide +kernel
theorem dX5_passHour_38 : decode cX5_passHour 38 = .ok (.getfield 18, 3) := by decide +kernel
theorem dX5_passHour_41 : decode cX5_passHour 41 = .ok (.iload_n 1, 1) := by decide +kernel
theorem dX5_passHour_42 : decode cX5_passHour 42 = .ok (.invokestatic 72, 3) := by decide +kernel
theorem dX5_passHour_45 : decode cX5_passHour 45 = .ok (.iconst 1, 1) := by decide +kernel
theorem dX5_passHour_46 : decode cX5_passHour 46 = .ok (.iadd, 1) := by decide +kernel
theorem dX5_passHour_47 : decode cX5_passHour 47 = .ok (.invokestatic 76, 3) := by decide +kernel
theorem dX5_passHour_50 : decode cX5_passHour 50 = .ok (.invokestatic 68, 3) := by decide +kernel
theorem dX5_passHour_53 : decode cX5_passHour 53 = .ok (.iinc 1 1, 3) := by decide +kernel
theorem dX5_passHour_56 : decode cX5_passHour 56 = .ok (.goto (-44), 3) := by decide +kernel
theorem dX5_passHour_59 : decode cX5_passHour 59 = .ok (.return_, 1) := by decide +kernel
theorem dX5_temper_0 : decode cX5_temper 0 = .ok (.aload_n 0, 1) := by decide +kernel
theorem dX5_temper_1 : decode cX5_temper 1 = .ok (.getfield 9, 3) := by decide +kernel
theorem dX5_temper_4 : decode cX5_temper 4 = .ok (.iload_n 1, 1) := by decide +kernel
theorem dX5_temper_5 : decode cX5_temper 5 = .ok (.invokestatic 72, 3) := by decide +kernel
theorem dX5_temper_8 : decode cX5_temper 8 = .ok (.aload_n 0, 1) := by decide +kernel
theorem dX5_temper_9 : decode cX5_temper 9 = .ok (.getfield 15, 3) := by decide +kernel
theorem dX5_temper_12 : decode cX5_temper 12 = .ok (.iload_n 1, 1) := by decide +kernel
theorem dX5_temper_13 : decode cX5_temper 13 = .ok (.invokestatic 72, 3) := by decide +kernel
theorem dX5_temper_16 : decode cX5_temper 16 = .ok (.aload_n 0, 1) := by decide +kernel
theorem dX5_temper_17 : decode cX5_temper 17 = .ok (.getfield 18, 3) := by decide +kernel
theorem dX5_temper_20 : decode cX5_temper 20 = .ok (.iload_n 1, 1) := by decide +kernel
theorem dX5_temper_21 : decode cX5_temper 21 = .ok (.invokestatic 72, 3) := by decide +kernel
theorem dX5_temper_24 : decode cX5_temper 24 = .ok (.iload_n 2, 1) := by decide +kernel
theorem dX5_temper_25 : decode cX5_temper 25 = .ok (.iadd, 1) := by decide +kernel
theorem dX5_temper_26 : decode cX5_temper 26 = .ok (.invokestatic 76, 3) := by decide +kernel
theorem dX5_temper_29 : decode cX5_temper 29 = .ok (.invokestatic 80, 3) := by decide +kernel
theorem dX5_temper_32 : decode cX5_temper 32 = .ok (.ireturn, 1) := by decide +kernel
theorem dX5_quarrels_0 : decode cX5_quarrels 0 = .ok (.iconst 0, 1) := by decide +kernel
theorem dX5_quarrels_1 : decode cX5_quarrels 1 = .ok (.istore_n 2, 1) := by decide +kernel
theorem dX5_quarrels_2 : decode cX5_quarrels 2 = .ok (.aload_n 0, 1) := by decide +kernel
theorem dX5_quarrels_3 : decode cX5_quarrels 3 = .ok (.iload_n 1, 1) := by decide +kernel
theorem dX5_quarrels_4 : decode cX5_quarrels 4 = .ok (.iconst 0, 1) := by decide +kernel
theorem dX5_quarrels_5 : decode cX5_quarrels 5 = .ok (.invokevirtual 84, 3) := by decide +kernel
theorem dX5_quarrels_8 : decode cX5_quarrels 8 = .ok (.istore_n 3, 1) := by decide +kernel
theorem dX5_quarrels_9 : decode cX5_quarrels 9 = .ok (.iconst 0, 1) := by decide +kernel
theorem dX5_quarrels_10 : decode cX5_quarrels 10 = .ok (.istore 4, 2) := by decide +kernel
theorem dX5_quarrels_12 : decode cX5_quarrels 12 = .ok (.iload 4, 2) := by decide +kernel
theorem dX5_quarrels_14 : decode cX5_quarrels 14 = .ok (.aload_n 0, 1) := by decide +kernel
theorem dX5_quarrels_15 : decode cX5_quarrels 15 = .ok (.getfield 45, 3) := by decide +kernel
theorem dX5_quarrels_18 : decode cX5_quarrels 18 = .ok (.if_icmp .ge 36, 3) := by decide +kernel
theorem dX5_quarrels_21 : decode cX5_quarrels 21 = .ok (.iload_n 3, 1) := by decide +kernel
theorem dX5_quarrels_22 : decode cX5_quarrels 22 = .ok (.aload_n 0, 1) := by decide +kernel
theorem dX5_quarrels_23 : decode cX5_quarrels 23 = .ok (.iload 4, 2) := by decide +kernel
theorem dX5_quarrels_25 : decode cX5_quarrels 25 = .ok (.iconst 0, 1) := by decide +kernel
theorem dX5_quarrels_26 : decode cX5_quarrels 26 = .ok (.invokevirtual 84, 3) := by decide +kernel
theorem dX5_quarrels_29 : decode cX5_quarrels 29 = .ok (.isub, 1) := by decide +kernel
theorem dX5_quarrels_30 : decode cX5_quarrels 30 = .ok (.invokestatic 88, 3) := by decide +kernel
theorem dX5_quarrels_33 : decode cX5_quarrels 33 = .ok (.istore 5, 2) := by decide +kernel
theorem dX5_quarrels_35 : decode cX5_quarrels 35 = .ok (.iload 5, 2) := by decide +kernel
theorem dX5_quarrels_37 : decode cX5_quarrels 37 = .ok (.iconst 4, 1) := by decide +kernel
theorem dX5_quarrels_38 : decode cX5_quarrels 38 = .ok (.if_icmp .lt 10, 3) := by decide +kernel
theorem dX5_quarrels_41 : decode cX5_quarrels 41 = .ok (.iload_n 2, 1) := by decide +kernel
theorem dX5_quarrels_42 : decode cX5_quarrels 42 = .ok (.iconst 1, 1) := by decide +kernel
theorem dX5_quarrels_43 : decode cX5_quarrels 43 = .ok (.iload 4, 2) := by decide +kernel
theorem dX5_quarrels_45 : decode cX5_quarrels 45 = .ok (.ishl, 1) := by decide +kernel
theorem dX5_quarrels_46 : decode cX5_quarrels 46 = .ok (.ior, 1) := by decide +kernel
theorem dX5_quarrels_47 : decode cX5_quarrels 47 = .ok (.istore_n 2, 1) := by decide +kernel
theorem dX5_quarrels_48 : decode cX5_quarrels 48 = .ok (.iinc 4 1, 3) := by decide +kernel
theorem dX5_quarrels_51 : decode cX5_quarrels 51 = .ok (.goto (-39), 3) := by decide +kernel
theorem dX5_quarrels_54 : decode cX5_quarrels 54 = .ok (.iload_n 2, 1) := by decide +kernel
theorem dX5_quarrels_55 : decode cX5_quarrels 55 = .ok (.ireturn, 1) := by decide +kernel
theorem dX5_moodWith_0 : decode cX5_moodWith 0 = .ok (.aload_n 0, 1) := by decide +kernel
theorem dX5_moodWith_1 : decode cX5_moodWith 1 = .ok (.getfield 27, 3) := by decide +kernel
theorem dX5_moodWith_4 : decode cX5_moodWith 4 = .ok (.iload_n 1, 1) := by decide +kernel
theorem dX5_moodWith_5 : decode cX5_moodWith 5 = .ok (.invokestatic 72, 3) := by decide +kernel
theorem dX5_moodWith_8 : decode cX5_moodWith 8 = .ok (.istore 4, 2) := by decide +kernel
theorem dX5_moodWith_10 : decode cX5_moodWith 10 = .ok (.bipush 9, 2) := by decide +kernel
theorem dX5_moodWith_12 : decode cX5_moodWith 12 = .ok (.istore 5, 2) := by decide +kernel
theorem dX5_moodWith_14 : decode cX5_moodWith 14 = .ok (.iconst 0, 1) := by decide +kernel
theorem dX5_moodWith_15 : decode cX5_moodWith 15 = .ok (.istore 6, 2) := by decide +kernel
theorem dX5_moodWith_17 : decode cX5_moodWith 17 = .ok (.iconst 0, 1) := by decide +kernel
theorem dX5_moodWith_18 : decode cX5_moodWith 18 = .ok (.istore 7, 2) := by decide +kernel
theorem dX5_moodWith_20 : decode cX5_moodWith 20 = .ok (.iload 7, 2) := by decide +kernel
theorem dX5_moodWith_22 : decode cX5_moodWith 22 = .ok (.aload_n 0, 1) := by decide +kernel
theorem dX5_moodWith_23 : decode cX5_moodWith 23 = .ok (.getfield 45, 3) := by decide +kernel
theorem dX5_moodWith_26 : decode cX5_moodWith 26 = .ok (.if_icmp .ge 52, 3) := by decide +kernel
theorem dX5_moodWith_29 : decode cX5_moodWith 29 = .ok (.iload_n 2, 1) := by decide +kernel
theorem dX5_moodWith_30 : decode cX5_moodWith 30 = .ok (.iload 7, 2) := by decide +kernel
theorem dX5_moodWith_32 : decode cX5_moodWith 32 = .ok (.invokestatic 93, 3) := by decide +kernel
theorem dX5_moodWith_35 : decode cX5_moodWith 35 = .ok (.ifCond .eq 37, 3) := by decide +kernel
theorem dX5_moodWith_38 : decode cX5_moodWith 38 = .ok (.aload_n 0, 1) := by decide +kernel
theorem dX5_moodWith_39 : decode cX5_moodWith 39 = .ok (.iload 7, 2) := by decide +kernel
theorem dX5_moodWith_41 : decode cX5_moodWith 41 = .ok (.iload_n 3, 1) := by decide +kernel
theorem dX5_moodWith_42 : decode cX5_moodWith 42 = .ok (.invokevirtual 84, 3) := by decide +kernel
theorem dX5_moodWith_45 : decode cX5_moodWith 45 = .ok (.istore 8, 2) := by decide +kernel
theorem dX5_moodWith_47 : decode cX5_moodWith 47 = .ok (.iload 4, 2) := by decide +kernel
theorem dX5_moodWith_49 : decode cX5_moodWith 49 = .ok (.iload 8, 2) := by decide +kernel
theorem dX5_moodWith_51 : decode cX5_moodWith 51 = .ok (.iadd, 1) := by decide +kernel
theorem dX5_moodWith_52 : decode cX5_moodWith 52 = .ok (.istore 4, 2) := by decide +kernel
theorem dX5_moodWith_54 : decode cX5_moodWith 54 = .ok (.iload 5, 2) := by decide +kernel
theorem dX5_moodWith_56 : decode cX5_moodWith 56 = .ok (.iload 8, 2) := by decide +kernel
theorem dX5_moodWith_58 : decode cX5_moodWith 58 = .ok (.invokestatic 97, 3) := by decide +kernel
theorem dX5_moodWith_61 : decode cX5_moodWith 61 = .ok (.istore 5, 2) := by decide +kernel
theorem dX5_moodWith_63 : decode cX5_moodWith 63 = .ok (.iload 6, 2) := by decide +kernel
theorem dX5_moodWith_65 : decode cX5_moodWith 65 = .ok (.iload 8, 2) := by decide +kernel
theorem dX5_moodWith_67 : decode cX5_moodWith 67 = .ok (.invokestatic 100, 3) := by decide +kernel
theorem dX5_moodWith_70 : decode cX5_moodWith 70 = .ok (.istore 6, 2) := by decide +kernel
theorem dX5_moodWith_72 : decode cX5_moodWith 72 = .ok (.iinc 7 1, 3) := by decide +kernel
theorem dX5_moodWith_75 : decode cX5_moodWith 75 = .ok (.goto (-55), 3) := by decide +kernel
theorem dX5_moodWith_78 : decode cX5_moodWith 78 = .ok (.iload 6, 2) := by decide +kernel
theorem dX5_moodWith_80 : decode cX5_moodWith 80 = .ok (.iload 5, 2) := by decide +kernel
theorem dX5_moodWith_82 : decode cX5_moodWith 82 = .ok (.isub, 1) := by decide +kernel
theorem dX5_moodWith_83 : decode cX5_moodWith 83 = .ok (.iconst 4, 1) := by decide +kernel
theorem dX5_moodWith_84 : decode cX5_moodWith 84 = .ok (.if_icmp .lt 10, 3) := by decide +kernel
theorem dX5_moodWith_87 : decode cX5_moodWith 87 = .ok (.iload 4, 2) := by decide +kernel
theorem dX5_moodWith_89 : decode cX5_moodWith 89 = .ok (.iconst 3, 1) := by decide +kernel
theorem dX5_moodWith_90 : decode cX5_moodWith 90 = .ok (.iadd, 1) := by decide +kernel
theorem dX5_moodWith_91 : decode cX5_moodWith 91 = .ok (.goto 5, 3) := by decide +kernel
theorem dX5_moodWith_94 : decode cX5_moodWith 94 = .ok (.iload 4, 2) := by decide +kernel
theorem dX5_moodWith_96 : decode cX5_moodWith 96 = .ok (.ireturn, 1) := by decide +kernel
theorem dX5_moodOf_0 : decode cX5_moodOf 0 = .ok (.aload_n 0, 1) := by decide +kernel
theorem dX5_moodOf_1 : decode cX5_moodOf 1 = .ok (.iload_n 1, 1) := by decide +kernel
theorem dX5_moodOf_2 : decode cX5_moodOf 2 = .ok (.aload_n 0, 1) := by decide +kernel
theorem dX5_moodOf_3 : decode cX5_moodOf 3 = .ok (.iload_n 1, 1) := by decide +kernel
theorem dX5_moodOf_4 : decode cX5_moodOf 4 = .ok (.invokevirtual 103, 3) := by decide +kernel
theorem dX5_moodOf_7 : decode cX5_moodOf 7 = .ok (.iload_n 2, 1) := by decide +kernel
theorem dX5_moodOf_8 : decode cX5_moodOf 8 = .ok (.invokevirtual 106, 3) := by decide +kernel
theorem dX5_moodOf_11 : decode cX5_moodOf 11 = .ok (.ireturn, 1) := by decide +kernel
theorem dX5_pleases_0 : decode cX5_pleases 0 = .ok (.aload_n 0, 1) := by decide +kernel
theorem dX5_pleases_1 : decode cX5_pleases 1 = .ok (.getfield 30, 3) := by decide +kernel
theorem dX5_pleases_4 : decode cX5_pleases 4 = .ok (.iload_n 1, 1) := by decide +kernel
theorem dX5_pleases_5 : decode cX5_pleases 5 = .ok (.invokestatic 72, 3) := by decide +kernel
theorem dX5_pleases_8 : decode cX5_pleases 8 = .ok (.istore_n 3, 1) := by decide +kernel
theorem dX5_pleases_9 : decode cX5_pleases 9 = .ok (.iload_n 3, 1) := by decide +kernel
theorem dX5_pleases_10 : decode cX5_pleases 10 = .ok (.iconst 2, 1) := by decide +kernel
theorem dX5_pleases_11 : decode cX5_pleases 11 = .ok (.if_icmp .eq 11, 3) := by decide +kernel
theorem dX5_pleases_14 : decode cX5_pleases 14 = .ok (.iload_n 3, 1) := by decide +kernel
theorem dX5_pleases_15 : decode cX5_pleases 15 = .ok (.iload_n 2, 1) := by decide +kernel
theorem dX5_pleases_16 : decode cX5_pleases 16 = .ok (.invokestatic 109, 3) := by decide +kernel
theorem dX5_pleases_19 : decode cX5_pleases 19 = .ok (.if_icmp .ne 7, 3) := by decide +kernel
theorem dX5_pleases_22 : decode cX5_pleases 22 = .ok (.iconst 1, 1) := by decide +kernel
theorem dX5_pleases_23 : decode cX5_pleases 23 = .ok (.goto 4, 3) := by decide +kernel
theorem dX5_pleases_26 : decode cX5_pleases 26 = .ok (.iconst 0, 1) := by decide +kernel
theorem dX5_pleases_27 : decode cX5_pleases 27 = .ok (.ireturn, 1) := by decide +kernel
theorem dX5_stillSet_0 : decode cX5_stillSet 0 = .ok (.aload_n 0, 1) := by decide +kernel
theorem dX5_stillSet_1 : decode cX5_stillSet 1 = .ok (.iload_n 1, 1) := by decide +kernel
theorem dX5_stillSet_2 : decode cX5_stillSet 2 = .ok (.invokevirtual 103, 3) := by decide +kernel
theorem dX5_stillSet_5 : decode cX5_stillSet 5 = .ok (.istore_n 2, 1) := by decide +kernel
theorem dX5_stillSet_6 : decode cX5_stillSet 6 = .ok (.iload_n 2, 1) := by decide +kernel
theorem dX5_stillSet_7 : decode cX5_stillSet 7 = .ok (.aload_n 0, 1) := by decide +kernel
theorem dX5_stillSet_8 : decode cX5_stillSet 8 = .ok (.iconst (-1), 1) := by decide +kernel
theorem dX5_stillSet_9 : decode cX5_stillSet 9 = .ok (.invokevirtual 103, 3) := by decide +kernel
theorem dX5_stillSet_12 : decode cX5_stillSet 12 = .ok (.ior, 1) := by decide +kernel
theorem dX5_stillSet_13 : decode cX5_stillSet 13 = .ok (.istore_n 3, 1) := by decide +kernel
theorem dX5_stillSet_14 : decode cX5_stillSet 14 = .ok (.iconst (-1), 1) := by decide +kernel
theorem dX5_stillSet_15 : decode cX5_stillSet 15 = .ok (.istore 4, 2) := by decide +kernel
theorem dX5_stillSet_17 : decode cX5_stillSet 17 = .ok (.bipush 7, 2) := by decide +kernel
theorem dX5_stillSet_19 : decode cX5_stillSet 19 = .ok (.istore 5, 2) := by decide +kernel
theorem dX5_stillSet_21 : decode cX5_stillSet 21 = .ok (.iconst 0, 1) := by decide +kernel
theorem dX5_stillSet_22 : decode cX5_stillSet 22 = .ok (.istore 6, 2) := by decide +kernel
theorem dX5_stillSet_24 : decode cX5_stillSet 24 = .ok (.iload 6, 2) := by decide +kernel
theorem dX5_stillSet_26 : decode cX5_stillSet 26 = .ok (.iconst 1, 1) := by decide +kernel
theorem dX5_stillSet_27 : decode cX5_stillSet 27 = .ok (.aload_n 0, 1) := by decide +kernel
theorem dX5_stillSet_28 : decode cX5_stillSet 28 = .ok (.getfield 45, 3) := by decide +kernel
theorem dX5_stillSet_31 : decode cX5_stillSet 31 = .ok (.ishl, 1) := by decide +kernel
theorem dX5_stillSet_32 : decode cX5_stillSet 32 = .ok (.if_icmp .ge 76, 3) := by decide +kernel
theorem dX5_stillSet_35 : decode cX5_stillSet 35 = .ok (.iload 6, 2) := by decide +kernel
theorem dX5_stillSet_37 : decode cX5_stillSet 37 = .ok (.iload_n 2, 1) := by decide +kernel
theorem dX5_stillSet_38 : decode cX5_stillSet 38 = .ok (.ixor, 1) := by decide +kernel
theorem dX5_stillSet_39 : decode cX5_stillSet 39 = .ok (.invokestatic 112, 3) := by decide +kernel
theorem dX5_stillSet_42 : decode cX5_stillSet 42 = .ok (.istore 7, 2) := by decide +kernel
theorem dX5_stillSet_44 : decode cX5_stillSet 44 = .ok (.iload 6, 2) := by decide +kernel
theorem dX5_stillSet_46 : decode cX5_stillSet 46 = .ok (.iload_n 3, 1) := by decide +kernel
theorem dX5_stillSet_47 : decode cX5_stillSet 47 = .ok (.iconst (-1), 1) := by decide +kernel
theorem dX5_stillSet_48 : decode cX5_stillSet 48 = .ok (.ixor, 1) := by decide +kernel
theorem dX5_stillSet_49 : decode cX5_stillSet 49 = .ok (.iand, 1) := by decide +kernel
theorem dX5_stillSet_50 : decode cX5_stillSet 50 = .ok (.ifCond .ne 16, 3) := by decide +kernel
theorem dX5_stillSet_53 : decode cX5_stillSet 53 = .ok (.iload 6, 2) := by decide +kernel
theorem dX5_stillSet_55 : decode cX5_stillSet 55 = .ok (.invokestatic 112, 3) := by decide +kernel
theorem dX5_stillSet_58 : decode cX5_stillSet 58 = .ok (.iconst 2, 1) := by decide +kernel
theorem dX5_stillSet_59 : decode cX5_stillSet 59 = .ok (.if_icmp .gt 7, 3) := by decide +kernel
theorem dX5_stillSet_62 : decode cX5_stillSet 62 = .ok (.iconst 1, 1) := by decide +kernel
theorem dX5_stillSet_63 : decode cX5_stillSet 63 = .ok (.goto 4, 3) := by decide +kernel
theorem dX5_stillSet_66 : decode cX5_stillSet 66 = .ok (.iconst 0, 1) := by decide +kernel
theorem dX5_stillSet_67 : decode cX5_stillSet 67 = .ok (.istore 8, 2) := by decide +kernel
theorem dX5_stillSet_69 : decode cX5_stillSet 69 = .ok (.iload 8, 2) := by decide +kernel
theorem dX5_stillSet_71 : decode cX5_stillSet 71 = .ok (.ifCond .eq 31, 3) := by decide +kernel
theorem dX5_stillSet_74 : decode cX5_stillSet 74 = .ok (.iload 7, 2) := by decide +kernel
theorem dX5_stillSet_76 : decode cX5_stillSet 76 = .ok (.iload 5, 2) := by decide +kernel
theorem dX5_stillSet_78 : decode cX5_stillSet 78 = .ok (.if_icmp .ge 24, 3) := by decide +kernel
theorem dX5_stillSet_81 : decode cX5_stillSet 81 = .ok (.aload_n 0, 1) := by decide +kernel
theorem dX5_stillSet_82 : decode cX5_stillSet 82 = .ok (.iload_n 1, 1) := by decide +kernel
theorem dX5_stillSet_83 : decode cX5_stillSet 83 = .ok (.iload 6, 2) := by decide +kernel
theorem dX5_stillSet_85 : decode cX5_stillSet 85 = .ok (.iconst 0, 1) := by decide +kernel
theorem dX5_stillSet_86 : decode cX5_stillSet 86 = .ok (.invokevirtual 106, 3) := by decide +kernel
theorem dX5_stillSet_89 : decode cX5_stillSet 89 = .ok (.bipush 8, 2) := by decide +kernel
theorem dX5_stillSet_91 : decode cX5_stillSet 91 = .ok (.if_icmp .gt 11, 3) := by decide +kernel
theorem dX5_stillSet_94 : decode cX5_stillSet 94 = .ok (.iload 6, 2) := by decide +kernel
theorem dX5_stillSet_96 : decode cX5_stillSet 96 = .ok (.istore 4, 2) := by decide +kernel
theorem dX5_stillSet_98 : decode cX5_stillSet 98 = .ok (.iload 7, 2) := by decide +kernel
theorem dX5_stillSet_100 : decode cX5_stillSet 100 = .ok (.istore 5, 2) := by decide +kernel
theorem dX5_stillSet_102 : decode cX5_stillSet 102 = .ok (.iinc 6 1, 3) := by decide +kernel
theorem dX5_stillSet_105 : decode cX5_stillSet 105 = .ok (.goto (-81), 3) := by decide +kernel
theorem dX5_stillSet_108 : decode cX5_stillSet 108 = .ok (.iload 4, 2) := by decide +kernel
theorem dX5_stillSet_110 : decode cX5_stillSet 110 = .ok (.ireturn, 1) := by decide +kernel
theorem dX5_changesTo_0 : decode cX5_changesTo 0 = .ok (.iload_n 2, 1) := by decide +kernel
theorem dX5_changesTo_1 : decode cX5_changesTo 1 = .ok (.iconst (-1), 1) := by decide +kernel
theorem dX5_changesTo_2 : decode cX5_changesTo 2 = .ok (.if_icmp .ne 7, 3) := by decide +kernel
theorem dX5_changesTo_5 : decode cX5_changesTo 5 = .ok (.iconst (-1), 1) := by decide +kernel
theorem dX5_changesTo_6 : decode cX5_changesTo 6 = .ok (.goto 13, 3) := by decide +kernel
theorem dX5_changesTo_9 : decode cX5_changesTo 9 = .ok (.iload_n 2, 1) := by decide +kernel
theorem dX5_changesTo_10 : decode cX5_changesTo 10 = .ok (.aload_n 0, 1) := by decide +kernel
theorem dX5_changesTo_11 : decode cX5_changesTo 11 = .ok (.iload_n 1, 1) := by decide +kernel
theorem dX5_changesTo_12 : decode cX5_changesTo 12 = .ok (.invokevirtual 103, 3) := by decide +kernel
theorem dX5_changesTo_15 : decode cX5_changesTo 15 = .ok (.ixor, 1) := by decide +kernel
theorem dX5_changesTo_16 : decode cX5_changesTo 16 = .ok (.invokestatic 112, 3) := by decide +kernel
theorem dX5_changesTo_19 : decode cX5_changesTo 19 = .ok (.ireturn, 1) := by decide +kernel
theorem dX5_addSeen_0 : decode cX5_addSeen 0 = .ok (.aload_n 0, 1) := by decide +kernel
theorem dX5_addSeen_1 : decode cX5_addSeen 1 = .ok (.getfield 55, 3) := by decide +kernel
theorem dX5_addSeen_4 : decode cX5_addSeen 4 = .ok (.bipush 8, 2) := by decide +kernel
theorem dX5_addSeen_6 : decode cX5_addSeen 6 = .ok (.if_icmp .lt 5, 3) := by decide +kernel
theorem dX5_addSeen_9 : decode cX5_addSeen 9 = .ok (.iconst 0, 1) := by decide +kernel
theorem dX5_addSeen_10 : decode cX5_addSeen 10 = .ok (.ireturn, 1) := by decide +kernel
theorem dX5_addSeen_11 : decode cX5_addSeen 11 = .ok (.aload_n 0, 1) := by decide +kernel
theorem dX5_addSeen_12 : decode cX5_addSeen 12 = .ok (.getfield 33, 3) := by decide +kernel
theorem dX5_addSeen_15 : decode cX5_addSeen 15 = .ok (.aload_n 0, 1) := by decide +kernel
theorem dX5_addSeen_16 : decode cX5_addSeen 16 = .ok (.getfield 55, 3) := by decide +kernel
theorem dX5_addSeen_19 : decode cX5_addSeen 19 = .ok (.iload_n 1, 1) := by decide +kernel
theorem dX5_addSeen_20 : decode cX5_addSeen 20 = .ok (.invokestatic 68, 3) := by decide +kernel
theorem dX5_addSeen_23 : decode cX5_addSeen 23 = .ok (.aload_n 0, 1) := by decide +kernel
theorem dX5_addSeen_24 : decode cX5_addSeen 24 = .ok (.getfield 36, 3) := by decide +kernel
theorem dX5_addSeen_27 : decode cX5_addSeen 27 = .ok (.aload_n 0, 1) := by decide +kernel
theorem dX5_addSeen_28 : decode cX5_addSeen 28 = .ok (.getfield 55, 3) := by decide +kernel
theorem dX5_addSeen_31 : decode cX5_addSeen 31 = .ok (.iload_n 2, 1) := by decide +kernel
theorem dX5_addSeen_32 : decode cX5_addSeen 32 = .ok (.invokestatic 68, 3) := by decide +kernel
theorem dX5_addSeen_35 : decode cX5_addSeen 35 = .ok (.aload_n 0, 1) := by decide +kernel
theorem dX5_addSeen_36 : decode cX5_addSeen 36 = .ok (.getfield 39, 3) := by decide +kernel
theorem dX5_addSeen_39 : decode cX5_addSeen 39 = .ok (.aload_n 0, 1) := by decide +kernel
theorem dX5_addSeen_40 : decode cX5_addSeen 40 = .ok (.getfield 55, 3) := by decide +kernel
theorem dX5_addSeen_43 : decode cX5_addSeen 43 = .ok (.iload_n 3, 1) := by decide +kernel
theorem dX5_addSeen_44 : decode cX5_addSeen 44 = .ok (.invokestatic 68, 3) := by decide +kernel
theorem dX5_addSeen_47 : decode cX5_addSeen 47 = .ok (.aload_n 0, 1) := by decide +kernel
theorem dX5_addSeen_48 : decode cX5_addSeen 48 = .ok (.dup, 1) := by decide +kernel
theorem dX5_addSeen_49 : decode cX5_addSeen 49 = .ok (.getfield 55, 3) := by decide +kernel
theorem dX5_addSeen_52 : decode cX5_addSeen 52 = .ok (.iconst 1, 1) := by decide +kernel
theorem dX5_addSeen_53 : decode cX5_addSeen 53 = .ok (.iadd, 1) := by decide +kernel
theorem dX5_addSeen_54 : decode cX5_addSeen 54 = .ok (.putfield 55, 3) := by decide +kernel
theorem dX5_addSeen_57 : decode cX5_addSeen 57 = .ok (.iconst 1, 1) := by decide +kernel
theorem dX5_addSeen_58 : decode cX5_addSeen 58 = .ok (.ireturn, 1) := by decide +kernel
theorem dX5_possibleMarks_0 : decode cX5_possibleMarks 0 = .ok (.iconst 0, 1) := by decide +kernel
theorem dX5_possibleMarks_1 : decode cX5_possibleMarks 1 = .ok (.istore_n 2, 1) := by decide +kernel
theorem dX5_possibleMarks_2 : decode cX5_possibleMarks 2 = .ok (.iconst 0, 1) := by decide +kernel
theorem dX5_possibleMarks_3 : decode cX5_possibleMarks 3 = .ok (.istore_n 3, 1) := by decide +kernel
theorem dX5_possibleMarks_4 : decode cX5_possibleMarks 4 = .ok (.iload_n 3, 1) := by decide +kernel
theorem dX5_possibleMarks_5 : decode cX5_possibleMarks 5 = .ok (.bipush 9, 2) := by decide +kernel
theorem dX5_possibleMarks_7 : decode cX5_possibleMarks 7 = .ok (.if_icmp .gt 24, 3) := by decide +kernel
theorem dX5_possibleMarks_10 : decode cX5_possibleMarks 10 = .ok (.aload_n 0, 1) := by decide +kernel
theorem dX5_possibleMarks_11 : decode cX5_possibleMarks 11 = .ok (.iload_n 1, 1) := by decide +kernel
theorem dX5_possibleMarks_12 : decode cX5_possibleMarks 12 = .ok (.iload_n 3, 1) := by decide +kernel
theorem dX5_possibleMarks_13 : decode cX5_possibleMarks 13 = .ok (.invokevirtual 117, 3) := by decide +kernel
theorem dX5_possibleMarks_16 : decode cX5_possibleMarks 16 = .ok (.ifCond .eq 9, 3) := by decide +kernel
theorem dX5_possibleMarks_19 : decode cX5_possibleMarks 19 = .ok (.iload_n 2, 1) := by decide +kernel
theorem dX5_possibleMarks_20 : decode cX5_possibleMarks 20 = .ok (.iconst 1, 1) := by decide +kernel
theorem dX5_possibleMarks_21 : decode cX5_possibleMarks 21 = .ok (.iload_n 3, 1) := by decide +kernel
theorem dX5_possibleMarks_22 : decode cX5_possibleMarks 22 = .ok (.ishl, 1) := by decide +kernel
theorem dX5_possibleMarks_23 : decode cX5_possibleMarks 23 = .ok (.ior, 1) := by decide +kernel
theorem dX5_possibleMarks_24 : decode cX5_possibleMarks 24 = .ok (.istore_n 2, 1) := by decide +kernel
theorem dX5_possibleMarks_25 : decode cX5_possibleMarks 25 = .ok (.iinc 3 1, 3) := by decide +kernel
theorem dX5_possibleMarks_28 : decode cX5_possibleMarks 28 = .ok (.goto (-24), 3) := by decide +kernel
theorem dX5_possibleMarks_31 : decode cX5_possibleMarks 31 = .ok (.iload_n 2, 1) := by decide +kernel
theorem dX5_possibleMarks_32 : decode cX5_possibleMarks 32 = .ok (.ireturn, 1) := by decide +kernel
theorem dX5_agreesWithSeen_0 : decode cX5_agreesWithSeen 0 = .ok (.aload_n 0, 1) := by decide +kernel
theorem dX5_agreesWithSeen_1 : decode cX5_agreesWithSeen 1 = .ok (.getfield 9, 3) := by decide +kernel
theorem dX5_agreesWithSeen_4 : decode cX5_agreesWithSeen 4 = .ok (.iload_n 1, 1) := by decide +kernel
theorem dX5_agreesWithSeen_5 : decode cX5_agreesWithSeen 5 = .ok (.invokestatic 72, 3) := by decide +kernel
theorem dX5_agreesWithSeen_8 : decode cX5_agreesWithSeen 8 = .ok (.istore_n 3, 1) := by decide +kernel
theorem dX5_agreesWithSeen_9 : decode cX5_agreesWithSeen 9 = .ok (.iconst 0, 1) := by decide +kernel
theorem dX5_agreesWithSeen_10 : decode cX5_agreesWithSeen 10 = .ok (.istore 4, 2) := by decide +kernel
theorem dX5_agreesWithSeen_12 : decode cX5_agreesWithSeen 12 = .ok (.iload 4, 2) := by decide +kernel
theorem dX5_agreesWithSeen_14 : decode cX5_agreesWithSeen 14 = .ok (.aload_n 0, 1) := by decide +kernel
theorem dX5_agreesWithSeen_15 : decode cX5_agreesWithSeen 15 = .ok (.getfield 55, 3) := by decide +kernel
theorem dX5_agreesWithSeen_18 : decode cX5_agreesWithSeen 18 = .ok (.if_icmp .ge 66, 3) := by decide +kernel
theorem dX5_agreesWithSeen_21 : decode cX5_agreesWithSeen 21 = .ok (.aload_n 0, 1) := by decide +kernel
theorem dX5_agreesWithSeen_22 : decode cX5_agreesWithSeen 22 = .ok (.getfield 18, 3) := by decide +kernel
theorem dX5_agreesWithSeen_25 : decode cX5_agreesWithSeen 25 = .ok (.iload_n 1, 1) := by decide +kernel
theorem dX5_agreesWithSeen_26 : decode cX5_agreesWithSeen 26 = .ok (.invokestatic 72, 3) := by decide +kernel
theorem dX5_agreesWithSeen_29 : decode cX5_agreesWithSeen 29 = .ok (.aload_n 0, 1) := by decide +kernel
theorem dX5_agreesWithSeen_30 : decode cX5_agreesWithSeen 30 = .ok (.getfield 36, 3) := by decide +kernel
theorem dX5_agreesWithSeen_33 : decode cX5_agreesWithSeen 33 = .ok (.iload 4, 2) := by decide +kernel
theorem dX5_agreesWithSeen_35 : decode cX5_agreesWithSeen 35 = .ok (.invokestatic 72, 3) := by decide +kernel
theorem dX5_agreesWithSeen_38 : decode cX5_agreesWithSeen 38 = .ok (.iadd, 1) := by decide +kernel
theorem dX5_agreesWithSeen_39 : decode cX5_agreesWithSeen 39 = .ok (.invokestatic 76, 3) := by decide +kernel
theorem dX5_agreesWithSeen_42 : decode cX5_agreesWithSeen 42 = .ok (.istore 5, 2) := by decide +kernel
theorem dX5_agreesWithSeen_44 : decode cX5_agreesWithSeen 44 = .ok (.aload_n 0, 1) := by decide +kernel
theorem dX5_agreesWithSeen_45 : decode cX5_agreesWithSeen 45 = .ok (.getfield 33, 3) := by decide +kernel
theorem dX5_agreesWithSeen_48 : decode cX5_agreesWithSeen 48 = .ok (.iload 4, 2) := by decide +kernel
theorem dX5_agreesWithSeen_50 : decode cX5_agreesWithSeen 50 = .ok (.invokestatic 72, 3) := by decide +kernel
theorem dX5_agreesWithSeen_53 : decode cX5_agreesWithSeen 53 = .ok (.iload_n 1, 1) := by decide +kernel
theorem dX5_agreesWithSeen_54 : decode cX5_agreesWithSeen 54 = .ok (.if_icmp .ne 24, 3) := by decide +kernel
theorem dX5_agreesWithSeen_57 : decode cX5_agreesWithSeen 57 = .ok (.iload_n 3, 1) := by decide +kernel
theorem dX5_agreesWithSeen_58 : decode cX5_agreesWithSeen 58 = .ok (.iload_n 2, 1) := by decide +kernel
theorem dX5_agreesWithSeen_59 : decode cX5_agreesWithSeen 59 = .ok (.iload 5, 2) := by decide +kernel
theorem dX5_agreesWithSeen_61 : decode cX5_agreesWithSeen 61 = .ok (.invokestatic 80, 3) := by decide +kernel
theorem dX5_agreesWithSeen_64 : decode cX5_agreesWithSeen 64 = .ok (.aload_n 0, 1) := by decide +kernel
theorem dX5_agreesWithSeen_65 : decode cX5_agreesWithSeen 65 = .ok (.getfield 39, 3) := by decide +kernel
theorem dX5_agreesWithSeen_68 : decode cX5_agreesWithSeen 68 = .ok (.iload 4, 2) := by decide +kernel
theorem dX5_agreesWithSeen_70 : decode cX5_agreesWithSeen 70 = .ok (.invokestatic 72, 3) := by decide +kernel
theorem dX5_agreesWithSeen_73 : decode cX5_agreesWithSeen 73 = .ok (.if_icmp .eq 5, 3) := by decide +kernel
theorem dX5_agreesWithSeen_76 : decode cX5_agreesWithSeen 76 = .ok (.iconst 0, 1) := by decide +kernel
theorem dX5_agreesWithSeen_77 : decode cX5_agreesWithSeen 77 = .ok (.ireturn, 1) := by decide +kernel
theorem dX5_agreesWithSeen_78 : decode cX5_agreesWithSeen 78 = .ok (.iinc 4 1, 3) := by decide +kernel
theorem dX5_agreesWithSeen_81 : decode cX5_agreesWithSeen 81 = .ok (.goto (-69), 3) := by decide +kernel
theorem dX5_agreesWithSeen_84 : decode cX5_agreesWithSeen 84 = .ok (.iconst 1, 1) := by decide +kernel
theorem dX5_agreesWithSeen_85 : decode cX5_agreesWithSeen 85 = .ok (.ireturn, 1) := by decide +kernel
theorem dX5_bestFeel_0 : decode cX5_bestFeel 0 = .ok (.aload_n 0, 1) := by decide +kernel
theorem dX5_bestFeel_1 : decode cX5_bestFeel 1 = .ok (.iload_n 1, 1) := by decide +kernel
theorem dX5_bestFeel_2 : decode cX5_bestFeel 2 = .ok (.invokevirtual 120, 3) := by decide +kernel
theorem dX5_bestFeel_5 : decode cX5_bestFeel 5 = .ok (.istore_n 2, 1) := by decide +kernel
theorem dX5_bestFeel_6 : decode cX5_bestFeel 6 = .ok (.iload_n 2, 1) := by decide +kernel
theorem dX5_bestFeel_7 : decode cX5_bestFeel 7 = .ok (.ifCond .ne 5, 3) := by decide +kernel
theorem dX5_bestFeel_10 : decode cX5_bestFeel 10 = .ok (.iconst (-1), 1) := by decide +kernel
theorem dX5_bestFeel_11 : decode cX5_bestFeel 11 = .ok (.ireturn, 1) := by decide +kernel
theorem dX5_bestFeel_12 : decode cX5_bestFeel 12 = .ok (.iconst 0, 1) := by decide +kernel
theorem dX5_bestFeel_13 : decode cX5_bestFeel 13 = .ok (.istore_n 3, 1) := by decide +kernel
theorem dX5_bestFeel_14 : decode cX5_bestFeel 14 = .ok (.bipush 11, 2) := by decide +kernel
theorem dX5_bestFeel_16 : decode cX5_bestFeel 16 = .ok (.istore 4, 2) := by decide +kernel
theorem dX5_bestFeel_18 : decode cX5_bestFeel 18 = .ok (.iconst 0, 1) := by decide +kernel
theorem dX5_bestFeel_19 : decode cX5_bestFeel 19 = .ok (.istore 5, 2) := by decide +kernel
theorem dX5_bestFeel_21 : decode cX5_bestFeel 21 = .ok (.iload 5, 2) := by decide +kernel
theorem dX5_bestFeel_23 : decode cX5_bestFeel 23 = .ok (.bipush 9, 2) := by decide +kernel
theorem dX5_bestFeel_25 : decode cX5_bestFeel 25 = .ok (.if_icmp .gt 33, 3) := by decide +kernel
theorem dX5_bestFeel_28 : decode cX5_bestFeel 28 = .ok (.aload_n 0, 1) := by decide +kernel
theorem dX5_bestFeel_29 : decode cX5_bestFeel 29 = .ok (.iload_n 1, 1) := by decide +kernel
theorem dX5_bestFeel_30 : decode cX5_bestFeel 30 = .ok (.iload_n 2, 1) := by decide +kernel
theorem dX5_bestFeel_31 : decode cX5_bestFeel 31 = .ok (.iload 5, 2) := by decide +kernel
theorem dX5_bestFeel_33 : decode cX5_bestFeel 33 = .ok (.invokevirtual 123, 3) := by decide +kernel
theorem dX5_bestFeel_36 : decode cX5_bestFeel 36 = .ok (.istore 6, 2) := by decide +kernel
theorem dX5_bestFeel_38 : decode cX5_bestFeel 38 = .ok (.iload 6, 2) := by decide +kernel
theorem dX5_bestFeel_40 : decode cX5_bestFeel 40 = .ok (.iload 4, 2) := by decide +kernel
theorem dX5_bestFeel_42 : decode cX5_bestFeel 42 = .ok (.if_icmp .ge 10, 3) := by decide +kernel
theorem dX5_bestFeel_45 : decode cX5_bestFeel 45 = .ok (.iload 5, 2) := by decide +kernel
theorem dX5_bestFeel_47 : decode cX5_bestFeel 47 = .ok (.istore_n 3, 1) := by decide +kernel
theorem dX5_bestFeel_48 : decode cX5_bestFeel 48 = .ok (.iload 6, 2) := by decide +kernel
theorem dX5_bestFeel_50 : decode cX5_bestFeel 50 = .ok (.istore 4, 2) := by decide +kernel
theorem dX5_bestFeel_52 : decode cX5_bestFeel 52 = .ok (.iinc 5 1, 3) := by decide +kernel
theorem dX5_bestFeel_55 : decode cX5_bestFeel 55 = .ok (.goto (-34), 3) := by decide +kernel
theorem dX5_bestFeel_58 : decode cX5_bestFeel 58 = .ok (.iload_n 3, 1) := by decide +kernel
theorem dX5_bestFeel_59 : decode cX5_bestFeel 59 = .ok (.ireturn, 1) := by decide +kernel
theorem dX5_mostLeft_0 : decode cX5_mostLeft 0 = .ok (.aload_n 0, 1) := by decide +kernel
theorem dX5_mostLeft_1 : decode cX5_mostLeft 1 = .ok (.getfield 9, 3) := by decide +kernel
theorem dX5_mostLeft_4 : decode cX5_mostLeft 4 = .ok (.iload_n 1, 1) := by decide +kernel
theorem dX5_mostLeft_5 : decode cX5_mostLeft 5 = .ok (.invokestatic 72, 3) := by decide +kernel
theorem dX5_mostLeft_8 : decode cX5_mostLeft 8 = .ok (.istore 4, 2) := by decide +kernel
theorem dX5_mostLeft_10 : decode cX5_mostLeft 10 = .ok (.aload_n 0, 1) := by decide +kernel
theorem dX5_mostLeft_11 : decode cX5_mostLeft 11 = .ok (.getfield 18, 3) := by decide +kernel
theorem dX5_mostLeft_14 : decode cX5_mostLeft 14 = .ok (.iload_n 1, 1) := by decide +kernel
theorem dX5_mostLeft_15 : decode cX5_mostLeft 15 = .ok (.invokestatic 72, 3) := by decide +kernel
theorem dX5_mostLeft_18 : decode cX5_mostLeft 18 = .ok (.iload_n 3, 1) := by decide +kernel
theorem dX5_mostLeft_19 : decode cX5_mostLeft 19 = .ok (.iadd, 1) := by decide +kernel
theorem dX5_mostLeft_20 : decode cX5_mostLeft 20 = .ok (.invokestatic 76, 3) := by decide +kernel
theorem dX5_mostLeft_23 : decode cX5_mostLeft 23 = .ok (.istore 5, 2) := by decide +kernel
theorem dX5_mostLeft_25 : decode cX5_mostLeft 25 = .ok (.iconst 0, 1) := by decide +kernel
theorem dX5_mostLeft_26 : decode cX5_mostLeft 26 = .ok (.istore 6, 2) := by decide +kernel
theorem dX5_mostLeft_28 : decode cX5_mostLeft 28 = .ok (.aload_n 0, 1) := by decide +kernel
theorem dX5_mostLeft_29 : decode cX5_mostLeft 29 = .ok (.getfield 42, 3) := by decide +kernel
theorem dX5_mostLeft_32 : decode cX5_mostLeft 32 = .ok (.iconst 0, 1) := by decide +kernel
theorem dX5_mostLeft_33 : decode cX5_mostLeft 33 = .ok (.invokestatic 58, 3) := by decide +kernel
theorem dX5_mostLeft_36 : decode cX5_mostLeft 36 = .ok (.iconst 0, 1) := by decide +kernel
theorem dX5_mostLeft_37 : decode cX5_mostLeft 37 = .ok (.istore 7, 2) := by decide +kernel
theorem dX5_mostLeft_39 : decode cX5_mostLeft 39 = .ok (.iload 7, 2) := by decide +kernel
theorem dX5_mostLeft_41 : decode cX5_mostLeft 41 = .ok (.bipush 9, 2) := by decide +kernel
theorem dX5_mostLeft_43 : decode cX5_mostLeft 43 = .ok (.if_icmp .gt 62, 3) := by decide +kernel
theorem dX5_mostLeft_46 : decode cX5_mostLeft 46 = .ok (.iload_n 2, 1) := by decide +kernel
theorem dX5_mostLeft_47 : decode cX5_mostLeft 47 = .ok (.iload 7, 2) := by decide +kernel
theorem dX5_mostLeft_49 : decode cX5_mostLeft 49 = .ok (.invokestatic 93, 3) := by decide +kernel
theorem dX5_mostLeft_52 : decode cX5_mostLeft 52 = .ok (.ifCond .eq 47, 3) := by decide +kernel
theorem dX5_mostLeft_55 : decode cX5_mostLeft 55 = .ok (.iload 4, 2) := by decide +kernel
theorem dX5_mostLeft_57 : decode cX5_mostLeft 57 = .ok (.iload 7, 2) := by decide +kernel
theorem dX5_mostLeft_59 : decode cX5_mostLeft 59 = .ok (.iload 5, 2) := by decide +kernel
theorem dX5_mostLeft_61 : decode cX5_mostLeft 61 = .ok (.invokestatic 80, 3) := by decide +kernel
theorem dX5_mostLeft_64 : decode cX5_mostLeft 64 = .ok (.istore 8, 2) := by decide +kernel
theorem dX5_mostLeft_66 : decode cX5_mostLeft 66 = .ok (.aload_n 0, 1) := by decide +kernel
theorem dX5_mostLeft_67 : decode cX5_mostLeft 67 = .ok (.getfield 42, 3) := by decide +kernel
theorem dX5_mostLeft_70 : decode cX5_mostLeft 70 = .ok (.iload 8, 2) := by decide +kernel
theorem dX5_mostLeft_72 : decode cX5_mostLeft 72 = .ok (.invokestatic 72, 3) := by decide +kernel
theorem dX5_mostLeft_75 : decode cX5_mostLeft 75 = .ok (.iconst 1, 1) := by decide +kernel
theorem dX5_mostLeft_76 : decode cX5_mostLeft 76 = .ok (.iadd, 1) := by decide +kernel
theorem dX5_mostLeft_77 : decode cX5_mostLeft 77 = .ok (.istore 9, 2) := by decide +kernel
theorem dX5_mostLeft_79 : decode cX5_mostLeft 79 = .ok (.aload_n 0, 1) := by decide +kernel
theorem dX5_mostLeft_80 : decode cX5_mostLeft 80 = .ok (.getfield 42, 3) := by decide +kernel
theorem dX5_mostLeft_83 : decode cX5_mostLeft 83 = .ok (.iload 8, 2) := by decide +kernel
theorem dX5_mostLeft_85 : decode cX5_mostLeft 85 = .ok (.iload 9, 2) := by decide +kernel
theorem dX5_mostLeft_87 : decode cX5_mostLeft 87 = .ok (.invokestatic 68, 3) := by decide +kernel
theorem dX5_mostLeft_90 : decode cX5_mostLeft 90 = .ok (.iload 6, 2) := by decide +kernel
theorem dX5_mostLeft_92 : decode cX5_mostLeft 92 = .ok (.iload 9, 2) := by decide +kernel
theorem dX5_mostLeft_94 : decode cX5_mostLeft 94 = .ok (.invokestatic 100, 3) := by decide +kernel
theorem dX5_mostLeft_97 : decode cX5_mostLeft 97 = .ok (.istore 6, 2) := by decide +kernel
theorem dX5_mostLeft_99 : decode cX5_mostLeft 99 = .ok (.iinc 7 1, 3) := by decide +kernel
theorem dX5_mostLeft_102 : decode cX5_mostLeft 102 = .ok (.goto (-63), 3) := by decide +kernel
theorem dX5_mostLeft_105 : decode cX5_mostLeft 105 = .ok (.iload 6, 2) := by decide +kernel
theorem dX5_mostLeft_107 : decode cX5_mostLeft 107 = .ok (.ireturn, 1) := by decide +kernel
theorem dX5_changeByDraws_0 : decode cX5_changeByDraws 0 = .ok (.aload_n 1, 1) := by decide +kernel
theorem dX5_changeByDraws_1 : decode cX5_changeByDraws 1 = .ok (.aload_n 0, 1) := by decide +kernel
theorem dX5_changeByDraws_2 : decode cX5_changeByDraws 2 = .ok (.getfield 45, 3) := by decide +kernel
theorem dX5_changeByDraws_5 : decode cX5_changeByDraws 5 = .ok (.invokevirtual 126, 3) := by decide +kernel
theorem dX5_changeByDraws_8 : decode cX5_changeByDraws 8 = .ok (.istore_n 2, 1) := by decide +kernel
theorem dX5_changeByDraws_9 : decode cX5_changeByDraws 9 = .ok (.aload_n 0, 1) := by decide +kernel
theorem dX5_changeByDraws_10 : decode cX5_changeByDraws 10 = .ok (.getfield 21, 3) := by decide +kernel
theorem dX5_changeByDraws_13 : decode cX5_changeByDraws 13 = .ok (.iload_n 2, 1) := by decide +kernel
theorem dX5_changeByDraws_14 : decode cX5_changeByDraws 14 = .ok (.invokestatic 72, 3) := by decide +kernel
theorem dX5_changeByDraws_17 : decode cX5_changeByDraws 17 = .ok (.iconst (-1), 1) := by decide +kernel
theorem dX5_changeByDraws_18 : decode cX5_changeByDraws 18 = .ok (.if_icmp .eq 9, 3) := by decide +kernel
theorem dX5_changeByDraws_21 : decode cX5_changeByDraws 21 = .ok (.aload_n 0, 1) := by decide +kernel
theorem dX5_changeByDraws_22 : decode cX5_changeByDraws 22 = .ok (.iload_n 2, 1) := by decide +kernel
theorem dX5_changeByDraws_23 : decode cX5_changeByDraws 23 = .ok (.invokevirtual 131, 3) := by decide +kernel
theorem dX5_changeByDraws_26 : decode cX5_changeByDraws 26 = .ok (.return_, 1) := by decide +kernel
theorem dX5_changeByDraws_27 : decode cX5_changeByDraws 27 = .ok (.aload_n 1, 1) := by decide +kernel
theorem dX5_changeByDraws_28 : decode cX5_changeByDraws 28 = .ok (.aload_n 0, 1) := by decide +kernel
theorem dX5_changeByDraws_29 : decode cX5_changeByDraws 29 = .ok (.getfield 49, 3) := by decide +kernel
theorem dX5_changeByDraws_32 : decode cX5_changeByDraws 32 = .ok (.invokevirtual 126, 3) := by decide +kernel
theorem dX5_changeByDraws_35 : decode cX5_changeByDraws 35 = .ok (.istore_n 3, 1) := by decide +kernel
theorem dX5_changeByDraws_36 : decode cX5_changeByDraws 36 = .ok (.aload_n 1, 1) := by decide +kernel
theorem dX5_changeByDraws_37 : decode cX5_changeByDraws 37 = .ok (.iconst 2, 1) := by decide +kernel
theorem dX5_changeByDraws_38 : decode cX5_changeByDraws 38 = .ok (.invokevirtual 126, 3) := by decide +kernel
theorem dX5_changeByDraws_41 : decode cX5_changeByDraws 41 = .ok (.istore 4, 2) := by decide +kernel
theorem dX5_changeByDraws_43 : decode cX5_changeByDraws 43 = .ok (.aload_n 0, 1) := by decide +kernel
theorem dX5_changeByDraws_44 : decode cX5_changeByDraws 44 = .ok (.iload_n 3, 1) := by decide +kernel
theorem dX5_changeByDraws_45 : decode cX5_changeByDraws 45 = .ok (.iload 4, 2) := by decide +kernel
theorem dX5_changeByDraws_47 : decode cX5_changeByDraws 47 = .ok (.invokevirtual 135, 3) := by decide +kernel
theorem dX5_changeByDraws_50 : decode cX5_changeByDraws 50 = .ok (.iconst (-1), 1) := by decide +kernel
theorem dX5_changeByDraws_51 : decode cX5_changeByDraws 51 = .ok (.if_icmp .ne 11, 3) := by decide +kernel
theorem dX5_changeByDraws_54 : decode cX5_changeByDraws 54 = .ok (.aload_n 0, 1) := by decide +kernel
theorem dX5_changeByDraws_55 : decode cX5_changeByDraws 55 = .ok (.iload_n 2, 1) := by decide +kernel
theorem dX5_changeByDraws_56 : decode cX5_changeByDraws 56 = .ok (.iload_n 3, 1) := by decide +kernel
theorem dX5_changeByDraws_57 : decode cX5_changeByDraws 57 = .ok (.iload 4, 2) := by decide +kernel
theorem dX5_changeByDraws_59 : decode cX5_changeByDraws 59 = .ok (.invokevirtual 138, 3) := by decide +kernel
theorem dX5_changeByDraws_62 : decode cX5_changeByDraws 62 = .ok (.return_, 1) := by decide +kernel
theorem dX5_countOnHands_0 : decode cX5_countOnHands 0 = .ok (.aload_n 0, 1) := by decide +kernel
theorem dX5_countOnHands_1 : decode cX5_countOnHands 1 = .ok (.getfield 45, 3) := by decide +kernel
theorem dX5_countOnHands_4 : decode cX5_countOnHands 4 = .ok (.aload_n 0, 1) := by decide +kernel
theorem dX5_countOnHands_5 : decode cX5_countOnHands 5 = .ok (.iconst (-1), 1) := by decide +kernel
theorem dX5_countOnHands_6 : decode cX5_countOnHands 6 = .ok (.invokevirtual 103, 3) := by decide +kernel
theorem dX5_countOnHands_9 : decode cX5_countOnHands 9 = .ok (.invokestatic 112, 3) := by decide +kernel
theorem dX5_countOnHands_12 : decode cX5_countOnHands 12 = .ok (.isub, 1) := by decide +kernel
theorem dX5_countOnHands_13 : decode cX5_countOnHands 13 = .ok (.ireturn, 1) := by decide +kernel
theorem dX5_countDoing_0 : decode cX5_countDoing 0 = .ok (.iconst 0, 1) := by decide +kernel
theorem dX5_countDoing_1 : decode cX5_countDoing 1 = .ok (.istore_n 2, 1) := by decide +kernel
theorem dX5_countDoing_2 : decode cX5_countDoing 2 = .ok (.iconst 0, 1) := by decide +kernel
theorem dX5_countDoing_3 : decode cX5_countDoing 3 = .ok (.istore_n 3, 1) := by decide +kernel
theorem dX5_countDoing_4 : decode cX5_countDoing 4 = .ok (.iload_n 3, 1) := by decide +kernel
theorem dX5_countDoing_5 : decode cX5_countDoing 5 = .ok (.aload_n 0, 1) := by decide +kernel
theorem dX5_countDoing_6 : decode cX5_countDoing 6 = .ok (.getfield 49, 3) := by decide +kernel
theorem dX5_countDoing_9 : decode cX5_countDoing 9 = .ok (.if_icmp .ge 25, 3) := by decide +kernel
theorem dX5_countDoing_12 : decode cX5_countDoing 12 = .ok (.aload_n 0, 1) := by decide +kernel
theorem dX5_countDoing_13 : decode cX5_countDoing 13 = .ok (.iload_n 3, 1) := by decide +kernel
theorem dX5_countDoing_14 : decode cX5_countDoing 14 = .ok (.iconst 0, 1) := by decide +kernel
theorem dX5_countDoing_15 : decode cX5_countDoing 15 = .ok (.invokevirtual 142, 3) := by decide +kernel
theorem dX5_countDoing_18 : decode cX5_countDoing 18 = .ok (.invokestatic 109, 3) := by decide +kernel
theorem dX5_countDoing_21 : decode cX5_countDoing 21 = .ok (.iload_n 1, 1) := by decide +kernel
theorem dX5_countDoing_22 : decode cX5_countDoing 22 = .ok (.if_icmp .ne 6, 3) := by decide +kernel
theorem dX5_countDoing_25 : decode cX5_countDoing 25 = .ok (.iinc 2 1, 3) := by decide +kernel
theorem dX5_countDoing_28 : decode cX5_countDoing 28 = .ok (.iinc 3 1, 3) := by decide +kernel
theorem dX5_countDoing_31 : decode cX5_countDoing 31 = .ok (.goto (-27), 3) := by decide +kernel
theorem dX5_countDoing_34 : decode cX5_countDoing 34 = .ok (.iload_n 2, 1) := by decide +kernel
theorem dX5_countDoing_35 : decode cX5_countDoing 35 = .ok (.ireturn, 1) := by decide +kernel
theorem dX5_countPleased_0 : decode cX5_countPleased 0 = .ok (.iconst 0, 1) := by decide +kernel
theorem dX5_countPleased_1 : decode cX5_countPleased 1 = .ok (.istore_n 1, 1) := by decide +kernel
theorem dX5_countPleased_2 : decode cX5_countPleased 2 = .ok (.iconst 0, 1) := by decide +kernel
theorem dX5_countPleased_3 : decode cX5_countPleased 3 = .ok (.istore_n 2, 1) := by decide +kernel
theorem dX5_countPleased_4 : decode cX5_countPleased 4 = .ok (.iload_n 2, 1) := by decide +kernel
theorem dX5_countPleased_5 : decode cX5_countPleased 5 = .ok (.aload_n 0, 1) := by decide +kernel
theorem dX5_countPleased_6 : decode cX5_countPleased 6 = .ok (.getfield 49, 3) := by decide +kernel
theorem dX5_countPleased_9 : decode cX5_countPleased 9 = .ok (.if_icmp .ge 26, 3) := by decide +kernel
theorem dX5_countPleased_12 : decode cX5_countPleased 12 = .ok (.aload_n 0, 1) := by decide +kernel
theorem dX5_countPleased_13 : decode cX5_countPleased 13 = .ok (.iload_n 2, 1) := by decide +kernel
theorem dX5_countPleased_14 : decode cX5_countPleased 14 = .ok (.aload_n 0, 1) := by decide +kernel
theorem dX5_countPleased_15 : decode cX5_countPleased 15 = .ok (.iload_n 2, 1) := by decide +kernel
theorem dX5_countPleased_16 : decode cX5_countPleased 16 = .ok (.iconst 0, 1) := by decide +kernel
theorem dX5_countPleased_17 : decode cX5_countPleased 17 = .ok (.invokevirtual 142, 3) := by decide +kernel
theorem dX5_countPleased_20 : decode cX5_countPleased 20 = .ok (.invokevirtual 145, 3) := by decide +kernel
theorem dX5_countPleased_23 : decode cX5_countPleased 23 = .ok (.ifCond .eq 6, 3) := by decide +kernel
theorem dX5_countPleased_26 : decode cX5_countPleased 26 = .ok (.iinc 1 1, 3) := by decide +kernel
theorem dX5_countPleased_29 : decode cX5_countPleased 29 = .ok (.iinc 2 1, 3) := by decide +kernel
theorem dX5_countPleased_32 : decode cX5_countPleased 32 = .ok (.goto (-28), 3) := by decide +kernel
theorem dX5_countPleased_35 : decode cX5_countPleased 35 = .ok (.iload_n 1, 1) := by decide +kernel
theorem dX5_countPleased_36 : decode cX5_countPleased 36 = .ok (.ireturn, 1) := by decide +kernel
theorem dX5_countQuarrels_0 : decode cX5_countQuarrels 0 = .ok (.iconst 0, 1) := by decide +kernel
theorem dX5_countQuarrels_1 : decode cX5_countQuarrels 1 = .ok (.istore_n 1, 1) := by decide +kernel
theorem dX5_countQuarrels_2 : decode cX5_countQuarrels 2 = .ok (.iconst 0, 1) := by decide +kernel
theorem dX5_countQuarrels_3 : decode cX5_countQuarrels 3 = .ok (.istore_n 2, 1) := by decide +kernel
theorem dX5_countQuarrels_4 : decode cX5_countQuarrels 4 = .ok (.iload_n 2, 1) := by decide +kernel
theorem dX5_countQuarrels_5 : decode cX5_countQuarrels 5 = .ok (.aload_n 0, 1) := by decide +kernel
theorem dX5_countQuarrels_6 : decode cX5_countQuarrels 6 = .ok (.getfield 45, 3) := by decide +kernel
theorem dX5_countQuarrels_9 : decode cX5_countQuarrels 9 = .ok (.if_icmp .ge 20, 3) := by decide +kernel
theorem dX5_countQuarrels_12 : decode cX5_countQuarrels 12 = .ok (.iload_n 1, 1) := by decide +kernel
theorem dX5_countQuarrels_13 : decode cX5_countQuarrels 13 = .ok (.aload_n 0, 1) := by decide +kernel
theorem dX5_countQuarrels_14 : decode cX5_countQuarrels 14 = .ok (.iload_n 2, 1) := by decide +kernel
theorem dX5_countQuarrels_15 : decode cX5_countQuarrels 15 = .ok (.invokevirtual 148, 3) := by decide +kernel
theorem dX5_countQuarrels_18 : decode cX5_countQuarrels 18 = .ok (.invokestatic 112, 3) := by decide +kernel
theorem dX5_countQuarrels_21 : decode cX5_countQuarrels 21 = .ok (.iadd, 1) := by decide +kernel
theorem dX5_countQuarrels_22 : decode cX5_countQuarrels 22 = .ok (.istore_n 1, 1) := by decide +kernel
theorem dX5_countQuarrels_23 : decode cX5_countQuarrels 23 = .ok (.iinc 2 1, 3) := by decide +kernel
theorem dX5_countQuarrels_26 : decode cX5_countQuarrels 26 = .ok (.goto (-22), 3) := by decide +kernel
theorem dX5_countQuarrels_29 : decode cX5_countQuarrels 29 = .ok (.iload_n 1, 1) := by decide +kernel
theorem dX5_countQuarrels_30 : decode cX5_countQuarrels 30 = .ok (.iconst 2, 1) := by decide +kernel
theorem dX5_countQuarrels_31 : decode cX5_countQuarrels 31 = .ok (.idiv, 1) := by decide +kernel
theorem dX5_countQuarrels_32 : decode cX5_countQuarrels 32 = .ok (.ireturn, 1) := by decide +kernel
theorem dX5_sumOfTempers_0 : decode cX5_sumOfTempers 0 = .ok (.iconst 0, 1) := by decide +kernel
theorem dX5_sumOfTempers_1 : decode cX5_sumOfTempers 1 = .ok (.istore_n 1, 1) := by decide +kernel
theorem dX5_sumOfTempers_2 : decode cX5_sumOfTempers 2 = .ok (.iconst 0, 1) := by decide +kernel
theorem dX5_sumOfTempers_3 : decode cX5_sumOfTempers 3 = .ok (.istore_n 2, 1) := by decide +kernel
theorem dX5_sumOfTempers_4 : decode cX5_sumOfTempers 4 = .ok (.iload_n 2, 1) := by decide +kernel
theorem dX5_sumOfTempers_5 : decode cX5_sumOfTempers 5 = .ok (.aload_n 0, 1) := by decide +kernel
theorem dX5_sumOfTempers_6 : decode cX5_sumOfTempers 6 = .ok (.getfield 45, 3) := by decide +kernel
theorem dX5_sumOfTempers_9 : decode cX5_sumOfTempers 9 = .ok (.if_icmp .ge 18, 3) := by decide +kernel
theorem dX5_sumOfTempers_12 : decode cX5_sumOfTempers 12 = .ok (.iload_n 1, 1) := by decide +kernel
theorem dX5_sumOfTempers_13 : decode cX5_sumOfTempers 13 = .ok (.aload_n 0, 1) := by decide +kernel
theorem dX5_sumOfTempers_14 : decode cX5_sumOfTempers 14 = .ok (.iload_n 2, 1) := by decide +kernel
theorem dX5_sumOfTempers_15 : decode cX5_sumOfTempers 15 = .ok (.iconst 0, 1) := by decide +kernel
theorem dX5_sumOfTempers_16 : decode cX5_sumOfTempers 16 = .ok (.invokevirtual 84, 3) := by decide +kernel
theorem dX5_sumOfTempers_19 : decode cX5_sumOfTempers 19 = .ok (.iadd, 1) := by decide +kernel
theorem dX5_sumOfTempers_20 : decode cX5_sumOfTempers 20 = .ok (.istore_n 1, 1) := by decide +kernel
theorem dX5_sumOfTempers_21 : decode cX5_sumOfTempers 21 = .ok (.iinc 2 1, 3) := by decide +kernel
theorem dX5_sumOfTempers_24 : decode cX5_sumOfTempers 24 = .ok (.goto (-20), 3) := by decide +kernel
theorem dX5_sumOfTempers_27 : decode cX5_sumOfTempers 27 = .ok (.iload_n 1, 1) := by decide +kernel
theorem dX5_sumOfTempers_28 : decode cX5_sumOfTempers 28 = .ok (.ireturn, 1) := by decide +kernel
theorem dX6_init_0 : decode cX6_init 0 = .ok (.aload_n 0, 1) := by decide +kernel
theorem dX6_init_1 : decode cX6_init 1 = .ok (.invokespecial 3, 3) := by decide +kernel
theorem dX6_init_4 : decode cX6_init 4 = .ok (.aload_n 0, 1) := by decide +kernel
theorem dX6_init_5 : decode cX6_init 5 = .ok (.new 9, 3) := by decide +kernel
theorem dX6_init_8 : decode cX6_init 8 = .ok (.dup, 1) := by decide +kernel
theorem dX6_init_9 : decode cX6_init 9 = .ok (.invokespecial 11, 3) := by decide +kernel
theorem dX6_init_12 : decode cX6_init 12 = .ok (.putfield 12, 3) := by decide +kernel
theorem dX6_init_15 : decode cX6_init 15 = .ok (.aload_n 0, 1) := by decide +kernel
theorem dX6_init_16 : decode cX6_init 16 = .ok (.new 16, 3) := by decide +kernel
theorem dX6_init_19 : decode cX6_init 19 = .ok (.dup, 1) := by decide +kernel
theorem dX6_init_20 : decode cX6_init 20 = .ok (.invokespecial 18, 3) := by decide +kernel
theorem dX6_init_23 : decode cX6_init 23 = .ok (.putfield 19, 3) := by decide +kernel
theorem dX6_init_26 : decode cX6_init 26 = .ok (.aload_n 0, 1) := by decide +kernel
theorem dX6_init_27 : decode cX6_init 27 = .ok (.new 16, 3) := by decide +kernel
theorem dX6_init_30 : decode cX6_init 30 = .ok (.dup, 1) := by decide +kernel
theorem dX6_init_31 : decode cX6_init 31 = .ok (.invokespecial 18, 3) := by decide +kernel
theorem dX6_init_34 : decode cX6_init 34 = .ok (.putfield 23, 3) := by decide +kernel
theorem dX6_init_37 : decode cX6_init 37 = .ok (.aload_n 0, 1) := by decide +kernel
theorem dX6_init_38 : decode cX6_init 38 = .ok (.new 16, 3) := by decide +kernel
end
section
theorem dX6_init_41 : decode cX6_init 41 = .ok (.dup, 1) := by decide +kernel
theorem dX6_init_42 : decode cX6_init 42 = .ok (.invokespecial 18, 3) := by decide +kernel
theorem dX6_init_45 : decode cX6_init 45 = .ok (.putfield 26, 3) := by decide +kernel
theorem dX6_init_48 : decode cX6_init 48 = .ok (.aload_n 0, 1) := by decide +kernel
theorem dX6_init_49 : decode cX6_init 49 = .ok (.new 29, 3) := by decide +kernel
theorem dX6_init_52 : decode cX6_init 52 = .ok (.dup, 1) := by decide +kernel
theorem dX6_init_53 : decode cX6_init 53 = .ok (.invokespecial 31, 3) := by decide +kernel
theorem dX6_init_56 : decode cX6_init 56 = .ok (.putfield 32, 3) := by decide +kernel
theorem dX6_init_59 : decode cX6_init 59 = .ok (.aload_n 0, 1) := by decide +kernel
theorem dX6_init_60 : decode cX6_init 60 = .ok (.new 36, 3) := by decide +kernel
theorem dX6_init_63 : decode cX6_init 63 = .ok (.dup, 1) := by decide +kernel
theorem dX6_init_64 : decode cX6_init 64 = .ok (.invokespecial 38, 3) := by decide +kernel
theorem dX6_init_67 : decode cX6_init 67 = .ok (.putfield 39, 3) := by decide +kernel
theorem dX6_init_70 : decode cX6_init 70 = .ok (.aload_n 0, 1) := by decide +kernel
theorem dX6_init_71 : decode cX6_init 71 = .ok (.new 43, 3) := by decide +kernel
theorem dX6_init_74 : decode cX6_init 74 = .ok (.dup, 1) := by decide +kernel
theorem dX6_init_75 : decode cX6_init 75 = .ok (.invokespecial 45, 3) := by decide +kernel
theorem dX6_init_78 : decode cX6_init 78 = .ok (.putfield 46, 3) := by decide +kernel
theorem dX6_init_81 : decode cX6_init 81 = .ok (.aload_n 0, 1) := by decide +kernel
theorem dX6_init_82 : decode cX6_init 82 = .ok (.new 50, 3) := by decide +kernel
theorem dX6_init_85 : decode cX6_init 85 = .ok (.dup, 1) := by decide +kernel
theorem dX6_init_86 : decode cX6_init 86 = .ok (.invokespecial 52, 3) := by decide +kernel
theorem dX6_init_89 : decode cX6_init 89 = .ok (.putfield 53, 3) := by decide +kernel
theorem dX6_init_92 : decode cX6_init 92 = .ok (.return_, 1) := by decide +kernel
theorem dX6_letter_0 : decode cX6_letter 0 = .ok (.iload_n 1, 1) := by decide +kernel
theorem dX6_letter_1 : decode cX6_letter 1 = .ok (.bipush 32, 2) := by decide +kernel
theorem dX6_letter_3 : decode cX6_letter 3 = .ok (.bipush 126, 2) := by decide +kernel
theorem dX6_letter_5 : decode cX6_letter 5 = .ok (.invokestatic 57, 3) := by decide +kernel
theorem dX6_letter_8 : decode cX6_letter 8 = .ok (.ifCond .ne 6, 3) := by decide +kernel
theorem dX6_letter_11 : decode cX6_letter 11 = .ok (.bipush (-102), 2) := by decide +kernel
theorem dX6_letter_13 : decode cX6_letter 13 = .ok (.ireturn, 1) := by decide +kernel
theorem dX6_letter_14 : decode cX6_letter 14 = .ok (.aload_n 0, 1) := by decide +kernel
theorem dX6_letter_15 : decode cX6_letter 15 = .ok (.getfield 12, 3) := by decide +kernel
theorem dX6_letter_18 : decode cX6_letter 18 = .ok (.iload_n 1, 1) := by decide +kernel
theorem dX6_letter_19 : decode cX6_letter 19 = .ok (.invokevirtual 61, 3) := by decide +kernel
theorem dX6_letter_22 : decode cX6_letter 22 = .ok (.ifCond .eq 13, 3) := by decide +kernel
theorem dX6_letter_25 : decode cX6_letter 25 = .ok (.aload_n 0, 1) := by decide +kernel
theorem dX6_letter_26 : decode cX6_letter 26 = .ok (.getfield 12, 3) := by decide +kernel
theorem dX6_letter_29 : decode cX6_letter 29 = .ok (.getfield 65, 3) := by decide +kernel
theorem dX6_letter_32 : decode cX6_letter 32 = .ok (.goto 5, 3) := by decide +kernel
theorem dX6_letter_35 : decode cX6_letter 35 = .ok (.bipush (-104), 2) := by decide +kernel
theorem dX6_letter_37 : decode cX6_letter 37 = .ok (.ireturn, 1) := by decide +kernel
theorem dX6_blank_0 : decode cX6_blank 0 = .ok (.aload_n 0, 1) := by decide +kernel
theorem dX6_blank_1 : decode cX6_blank 1 = .ok (.getfield 12, 3) := by decide +kernel
theorem dX6_blank_4 : decode cX6_blank 4 = .ok (.getfield 65, 3) := by decide +kernel
theorem dX6_blank_7 : decode cX6_blank 7 = .ok (.istore_n 1, 1) := by decide +kernel
theorem dX6_blank_8 : decode cX6_blank 8 = .ok (.aload_n 0, 1) := by decide +kernel
theorem dX6_blank_9 : decode cX6_blank 9 = .ok (.getfield 12, 3) := by decide +kernel
theorem dX6_blank_12 : decode cX6_blank 12 = .ok (.iconst 0, 1) := by decide +kernel
theorem dX6_blank_13 : decode cX6_blank 13 = .ok (.putfield 65, 3) := by decide +kernel
theorem dX6_blank_16 : decode cX6_blank 16 = .ok (.iload_n 1, 1) := by decide +kernel
theorem dX6_blank_17 : decode cX6_blank 17 = .ok (.ireturn, 1) := by decide +kernel
theorem dX6_fault_0 : decode cX6_fault 0 = .ok (.aload_n 0, 1) := by decide +kernel
theorem dX6_fault_1 : decode cX6_fault 1 = .ok (.getfield 12, 3) := by decide +kernel
theorem dX6_fault_4 : decode cX6_fault 4 = .ok (.invokevirtual 69, 3) := by decide +kernel
theorem dX6_fault_7 : decode cX6_fault 7 = .ok (.ireturn, 1) := by decide +kernel
theorem dX6_shop_0 : decode cX6_shop 0 = .ok (.aload_n 0, 1) := by decide +kernel
theorem dX6_shop_1 : decode cX6_shop 1 = .ok (.getfield 12, 3) := by decide +kernel
theorem dX6_shop_4 : decode cX6_shop 4 = .ok (.invokevirtual 73, 3) := by decide +kernel
theorem dX6_shop_7 : decode cX6_shop 7 = .ok (.ifCond .ne 6, 3) := by decide +kernel
theorem dX6_shop_10 : decode cX6_shop 10 = .ok (.bipush (-103), 2) := by decide +kernel
theorem dX6_shop_12 : decode cX6_shop 12 = .ok (.ireturn, 1) := by decide +kernel
theorem dX6_shop_13 : decode cX6_shop 13 = .ok (.aload_n 0, 1) := by decide +kernel
theorem dX6_shop_14 : decode cX6_shop 14 = .ok (.getfield 12, 3) := by decide +kernel
theorem dX6_shop_17 : decode cX6_shop 17 = .ok (.aload_n 0, 1) := by decide +kernel
theorem dX6_shop_18 : decode cX6_shop 18 = .ok (.getfield 19, 3) := by decide +kernel
theorem dX6_shop_21 : decode cX6_shop 21 = .ok (.invokevirtual 77, 3) := by decide +kernel
theorem dX6_shop_24 : decode cX6_shop 24 = .ok (.aload_n 0, 1) := by decide +kernel
theorem dX6_shop_25 : decode cX6_shop 25 = .ok (.getfield 12, 3) := by decide +kernel
theorem dX6_shop_28 : decode cX6_shop 28 = .ok (.iconst 0, 1) := by decide +kernel
theorem dX6_shop_29 : decode cX6_shop 29 = .ok (.putfield 65, 3) := by decide +kernel
theorem dX6_shop_32 : decode cX6_shop 32 = .ok (.aload_n 0, 1) := by decide +kernel
theorem dX6_shop_33 : decode cX6_shop 33 = .ok (.iconst 0, 1) := by decide +kernel
theorem dX6_shop_34 : decode cX6_shop 34 = .ok (.putfield 81, 3) := by decide +kernel
theorem dX6_shop_37 : decode cX6_shop 37 = .ok (.aload_n 0, 1) := by decide +kernel
theorem dX6_shop_38 : decode cX6_shop 38 = .ok (.dup, 1) := by decide +kernel
theorem dX6_shop_39 : decode cX6_shop 39 = .ok (.getfield 85, 3) := by decide +kernel
theorem dX6_shop_42 : decode cX6_shop 42 = .ok (.iconst 1, 1) := by decide +kernel
theorem dX6_shop_43 : decode cX6_shop 43 = .ok (.iadd, 1) := by decide +kernel
theorem dX6_shop_44 : decode cX6_shop 44 = .ok (.putfield 85, 3) := by decide +kernel
theorem dX6_shop_47 : decode cX6_shop 47 = .ok (.aload_n 0, 1) := by decide +kernel
theorem dX6_shop_48 : decode cX6_shop 48 = .ok (.getfield 19, 3) := by decide +kernel
theorem dX6_shop_51 : decode cX6_shop 51 = .ok (.getfield 88, 3) := by decide +kernel
theorem dX6_shop_54 : decode cX6_shop 54 = .ok (.ireturn, 1) := by decide +kernel
theorem dX6_glove_0 : decode cX6_glove 0 = .ok (.aload_n 0, 1) := by decide +kernel
theorem dX6_glove_1 : decode cX6_glove 1 = .ok (.getfield 19, 3) := by decide +kernel
theorem dX6_glove_4 : decode cX6_glove 4 = .ok (.iload_n 1, 1) := by decide +kernel
theorem dX6_glove_5 : decode cX6_glove 5 = .ok (.invokevirtual 91, 3) := by decide +kernel
theorem dX6_glove_8 : decode cX6_glove 8 = .ok (.ifCond .ne 6, 3) := by decide +kernel
theorem dX6_glove_11 : decode cX6_glove 11 = .ok (.bipush (-101), 2) := by decide +kernel
theorem dX6_glove_13 : decode cX6_glove 13 = .ok (.ireturn, 1) := by decide +kernel
theorem dX6_glove_14 : decode cX6_glove 14 = .ok (.iload_n 2, 1) := by decide +kernel
theorem dX6_glove_15 : decode cX6_glove 15 = .ok (.tableswitch 146 0 8 #[49, 61, 73, 85, 95, 107, 119, 128, 137], 49) := by decide +kernel
theorem dX6_glove_64 : decode cX6_glove 64 = .ok (.aload_n 0, 1) := by decide +kernel
theorem dX6_glove_65 : decode cX6_glove 65 = .ok (.getfield 19, 3) := by decide +kernel
theorem dX6_glove_68 : decode cX6_glove 68 = .ok (.getfield 94, 3) := by decide +kernel
theorem dX6_glove_71 : decode cX6_glove 71 = .ok (.iload_n 1, 1) := by decide +kernel
theorem dX6_glove_72 : decode cX6_glove 72 = .ok (.invokestatic 98, 3) := by decide +kernel
theorem dX6_glove_75 : decode cX6_glove 75 = .ok (.ireturn, 1) := by decide +kernel
theorem dX6_glove_76 : decode cX6_glove 76 = .ok (.aload_n 0, 1) := by decide +kernel
theorem dX6_glove_77 : decode cX6_glove 77 = .ok (.getfield 19, 3) := by decide +kernel
theorem dX6_glove_80 : decode cX6_glove 80 = .ok (.getfield 102, 3) := by decide +kernel
theorem dX6_glove_83 : decode cX6_glove 83 = .ok (.iload_n 1, 1) := by decide +kernel
theorem dX6_glove_84 : decode cX6_glove 84 = .ok (.invokestatic 98, 3) := by decide +kernel
theorem dX6_glove_87 : decode cX6_glove 87 = .ok (.ireturn, 1) := by decide +kernel
theorem dX6_glove_88 : decode cX6_glove 88 = .ok (.aload_n 0, 1) := by decide +kernel
theorem dX6_glove_89 : decode cX6_glove 89 = .ok (.getfield 19, 3) := by decide +kernel
theorem dX6_glove_92 : decode cX6_glove 92 = .ok (.getfield 105, 3) := by decide +kernel
theorem dX6_glove_95 : decode cX6_glove 95 = .ok (.iload_n 1, 1) := by decide +kernel
theorem dX6_glove_96 : decode cX6_glove 96 = .ok (.invokestatic 98, 3) := by decide +kernel
theorem dX6_glove_99 : decode cX6_glove 99 = .ok (.ireturn, 1) := by decide +kernel
theorem dX6_glove_100 : decode cX6_glove 100 = .ok (.aload_n 0, 1) := by decide +kernel
theorem dX6_glove_101 : decode cX6_glove 101 = .ok (.getfield 19, 3) := by decide +kernel
theorem dX6_glove_104 : decode cX6_glove 104 = .ok (.iload_n 1, 1) := by decide +kernel
theorem dX6_glove_105 : decode cX6_glove 105 = .ok (.iconst 0, 1) := by decide +kernel
theorem dX6_glove_106 : decode cX6_glove 106 = .ok (.invokevirtual 108, 3) := by decide +kernel
theorem dX6_glove_109 : decode cX6_glove 109 = .ok (.ireturn, 1) := by decide +kernel
theorem dX6_glove_110 : decode cX6_glove 110 = .ok (.aload_n 0, 1) := by decide +kernel
theorem dX6_glove_111 : decode cX6_glove 111 = .ok (.getfield 19, 3) := by decide +kernel
theorem dX6_glove_114 : decode cX6_glove 114 = .ok (.getfield 112, 3) := by decide +kernel
theorem dX6_glove_117 : decode cX6_glove 117 = .ok (.iload_n 1, 1) := by decide +kernel
theorem dX6_glove_118 : decode cX6_glove 118 = .ok (.invokestatic 98, 3) := by decide +kernel
theorem dX6_glove_121 : decode cX6_glove 121 = .ok (.ireturn, 1) := by decide +kernel
theorem dX6_glove_122 : decode cX6_glove 122 = .ok (.aload_n 0, 1) := by decide +kernel
theorem dX6_glove_123 : decode cX6_glove 123 = .ok (.getfield 19, 3) := by decide +kernel
theorem dX6_glove_126 : decode cX6_glove 126 = .ok (.getfield 115, 3) := by decide +kernel
theorem dX6_glove_129 : decode cX6_glove 129 = .ok (.iload_n 1, 1) := by decide +kernel
theorem dX6_glove_130 : decode cX6_glove 130 = .ok (.invokestatic 98, 3) := by decide +kernel
theorem dX6_glove_133 : decode cX6_glove 133 = .ok (.ireturn, 1) := by decide +kernel
theorem dX6_glove_134 : decode cX6_glove 134 = .ok (.aload_n 0, 1) := by decide +kernel
theorem dX6_glove_135 : decode cX6_glove 135 = .ok (.getfield 19, 3) := by decide +kernel
theorem dX6_glove_138 : decode cX6_glove 138 = .ok (.iload_n 1, 1) := by decide +kernel
theorem dX6_glove_139 : decode cX6_glove 139 = .ok (.invokevirtual 118, 3) := by decide +kernel
theorem dX6_glove_142 : decode cX6_glove 142 = .ok (.ireturn, 1) := by decide +kernel
theorem dX6_glove_143 : decode cX6_glove 143 = .ok (.aload_n 0, 1) := by decide +kernel
theorem dX6_glove_144 : decode cX6_glove 144 = .ok (.getfield 19, 3) := by decide +kernel
theorem dX6_glove_147 : decode cX6_glove 147 = .ok (.iload_n 1, 1) := by decide +kernel
theorem dX6_glove_148 : decode cX6_glove 148 = .ok (.invokevirtual 122, 3) := by decide +kernel
theorem dX6_glove_151 : decode cX6_glove 151 = .ok (.ireturn, 1) := by decide +kernel
theorem dX6_glove_152 : decode cX6_glove 152 = .ok (.aload_n 0, 1) := by decide +kernel
theorem dX6_glove_153 : decode cX6_glove 153 = .ok (.getfield 19, 3) := by decide +kernel
theorem dX6_glove_156 : decode cX6_glove 156 = .ok (.iload_n 1, 1) := by decide +kernel
theorem dX6_glove_157 : decode cX6_glove 157 = .ok (.invokevirtual 125, 3) := by decide +kernel
theorem dX6_glove_160 : decode cX6_glove 160 = .ok (.ireturn, 1) := by decide +kernel
theorem dX6_glove_161 : decode cX6_glove 161 = .ok (.bipush (-102), 2) := by decide +kernel
theorem dX6_glove_163 : decode cX6_glove 163 = .ok (.ireturn, 1) := by decide +kernel
theorem dX6_as_0 : decode cX6_as 0 = .ok (.aload_n 0, 1) := by decide +kernel
theorem dX6_as_1 : decode cX6_as 1 = .ok (.getfield 19, 3) := by decide +kernel
theorem dX6_as_4 : decode cX6_as 4 = .ok (.iload_n 1, 1) := by decide +kernel
theorem dX6_as_5 : decode cX6_as 5 = .ok (.invokevirtual 91, 3) := by decide +kernel
theorem dX6_as_8 : decode cX6_as 8 = .ok (.ifCond .ne 6, 3) := by decide +kernel
theorem dX6_as_11 : decode cX6_as 11 = .ok (.bipush (-101), 2) := by decide +kernel
theorem dX6_as_13 : decode cX6_as 13 = .ok (.ireturn, 1) := by decide +kernel
theorem dX6_as_14 : decode cX6_as 14 = .ok (.iload_n 2, 1) := by decide +kernel
theorem dX6_as_15 : decode cX6_as 15 = .ok (.iconst 0, 1) := by decide +kernel
theorem dX6_as_16 : decode cX6_as 16 = .ok (.iconst 4, 1) := by decide +kernel
theorem dX6_as_17 : decode cX6_as 17 = .ok (.invokestatic 57, 3) := by decide +kernel
theorem dX6_as_20 : decode cX6_as 20 = .ok (.ifCond .ne 6, 3) := by decide +kernel
theorem dX6_as_23 : decode cX6_as 23 = .ok (.bipush (-102), 2) := by decide +kernel
theorem dX6_as_25 : decode cX6_as 25 = .ok (.ireturn, 1) := by decide +kernel
theorem dX6_as_26 : decode cX6_as 26 = .ok (.aload_n 0, 1) := by decide +kernel
theorem dX6_as_27 : decode cX6_as 27 = .ok (.getfield 19, 3) := by decide +kernel
theorem dX6_as_30 : decode cX6_as 30 = .ok (.getfield 94, 3) := by decide +kernel
theorem dX6_as_33 : decode cX6_as 33 = .ok (.iload_n 1, 1) := by decide +kernel
theorem dX6_as_34 : decode cX6_as 34 = .ok (.invokestatic 98, 3) := by decide +kernel
theorem dX6_as_37 : decode cX6_as 37 = .ok (.iload_n 2, 1) := by decide +kernel
theorem dX6_as_38 : decode cX6_as 38 = .ok (.invokestatic 128, 3) := by decide +kernel
theorem dX6_as_41 : decode cX6_as 41 = .ok (.ifCond .eq 7, 3) := by decide +kernel
theorem dX6_as_44 : decode cX6_as 44 = .ok (.iload_n 1, 1) := by decide +kernel
theorem dX6_as_45 : decode cX6_as 45 = .ok (.goto 4, 3) := by decide +kernel
theorem dX6_as_48 : decode cX6_as 48 = .ok (.iconst (-1), 1) := by decide +kernel
theorem dX6_as_49 : decode cX6_as 49 = .ok (.ireturn, 1) := by decide +kernel
theorem dX6_wearer_0 : decode cX6_wearer 0 = .ok (.aload_n 0, 1) := by decide +kernel
theorem dX6_wearer_1 : decode cX6_wearer 1 = .ok (.getfield 19, 3) := by decide +kernel
theorem dX6_wearer_4 : decode cX6_wearer 4 = .ok (.iload_n 1, 1) := by decide +kernel
theorem dX6_wearer_5 : decode cX6_wearer 5 = .ok (.invokevirtual 132, 3) := by decide +kernel
theorem dX6_wearer_8 : decode cX6_wearer 8 = .ok (.ifCond .ne 6, 3) := by decide +kernel
theorem dX6_wearer_11 : decode cX6_wearer 11 = .ok (.bipush (-101), 2) := by decide +kernel
theorem dX6_wearer_13 : decode cX6_wearer 13 = .ok (.ireturn, 1) := by decide +kernel
theorem dX6_wearer_14 : decode cX6_wearer 14 = .ok (.iload_n 2, 1) := by decide +kernel
theorem dX6_wearer_15 : decode cX6_wearer 15 = .ok (.tableswitch 168 0 8 #[49, 61, 71, 81, 91, 104, 116, 142, 159], 49) := by decide +kernel
theorem dX6_wearer_64 : decode cX6_wearer 64 = .ok (.aload_n 0, 1) := by decide +kernel
theorem dX6_wearer_65 : decode cX6_wearer 65 = .ok (.getfield 19, 3) := by decide +kernel
theorem dX6_wearer_68 : decode cX6_wearer 68 = .ok (.getfield 135, 3) := by decide +kernel
theorem dX6_wearer_71 : decode cX6_wearer 71 = .ok (.iload_n 1, 1) := by decide +kernel
theorem dX6_wearer_72 : decode cX6_wearer 72 = .ok (.invokestatic 98, 3) := by decide +kernel
theorem dX6_wearer_75 : decode cX6_wearer 75 = .ok (.ireturn, 1) := by decide +kernel
theorem dX6_wearer_76 : decode cX6_wearer 76 = .ok (.aload_n 0, 1) := by decide +kernel
theorem dX6_wearer_77 : decode cX6_wearer 77 = .ok (.getfield 19, 3) := by decide +kernel
theorem dX6_wearer_80 : decode cX6_wearer 80 = .ok (.iload_n 1, 1) := by decide +kernel
theorem dX6_wearer_81 : decode cX6_wearer 81 = .ok (.iconst 0, 1) := by decide +kernel
theorem dX6_wearer_82 : decode cX6_wearer 82 = .ok (.invokevirtual 138, 3) := by decide +kernel
theorem dX6_wearer_85 : decode cX6_wearer 85 = .ok (.ireturn, 1) := by decide +kernel
theorem dX6_wearer_86 : decode cX6_wearer 86 = .ok (.aload_n 0, 1) := by decide +kernel
theorem dX6_wearer_87 : decode cX6_wearer 87 = .ok (.getfield 19, 3) := by decide +kernel
theorem dX6_wearer_90 : decode cX6_wearer 90 = .ok (.iload_n 1, 1) := by decide +kernel
theorem dX6_wearer_91 : decode cX6_wearer 91 = .ok (.iconst 0, 1) := by decide +kernel
theorem dX6_wearer_92 : decode cX6_wearer 92 = .ok (.invokevirtual 141, 3) := by decide +kernel
theorem dX6_wearer_95 : decode cX6_wearer 95 = .ok (.ireturn, 1) := by decide +kernel
theorem dX6_wearer_96 : decode cX6_wearer 96 = .ok (.aload_n 0, 1) := by decide +kernel
theorem dX6_wearer_97 : decode cX6_wearer 97 = .ok (.getfield 19, 3) := by decide +kernel
theorem dX6_wearer_100 : decode cX6_wearer 100 = .ok (.iload_n 1, 1) := by decide +kernel
theorem dX6_wearer_101 : decode cX6_wearer 101 = .ok (.iconst 1, 1) := by decide +kernel
theorem dX6_wearer_102 : decode cX6_wearer 102 = .ok (.invokevirtual 141, 3) := by decide +kernel
theorem dX6_wearer_105 : decode cX6_wearer 105 = .ok (.ireturn, 1) := by decide +kernel
theorem dX6_wearer_106 : decode cX6_wearer 106 = .ok (.aload_n 0, 1) := by decide +kernel
theorem dX6_wearer_107 : decode cX6_wearer 107 = .ok (.getfield 19, 3) := by decide +kernel
theorem dX6_wearer_110 : decode cX6_wearer 110 = .ok (.iload_n 1, 1) := by decide +kernel
theorem dX6_wearer_111 : decode cX6_wearer 111 = .ok (.iconst 0, 1) := by decide +kernel
theorem dX6_wearer_112 : decode cX6_wearer 112 = .ok (.invokevirtual 138, 3) := by decide +kernel
theorem dX6_wearer_115 : decode cX6_wearer 115 = .ok (.invokestatic 144, 3) := by decide +kernel
theorem dX6_wearer_118 : decode cX6_wearer 118 = .ok (.ireturn, 1) := by decide +kernel
theorem dX6_wearer_119 : decode cX6_wearer 119 = .ok (.aload_n 0, 1) := by decide +kernel
theorem dX6_wearer_120 : decode cX6_wearer 120 = .ok (.getfield 19, 3) := by decide +kernel
theorem dX6_wearer_123 : decode cX6_wearer 123 = .ok (.getfield 147, 3) := by decide +kernel
theorem dX6_wearer_126 : decode cX6_wearer 126 = .ok (.iload_n 1, 1) := by decide +kernel
theorem dX6_wearer_127 : decode cX6_wearer 127 = .ok (.invokestatic 98, 3) := by decide +kernel
theorem dX6_wearer_130 : decode cX6_wearer 130 = .ok (.ireturn, 1) := by decide +kernel
theorem dX6_wearer_131 : decode cX6_wearer 131 = .ok (.aload_n 0, 1) := by decide +kernel
theorem dX6_wearer_132 : decode cX6_wearer 132 = .ok (.getfield 19, 3) := by decide +kernel
theorem dX6_wearer_135 : decode cX6_wearer 135 = .ok (.iload_n 1, 1) := by decide +kernel
theorem dX6_wearer_136 : decode cX6_wearer 136 = .ok (.aload_n 0, 1) := by decide +kernel
theorem dX6_wearer_137 : decode cX6_wearer 137 = .ok (.getfield 19, 3) := by decide +kernel
theorem dX6_wearer_140 : decode cX6_wearer 140 = .ok (.iload_n 1, 1) := by decide +kernel
theorem dX6_wearer_141 : decode cX6_wearer 141 = .ok (.iconst 0, 1) := by decide +kernel
theorem dX6_wearer_142 : decode cX6_wearer 142 = .ok (.invokevirtual 138, 3) := by decide +kernel
theorem dX6_wearer_145 : decode cX6_wearer 145 = .ok (.invokevirtual 150, 3) := by decide +kernel
theorem dX6_wearer_148 : decode cX6_wearer 148 = .ok (.ifCond .eq 7, 3) := by decide +kernel
theorem dX6_wearer_151 : decode cX6_wearer 151 = .ok (.iconst 1, 1) := by decide +kernel
theorem dX6_wearer_152 : decode cX6_wearer 152 = .ok (.goto 4, 3) := by decide +kernel
theorem dX6_wearer_155 : decode cX6_wearer 155 = .ok (.iconst 0, 1) := by decide +kernel
theorem dX6_wearer_156 : decode cX6_wearer 156 = .ok (.ireturn, 1) := by decide +kernel
theorem dX6_wearer_157 : decode cX6_wearer 157 = .ok (.aload_n 0, 1) := by decide +kernel
theorem dX6_wearer_158 : decode cX6_wearer 158 = .ok (.getfield 19, 3) := by decide +kernel
theorem dX6_wearer_161 : decode cX6_wearer 161 = .ok (.iload_n 1, 1) := by decide +kernel
theorem dX6_wearer_162 : decode cX6_wearer 162 = .ok (.aload_n 0, 1) := by decide +kernel
theorem dX6_wearer_163 : decode cX6_wearer 163 = .ok (.getfield 19, 3) := by decide +kernel
theorem dX6_wearer_166 : decode cX6_wearer 166 = .ok (.iload_n 1, 1) := by decide +kernel
theorem dX6_wearer_167 : decode cX6_wearer 167 = .ok (.invokevirtual 153, 3) := by decide +kernel
theorem dX6_wearer_170 : decode cX6_wearer 170 = .ok (.invokevirtual 156, 3) := by decide +kernel
theorem dX6_wearer_173 : decode cX6_wearer 173 = .ok (.ireturn, 1) := by decide +kernel
theorem dX6_wearer_174 : decode cX6_wearer 174 = .ok (.aload_n 0, 1) := by decide +kernel
theorem dX6_wearer_175 : decode cX6_wearer 175 = .ok (.getfield 19, 3) := by decide +kernel
theorem dX6_wearer_178 : decode cX6_wearer 178 = .ok (.iload_n 1, 1) := by decide +kernel
theorem dX6_wearer_179 : decode cX6_wearer 179 = .ok (.invokevirtual 153, 3) := by decide +kernel
theorem dX6_wearer_182 : decode cX6_wearer 182 = .ok (.ireturn, 1) := by decide +kernel
theorem dX6_wearer_183 : decode cX6_wearer 183 = .ok (.bipush (-102), 2) := by decide +kernel
theorem dX6_wearer_185 : decode cX6_wearer 185 = .ok (.ireturn, 1) := by decide +kernel
theorem dX6_wear_0 : decode cX6_wear 0 = .ok (.aload_n 0, 1) := by decide +kernel
theorem dX6_wear_1 : decode cX6_wear 1 = .ok (.getfield 19, 3) := by decide +kernel
theorem dX6_wear_4 : decode cX6_wear 4 = .ok (.iload_n 1, 1) := by decide +kernel
theorem dX6_wear_5 : decode cX6_wear 5 = .ok (.invokevirtual 91, 3) := by decide +kernel
theorem dX6_wear_8 : decode cX6_wear 8 = .ok (.ifCond .eq 14, 3) := by decide +kernel
theorem dX6_wear_11 : decode cX6_wear 11 = .ok (.aload_n 0, 1) := by decide +kernel
theorem dX6_wear_12 : decode cX6_wear 12 = .ok (.getfield 19, 3) := by decide +kernel
theorem dX6_wear_15 : decode cX6_wear 15 = .ok (.iload_n 2, 1) := by decide +kernel
theorem dX6_wear_16 : decode cX6_wear 16 = .ok (.invokevirtual 132, 3) := by decide +kernel
theorem dX6_wear_19 : decode cX6_wear 19 = .ok (.ifCond .ne 6, 3) := by decide +kernel
theorem dX6_wear_22 : decode cX6_wear 22 = .ok (.bipush (-101), 2) := by decide +kernel
theorem dX6_wear_24 : decode cX6_wear 24 = .ok (.ireturn, 1) := by decide +kernel
theorem dX6_wear_25 : decode cX6_wear 25 = .ok (.iload_n 3, 1) := by decide +kernel
theorem dX6_wear_26 : decode cX6_wear 26 = .ok (.iconst 0, 1) := by decide +kernel
theorem dX6_wear_27 : decode cX6_wear 27 = .ok (.iconst 1, 1) := by decide +kernel
theorem dX6_wear_28 : decode cX6_wear 28 = .ok (.invokestatic 57, 3) := by decide +kernel
theorem dX6_wear_31 : decode cX6_wear 31 = .ok (.ifCond .ne 6, 3) := by decide +kernel
theorem dX6_wear_34 : decode cX6_wear 34 = .ok (.bipush (-102), 2) := by decide +kernel
theorem dX6_wear_36 : decode cX6_wear 36 = .ok (.ireturn, 1) := by decide +kernel
theorem dX6_wear_37 : decode cX6_wear 37 = .ok (.aload_n 0, 1) := by decide +kernel
theorem dX6_wear_38 : decode cX6_wear 38 = .ok (.getfield 19, 3) := by decide +kernel
theorem dX6_wear_41 : decode cX6_wear 41 = .ok (.getfield 112, 3) := by decide +kernel
theorem dX6_wear_44 : decode cX6_wear 44 = .ok (.iload_n 1, 1) := by decide +kernel
theorem dX6_wear_45 : decode cX6_wear 45 = .ok (.invokestatic 98, 3) := by decide +kernel
theorem dX6_wear_48 : decode cX6_wear 48 = .ok (.iconst (-1), 1) := by decide +kernel
theorem dX6_wear_49 : decode cX6_wear 49 = .ok (.if_icmp .ne 16, 3) := by decide +kernel
theorem dX6_wear_52 : decode cX6_wear 52 = .ok (.aload_n 0, 1) := by decide +kernel
theorem dX6_wear_53 : decode cX6_wear 53 = .ok (.getfield 19, 3) := by decide +kernel
theorem dX6_wear_56 : decode cX6_wear 56 = .ok (.iload_n 2, 1) := by decide +kernel
theorem dX6_wear_57 : decode cX6_wear 57 = .ok (.iload_n 3, 1) := by decide +kernel
theorem dX6_wear_58 : decode cX6_wear 58 = .ok (.invokevirtual 141, 3) := by decide +kernel
theorem dX6_wear_61 : decode cX6_wear 61 = .ok (.iconst (-1), 1) := by decide +kernel
theorem dX6_wear_62 : decode cX6_wear 62 = .ok (.if_icmp .eq 6, 3) := by decide +kernel
theorem dX6_wear_65 : decode cX6_wear 65 = .ok (.bipush (-103), 2) := by decide +kernel
theorem dX6_wear_67 : decode cX6_wear 67 = .ok (.ireturn, 1) := by decide +kernel
theorem dX6_wear_68 : decode cX6_wear 68 = .ok (.aload_n 0, 1) := by decide +kernel
theorem dX6_wear_69 : decode cX6_wear 69 = .ok (.getfield 19, 3) := by decide +kernel
theorem dX6_wear_72 : decode cX6_wear 72 = .ok (.iload_n 1, 1) := by decide +kernel
theorem dX6_wear_73 : decode cX6_wear 73 = .ok (.iload_n 2, 1) := by decide +kernel
theorem dX6_wear_74 : decode cX6_wear 74 = .ok (.iload_n 3, 1) := by decide +kernel
theorem dX6_wear_75 : decode cX6_wear 75 = .ok (.invokevirtual 159, 3) := by decide +kernel
theorem dX6_wear_78 : decode cX6_wear 78 = .ok (.aload_n 0, 1) := by decide +kernel
theorem dX6_wear_79 : decode cX6_wear 79 = .ok (.getfield 19, 3) := by decide +kernel
theorem dX6_wear_82 : decode cX6_wear 82 = .ok (.iload_n 2, 1) := by decide +kernel
theorem dX6_wear_83 : decode cX6_wear 83 = .ok (.iconst 0, 1) := by decide +kernel
theorem dX6_wear_84 : decode cX6_wear 84 = .ok (.invokevirtual 138, 3) := by decide +kernel
theorem dX6_wear_87 : decode cX6_wear 87 = .ok (.ireturn, 1) := by decide +kernel
theorem dX6_off_0 : decode cX6_off 0 = .ok (.aload_n 0, 1) := by decide +kernel
theorem dX6_off_1 : decode cX6_off 1 = .ok (.getfield 19, 3) := by decide +kernel
theorem dX6_off_4 : decode cX6_off 4 = .ok (.iload_n 1, 1) := by decide +kernel
theorem dX6_off_5 : decode cX6_off 5 = .ok (.invokevirtual 91, 3) := by decide +kernel
theorem dX6_off_8 : decode cX6_off 8 = .ok (.ifCond .ne 6, 3) := by decide +kernel
theorem dX6_off_11 : decode cX6_off 11 = .ok (.bipush (-101), 2) := by decide +kernel
theorem dX6_off_13 : decode cX6_off 13 = .ok (.ireturn, 1) := by decide +kernel
theorem dX6_off_14 : decode cX6_off 14 = .ok (.aload_n 0, 1) := by decide +kernel
theorem dX6_off_15 : decode cX6_off 15 = .ok (.getfield 19, 3) := by decide +kernel
theorem dX6_off_18 : decode cX6_off 18 = .ok (.getfield 112, 3) := by decide +kernel
theorem dX6_off_21 : decode cX6_off 21 = .ok (.iload_n 1, 1) := by decide +kernel
theorem dX6_off_22 : decode cX6_off 22 = .ok (.invokestatic 98, 3) := by decide +kernel
theorem dX6_off_25 : decode cX6_off 25 = .ok (.istore_n 2, 1) := by decide +kernel
theorem dX6_off_26 : decode cX6_off 26 = .ok (.iload_n 2, 1) := by decide +kernel
theorem dX6_off_27 : decode cX6_off 27 = .ok (.iconst (-1), 1) := by decide +kernel
theorem dX6_off_28 : decode cX6_off 28 = .ok (.if_icmp .ne 6, 3) := by decide +kernel
theorem dX6_off_31 : decode cX6_off 31 = .ok (.bipush (-103), 2) := by decide +kernel
theorem dX6_off_33 : decode cX6_off 33 = .ok (.ireturn, 1) := by decide +kernel
theorem dX6_off_34 : decode cX6_off 34 = .ok (.aload_n 0, 1) := by decide +kernel
theorem dX6_off_35 : decode cX6_off 35 = .ok (.getfield 19, 3) := by decide +kernel
theorem dX6_off_38 : decode cX6_off 38 = .ok (.iload_n 1, 1) := by decide +kernel
theorem dX6_off_39 : decode cX6_off 39 = .ok (.invokevirtual 163, 3) := by decide +kernel
theorem dX6_off_42 : decode cX6_off 42 = .ok (.iload_n 2, 1) := by decide +kernel
theorem dX6_off_43 : decode cX6_off 43 = .ok (.ireturn, 1) := by decide +kernel
theorem dX6_hour_0 : decode cX6_hour 0 = .ok (.aload_n 0, 1) := by decide +kernel
theorem dX6_hour_1 : decode cX6_hour 1 = .ok (.invokevirtual 167, 3) := by decide +kernel
theorem dX6_hour_4 : decode cX6_hour 4 = .ok (.ifCond .ne 6, 3) := by decide +kernel
theorem dX6_hour_7 : decode cX6_hour 7 = .ok (.bipush (-103), 2) := by decide +kernel
theorem dX6_hour_9 : decode cX6_hour 9 = .ok (.ireturn, 1) := by decide +kernel
theorem dX6_hour_10 : decode cX6_hour 10 = .ok (.aload_n 0, 1) := by decide +kernel
theorem dX6_hour_11 : decode cX6_hour 11 = .ok (.getfield 19, 3) := by decide +kernel
theorem dX6_hour_14 : decode cX6_hour 14 = .ok (.getfield 170, 3) := by decide +kernel
theorem dX6_hour_17 : decode cX6_hour 17 = .ok (.sipush 999, 3) := by decide +kernel
theorem dX6_hour_20 : decode cX6_hour 20 = .ok (.if_icmp .lt 6, 3) := by decide +kernel
theorem dX6_hour_23 : decode cX6_hour 23 = .ok (.bipush (-104), 2) := by decide +kernel
theorem dX6_hour_25 : decode cX6_hour 25 = .ok (.ireturn, 1) := by decide +kernel
theorem dX6_hour_26 : decode cX6_hour 26 = .ok (.aload_n 0, 1) := by decide +kernel
theorem dX6_hour_27 : decode cX6_hour 27 = .ok (.getfield 19, 3) := by decide +kernel
theorem dX6_hour_30 : decode cX6_hour 30 = .ok (.invokevirtual 173, 3) := by decide +kernel
theorem dX6_hour_33 : decode cX6_hour 33 = .ok (.aload_n 0, 1) := by decide +kernel
theorem dX6_hour_34 : decode cX6_hour 34 = .ok (.getfield 19, 3) := by decide +kernel
theorem dX6_hour_37 : decode cX6_hour 37 = .ok (.getfield 170, 3) := by decide +kernel
theorem dX6_hour_40 : decode cX6_hour 40 = .ok (.ireturn, 1) := by decide +kernel
theorem dX6_book_0 : decode cX6_book 0 = .ok (.aload_n 0, 1) := by decide +kernel
theorem dX6_book_1 : decode cX6_book 1 = .ok (.getfield 19, 3) := by decide +kernel
theorem dX6_book_4 : decode cX6_book 4 = .ok (.iload_n 1, 1) := by decide +kernel
theorem dX6_book_5 : decode cX6_book 5 = .ok (.invokevirtual 91, 3) := by decide +kernel
theorem dX6_book_8 : decode cX6_book 8 = .ok (.ifCond .ne 6, 3) := by decide +kernel
theorem dX6_book_11 : decode cX6_book 11 = .ok (.bipush (-101), 2) := by decide +kernel
theorem dX6_book_13 : decode cX6_book 13 = .ok (.ireturn, 1) := by decide +kernel
theorem dX6_book_14 : decode cX6_book 14 = .ok (.iload_n 2, 1) := by decide +kernel
theorem dX6_book_15 : decode cX6_book 15 = .ok (.iconst 0, 1) := by decide +kernel
theorem dX6_book_16 : decode cX6_book 16 = .ok (.bipush 9, 2) := by decide +kernel
theorem dX6_book_18 : decode cX6_book 18 = .ok (.invokestatic 57, 3) := by decide +kernel
theorem dX6_book_21 : decode cX6_book 21 = .ok (.ifCond .ne 6, 3) := by decide +kernel
theorem dX6_book_24 : decode cX6_book 24 = .ok (.bipush (-102), 2) := by decide +kernel
theorem dX6_book_26 : decode cX6_book 26 = .ok (.ireturn, 1) := by decide +kernel
theorem dX6_book_27 : decode cX6_book 27 = .ok (.aload_n 0, 1) := by decide +kernel
theorem dX6_book_28 : decode cX6_book 28 = .ok (.getfield 19, 3) := by decide +kernel
theorem dX6_book_31 : decode cX6_book 31 = .ok (.getfield 102, 3) := by decide +kernel
theorem dX6_book_34 : decode cX6_book 34 = .ok (.iload_n 1, 1) := by decide +kernel
theorem dX6_book_35 : decode cX6_book 35 = .ok (.invokestatic 98, 3) := by decide +kernel
theorem dX6_book_38 : decode cX6_book 38 = .ok (.istore_n 3, 1) := by decide +kernel
theorem dX6_book_39 : decode cX6_book 39 = .ok (.aload_n 0, 1) := by decide +kernel
theorem dX6_book_40 : decode cX6_book 40 = .ok (.getfield 19, 3) := by decide +kernel
theorem dX6_book_43 : decode cX6_book 43 = .ok (.getfield 102, 3) := by decide +kernel
theorem dX6_book_46 : decode cX6_book 46 = .ok (.iload_n 1, 1) := by decide +kernel
theorem dX6_book_47 : decode cX6_book 47 = .ok (.iload_n 2, 1) := by decide +kernel
theorem dX6_book_48 : decode cX6_book 48 = .ok (.invokestatic 176, 3) := by decide +kernel
theorem dX6_book_51 : decode cX6_book 51 = .ok (.iload_n 3, 1) := by decide +kernel
theorem dX6_book_52 : decode cX6_book 52 = .ok (.ireturn, 1) := by decide +kernel
theorem dX6_wish_0 : decode cX6_wish 0 = .ok (.aload_n 0, 1) := by decide +kernel
theorem dX6_wish_1 : decode cX6_wish 1 = .ok (.getfield 19, 3) := by decide +kernel
theorem dX6_wish_4 : decode cX6_wish 4 = .ok (.iload_n 1, 1) := by decide +kernel
theorem dX6_wish_5 : decode cX6_wish 5 = .ok (.invokevirtual 132, 3) := by decide +kernel
theorem dX6_wish_8 : decode cX6_wish 8 = .ok (.ifCond .ne 6, 3) := by decide +kernel
theorem dX6_wish_11 : decode cX6_wish 11 = .ok (.bipush (-101), 2) := by decide +kernel
theorem dX6_wish_13 : decode cX6_wish 13 = .ok (.ireturn, 1) := by decide +kernel
theorem dX6_wish_14 : decode cX6_wish 14 = .ok (.iload_n 2, 1) := by decide +kernel
theorem dX6_wish_15 : decode cX6_wish 15 = .ok (.iconst 0, 1) := by decide +kernel
theorem dX6_wish_16 : decode cX6_wish 16 = .ok (.bipush 9, 2) := by decide +kernel
theorem dX6_wish_18 : decode cX6_wish 18 = .ok (.invokestatic 57, 3) := by decide +kernel
theorem dX6_wish_21 : decode cX6_wish 21 = .ok (.ifCond .eq 12, 3) := by decide +kernel
theorem dX6_wish_24 : decode cX6_wish 24 = .ok (.iload_n 3, 1) := by decide +kernel
theorem dX6_wish_25 : decode cX6_wish 25 = .ok (.iconst 0, 1) := by decide +kernel
theorem dX6_wish_26 : decode cX6_wish 26 = .ok (.iconst 2, 1) := by decide +kernel
theorem dX6_wish_27 : decode cX6_wish 27 = .ok (.invokestatic 57, 3) := by decide +kernel
theorem dX6_wish_30 : decode cX6_wish 30 = .ok (.ifCond .ne 6, 3) := by decide +kernel
theorem dX6_wish_33 : decode cX6_wish 33 = .ok (.bipush (-102), 2) := by decide +kernel
theorem dX6_wish_35 : decode cX6_wish 35 = .ok (.ireturn, 1) := by decide +kernel
theorem dX6_wish_36 : decode cX6_wish 36 = .ok (.aload_n 0, 1) := by decide +kernel
theorem dX6_wish_37 : decode cX6_wish 37 = .ok (.getfield 19, 3) := by decide +kernel
theorem dX6_wish_40 : decode cX6_wish 40 = .ok (.getfield 147, 3) := by decide +kernel
theorem dX6_wish_43 : decode cX6_wish 43 = .ok (.iload_n 1, 1) := by decide +kernel
theorem dX6_wish_44 : decode cX6_wish 44 = .ok (.invokestatic 98, 3) := by decide +kernel
theorem dX6_wish_47 : decode cX6_wish 47 = .ok (.istore 4, 2) := by decide +kernel
theorem dX6_wish_49 : decode cX6_wish 49 = .ok (.aload_n 0, 1) := by decide +kernel
theorem dX6_wish_50 : decode cX6_wish 50 = .ok (.getfield 19, 3) := by decide +kernel
theorem dX6_wish_53 : decode cX6_wish 53 = .ok (.getfield 135, 3) := by decide +kernel
theorem dX6_wish_56 : decode cX6_wish 56 = .ok (.iload_n 1, 1) := by decide +kernel
theorem dX6_wish_57 : decode cX6_wish 57 = .ok (.iload_n 2, 1) := by decide +kernel
theorem dX6_wish_58 : decode cX6_wish 58 = .ok (.invokestatic 176, 3) := by decide +kernel
theorem dX6_wish_61 : decode cX6_wish 61 = .ok (.aload_n 0, 1) := by decide +kernel
theorem dX6_wish_62 : decode cX6_wish 62 = .ok (.getfield 19, 3) := by decide +kernel
theorem dX6_wish_65 : decode cX6_wish 65 = .ok (.getfield 147, 3) := by decide +kernel
theorem dX6_wish_68 : decode cX6_wish 68 = .ok (.iload_n 1, 1) := by decide +kernel
theorem dX6_wish_69 : decode cX6_wish 69 = .ok (.iload_n 3, 1) := by decide +kernel
theorem dX6_wish_70 : decode cX6_wish 70 = .ok (.invokestatic 176, 3) := by decide +kernel
theorem dX6_wish_73 : decode cX6_wish 73 = .ok (.iload 4, 2) := by decide +kernel
theorem dX6_wish_75 : decode cX6_wish 75 = .ok (.ireturn, 1) := by decide +kernel
theorem dX6_mood_0 : decode cX6_mood 0 = .ok (.aload_n 0, 1) := by decide +kernel
theorem dX6_mood_1 : decode cX6_mood 1 = .ok (.getfield 19, 3) := by decide +kernel
theorem dX6_mood_4 : decode cX6_mood 4 = .ok (.iload_n 1, 1) := by decide +kernel
theorem dX6_mood_5 : decode cX6_mood 5 = .ok (.invokevirtual 132, 3) := by decide +kernel
theorem dX6_mood_8 : decode cX6_mood 8 = .ok (.ifCond .ne 6, 3) := by decide +kernel
theorem dX6_mood_11 : decode cX6_mood 11 = .ok (.bipush (-101), 2) := by decide +kernel
theorem dX6_mood_13 : decode cX6_mood 13 = .ok (.ireturn, 1) := by decide +kernel
theorem dX6_mood_14 : decode cX6_mood 14 = .ok (.iload_n 2, 1) := by decide +kernel
theorem dX6_mood_15 : decode cX6_mood 15 = .ok (.iconst 0, 1) := by decide +kernel
theorem dX6_mood_16 : decode cX6_mood 16 = .ok (.bipush 40, 2) := by decide +kernel
theorem dX6_mood_18 : decode cX6_mood 18 = .ok (.invokestatic 57, 3) := by decide +kernel
theorem dX6_mood_21 : decode cX6_mood 21 = .ok (.ifCond .ne 6, 3) := by decide +kernel
theorem dX6_mood_24 : decode cX6_mood 24 = .ok (.bipush (-102), 2) := by decide +kernel
theorem dX6_mood_26 : decode cX6_mood 26 = .ok (.ireturn, 1) := by decide +kernel
theorem dX6_mood_27 : decode cX6_mood 27 = .ok (.aload_n 0, 1) := by decide +kernel
theorem dX6_mood_28 : decode cX6_mood 28 = .ok (.getfield 19, 3) := by decide +kernel
theorem dX6_mood_31 : decode cX6_mood 31 = .ok (.iload_n 1, 1) := by decide +kernel
theorem dX6_mood_32 : decode cX6_mood 32 = .ok (.iload_n 2, 1) := by decide +kernel
theorem dX6_mood_33 : decode cX6_mood 33 = .ok (.invokevirtual 138, 3) := by decide +kernel
theorem dX6_mood_36 : decode cX6_mood 36 = .ok (.ireturn, 1) := by decide +kernel
theorem dX6_dress_0 : decode cX6_dress 0 = .ok (.iload_n 1, 1) := by decide +kernel
theorem dX6_dress_1 : decode cX6_dress 1 = .ok (.iconst 0, 1) := by decide +kernel
theorem dX6_dress_2 : decode cX6_dress 2 = .ok (.iconst 1, 1) := by decide +kernel
theorem dX6_dress_3 : decode cX6_dress 3 = .ok (.invokestatic 57, 3) := by decide +kernel
theorem dX6_dress_6 : decode cX6_dress 6 = .ok (.ifCond .ne 13, 3) := by decide +kernel
theorem dX6_dress_9 : decode cX6_dress 9 = .ok (.iload_n 1, 1) := by decide +kernel
theorem dX6_dress_10 : decode cX6_dress 10 = .ok (.invokestatic 180, 3) := by decide +kernel
theorem dX6_dress_13 : decode cX6_dress 13 = .ok (.ifCond .ne 6, 3) := by decide +kernel
theorem dX6_dress_16 : decode cX6_dress 16 = .ok (.bipush (-102), 2) := by decide +kernel
theorem dX6_dress_18 : decode cX6_dress 18 = .ok (.ireturn, 1) := by decide +kernel
theorem dX6_dress_19 : decode cX6_dress 19 = .ok (.aload_n 0, 1) := by decide +kernel
theorem dX6_dress_20 : decode cX6_dress 20 = .ok (.invokevirtual 167, 3) := by decide +kernel
theorem dX6_dress_23 : decode cX6_dress 23 = .ok (.ifCond .eq 12, 3) := by decide +kernel
theorem dX6_dress_26 : decode cX6_dress 26 = .ok (.aload_n 0, 1) := by decide +kernel
theorem dX6_dress_27 : decode cX6_dress 27 = .ok (.getfield 183, 3) := by decide +kernel
theorem dX6_dress_30 : decode cX6_dress 30 = .ok (.bipush 20, 2) := by decide +kernel
theorem dX6_dress_32 : decode cX6_dress 32 = .ok (.if_icmp .lt 6, 3) := by decide +kernel
theorem dX6_dress_35 : decode cX6_dress 35 = .ok (.bipush (-103), 2) := by decide +kernel
theorem dX6_dress_37 : decode cX6_dress 37 = .ok (.ireturn, 1) := by decide +kernel
theorem dX6_dress_38 : decode cX6_dress 38 = .ok (.aload_n 0, 1) := by decide +kernel
theorem dX6_dress_39 : decode cX6_dress 39 = .ok (.dup, 1) := by decide +kernel
theorem dX6_dress_40 : decode cX6_dress 40 = .ok (.getfield 183, 3) := by decide +kernel
theorem dX6_dress_43 : decode cX6_dress 43 = .ok (.iconst 1, 1) := by decide +kernel
theorem dX6_dress_44 : decode cX6_dress 44 = .ok (.iadd, 1) := by decide +kernel
theorem dX6_dress_45 : decode cX6_dress 45 = .ok (.putfield 183, 3) := by decide +kernel
theorem dX6_dress_48 : decode cX6_dress 48 = .ok (.aload_n 0, 1) := by decide +kernel
theorem dX6_dress_49 : decode cX6_dress 49 = .ok (.getfield 32, 3) := by decide +kernel
theorem dX6_dress_52 : decode cX6_dress 52 = .ok (.aload_n 0, 1) := by decide +kernel
theorem dX6_dress_53 : decode cX6_dress 53 = .ok (.getfield 19, 3) := by decide +kernel
theorem dX6_dress_56 : decode cX6_dress 56 = .ok (.invokevirtual 186, 3) := by decide +kernel
theorem dX6_dress_59 : decode cX6_dress 59 = .ok (.iload_n 1, 1) := by decide +kernel
theorem dX6_dress_60 : decode cX6_dress 60 = .ok (.lookupswitch 44 #[(0, 28), (1, 36)], 28) := by decide +kernel
theorem dX6_dress_88 : decode cX6_dress 88 = .ok (.aload_n 0, 1) := by decide +kernel
theorem dX6_dress_89 : decode cX6_dress 89 = .ok (.getfield 32, 3) := by decide +kernel
theorem dX6_dress_92 : decode cX6_dress 92 = .ok (.getfield 189, 3) := by decide +kernel
theorem dX6_dress_95 : decode cX6_dress 95 = .ok (.ireturn, 1) := by decide +kernel
theorem dX6_dress_96 : decode cX6_dress 96 = .ok (.aload_n 0, 1) := by decide +kernel
theorem dX6_dress_97 : decode cX6_dress 97 = .ok (.getfield 32, 3) := by decide +kernel
theorem dX6_dress_100 : decode cX6_dress 100 = .ok (.getfield 192, 3) := by decide +kernel
theorem dX6_dress_103 : decode cX6_dress 103 = .ok (.ireturn, 1) := by decide +kernel
theorem dX6_dress_104 : decode cX6_dress 104 = .ok (.aload_n 0, 1) := by decide +kernel
theorem dX6_dress_105 : decode cX6_dress 105 = .ok (.getfield 32, 3) := by decide +kernel
theorem dX6_dress_108 : decode cX6_dress 108 = .ok (.getfield 195, 3) := by decide +kernel
theorem dX6_dress_111 : decode cX6_dress 111 = .ok (.iload_n 1, 1) := by decide +kernel
theorem dX6_dress_112 : decode cX6_dress 112 = .ok (.bipush 10, 2) := by decide +kernel
theorem dX6_dress_114 : decode cX6_dress 114 = .ok (.isub, 1) := by decide +kernel
theorem dX6_dress_115 : decode cX6_dress 115 = .ok (.invokestatic 98, 3) := by decide +kernel
theorem dX6_dress_118 : decode cX6_dress 118 = .ok (.ireturn, 1) := by decide +kernel
theorem dX6_boxes_0 : decode cX6_boxes 0 = .ok (.iload_n 1, 1) := by decide +kernel
theorem dX6_boxes_1 : decode cX6_boxes 1 = .ok (.ifCond .eq 13, 3) := by decide +kernel
theorem dX6_boxes_4 : decode cX6_boxes 4 = .ok (.iload_n 1, 1) := by decide +kernel
theorem dX6_boxes_5 : decode cX6_boxes 5 = .ok (.invokestatic 180, 3) := by decide +kernel
theorem dX6_boxes_8 : decode cX6_boxes 8 = .ok (.ifCond .ne 6, 3) := by decide +kernel
theorem dX6_boxes_11 : decode cX6_boxes 11 = .ok (.bipush (-102), 2) := by decide +kernel
theorem dX6_boxes_13 : decode cX6_boxes 13 = .ok (.ireturn, 1) := by decide +kernel
theorem dX6_boxes_14 : decode cX6_boxes 14 = .ok (.aload_n 0, 1) := by decide +kernel
theorem dX6_boxes_15 : decode cX6_boxes 15 = .ok (.invokevirtual 167, 3) := by decide +kernel
theorem dX6_boxes_18 : decode cX6_boxes 18 = .ok (.ifCond .ne 6, 3) := by decide +kernel
theorem dX6_boxes_21 : decode cX6_boxes 21 = .ok (.bipush (-103), 2) := by decide +kernel
theorem dX6_boxes_23 : decode cX6_boxes 23 = .ok (.ireturn, 1) := by decide +kernel
theorem dX6_boxes_24 : decode cX6_boxes 24 = .ok (.aload_n 0, 1) := by decide +kernel
theorem dX6_boxes_25 : decode cX6_boxes 25 = .ok (.getfield 39, 3) := by decide +kernel
theorem dX6_boxes_28 : decode cX6_boxes 28 = .ok (.aload_n 0, 1) := by decide +kernel
theorem dX6_boxes_29 : decode cX6_boxes 29 = .ok (.getfield 19, 3) := by decide +kernel
theorem dX6_boxes_32 : decode cX6_boxes 32 = .ok (.invokevirtual 198, 3) := by decide +kernel
theorem dX6_boxes_35 : decode cX6_boxes 35 = .ok (.iload_n 1, 1) := by decide +kernel
theorem dX6_boxes_36 : decode cX6_boxes 36 = .ok (.ifCond .ne 13, 3) := by decide +kernel
theorem dX6_boxes_39 : decode cX6_boxes 39 = .ok (.aload_n 0, 1) := by decide +kernel
theorem dX6_boxes_40 : decode cX6_boxes 40 = .ok (.getfield 39, 3) := by decide +kernel
theorem dX6_boxes_43 : decode cX6_boxes 43 = .ok (.getfield 199, 3) := by decide +kernel
theorem dX6_boxes_46 : decode cX6_boxes 46 = .ok (.goto 17, 3) := by decide +kernel
theorem dX6_boxes_49 : decode cX6_boxes 49 = .ok (.aload_n 0, 1) := by decide +kernel
theorem dX6_boxes_50 : decode cX6_boxes 50 = .ok (.getfield 39, 3) := by decide +kernel
theorem dX6_boxes_53 : decode cX6_boxes 53 = .ok (.getfield 202, 3) := by decide +kernel
theorem dX6_boxes_56 : decode cX6_boxes 56 = .ok (.iload_n 1, 1) := by decide +kernel
theorem dX6_boxes_57 : decode cX6_boxes 57 = .ok (.bipush 10, 2) := by decide +kernel
theorem dX6_boxes_59 : decode cX6_boxes 59 = .ok (.isub, 1) := by decide +kernel
theorem dX6_boxes_60 : decode cX6_boxes 60 = .ok (.invokestatic 98, 3) := by decide +kernel
theorem dX6_boxes_63 : decode cX6_boxes 63 = .ok (.ireturn, 1) := by decide +kernel
theorem dX6_odds_0 : decode cX6_odds 0 = .ok (.aload_n 0, 1) := by decide +kernel
theorem dX6_odds_1 : decode cX6_odds 1 = .ok (.getfield 19, 3) := by decide +kernel
theorem dX6_odds_4 : decode cX6_odds 4 = .ok (.iload_n 1, 1) := by decide +kernel
theorem dX6_odds_5 : decode cX6_odds 5 = .ok (.invokevirtual 132, 3) := by decide +kernel
theorem dX6_odds_8 : decode cX6_odds 8 = .ok (.ifCond .ne 6, 3) := by decide +kernel
theorem dX6_odds_11 : decode cX6_odds 11 = .ok (.bipush (-101), 2) := by decide +kernel
theorem dX6_odds_13 : decode cX6_odds 13 = .ok (.ireturn, 1) := by decide +kernel
theorem dX6_odds_14 : decode cX6_odds 14 = .ok (.iload_n 2, 1) := by decide +kernel
theorem dX6_odds_15 : decode cX6_odds 15 = .ok (.iconst 1, 1) := by decide +kernel
theorem dX6_odds_16 : decode cX6_odds 16 = .ok (.bipush 8, 2) := by decide +kernel
theorem dX6_odds_18 : decode cX6_odds 18 = .ok (.invokestatic 57, 3) := by decide +kernel
theorem dX6_odds_21 : decode cX6_odds 21 = .ok (.ifCond .eq 23, 3) := by decide +kernel
theorem dX6_odds_24 : decode cX6_odds 24 = .ok (.iload_n 3, 1) := by decide +kernel
theorem dX6_odds_25 : decode cX6_odds 25 = .ok (.iconst 0, 1) := by decide +kernel
theorem dX6_odds_26 : decode cX6_odds 26 = .ok (.bipush 10, 2) := by decide +kernel
theorem dX6_odds_28 : decode cX6_odds 28 = .ok (.invokestatic 57, 3) := by decide +kernel
theorem dX6_odds_31 : decode cX6_odds 31 = .ok (.ifCond .eq 13, 3) := by decide +kernel
theorem dX6_odds_34 : decode cX6_odds 34 = .ok (.iload 4, 2) := by decide +kernel
theorem dX6_odds_36 : decode cX6_odds 36 = .ok (.iconst 0, 1) := by decide +kernel
theorem dX6_odds_37 : decode cX6_odds 37 = .ok (.iconst 1, 1) := by decide +kernel
theorem dX6_odds_38 : decode cX6_odds 38 = .ok (.invokestatic 57, 3) := by decide +kernel
theorem dX6_odds_41 : decode cX6_odds 41 = .ok (.ifCond .ne 6, 3) := by decide +kernel
theorem dX6_odds_44 : decode cX6_odds 44 = .ok (.bipush (-102), 2) := by decide +kernel
theorem dX6_odds_46 : decode cX6_odds 46 = .ok (.ireturn, 1) := by decide +kernel
theorem dX6_odds_47 : decode cX6_odds 47 = .ok (.aload_n 0, 1) := by decide +kernel
theorem dX6_odds_48 : decode cX6_odds 48 = .ok (.getfield 46, 3) := by decide +kernel
theorem dX6_odds_51 : decode cX6_odds 51 = .ok (.iload_n 2, 1) := by decide +kernel
theorem dX6_odds_52 : decode cX6_odds 52 = .ok (.iload_n 3, 1) := by decide +kernel
theorem dX6_odds_53 : decode cX6_odds 53 = .ok (.invokevirtual 203, 3) := by decide +kernel
theorem dX6_odds_56 : decode cX6_odds 56 = .ok (.iconst 0, 1) := by decide +kernel
theorem dX6_odds_57 : decode cX6_odds 57 = .ok (.istore 5, 2) := by decide +kernel
theorem dX6_odds_59 : decode cX6_odds 59 = .ok (.iconst 0, 1) := by decide +kernel
theorem dX6_odds_60 : decode cX6_odds 60 = .ok (.istore 6, 2) := by decide +kernel
theorem dX6_odds_62 : decode cX6_odds 62 = .ok (.iload 6, 2) := by decide +kernel
theorem dX6_odds_64 : decode cX6_odds 64 = .ok (.iload_n 2, 1) := by decide +kernel
theorem dX6_odds_65 : decode cX6_odds 65 = .ok (.if_icmp .gt 43, 3) := by decide +kernel
theorem dX6_odds_68 : decode cX6_odds 68 = .ok (.aload_n 0, 1) := by decide +kernel
theorem dX6_odds_69 : decode cX6_odds 69 = .ok (.getfield 19, 3) := by decide +kernel
theorem dX6_odds_72 : decode cX6_odds 72 = .ok (.iload_n 1, 1) := by decide +kernel
theorem dX6_odds_73 : decode cX6_odds 73 = .ok (.iload 6, 2) := by decide +kernel
theorem dX6_odds_75 : decode cX6_odds 75 = .ok (.invokevirtual 138, 3) := by decide +kernel
theorem dX6_odds_78 : decode cX6_odds 78 = .ok (.invokestatic 144, 3) := by decide +kernel
theorem dX6_odds_81 : decode cX6_odds 81 = .ok (.iconst 1, 1) := by decide +kernel
theorem dX6_odds_82 : decode cX6_odds 82 = .ok (.if_icmp .ne 20, 3) := by decide +kernel
theorem dX6_odds_85 : decode cX6_odds 85 = .ok (.iload 5, 2) := by decide +kernel
theorem dX6_odds_87 : decode cX6_odds 87 = .ok (.aload_n 0, 1) := by decide +kernel
theorem dX6_odds_88 : decode cX6_odds 88 = .ok (.getfield 46, 3) := by decide +kernel
theorem dX6_odds_91 : decode cX6_odds 91 = .ok (.getfield 207, 3) := by decide +kernel
theorem dX6_odds_94 : decode cX6_odds 94 = .ok (.iload 6, 2) := by decide +kernel
theorem dX6_odds_96 : decode cX6_odds 96 = .ok (.invokestatic 98, 3) := by decide +kernel
theorem dX6_odds_99 : decode cX6_odds 99 = .ok (.iadd, 1) := by decide +kernel
theorem dX6_odds_100 : decode cX6_odds 100 = .ok (.istore 5, 2) := by decide +kernel
theorem dX6_odds_102 : decode cX6_odds 102 = .ok (.iinc 6 1, 3) := by decide +kernel
theorem dX6_odds_105 : decode cX6_odds 105 = .ok (.goto (-43), 3) := by decide +kernel
theorem dX6_odds_108 : decode cX6_odds 108 = .ok (.aload_n 0, 1) := by decide +kernel
theorem dX6_odds_109 : decode cX6_odds 109 = .ok (.getfield 46, 3) := by decide +kernel
theorem dX6_odds_112 : decode cX6_odds 112 = .ok (.getfield 210, 3) := by decide +kernel
theorem dX6_odds_115 : decode cX6_odds 115 = .ok (.istore 6, 2) := by decide +kernel
theorem dX6_odds_117 : decode cX6_odds 117 = .ok (.iload 5, 2) := by decide +kernel
theorem dX6_odds_119 : decode cX6_odds 119 = .ok (.iload 6, 2) := by decide +kernel
theorem dX6_odds_121 : decode cX6_odds 121 = .ok (.invokestatic 213, 3) := by decide +kernel
theorem dX6_odds_124 : decode cX6_odds 124 = .ok (.istore 7, 2) := by decide +kernel
theorem dX6_odds_126 : decode cX6_odds 126 = .ok (.iload 4, 2) := by decide +kernel
theorem dX6_odds_128 : decode cX6_odds 128 = .ok (.ifCond .ne 8, 3) := by decide +kernel
theorem dX6_odds_131 : decode cX6_odds 131 = .ok (.iload 5, 2) := by decide +kernel
theorem dX6_odds_133 : decode cX6_odds 133 = .ok (.goto 5, 3) := by decide +kernel
theorem dX6_odds_136 : decode cX6_odds 136 = .ok (.iload 6, 2) := by decide +kernel
theorem dX6_odds_138 : decode cX6_odds 138 = .ok (.istore 8, 2) := by decide +kernel
theorem dX6_odds_140 : decode cX6_odds 140 = .ok (.iload 7, 2) := by decide +kernel
theorem dX6_odds_142 : decode cX6_odds 142 = .ok (.ifCond .le 11, 3) := by decide +kernel
theorem dX6_odds_145 : decode cX6_odds 145 = .ok (.iload 8, 2) := by decide +kernel
theorem dX6_odds_147 : decode cX6_odds 147 = .ok (.iload 7, 2) := by decide +kernel
theorem dX6_odds_149 : decode cX6_odds 149 = .ok (.idiv, 1) := by decide +kernel
theorem dX6_odds_150 : decode cX6_odds 150 = .ok (.goto 5, 3) := by decide +kernel
theorem dX6_odds_153 : decode cX6_odds 153 = .ok (.iload 8, 2) := by decide +kernel
theorem dX6_odds_155 : decode cX6_odds 155 = .ok (.ireturn, 1) := by decide +kernel
theorem dX6_see_0 : decode cX6_see 0 = .ok (.aload_n 0, 1) := by decide +kernel
theorem dX6_see_1 : decode cX6_see 1 = .ok (.getfield 19, 3) := by decide +kernel
theorem dX6_see_4 : decode cX6_see 4 = .ok (.iload_n 1, 1) := by decide +kernel
theorem dX6_see_5 : decode cX6_see 5 = .ok (.invokevirtual 91, 3) := by decide +kernel
theorem dX6_see_8 : decode cX6_see 8 = .ok (.ifCond .ne 6, 3) := by decide +kernel
theorem dX6_see_11 : decode cX6_see 11 = .ok (.bipush (-101), 2) := by decide +kernel
theorem dX6_see_13 : decode cX6_see 13 = .ok (.ireturn, 1) := by decide +kernel
theorem dX6_see_14 : decode cX6_see 14 = .ok (.iload_n 2, 1) := by decide +kernel
theorem dX6_see_15 : decode cX6_see 15 = .ok (.iconst 0, 1) := by decide +kernel
theorem dX6_see_16 : decode cX6_see 16 = .ok (.bipush 9, 2) := by decide +kernel
theorem dX6_see_18 : decode cX6_see 18 = .ok (.invokestatic 57, 3) := by decide +kernel
theorem dX6_see_21 : decode cX6_see 21 = .ok (.ifCond .eq 13, 3) := by decide +kernel
theorem dX6_see_24 : decode cX6_see 24 = .ok (.iload_n 3, 1) := by decide +kernel
theorem dX6_see_25 : decode cX6_see 25 = .ok (.iconst 0, 1) := by decide +kernel
theorem dX6_see_26 : decode cX6_see 26 = .ok (.bipush 9, 2) := by decide +kernel
theorem dX6_see_28 : decode cX6_see 28 = .ok (.invokestatic 57, 3) := by decide +kernel
theorem dX6_see_31 : decode cX6_see 31 = .ok (.ifCond .ne 6, 3) := by decide +kernel
theorem dX6_see_34 : decode cX6_see 34 = .ok (.bipush (-102), 2) := by decide +kernel
theorem dX6_see_36 : decode cX6_see 36 = .ok (.ireturn, 1) := by decide +kernel
theorem dX6_see_37 : decode cX6_see 37 = .ok (.aload_n 0, 1) := by decide +kernel
theorem dX6_see_38 : decode cX6_see 38 = .ok (.getfield 19, 3) := by decide +kernel
theorem dX6_see_41 : decode cX6_see 41 = .ok (.iload_n 1, 1) := by decide +kernel
theorem dX6_see_42 : decode cX6_see 42 = .ok (.iload_n 2, 1) := by decide +kernel
theorem dX6_see_43 : decode cX6_see 43 = .ok (.iload_n 3, 1) := by decide +kernel
theorem dX6_see_44 : decode cX6_see 44 = .ok (.invokevirtual 216, 3) := by decide +kernel
theorem dX6_see_47 : decode cX6_see 47 = .ok (.ifCond .eq 13, 3) := by decide +kernel
theorem dX6_see_50 : decode cX6_see 50 = .ok (.aload_n 0, 1) := by decide +kernel
theorem dX6_see_51 : decode cX6_see 51 = .ok (.getfield 19, 3) := by decide +kernel
theorem dX6_see_54 : decode cX6_see 54 = .ok (.getfield 219, 3) := by decide +kernel
theorem dX6_see_57 : decode cX6_see 57 = .ok (.goto 5, 3) := by decide +kernel
theorem dX6_see_60 : decode cX6_see 60 = .ok (.bipush (-104), 2) := by decide +kernel
theorem dX6_see_62 : decode cX6_see 62 = .ok (.ireturn, 1) := by decide +kernel
theorem dX6_forget_0 : decode cX6_forget 0 = .ok (.aload_n 0, 1) := by decide +kernel
theorem dX6_forget_1 : decode cX6_forget 1 = .ok (.getfield 19, 3) := by decide +kernel
theorem dX6_forget_4 : decode cX6_forget 4 = .ok (.getfield 219, 3) := by decide +kernel
theorem dX6_forget_7 : decode cX6_forget 7 = .ok (.istore_n 1, 1) := by decide +kernel
theorem dX6_forget_8 : decode cX6_forget 8 = .ok (.aload_n 0, 1) := by decide +kernel
theorem dX6_forget_9 : decode cX6_forget 9 = .ok (.getfield 19, 3) := by decide +kernel
theorem dX6_forget_12 : decode cX6_forget 12 = .ok (.iconst 0, 1) := by decide +kernel
theorem dX6_forget_13 : decode cX6_forget 13 = .ok (.putfield 219, 3) := by decide +kernel
theorem dX6_forget_16 : decode cX6_forget 16 = .ok (.iload_n 1, 1) := by decide +kernel
theorem dX6_forget_17 : decode cX6_forget 17 = .ok (.ireturn, 1) := by decide +kernel
theorem dX6_teas_0 : decode cX6_teas 0 = .ok (.iload_n 1, 1) := by decide +kernel
theorem dX6_teas_1 : decode cX6_teas 1 = .ok (.iconst 1, 1) := by decide +kernel
theorem dX6_teas_2 : decode cX6_teas 2 = .ok (.bipush 60, 2) := by decide +kernel
theorem dX6_teas_4 : decode cX6_teas 4 = .ok (.invokestatic 57, 3) := by decide +kernel
theorem dX6_teas_7 : decode cX6_teas 7 = .ok (.ifCond .eq 16, 3) := by decide +kernel
theorem dX6_teas_10 : decode cX6_teas 10 = .ok (.iload_n 2, 1) := by decide +kernel
theorem dX6_teas_11 : decode cX6_teas 11 = .ok (.ifCond .lt 12, 3) := by decide +kernel
theorem dX6_teas_14 : decode cX6_teas 14 = .ok (.iload_n 3, 1) := by decide +kernel
theorem dX6_teas_15 : decode cX6_teas 15 = .ok (.iconst 0, 1) := by decide +kernel
theorem dX6_teas_16 : decode cX6_teas 16 = .ok (.iconst 2, 1) := by decide +kernel
theorem dX6_teas_17 : decode cX6_teas 17 = .ok (.invokestatic 57, 3) := by decide +kernel
theorem dX6_teas_20 : decode cX6_teas 20 = .ok (.ifCond .ne 6, 3) := by decide +kernel
theorem dX6_teas_23 : decode cX6_teas 23 = .ok (.bipush (-102), 2) := by decide +kernel
theorem dX6_teas_25 : decode cX6_teas 25 = .ok (.ireturn, 1) := by decide +kernel
theorem dX6_teas_26 : decode cX6_teas 26 = .ok (.aload_n 0, 1) := by decide +kernel
theorem dX6_teas_27 : decode cX6_teas 27 = .ok (.invokevirtual 167, 3) := by decide +kernel
theorem dX6_teas_30 : decode cX6_teas 30 = .ok (.ifCond .ne 6, 3) := by decide +kernel
theorem dX6_teas_33 : decode cX6_teas 33 = .ok (.bipush (-103), 2) := by decide +kernel
theorem dX6_teas_35 : decode cX6_teas 35 = .ok (.ireturn, 1) := by decide +kernel
theorem dX6_teas_36 : decode cX6_teas 36 = .ok (.aload_n 0, 1) := by decide +kernel
theorem dX6_teas_37 : decode cX6_teas 37 = .ok (.getfield 26, 3) := by decide +kernel
theorem dX6_teas_40 : decode cX6_teas 40 = .ok (.aload_n 0, 1) := by decide +kernel
theorem dX6_teas_41 : decode cX6_teas 41 = .ok (.getfield 19, 3) := by decide +kernel
theorem dX6_teas_44 : decode cX6_teas 44 = .ok (.invokevirtual 222, 3) := by decide +kernel
theorem dX6_teas_47 : decode cX6_teas 47 = .ok (.aload_n 0, 1) := by decide +kernel
theorem dX6_teas_48 : decode cX6_teas 48 = .ok (.getfield 53, 3) := by decide +kernel
theorem dX6_teas_51 : decode cX6_teas 51 = .ok (.iload_n 2, 1) := by decide +kernel
theorem dX6_teas_52 : decode cX6_teas 52 = .ok (.putfield 225, 3) := by decide +kernel
theorem dX6_teas_55 : decode cX6_teas 55 = .ok (.iconst 0, 1) := by decide +kernel
theorem dX6_teas_56 : decode cX6_teas 56 = .ok (.istore 4, 2) := by decide +kernel
theorem dX6_teas_58 : decode cX6_teas 58 = .ok (.iconst 0, 1) := by decide +kernel
theorem dX6_teas_59 : decode cX6_teas 59 = .ok (.istore 5, 2) := by decide +kernel
theorem dX6_teas_61 : decode cX6_teas 61 = .ok (.iload 5, 2) := by decide +kernel
theorem dX6_teas_63 : decode cX6_teas 63 = .ok (.iload_n 1, 1) := by decide +kernel
theorem dX6_teas_64 : decode cX6_teas 64 = .ok (.if_icmp .ge 40, 3) := by decide +kernel
theorem dX6_teas_67 : decode cX6_teas 67 = .ok (.aload_n 0, 1) := by decide +kernel
theorem dX6_teas_68 : decode cX6_teas 68 = .ok (.getfield 26, 3) := by decide +kernel
theorem dX6_teas_71 : decode cX6_teas 71 = .ok (.aload_n 0, 1) := by decide +kernel
theorem dX6_teas_72 : decode cX6_teas 72 = .ok (.getfield 53, 3) := by decide +kernel
theorem dX6_teas_75 : decode cX6_teas 75 = .ok (.invokevirtual 228, 3) := by decide +kernel
theorem dX6_teas_78 : decode cX6_teas 78 = .ok (.aload_n 0, 1) := by decide +kernel
theorem dX6_teas_79 : decode cX6_teas 79 = .ok (.getfield 26, 3) := by decide +kernel
theorem dX6_teas_82 : decode cX6_teas 82 = .ok (.invokevirtual 173, 3) := by decide +kernel
theorem dX6_teas_85 : decode cX6_teas 85 = .ok (.iload 4, 2) := by decide +kernel
theorem dX6_teas_87 : decode cX6_teas 87 = .ok (.aload_n 0, 1) := by decide +kernel
theorem dX6_teas_88 : decode cX6_teas 88 = .ok (.getfield 26, 3) := by decide +kernel
theorem dX6_teas_91 : decode cX6_teas 91 = .ok (.iconst 1, 1) := by decide +kernel
theorem dX6_teas_92 : decode cX6_teas 92 = .ok (.invokevirtual 232, 3) := by decide +kernel
theorem dX6_teas_95 : decode cX6_teas 95 = .ok (.iadd, 1) := by decide +kernel
theorem dX6_teas_96 : decode cX6_teas 96 = .ok (.istore 4, 2) := by decide +kernel
theorem dX6_teas_98 : decode cX6_teas 98 = .ok (.iinc 5 1, 3) := by decide +kernel
theorem dX6_teas_101 : decode cX6_teas 101 = .ok (.goto (-40), 3) := by decide +kernel
theorem dX6_teas_104 : decode cX6_teas 104 = .ok (.iload_n 3, 1) := by decide +kernel
theorem dX6_teas_105 : decode cX6_teas 105 = .ok (.lookupswitch 38 #[(0, 27), (1, 30)], 27) := by decide +kernel
theorem dX6_teas_132 : decode cX6_teas 132 = .ok (.iload 4, 2) := by decide +kernel
theorem dX6_teas_134 : decode cX6_teas 134 = .ok (.ireturn, 1) := by decide +kernel
theorem dX6_teas_135 : decode cX6_teas 135 = .ok (.aload_n 0, 1) := by decide +kernel
theorem dX6_teas_136 : decode cX6_teas 136 = .ok (.getfield 26, 3) := by decide +kernel
theorem dX6_teas_139 : decode cX6_teas 139 = .ok (.invokevirtual 235, 3) := by decide +kernel
theorem dX6_teas_142 : decode cX6_teas 142 = .ok (.ireturn, 1) := by decide +kernel
theorem dX6_teas_143 : decode cX6_teas 143 = .ok (.aload_n 0, 1) := by decide +kernel
theorem dX6_teas_144 : decode cX6_teas 144 = .ok (.getfield 53, 3) := by decide +kernel
theorem dX6_teas_147 : decode cX6_teas 147 = .ok (.getfield 225, 3) := by decide +kernel
theorem dX6_teas_150 : decode cX6_teas 150 = .ok (.ireturn, 1) := by decide +kernel
theorem dX6_image_0 : decode cX6_image 0 = .ok (.aload_n 0, 1) := by decide +kernel
theorem dX6_image_1 : decode cX6_image 1 = .ok (.invokevirtual 167, 3) := by decide +kernel
theorem dX6_image_4 : decode cX6_image 4 = .ok (.ifCond .ne 6, 3) := by decide +kernel
theorem dX6_image_7 : decode cX6_image 7 = .ok (.bipush (-103), 2) := by decide +kernel
theorem dX6_image_9 : decode cX6_image 9 = .ok (.ireturn, 1) := by decide +kernel
theorem dX6_image_10 : decode cX6_image 10 = .ok (.aload_n 0, 1) := by decide +kernel
theorem dX6_image_11 : decode cX6_image 11 = .ok (.getfield 23, 3) := by decide +kernel
theorem dX6_image_14 : decode cX6_image 14 = .ok (.aload_n 0, 1) := by decide +kernel
theorem dX6_image_15 : decode cX6_image 15 = .ok (.getfield 19, 3) := by decide +kernel
theorem dX6_image_18 : decode cX6_image 18 = .ok (.invokevirtual 222, 3) := by decide +kernel
theorem dX6_image_21 : decode cX6_image 21 = .ok (.aload_n 0, 1) := by decide +kernel
theorem dX6_image_22 : decode cX6_image 22 = .ok (.iconst 1, 1) := by decide +kernel
theorem dX6_image_23 : decode cX6_image 23 = .ok (.putfield 81, 3) := by decide +kernel
theorem dX6_image_26 : decode cX6_image 26 = .ok (.aload_n 0, 1) := by decide +kernel
theorem dX6_image_27 : decode cX6_image 27 = .ok (.getfield 19, 3) := by decide +kernel
theorem dX6_image_30 : decode cX6_image 30 = .ok (.getfield 170, 3) := by decide +kernel
theorem dX6_image_33 : decode cX6_image 33 = .ok (.ireturn, 1) := by decide +kernel
theorem dX6_restore_0 : decode cX6_restore 0 = .ok (.aload_n 0, 1) := by decide +kernel
theorem dX6_restore_1 : decode cX6_restore 1 = .ok (.getfield 81, 3) := by decide +kernel
theorem dX6_restore_4 : decode cX6_restore 4 = .ok (.ifCond .ne 6, 3) := by decide +kernel
theorem dX6_restore_7 : decode cX6_restore 7 = .ok (.bipush (-103), 2) := by decide +kernel
theorem dX6_restore_9 : decode cX6_restore 9 = .ok (.ireturn, 1) := by decide +kernel
theorem dX6_restore_10 : decode cX6_restore 10 = .ok (.aload_n 0, 1) := by decide +kernel
theorem dX6_restore_11 : decode cX6_restore 11 = .ok (.getfield 19, 3) := by decide +kernel
theorem dX6_restore_14 : decode cX6_restore 14 = .ok (.aload_n 0, 1) := by decide +kernel
theorem dX6_restore_15 : decode cX6_restore 15 = .ok (.getfield 23, 3) := by decide +kernel
theorem dX6_restore_18 : decode cX6_restore 18 = .ok (.invokevirtual 222, 3) := by decide +kernel
theorem dX6_restore_21 : decode cX6_restore 21 = .ok (.aload_n 0, 1) := by decide +kernel
theorem dX6_restore_22 : decode cX6_restore 22 = .ok (.getfield 19, 3) := by decide +kernel
theorem dX6_restore_25 : decode cX6_restore 25 = .ok (.getfield 170, 3) := by decide +kernel
theorem dX6_restore_28 : decode cX6_restore 28 = .ok (.ireturn, 1) := by decide +kernel
theorem dX6_count_0 : decode cX6_count 0 = .ok (.iload_n 1, 1) := by decide +kernel
theorem dX6_count_1 : decode cX6_count 1 = .ok (.tableswitch 167 0 12 #[67, 75, 83, 91, 99, 108, 117, 125, 133, 141, 149, 157, 162], 67) := by decide +kernel
theorem dX6_count_68 : decode cX6_count 68 = .ok (.aload_n 0, 1) := by decide +kernel
theorem dX6_count_69 : decode cX6_count 69 = .ok (.getfield 19, 3) := by decide +kernel
theorem dX6_count_72 : decode cX6_count 72 = .ok (.getfield 88, 3) := by decide +kernel
theorem dX6_count_75 : decode cX6_count 75 = .ok (.ireturn, 1) := by decide +kernel
theorem dX6_count_76 : decode cX6_count 76 = .ok (.aload_n 0, 1) := by decide +kernel
theorem dX6_count_77 : decode cX6_count 77 = .ok (.getfield 19, 3) := by decide +kernel
theorem dX6_count_80 : decode cX6_count 80 = .ok (.getfield 238, 3) := by decide +kernel
theorem dX6_count_83 : decode cX6_count 83 = .ok (.ireturn, 1) := by decide +kernel
theorem dX6_count_84 : decode cX6_count 84 = .ok (.aload_n 0, 1) := by decide +kernel
theorem dX6_count_85 : decode cX6_count 85 = .ok (.getfield 19, 3) := by decide +kernel
theorem dX6_count_88 : decode cX6_count 88 = .ok (.invokevirtual 235, 3) := by decide +kernel
theorem dX6_count_91 : decode cX6_count 91 = .ok (.ireturn, 1) := by decide +kernel
theorem dX6_count_92 : decode cX6_count 92 = .ok (.aload_n 0, 1) := by decide +kernel
theorem dX6_count_93 : decode cX6_count 93 = .ok (.getfield 19, 3) := by decide +kernel
theorem dX6_count_96 : decode cX6_count 96 = .ok (.getfield 170, 3) := by decide +kernel
theorem dX6_count_99 : decode cX6_count 99 = .ok (.ireturn, 1) := by decide +kernel
theorem dX6_count_100 : decode cX6_count 100 = .ok (.aload_n 0, 1) := by decide +kernel
theorem dX6_count_101 : decode cX6_count 101 = .ok (.getfield 19, 3) := by decide +kernel
theorem dX6_count_104 : decode cX6_count 104 = .ok (.iconst 1, 1) := by decide +kernel
theorem dX6_count_105 : decode cX6_count 105 = .ok (.invokevirtual 232, 3) := by decide +kernel
theorem dX6_count_108 : decode cX6_count 108 = .ok (.ireturn, 1) := by decide +kernel
theorem dX6_count_109 : decode cX6_count 109 = .ok (.aload_n 0, 1) := by decide +kernel
theorem dX6_count_110 : decode cX6_count 110 = .ok (.getfield 19, 3) := by decide +kernel
theorem dX6_count_113 : decode cX6_count 113 = .ok (.iconst 0, 1) := by decide +kernel
theorem dX6_count_114 : decode cX6_count 114 = .ok (.invokevirtual 232, 3) := by decide +kernel
theorem dX6_count_117 : decode cX6_count 117 = .ok (.ireturn, 1) := by decide +kernel
theorem dX6_count_118 : decode cX6_count 118 = .ok (.aload_n 0, 1) := by decide +kernel
theorem dX6_count_119 : decode cX6_count 119 = .ok (.getfield 19, 3) := by decide +kernel
theorem dX6_count_122 : decode cX6_count 122 = .ok (.invokevirtual 241, 3) := by decide +kernel
theorem dX6_count_125 : decode cX6_count 125 = .ok (.ireturn, 1) := by decide +kernel
theorem dX6_count_126 : decode cX6_count 126 = .ok (.aload_n 0, 1) := by decide +kernel
theorem dX6_count_127 : decode cX6_count 127 = .ok (.getfield 19, 3) := by decide +kernel
theorem dX6_count_130 : decode cX6_count 130 = .ok (.invokevirtual 244, 3) := by decide +kernel
theorem dX6_count_133 : decode cX6_count 133 = .ok (.ireturn, 1) := by decide +kernel
theorem dX6_count_134 : decode cX6_count 134 = .ok (.aload_n 0, 1) := by decide +kernel
theorem dX6_count_135 : decode cX6_count 135 = .ok (.getfield 19, 3) := by decide +kernel
theorem dX6_count_138 : decode cX6_count 138 = .ok (.invokevirtual 247, 3) := by decide +kernel
theorem dX6_count_141 : decode cX6_count 141 = .ok (.ireturn, 1) := by decide +kernel
theorem dX6_count_142 : decode cX6_count 142 = .ok (.aload_n 0, 1) := by decide +kernel
theorem dX6_count_143 : decode cX6_count 143 = .ok (.getfield 19, 3) := by decide +kernel
theorem dX6_count_146 : decode cX6_count 146 = .ok (.getfield 219, 3) := by decide +kernel
theorem dX6_count_149 : decode cX6_count 149 = .ok (.ireturn, 1) := by decide +kernel
theorem dX6_count_150 : decode cX6_count 150 = .ok (.aload_n 0, 1) := by decide +kernel
theorem dX6_count_151 : decode cX6_count 151 = .ok (.getfield 12, 3) := by decide +kernel
theorem dX6_count_154 : decode cX6_count 154 = .ok (.getfield 65, 3) := by decide +kernel
theorem dX6_count_157 : decode cX6_count 157 = .ok (.ireturn, 1) := by decide +kernel
theorem dX6_count_158 : decode cX6_count 158 = .ok (.aload_n 0, 1) := by decide +kernel
theorem dX6_count_159 : decode cX6_count 159 = .ok (.getfield 85, 3) := by decide +kernel
theorem dX6_count_162 : decode cX6_count 162 = .ok (.ireturn, 1) := by decide +kernel
theorem dX6_count_163 : decode cX6_count 163 = .ok (.aload_n 0, 1) := by decide +kernel
theorem dX6_count_164 : decode cX6_count 164 = .ok (.getfield 183, 3) := by decide +kernel
theorem dX6_count_167 : decode cX6_count 167 = .ok (.ireturn, 1) := by decide +kernel
theorem dX6_count_168 : decode cX6_count 168 = .ok (.bipush (-102), 2) := by decide +kernel
theorem dX6_count_170 : decode cX6_count 170 = .ok (.ireturn, 1) := by decide +kernel
theorem dX6_digest_0 : decode cX6_digest 0 = .ok (.ldc2_w 250, 3) := by decide +kernel
theorem dX6_digest_3 : decode cX6_digest 3 = .ok (.lstore_n 1, 1) := by decide +kernel
theorem dX6_digest_4 : decode cX6_digest 4 = .ok (.iconst 0, 1) := by decide +kernel
theorem dX6_digest_5 : decode cX6_digest 5 = .ok (.istore_n 3, 1) := by decide +kernel
theorem dX6_digest_6 : decode cX6_digest 6 = .ok (.iload_n 3, 1) := by decide +kernel
theorem dX6_digest_7 : decode cX6_digest 7 = .ok (.aload_n 0, 1) := by decide +kernel
theorem dX6_digest_8 : decode cX6_digest 8 = .ok (.getfield 19, 3) := by decide +kernel
theorem dX6_digest_11 : decode cX6_digest 11 = .ok (.getfield 88, 3) := by decide +kernel
theorem dX6_digest_14 : decode cX6_digest 14 = .ok (.if_icmp .ge 40, 3) := by decide +kernel
theorem dX6_digest_17 : decode cX6_digest 17 = .ok (.iconst 0, 1) := by decide +kernel
theorem dX6_digest_18 : decode cX6_digest 18 = .ok (.istore 4, 2) := by decide +kernel
theorem dX6_digest_20 : decode cX6_digest 20 = .ok (.iload 4, 2) := by decide +kernel
theorem dX6_digest_22 : decode cX6_digest 22 = .ok (.bipush 8, 2) := by decide +kernel
theorem dX6_digest_24 : decode cX6_digest 24 = .ok (.if_icmp .gt 24, 3) := by decide +kernel
theorem dX6_digest_27 : decode cX6_digest 27 = .ok (.ldc2_w 252, 3) := by decide +kernel
theorem dX6_digest_30 : decode cX6_digest 30 = .ok (.lload_n 1, 1) := by decide +kernel
theorem dX6_digest_31 : decode cX6_digest 31 = .ok (.lmul, 1) := by decide +kernel
theorem dX6_digest_32 : decode cX6_digest 32 = .ok (.aload_n 0, 1) := by decide +kernel
theorem dX6_digest_33 : decode cX6_digest 33 = .ok (.iload_n 3, 1) := by decide +kernel
theorem dX6_digest_34 : decode cX6_digest 34 = .ok (.iload 4, 2) := by decide +kernel
theorem dX6_digest_36 : decode cX6_digest 36 = .ok (.invokevirtual 254, 3) := by decide +kernel
theorem dX6_digest_39 : decode cX6_digest 39 = .ok (.i2l, 1) := by decide +kernel
theorem dX6_digest_40 : decode cX6_digest 40 = .ok (.ladd, 1) := by decide +kernel
theorem dX6_digest_41 : decode cX6_digest 41 = .ok (.lstore_n 1, 1) := by decide +kernel
theorem dX6_digest_42 : decode cX6_digest 42 = .ok (.iinc 4 1, 3) := by decide +kernel
theorem dX6_digest_45 : decode cX6_digest 45 = .ok (.goto (-25), 3) := by decide +kernel
theorem dX6_digest_48 : decode cX6_digest 48 = .ok (.iinc 3 1, 3) := by decide +kernel
theorem dX6_digest_51 : decode cX6_digest 51 = .ok (.goto (-45), 3) := by decide +kernel
theorem dX6_digest_54 : decode cX6_digest 54 = .ok (.iconst 0, 1) := by decide +kernel
theorem dX6_digest_55 : decode cX6_digest 55 = .ok (.istore_n 3, 1) := by decide +kernel
theorem dX6_digest_56 : decode cX6_digest 56 = .ok (.iload_n 3, 1) := by decide +kernel
theorem dX6_digest_57 : decode cX6_digest 57 = .ok (.aload_n 0, 1) := by decide +kernel
theorem dX6_digest_58 : decode cX6_digest 58 = .ok (.getfield 19, 3) := by decide +kernel
theorem dX6_digest_61 : decode cX6_digest 61 = .ok (.getfield 238, 3) := by decide +kernel
theorem dX6_digest_64 : decode cX6_digest 64 = .ok (.if_icmp .ge 16, 3) := by decide +kernel
theorem dX6_digest_67 : decode cX6_digest 67 = .ok (.aload_n 0, 1) := by decide +kernel
theorem dX6_digest_68 : decode cX6_digest 68 = .ok (.lload_n 1, 1) := by decide +kernel
theorem dX6_digest_69 : decode cX6_digest 69 = .ok (.iload_n 3, 1) := by decide +kernel
theorem dX6_digest_70 : decode cX6_digest 70 = .ok (.invokevirtual 257, 3) := by decide +kernel
theorem dX6_digest_73 : decode cX6_digest 73 = .ok (.lstore_n 1, 1) := by decide +kernel
theorem dX6_digest_74 : decode cX6_digest 74 = .ok (.iinc 3 1, 3) := by decide +kernel
theorem dX6_digest_77 : decode cX6_digest 77 = .ok (.goto (-21), 3) := by decide +kernel
theorem dX6_digest_80 : decode cX6_digest 80 = .ok (.aload_n 0, 1) := by decide +kernel
theorem dX6_digest_81 : decode cX6_digest 81 = .ok (.invokevirtual 167, 3) := by decide +kernel
theorem dX6_digest_84 : decode cX6_digest 84 = .ok (.ifCond .eq 9, 3) := by decide +kernel
theorem dX6_digest_87 : decode cX6_digest 87 = .ok (.aload_n 0, 1) := by decide +kernel
theorem dX6_digest_88 : decode cX6_digest 88 = .ok (.lload_n 1, 1) := by decide +kernel
theorem dX6_digest_89 : decode cX6_digest 89 = .ok (.invokevirtual 261, 3) := by decide +kernel
theorem dX6_digest_92 : decode cX6_digest 92 = .ok (.lstore_n 1, 1) := by decide +kernel
theorem dX6_digest_93 : decode cX6_digest 93 = .ok (.iconst 0, 1) := by decide +kernel
theorem dX6_digest_94 : decode cX6_digest 94 = .ok (.istore_n 3, 1) := by decide +kernel
theorem dX6_digest_95 : decode cX6_digest 95 = .ok (.iload_n 3, 1) := by decide +kernel
theorem dX6_digest_96 : decode cX6_digest 96 = .ok (.aload_n 0, 1) := by decide +kernel
theorem dX6_digest_97 : decode cX6_digest 97 = .ok (.getfield 12, 3) := by decide +kernel
theorem dX6_digest_100 : decode cX6_digest 100 = .ok (.getfield 65, 3) := by decide +kernel
theorem dX6_digest_103 : decode cX6_digest 103 = .ok (.if_icmp .ge 28, 3) := by decide +kernel
theorem dX6_digest_106 : decode cX6_digest 106 = .ok (.ldc2_w 252, 3) := by decide +kernel
theorem dX6_digest_109 : decode cX6_digest 109 = .ok (.lload_n 1, 1) := by decide +kernel
theorem dX6_digest_110 : decode cX6_digest 110 = .ok (.lmul, 1) := by decide +kernel
theorem dX6_digest_111 : decode cX6_digest 111 = .ok (.aload_n 0, 1) := by decide +kernel
theorem dX6_digest_112 : decode cX6_digest 112 = .ok (.getfield 12, 3) := by decide +kernel
theorem dX6_digest_115 : decode cX6_digest 115 = .ok (.getfield 265, 3) := by decide +kernel
theorem dX6_digest_118 : decode cX6_digest 118 = .ok (.iload_n 3, 1) := by decide +kernel
theorem dX6_digest_119 : decode cX6_digest 119 = .ok (.invokestatic 98, 3) := by decide +kernel
theorem dX6_digest_122 : decode cX6_digest 122 = .ok (.i2l, 1) := by decide +kernel
theorem dX6_digest_123 : decode cX6_digest 123 = .ok (.ladd, 1) := by decide +kernel
theorem dX6_digest_124 : decode cX6_digest 124 = .ok (.lstore_n 1, 1) := by decide +kernel
theorem dX6_digest_125 : decode cX6_digest 125 = .ok (.iinc 3 1, 3) := by decide +kernel
theorem dX6_digest_128 : decode cX6_digest 128 = .ok (.goto (-33), 3) := by decide +kernel
theorem dX6_digest_131 : decode cX6_digest 131 = .ok (.iconst 0, 1) := by decide +kernel
theorem dX6_digest_132 : decode cX6_digest 132 = .ok (.istore_n 3, 1) := by decide +kernel
theorem dX6_digest_133 : decode cX6_digest 133 = .ok (.iload_n 3, 1) := by decide +kernel
theorem dX6_digest_134 : decode cX6_digest 134 = .ok (.bipush 12, 2) := by decide +kernel
theorem dX6_digest_136 : decode cX6_digest 136 = .ok (.if_icmp .gt 22, 3) := by decide +kernel
theorem dX6_digest_139 : decode cX6_digest 139 = .ok (.ldc2_w 252, 3) := by decide +kernel
theorem dX6_digest_142 : decode cX6_digest 142 = .ok (.lload_n 1, 1) := by decide +kernel
theorem dX6_digest_143 : decode cX6_digest 143 = .ok (.lmul, 1) := by decide +kernel
theorem dX6_digest_144 : decode cX6_digest 144 = .ok (.aload_n 0, 1) := by decide +kernel
theorem dX6_digest_145 : decode cX6_digest 145 = .ok (.iload_n 3, 1) := by decide +kernel
theorem dX6_digest_146 : decode cX6_digest 146 = .ok (.invokevirtual 268, 3) := by decide +kernel
theorem dX6_digest_149 : decode cX6_digest 149 = .ok (.i2l, 1) := by decide +kernel
theorem dX6_digest_150 : decode cX6_digest 150 = .ok (.ladd, 1) := by decide +kernel
theorem dX6_digest_151 : decode cX6_digest 151 = .ok (.lstore_n 1, 1) := by decide +kernel
theorem dX6_digest_152 : decode cX6_digest 152 = .ok (.iinc 3 1, 3) := by decide +kernel
theorem dX6_digest_155 : decode cX6_digest 155 = .ok (.goto (-22), 3) := by decide +kernel
theorem dX6_digest_158 : decode cX6_digest 158 = .ok (.lload_n 1, 1) := by decide +kernel
theorem dX6_digest_159 : decode cX6_digest 159 = .ok (.lreturn, 1) := by decide +kernel
theorem dX6_digestOfWearer_0 : decode cX6_digestOfWearer 0 = .ok (.lload_n 1, 1) := by decide +kernel
theorem dX6_digestOfWearer_1 : decode cX6_digestOfWearer 1 = .ok (.lstore 4, 2) := by decide +kernel
theorem dX6_digestOfWearer_3 : decode cX6_digestOfWearer 3 = .ok (.iconst 0, 1) := by decide +kernel
theorem dX6_digestOfWearer_4 : decode cX6_digestOfWearer 4 = .ok (.istore 6, 2) := by decide +kernel
theorem dX6_digestOfWearer_6 : decode cX6_digestOfWearer 6 = .ok (.iload 6, 2) := by decide +kernel
theorem dX6_digestOfWearer_8 : decode cX6_digestOfWearer 8 = .ok (.bipush 8, 2) := by decide +kernel
theorem dX6_digestOfWearer_10 : decode cX6_digestOfWearer 10 = .ok (.if_icmp .gt 26, 3) := by decide +kernel
theorem dX6_digestOfWearer_13 : decode cX6_digestOfWearer 13 = .ok (.ldc2_w 252, 3) := by decide +kernel
theorem dX6_digestOfWearer_16 : decode cX6_digestOfWearer 16 = .ok (.lload 4, 2) := by decide +kernel
theorem dX6_digestOfWearer_18 : decode cX6_digestOfWearer 18 = .ok (.lmul, 1) := by decide +kernel
theorem dX6_digestOfWearer_19 : decode cX6_digestOfWearer 19 = .ok (.aload_n 0, 1) := by decide +kernel
theorem dX6_digestOfWearer_20 : decode cX6_digestOfWearer 20 = .ok (.iload_n 3, 1) := by decide +kernel
theorem dX6_digestOfWearer_21 : decode cX6_digestOfWearer 21 = .ok (.iload 6, 2) := by decide +kernel
theorem dX6_digestOfWearer_23 : decode cX6_digestOfWearer 23 = .ok (.invokevirtual 271, 3) := by decide +kernel
theorem dX6_digestOfWearer_26 : decode cX6_digestOfWearer 26 = .ok (.i2l, 1) := by decide +kernel
theorem dX6_digestOfWearer_27 : decode cX6_digestOfWearer 27 = .ok (.ladd, 1) := by decide +kernel
theorem dX6_digestOfWearer_28 : decode cX6_digestOfWearer 28 = .ok (.lstore 4, 2) := by decide +kernel
theorem dX6_digestOfWearer_30 : decode cX6_digestOfWearer 30 = .ok (.iinc 6 1, 3) := by decide +kernel
theorem dX6_digestOfWearer_33 : decode cX6_digestOfWearer 33 = .ok (.goto (-27), 3) := by decide +kernel
theorem dX6_digestOfWearer_36 : decode cX6_digestOfWearer 36 = .ok (.ldc2_w 252, 3) := by decide +kernel
theorem dX6_digestOfWearer_39 : decode cX6_digestOfWearer 39 = .ok (.lload 4, 2) := by decide +kernel
theorem dX6_digestOfWearer_41 : decode cX6_digestOfWearer 41 = .ok (.lmul, 1) := by decide +kernel
theorem dX6_digestOfWearer_42 : decode cX6_digestOfWearer 42 = .ok (.aload_n 0, 1) := by decide +kernel
theorem dX6_digestOfWearer_43 : decode cX6_digestOfWearer 43 = .ok (.iload_n 3, 1) := by decide +kernel
theorem dX6_digestOfWearer_44 : decode cX6_digestOfWearer 44 = .ok (.iconst 5, 1) := by decide +kernel
theorem dX6_digestOfWearer_45 : decode cX6_digestOfWearer 45 = .ok (.invokevirtual 274, 3) := by decide +kernel
theorem dX6_digestOfWearer_48 : decode cX6_digestOfWearer 48 = .ok (.i2l, 1) := by decide +kernel
theorem dX6_digestOfWearer_49 : decode cX6_digestOfWearer 49 = .ok (.ladd, 1) := by decide +kernel
theorem dX6_digestOfWearer_50 : decode cX6_digestOfWearer 50 = .ok (.lstore 4, 2) := by decide +kernel
theorem dX6_digestOfWearer_52 : decode cX6_digestOfWearer 52 = .ok (.ldc2_w 252, 3) := by decide +kernel
theorem dX6_digestOfWearer_55 : decode cX6_digestOfWearer 55 = .ok (.lload 4, 2) := by decide +kernel
theorem dX6_digestOfWearer_57 : decode cX6_digestOfWearer 57 = .ok (.lmul, 1) := by decide +kernel
theorem dX6_digestOfWearer_58 : decode cX6_digestOfWearer 58 = .ok (.aload_n 0, 1) := by decide +kernel
theorem dX6_digestOfWearer_59 : decode cX6_digestOfWearer 59 = .ok (.iload_n 3, 1) := by decide +kernel
theorem dX6_digestOfWearer_60 : decode cX6_digestOfWearer 60 = .ok (.iconst 4, 1) := by decide +kernel
theorem dX6_digestOfWearer_61 : decode cX6_digestOfWearer 61 = .ok (.bipush 6, 2) := by decide +kernel
theorem dX6_digestOfWearer_63 : decode cX6_digestOfWearer 63 = .ok (.iconst 0, 1) := by decide +kernel
theorem dX6_digestOfWearer_64 : decode cX6_digestOfWearer 64 = .ok (.invokevirtual 277, 3) := by decide +kernel
theorem dX6_digestOfWearer_67 : decode cX6_digestOfWearer 67 = .ok (.i2l, 1) := by decide +kernel
theorem dX6_digestOfWearer_68 : decode cX6_digestOfWearer 68 = .ok (.ladd, 1) := by decide +kernel
theorem dX6_digestOfWearer_69 : decode cX6_digestOfWearer 69 = .ok (.lstore 4, 2) := by decide +kernel
theorem dX6_digestOfWearer_71 : decode cX6_digestOfWearer 71 = .ok (.ldc2_w 252, 3) := by decide +kernel
theorem dX6_digestOfWearer_74 : decode cX6_digestOfWearer 74 = .ok (.lload 4, 2) := by decide +kernel
theorem dX6_digestOfWearer_76 : decode cX6_digestOfWearer 76 = .ok (.lmul, 1) := by decide +kernel
theorem dX6_digestOfWearer_77 : decode cX6_digestOfWearer 77 = .ok (.aload_n 0, 1) := by decide +kernel
theorem dX6_digestOfWearer_78 : decode cX6_digestOfWearer 78 = .ok (.iload_n 3, 1) := by decide +kernel
theorem dX6_digestOfWearer_79 : decode cX6_digestOfWearer 79 = .ok (.iconst 4, 1) := by decide +kernel
theorem dX6_digestOfWearer_80 : decode cX6_digestOfWearer 80 = .ok (.bipush 6, 2) := by decide +kernel
theorem dX6_digestOfWearer_82 : decode cX6_digestOfWearer 82 = .ok (.iconst 1, 1) := by decide +kernel
theorem dX6_digestOfWearer_83 : decode cX6_digestOfWearer 83 = .ok (.invokevirtual 277, 3) := by decide +kernel
theorem dX6_digestOfWearer_86 : decode cX6_digestOfWearer 86 = .ok (.i2l, 1) := by decide +kernel
theorem dX6_digestOfWearer_87 : decode cX6_digestOfWearer 87 = .ok (.ladd, 1) := by decide +kernel
theorem dX6_digestOfWearer_88 : decode cX6_digestOfWearer 88 = .ok (.lreturn, 1) := by decide +kernel
theorem dX6_digestOfBoxes_0 : decode cX6_digestOfBoxes 0 = .ok (.aload_n 0, 1) := by decide +kernel
theorem dX6_digestOfBoxes_1 : decode cX6_digestOfBoxes 1 = .ok (.getfield 39, 3) := by decide +kernel
theorem dX6_digestOfBoxes_4 : decode cX6_digestOfBoxes 4 = .ok (.aload_n 0, 1) := by decide +kernel
theorem dX6_digestOfBoxes_5 : decode cX6_digestOfBoxes 5 = .ok (.getfield 19, 3) := by decide +kernel
theorem dX6_digestOfBoxes_8 : decode cX6_digestOfBoxes 8 = .ok (.invokevirtual 198, 3) := by decide +kernel
theorem dX6_digestOfBoxes_11 : decode cX6_digestOfBoxes 11 = .ok (.ldc2_w 252, 3) := by decide +kernel
theorem dX6_digestOfBoxes_14 : decode cX6_digestOfBoxes 14 = .ok (.lload_n 1, 1) := by decide +kernel
theorem dX6_digestOfBoxes_15 : decode cX6_digestOfBoxes 15 = .ok (.lmul, 1) := by decide +kernel
theorem dX6_digestOfBoxes_16 : decode cX6_digestOfBoxes 16 = .ok (.aload_n 0, 1) := by decide +kernel
theorem dX6_digestOfBoxes_17 : decode cX6_digestOfBoxes 17 = .ok (.getfield 39, 3) := by decide +kernel
theorem dX6_digestOfBoxes_20 : decode cX6_digestOfBoxes 20 = .ok (.getfield 199, 3) := by decide +kernel
theorem dX6_digestOfBoxes_23 : decode cX6_digestOfBoxes 23 = .ok (.i2l, 1) := by decide +kernel
theorem dX6_digestOfBoxes_24 : decode cX6_digestOfBoxes 24 = .ok (.ladd, 1) := by decide +kernel
theorem dX6_digestOfBoxes_25 : decode cX6_digestOfBoxes 25 = .ok (.lstore_n 3, 1) := by decide +kernel
theorem dX6_digestOfBoxes_26 : decode cX6_digestOfBoxes 26 = .ok (.iconst 0, 1) := by decide +kernel
theorem dX6_digestOfBoxes_27 : decode cX6_digestOfBoxes 27 = .ok (.istore 5, 2) := by decide +kernel
theorem dX6_digestOfBoxes_29 : decode cX6_digestOfBoxes 29 = .ok (.iload 5, 2) := by decide +kernel
theorem dX6_digestOfBoxes_31 : decode cX6_digestOfBoxes 31 = .ok (.bipush 6, 2) := by decide +kernel
theorem dX6_digestOfBoxes_33 : decode cX6_digestOfBoxes 33 = .ok (.if_icmp .ge 29, 3) := by decide +kernel
theorem dX6_digestOfBoxes_36 : decode cX6_digestOfBoxes 36 = .ok (.ldc2_w 252, 3) := by decide +kernel
theorem dX6_digestOfBoxes_39 : decode cX6_digestOfBoxes 39 = .ok (.lload_n 3, 1) := by decide +kernel
theorem dX6_digestOfBoxes_40 : decode cX6_digestOfBoxes 40 = .ok (.lmul, 1) := by decide +kernel
theorem dX6_digestOfBoxes_41 : decode cX6_digestOfBoxes 41 = .ok (.aload_n 0, 1) := by decide +kernel
theorem dX6_digestOfBoxes_42 : decode cX6_digestOfBoxes 42 = .ok (.getfield 39, 3) := by decide +kernel
theorem dX6_digestOfBoxes_45 : decode cX6_digestOfBoxes 45 = .ok (.getfield 202, 3) := by decide +kernel
theorem dX6_digestOfBoxes_48 : decode cX6_digestOfBoxes 48 = .ok (.iload 5, 2) := by decide +kernel
theorem dX6_digestOfBoxes_50 : decode cX6_digestOfBoxes 50 = .ok (.invokestatic 98, 3) := by decide +kernel
theorem dX6_digestOfBoxes_53 : decode cX6_digestOfBoxes 53 = .ok (.i2l, 1) := by decide +kernel
theorem dX6_digestOfBoxes_54 : decode cX6_digestOfBoxes 54 = .ok (.ladd, 1) := by decide +kernel
theorem dX6_digestOfBoxes_55 : decode cX6_digestOfBoxes 55 = .ok (.lstore_n 3, 1) := by decide +kernel
theorem dX6_digestOfBoxes_56 : decode cX6_digestOfBoxes 56 = .ok (.iinc 5 1, 3) := by decide +kernel
theorem dX6_digestOfBoxes_59 : decode cX6_digestOfBoxes 59 = .ok (.goto (-30), 3) := by decide +kernel
theorem dX6_digestOfBoxes_62 : decode cX6_digestOfBoxes 62 = .ok (.lload_n 3, 1) := by decide +kernel
theorem dX6_digestOfBoxes_63 : decode cX6_digestOfBoxes 63 = .ok (.lreturn, 1) := by decide +kernel
theorem dX6_hasShop_0 : decode cX6_hasShop 0 = .ok (.aload_n 0, 1) := by decide +kernel
theorem dX6_hasShop_1 : decode cX6_hasShop 1 = .ok (.getfield 19, 3) := by decide +kernel
theorem dX6_hasShop_4 : decode cX6_hasShop 4 = .ok (.getfield 88, 3) := by decide +kernel
theorem dX6_hasShop_7 : decode cX6_hasShop 7 = .ok (.ifCond .le 7, 3) := by decide +kernel
theorem dX6_hasShop_10 : decode cX6_hasShop 10 = .ok (.iconst 1, 1) := by decide +kernel
theorem dX6_hasShop_11 : decode cX6_hasShop 11 = .ok (.goto 4, 3) := by decide +kernel
theorem dX6_hasShop_14 : decode cX6_hasShop 14 = .ok (.iconst 0, 1) := by decide +kernel
theorem dX6_hasShop_15 : decode cX6_hasShop 15 = .ok (.ireturn, 1) := by decide +kernel
theorem dX6_asksOfGlove_0 : decode cX6_asksOfGlove 0 = .ok (.iload_n 0, 1) := by decide +kernel
theorem dX6_asksOfGlove_1 : decode cX6_asksOfGlove 1 = .ok (.bipush 10, 2) := by decide +kernel
theorem dX6_asksOfGlove_3 : decode cX6_asksOfGlove 3 = .ok (.bipush 15, 2) := by decide +kernel
theorem dX6_asksOfGlove_5 : decode cX6_asksOfGlove 5 = .ok (.invokestatic 57, 3) := by decide +kernel
theorem dX6_asksOfGlove_8 : decode cX6_asksOfGlove 8 = .ok (.ireturn, 1) := by decide +kernel
theorem dX6_within_0 : decode cX6_within 0 = .ok (.iload_n 0, 1) := by decide +kernel
theorem dX6_within_1 : decode cX6_within 1 = .ok (.iload_n 1, 1) := by decide +kernel
theorem dX6_within_2 : decode cX6_within 2 = .ok (.if_icmp .lt 12, 3) := by decide +kernel
theorem dX6_within_5 : decode cX6_within 5 = .ok (.iload_n 0, 1) := by decide +kernel
theorem dX6_within_6 : decode cX6_within 6 = .ok (.iload_n 2, 1) := by decide +kernel
theorem dX6_within_7 : decode cX6_within 7 = .ok (.if_icmp .gt 7, 3) := by decide +kernel
theorem dX6_within_10 : decode cX6_within 10 = .ok (.iconst 1, 1) := by decide +kernel
theorem dX6_within_11 : decode cX6_within 11 = .ok (.goto 4, 3) := by decide +kernel
theorem dX6_within_14 : decode cX6_within 14 = .ok (.iconst 0, 1) := by decide +kernel
theorem dX6_within_15 : decode cX6_within 15 = .ok (.ireturn, 1) := by decide +kernel
theorem dX6_at_0 : decode cX6_at 0 = .ok (.aload_n 0, 1) := by decide +kernel
theorem dX6_at_1 : decode cX6_at 1 = .ok (.ifnull 19, 3) := by decide +kernel
theorem dX6_at_4 : decode cX6_at 4 = .ok (.iload_n 1, 1) := by decide +kernel
theorem dX6_at_5 : decode cX6_at 5 = .ok (.ifCond .lt 15, 3) := by decide +kernel
theorem dX6_at_8 : decode cX6_at 8 = .ok (.iload_n 1, 1) := by decide +kernel
theorem dX6_at_9 : decode cX6_at 9 = .ok (.aload_n 0, 1) := by decide +kernel
theorem dX6_at_10 : decode cX6_at 10 = .ok (.arraylength, 1) := by decide +kernel
theorem dX6_at_11 : decode cX6_at 11 = .ok (.if_icmp .ge 9, 3) := by decide +kernel
theorem dX6_at_14 : decode cX6_at 14 = .ok (.aload_n 0, 1) := by decide +kernel
theorem dX6_at_15 : decode cX6_at 15 = .ok (.iload_n 1, 1) := by decide +kernel
theorem dX6_at_16 : decode cX6_at 16 = .ok (.iaload, 1) := by decide +kernel
theorem dX6_at_17 : decode cX6_at 17 = .ok (.goto 4, 3) := by decide +kernel
theorem dX6_at_20 : decode cX6_at 20 = .ok (.iconst 0, 1) := by decide +kernel
theorem dX6_at_21 : decode cX6_at 21 = .ok (.ireturn, 1) := by decide +kernel
theorem dX6_put_0 : decode cX6_put 0 = .ok (.aload_n 0, 1) := by decide +kernel
theorem dX6_put_1 : decode cX6_put 1 = .ok (.ifnull 17, 3) := by decide +kernel
theorem dX6_put_4 : decode cX6_put 4 = .ok (.iload_n 1, 1) := by decide +kernel
theorem dX6_put_5 : decode cX6_put 5 = .ok (.ifCond .lt 13, 3) := by decide +kernel
theorem dX6_put_8 : decode cX6_put 8 = .ok (.iload_n 1, 1) := by decide +kernel
theorem dX6_put_9 : decode cX6_put 9 = .ok (.aload_n 0, 1) := by decide +kernel
theorem dX6_put_10 : decode cX6_put 10 = .ok (.arraylength, 1) := by decide +kernel
theorem dX6_put_11 : decode cX6_put 11 = .ok (.if_icmp .ge 7, 3) := by decide +kernel
theorem dX6_put_14 : decode cX6_put 14 = .ok (.aload_n 0, 1) := by decide +kernel
theorem dX6_put_15 : decode cX6_put 15 = .ok (.iload_n 1, 1) := by decide +kernel
theorem dX6_put_16 : decode cX6_put 16 = .ok (.iload_n 2, 1) := by decide +kernel
theorem dX6_put_17 : decode cX6_put 17 = .ok (.iastore, 1) := by decide +kernel
theorem dX6_put_18 : decode cX6_put 18 = .ok (.return_, 1) := by decide +kernel
theorem dX6_copyRow_0 : decode cX6_copyRow 0 = .ok (.aload_n 0, 1) := by decide +kernel
theorem dX6_copyRow_1 : decode cX6_copyRow 1 = .ok (.ifnull 21, 3) := by decide +kernel
theorem dX6_copyRow_4 : decode cX6_copyRow 4 = .ok (.aload_n 1, 1) := by decide +kernel
theorem dX6_copyRow_5 : decode cX6_copyRow 5 = .ok (.ifnull 17, 3) := by decide +kernel
theorem dX6_copyRow_8 : decode cX6_copyRow 8 = .ok (.aload_n 0, 1) := by decide +kernel
theorem dX6_copyRow_9 : decode cX6_copyRow 9 = .ok (.iconst 0, 1) := by decide +kernel
theorem dX6_copyRow_10 : decode cX6_copyRow 10 = .ok (.aload_n 1, 1) := by decide +kernel
theorem dX6_copyRow_11 : decode cX6_copyRow 11 = .ok (.iconst 0, 1) := by decide +kernel
theorem dX6_copyRow_12 : decode cX6_copyRow 12 = .ok (.aload_n 0, 1) := by decide +kernel
theorem dX6_copyRow_13 : decode cX6_copyRow 13 = .ok (.arraylength, 1) := by decide +kernel
theorem dX6_copyRow_14 : decode cX6_copyRow 14 = .ok (.aload_n 1, 1) := by decide +kernel
theorem dX6_copyRow_15 : decode cX6_copyRow 15 = .ok (.arraylength, 1) := by decide +kernel
theorem dX6_copyRow_16 : decode cX6_copyRow 16 = .ok (.invokestatic 281, 3) := by decide +kernel
theorem dX6_copyRow_19 : decode cX6_copyRow 19 = .ok (.invokestatic 286, 3) := by decide +kernel
theorem dX6_copyRow_22 : decode cX6_copyRow 22 = .ok (.return_, 1) := by decide +kernel
theorem dX6_hasBit_0 : decode cX6_hasBit 0 = .ok (.iload_n 0, 1) := by decide +kernel
theorem dX6_hasBit_1 : decode cX6_hasBit 1 = .ok (.iload_n 1, 1) := by decide +kernel
theorem dX6_hasBit_2 : decode cX6_hasBit 2 = .ok (.ishr, 1) := by decide +kernel
theorem dX6_hasBit_3 : decode cX6_hasBit 3 = .ok (.iconst 1, 1) := by decide +kernel
theorem dX6_hasBit_4 : decode cX6_hasBit 4 = .ok (.iand, 1) := by decide +kernel
theorem dX6_hasBit_5 : decode cX6_hasBit 5 = .ok (.ifCond .eq 7, 3) := by decide +kernel
theorem dX6_hasBit_8 : decode cX6_hasBit 8 = .ok (.iconst 1, 1) := by decide +kernel
theorem dX6_hasBit_9 : decode cX6_hasBit 9 = .ok (.goto 4, 3) := by decide +kernel
theorem dX6_hasBit_12 : decode cX6_hasBit 12 = .ok (.iconst 0, 1) := by decide +kernel
theorem dX6_hasBit_13 : decode cX6_hasBit 13 = .ok (.ireturn, 1) := by decide +kernel
theorem dX6_kindOf_0 : decode cX6_kindOf 0 = .ok (.iload_n 0, 1) := by decide +kernel
theorem dX6_kindOf_1 : decode cX6_kindOf 1 = .ok (.tableswitch 73 100 111 #[67, 73, 73, 63, 73, 73, 73, 65, 71, 73, 73, 69], 63) := by decide +kernel
theorem dX6_kindOf_64 : decode cX6_kindOf 64 = .ok (.iconst 0, 1) := by decide +kernel
theorem dX6_kindOf_65 : decode cX6_kindOf 65 = .ok (.ireturn, 1) := by decide +kernel
theorem dX6_kindOf_66 : decode cX6_kindOf 66 = .ok (.iconst 1, 1) := by decide +kernel
theorem dX6_kindOf_67 : decode cX6_kindOf 67 = .ok (.ireturn, 1) := by decide +kernel
theorem dX6_kindOf_68 : decode cX6_kindOf 68 = .ok (.iconst 2, 1) := by decide +kernel
theorem dX6_kindOf_69 : decode cX6_kindOf 69 = .ok (.ireturn, 1) := by decide +kernel
theorem dX6_kindOf_70 : decode cX6_kindOf 70 = .ok (.iconst 3, 1) := by decide +kernel
theorem dX6_kindOf_71 : decode cX6_kindOf 71 = .ok (.ireturn, 1) := by decide +kernel
theorem dX6_kindOf_72 : decode cX6_kindOf 72 = .ok (.iconst 4, 1) := by decide +kernel
theorem dX6_kindOf_73 : decode cX6_kindOf 73 = .ok (.ireturn, 1) := by decide +kernel
theorem dX6_kindOf_74 : decode cX6_kindOf 74 = .ok (.iconst (-1), 1) := by decide +kernel
theorem dX6_kindOf_75 : decode cX6_kindOf 75 = .ok (.ireturn, 1) := by decide +kernel
theorem dX6_isOfKind_0 : decode cX6_isOfKind 0 = .ok (.iload_n 1, 1) := by decide +kernel
theorem dX6_isOfKind_1 : decode cX6_isOfKind 1 = .ok (.ifCond .eq 18, 3) := by decide +kernel
theorem dX6_isOfKind_4 : decode cX6_isOfKind 4 = .ok (.iload_n 0, 1) := by decide +kernel
theorem dX6_isOfKind_5 : decode cX6_isOfKind 5 = .ok (.iload_n 1, 1) := by decide +kernel
theorem dX6_isOfKind_6 : decode cX6_isOfKind 6 = .ok (.if_icmp .eq 13, 3) := by decide +kernel
theorem dX6_isOfKind_9 : decode cX6_isOfKind 9 = .ok (.iload_n 0, 1) := by decide +kernel
theorem dX6_isOfKind_10 : decode cX6_isOfKind 10 = .ok (.iconst 4, 1) := by decide +kernel
theorem dX6_isOfKind_11 : decode cX6_isOfKind 11 = .ok (.if_icmp .ne 12, 3) := by decide +kernel
theorem dX6_isOfKind_14 : decode cX6_isOfKind 14 = .ok (.iload_n 1, 1) := by decide +kernel
theorem dX6_isOfKind_15 : decode cX6_isOfKind 15 = .ok (.iconst 1, 1) := by decide +kernel
theorem dX6_isOfKind_16 : decode cX6_isOfKind 16 = .ok (.if_icmp .ne 7, 3) := by decide +kernel
theorem dX6_isOfKind_19 : decode cX6_isOfKind 19 = .ok (.iconst 1, 1) := by decide +kernel
theorem dX6_isOfKind_20 : decode cX6_isOfKind 20 = .ok (.goto 4, 3) := by decide +kernel
theorem dX6_isOfKind_23 : decode cX6_isOfKind 23 = .ok (.iconst 0, 1) := by decide +kernel
theorem dX6_isOfKind_24 : decode cX6_isOfKind 24 = .ok (.ireturn, 1) := by decide +kernel
theorem dX6_ageOf_0 : decode cX6_ageOf 0 = .ok (.iload_n 0, 1) := by decide +kernel
theorem dX6_ageOf_1 : decode cX6_ageOf 1 = .ok (.bipush 20, 2) := by decide +kernel
theorem dX6_ageOf_3 : decode cX6_ageOf 3 = .ok (.if_icmp .ge 7, 3) := by decide +kernel
theorem dX6_ageOf_6 : decode cX6_ageOf 6 = .ok (.iload_n 0, 1) := by decide +kernel
theorem dX6_ageOf_7 : decode cX6_ageOf 7 = .ok (.goto 5, 3) := by decide +kernel
theorem dX6_ageOf_10 : decode cX6_ageOf 10 = .ok (.bipush 20, 2) := by decide +kernel
theorem dX6_ageOf_12 : decode cX6_ageOf 12 = .ok (.ireturn, 1) := by decide +kernel
theorem dX6_temperOf_0 : decode cX6_temperOf 0 = .ok (.iload_n 0, 1) := by decide +kernel
theorem dX6_temperOf_1 : decode cX6_temperOf 1 = .ok (.tableswitch 94 1 4 #[31, 69, 81, 48], 31) := by decide +kernel
theorem dX6_temperOf_32 : decode cX6_temperOf 32 = .ok (.iload_n 1, 1) := by decide +kernel
theorem dX6_temperOf_33 : decode cX6_temperOf 33 = .ok (.iload_n 2, 1) := by decide +kernel
theorem dX6_temperOf_34 : decode cX6_temperOf 34 = .ok (.iadd, 1) := by decide +kernel
theorem dX6_temperOf_35 : decode cX6_temperOf 35 = .ok (.bipush 9, 2) := by decide +kernel
theorem dX6_temperOf_37 : decode cX6_temperOf 37 = .ok (.if_icmp .ge 9, 3) := by decide +kernel
theorem dX6_temperOf_40 : decode cX6_temperOf 40 = .ok (.iload_n 1, 1) := by decide +kernel
theorem dX6_temperOf_41 : decode cX6_temperOf 41 = .ok (.iload_n 2, 1) := by decide +kernel
theorem dX6_temperOf_42 : decode cX6_temperOf 42 = .ok (.iadd, 1) := by decide +kernel
theorem dX6_temperOf_43 : decode cX6_temperOf 43 = .ok (.goto 5, 3) := by decide +kernel
theorem dX6_temperOf_46 : decode cX6_temperOf 46 = .ok (.bipush 9, 2) := by decide +kernel
theorem dX6_temperOf_48 : decode cX6_temperOf 48 = .ok (.ireturn, 1) := by decide +kernel
theorem dX6_temperOf_49 : decode cX6_temperOf 49 = .ok (.iload_n 1, 1) := by decide +kernel
theorem dX6_temperOf_50 : decode cX6_temperOf 50 = .ok (.iconst 2, 1) := by decide +kernel
theorem dX6_temperOf_51 : decode cX6_temperOf 51 = .ok (.iload_n 2, 1) := by decide +kernel
theorem dX6_temperOf_52 : decode cX6_temperOf 52 = .ok (.imul, 1) := by decide +kernel
theorem dX6_temperOf_53 : decode cX6_temperOf 53 = .ok (.iadd, 1) := by decide +kernel
theorem dX6_temperOf_54 : decode cX6_temperOf 54 = .ok (.bipush 9, 2) := by decide +kernel
theorem dX6_temperOf_56 : decode cX6_temperOf 56 = .ok (.if_icmp .ge 11, 3) := by decide +kernel
theorem dX6_temperOf_59 : decode cX6_temperOf 59 = .ok (.iload_n 1, 1) := by decide +kernel
theorem dX6_temperOf_60 : decode cX6_temperOf 60 = .ok (.iconst 2, 1) := by decide +kernel
theorem dX6_temperOf_61 : decode cX6_temperOf 61 = .ok (.iload_n 2, 1) := by decide +kernel
theorem dX6_temperOf_62 : decode cX6_temperOf 62 = .ok (.imul, 1) := by decide +kernel
theorem dX6_temperOf_63 : decode cX6_temperOf 63 = .ok (.iadd, 1) := by decide +kernel
theorem dX6_temperOf_64 : decode cX6_temperOf 64 = .ok (.goto 5, 3) := by decide +kernel
theorem dX6_temperOf_67 : decode cX6_temperOf 67 = .ok (.bipush 9, 2) := by decide +kernel
theorem dX6_temperOf_69 : decode cX6_temperOf 69 = .ok (.ireturn, 1) := by decide +kernel
theorem dX6_temperOf_70 : decode cX6_temperOf 70 = .ok (.iload_n 2, 1) := by decide +kernel
theorem dX6_temperOf_71 : decode cX6_temperOf 71 = .ok (.iconst 2, 1) := by decide +kernel
theorem dX6_temperOf_72 : decode cX6_temperOf 72 = .ok (.irem, 1) := by decide +kernel
theorem dX6_temperOf_73 : decode cX6_temperOf 73 = .ok (.ifCond .eq 7, 3) := by decide +kernel
theorem dX6_temperOf_76 : decode cX6_temperOf 76 = .ok (.iload_n 1, 1) := by decide +kernel
theorem dX6_temperOf_77 : decode cX6_temperOf 77 = .ok (.goto 4, 3) := by decide +kernel
theorem dX6_temperOf_80 : decode cX6_temperOf 80 = .ok (.iconst 0, 1) := by decide +kernel
theorem dX6_temperOf_81 : decode cX6_temperOf 81 = .ok (.ireturn, 1) := by decide +kernel
theorem dX6_temperOf_82 : decode cX6_temperOf 82 = .ok (.iload_n 1, 1) := by decide +kernel
theorem dX6_temperOf_83 : decode cX6_temperOf 83 = .ok (.iload_n 2, 1) := by decide +kernel
theorem dX6_temperOf_84 : decode cX6_temperOf 84 = .ok (.if_icmp .le 9, 3) := by decide +kernel
theorem dX6_temperOf_87 : decode cX6_temperOf 87 = .ok (.iload_n 1, 1) := by decide +kernel
theorem dX6_temperOf_88 : decode cX6_temperOf 88 = .ok (.iload_n 2, 1) := by decide +kernel
theorem dX6_temperOf_89 : decode cX6_temperOf 89 = .ok (.isub, 1) := by decide +kernel
theorem dX6_temperOf_90 : decode cX6_temperOf 90 = .ok (.goto 4, 3) := by decide +kernel
theorem dX6_temperOf_93 : decode cX6_temperOf 93 = .ok (.iconst 0, 1) := by decide +kernel
theorem dX6_temperOf_94 : decode cX6_temperOf 94 = .ok (.ireturn, 1) := by decide +kernel
theorem dX6_temperOf_95 : decode cX6_temperOf 95 = .ok (.iload_n 1, 1) := by decide +kernel
theorem dX6_temperOf_96 : decode cX6_temperOf 96 = .ok (.ireturn, 1) := by decide +kernel
theorem dX6_doing_0 : decode cX6_doing 0 = .ok (.iload_n 0, 1) := by decide +kernel
theorem dX6_doing_1 : decode cX6_doing 1 = .ok (.bipush 8, 2) := by decide +kernel
theorem dX6_doing_3 : decode cX6_doing 3 = .ok (.if_icmp .gt 5, 3) := by decide +kernel
theorem dX6_doing_6 : decode cX6_doing 6 = .ok (.iconst 0, 1) := by decide +kernel
theorem dX6_doing_7 : decode cX6_doing 7 = .ok (.ireturn, 1) := by decide +kernel
theorem dX6_doing_8 : decode cX6_doing 8 = .ok (.iload_n 0, 1) := by decide +kernel
theorem dX6_doing_9 : decode cX6_doing 9 = .ok (.bipush 15, 2) := by decide +kernel
theorem dX6_doing_11 : decode cX6_doing 11 = .ok (.if_icmp .lt 7, 3) := by decide +kernel
theorem dX6_doing_14 : decode cX6_doing 14 = .ok (.iconst 1, 1) := by decide +kernel
theorem dX6_doing_15 : decode cX6_doing 15 = .ok (.goto 4, 3) := by decide +kernel
theorem dX6_doing_18 : decode cX6_doing 18 = .ok (.iconst 2, 1) := by decide +kernel
theorem dX6_doing_19 : decode cX6_doing 19 = .ok (.ireturn, 1) := by decide +kernel
theorem dX6_commonDivisor_0 : decode cX6_commonDivisor 0 = .ok (.iload_n 0, 1) := by decide +kernel
theorem dX6_commonDivisor_1 : decode cX6_commonDivisor 1 = .ok (.istore_n 2, 1) := by decide +kernel
theorem dX6_commonDivisor_2 : decode cX6_commonDivisor 2 = .ok (.iload_n 1, 1) := by decide +kernel
theorem dX6_commonDivisor_3 : decode cX6_commonDivisor 3 = .ok (.istore_n 3, 1) := by decide +kernel
theorem dX6_commonDivisor_4 : decode cX6_commonDivisor 4 = .ok (.iconst 0, 1) := by decide +kernel
theorem dX6_commonDivisor_5 : decode cX6_commonDivisor 5 = .ok (.istore 4, 2) := by decide +kernel
theorem dX6_commonDivisor_7 : decode cX6_commonDivisor 7 = .ok (.iload 4, 2) := by decide +kernel
theorem dX6_commonDivisor_9 : decode cX6_commonDivisor 9 = .ok (.bipush 64, 2) := by decide +kernel
theorem dX6_commonDivisor_11 : decode cX6_commonDivisor 11 = .ok (.if_icmp .ge 23, 3) := by decide +kernel
theorem dX6_commonDivisor_14 : decode cX6_commonDivisor 14 = .ok (.iload_n 3, 1) := by decide +kernel
theorem dX6_commonDivisor_15 : decode cX6_commonDivisor 15 = .ok (.ifCond .le 19, 3) := by decide +kernel
theorem dX6_commonDivisor_18 : decode cX6_commonDivisor 18 = .ok (.iload_n 2, 1) := by decide +kernel
theorem dX6_commonDivisor_19 : decode cX6_commonDivisor 19 = .ok (.iload_n 3, 1) := by decide +kernel
theorem dX6_commonDivisor_20 : decode cX6_commonDivisor 20 = .ok (.irem, 1) := by decide +kernel
theorem dX6_commonDivisor_21 : decode cX6_commonDivisor 21 = .ok (.istore 5, 2) := by decide +kernel
theorem dX6_commonDivisor_23 : decode cX6_commonDivisor 23 = .ok (.iload_n 3, 1) := by decide +kernel
theorem dX6_commonDivisor_24 : decode cX6_commonDivisor 24 = .ok (.istore_n 2, 1) := by decide +kernel
theorem dX6_commonDivisor_25 : decode cX6_commonDivisor 25 = .ok (.iload 5, 2) := by decide +kernel
theorem dX6_commonDivisor_27 : decode cX6_commonDivisor 27 = .ok (.istore_n 3, 1) := by decide +kernel
theorem dX6_commonDivisor_28 : decode cX6_commonDivisor 28 = .ok (.iinc 4 1, 3) := by decide +kernel
theorem dX6_commonDivisor_31 : decode cX6_commonDivisor 31 = .ok (.goto (-24), 3) := by decide +kernel
theorem dX6_commonDivisor_34 : decode cX6_commonDivisor 34 = .ok (.iload_n 2, 1) := by decide +kernel
theorem dX6_commonDivisor_35 : decode cX6_commonDivisor 35 = .ok (.ireturn, 1) := by decide +kernel
theorem dX7_init_0 : decode cX7_init 0 = .ok (.aload_n 0, 1) := by decide +kernel
theorem dX7_init_1 : decode cX7_init 1 = .ok (.invokespecial 1, 3) := by decide +kernel
theorem dX7_init_4 : decode cX7_init 4 = .ok (.aload_n 0, 1) := by decide +kernel
theorem dX7_init_5 : decode cX7_init 5 = .ok (.bipush 6, 2) := by decide +kernel
theorem dX7_init_7 : decode cX7_init 7 = .ok (.newarray .int, 2) := by decide +kernel
theorem dX7_init_9 : decode cX7_init 9 = .ok (.putfield 7, 3) := by decide +kernel
theorem dX7_init_12 : decode cX7_init 12 = .ok (.aload_n 0, 1) := by decide +kernel
theorem dX7_init_13 : decode cX7_init 13 = .ok (.bipush 6, 2) := by decide +kernel
theorem dX7_init_15 : decode cX7_init 15 = .ok (.newarray .int, 2) := by decide +kernel
theorem dX7_init_17 : decode cX7_init 17 = .ok (.putfield 13, 3) := by decide +kernel
theorem dX7_init_20 : decode cX7_init 20 = .ok (.aload_n 0, 1) := by decide +kernel
theorem dX7_init_21 : decode cX7_init 21 = .ok (.bipush 6, 2) := by decide +kernel
theorem dX7_init_23 : decode cX7_init 23 = .ok (.newarray .int, 2) := by decide +kernel
theorem dX7_init_25 : decode cX7_init 25 = .ok (.putfield 16, 3) := by decide +kernel
theorem dX7_init_28 : decode cX7_init 28 = .ok (.aload_n 0, 1) := by decide +kernel
theorem dX7_init_29 : decode cX7_init 29 = .ok (.bipush 6, 2) := by decide +kernel
theorem dX7_init_31 : decode cX7_init 31 = .ok (.newarray .int, 2) := by decide +kernel
theorem dX7_init_33 : decode cX7_init 33 = .ok (.putfield 19, 3) := by decide +kernel
theorem dX7_init_36 : decode cX7_init 36 = .ok (.aload_n 0, 1) := by decide +kernel
theorem dX7_init_37 : decode cX7_init 37 = .ok (.iconst 3, 1) := by decide +kernel
theorem dX7_init_38 : decode cX7_init 38 = .ok (.newarray .int, 2) := by decide +kernel
theorem dX7_init_40 : decode cX7_init 40 = .ok (.putfield 22, 3) := by decide +kernel
theorem dX7_init_43 : decode cX7_init 43 = .ok (.aload_n 0, 1) := by decide +kernel
theorem dX7_init_44 : decode cX7_init 44 = .ok (.iconst 3, 1) := by decide +kernel
theorem dX7_init_45 : decode cX7_init 45 = .ok (.newarray .int, 2) := by decide +kernel
theorem dX7_init_47 : decode cX7_init 47 = .ok (.putfield 25, 3) := by decide +kernel
theorem dX7_init_50 : decode cX7_init 50 = .ok (.aload_n 0, 1) := by decide +kernel
theorem dX7_init_51 : decode cX7_init 51 = .ok (.bipush 8, 2) := by decide +kernel
theorem dX7_init_53 : decode cX7_init 53 = .ok (.newarray .int, 2) := by decide +kernel
theorem dX7_init_55 : decode cX7_init 55 = .ok (.putfield 28, 3) := by decide +kernel
theorem dX7_init_58 : decode cX7_init 58 = .ok (.aload_n 0, 1) := by decide +kernel
theorem dX7_init_59 : decode cX7_init 59 = .ok (.bipush 8, 2) := by decide +kernel
theorem dX7_init_61 : decode cX7_init 61 = .ok (.newarray .int, 2) := by decide +kernel
theorem dX7_init_63 : decode cX7_init 63 = .ok (.putfield 31, 3) := by decide +kernel
theorem dX7_init_66 : decode cX7_init 66 = .ok (.aload_n 0, 1) := by decide +kernel
theorem dX7_init_67 : decode cX7_init 67 = .ok (.bipush 8, 2) := by decide +kernel
theorem dX7_init_69 : decode cX7_init 69 = .ok (.newarray .int, 2) := by decide +kernel
theorem dX7_init_71 : decode cX7_init 71 = .ok (.putfield 34, 3) := by decide +kernel
theorem dX7_init_74 : decode cX7_init 74 = .ok (.aload_n 0, 1) := by decide +kernel
theorem dX7_init_75 : decode cX7_init 75 = .ok (.bipush 26, 2) := by decide +kernel
theorem dX7_init_77 : decode cX7_init 77 = .ok (.newarray .byte, 2) := by decide +kernel
theorem dX7_init_79 : decode cX7_init 79 = .ok (.putfield 37, 3) := by decide +kernel
theorem dX7_init_82 : decode cX7_init 82 = .ok (.aload_n 0, 1) := by decide +kernel
theorem dX7_init_83 : decode cX7_init 83 = .ok (.bipush 6, 2) := by decide +kernel
theorem dX7_init_85 : decode cX7_init 85 = .ok (.newarray .int, 2) := by decide +kernel
theorem dX7_init_87 : decode cX7_init 87 = .ok (.putfield 41, 3) := by decide +kernel
theorem dX7_init_90 : decode cX7_init 90 = .ok (.aload_n 0, 1) := by decide +kernel
theorem dX7_init_91 : decode cX7_init 91 = .ok (.bipush 6, 2) := by decide +kernel
theorem dX7_init_93 : decode cX7_init 93 = .ok (.newarray .int, 2) := by decide +kernel
theorem dX7_init_95 : decode cX7_init 95 = .ok (.putfield 44, 3) := by decide +kernel
theorem dX7_init_98 : decode cX7_init 98 = .ok (.aload_n 0, 1) := by decide +kernel
theorem dX7_init_99 : decode cX7_init 99 = .ok (.bipush 6, 2) := by decide +kernel
theorem dX7_init_101 : decode cX7_init 101 = .ok (.newarray .int, 2) := by decide +kernel
theorem dX7_init_103 : decode cX7_init 103 = .ok (.putfield 47, 3) := by decide +kernel
theorem dX7_init_106 : decode cX7_init 106 = .ok (.aload_n 0, 1) := by decide +kernel
theorem dX7_init_107 : decode cX7_init 107 = .ok (.bipush 6, 2) := by decide +kernel
theorem dX7_init_109 : decode cX7_init 109 = .ok (.newarray .int, 2) := by decide +kernel
theorem dX7_init_111 : decode cX7_init 111 = .ok (.putfield 50, 3) := by decide +kernel
theorem dX7_init_114 : decode cX7_init 114 = .ok (.aload_n 0, 1) := by decide +kernel
theorem dX7_init_115 : decode cX7_init 115 = .ok (.bipush 6, 2) := by decide +kernel
theorem dX7_init_117 : decode cX7_init 117 = .ok (.newarray .int, 2) := by decide +kernel
theorem dX7_init_119 : decode cX7_init 119 = .ok (.putfield 53, 3) := by decide +kernel
theorem dX7_init_122 : decode cX7_init 122 = .ok (.aload_n 0, 1) := by decide +kernel
theorem dX7_init_123 : decode cX7_init 123 = .ok (.bipush 6, 2) := by decide +kernel
theorem dX7_init_125 : decode cX7_init 125 = .ok (.newarray .int, 2) := by decide +kernel
theorem dX7_init_127 : decode cX7_init 127 = .ok (.putfield 56, 3) := by decide +kernel
theorem dX7_init_130 : decode cX7_init 130 = .ok (.aload_n 0, 1) := by decide +kernel
theorem dX7_init_131 : decode cX7_init 131 = .ok (.bipush 6, 2) := by decide +kernel
theorem dX7_init_133 : decode cX7_init 133 = .ok (.newarray .int, 2) := by decide +kernel
theorem dX7_init_135 : decode cX7_init 135 = .ok (.putfield 59, 3) := by decide +kernel
theorem dX7_init_138 : decode cX7_init 138 = .ok (.aload_n 0, 1) := by decide +kernel
theorem dX7_init_139 : decode cX7_init 139 = .ok (.iconst 3, 1) := by decide +kernel
theorem dX7_init_140 : decode cX7_init 140 = .ok (.newarray .int, 2) := by decide +kernel
theorem dX7_init_142 : decode cX7_init 142 = .ok (.putfield 62, 3) := by decide +kernel
theorem dX7_init_145 : decode cX7_init 145 = .ok (.aload_n 0, 1) := by decide +kernel
theorem dX7_init_146 : decode cX7_init 146 = .ok (.iconst 3, 1) := by decide +kernel
theorem dX7_init_147 : decode cX7_init 147 = .ok (.newarray .int, 2) := by decide +kernel
theorem dX7_init_149 : decode cX7_init 149 = .ok (.putfield 65, 3) := by decide +kernel
theorem dX7_init_152 : decode cX7_init 152 = .ok (.aload_n 0, 1) := by decide +kernel
theorem dX7_init_153 : decode cX7_init 153 = .ok (.bipush 8, 2) := by decide +kernel
theorem dX7_init_155 : decode cX7_init 155 = .ok (.newarray .int, 2) := by decide +kernel
theorem dX7_init_157 : decode cX7_init 157 = .ok (.putfield 68, 3) := by decide +kernel
theorem dX7_init_160 : decode cX7_init 160 = .ok (.aload_n 0, 1) := by decide +kernel
theorem dX7_init_161 : decode cX7_init 161 = .ok (.bipush 8, 2) := by decide +kernel
theorem dX7_init_163 : decode cX7_init 163 = .ok (.newarray .int, 2) := by decide +kernel
theorem dX7_init_165 : decode cX7_init 165 = .ok (.putfield 71, 3) := by decide +kernel
theorem dX7_init_168 : decode cX7_init 168 = .ok (.aload_n 0, 1) := by decide +kernel
theorem dX7_init_169 : decode cX7_init 169 = .ok (.bipush 8, 2) := by decide +kernel
theorem dX7_init_171 : decode cX7_init 171 = .ok (.newarray .int, 2) := by decide +kernel
theorem dX7_init_173 : decode cX7_init 173 = .ok (.putfield 74, 3) := by decide +kernel
theorem dX7_init_176 : decode cX7_init 176 = .ok (.return_, 1) := by decide +kernel
theorem dX7_within_0 : decode cX7_within 0 = .ok (.iload_n 0, 1) := by decide +kernel
theorem dX7_within_1 : decode cX7_within 1 = .ok (.iload_n 1, 1) := by decide +kernel
theorem dX7_within_2 : decode cX7_within 2 = .ok (.if_icmp .lt 12, 3) := by decide +kernel
theorem dX7_within_5 : decode cX7_within 5 = .ok (.iload_n 0, 1) := by decide +kernel
theorem dX7_within_6 : decode cX7_within 6 = .ok (.iload_n 2, 1) := by decide +kernel
theorem dX7_within_7 : decode cX7_within 7 = .ok (.if_icmp .gt 7, 3) := by decide +kernel
theorem dX7_within_10 : decode cX7_within 10 = .ok (.iconst 1, 1) := by decide +kernel
theorem dX7_within_11 : decode cX7_within 11 = .ok (.goto 4, 3) := by decide +kernel
theorem dX7_within_14 : decode cX7_within 14 = .ok (.iconst 0, 1) := by decide +kernel
theorem dX7_within_15 : decode cX7_within 15 = .ok (.ireturn, 1) := by decide +kernel
theorem dX7_isIn_0 : decode cX7_isIn 0 = .ok (.iload_n 0, 1) := by decide +kernel
theorem dX7_isIn_1 : decode cX7_isIn 1 = .ok (.iload_n 1, 1) := by decide +kernel
theorem dX7_isIn_2 : decode cX7_isIn 2 = .ok (.ishr, 1) := by decide +kernel
theorem dX7_isIn_3 : decode cX7_isIn 3 = .ok (.iconst 1, 1) := by decide +kernel
theorem dX7_isIn_4 : decode cX7_isIn 4 = .ok (.iand, 1) := by decide +kernel
theorem dX7_isIn_5 : decode cX7_isIn 5 = .ok (.iconst 1, 1) := by decide +kernel
theorem dX7_isIn_6 : decode cX7_isIn 6 = .ok (.if_icmp .ne 7, 3) := by decide +kernel
theorem dX7_isIn_9 : decode cX7_isIn 9 = .ok (.iconst 1, 1) := by decide +kernel
theorem dX7_isIn_10 : decode cX7_isIn 10 = .ok (.goto 4, 3) := by decide +kernel
theorem dX7_isIn_13 : decode cX7_isIn 13 = .ok (.iconst 0, 1) := by decide +kernel
theorem dX7_isIn_14 : decode cX7_isIn 14 = .ok (.ireturn, 1) := by decide +kernel
theorem dX7_size_0 : decode cX7_size 0 = .ok (.iconst 0, 1) := by decide +kernel
theorem dX7_size_1 : decode cX7_size 1 = .ok (.istore_n 1, 1) := by decide +kernel
theorem dX7_size_2 : decode cX7_size 2 = .ok (.iconst 0, 1) := by decide +kernel
theorem dX7_size_3 : decode cX7_size 3 = .ok (.istore_n 2, 1) := by decide +kernel
theorem dX7_size_4 : decode cX7_size 4 = .ok (.iload_n 2, 1) := by decide +kernel
theorem dX7_size_5 : decode cX7_size 5 = .ok (.bipush 10, 2) := by decide +kernel
theorem dX7_size_7 : decode cX7_size 7 = .ok (.if_icmp .ge 17, 3) := by decide +kernel
theorem dX7_size_10 : decode cX7_size 10 = .ok (.iload_n 1, 1) := by decide +kernel
theorem dX7_size_11 : decode cX7_size 11 = .ok (.iload_n 0, 1) := by decide +kernel
theorem dX7_size_12 : decode cX7_size 12 = .ok (.iload_n 2, 1) := by decide +kernel
theorem dX7_size_13 : decode cX7_size 13 = .ok (.ishr, 1) := by decide +kernel
theorem dX7_size_14 : decode cX7_size 14 = .ok (.iconst 1, 1) := by decide +kernel
theorem dX7_size_15 : decode cX7_size 15 = .ok (.iand, 1) := by decide +kernel
theorem dX7_size_16 : decode cX7_size 16 = .ok (.iadd, 1) := by decide +kernel
theorem dX7_size_17 : decode cX7_size 17 = .ok (.istore_n 1, 1) := by decide +kernel
theorem dX7_size_18 : decode cX7_size 18 = .ok (.iinc 2 1, 3) := by decide +kernel
theorem dX7_size_21 : decode cX7_size 21 = .ok (.goto (-17), 3) := by decide +kernel
theorem dX7_size_24 : decode cX7_size 24 = .ok (.iload_n 1, 1) := by decide +kernel
theorem dX7_size_25 : decode cX7_size 25 = .ok (.ireturn, 1) := by decide +kernel
theorem dX7_divisor_0 : decode cX7_divisor 0 = .ok (.iload_n 0, 1) := by decide +kernel
theorem dX7_divisor_1 : decode cX7_divisor 1 = .ok (.istore_n 2, 1) := by decide +kernel
theorem dX7_divisor_2 : decode cX7_divisor 2 = .ok (.iload_n 1, 1) := by decide +kernel
theorem dX7_divisor_3 : decode cX7_divisor 3 = .ok (.istore_n 3, 1) := by decide +kernel
theorem dX7_divisor_4 : decode cX7_divisor 4 = .ok (.iload_n 3, 1) := by decide +kernel
theorem dX7_divisor_5 : decode cX7_divisor 5 = .ok (.ifCond .eq 16, 3) := by decide +kernel
theorem dX7_divisor_8 : decode cX7_divisor 8 = .ok (.iload_n 2, 1) := by decide +kernel
theorem dX7_divisor_9 : decode cX7_divisor 9 = .ok (.iload_n 3, 1) := by decide +kernel
theorem dX7_divisor_10 : decode cX7_divisor 10 = .ok (.irem, 1) := by decide +kernel
theorem dX7_divisor_11 : decode cX7_divisor 11 = .ok (.istore 4, 2) := by decide +kernel
theorem dX7_divisor_13 : decode cX7_divisor 13 = .ok (.iload_n 3, 1) := by decide +kernel
theorem dX7_divisor_14 : decode cX7_divisor 14 = .ok (.istore_n 2, 1) := by decide +kernel
theorem dX7_divisor_15 : decode cX7_divisor 15 = .ok (.iload 4, 2) := by decide +kernel
theorem dX7_divisor_17 : decode cX7_divisor 17 = .ok (.istore_n 3, 1) := by decide +kernel
theorem dX7_divisor_18 : decode cX7_divisor 18 = .ok (.goto (-14), 3) := by decide +kernel
theorem dX7_divisor_21 : decode cX7_divisor 21 = .ok (.iload_n 2, 1) := by decide +kernel
theorem dX7_divisor_22 : decode cX7_divisor 22 = .ok (.ireturn, 1) := by decide +kernel
theorem dX7_letter_0 : decode cX7_letter 0 = .ok (.iload_n 1, 1) := by decide +kernel
theorem dX7_letter_1 : decode cX7_letter 1 = .ok (.bipush 32, 2) := by decide +kernel
theorem dX7_letter_3 : decode cX7_letter 3 = .ok (.bipush 126, 2) := by decide +kernel
theorem dX7_letter_5 : decode cX7_letter 5 = .ok (.invokestatic 77, 3) := by decide +kernel
theorem dX7_letter_8 : decode cX7_letter 8 = .ok (.ifCond .ne 6, 3) := by decide +kernel
theorem dX7_letter_11 : decode cX7_letter 11 = .ok (.bipush (-102), 2) := by decide +kernel
theorem dX7_letter_13 : decode cX7_letter 13 = .ok (.ireturn, 1) := by decide +kernel
theorem dX7_letter_14 : decode cX7_letter 14 = .ok (.aload_n 0, 1) := by decide +kernel
theorem dX7_letter_15 : decode cX7_letter 15 = .ok (.getfield 81, 3) := by decide +kernel
theorem dX7_letter_18 : decode cX7_letter 18 = .ok (.bipush 26, 2) := by decide +kernel
theorem dX7_letter_20 : decode cX7_letter 20 = .ok (.if_icmp .ne 6, 3) := by decide +kernel
theorem dX7_letter_23 : decode cX7_letter 23 = .ok (.bipush (-104), 2) := by decide +kernel
theorem dX7_letter_25 : decode cX7_letter 25 = .ok (.ireturn, 1) := by decide +kernel
theorem dX7_letter_26 : decode cX7_letter 26 = .ok (.aload_n 0, 1) := by decide +kernel
theorem dX7_letter_27 : decode cX7_letter 27 = .ok (.getfield 37, 3) := by decide +kernel
theorem dX7_letter_30 : decode cX7_letter 30 = .ok (.aload_n 0, 1) := by decide +kernel
theorem dX7_letter_31 : decode cX7_letter 31 = .ok (.getfield 81, 3) := by decide +kernel
theorem dX7_letter_34 : decode cX7_letter 34 = .ok (.iload_n 1, 1) := by decide +kernel
theorem dX7_letter_35 : decode cX7_letter 35 = .ok (.i2b, 1) := by decide +kernel
theorem dX7_letter_36 : decode cX7_letter 36 = .ok (.bastore, 1) := by decide +kernel
theorem dX7_letter_37 : decode cX7_letter 37 = .ok (.aload_n 0, 1) := by decide +kernel
theorem dX7_letter_38 : decode cX7_letter 38 = .ok (.dup, 1) := by decide +kernel
theorem dX7_letter_39 : decode cX7_letter 39 = .ok (.getfield 81, 3) := by decide +kernel
theorem dX7_letter_42 : decode cX7_letter 42 = .ok (.iconst 1, 1) := by decide +kernel
theorem dX7_letter_43 : decode cX7_letter 43 = .ok (.iadd, 1) := by decide +kernel
theorem dX7_letter_44 : decode cX7_letter 44 = .ok (.putfield 81, 3) := by decide +kernel
theorem dX7_letter_47 : decode cX7_letter 47 = .ok (.aload_n 0, 1) := by decide +kernel
theorem dX7_letter_48 : decode cX7_letter 48 = .ok (.getfield 81, 3) := by decide +kernel
theorem dX7_letter_51 : decode cX7_letter 51 = .ok (.ireturn, 1) := by decide +kernel
theorem dX7_blank_0 : decode cX7_blank 0 = .ok (.aload_n 0, 1) := by decide +kernel
theorem dX7_blank_1 : decode cX7_blank 1 = .ok (.getfield 81, 3) := by decide +kernel
theorem dX7_blank_4 : decode cX7_blank 4 = .ok (.istore_n 1, 1) := by decide +kernel
theorem dX7_blank_5 : decode cX7_blank 5 = .ok (.aload_n 0, 1) := by decide +kernel
theorem dX7_blank_6 : decode cX7_blank 6 = .ok (.iconst 0, 1) := by decide +kernel
theorem dX7_blank_7 : decode cX7_blank 7 = .ok (.putfield 81, 3) := by decide +kernel
theorem dX7_blank_10 : decode cX7_blank 10 = .ok (.iload_n 1, 1) := by decide +kernel
theorem dX7_blank_11 : decode cX7_blank 11 = .ok (.ireturn, 1) := by decide +kernel
theorem dX7_kindBy_0 : decode cX7_kindBy 0 = .ok (.iload_n 0, 1) := by decide +kernel
theorem dX7_kindBy_1 : decode cX7_kindBy 1 = .ok (.tableswitch 73 100 111 #[67, 73, 73, 63, 73, 73, 73, 65, 71, 73, 73, 69], 63) := by decide +kernel
theorem dX7_kindBy_64 : decode cX7_kindBy 64 = .ok (.iconst 0, 1) := by decide +kernel
theorem dX7_kindBy_65 : decode cX7_kindBy 65 = .ok (.ireturn, 1) := by decide +kernel
theorem dX7_kindBy_66 : decode cX7_kindBy 66 = .ok (.iconst 1, 1) := by decide +kernel
theorem dX7_kindBy_67 : decode cX7_kindBy 67 = .ok (.ireturn, 1) := by decide +kernel
theorem dX7_kindBy_68 : decode cX7_kindBy 68 = .ok (.iconst 2, 1) := by decide +kernel
theorem dX7_kindBy_69 : decode cX7_kindBy 69 = .ok (.ireturn, 1) := by decide +kernel
theorem dX7_kindBy_70 : decode cX7_kindBy 70 = .ok (.iconst 3, 1) := by decide +kernel
theorem dX7_kindBy_71 : decode cX7_kindBy 71 = .ok (.ireturn, 1) := by decide +kernel
theorem dX7_kindBy_72 : decode cX7_kindBy 72 = .ok (.iconst 4, 1) := by decide +kernel
theorem dX7_kindBy_73 : decode cX7_kindBy 73 = .ok (.ireturn, 1) := by decide +kernel
theorem dX7_kindBy_74 : decode cX7_kindBy 74 = .ok (.iconst (-1), 1) := by decide +kernel
theorem dX7_kindBy_75 : decode cX7_kindBy 75 = .ok (.ireturn, 1) := by decide +kernel
theorem dX7_at_0 : decode cX7_at 0 = .ok (.iload_n 1, 1) := by decide +kernel
theorem dX7_at_1 : decode cX7_at 1 = .ok (.aload_n 0, 1) := by decide +kernel
theorem dX7_at_2 : decode cX7_at 2 = .ok (.getfield 81, 3) := by decide +kernel
theorem dX7_at_5 : decode cX7_at 5 = .ok (.if_icmp .ge 12, 3) := by decide +kernel
theorem dX7_at_8 : decode cX7_at 8 = .ok (.aload_n 0, 1) := by decide +kernel
theorem dX7_at_9 : decode cX7_at 9 = .ok (.getfield 37, 3) := by decide +kernel
theorem dX7_at_12 : decode cX7_at 12 = .ok (.iload_n 1, 1) := by decide +kernel
theorem dX7_at_13 : decode cX7_at 13 = .ok (.baload, 1) := by decide +kernel
theorem dX7_at_14 : decode cX7_at 14 = .ok (.goto 4, 3) := by decide +kernel
theorem dX7_at_17 : decode cX7_at 17 = .ok (.iconst 0, 1) := by decide +kernel
theorem dX7_at_18 : decode cX7_at 18 = .ok (.ireturn, 1) := by decide +kernel
theorem dX7_isFigure_0 : decode cX7_isFigure 0 = .ok (.aload_n 0, 1) := by decide +kernel
theorem dX7_isFigure_1 : decode cX7_isFigure 1 = .ok (.iload_n 1, 1) := by decide +kernel
theorem dX7_isFigure_2 : decode cX7_isFigure 2 = .ok (.invokevirtual 85, 3) := by decide +kernel
theorem dX7_isFigure_5 : decode cX7_isFigure 5 = .ok (.bipush 48, 2) := by decide +kernel
theorem dX7_isFigure_7 : decode cX7_isFigure 7 = .ok (.isub, 1) := by decide +kernel
theorem dX7_isFigure_8 : decode cX7_isFigure 8 = .ok (.iconst 0, 1) := by decide +kernel
theorem dX7_isFigure_9 : decode cX7_isFigure 9 = .ok (.bipush 9, 2) := by decide +kernel
theorem dX7_isFigure_11 : decode cX7_isFigure 11 = .ok (.invokestatic 77, 3) := by decide +kernel
theorem dX7_isFigure_14 : decode cX7_isFigure 14 = .ok (.ireturn, 1) := by decide +kernel
theorem dX7_readWearers_0 : decode cX7_readWearers 0 = .ok (.iload_n 1, 1) := by decide +kernel
theorem dX7_readWearers_1 : decode cX7_readWearers 1 = .ok (.istore_n 2, 1) := by decide +kernel
theorem dX7_readWearers_2 : decode cX7_readWearers 2 = .ok (.aload_n 0, 1) := by decide +kernel
theorem dX7_readWearers_3 : decode cX7_readWearers 3 = .ok (.getfield 89, 3) := by decide +kernel
theorem dX7_readWearers_6 : decode cX7_readWearers 6 = .ok (.iconst 3, 1) := by decide +kernel
theorem dX7_readWearers_7 : decode cX7_readWearers 7 = .ok (.if_icmp .ge 27, 3) := by decide +kernel
theorem dX7_readWearers_10 : decode cX7_readWearers 10 = .ok (.aload_n 0, 1) := by decide +kernel
theorem dX7_readWearers_11 : decode cX7_readWearers 11 = .ok (.iload_n 2, 1) := by decide +kernel
theorem dX7_readWearers_12 : decode cX7_readWearers 12 = .ok (.invokevirtual 92, 3) := by decide +kernel
theorem dX7_readWearers_15 : decode cX7_readWearers 15 = .ok (.ifCond .eq 19, 3) := by decide +kernel
theorem dX7_readWearers_18 : decode cX7_readWearers 18 = .ok (.aload_n 0, 1) := by decide +kernel
theorem dX7_readWearers_19 : decode cX7_readWearers 19 = .ok (.dup, 1) := by decide +kernel
theorem dX7_readWearers_20 : decode cX7_readWearers 20 = .ok (.getfield 89, 3) := by decide +kernel
theorem dX7_readWearers_23 : decode cX7_readWearers 23 = .ok (.iconst 1, 1) := by decide +kernel
theorem dX7_readWearers_24 : decode cX7_readWearers 24 = .ok (.iadd, 1) := by decide +kernel
theorem dX7_readWearers_25 : decode cX7_readWearers 25 = .ok (.putfield 89, 3) := by decide +kernel
theorem dX7_readWearers_28 : decode cX7_readWearers 28 = .ok (.iinc 2 1, 3) := by decide +kernel
theorem dX7_readWearers_31 : decode cX7_readWearers 31 = .ok (.goto (-29), 3) := by decide +kernel
theorem dX7_readWearers_34 : decode cX7_readWearers 34 = .ok (.aload_n 0, 1) := by decide +kernel
theorem dX7_readWearers_35 : decode cX7_readWearers 35 = .ok (.aload_n 0, 1) := by decide +kernel
theorem dX7_readWearers_36 : decode cX7_readWearers 36 = .ok (.getfield 89, 3) := by decide +kernel
theorem dX7_readWearers_39 : decode cX7_readWearers 39 = .ok (.ifCond .le 15, 3) := by decide +kernel
theorem dX7_readWearers_42 : decode cX7_readWearers 42 = .ok (.iload_n 2, 1) := by decide +kernel
theorem dX7_readWearers_43 : decode cX7_readWearers 43 = .ok (.aload_n 0, 1) := by decide +kernel
theorem dX7_readWearers_44 : decode cX7_readWearers 44 = .ok (.getfield 81, 3) := by decide +kernel
theorem dX7_readWearers_47 : decode cX7_readWearers 47 = .ok (.if_icmp .ne 7, 3) := by decide +kernel
theorem dX7_readWearers_50 : decode cX7_readWearers 50 = .ok (.iconst 1, 1) := by decide +kernel
theorem dX7_readWearers_51 : decode cX7_readWearers 51 = .ok (.goto 4, 3) := by decide +kernel
theorem dX7_readWearers_54 : decode cX7_readWearers 54 = .ok (.iconst 0, 1) := by decide +kernel
theorem dX7_readWearers_55 : decode cX7_readWearers 55 = .ok (.putfield 96, 3) := by decide +kernel
theorem dX7_readWearers_58 : decode cX7_readWearers 58 = .ok (.iload_n 2, 1) := by decide +kernel
theorem dX7_readWearers_59 : decode cX7_readWearers 59 = .ok (.ireturn, 1) := by decide +kernel
theorem dX7_read_0 : decode cX7_read 0 = .ok (.aload_n 0, 1) := by decide +kernel
theorem dX7_read_1 : decode cX7_read 1 = .ok (.iconst 0, 1) := by decide +kernel
theorem dX7_read_2 : decode cX7_read 2 = .ok (.putfield 96, 3) := by decide +kernel
theorem dX7_read_5 : decode cX7_read 5 = .ok (.aload_n 0, 1) := by decide +kernel
theorem dX7_read_6 : decode cX7_read 6 = .ok (.iconst 0, 1) := by decide +kernel
theorem dX7_read_7 : decode cX7_read 7 = .ok (.putfield 100, 3) := by decide +kernel
theorem dX7_read_10 : decode cX7_read 10 = .ok (.aload_n 0, 1) := by decide +kernel
theorem dX7_read_11 : decode cX7_read 11 = .ok (.iconst 0, 1) := by decide +kernel
theorem dX7_read_12 : decode cX7_read 12 = .ok (.putfield 89, 3) := by decide +kernel
theorem dX7_read_15 : decode cX7_read 15 = .ok (.iconst 0, 1) := by decide +kernel
theorem dX7_read_16 : decode cX7_read 16 = .ok (.istore_n 1, 1) := by decide +kernel
theorem dX7_read_17 : decode cX7_read 17 = .ok (.aload_n 0, 1) := by decide +kernel
theorem dX7_read_18 : decode cX7_read 18 = .ok (.getfield 100, 3) := by decide +kernel
theorem dX7_read_21 : decode cX7_read 21 = .ok (.bipush 6, 2) := by decide +kernel
theorem dX7_read_23 : decode cX7_read 23 = .ok (.if_icmp .ge 97, 3) := by decide +kernel
theorem dX7_read_26 : decode cX7_read 26 = .ok (.aload_n 0, 1) := by decide +kernel
theorem dX7_read_27 : decode cX7_read 27 = .ok (.iload_n 1, 1) := by decide +kernel
theorem dX7_read_28 : decode cX7_read 28 = .ok (.invokevirtual 85, 3) := by decide +kernel
theorem dX7_read_31 : decode cX7_read 31 = .ok (.invokestatic 103, 3) := by decide +kernel
theorem dX7_read_34 : decode cX7_read 34 = .ok (.iconst (-1), 1) := by decide +kernel
theorem dX7_read_35 : decode cX7_read 35 = .ok (.if_icmp .ne 5, 3) := by decide +kernel
theorem dX7_read_38 : decode cX7_read 38 = .ok (.iload_n 1, 1) := by decide +kernel
theorem dX7_read_39 : decode cX7_read 39 = .ok (.ireturn, 1) := by decide +kernel
theorem dX7_read_40 : decode cX7_read 40 = .ok (.aload_n 0, 1) := by decide +kernel
theorem dX7_read_41 : decode cX7_read 41 = .ok (.iload_n 1, 1) := by decide +kernel
theorem dX7_read_42 : decode cX7_read 42 = .ok (.iconst 1, 1) := by decide +kernel
theorem dX7_read_43 : decode cX7_read 43 = .ok (.iadd, 1) := by decide +kernel
theorem dX7_read_44 : decode cX7_read 44 = .ok (.invokevirtual 92, 3) := by decide +kernel
theorem dX7_read_47 : decode cX7_read 47 = .ok (.ifCond .ne 7, 3) := by decide +kernel
theorem dX7_read_50 : decode cX7_read 50 = .ok (.iload_n 1, 1) := by decide +kernel
theorem dX7_read_51 : decode cX7_read 51 = .ok (.iconst 1, 1) := by decide +kernel
theorem dX7_read_52 : decode cX7_read 52 = .ok (.iadd, 1) := by decide +kernel
theorem dX7_read_53 : decode cX7_read 53 = .ok (.ireturn, 1) := by decide +kernel
theorem dX7_read_54 : decode cX7_read 54 = .ok (.aload_n 0, 1) := by decide +kernel
theorem dX7_read_55 : decode cX7_read 55 = .ok (.dup, 1) := by decide +kernel
theorem dX7_read_56 : decode cX7_read 56 = .ok (.getfield 100, 3) := by decide +kernel
theorem dX7_read_59 : decode cX7_read 59 = .ok (.iconst 1, 1) := by decide +kernel
theorem dX7_read_60 : decode cX7_read 60 = .ok (.iadd, 1) := by decide +kernel
theorem dX7_read_61 : decode cX7_read 61 = .ok (.putfield 100, 3) := by decide +kernel
theorem dX7_read_64 : decode cX7_read 64 = .ok (.iinc 1 2, 3) := by decide +kernel
theorem dX7_read_67 : decode cX7_read 67 = .ok (.aload_n 0, 1) := by decide +kernel
theorem dX7_read_68 : decode cX7_read 68 = .ok (.iload_n 1, 1) := by decide +kernel
theorem dX7_read_69 : decode cX7_read 69 = .ok (.invokevirtual 85, 3) := by decide +kernel
theorem dX7_read_72 : decode cX7_read 72 = .ok (.bipush 59, 2) := by decide +kernel
theorem dX7_read_74 : decode cX7_read 74 = .ok (.if_icmp .ne 19, 3) := by decide +kernel
theorem dX7_read_77 : decode cX7_read 77 = .ok (.aload_n 0, 1) := by decide +kernel
theorem dX7_read_78 : decode cX7_read 78 = .ok (.getfield 100, 3) := by decide +kernel
theorem dX7_read_81 : decode cX7_read 81 = .ok (.iconst 1, 1) := by decide +kernel
theorem dX7_read_82 : decode cX7_read 82 = .ok (.if_icmp .le 11, 3) := by decide +kernel
theorem dX7_read_85 : decode cX7_read 85 = .ok (.aload_n 0, 1) := by decide +kernel
theorem dX7_read_86 : decode cX7_read 86 = .ok (.iload_n 1, 1) := by decide +kernel
theorem dX7_read_87 : decode cX7_read 87 = .ok (.iconst 1, 1) := by decide +kernel
theorem dX7_read_88 : decode cX7_read 88 = .ok (.iadd, 1) := by decide +kernel
theorem dX7_read_89 : decode cX7_read 89 = .ok (.invokevirtual 106, 3) := by decide +kernel
theorem dX7_read_92 : decode cX7_read 92 = .ok (.ireturn, 1) := by decide +kernel
theorem dX7_read_93 : decode cX7_read 93 = .ok (.aload_n 0, 1) := by decide +kernel
theorem dX7_read_94 : decode cX7_read 94 = .ok (.getfield 100, 3) := by decide +kernel
theorem dX7_read_97 : decode cX7_read 97 = .ok (.bipush 6, 2) := by decide +kernel
theorem dX7_read_99 : decode cX7_read 99 = .ok (.if_icmp .eq 13, 3) := by decide +kernel
theorem dX7_read_102 : decode cX7_read 102 = .ok (.aload_n 0, 1) := by decide +kernel
theorem dX7_read_103 : decode cX7_read 103 = .ok (.iload_n 1, 1) := by decide +kernel
theorem dX7_read_104 : decode cX7_read 104 = .ok (.invokevirtual 85, 3) := by decide +kernel
end
section
theorem dX7_read_107 : decode cX7_read 107 = .ok (.bipush 44, 2) := by decide +kernel
theorem dX7_read_109 : decode cX7_read 109 = .ok (.if_icmp .eq 5, 3) := by decide +kernel
theorem dX7_read_112 : decode cX7_read 112 = .ok (.iload_n 1, 1) := by decide +kernel
theorem dX7_read_113 : decode cX7_read 113 = .ok (.ireturn, 1) := by decide +kernel
theorem dX7_read_114 : decode cX7_read 114 = .ok (.iinc 1 1, 3) := by decide +kernel
theorem dX7_read_117 : decode cX7_read 117 = .ok (.goto (-100), 3) := by decide +kernel
theorem dX7_read_120 : decode cX7_read 120 = .ok (.iload_n 1, 1) := by decide +kernel
theorem dX7_read_121 : decode cX7_read 121 = .ok (.ireturn, 1) := by decide +kernel
theorem dX7_fault_0 : decode cX7_fault 0 = .ok (.aload_n 0, 1) := by decide +kernel
theorem dX7_fault_1 : decode cX7_fault 1 = .ok (.invokevirtual 109, 3) := by decide +kernel
theorem dX7_fault_4 : decode cX7_fault 4 = .ok (.ireturn, 1) := by decide +kernel
theorem dX7_shop_0 : decode cX7_shop 0 = .ok (.aload_n 0, 1) := by decide +kernel
theorem dX7_shop_1 : decode cX7_shop 1 = .ok (.invokevirtual 109, 3) := by decide +kernel
theorem dX7_shop_4 : decode cX7_shop 4 = .ok (.pop, 1) := by decide +kernel
theorem dX7_shop_5 : decode cX7_shop 5 = .ok (.aload_n 0, 1) := by decide +kernel
theorem dX7_shop_6 : decode cX7_shop 6 = .ok (.getfield 96, 3) := by decide +kernel
theorem dX7_shop_9 : decode cX7_shop 9 = .ok (.ifCond .ne 6, 3) := by decide +kernel
theorem dX7_shop_12 : decode cX7_shop 12 = .ok (.bipush (-103), 2) := by decide +kernel
theorem dX7_shop_14 : decode cX7_shop 14 = .ok (.ireturn, 1) := by decide +kernel
theorem dX7_shop_15 : decode cX7_shop 15 = .ok (.aload_n 0, 1) := by decide +kernel
theorem dX7_shop_16 : decode cX7_shop 16 = .ok (.aload_n 0, 1) := by decide +kernel
theorem dX7_shop_17 : decode cX7_shop 17 = .ok (.getfield 100, 3) := by decide +kernel
theorem dX7_shop_20 : decode cX7_shop 20 = .ok (.putfield 113, 3) := by decide +kernel
theorem dX7_shop_23 : decode cX7_shop 23 = .ok (.aload_n 0, 1) := by decide +kernel
theorem dX7_shop_24 : decode cX7_shop 24 = .ok (.aload_n 0, 1) := by decide +kernel
theorem dX7_shop_25 : decode cX7_shop 25 = .ok (.getfield 89, 3) := by decide +kernel
theorem dX7_shop_28 : decode cX7_shop 28 = .ok (.putfield 116, 3) := by decide +kernel
theorem dX7_shop_31 : decode cX7_shop 31 = .ok (.iconst 0, 1) := by decide +kernel
theorem dX7_shop_32 : decode cX7_shop 32 = .ok (.istore_n 1, 1) := by decide +kernel
theorem dX7_shop_33 : decode cX7_shop 33 = .ok (.iload_n 1, 1) := by decide +kernel
theorem dX7_shop_34 : decode cX7_shop 34 = .ok (.aload_n 0, 1) := by decide +kernel
theorem dX7_shop_35 : decode cX7_shop 35 = .ok (.getfield 113, 3) := by decide +kernel
theorem dX7_shop_38 : decode cX7_shop 38 = .ok (.if_icmp .ge 59, 3) := by decide +kernel
theorem dX7_shop_41 : decode cX7_shop 41 = .ok (.aload_n 0, 1) := by decide +kernel
theorem dX7_shop_42 : decode cX7_shop 42 = .ok (.getfield 7, 3) := by decide +kernel
theorem dX7_shop_45 : decode cX7_shop 45 = .ok (.iload_n 1, 1) := by decide +kernel
theorem dX7_shop_46 : decode cX7_shop 46 = .ok (.aload_n 0, 1) := by decide +kernel
theorem dX7_shop_47 : decode cX7_shop 47 = .ok (.getfield 37, 3) := by decide +kernel
theorem dX7_shop_50 : decode cX7_shop 50 = .ok (.iconst 3, 1) := by decide +kernel
theorem dX7_shop_51 : decode cX7_shop 51 = .ok (.iload_n 1, 1) := by decide +kernel
theorem dX7_shop_52 : decode cX7_shop 52 = .ok (.imul, 1) := by decide +kernel
theorem dX7_shop_53 : decode cX7_shop 53 = .ok (.baload, 1) := by decide +kernel
theorem dX7_shop_54 : decode cX7_shop 54 = .ok (.invokestatic 103, 3) := by decide +kernel
theorem dX7_shop_57 : decode cX7_shop 57 = .ok (.iastore, 1) := by decide +kernel
theorem dX7_shop_58 : decode cX7_shop 58 = .ok (.aload_n 0, 1) := by decide +kernel
theorem dX7_shop_59 : decode cX7_shop 59 = .ok (.getfield 13, 3) := by decide +kernel
theorem dX7_shop_62 : decode cX7_shop 62 = .ok (.iload_n 1, 1) := by decide +kernel
theorem dX7_shop_63 : decode cX7_shop 63 = .ok (.aload_n 0, 1) := by decide +kernel
theorem dX7_shop_64 : decode cX7_shop 64 = .ok (.getfield 37, 3) := by decide +kernel
theorem dX7_shop_67 : decode cX7_shop 67 = .ok (.iconst 3, 1) := by decide +kernel
theorem dX7_shop_68 : decode cX7_shop 68 = .ok (.iload_n 1, 1) := by decide +kernel
theorem dX7_shop_69 : decode cX7_shop 69 = .ok (.imul, 1) := by decide +kernel
theorem dX7_shop_70 : decode cX7_shop 70 = .ok (.iconst 1, 1) := by decide +kernel
theorem dX7_shop_71 : decode cX7_shop 71 = .ok (.iadd, 1) := by decide +kernel
theorem dX7_shop_72 : decode cX7_shop 72 = .ok (.baload, 1) := by decide +kernel
theorem dX7_shop_73 : decode cX7_shop 73 = .ok (.bipush 48, 2) := by decide +kernel
theorem dX7_shop_75 : decode cX7_shop 75 = .ok (.isub, 1) := by decide +kernel
theorem dX7_shop_76 : decode cX7_shop 76 = .ok (.iastore, 1) := by decide +kernel
theorem dX7_shop_77 : decode cX7_shop 77 = .ok (.aload_n 0, 1) := by decide +kernel
theorem dX7_shop_78 : decode cX7_shop 78 = .ok (.getfield 16, 3) := by decide +kernel
theorem dX7_shop_81 : decode cX7_shop 81 = .ok (.iload_n 1, 1) := by decide +kernel
theorem dX7_shop_82 : decode cX7_shop 82 = .ok (.iconst 0, 1) := by decide +kernel
theorem dX7_shop_83 : decode cX7_shop 83 = .ok (.iastore, 1) := by decide +kernel
theorem dX7_shop_84 : decode cX7_shop 84 = .ok (.aload_n 0, 1) := by decide +kernel
theorem dX7_shop_85 : decode cX7_shop 85 = .ok (.getfield 19, 3) := by decide +kernel
theorem dX7_shop_88 : decode cX7_shop 88 = .ok (.iload_n 1, 1) := by decide +kernel
theorem dX7_shop_89 : decode cX7_shop 89 = .ok (.iconst (-1), 1) := by decide +kernel
theorem dX7_shop_90 : decode cX7_shop 90 = .ok (.iastore, 1) := by decide +kernel
theorem dX7_shop_91 : decode cX7_shop 91 = .ok (.iinc 1 1, 3) := by decide +kernel
theorem dX7_shop_94 : decode cX7_shop 94 = .ok (.goto (-61), 3) := by decide +kernel
theorem dX7_shop_97 : decode cX7_shop 97 = .ok (.iconst 0, 1) := by decide +kernel
theorem dX7_shop_98 : decode cX7_shop 98 = .ok (.istore_n 1, 1) := by decide +kernel
theorem dX7_shop_99 : decode cX7_shop 99 = .ok (.iload_n 1, 1) := by decide +kernel
theorem dX7_shop_100 : decode cX7_shop 100 = .ok (.aload_n 0, 1) := by decide +kernel
theorem dX7_shop_101 : decode cX7_shop 101 = .ok (.getfield 116, 3) := by decide +kernel
theorem dX7_shop_104 : decode cX7_shop 104 = .ok (.if_icmp .ge 38, 3) := by decide +kernel
theorem dX7_shop_107 : decode cX7_shop 107 = .ok (.aload_n 0, 1) := by decide +kernel
theorem dX7_shop_108 : decode cX7_shop 108 = .ok (.getfield 22, 3) := by decide +kernel
theorem dX7_shop_111 : decode cX7_shop 111 = .ok (.iload_n 1, 1) := by decide +kernel
theorem dX7_shop_112 : decode cX7_shop 112 = .ok (.aload_n 0, 1) := by decide +kernel
theorem dX7_shop_113 : decode cX7_shop 113 = .ok (.getfield 37, 3) := by decide +kernel
theorem dX7_shop_116 : decode cX7_shop 116 = .ok (.iconst 3, 1) := by decide +kernel
theorem dX7_shop_117 : decode cX7_shop 117 = .ok (.aload_n 0, 1) := by decide +kernel
theorem dX7_shop_118 : decode cX7_shop 118 = .ok (.getfield 113, 3) := by decide +kernel
theorem dX7_shop_121 : decode cX7_shop 121 = .ok (.imul, 1) := by decide +kernel
theorem dX7_shop_122 : decode cX7_shop 122 = .ok (.iload_n 1, 1) := by decide +kernel
theorem dX7_shop_123 : decode cX7_shop 123 = .ok (.iadd, 1) := by decide +kernel
theorem dX7_shop_124 : decode cX7_shop 124 = .ok (.baload, 1) := by decide +kernel
theorem dX7_shop_125 : decode cX7_shop 125 = .ok (.bipush 48, 2) := by decide +kernel
theorem dX7_shop_127 : decode cX7_shop 127 = .ok (.isub, 1) := by decide +kernel
theorem dX7_shop_128 : decode cX7_shop 128 = .ok (.iastore, 1) := by decide +kernel
theorem dX7_shop_129 : decode cX7_shop 129 = .ok (.aload_n 0, 1) := by decide +kernel
theorem dX7_shop_130 : decode cX7_shop 130 = .ok (.getfield 25, 3) := by decide +kernel
theorem dX7_shop_133 : decode cX7_shop 133 = .ok (.iload_n 1, 1) := by decide +kernel
theorem dX7_shop_134 : decode cX7_shop 134 = .ok (.iconst 2, 1) := by decide +kernel
theorem dX7_shop_135 : decode cX7_shop 135 = .ok (.iastore, 1) := by decide +kernel
theorem dX7_shop_136 : decode cX7_shop 136 = .ok (.iinc 1 1, 3) := by decide +kernel
theorem dX7_shop_139 : decode cX7_shop 139 = .ok (.goto (-40), 3) := by decide +kernel
theorem dX7_shop_142 : decode cX7_shop 142 = .ok (.aload_n 0, 1) := by decide +kernel
theorem dX7_shop_143 : decode cX7_shop 143 = .ok (.iconst 0, 1) := by decide +kernel
theorem dX7_shop_144 : decode cX7_shop 144 = .ok (.putfield 119, 3) := by decide +kernel
theorem dX7_shop_147 : decode cX7_shop 147 = .ok (.aload_n 0, 1) := by decide +kernel
theorem dX7_shop_148 : decode cX7_shop 148 = .ok (.dup, 1) := by decide +kernel
theorem dX7_shop_149 : decode cX7_shop 149 = .ok (.getfield 122, 3) := by decide +kernel
theorem dX7_shop_152 : decode cX7_shop 152 = .ok (.iconst 1, 1) := by decide +kernel
theorem dX7_shop_153 : decode cX7_shop 153 = .ok (.iadd, 1) := by decide +kernel
theorem dX7_shop_154 : decode cX7_shop 154 = .ok (.putfield 122, 3) := by decide +kernel
theorem dX7_shop_157 : decode cX7_shop 157 = .ok (.aload_n 0, 1) := by decide +kernel
theorem dX7_shop_158 : decode cX7_shop 158 = .ok (.iconst 0, 1) := by decide +kernel
theorem dX7_shop_159 : decode cX7_shop 159 = .ok (.putfield 125, 3) := by decide +kernel
theorem dX7_shop_162 : decode cX7_shop 162 = .ok (.aload_n 0, 1) := by decide +kernel
theorem dX7_shop_163 : decode cX7_shop 163 = .ok (.iconst 0, 1) := by decide +kernel
theorem dX7_shop_164 : decode cX7_shop 164 = .ok (.putfield 81, 3) := by decide +kernel
theorem dX7_shop_167 : decode cX7_shop 167 = .ok (.aload_n 0, 1) := by decide +kernel
theorem dX7_shop_168 : decode cX7_shop 168 = .ok (.getfield 113, 3) := by decide +kernel
theorem dX7_shop_171 : decode cX7_shop 171 = .ok (.ireturn, 1) := by decide +kernel
theorem dX7_isGlove_0 : decode cX7_isGlove 0 = .ok (.iload_n 1, 1) := by decide +kernel
theorem dX7_isGlove_1 : decode cX7_isGlove 1 = .ok (.iconst 0, 1) := by decide +kernel
theorem dX7_isGlove_2 : decode cX7_isGlove 2 = .ok (.aload_n 0, 1) := by decide +kernel
theorem dX7_isGlove_3 : decode cX7_isGlove 3 = .ok (.getfield 113, 3) := by decide +kernel
theorem dX7_isGlove_6 : decode cX7_isGlove 6 = .ok (.iconst 1, 1) := by decide +kernel
theorem dX7_isGlove_7 : decode cX7_isGlove 7 = .ok (.isub, 1) := by decide +kernel
theorem dX7_isGlove_8 : decode cX7_isGlove 8 = .ok (.invokestatic 77, 3) := by decide +kernel
theorem dX7_isGlove_11 : decode cX7_isGlove 11 = .ok (.ireturn, 1) := by decide +kernel
theorem dX7_isWearer_0 : decode cX7_isWearer 0 = .ok (.iload_n 1, 1) := by decide +kernel
theorem dX7_isWearer_1 : decode cX7_isWearer 1 = .ok (.iconst 0, 1) := by decide +kernel
theorem dX7_isWearer_2 : decode cX7_isWearer 2 = .ok (.aload_n 0, 1) := by decide +kernel
theorem dX7_isWearer_3 : decode cX7_isWearer 3 = .ok (.getfield 116, 3) := by decide +kernel
theorem dX7_isWearer_6 : decode cX7_isWearer 6 = .ok (.iconst 1, 1) := by decide +kernel
theorem dX7_isWearer_7 : decode cX7_isWearer 7 = .ok (.isub, 1) := by decide +kernel
theorem dX7_isWearer_8 : decode cX7_isWearer 8 = .ok (.invokestatic 77, 3) := by decide +kernel
theorem dX7_isWearer_11 : decode cX7_isWearer 11 = .ok (.ireturn, 1) := by decide +kernel
theorem dX7_temperBy_0 : decode cX7_temperBy 0 = .ok (.aload_n 0, 1) := by decide +kernel
theorem dX7_temperBy_1 : decode cX7_temperBy 1 = .ok (.getfield 7, 3) := by decide +kernel
theorem dX7_temperBy_4 : decode cX7_temperBy 4 = .ok (.iload_n 1, 1) := by decide +kernel
theorem dX7_temperBy_5 : decode cX7_temperBy 5 = .ok (.iaload, 1) := by decide +kernel
theorem dX7_temperBy_6 : decode cX7_temperBy 6 = .ok (.tableswitch 94 1 4 #[30, 47, 60, 73], 30) := by decide +kernel
theorem dX7_temperBy_36 : decode cX7_temperBy 36 = .ok (.iload_n 2, 1) := by decide +kernel
theorem dX7_temperBy_37 : decode cX7_temperBy 37 = .ok (.iload_n 3, 1) := by decide +kernel
theorem dX7_temperBy_38 : decode cX7_temperBy 38 = .ok (.iadd, 1) := by decide +kernel
theorem dX7_temperBy_39 : decode cX7_temperBy 39 = .ok (.bipush 9, 2) := by decide +kernel
theorem dX7_temperBy_41 : decode cX7_temperBy 41 = .ok (.if_icmp .le 8, 3) := by decide +kernel
theorem dX7_temperBy_44 : decode cX7_temperBy 44 = .ok (.bipush 9, 2) := by decide +kernel
theorem dX7_temperBy_46 : decode cX7_temperBy 46 = .ok (.goto 6, 3) := by decide +kernel
theorem dX7_temperBy_49 : decode cX7_temperBy 49 = .ok (.iload_n 2, 1) := by decide +kernel
theorem dX7_temperBy_50 : decode cX7_temperBy 50 = .ok (.iload_n 3, 1) := by decide +kernel
theorem dX7_temperBy_51 : decode cX7_temperBy 51 = .ok (.iadd, 1) := by decide +kernel
theorem dX7_temperBy_52 : decode cX7_temperBy 52 = .ok (.ireturn, 1) := by decide +kernel
theorem dX7_temperBy_53 : decode cX7_temperBy 53 = .ok (.iload_n 3, 1) := by decide +kernel
theorem dX7_temperBy_54 : decode cX7_temperBy 54 = .ok (.iconst 2, 1) := by decide +kernel
theorem dX7_temperBy_55 : decode cX7_temperBy 55 = .ok (.irem, 1) := by decide +kernel
theorem dX7_temperBy_56 : decode cX7_temperBy 56 = .ok (.iconst 1, 1) := by decide +kernel
theorem dX7_temperBy_57 : decode cX7_temperBy 57 = .ok (.if_icmp .ne 7, 3) := by decide +kernel
theorem dX7_temperBy_60 : decode cX7_temperBy 60 = .ok (.iload_n 2, 1) := by decide +kernel
theorem dX7_temperBy_61 : decode cX7_temperBy 61 = .ok (.goto 4, 3) := by decide +kernel
theorem dX7_temperBy_64 : decode cX7_temperBy 64 = .ok (.iconst 0, 1) := by decide +kernel
theorem dX7_temperBy_65 : decode cX7_temperBy 65 = .ok (.ireturn, 1) := by decide +kernel
theorem dX7_temperBy_66 : decode cX7_temperBy 66 = .ok (.iload_n 2, 1) := by decide +kernel
theorem dX7_temperBy_67 : decode cX7_temperBy 67 = .ok (.iload_n 3, 1) := by decide +kernel
theorem dX7_temperBy_68 : decode cX7_temperBy 68 = .ok (.if_icmp .le 9, 3) := by decide +kernel
theorem dX7_temperBy_71 : decode cX7_temperBy 71 = .ok (.iload_n 2, 1) := by decide +kernel
theorem dX7_temperBy_72 : decode cX7_temperBy 72 = .ok (.iload_n 3, 1) := by decide +kernel
theorem dX7_temperBy_73 : decode cX7_temperBy 73 = .ok (.isub, 1) := by decide +kernel
theorem dX7_temperBy_74 : decode cX7_temperBy 74 = .ok (.goto 4, 3) := by decide +kernel
theorem dX7_temperBy_77 : decode cX7_temperBy 77 = .ok (.iconst 0, 1) := by decide +kernel
theorem dX7_temperBy_78 : decode cX7_temperBy 78 = .ok (.ireturn, 1) := by decide +kernel
theorem dX7_temperBy_79 : decode cX7_temperBy 79 = .ok (.iload_n 2, 1) := by decide +kernel
theorem dX7_temperBy_80 : decode cX7_temperBy 80 = .ok (.iconst 2, 1) := by decide +kernel
theorem dX7_temperBy_81 : decode cX7_temperBy 81 = .ok (.iload_n 3, 1) := by decide +kernel
theorem dX7_temperBy_82 : decode cX7_temperBy 82 = .ok (.imul, 1) := by decide +kernel
theorem dX7_temperBy_83 : decode cX7_temperBy 83 = .ok (.iadd, 1) := by decide +kernel
theorem dX7_temperBy_84 : decode cX7_temperBy 84 = .ok (.bipush 9, 2) := by decide +kernel
theorem dX7_temperBy_86 : decode cX7_temperBy 86 = .ok (.if_icmp .le 8, 3) := by decide +kernel
theorem dX7_temperBy_89 : decode cX7_temperBy 89 = .ok (.bipush 9, 2) := by decide +kernel
theorem dX7_temperBy_91 : decode cX7_temperBy 91 = .ok (.goto 8, 3) := by decide +kernel
theorem dX7_temperBy_94 : decode cX7_temperBy 94 = .ok (.iload_n 2, 1) := by decide +kernel
theorem dX7_temperBy_95 : decode cX7_temperBy 95 = .ok (.iconst 2, 1) := by decide +kernel
theorem dX7_temperBy_96 : decode cX7_temperBy 96 = .ok (.iload_n 3, 1) := by decide +kernel
theorem dX7_temperBy_97 : decode cX7_temperBy 97 = .ok (.imul, 1) := by decide +kernel
theorem dX7_temperBy_98 : decode cX7_temperBy 98 = .ok (.iadd, 1) := by decide +kernel
theorem dX7_temperBy_99 : decode cX7_temperBy 99 = .ok (.ireturn, 1) := by decide +kernel
theorem dX7_temperBy_100 : decode cX7_temperBy 100 = .ok (.iload_n 2, 1) := by decide +kernel
theorem dX7_temperBy_101 : decode cX7_temperBy 101 = .ok (.ireturn, 1) := by decide +kernel
theorem dX7_aged_0 : decode cX7_aged 0 = .ok (.aload_n 0, 1) := by decide +kernel
theorem dX7_aged_1 : decode cX7_aged 1 = .ok (.getfield 16, 3) := by decide +kernel
theorem dX7_aged_4 : decode cX7_aged 4 = .ok (.iload_n 1, 1) := by decide +kernel
theorem dX7_aged_5 : decode cX7_aged 5 = .ok (.iaload, 1) := by decide +kernel
theorem dX7_aged_6 : decode cX7_aged 6 = .ok (.iload_n 2, 1) := by decide +kernel
theorem dX7_aged_7 : decode cX7_aged 7 = .ok (.iadd, 1) := by decide +kernel
theorem dX7_aged_8 : decode cX7_aged 8 = .ok (.bipush 20, 2) := by decide +kernel
theorem dX7_aged_10 : decode cX7_aged 10 = .ok (.if_icmp .le 8, 3) := by decide +kernel
theorem dX7_aged_13 : decode cX7_aged 13 = .ok (.bipush 20, 2) := by decide +kernel
theorem dX7_aged_15 : decode cX7_aged 15 = .ok (.goto 11, 3) := by decide +kernel
theorem dX7_aged_18 : decode cX7_aged 18 = .ok (.aload_n 0, 1) := by decide +kernel
theorem dX7_aged_19 : decode cX7_aged 19 = .ok (.getfield 16, 3) := by decide +kernel
theorem dX7_aged_22 : decode cX7_aged 22 = .ok (.iload_n 1, 1) := by decide +kernel
theorem dX7_aged_23 : decode cX7_aged 23 = .ok (.iaload, 1) := by decide +kernel
theorem dX7_aged_24 : decode cX7_aged 24 = .ok (.iload_n 2, 1) := by decide +kernel
theorem dX7_aged_25 : decode cX7_aged 25 = .ok (.iadd, 1) := by decide +kernel
theorem dX7_aged_26 : decode cX7_aged 26 = .ok (.ireturn, 1) := by decide +kernel
theorem dX7_temperBehind_0 : decode cX7_temperBehind 0 = .ok (.aload_n 0, 1) := by decide +kernel
theorem dX7_temperBehind_1 : decode cX7_temperBehind 1 = .ok (.iload_n 1, 1) := by decide +kernel
theorem dX7_temperBehind_2 : decode cX7_temperBehind 2 = .ok (.aload_n 0, 1) := by decide +kernel
theorem dX7_temperBehind_3 : decode cX7_temperBehind 3 = .ok (.getfield 13, 3) := by decide +kernel
theorem dX7_temperBehind_6 : decode cX7_temperBehind 6 = .ok (.iload_n 1, 1) := by decide +kernel
theorem dX7_temperBehind_7 : decode cX7_temperBehind 7 = .ok (.iaload, 1) := by decide +kernel
theorem dX7_temperBehind_8 : decode cX7_temperBehind 8 = .ok (.aload_n 0, 1) := by decide +kernel
theorem dX7_temperBehind_9 : decode cX7_temperBehind 9 = .ok (.iload_n 1, 1) := by decide +kernel
theorem dX7_temperBehind_10 : decode cX7_temperBehind 10 = .ok (.iload_n 2, 1) := by decide +kernel
theorem dX7_temperBehind_11 : decode cX7_temperBehind 11 = .ok (.invokevirtual 128, 3) := by decide +kernel
theorem dX7_temperBehind_14 : decode cX7_temperBehind 14 = .ok (.invokevirtual 132, 3) := by decide +kernel
theorem dX7_temperBehind_17 : decode cX7_temperBehind 17 = .ok (.ireturn, 1) := by decide +kernel
theorem dX7_quarrel_0 : decode cX7_quarrel 0 = .ok (.aload_n 0, 1) := by decide +kernel
theorem dX7_quarrel_1 : decode cX7_quarrel 1 = .ok (.iload_n 1, 1) := by decide +kernel
theorem dX7_quarrel_2 : decode cX7_quarrel 2 = .ok (.iload_n 3, 1) := by decide +kernel
theorem dX7_quarrel_3 : decode cX7_quarrel 3 = .ok (.invokevirtual 136, 3) := by decide +kernel
theorem dX7_quarrel_6 : decode cX7_quarrel 6 = .ok (.aload_n 0, 1) := by decide +kernel
theorem dX7_quarrel_7 : decode cX7_quarrel 7 = .ok (.iload_n 2, 1) := by decide +kernel
theorem dX7_quarrel_8 : decode cX7_quarrel 8 = .ok (.iload_n 3, 1) := by decide +kernel
theorem dX7_quarrel_9 : decode cX7_quarrel 9 = .ok (.invokevirtual 136, 3) := by decide +kernel
theorem dX7_quarrel_12 : decode cX7_quarrel 12 = .ok (.isub, 1) := by decide +kernel
theorem dX7_quarrel_13 : decode cX7_quarrel 13 = .ok (.istore 4, 2) := by decide +kernel
theorem dX7_quarrel_15 : decode cX7_quarrel 15 = .ok (.iload 4, 2) := by decide +kernel
theorem dX7_quarrel_17 : decode cX7_quarrel 17 = .ok (.iconst 4, 1) := by decide +kernel
theorem dX7_quarrel_18 : decode cX7_quarrel 18 = .ok (.if_icmp .ge 10, 3) := by decide +kernel
theorem dX7_quarrel_21 : decode cX7_quarrel 21 = .ok (.iload 4, 2) := by decide +kernel
theorem dX7_quarrel_23 : decode cX7_quarrel 23 = .ok (.bipush (-4), 2) := by decide +kernel
theorem dX7_quarrel_25 : decode cX7_quarrel 25 = .ok (.if_icmp .gt 7, 3) := by decide +kernel
theorem dX7_quarrel_28 : decode cX7_quarrel 28 = .ok (.iconst 1, 1) := by decide +kernel
theorem dX7_quarrel_29 : decode cX7_quarrel 29 = .ok (.goto 4, 3) := by decide +kernel
theorem dX7_quarrel_32 : decode cX7_quarrel 32 = .ok (.iconst 0, 1) := by decide +kernel
theorem dX7_quarrel_33 : decode cX7_quarrel 33 = .ok (.ireturn, 1) := by decide +kernel
theorem dX7_wornBy_0 : decode cX7_wornBy 0 = .ok (.iconst 0, 1) := by decide +kernel
theorem dX7_wornBy_1 : decode cX7_wornBy 1 = .ok (.istore_n 2, 1) := by decide +kernel
theorem dX7_wornBy_2 : decode cX7_wornBy 2 = .ok (.iconst 0, 1) := by decide +kernel
theorem dX7_wornBy_3 : decode cX7_wornBy 3 = .ok (.istore_n 3, 1) := by decide +kernel
theorem dX7_wornBy_4 : decode cX7_wornBy 4 = .ok (.iload_n 3, 1) := by decide +kernel
theorem dX7_wornBy_5 : decode cX7_wornBy 5 = .ok (.aload_n 0, 1) := by decide +kernel
theorem dX7_wornBy_6 : decode cX7_wornBy 6 = .ok (.getfield 113, 3) := by decide +kernel
theorem dX7_wornBy_9 : decode cX7_wornBy 9 = .ok (.if_icmp .ge 41, 3) := by decide +kernel
theorem dX7_wornBy_12 : decode cX7_wornBy 12 = .ok (.iload_n 2, 1) := by decide +kernel
theorem dX7_wornBy_13 : decode cX7_wornBy 13 = .ok (.aload_n 0, 1) := by decide +kernel
theorem dX7_wornBy_14 : decode cX7_wornBy 14 = .ok (.getfield 19, 3) := by decide +kernel
theorem dX7_wornBy_17 : decode cX7_wornBy 17 = .ok (.iload_n 3, 1) := by decide +kernel
theorem dX7_wornBy_18 : decode cX7_wornBy 18 = .ok (.iaload, 1) := by decide +kernel
theorem dX7_wornBy_19 : decode cX7_wornBy 19 = .ok (.iconst (-1), 1) := by decide +kernel
theorem dX7_wornBy_20 : decode cX7_wornBy 20 = .ok (.if_icmp .eq 21, 3) := by decide +kernel
theorem dX7_wornBy_23 : decode cX7_wornBy 23 = .ok (.aload_n 0, 1) := by decide +kernel
theorem dX7_wornBy_24 : decode cX7_wornBy 24 = .ok (.getfield 19, 3) := by decide +kernel
theorem dX7_wornBy_27 : decode cX7_wornBy 27 = .ok (.iload_n 3, 1) := by decide +kernel
theorem dX7_wornBy_28 : decode cX7_wornBy 28 = .ok (.iaload, 1) := by decide +kernel
theorem dX7_wornBy_29 : decode cX7_wornBy 29 = .ok (.iconst 2, 1) := by decide +kernel
theorem dX7_wornBy_30 : decode cX7_wornBy 30 = .ok (.idiv, 1) := by decide +kernel
theorem dX7_wornBy_31 : decode cX7_wornBy 31 = .ok (.iload_n 1, 1) := by decide +kernel
theorem dX7_wornBy_32 : decode cX7_wornBy 32 = .ok (.if_icmp .ne 9, 3) := by decide +kernel
theorem dX7_wornBy_35 : decode cX7_wornBy 35 = .ok (.iconst 1, 1) := by decide +kernel
theorem dX7_wornBy_36 : decode cX7_wornBy 36 = .ok (.iload_n 3, 1) := by decide +kernel
theorem dX7_wornBy_37 : decode cX7_wornBy 37 = .ok (.ishl, 1) := by decide +kernel
theorem dX7_wornBy_38 : decode cX7_wornBy 38 = .ok (.goto 4, 3) := by decide +kernel
theorem dX7_wornBy_41 : decode cX7_wornBy 41 = .ok (.iconst 0, 1) := by decide +kernel
theorem dX7_wornBy_42 : decode cX7_wornBy 42 = .ok (.ior, 1) := by decide +kernel
theorem dX7_wornBy_43 : decode cX7_wornBy 43 = .ok (.istore_n 2, 1) := by decide +kernel
theorem dX7_wornBy_44 : decode cX7_wornBy 44 = .ok (.iinc 3 1, 3) := by decide +kernel
theorem dX7_wornBy_47 : decode cX7_wornBy 47 = .ok (.goto (-43), 3) := by decide +kernel
theorem dX7_wornBy_50 : decode cX7_wornBy 50 = .ok (.iload_n 2, 1) := by decide +kernel
theorem dX7_wornBy_51 : decode cX7_wornBy 51 = .ok (.ireturn, 1) := by decide +kernel
theorem dX7_moodWith_0 : decode cX7_moodWith 0 = .ok (.aload_n 0, 1) := by decide +kernel
theorem dX7_moodWith_1 : decode cX7_moodWith 1 = .ok (.getfield 22, 3) := by decide +kernel
theorem dX7_moodWith_4 : decode cX7_moodWith 4 = .ok (.iload_n 1, 1) := by decide +kernel
theorem dX7_moodWith_5 : decode cX7_moodWith 5 = .ok (.iaload, 1) := by decide +kernel
theorem dX7_moodWith_6 : decode cX7_moodWith 6 = .ok (.istore 4, 2) := by decide +kernel
theorem dX7_moodWith_8 : decode cX7_moodWith 8 = .ok (.iconst 0, 1) := by decide +kernel
theorem dX7_moodWith_9 : decode cX7_moodWith 9 = .ok (.istore 5, 2) := by decide +kernel
theorem dX7_moodWith_11 : decode cX7_moodWith 11 = .ok (.iconst 0, 1) := by decide +kernel
theorem dX7_moodWith_12 : decode cX7_moodWith 12 = .ok (.istore 6, 2) := by decide +kernel
theorem dX7_moodWith_14 : decode cX7_moodWith 14 = .ok (.iload 6, 2) := by decide +kernel
theorem dX7_moodWith_16 : decode cX7_moodWith 16 = .ok (.aload_n 0, 1) := by decide +kernel
theorem dX7_moodWith_17 : decode cX7_moodWith 17 = .ok (.getfield 113, 3) := by decide +kernel
theorem dX7_moodWith_20 : decode cX7_moodWith 20 = .ok (.if_icmp .ge 92, 3) := by decide +kernel
theorem dX7_moodWith_23 : decode cX7_moodWith 23 = .ok (.iload 4, 2) := by decide +kernel
theorem dX7_moodWith_25 : decode cX7_moodWith 25 = .ok (.iload_n 2, 1) := by decide +kernel
theorem dX7_moodWith_26 : decode cX7_moodWith 26 = .ok (.iload 6, 2) := by decide +kernel
theorem dX7_moodWith_28 : decode cX7_moodWith 28 = .ok (.invokestatic 139, 3) := by decide +kernel
theorem dX7_moodWith_31 : decode cX7_moodWith 31 = .ok (.ifCond .eq 13, 3) := by decide +kernel
theorem dX7_moodWith_34 : decode cX7_moodWith 34 = .ok (.aload_n 0, 1) := by decide +kernel
theorem dX7_moodWith_35 : decode cX7_moodWith 35 = .ok (.iload 6, 2) := by decide +kernel
theorem dX7_moodWith_37 : decode cX7_moodWith 37 = .ok (.iload_n 3, 1) := by decide +kernel
theorem dX7_moodWith_38 : decode cX7_moodWith 38 = .ok (.invokevirtual 136, 3) := by decide +kernel
theorem dX7_moodWith_41 : decode cX7_moodWith 41 = .ok (.goto 4, 3) := by decide +kernel
theorem dX7_moodWith_44 : decode cX7_moodWith 44 = .ok (.iconst 0, 1) := by decide +kernel
theorem dX7_moodWith_45 : decode cX7_moodWith 45 = .ok (.iadd, 1) := by decide +kernel
theorem dX7_moodWith_46 : decode cX7_moodWith 46 = .ok (.istore 4, 2) := by decide +kernel
theorem dX7_moodWith_48 : decode cX7_moodWith 48 = .ok (.iconst 0, 1) := by decide +kernel
theorem dX7_moodWith_49 : decode cX7_moodWith 49 = .ok (.istore 7, 2) := by decide +kernel
theorem dX7_moodWith_51 : decode cX7_moodWith 51 = .ok (.iload 7, 2) := by decide +kernel
theorem dX7_moodWith_53 : decode cX7_moodWith 53 = .ok (.iload 6, 2) := by decide +kernel
theorem dX7_moodWith_55 : decode cX7_moodWith 55 = .ok (.if_icmp .ge 51, 3) := by decide +kernel
theorem dX7_moodWith_58 : decode cX7_moodWith 58 = .ok (.iload 5, 2) := by decide +kernel
theorem dX7_moodWith_60 : decode cX7_moodWith 60 = .ok (.ifCond .ne 33, 3) := by decide +kernel
theorem dX7_moodWith_63 : decode cX7_moodWith 63 = .ok (.iload_n 2, 1) := by decide +kernel
theorem dX7_moodWith_64 : decode cX7_moodWith 64 = .ok (.iload 6, 2) := by decide +kernel
theorem dX7_moodWith_66 : decode cX7_moodWith 66 = .ok (.invokestatic 139, 3) := by decide +kernel
theorem dX7_moodWith_69 : decode cX7_moodWith 69 = .ok (.ifCond .eq 28, 3) := by decide +kernel
theorem dX7_moodWith_72 : decode cX7_moodWith 72 = .ok (.iload_n 2, 1) := by decide +kernel
theorem dX7_moodWith_73 : decode cX7_moodWith 73 = .ok (.iload 7, 2) := by decide +kernel
theorem dX7_moodWith_75 : decode cX7_moodWith 75 = .ok (.invokestatic 139, 3) := by decide +kernel
theorem dX7_moodWith_78 : decode cX7_moodWith 78 = .ok (.ifCond .eq 19, 3) := by decide +kernel
theorem dX7_moodWith_81 : decode cX7_moodWith 81 = .ok (.aload_n 0, 1) := by decide +kernel
theorem dX7_moodWith_82 : decode cX7_moodWith 82 = .ok (.iload 6, 2) := by decide +kernel
theorem dX7_moodWith_84 : decode cX7_moodWith 84 = .ok (.iload 7, 2) := by decide +kernel
theorem dX7_moodWith_86 : decode cX7_moodWith 86 = .ok (.iload_n 3, 1) := by decide +kernel
theorem dX7_moodWith_87 : decode cX7_moodWith 87 = .ok (.invokevirtual 143, 3) := by decide +kernel
theorem dX7_moodWith_90 : decode cX7_moodWith 90 = .ok (.ifCond .eq 7, 3) := by decide +kernel
theorem dX7_moodWith_93 : decode cX7_moodWith 93 = .ok (.iconst 1, 1) := by decide +kernel
theorem dX7_moodWith_94 : decode cX7_moodWith 94 = .ok (.goto 4, 3) := by decide +kernel
theorem dX7_moodWith_97 : decode cX7_moodWith 97 = .ok (.iconst 0, 1) := by decide +kernel
theorem dX7_moodWith_98 : decode cX7_moodWith 98 = .ok (.istore 5, 2) := by decide +kernel
theorem dX7_moodWith_100 : decode cX7_moodWith 100 = .ok (.iinc 7 1, 3) := by decide +kernel
theorem dX7_moodWith_103 : decode cX7_moodWith 103 = .ok (.goto (-52), 3) := by decide +kernel
theorem dX7_moodWith_106 : decode cX7_moodWith 106 = .ok (.iinc 6 1, 3) := by decide +kernel
theorem dX7_moodWith_109 : decode cX7_moodWith 109 = .ok (.goto (-95), 3) := by decide +kernel
theorem dX7_moodWith_112 : decode cX7_moodWith 112 = .ok (.iload 4, 2) := by decide +kernel
theorem dX7_moodWith_114 : decode cX7_moodWith 114 = .ok (.iload 5, 2) := by decide +kernel
theorem dX7_moodWith_116 : decode cX7_moodWith 116 = .ok (.ifCond .eq 7, 3) := by decide +kernel
theorem dX7_moodWith_119 : decode cX7_moodWith 119 = .ok (.iconst 3, 1) := by decide +kernel
theorem dX7_moodWith_120 : decode cX7_moodWith 120 = .ok (.goto 4, 3) := by decide +kernel
theorem dX7_moodWith_123 : decode cX7_moodWith 123 = .ok (.iconst 0, 1) := by decide +kernel
theorem dX7_moodWith_124 : decode cX7_moodWith 124 = .ok (.iadd, 1) := by decide +kernel
theorem dX7_moodWith_125 : decode cX7_moodWith 125 = .ok (.ireturn, 1) := by decide +kernel
theorem dX7_moodNow_0 : decode cX7_moodNow 0 = .ok (.aload_n 0, 1) := by decide +kernel
theorem dX7_moodNow_1 : decode cX7_moodNow 1 = .ok (.iload_n 1, 1) := by decide +kernel
theorem dX7_moodNow_2 : decode cX7_moodNow 2 = .ok (.aload_n 0, 1) := by decide +kernel
theorem dX7_moodNow_3 : decode cX7_moodNow 3 = .ok (.iload_n 1, 1) := by decide +kernel
theorem dX7_moodNow_4 : decode cX7_moodNow 4 = .ok (.invokevirtual 146, 3) := by decide +kernel
theorem dX7_moodNow_7 : decode cX7_moodNow 7 = .ok (.iconst 0, 1) := by decide +kernel
theorem dX7_moodNow_8 : decode cX7_moodNow 8 = .ok (.invokevirtual 149, 3) := by decide +kernel
theorem dX7_moodNow_11 : decode cX7_moodNow 11 = .ok (.ireturn, 1) := by decide +kernel
theorem dX7_doesBy_0 : decode cX7_doesBy 0 = .ok (.iload_n 0, 1) := by decide +kernel
theorem dX7_doesBy_1 : decode cX7_doesBy 1 = .ok (.bipush 8, 2) := by decide +kernel
theorem dX7_doesBy_3 : decode cX7_doesBy 3 = .ok (.if_icmp .gt 7, 3) := by decide +kernel
theorem dX7_doesBy_6 : decode cX7_doesBy 6 = .ok (.iconst 0, 1) := by decide +kernel
theorem dX7_doesBy_7 : decode cX7_doesBy 7 = .ok (.goto 14, 3) := by decide +kernel
theorem dX7_doesBy_10 : decode cX7_doesBy 10 = .ok (.iload_n 0, 1) := by decide +kernel
theorem dX7_doesBy_11 : decode cX7_doesBy 11 = .ok (.bipush 15, 2) := by decide +kernel
theorem dX7_doesBy_13 : decode cX7_doesBy 13 = .ok (.if_icmp .lt 7, 3) := by decide +kernel
theorem dX7_doesBy_16 : decode cX7_doesBy 16 = .ok (.iconst 1, 1) := by decide +kernel
theorem dX7_doesBy_17 : decode cX7_doesBy 17 = .ok (.goto 4, 3) := by decide +kernel
theorem dX7_doesBy_20 : decode cX7_doesBy 20 = .ok (.iconst 2, 1) := by decide +kernel
theorem dX7_doesBy_21 : decode cX7_doesBy 21 = .ok (.ireturn, 1) := by decide +kernel
theorem dX7_isWished_0 : decode cX7_isWished 0 = .ok (.aload_n 0, 1) := by decide +kernel
theorem dX7_isWished_1 : decode cX7_isWished 1 = .ok (.getfield 25, 3) := by decide +kernel
theorem dX7_isWished_4 : decode cX7_isWished 4 = .ok (.iload_n 1, 1) := by decide +kernel
theorem dX7_isWished_5 : decode cX7_isWished 5 = .ok (.iaload, 1) := by decide +kernel
theorem dX7_isWished_6 : decode cX7_isWished 6 = .ok (.iconst 2, 1) := by decide +kernel
theorem dX7_isWished_7 : decode cX7_isWished 7 = .ok (.if_icmp .eq 16, 3) := by decide +kernel
theorem dX7_isWished_10 : decode cX7_isWished 10 = .ok (.iload_n 2, 1) := by decide +kernel
theorem dX7_isWished_11 : decode cX7_isWished 11 = .ok (.invokestatic 152, 3) := by decide +kernel
theorem dX7_isWished_14 : decode cX7_isWished 14 = .ok (.aload_n 0, 1) := by decide +kernel
theorem dX7_isWished_15 : decode cX7_isWished 15 = .ok (.getfield 25, 3) := by decide +kernel
theorem dX7_isWished_18 : decode cX7_isWished 18 = .ok (.iload_n 1, 1) := by decide +kernel
theorem dX7_isWished_19 : decode cX7_isWished 19 = .ok (.iaload, 1) := by decide +kernel
theorem dX7_isWished_20 : decode cX7_isWished 20 = .ok (.if_icmp .ne 7, 3) := by decide +kernel
theorem dX7_isWished_23 : decode cX7_isWished 23 = .ok (.iconst 1, 1) := by decide +kernel
theorem dX7_isWished_24 : decode cX7_isWished 24 = .ok (.goto 4, 3) := by decide +kernel
theorem dX7_isWished_27 : decode cX7_isWished 27 = .ok (.iconst 0, 1) := by decide +kernel
theorem dX7_isWished_28 : decode cX7_isWished 28 = .ok (.ireturn, 1) := by decide +kernel
theorem dX7_quarrels_0 : decode cX7_quarrels 0 = .ok (.iconst 0, 1) := by decide +kernel
theorem dX7_quarrels_1 : decode cX7_quarrels 1 = .ok (.istore_n 2, 1) := by decide +kernel
theorem dX7_quarrels_2 : decode cX7_quarrels 2 = .ok (.iconst 0, 1) := by decide +kernel
theorem dX7_quarrels_3 : decode cX7_quarrels 3 = .ok (.istore_n 3, 1) := by decide +kernel
theorem dX7_quarrels_4 : decode cX7_quarrels 4 = .ok (.iload_n 3, 1) := by decide +kernel
theorem dX7_quarrels_5 : decode cX7_quarrels 5 = .ok (.aload_n 0, 1) := by decide +kernel
theorem dX7_quarrels_6 : decode cX7_quarrels 6 = .ok (.getfield 113, 3) := by decide +kernel
theorem dX7_quarrels_9 : decode cX7_quarrels 9 = .ok (.if_icmp .ge 34, 3) := by decide +kernel
theorem dX7_quarrels_12 : decode cX7_quarrels 12 = .ok (.iload_n 2, 1) := by decide +kernel
theorem dX7_quarrels_13 : decode cX7_quarrels 13 = .ok (.iload_n 3, 1) := by decide +kernel
theorem dX7_quarrels_14 : decode cX7_quarrels 14 = .ok (.iload_n 1, 1) := by decide +kernel
theorem dX7_quarrels_15 : decode cX7_quarrels 15 = .ok (.if_icmp .eq 19, 3) := by decide +kernel
theorem dX7_quarrels_18 : decode cX7_quarrels 18 = .ok (.aload_n 0, 1) := by decide +kernel
theorem dX7_quarrels_19 : decode cX7_quarrels 19 = .ok (.iload_n 1, 1) := by decide +kernel
theorem dX7_quarrels_20 : decode cX7_quarrels 20 = .ok (.iload_n 3, 1) := by decide +kernel
theorem dX7_quarrels_21 : decode cX7_quarrels 21 = .ok (.iconst 0, 1) := by decide +kernel
theorem dX7_quarrels_22 : decode cX7_quarrels 22 = .ok (.invokevirtual 143, 3) := by decide +kernel
theorem dX7_quarrels_25 : decode cX7_quarrels 25 = .ok (.ifCond .eq 9, 3) := by decide +kernel
theorem dX7_quarrels_28 : decode cX7_quarrels 28 = .ok (.iconst 1, 1) := by decide +kernel
theorem dX7_quarrels_29 : decode cX7_quarrels 29 = .ok (.iload_n 3, 1) := by decide +kernel
theorem dX7_quarrels_30 : decode cX7_quarrels 30 = .ok (.ishl, 1) := by decide +kernel
theorem dX7_quarrels_31 : decode cX7_quarrels 31 = .ok (.goto 4, 3) := by decide +kernel
theorem dX7_quarrels_34 : decode cX7_quarrels 34 = .ok (.iconst 0, 1) := by decide +kernel
theorem dX7_quarrels_35 : decode cX7_quarrels 35 = .ok (.ior, 1) := by decide +kernel
theorem dX7_quarrels_36 : decode cX7_quarrels 36 = .ok (.istore_n 2, 1) := by decide +kernel
theorem dX7_quarrels_37 : decode cX7_quarrels 37 = .ok (.iinc 3 1, 3) := by decide +kernel
theorem dX7_quarrels_40 : decode cX7_quarrels 40 = .ok (.goto (-36), 3) := by decide +kernel
theorem dX7_quarrels_43 : decode cX7_quarrels 43 = .ok (.iload_n 2, 1) := by decide +kernel
theorem dX7_quarrels_44 : decode cX7_quarrels 44 = .ok (.ireturn, 1) := by decide +kernel
theorem dX7_gloveNow_0 : decode cX7_gloveNow 0 = .ok (.iload_n 2, 1) := by decide +kernel
theorem dX7_gloveNow_1 : decode cX7_gloveNow 1 = .ok (.tableswitch 133 0 7 #[47, 54, 61, 68, 75, 98, 121, 127], 47) := by decide +kernel
theorem dX7_gloveNow_48 : decode cX7_gloveNow 48 = .ok (.aload_n 0, 1) := by decide +kernel
theorem dX7_gloveNow_49 : decode cX7_gloveNow 49 = .ok (.getfield 7, 3) := by decide +kernel
theorem dX7_gloveNow_52 : decode cX7_gloveNow 52 = .ok (.iload_n 1, 1) := by decide +kernel
theorem dX7_gloveNow_53 : decode cX7_gloveNow 53 = .ok (.iaload, 1) := by decide +kernel
theorem dX7_gloveNow_54 : decode cX7_gloveNow 54 = .ok (.ireturn, 1) := by decide +kernel
theorem dX7_gloveNow_55 : decode cX7_gloveNow 55 = .ok (.aload_n 0, 1) := by decide +kernel
theorem dX7_gloveNow_56 : decode cX7_gloveNow 56 = .ok (.getfield 13, 3) := by decide +kernel
theorem dX7_gloveNow_59 : decode cX7_gloveNow 59 = .ok (.iload_n 1, 1) := by decide +kernel
theorem dX7_gloveNow_60 : decode cX7_gloveNow 60 = .ok (.iaload, 1) := by decide +kernel
theorem dX7_gloveNow_61 : decode cX7_gloveNow 61 = .ok (.ireturn, 1) := by decide +kernel
theorem dX7_gloveNow_62 : decode cX7_gloveNow 62 = .ok (.aload_n 0, 1) := by decide +kernel
theorem dX7_gloveNow_63 : decode cX7_gloveNow 63 = .ok (.getfield 16, 3) := by decide +kernel
theorem dX7_gloveNow_66 : decode cX7_gloveNow 66 = .ok (.iload_n 1, 1) := by decide +kernel
theorem dX7_gloveNow_67 : decode cX7_gloveNow 67 = .ok (.iaload, 1) := by decide +kernel
theorem dX7_gloveNow_68 : decode cX7_gloveNow 68 = .ok (.ireturn, 1) := by decide +kernel
theorem dX7_gloveNow_69 : decode cX7_gloveNow 69 = .ok (.aload_n 0, 1) := by decide +kernel
theorem dX7_gloveNow_70 : decode cX7_gloveNow 70 = .ok (.iload_n 1, 1) := by decide +kernel
theorem dX7_gloveNow_71 : decode cX7_gloveNow 71 = .ok (.iconst 0, 1) := by decide +kernel
theorem dX7_gloveNow_72 : decode cX7_gloveNow 72 = .ok (.invokevirtual 136, 3) := by decide +kernel
theorem dX7_gloveNow_75 : decode cX7_gloveNow 75 = .ok (.ireturn, 1) := by decide +kernel
theorem dX7_gloveNow_76 : decode cX7_gloveNow 76 = .ok (.aload_n 0, 1) := by decide +kernel
theorem dX7_gloveNow_77 : decode cX7_gloveNow 77 = .ok (.getfield 19, 3) := by decide +kernel
theorem dX7_gloveNow_80 : decode cX7_gloveNow 80 = .ok (.iload_n 1, 1) := by decide +kernel
theorem dX7_gloveNow_81 : decode cX7_gloveNow 81 = .ok (.iaload, 1) := by decide +kernel
theorem dX7_gloveNow_82 : decode cX7_gloveNow 82 = .ok (.iconst (-1), 1) := by decide +kernel
theorem dX7_gloveNow_83 : decode cX7_gloveNow 83 = .ok (.if_icmp .ne 7, 3) := by decide +kernel
theorem dX7_gloveNow_86 : decode cX7_gloveNow 86 = .ok (.iconst (-1), 1) := by decide +kernel
theorem dX7_gloveNow_87 : decode cX7_gloveNow 87 = .ok (.goto 11, 3) := by decide +kernel
theorem dX7_gloveNow_90 : decode cX7_gloveNow 90 = .ok (.aload_n 0, 1) := by decide +kernel
theorem dX7_gloveNow_91 : decode cX7_gloveNow 91 = .ok (.getfield 19, 3) := by decide +kernel
theorem dX7_gloveNow_94 : decode cX7_gloveNow 94 = .ok (.iload_n 1, 1) := by decide +kernel
theorem dX7_gloveNow_95 : decode cX7_gloveNow 95 = .ok (.iaload, 1) := by decide +kernel
theorem dX7_gloveNow_96 : decode cX7_gloveNow 96 = .ok (.iconst 2, 1) := by decide +kernel
theorem dX7_gloveNow_97 : decode cX7_gloveNow 97 = .ok (.idiv, 1) := by decide +kernel
theorem dX7_gloveNow_98 : decode cX7_gloveNow 98 = .ok (.ireturn, 1) := by decide +kernel
theorem dX7_gloveNow_99 : decode cX7_gloveNow 99 = .ok (.aload_n 0, 1) := by decide +kernel
theorem dX7_gloveNow_100 : decode cX7_gloveNow 100 = .ok (.getfield 19, 3) := by decide +kernel
theorem dX7_gloveNow_103 : decode cX7_gloveNow 103 = .ok (.iload_n 1, 1) := by decide +kernel
theorem dX7_gloveNow_104 : decode cX7_gloveNow 104 = .ok (.iaload, 1) := by decide +kernel
theorem dX7_gloveNow_105 : decode cX7_gloveNow 105 = .ok (.iconst (-1), 1) := by decide +kernel
theorem dX7_gloveNow_106 : decode cX7_gloveNow 106 = .ok (.if_icmp .ne 7, 3) := by decide +kernel
theorem dX7_gloveNow_109 : decode cX7_gloveNow 109 = .ok (.iconst (-1), 1) := by decide +kernel
theorem dX7_gloveNow_110 : decode cX7_gloveNow 110 = .ok (.goto 11, 3) := by decide +kernel
theorem dX7_gloveNow_113 : decode cX7_gloveNow 113 = .ok (.aload_n 0, 1) := by decide +kernel
theorem dX7_gloveNow_114 : decode cX7_gloveNow 114 = .ok (.getfield 19, 3) := by decide +kernel
theorem dX7_gloveNow_117 : decode cX7_gloveNow 117 = .ok (.iload_n 1, 1) := by decide +kernel
theorem dX7_gloveNow_118 : decode cX7_gloveNow 118 = .ok (.iaload, 1) := by decide +kernel
theorem dX7_gloveNow_119 : decode cX7_gloveNow 119 = .ok (.iconst 2, 1) := by decide +kernel
theorem dX7_gloveNow_120 : decode cX7_gloveNow 120 = .ok (.irem, 1) := by decide +kernel
theorem dX7_gloveNow_121 : decode cX7_gloveNow 121 = .ok (.ireturn, 1) := by decide +kernel
theorem dX7_gloveNow_122 : decode cX7_gloveNow 122 = .ok (.aload_n 0, 1) := by decide +kernel
theorem dX7_gloveNow_123 : decode cX7_gloveNow 123 = .ok (.iload_n 1, 1) := by decide +kernel
theorem dX7_gloveNow_124 : decode cX7_gloveNow 124 = .ok (.invokevirtual 155, 3) := by decide +kernel
theorem dX7_gloveNow_127 : decode cX7_gloveNow 127 = .ok (.ireturn, 1) := by decide +kernel
theorem dX7_gloveNow_128 : decode cX7_gloveNow 128 = .ok (.aload_n 0, 1) := by decide +kernel
theorem dX7_gloveNow_129 : decode cX7_gloveNow 129 = .ok (.iload_n 1, 1) := by decide +kernel
theorem dX7_gloveNow_130 : decode cX7_gloveNow 130 = .ok (.invokevirtual 158, 3) := by decide +kernel
theorem dX7_gloveNow_133 : decode cX7_gloveNow 133 = .ok (.ireturn, 1) := by decide +kernel
theorem dX7_gloveNow_134 : decode cX7_gloveNow 134 = .ok (.aload_n 0, 1) := by decide +kernel
theorem dX7_gloveNow_135 : decode cX7_gloveNow 135 = .ok (.iload_n 1, 1) := by decide +kernel
theorem dX7_gloveNow_136 : decode cX7_gloveNow 136 = .ok (.invokevirtual 161, 3) := by decide +kernel
theorem dX7_gloveNow_139 : decode cX7_gloveNow 139 = .ok (.ireturn, 1) := by decide +kernel
theorem dX7_glove_0 : decode cX7_glove 0 = .ok (.aload_n 0, 1) := by decide +kernel
theorem dX7_glove_1 : decode cX7_glove 1 = .ok (.iload_n 1, 1) := by decide +kernel
theorem dX7_glove_2 : decode cX7_glove 2 = .ok (.invokevirtual 164, 3) := by decide +kernel
theorem dX7_glove_5 : decode cX7_glove 5 = .ok (.ifCond .ne 8, 3) := by decide +kernel
theorem dX7_glove_8 : decode cX7_glove 8 = .ok (.bipush (-101), 2) := by decide +kernel
theorem dX7_glove_10 : decode cX7_glove 10 = .ok (.goto 24, 3) := by decide +kernel
theorem dX7_glove_13 : decode cX7_glove 13 = .ok (.iload_n 2, 1) := by decide +kernel
theorem dX7_glove_14 : decode cX7_glove 14 = .ok (.iconst 0, 1) := by decide +kernel
theorem dX7_glove_15 : decode cX7_glove 15 = .ok (.bipush 8, 2) := by decide +kernel
theorem dX7_glove_17 : decode cX7_glove 17 = .ok (.invokestatic 77, 3) := by decide +kernel
theorem dX7_glove_20 : decode cX7_glove 20 = .ok (.ifCond .eq 12, 3) := by decide +kernel
theorem dX7_glove_23 : decode cX7_glove 23 = .ok (.aload_n 0, 1) := by decide +kernel
theorem dX7_glove_24 : decode cX7_glove 24 = .ok (.iload_n 1, 1) := by decide +kernel
theorem dX7_glove_25 : decode cX7_glove 25 = .ok (.iload_n 2, 1) := by decide +kernel
theorem dX7_glove_26 : decode cX7_glove 26 = .ok (.invokevirtual 167, 3) := by decide +kernel
theorem dX7_glove_29 : decode cX7_glove 29 = .ok (.goto 5, 3) := by decide +kernel
theorem dX7_glove_32 : decode cX7_glove 32 = .ok (.bipush (-102), 2) := by decide +kernel
theorem dX7_glove_34 : decode cX7_glove 34 = .ok (.ireturn, 1) := by decide +kernel
theorem dX7_as_0 : decode cX7_as 0 = .ok (.aload_n 0, 1) := by decide +kernel
theorem dX7_as_1 : decode cX7_as 1 = .ok (.iload_n 1, 1) := by decide +kernel
theorem dX7_as_2 : decode cX7_as 2 = .ok (.invokevirtual 164, 3) := by decide +kernel
theorem dX7_as_5 : decode cX7_as 5 = .ok (.ifCond .ne 6, 3) := by decide +kernel
theorem dX7_as_8 : decode cX7_as 8 = .ok (.bipush (-101), 2) := by decide +kernel
theorem dX7_as_10 : decode cX7_as 10 = .ok (.ireturn, 1) := by decide +kernel
theorem dX7_as_11 : decode cX7_as 11 = .ok (.iload_n 2, 1) := by decide +kernel
theorem dX7_as_12 : decode cX7_as 12 = .ok (.iconst 0, 1) := by decide +kernel
theorem dX7_as_13 : decode cX7_as 13 = .ok (.iconst 4, 1) := by decide +kernel
theorem dX7_as_14 : decode cX7_as 14 = .ok (.invokestatic 77, 3) := by decide +kernel
theorem dX7_as_17 : decode cX7_as 17 = .ok (.ifCond .ne 6, 3) := by decide +kernel
theorem dX7_as_20 : decode cX7_as 20 = .ok (.bipush (-102), 2) := by decide +kernel
theorem dX7_as_22 : decode cX7_as 22 = .ok (.ireturn, 1) := by decide +kernel
theorem dX7_as_23 : decode cX7_as 23 = .ok (.aload_n 0, 1) := by decide +kernel
theorem dX7_as_24 : decode cX7_as 24 = .ok (.getfield 7, 3) := by decide +kernel
theorem dX7_as_27 : decode cX7_as 27 = .ok (.iload_n 1, 1) := by decide +kernel
theorem dX7_as_28 : decode cX7_as 28 = .ok (.iaload, 1) := by decide +kernel
theorem dX7_as_29 : decode cX7_as 29 = .ok (.istore_n 3, 1) := by decide +kernel
theorem dX7_as_30 : decode cX7_as 30 = .ok (.iload_n 2, 1) := by decide +kernel
theorem dX7_as_31 : decode cX7_as 31 = .ok (.ifCond .eq 18, 3) := by decide +kernel
theorem dX7_as_34 : decode cX7_as 34 = .ok (.iload_n 3, 1) := by decide +kernel
theorem dX7_as_35 : decode cX7_as 35 = .ok (.iload_n 2, 1) := by decide +kernel
theorem dX7_as_36 : decode cX7_as 36 = .ok (.if_icmp .eq 13, 3) := by decide +kernel
theorem dX7_as_39 : decode cX7_as 39 = .ok (.iload_n 2, 1) := by decide +kernel
theorem dX7_as_40 : decode cX7_as 40 = .ok (.iconst 1, 1) := by decide +kernel
theorem dX7_as_41 : decode cX7_as 41 = .ok (.if_icmp .ne 12, 3) := by decide +kernel
theorem dX7_as_44 : decode cX7_as 44 = .ok (.iload_n 3, 1) := by decide +kernel
theorem dX7_as_45 : decode cX7_as 45 = .ok (.iconst 4, 1) := by decide +kernel
theorem dX7_as_46 : decode cX7_as 46 = .ok (.if_icmp .ne 7, 3) := by decide +kernel
theorem dX7_as_49 : decode cX7_as 49 = .ok (.iload_n 1, 1) := by decide +kernel
theorem dX7_as_50 : decode cX7_as 50 = .ok (.goto 4, 3) := by decide +kernel
theorem dX7_as_53 : decode cX7_as 53 = .ok (.iconst (-1), 1) := by decide +kernel
theorem dX7_as_54 : decode cX7_as 54 = .ok (.ireturn, 1) := by decide +kernel
theorem dX7_onHand_0 : decode cX7_onHand 0 = .ok (.iconst (-1), 1) := by decide +kernel
theorem dX7_onHand_1 : decode cX7_onHand 1 = .ok (.istore_n 2, 1) := by decide +kernel
theorem dX7_onHand_2 : decode cX7_onHand 2 = .ok (.iconst 0, 1) := by decide +kernel
theorem dX7_onHand_3 : decode cX7_onHand 3 = .ok (.istore_n 3, 1) := by decide +kernel
theorem dX7_onHand_4 : decode cX7_onHand 4 = .ok (.iload_n 3, 1) := by decide +kernel
theorem dX7_onHand_5 : decode cX7_onHand 5 = .ok (.aload_n 0, 1) := by decide +kernel
theorem dX7_onHand_6 : decode cX7_onHand 6 = .ok (.getfield 113, 3) := by decide +kernel
theorem dX7_onHand_9 : decode cX7_onHand 9 = .ok (.if_icmp .ge 25, 3) := by decide +kernel
theorem dX7_onHand_12 : decode cX7_onHand 12 = .ok (.aload_n 0, 1) := by decide +kernel
theorem dX7_onHand_13 : decode cX7_onHand 13 = .ok (.getfield 19, 3) := by decide +kernel
theorem dX7_onHand_16 : decode cX7_onHand 16 = .ok (.iload_n 3, 1) := by decide +kernel
theorem dX7_onHand_17 : decode cX7_onHand 17 = .ok (.iaload, 1) := by decide +kernel
theorem dX7_onHand_18 : decode cX7_onHand 18 = .ok (.iload_n 1, 1) := by decide +kernel
theorem dX7_onHand_19 : decode cX7_onHand 19 = .ok (.if_icmp .ne 7, 3) := by decide +kernel
theorem dX7_onHand_22 : decode cX7_onHand 22 = .ok (.iload_n 3, 1) := by decide +kernel
theorem dX7_onHand_23 : decode cX7_onHand 23 = .ok (.goto 4, 3) := by decide +kernel
theorem dX7_onHand_26 : decode cX7_onHand 26 = .ok (.iload_n 2, 1) := by decide +kernel
theorem dX7_onHand_27 : decode cX7_onHand 27 = .ok (.istore_n 2, 1) := by decide +kernel
theorem dX7_onHand_28 : decode cX7_onHand 28 = .ok (.iinc 3 1, 3) := by decide +kernel
theorem dX7_onHand_31 : decode cX7_onHand 31 = .ok (.goto (-27), 3) := by decide +kernel
theorem dX7_onHand_34 : decode cX7_onHand 34 = .ok (.iload_n 2, 1) := by decide +kernel
theorem dX7_onHand_35 : decode cX7_onHand 35 = .ok (.ireturn, 1) := by decide +kernel
theorem dX7_wearerNow_0 : decode cX7_wearerNow 0 = .ok (.iload_n 2, 1) := by decide +kernel
theorem dX7_wearerNow_1 : decode cX7_wearerNow 1 = .ok (.tableswitch 103 0 6 #[43, 50, 56, 56, 68, 77, 84], 43) := by decide +kernel
theorem dX7_wearerNow_44 : decode cX7_wearerNow 44 = .ok (.aload_n 0, 1) := by decide +kernel
theorem dX7_wearerNow_45 : decode cX7_wearerNow 45 = .ok (.getfield 22, 3) := by decide +kernel
theorem dX7_wearerNow_48 : decode cX7_wearerNow 48 = .ok (.iload_n 1, 1) := by decide +kernel
theorem dX7_wearerNow_49 : decode cX7_wearerNow 49 = .ok (.iaload, 1) := by decide +kernel
theorem dX7_wearerNow_50 : decode cX7_wearerNow 50 = .ok (.ireturn, 1) := by decide +kernel
theorem dX7_wearerNow_51 : decode cX7_wearerNow 51 = .ok (.aload_n 0, 1) := by decide +kernel
theorem dX7_wearerNow_52 : decode cX7_wearerNow 52 = .ok (.iload_n 1, 1) := by decide +kernel
theorem dX7_wearerNow_53 : decode cX7_wearerNow 53 = .ok (.invokevirtual 170, 3) := by decide +kernel
theorem dX7_wearerNow_56 : decode cX7_wearerNow 56 = .ok (.ireturn, 1) := by decide +kernel
theorem dX7_wearerNow_57 : decode cX7_wearerNow 57 = .ok (.aload_n 0, 1) := by decide +kernel
theorem dX7_wearerNow_58 : decode cX7_wearerNow 58 = .ok (.iconst 2, 1) := by decide +kernel
theorem dX7_wearerNow_59 : decode cX7_wearerNow 59 = .ok (.iload_n 1, 1) := by decide +kernel
theorem dX7_wearerNow_60 : decode cX7_wearerNow 60 = .ok (.imul, 1) := by decide +kernel
theorem dX7_wearerNow_61 : decode cX7_wearerNow 61 = .ok (.iload_n 2, 1) := by decide +kernel
theorem dX7_wearerNow_62 : decode cX7_wearerNow 62 = .ok (.iadd, 1) := by decide +kernel
theorem dX7_wearerNow_63 : decode cX7_wearerNow 63 = .ok (.iconst 2, 1) := by decide +kernel
theorem dX7_wearerNow_64 : decode cX7_wearerNow 64 = .ok (.isub, 1) := by decide +kernel
theorem dX7_wearerNow_65 : decode cX7_wearerNow 65 = .ok (.invokevirtual 173, 3) := by decide +kernel
theorem dX7_wearerNow_68 : decode cX7_wearerNow 68 = .ok (.ireturn, 1) := by decide +kernel
theorem dX7_wearerNow_69 : decode cX7_wearerNow 69 = .ok (.aload_n 0, 1) := by decide +kernel
theorem dX7_wearerNow_70 : decode cX7_wearerNow 70 = .ok (.iload_n 1, 1) := by decide +kernel
theorem dX7_wearerNow_71 : decode cX7_wearerNow 71 = .ok (.invokevirtual 170, 3) := by decide +kernel
theorem dX7_wearerNow_74 : decode cX7_wearerNow 74 = .ok (.invokestatic 152, 3) := by decide +kernel
theorem dX7_wearerNow_77 : decode cX7_wearerNow 77 = .ok (.ireturn, 1) := by decide +kernel
theorem dX7_wearerNow_78 : decode cX7_wearerNow 78 = .ok (.aload_n 0, 1) := by decide +kernel
theorem dX7_wearerNow_79 : decode cX7_wearerNow 79 = .ok (.getfield 25, 3) := by decide +kernel
theorem dX7_wearerNow_82 : decode cX7_wearerNow 82 = .ok (.iload_n 1, 1) := by decide +kernel
theorem dX7_wearerNow_83 : decode cX7_wearerNow 83 = .ok (.iaload, 1) := by decide +kernel
theorem dX7_wearerNow_84 : decode cX7_wearerNow 84 = .ok (.ireturn, 1) := by decide +kernel
theorem dX7_wearerNow_85 : decode cX7_wearerNow 85 = .ok (.aload_n 0, 1) := by decide +kernel
theorem dX7_wearerNow_86 : decode cX7_wearerNow 86 = .ok (.iload_n 1, 1) := by decide +kernel
theorem dX7_wearerNow_87 : decode cX7_wearerNow 87 = .ok (.aload_n 0, 1) := by decide +kernel
theorem dX7_wearerNow_88 : decode cX7_wearerNow 88 = .ok (.iload_n 1, 1) := by decide +kernel
theorem dX7_wearerNow_89 : decode cX7_wearerNow 89 = .ok (.invokevirtual 170, 3) := by decide +kernel
theorem dX7_wearerNow_92 : decode cX7_wearerNow 92 = .ok (.invokevirtual 176, 3) := by decide +kernel
theorem dX7_wearerNow_95 : decode cX7_wearerNow 95 = .ok (.ifCond .eq 7, 3) := by decide +kernel
theorem dX7_wearerNow_98 : decode cX7_wearerNow 98 = .ok (.iconst 1, 1) := by decide +kernel
theorem dX7_wearerNow_99 : decode cX7_wearerNow 99 = .ok (.goto 4, 3) := by decide +kernel
theorem dX7_wearerNow_102 : decode cX7_wearerNow 102 = .ok (.iconst 0, 1) := by decide +kernel
theorem dX7_wearerNow_103 : decode cX7_wearerNow 103 = .ok (.ireturn, 1) := by decide +kernel
theorem dX7_wearerNow_104 : decode cX7_wearerNow 104 = .ok (.aload_n 0, 1) := by decide +kernel
theorem dX7_wearerNow_105 : decode cX7_wearerNow 105 = .ok (.iload_n 1, 1) := by decide +kernel
theorem dX7_wearerNow_106 : decode cX7_wearerNow 106 = .ok (.iload_n 2, 1) := by decide +kernel
theorem dX7_wearerNow_107 : decode cX7_wearerNow 107 = .ok (.bipush 7, 2) := by decide +kernel
theorem dX7_wearerNow_109 : decode cX7_wearerNow 109 = .ok (.isub, 1) := by decide +kernel
theorem dX7_wearerNow_110 : decode cX7_wearerNow 110 = .ok (.invokevirtual 179, 3) := by decide +kernel
theorem dX7_wearerNow_113 : decode cX7_wearerNow 113 = .ok (.ireturn, 1) := by decide +kernel
theorem dX7_wearer_0 : decode cX7_wearer 0 = .ok (.aload_n 0, 1) := by decide +kernel
theorem dX7_wearer_1 : decode cX7_wearer 1 = .ok (.iload_n 1, 1) := by decide +kernel
theorem dX7_wearer_2 : decode cX7_wearer 2 = .ok (.invokevirtual 182, 3) := by decide +kernel
theorem dX7_wearer_5 : decode cX7_wearer 5 = .ok (.ifCond .ne 8, 3) := by decide +kernel
theorem dX7_wearer_8 : decode cX7_wearer 8 = .ok (.bipush (-101), 2) := by decide +kernel
theorem dX7_wearer_10 : decode cX7_wearer 10 = .ok (.goto 24, 3) := by decide +kernel
theorem dX7_wearer_13 : decode cX7_wearer 13 = .ok (.iload_n 2, 1) := by decide +kernel
theorem dX7_wearer_14 : decode cX7_wearer 14 = .ok (.iconst 0, 1) := by decide +kernel
theorem dX7_wearer_15 : decode cX7_wearer 15 = .ok (.bipush 8, 2) := by decide +kernel
theorem dX7_wearer_17 : decode cX7_wearer 17 = .ok (.invokestatic 77, 3) := by decide +kernel
theorem dX7_wearer_20 : decode cX7_wearer 20 = .ok (.ifCond .eq 12, 3) := by decide +kernel
theorem dX7_wearer_23 : decode cX7_wearer 23 = .ok (.aload_n 0, 1) := by decide +kernel
theorem dX7_wearer_24 : decode cX7_wearer 24 = .ok (.iload_n 1, 1) := by decide +kernel
theorem dX7_wearer_25 : decode cX7_wearer 25 = .ok (.iload_n 2, 1) := by decide +kernel
theorem dX7_wearer_26 : decode cX7_wearer 26 = .ok (.invokevirtual 185, 3) := by decide +kernel
theorem dX7_wearer_29 : decode cX7_wearer 29 = .ok (.goto 5, 3) := by decide +kernel
theorem dX7_wearer_32 : decode cX7_wearer 32 = .ok (.bipush (-102), 2) := by decide +kernel
theorem dX7_wearer_34 : decode cX7_wearer 34 = .ok (.ireturn, 1) := by decide +kernel
theorem dX7_wear_0 : decode cX7_wear 0 = .ok (.aload_n 0, 1) := by decide +kernel
theorem dX7_wear_1 : decode cX7_wear 1 = .ok (.iload_n 1, 1) := by decide +kernel
theorem dX7_wear_2 : decode cX7_wear 2 = .ok (.invokevirtual 164, 3) := by decide +kernel
theorem dX7_wear_5 : decode cX7_wear 5 = .ok (.ifCond .eq 11, 3) := by decide +kernel
theorem dX7_wear_8 : decode cX7_wear 8 = .ok (.aload_n 0, 1) := by decide +kernel
theorem dX7_wear_9 : decode cX7_wear 9 = .ok (.iload_n 2, 1) := by decide +kernel
theorem dX7_wear_10 : decode cX7_wear 10 = .ok (.invokevirtual 182, 3) := by decide +kernel
theorem dX7_wear_13 : decode cX7_wear 13 = .ok (.ifCond .ne 6, 3) := by decide +kernel
theorem dX7_wear_16 : decode cX7_wear 16 = .ok (.bipush (-101), 2) := by decide +kernel
theorem dX7_wear_18 : decode cX7_wear 18 = .ok (.ireturn, 1) := by decide +kernel
theorem dX7_wear_19 : decode cX7_wear 19 = .ok (.iload_n 3, 1) := by decide +kernel
theorem dX7_wear_20 : decode cX7_wear 20 = .ok (.iconst 0, 1) := by decide +kernel
theorem dX7_wear_21 : decode cX7_wear 21 = .ok (.iconst 1, 1) := by decide +kernel
theorem dX7_wear_22 : decode cX7_wear 22 = .ok (.invokestatic 77, 3) := by decide +kernel
theorem dX7_wear_25 : decode cX7_wear 25 = .ok (.ifCond .ne 6, 3) := by decide +kernel
theorem dX7_wear_28 : decode cX7_wear 28 = .ok (.bipush (-102), 2) := by decide +kernel
theorem dX7_wear_30 : decode cX7_wear 30 = .ok (.ireturn, 1) := by decide +kernel
theorem dX7_wear_31 : decode cX7_wear 31 = .ok (.aload_n 0, 1) := by decide +kernel
theorem dX7_wear_32 : decode cX7_wear 32 = .ok (.getfield 19, 3) := by decide +kernel
theorem dX7_wear_35 : decode cX7_wear 35 = .ok (.iload_n 1, 1) := by decide +kernel
theorem dX7_wear_36 : decode cX7_wear 36 = .ok (.iaload, 1) := by decide +kernel
theorem dX7_wear_37 : decode cX7_wear 37 = .ok (.iconst (-1), 1) := by decide +kernel
theorem dX7_wear_38 : decode cX7_wear 38 = .ok (.if_icmp .ne 16, 3) := by decide +kernel
theorem dX7_wear_41 : decode cX7_wear 41 = .ok (.aload_n 0, 1) := by decide +kernel
theorem dX7_wear_42 : decode cX7_wear 42 = .ok (.iconst 2, 1) := by decide +kernel
theorem dX7_wear_43 : decode cX7_wear 43 = .ok (.iload_n 2, 1) := by decide +kernel
theorem dX7_wear_44 : decode cX7_wear 44 = .ok (.imul, 1) := by decide +kernel
theorem dX7_wear_45 : decode cX7_wear 45 = .ok (.iload_n 3, 1) := by decide +kernel
theorem dX7_wear_46 : decode cX7_wear 46 = .ok (.iadd, 1) := by decide +kernel
theorem dX7_wear_47 : decode cX7_wear 47 = .ok (.invokevirtual 173, 3) := by decide +kernel
theorem dX7_wear_50 : decode cX7_wear 50 = .ok (.iconst (-1), 1) := by decide +kernel
theorem dX7_wear_51 : decode cX7_wear 51 = .ok (.if_icmp .eq 6, 3) := by decide +kernel
theorem dX7_wear_54 : decode cX7_wear 54 = .ok (.bipush (-103), 2) := by decide +kernel
theorem dX7_wear_56 : decode cX7_wear 56 = .ok (.ireturn, 1) := by decide +kernel
theorem dX7_wear_57 : decode cX7_wear 57 = .ok (.aload_n 0, 1) := by decide +kernel
theorem dX7_wear_58 : decode cX7_wear 58 = .ok (.getfield 19, 3) := by decide +kernel
theorem dX7_wear_61 : decode cX7_wear 61 = .ok (.iload_n 1, 1) := by decide +kernel
theorem dX7_wear_62 : decode cX7_wear 62 = .ok (.iconst 2, 1) := by decide +kernel
theorem dX7_wear_63 : decode cX7_wear 63 = .ok (.iload_n 2, 1) := by decide +kernel
theorem dX7_wear_64 : decode cX7_wear 64 = .ok (.imul, 1) := by decide +kernel
theorem dX7_wear_65 : decode cX7_wear 65 = .ok (.iload_n 3, 1) := by decide +kernel
theorem dX7_wear_66 : decode cX7_wear 66 = .ok (.iadd, 1) := by decide +kernel
theorem dX7_wear_67 : decode cX7_wear 67 = .ok (.iastore, 1) := by decide +kernel
theorem dX7_wear_68 : decode cX7_wear 68 = .ok (.aload_n 0, 1) := by decide +kernel
theorem dX7_wear_69 : decode cX7_wear 69 = .ok (.iload_n 2, 1) := by decide +kernel
theorem dX7_wear_70 : decode cX7_wear 70 = .ok (.invokevirtual 170, 3) := by decide +kernel
theorem dX7_wear_73 : decode cX7_wear 73 = .ok (.ireturn, 1) := by decide +kernel
theorem dX7_off_0 : decode cX7_off 0 = .ok (.aload_n 0, 1) := by decide +kernel
theorem dX7_off_1 : decode cX7_off 1 = .ok (.iload_n 1, 1) := by decide +kernel
theorem dX7_off_2 : decode cX7_off 2 = .ok (.invokevirtual 164, 3) := by decide +kernel
theorem dX7_off_5 : decode cX7_off 5 = .ok (.ifCond .ne 6, 3) := by decide +kernel
theorem dX7_off_8 : decode cX7_off 8 = .ok (.bipush (-101), 2) := by decide +kernel
theorem dX7_off_10 : decode cX7_off 10 = .ok (.ireturn, 1) := by decide +kernel
theorem dX7_off_11 : decode cX7_off 11 = .ok (.aload_n 0, 1) := by decide +kernel
theorem dX7_off_12 : decode cX7_off 12 = .ok (.getfield 19, 3) := by decide +kernel
theorem dX7_off_15 : decode cX7_off 15 = .ok (.iload_n 1, 1) := by decide +kernel
theorem dX7_off_16 : decode cX7_off 16 = .ok (.iaload, 1) := by decide +kernel
theorem dX7_off_17 : decode cX7_off 17 = .ok (.iconst (-1), 1) := by decide +kernel
theorem dX7_off_18 : decode cX7_off 18 = .ok (.if_icmp .ne 6, 3) := by decide +kernel
theorem dX7_off_21 : decode cX7_off 21 = .ok (.bipush (-103), 2) := by decide +kernel
theorem dX7_off_23 : decode cX7_off 23 = .ok (.ireturn, 1) := by decide +kernel
theorem dX7_off_24 : decode cX7_off 24 = .ok (.aload_n 0, 1) := by decide +kernel
theorem dX7_off_25 : decode cX7_off 25 = .ok (.getfield 19, 3) := by decide +kernel
theorem dX7_off_28 : decode cX7_off 28 = .ok (.iload_n 1, 1) := by decide +kernel
theorem dX7_off_29 : decode cX7_off 29 = .ok (.iaload, 1) := by decide +kernel
theorem dX7_off_30 : decode cX7_off 30 = .ok (.iconst 2, 1) := by decide +kernel
theorem dX7_off_31 : decode cX7_off 31 = .ok (.idiv, 1) := by decide +kernel
theorem dX7_off_32 : decode cX7_off 32 = .ok (.istore_n 2, 1) := by decide +kernel
theorem dX7_off_33 : decode cX7_off 33 = .ok (.aload_n 0, 1) := by decide +kernel
theorem dX7_off_34 : decode cX7_off 34 = .ok (.getfield 19, 3) := by decide +kernel
theorem dX7_off_37 : decode cX7_off 37 = .ok (.iload_n 1, 1) := by decide +kernel
theorem dX7_off_38 : decode cX7_off 38 = .ok (.iconst (-1), 1) := by decide +kernel
theorem dX7_off_39 : decode cX7_off 39 = .ok (.iastore, 1) := by decide +kernel
theorem dX7_off_40 : decode cX7_off 40 = .ok (.iload_n 2, 1) := by decide +kernel
theorem dX7_off_41 : decode cX7_off 41 = .ok (.ireturn, 1) := by decide +kernel
theorem dX7_goBy_0 : decode cX7_goBy 0 = .ok (.iconst 0, 1) := by decide +kernel
theorem dX7_goBy_1 : decode cX7_goBy 1 = .ok (.istore_n 1, 1) := by decide +kernel
theorem dX7_goBy_2 : decode cX7_goBy 2 = .ok (.iload_n 1, 1) := by decide +kernel
theorem dX7_goBy_3 : decode cX7_goBy 3 = .ok (.aload_n 0, 1) := by decide +kernel
theorem dX7_goBy_4 : decode cX7_goBy 4 = .ok (.getfield 113, 3) := by decide +kernel
theorem dX7_goBy_7 : decode cX7_goBy 7 = .ok (.if_icmp .ge 40, 3) := by decide +kernel
theorem dX7_goBy_10 : decode cX7_goBy 10 = .ok (.aload_n 0, 1) := by decide +kernel
theorem dX7_goBy_11 : decode cX7_goBy 11 = .ok (.getfield 16, 3) := by decide +kernel
theorem dX7_goBy_14 : decode cX7_goBy 14 = .ok (.iload_n 1, 1) := by decide +kernel
theorem dX7_goBy_15 : decode cX7_goBy 15 = .ok (.aload_n 0, 1) := by decide +kernel
theorem dX7_goBy_16 : decode cX7_goBy 16 = .ok (.getfield 19, 3) := by decide +kernel
theorem dX7_goBy_19 : decode cX7_goBy 19 = .ok (.iload_n 1, 1) := by decide +kernel
theorem dX7_goBy_20 : decode cX7_goBy 20 = .ok (.iaload, 1) := by decide +kernel
theorem dX7_goBy_21 : decode cX7_goBy 21 = .ok (.iconst (-1), 1) := by decide +kernel
theorem dX7_goBy_22 : decode cX7_goBy 22 = .ok (.if_icmp .ne 12, 3) := by decide +kernel
theorem dX7_goBy_25 : decode cX7_goBy 25 = .ok (.aload_n 0, 1) := by decide +kernel
theorem dX7_goBy_26 : decode cX7_goBy 26 = .ok (.getfield 16, 3) := by decide +kernel
theorem dX7_goBy_29 : decode cX7_goBy 29 = .ok (.iload_n 1, 1) := by decide +kernel
theorem dX7_goBy_30 : decode cX7_goBy 30 = .ok (.iaload, 1) := by decide +kernel
theorem dX7_goBy_31 : decode cX7_goBy 31 = .ok (.goto 9, 3) := by decide +kernel
theorem dX7_goBy_34 : decode cX7_goBy 34 = .ok (.aload_n 0, 1) := by decide +kernel
theorem dX7_goBy_35 : decode cX7_goBy 35 = .ok (.iload_n 1, 1) := by decide +kernel
theorem dX7_goBy_36 : decode cX7_goBy 36 = .ok (.iconst 1, 1) := by decide +kernel
theorem dX7_goBy_37 : decode cX7_goBy 37 = .ok (.invokevirtual 128, 3) := by decide +kernel
theorem dX7_goBy_40 : decode cX7_goBy 40 = .ok (.iastore, 1) := by decide +kernel
theorem dX7_goBy_41 : decode cX7_goBy 41 = .ok (.iinc 1 1, 3) := by decide +kernel
theorem dX7_goBy_44 : decode cX7_goBy 44 = .ok (.goto (-42), 3) := by decide +kernel
theorem dX7_goBy_47 : decode cX7_goBy 47 = .ok (.return_, 1) := by decide +kernel
theorem dX7_hour_0 : decode cX7_hour 0 = .ok (.aload_n 0, 1) := by decide +kernel
theorem dX7_hour_1 : decode cX7_hour 1 = .ok (.getfield 113, 3) := by decide +kernel
theorem dX7_hour_4 : decode cX7_hour 4 = .ok (.ifCond .ne 6, 3) := by decide +kernel
theorem dX7_hour_7 : decode cX7_hour 7 = .ok (.bipush (-103), 2) := by decide +kernel
theorem dX7_hour_9 : decode cX7_hour 9 = .ok (.ireturn, 1) := by decide +kernel
theorem dX7_hour_10 : decode cX7_hour 10 = .ok (.aload_n 0, 1) := by decide +kernel
theorem dX7_hour_11 : decode cX7_hour 11 = .ok (.getfield 119, 3) := by decide +kernel
theorem dX7_hour_14 : decode cX7_hour 14 = .ok (.sipush 999, 3) := by decide +kernel
theorem dX7_hour_17 : decode cX7_hour 17 = .ok (.if_icmp .ne 6, 3) := by decide +kernel
theorem dX7_hour_20 : decode cX7_hour 20 = .ok (.bipush (-104), 2) := by decide +kernel
theorem dX7_hour_22 : decode cX7_hour 22 = .ok (.ireturn, 1) := by decide +kernel
theorem dX7_hour_23 : decode cX7_hour 23 = .ok (.aload_n 0, 1) := by decide +kernel
theorem dX7_hour_24 : decode cX7_hour 24 = .ok (.invokevirtual 188, 3) := by decide +kernel
theorem dX7_hour_27 : decode cX7_hour 27 = .ok (.aload_n 0, 1) := by decide +kernel
theorem dX7_hour_28 : decode cX7_hour 28 = .ok (.dup, 1) := by decide +kernel
theorem dX7_hour_29 : decode cX7_hour 29 = .ok (.getfield 119, 3) := by decide +kernel
theorem dX7_hour_32 : decode cX7_hour 32 = .ok (.iconst 1, 1) := by decide +kernel
theorem dX7_hour_33 : decode cX7_hour 33 = .ok (.iadd, 1) := by decide +kernel
theorem dX7_hour_34 : decode cX7_hour 34 = .ok (.putfield 119, 3) := by decide +kernel
theorem dX7_hour_37 : decode cX7_hour 37 = .ok (.aload_n 0, 1) := by decide +kernel
theorem dX7_hour_38 : decode cX7_hour 38 = .ok (.getfield 119, 3) := by decide +kernel
theorem dX7_hour_41 : decode cX7_hour 41 = .ok (.ireturn, 1) := by decide +kernel
theorem dX7_book_0 : decode cX7_book 0 = .ok (.aload_n 0, 1) := by decide +kernel
theorem dX7_book_1 : decode cX7_book 1 = .ok (.iload_n 1, 1) := by decide +kernel
theorem dX7_book_2 : decode cX7_book 2 = .ok (.invokevirtual 164, 3) := by decide +kernel
theorem dX7_book_5 : decode cX7_book 5 = .ok (.ifCond .ne 6, 3) := by decide +kernel
theorem dX7_book_8 : decode cX7_book 8 = .ok (.bipush (-101), 2) := by decide +kernel
theorem dX7_book_10 : decode cX7_book 10 = .ok (.ireturn, 1) := by decide +kernel
theorem dX7_book_11 : decode cX7_book 11 = .ok (.iload_n 2, 1) := by decide +kernel
theorem dX7_book_12 : decode cX7_book 12 = .ok (.iconst 0, 1) := by decide +kernel
theorem dX7_book_13 : decode cX7_book 13 = .ok (.bipush 9, 2) := by decide +kernel
theorem dX7_book_15 : decode cX7_book 15 = .ok (.invokestatic 77, 3) := by decide +kernel
theorem dX7_book_18 : decode cX7_book 18 = .ok (.ifCond .ne 6, 3) := by decide +kernel
theorem dX7_book_21 : decode cX7_book 21 = .ok (.bipush (-102), 2) := by decide +kernel
theorem dX7_book_23 : decode cX7_book 23 = .ok (.ireturn, 1) := by decide +kernel
theorem dX7_book_24 : decode cX7_book 24 = .ok (.aload_n 0, 1) := by decide +kernel
theorem dX7_book_25 : decode cX7_book 25 = .ok (.getfield 13, 3) := by decide +kernel
theorem dX7_book_28 : decode cX7_book 28 = .ok (.iload_n 1, 1) := by decide +kernel
theorem dX7_book_29 : decode cX7_book 29 = .ok (.iaload, 1) := by decide +kernel
theorem dX7_book_30 : decode cX7_book 30 = .ok (.istore_n 3, 1) := by decide +kernel
theorem dX7_book_31 : decode cX7_book 31 = .ok (.aload_n 0, 1) := by decide +kernel
theorem dX7_book_32 : decode cX7_book 32 = .ok (.getfield 13, 3) := by decide +kernel
theorem dX7_book_35 : decode cX7_book 35 = .ok (.iload_n 1, 1) := by decide +kernel
theorem dX7_book_36 : decode cX7_book 36 = .ok (.iload_n 2, 1) := by decide +kernel
theorem dX7_book_37 : decode cX7_book 37 = .ok (.iastore, 1) := by decide +kernel
theorem dX7_book_38 : decode cX7_book 38 = .ok (.iload_n 3, 1) := by decide +kernel
theorem dX7_book_39 : decode cX7_book 39 = .ok (.ireturn, 1) := by decide +kernel
theorem dX7_wish_0 : decode cX7_wish 0 = .ok (.aload_n 0, 1) := by decide +kernel
theorem dX7_wish_1 : decode cX7_wish 1 = .ok (.iload_n 1, 1) := by decide +kernel
theorem dX7_wish_2 : decode cX7_wish 2 = .ok (.invokevirtual 182, 3) := by decide +kernel
theorem dX7_wish_5 : decode cX7_wish 5 = .ok (.ifCond .ne 6, 3) := by decide +kernel
theorem dX7_wish_8 : decode cX7_wish 8 = .ok (.bipush (-101), 2) := by decide +kernel
theorem dX7_wish_10 : decode cX7_wish 10 = .ok (.ireturn, 1) := by decide +kernel
theorem dX7_wish_11 : decode cX7_wish 11 = .ok (.iload_n 2, 1) := by decide +kernel
theorem dX7_wish_12 : decode cX7_wish 12 = .ok (.iconst 0, 1) := by decide +kernel
theorem dX7_wish_13 : decode cX7_wish 13 = .ok (.bipush 9, 2) := by decide +kernel
theorem dX7_wish_15 : decode cX7_wish 15 = .ok (.invokestatic 77, 3) := by decide +kernel
theorem dX7_wish_18 : decode cX7_wish 18 = .ok (.ifCond .eq 12, 3) := by decide +kernel
theorem dX7_wish_21 : decode cX7_wish 21 = .ok (.iload_n 3, 1) := by decide +kernel
theorem dX7_wish_22 : decode cX7_wish 22 = .ok (.iconst 0, 1) := by decide +kernel
theorem dX7_wish_23 : decode cX7_wish 23 = .ok (.iconst 2, 1) := by decide +kernel
theorem dX7_wish_24 : decode cX7_wish 24 = .ok (.invokestatic 77, 3) := by decide +kernel
theorem dX7_wish_27 : decode cX7_wish 27 = .ok (.ifCond .ne 6, 3) := by decide +kernel
theorem dX7_wish_30 : decode cX7_wish 30 = .ok (.bipush (-102), 2) := by decide +kernel
theorem dX7_wish_32 : decode cX7_wish 32 = .ok (.ireturn, 1) := by decide +kernel
theorem dX7_wish_33 : decode cX7_wish 33 = .ok (.aload_n 0, 1) := by decide +kernel
theorem dX7_wish_34 : decode cX7_wish 34 = .ok (.getfield 25, 3) := by decide +kernel
theorem dX7_wish_37 : decode cX7_wish 37 = .ok (.iload_n 1, 1) := by decide +kernel
theorem dX7_wish_38 : decode cX7_wish 38 = .ok (.iaload, 1) := by decide +kernel
theorem dX7_wish_39 : decode cX7_wish 39 = .ok (.istore 4, 2) := by decide +kernel
theorem dX7_wish_41 : decode cX7_wish 41 = .ok (.aload_n 0, 1) := by decide +kernel
theorem dX7_wish_42 : decode cX7_wish 42 = .ok (.getfield 22, 3) := by decide +kernel
theorem dX7_wish_45 : decode cX7_wish 45 = .ok (.iload_n 1, 1) := by decide +kernel
theorem dX7_wish_46 : decode cX7_wish 46 = .ok (.iload_n 2, 1) := by decide +kernel
theorem dX7_wish_47 : decode cX7_wish 47 = .ok (.iastore, 1) := by decide +kernel
theorem dX7_wish_48 : decode cX7_wish 48 = .ok (.aload_n 0, 1) := by decide +kernel
theorem dX7_wish_49 : decode cX7_wish 49 = .ok (.getfield 25, 3) := by decide +kernel
theorem dX7_wish_52 : decode cX7_wish 52 = .ok (.iload_n 1, 1) := by decide +kernel
theorem dX7_wish_53 : decode cX7_wish 53 = .ok (.iload_n 3, 1) := by decide +kernel
theorem dX7_wish_54 : decode cX7_wish 54 = .ok (.iastore, 1) := by decide +kernel
theorem dX7_wish_55 : decode cX7_wish 55 = .ok (.iload 4, 2) := by decide +kernel
theorem dX7_wish_57 : decode cX7_wish 57 = .ok (.ireturn, 1) := by decide +kernel
theorem dX7_mood_0 : decode cX7_mood 0 = .ok (.aload_n 0, 1) := by decide +kernel
theorem dX7_mood_1 : decode cX7_mood 1 = .ok (.iload_n 1, 1) := by decide +kernel
theorem dX7_mood_2 : decode cX7_mood 2 = .ok (.invokevirtual 182, 3) := by decide +kernel
theorem dX7_mood_5 : decode cX7_mood 5 = .ok (.ifCond .ne 6, 3) := by decide +kernel
theorem dX7_mood_8 : decode cX7_mood 8 = .ok (.bipush (-101), 2) := by decide +kernel
theorem dX7_mood_10 : decode cX7_mood 10 = .ok (.ireturn, 1) := by decide +kernel
theorem dX7_mood_11 : decode cX7_mood 11 = .ok (.iload_n 2, 1) := by decide +kernel
theorem dX7_mood_12 : decode cX7_mood 12 = .ok (.iconst 0, 1) := by decide +kernel
theorem dX7_mood_13 : decode cX7_mood 13 = .ok (.bipush 40, 2) := by decide +kernel
theorem dX7_mood_15 : decode cX7_mood 15 = .ok (.invokestatic 77, 3) := by decide +kernel
theorem dX7_mood_18 : decode cX7_mood 18 = .ok (.ifCond .eq 17, 3) := by decide +kernel
theorem dX7_mood_21 : decode cX7_mood 21 = .ok (.aload_n 0, 1) := by decide +kernel
theorem dX7_mood_22 : decode cX7_mood 22 = .ok (.iload_n 1, 1) := by decide +kernel
theorem dX7_mood_23 : decode cX7_mood 23 = .ok (.aload_n 0, 1) := by decide +kernel
theorem dX7_mood_24 : decode cX7_mood 24 = .ok (.iload_n 1, 1) := by decide +kernel
theorem dX7_mood_25 : decode cX7_mood 25 = .ok (.invokevirtual 146, 3) := by decide +kernel
theorem dX7_mood_28 : decode cX7_mood 28 = .ok (.iload_n 2, 1) := by decide +kernel
theorem dX7_mood_29 : decode cX7_mood 29 = .ok (.invokevirtual 149, 3) := by decide +kernel
theorem dX7_mood_32 : decode cX7_mood 32 = .ok (.goto 5, 3) := by decide +kernel
theorem dX7_mood_35 : decode cX7_mood 35 = .ok (.bipush (-102), 2) := by decide +kernel
theorem dX7_mood_37 : decode cX7_mood 37 = .ok (.ireturn, 1) := by decide +kernel
theorem dX7_begin_0 : decode cX7_begin 0 = .ok (.iconst 0, 1) := by decide +kernel
theorem dX7_begin_1 : decode cX7_begin 1 = .ok (.istore_n 1, 1) := by decide +kernel
theorem dX7_begin_2 : decode cX7_begin 2 = .ok (.iload_n 1, 1) := by decide +kernel
theorem dX7_begin_3 : decode cX7_begin 3 = .ok (.bipush 6, 2) := by decide +kernel
theorem dX7_begin_5 : decode cX7_begin 5 = .ok (.if_icmp .ge 23, 3) := by decide +kernel
theorem dX7_begin_8 : decode cX7_begin 8 = .ok (.aload_n 0, 1) := by decide +kernel
theorem dX7_begin_9 : decode cX7_begin 9 = .ok (.getfield 41, 3) := by decide +kernel
theorem dX7_begin_12 : decode cX7_begin 12 = .ok (.iload_n 1, 1) := by decide +kernel
theorem dX7_begin_13 : decode cX7_begin 13 = .ok (.iconst 0, 1) := by decide +kernel
theorem dX7_begin_14 : decode cX7_begin 14 = .ok (.iastore, 1) := by decide +kernel
theorem dX7_begin_15 : decode cX7_begin 15 = .ok (.aload_n 0, 1) := by decide +kernel
theorem dX7_begin_16 : decode cX7_begin 16 = .ok (.getfield 44, 3) := by decide +kernel
theorem dX7_begin_19 : decode cX7_begin 19 = .ok (.iload_n 1, 1) := by decide +kernel
theorem dX7_begin_20 : decode cX7_begin 20 = .ok (.iconst (-1), 1) := by decide +kernel
theorem dX7_begin_21 : decode cX7_begin 21 = .ok (.iastore, 1) := by decide +kernel
theorem dX7_begin_22 : decode cX7_begin 22 = .ok (.iinc 1 1, 3) := by decide +kernel
theorem dX7_begin_25 : decode cX7_begin 25 = .ok (.goto (-23), 3) := by decide +kernel
theorem dX7_begin_28 : decode cX7_begin 28 = .ok (.return_, 1) := by decide +kernel
theorem dX7_keepRow_0 : decode cX7_keepRow 0 = .ok (.iconst 0, 1) := by decide +kernel
theorem dX7_keepRow_1 : decode cX7_keepRow 1 = .ok (.istore_n 2, 1) := by decide +kernel
theorem dX7_keepRow_2 : decode cX7_keepRow 2 = .ok (.iload_n 2, 1) := by decide +kernel
theorem dX7_keepRow_3 : decode cX7_keepRow 3 = .ok (.aload_n 0, 1) := by decide +kernel
theorem dX7_keepRow_4 : decode cX7_keepRow 4 = .ok (.getfield 113, 3) := by decide +kernel
theorem dX7_keepRow_7 : decode cX7_keepRow 7 = .ok (.if_icmp .ge 23, 3) := by decide +kernel
theorem dX7_keepRow_10 : decode cX7_keepRow 10 = .ok (.aload_n 0, 1) := by decide +kernel
theorem dX7_keepRow_11 : decode cX7_keepRow 11 = .ok (.getfield 44, 3) := by decide +kernel
theorem dX7_keepRow_14 : decode cX7_keepRow 14 = .ok (.iload_n 2, 1) := by decide +kernel
theorem dX7_keepRow_15 : decode cX7_keepRow 15 = .ok (.aload_n 0, 1) := by decide +kernel
theorem dX7_keepRow_16 : decode cX7_keepRow 16 = .ok (.getfield 41, 3) := by decide +kernel
theorem dX7_keepRow_19 : decode cX7_keepRow 19 = .ok (.iload_n 2, 1) := by decide +kernel
theorem dX7_keepRow_20 : decode cX7_keepRow 20 = .ok (.iaload, 1) := by decide +kernel
theorem dX7_keepRow_21 : decode cX7_keepRow 21 = .ok (.iload_n 1, 1) := by decide +kernel
theorem dX7_keepRow_22 : decode cX7_keepRow 22 = .ok (.isub, 1) := by decide +kernel
theorem dX7_keepRow_23 : decode cX7_keepRow 23 = .ok (.iastore, 1) := by decide +kernel
theorem dX7_keepRow_24 : decode cX7_keepRow 24 = .ok (.iinc 2 1, 3) := by decide +kernel
theorem dX7_keepRow_27 : decode cX7_keepRow 27 = .ok (.goto (-25), 3) := by decide +kernel
theorem dX7_keepRow_30 : decode cX7_keepRow 30 = .ok (.return_, 1) := by decide +kernel
theorem dX7_givenTo_0 : decode cX7_givenTo 0 = .ok (.iconst 0, 1) := by decide +kernel
theorem dX7_givenTo_1 : decode cX7_givenTo 1 = .ok (.istore_n 2, 1) := by decide +kernel
theorem dX7_givenTo_2 : decode cX7_givenTo 2 = .ok (.iconst 0, 1) := by decide +kernel
theorem dX7_givenTo_3 : decode cX7_givenTo 3 = .ok (.istore_n 3, 1) := by decide +kernel
theorem dX7_givenTo_4 : decode cX7_givenTo 4 = .ok (.iload_n 3, 1) := by decide +kernel
theorem dX7_givenTo_5 : decode cX7_givenTo 5 = .ok (.aload_n 0, 1) := by decide +kernel
theorem dX7_givenTo_6 : decode cX7_givenTo 6 = .ok (.getfield 113, 3) := by decide +kernel
theorem dX7_givenTo_9 : decode cX7_givenTo 9 = .ok (.if_icmp .ge 31, 3) := by decide +kernel
theorem dX7_givenTo_12 : decode cX7_givenTo 12 = .ok (.iload_n 2, 1) := by decide +kernel
theorem dX7_givenTo_13 : decode cX7_givenTo 13 = .ok (.aload_n 0, 1) := by decide +kernel
theorem dX7_givenTo_14 : decode cX7_givenTo 14 = .ok (.getfield 41, 3) := by decide +kernel
theorem dX7_givenTo_17 : decode cX7_givenTo 17 = .ok (.iload_n 3, 1) := by decide +kernel
theorem dX7_givenTo_18 : decode cX7_givenTo 18 = .ok (.iaload, 1) := by decide +kernel
theorem dX7_givenTo_19 : decode cX7_givenTo 19 = .ok (.iload_n 1, 1) := by decide +kernel
theorem dX7_givenTo_20 : decode cX7_givenTo 20 = .ok (.iconst 1, 1) := by decide +kernel
theorem dX7_givenTo_21 : decode cX7_givenTo 21 = .ok (.iadd, 1) := by decide +kernel
theorem dX7_givenTo_22 : decode cX7_givenTo 22 = .ok (.if_icmp .ne 9, 3) := by decide +kernel
theorem dX7_givenTo_25 : decode cX7_givenTo 25 = .ok (.iconst 1, 1) := by decide +kernel
theorem dX7_givenTo_26 : decode cX7_givenTo 26 = .ok (.iload_n 3, 1) := by decide +kernel
theorem dX7_givenTo_27 : decode cX7_givenTo 27 = .ok (.ishl, 1) := by decide +kernel
theorem dX7_givenTo_28 : decode cX7_givenTo 28 = .ok (.goto 4, 3) := by decide +kernel
theorem dX7_givenTo_31 : decode cX7_givenTo 31 = .ok (.iconst 0, 1) := by decide +kernel
theorem dX7_givenTo_32 : decode cX7_givenTo 32 = .ok (.ior, 1) := by decide +kernel
theorem dX7_givenTo_33 : decode cX7_givenTo 33 = .ok (.istore_n 2, 1) := by decide +kernel
theorem dX7_givenTo_34 : decode cX7_givenTo 34 = .ok (.iinc 3 1, 3) := by decide +kernel
theorem dX7_givenTo_37 : decode cX7_givenTo 37 = .ok (.goto (-33), 3) := by decide +kernel
theorem dX7_givenTo_40 : decode cX7_givenTo 40 = .ok (.iload_n 2, 1) := by decide +kernel
theorem dX7_givenTo_41 : decode cX7_givenTo 41 = .ok (.ireturn, 1) := by decide +kernel
theorem dX7_wishedBy_0 : decode cX7_wishedBy 0 = .ok (.iconst 0, 1) := by decide +kernel
theorem dX7_wishedBy_1 : decode cX7_wishedBy 1 = .ok (.istore_n 1, 1) := by decide +kernel
theorem dX7_wishedBy_2 : decode cX7_wishedBy 2 = .ok (.iconst 0, 1) := by decide +kernel
theorem dX7_wishedBy_3 : decode cX7_wishedBy 3 = .ok (.istore_n 2, 1) := by decide +kernel
theorem dX7_wishedBy_4 : decode cX7_wishedBy 4 = .ok (.iload_n 2, 1) := by decide +kernel
theorem dX7_wishedBy_5 : decode cX7_wishedBy 5 = .ok (.aload_n 0, 1) := by decide +kernel
theorem dX7_wishedBy_6 : decode cX7_wishedBy 6 = .ok (.getfield 116, 3) := by decide +kernel
theorem dX7_wishedBy_9 : decode cX7_wishedBy 9 = .ok (.if_icmp .ge 48, 3) := by decide +kernel
theorem dX7_wishedBy_12 : decode cX7_wishedBy 12 = .ok (.aload_n 0, 1) := by decide +kernel
theorem dX7_wishedBy_13 : decode cX7_wishedBy 13 = .ok (.iload_n 2, 1) := by decide +kernel
theorem dX7_wishedBy_14 : decode cX7_wishedBy 14 = .ok (.invokevirtual 191, 3) := by decide +kernel
theorem dX7_wishedBy_17 : decode cX7_wishedBy 17 = .ok (.istore_n 3, 1) := by decide +kernel
theorem dX7_wishedBy_18 : decode cX7_wishedBy 18 = .ok (.iload_n 3, 1) := by decide +kernel
theorem dX7_wishedBy_19 : decode cX7_wishedBy 19 = .ok (.invokestatic 194, 3) := by decide +kernel
theorem dX7_wishedBy_22 : decode cX7_wishedBy 22 = .ok (.iconst 2, 1) := by decide +kernel
theorem dX7_wishedBy_23 : decode cX7_wishedBy 23 = .ok (.if_icmp .le 5, 3) := by decide +kernel
theorem dX7_wishedBy_26 : decode cX7_wishedBy 26 = .ok (.iconst (-1), 1) := by decide +kernel
theorem dX7_wishedBy_27 : decode cX7_wishedBy 27 = .ok (.ireturn, 1) := by decide +kernel
theorem dX7_wishedBy_28 : decode cX7_wishedBy 28 = .ok (.iload_n 1, 1) := by decide +kernel
theorem dX7_wishedBy_29 : decode cX7_wishedBy 29 = .ok (.aload_n 0, 1) := by decide +kernel
theorem dX7_wishedBy_30 : decode cX7_wishedBy 30 = .ok (.iload_n 2, 1) := by decide +kernel
theorem dX7_wishedBy_31 : decode cX7_wishedBy 31 = .ok (.aload_n 0, 1) := by decide +kernel
theorem dX7_wishedBy_32 : decode cX7_wishedBy 32 = .ok (.iload_n 2, 1) := by decide +kernel
theorem dX7_wishedBy_33 : decode cX7_wishedBy 33 = .ok (.iload_n 3, 1) := by decide +kernel
theorem dX7_wishedBy_34 : decode cX7_wishedBy 34 = .ok (.iconst 0, 1) := by decide +kernel
theorem dX7_wishedBy_35 : decode cX7_wishedBy 35 = .ok (.invokevirtual 149, 3) := by decide +kernel
theorem dX7_wishedBy_38 : decode cX7_wishedBy 38 = .ok (.invokevirtual 176, 3) := by decide +kernel
theorem dX7_wishedBy_41 : decode cX7_wishedBy 41 = .ok (.ifCond .eq 7, 3) := by decide +kernel
theorem dX7_wishedBy_44 : decode cX7_wishedBy 44 = .ok (.iconst 1, 1) := by decide +kernel
theorem dX7_wishedBy_45 : decode cX7_wishedBy 45 = .ok (.goto 4, 3) := by decide +kernel
theorem dX7_wishedBy_48 : decode cX7_wishedBy 48 = .ok (.iconst 0, 1) := by decide +kernel
theorem dX7_wishedBy_49 : decode cX7_wishedBy 49 = .ok (.iadd, 1) := by decide +kernel
theorem dX7_wishedBy_50 : decode cX7_wishedBy 50 = .ok (.istore_n 1, 1) := by decide +kernel
theorem dX7_wishedBy_51 : decode cX7_wishedBy 51 = .ok (.iinc 2 1, 3) := by decide +kernel
theorem dX7_wishedBy_54 : decode cX7_wishedBy 54 = .ok (.goto (-50), 3) := by decide +kernel
theorem dX7_wishedBy_57 : decode cX7_wishedBy 57 = .ok (.iload_n 1, 1) := by decide +kernel
theorem dX7_wishedBy_58 : decode cX7_wishedBy 58 = .ok (.ireturn, 1) := by decide +kernel
theorem dX7_given_0 : decode cX7_given 0 = .ok (.iconst 0, 1) := by decide +kernel
theorem dX7_given_1 : decode cX7_given 1 = .ok (.istore_n 1, 1) := by decide +kernel
theorem dX7_given_2 : decode cX7_given 2 = .ok (.iconst 0, 1) := by decide +kernel
theorem dX7_given_3 : decode cX7_given 3 = .ok (.istore_n 2, 1) := by decide +kernel
theorem dX7_given_4 : decode cX7_given 4 = .ok (.iload_n 2, 1) := by decide +kernel
theorem dX7_given_5 : decode cX7_given 5 = .ok (.aload_n 0, 1) := by decide +kernel
theorem dX7_given_6 : decode cX7_given 6 = .ok (.getfield 113, 3) := by decide +kernel
theorem dX7_given_9 : decode cX7_given 9 = .ok (.if_icmp .ge 26, 3) := by decide +kernel
theorem dX7_given_12 : decode cX7_given 12 = .ok (.iload_n 1, 1) := by decide +kernel
theorem dX7_given_13 : decode cX7_given 13 = .ok (.aload_n 0, 1) := by decide +kernel
theorem dX7_given_14 : decode cX7_given 14 = .ok (.getfield 41, 3) := by decide +kernel
theorem dX7_given_17 : decode cX7_given 17 = .ok (.iload_n 2, 1) := by decide +kernel
theorem dX7_given_18 : decode cX7_given 18 = .ok (.iaload, 1) := by decide +kernel
theorem dX7_given_19 : decode cX7_given 19 = .ok (.ifCond .le 7, 3) := by decide +kernel
theorem dX7_given_22 : decode cX7_given 22 = .ok (.iconst 1, 1) := by decide +kernel
theorem dX7_given_23 : decode cX7_given 23 = .ok (.goto 4, 3) := by decide +kernel
theorem dX7_given_26 : decode cX7_given 26 = .ok (.iconst 0, 1) := by decide +kernel
theorem dX7_given_27 : decode cX7_given 27 = .ok (.iadd, 1) := by decide +kernel
theorem dX7_given_28 : decode cX7_given 28 = .ok (.istore_n 1, 1) := by decide +kernel
theorem dX7_given_29 : decode cX7_given 29 = .ok (.iinc 2 1, 3) := by decide +kernel
theorem dX7_given_32 : decode cX7_given 32 = .ok (.goto (-28), 3) := by decide +kernel
theorem dX7_given_35 : decode cX7_given 35 = .ok (.iload_n 1, 1) := by decide +kernel
theorem dX7_given_36 : decode cX7_given 36 = .ok (.ireturn, 1) := by decide +kernel
theorem dX7_nextGiven_0 : decode cX7_nextGiven 0 = .ok (.aload_n 0, 1) := by decide +kernel
theorem dX7_nextGiven_1 : decode cX7_nextGiven 1 = .ok (.getfield 113, 3) := by decide +kernel
theorem dX7_nextGiven_4 : decode cX7_nextGiven 4 = .ok (.iconst 1, 1) := by decide +kernel
theorem dX7_nextGiven_5 : decode cX7_nextGiven 5 = .ok (.isub, 1) := by decide +kernel
theorem dX7_nextGiven_6 : decode cX7_nextGiven 6 = .ok (.istore_n 1, 1) := by decide +kernel
theorem dX7_nextGiven_7 : decode cX7_nextGiven 7 = .ok (.iload_n 1, 1) := by decide +kernel
theorem dX7_nextGiven_8 : decode cX7_nextGiven 8 = .ok (.ifCond .lt 29, 3) := by decide +kernel
theorem dX7_nextGiven_11 : decode cX7_nextGiven 11 = .ok (.aload_n 0, 1) := by decide +kernel
theorem dX7_nextGiven_12 : decode cX7_nextGiven 12 = .ok (.getfield 41, 3) := by decide +kernel
theorem dX7_nextGiven_15 : decode cX7_nextGiven 15 = .ok (.iload_n 1, 1) := by decide +kernel
theorem dX7_nextGiven_16 : decode cX7_nextGiven 16 = .ok (.iaload, 1) := by decide +kernel
theorem dX7_nextGiven_17 : decode cX7_nextGiven 17 = .ok (.aload_n 0, 1) := by decide +kernel
theorem dX7_nextGiven_18 : decode cX7_nextGiven 18 = .ok (.getfield 116, 3) := by decide +kernel
theorem dX7_nextGiven_21 : decode cX7_nextGiven 21 = .ok (.if_icmp .ne 16, 3) := by decide +kernel
theorem dX7_nextGiven_24 : decode cX7_nextGiven 24 = .ok (.aload_n 0, 1) := by decide +kernel
theorem dX7_nextGiven_25 : decode cX7_nextGiven 25 = .ok (.getfield 41, 3) := by decide +kernel
theorem dX7_nextGiven_28 : decode cX7_nextGiven 28 = .ok (.iload_n 1, 1) := by decide +kernel
theorem dX7_nextGiven_29 : decode cX7_nextGiven 29 = .ok (.iconst 0, 1) := by decide +kernel
theorem dX7_nextGiven_30 : decode cX7_nextGiven 30 = .ok (.iastore, 1) := by decide +kernel
theorem dX7_nextGiven_31 : decode cX7_nextGiven 31 = .ok (.iinc 1 (-1), 3) := by decide +kernel
theorem dX7_nextGiven_34 : decode cX7_nextGiven 34 = .ok (.goto (-27), 3) := by decide +kernel
theorem dX7_nextGiven_37 : decode cX7_nextGiven 37 = .ok (.iload_n 1, 1) := by decide +kernel
theorem dX7_nextGiven_38 : decode cX7_nextGiven 38 = .ok (.ifCond .ge 5, 3) := by decide +kernel
theorem dX7_nextGiven_41 : decode cX7_nextGiven 41 = .ok (.iconst 0, 1) := by decide +kernel
theorem dX7_nextGiven_42 : decode cX7_nextGiven 42 = .ok (.ireturn, 1) := by decide +kernel
theorem dX7_nextGiven_43 : decode cX7_nextGiven 43 = .ok (.aload_n 0, 1) := by decide +kernel
theorem dX7_nextGiven_44 : decode cX7_nextGiven 44 = .ok (.getfield 41, 3) := by decide +kernel
theorem dX7_nextGiven_47 : decode cX7_nextGiven 47 = .ok (.iload_n 1, 1) := by decide +kernel
theorem dX7_nextGiven_48 : decode cX7_nextGiven 48 = .ok (.dup2, 1) := by decide +kernel
theorem dX7_nextGiven_49 : decode cX7_nextGiven 49 = .ok (.iaload, 1) := by decide +kernel
theorem dX7_nextGiven_50 : decode cX7_nextGiven 50 = .ok (.iconst 1, 1) := by decide +kernel
theorem dX7_nextGiven_51 : decode cX7_nextGiven 51 = .ok (.iadd, 1) := by decide +kernel
theorem dX7_nextGiven_52 : decode cX7_nextGiven 52 = .ok (.iastore, 1) := by decide +kernel
theorem dX7_nextGiven_53 : decode cX7_nextGiven 53 = .ok (.iconst 1, 1) := by decide +kernel
theorem dX7_nextGiven_54 : decode cX7_nextGiven 54 = .ok (.ireturn, 1) := by decide +kernel
theorem dX7_dressNow_0 : decode cX7_dressNow 0 = .ok (.aload_n 0, 1) := by decide +kernel
theorem dX7_dressNow_1 : decode cX7_dressNow 1 = .ok (.invokevirtual 197, 3) := by decide +kernel
theorem dX7_dressNow_4 : decode cX7_dressNow 4 = .ok (.iconst (-1), 1) := by decide +kernel
theorem dX7_dressNow_5 : decode cX7_dressNow 5 = .ok (.istore_n 2, 1) := by decide +kernel
theorem dX7_dressNow_6 : decode cX7_dressNow 6 = .ok (.ldc 200, 2) := by decide +kernel
theorem dX7_dressNow_8 : decode cX7_dressNow 8 = .ok (.istore_n 3, 1) := by decide +kernel
theorem dX7_dressNow_9 : decode cX7_dressNow 9 = .ok (.iconst 1, 1) := by decide +kernel
theorem dX7_dressNow_10 : decode cX7_dressNow 10 = .ok (.istore 4, 2) := by decide +kernel
theorem dX7_dressNow_12 : decode cX7_dressNow 12 = .ok (.iload 4, 2) := by decide +kernel
theorem dX7_dressNow_14 : decode cX7_dressNow 14 = .ok (.ifCond .eq 51, 3) := by decide +kernel
theorem dX7_dressNow_17 : decode cX7_dressNow 17 = .ok (.aload_n 0, 1) := by decide +kernel
theorem dX7_dressNow_18 : decode cX7_dressNow 18 = .ok (.invokevirtual 201, 3) := by decide +kernel
theorem dX7_dressNow_21 : decode cX7_dressNow 21 = .ok (.istore 5, 2) := by decide +kernel
theorem dX7_dressNow_23 : decode cX7_dressNow 23 = .ok (.iload 5, 2) := by decide +kernel
theorem dX7_dressNow_25 : decode cX7_dressNow 25 = .ok (.iload_n 2, 1) := by decide +kernel
theorem dX7_dressNow_26 : decode cX7_dressNow 26 = .ok (.if_icmp .gt 17, 3) := by decide +kernel
theorem dX7_dressNow_29 : decode cX7_dressNow 29 = .ok (.iload 5, 2) := by decide +kernel
theorem dX7_dressNow_31 : decode cX7_dressNow 31 = .ok (.iload_n 2, 1) := by decide +kernel
theorem dX7_dressNow_32 : decode cX7_dressNow 32 = .ok (.if_icmp .ne 24, 3) := by decide +kernel
theorem dX7_dressNow_35 : decode cX7_dressNow 35 = .ok (.aload_n 0, 1) := by decide +kernel
theorem dX7_dressNow_36 : decode cX7_dressNow 36 = .ok (.invokevirtual 204, 3) := by decide +kernel
theorem dX7_dressNow_39 : decode cX7_dressNow 39 = .ok (.iload_n 3, 1) := by decide +kernel
theorem dX7_dressNow_40 : decode cX7_dressNow 40 = .ok (.if_icmp .ge 16, 3) := by decide +kernel
theorem dX7_dressNow_43 : decode cX7_dressNow 43 = .ok (.iload 5, 2) := by decide +kernel
theorem dX7_dressNow_45 : decode cX7_dressNow 45 = .ok (.istore_n 2, 1) := by decide +kernel
theorem dX7_dressNow_46 : decode cX7_dressNow 46 = .ok (.aload_n 0, 1) := by decide +kernel
theorem dX7_dressNow_47 : decode cX7_dressNow 47 = .ok (.invokevirtual 204, 3) := by decide +kernel
theorem dX7_dressNow_50 : decode cX7_dressNow 50 = .ok (.istore_n 3, 1) := by decide +kernel
theorem dX7_dressNow_51 : decode cX7_dressNow 51 = .ok (.aload_n 0, 1) := by decide +kernel
theorem dX7_dressNow_52 : decode cX7_dressNow 52 = .ok (.iconst 1, 1) := by decide +kernel
theorem dX7_dressNow_53 : decode cX7_dressNow 53 = .ok (.invokevirtual 207, 3) := by decide +kernel
theorem dX7_dressNow_56 : decode cX7_dressNow 56 = .ok (.aload_n 0, 1) := by decide +kernel
theorem dX7_dressNow_57 : decode cX7_dressNow 57 = .ok (.invokevirtual 211, 3) := by decide +kernel
theorem dX7_dressNow_60 : decode cX7_dressNow 60 = .ok (.istore 4, 2) := by decide +kernel
theorem dX7_dressNow_62 : decode cX7_dressNow 62 = .ok (.goto (-50), 3) := by decide +kernel
theorem dX7_dressNow_65 : decode cX7_dressNow 65 = .ok (.iload_n 1, 1) := by decide +kernel
theorem dX7_dressNow_66 : decode cX7_dressNow 66 = .ok (.ifCond .ne 7, 3) := by decide +kernel
theorem dX7_dressNow_69 : decode cX7_dressNow 69 = .ok (.iload_n 2, 1) := by decide +kernel
theorem dX7_dressNow_70 : decode cX7_dressNow 70 = .ok (.goto 21, 3) := by decide +kernel
theorem dX7_dressNow_73 : decode cX7_dressNow 73 = .ok (.iload_n 1, 1) := by decide +kernel
theorem dX7_dressNow_74 : decode cX7_dressNow 74 = .ok (.iconst 1, 1) := by decide +kernel
theorem dX7_dressNow_75 : decode cX7_dressNow 75 = .ok (.if_icmp .ne 7, 3) := by decide +kernel
theorem dX7_dressNow_78 : decode cX7_dressNow 78 = .ok (.iload_n 3, 1) := by decide +kernel
theorem dX7_dressNow_79 : decode cX7_dressNow 79 = .ok (.goto 12, 3) := by decide +kernel
theorem dX7_dressNow_82 : decode cX7_dressNow 82 = .ok (.aload_n 0, 1) := by decide +kernel
theorem dX7_dressNow_83 : decode cX7_dressNow 83 = .ok (.getfield 44, 3) := by decide +kernel
theorem dX7_dressNow_86 : decode cX7_dressNow 86 = .ok (.iload_n 1, 1) := by decide +kernel
theorem dX7_dressNow_87 : decode cX7_dressNow 87 = .ok (.bipush 10, 2) := by decide +kernel
theorem dX7_dressNow_89 : decode cX7_dressNow 89 = .ok (.isub, 1) := by decide +kernel
theorem dX7_dressNow_90 : decode cX7_dressNow 90 = .ok (.iaload, 1) := by decide +kernel
theorem dX7_dressNow_91 : decode cX7_dressNow 91 = .ok (.ireturn, 1) := by decide +kernel
theorem dX7_dress_0 : decode cX7_dress 0 = .ok (.iload_n 1, 1) := by decide +kernel
theorem dX7_dress_1 : decode cX7_dress 1 = .ok (.iconst 0, 1) := by decide +kernel
theorem dX7_dress_2 : decode cX7_dress 2 = .ok (.iconst 1, 1) := by decide +kernel
theorem dX7_dress_3 : decode cX7_dress 3 = .ok (.invokestatic 77, 3) := by decide +kernel
theorem dX7_dress_6 : decode cX7_dress 6 = .ok (.ifCond .ne 17, 3) := by decide +kernel
theorem dX7_dress_9 : decode cX7_dress 9 = .ok (.iload_n 1, 1) := by decide +kernel
theorem dX7_dress_10 : decode cX7_dress 10 = .ok (.bipush 10, 2) := by decide +kernel
theorem dX7_dress_12 : decode cX7_dress 12 = .ok (.bipush 15, 2) := by decide +kernel
theorem dX7_dress_14 : decode cX7_dress 14 = .ok (.invokestatic 77, 3) := by decide +kernel
theorem dX7_dress_17 : decode cX7_dress 17 = .ok (.ifCond .ne 6, 3) := by decide +kernel
theorem dX7_dress_20 : decode cX7_dress 20 = .ok (.bipush (-102), 2) := by decide +kernel
theorem dX7_dress_22 : decode cX7_dress 22 = .ok (.ireturn, 1) := by decide +kernel
theorem dX7_dress_23 : decode cX7_dress 23 = .ok (.aload_n 0, 1) := by decide +kernel
theorem dX7_dress_24 : decode cX7_dress 24 = .ok (.getfield 113, 3) := by decide +kernel
theorem dX7_dress_27 : decode cX7_dress 27 = .ok (.ifCond .eq 12, 3) := by decide +kernel
theorem dX7_dress_30 : decode cX7_dress 30 = .ok (.aload_n 0, 1) := by decide +kernel
theorem dX7_dress_31 : decode cX7_dress 31 = .ok (.getfield 215, 3) := by decide +kernel
theorem dX7_dress_34 : decode cX7_dress 34 = .ok (.bipush 20, 2) := by decide +kernel
theorem dX7_dress_36 : decode cX7_dress 36 = .ok (.if_icmp .ne 6, 3) := by decide +kernel
theorem dX7_dress_39 : decode cX7_dress 39 = .ok (.bipush (-103), 2) := by decide +kernel
theorem dX7_dress_41 : decode cX7_dress 41 = .ok (.ireturn, 1) := by decide +kernel
theorem dX7_dress_42 : decode cX7_dress 42 = .ok (.aload_n 0, 1) := by decide +kernel
theorem dX7_dress_43 : decode cX7_dress 43 = .ok (.dup, 1) := by decide +kernel
theorem dX7_dress_44 : decode cX7_dress 44 = .ok (.getfield 215, 3) := by decide +kernel
theorem dX7_dress_47 : decode cX7_dress 47 = .ok (.iconst 1, 1) := by decide +kernel
theorem dX7_dress_48 : decode cX7_dress 48 = .ok (.iadd, 1) := by decide +kernel
theorem dX7_dress_49 : decode cX7_dress 49 = .ok (.putfield 215, 3) := by decide +kernel
theorem dX7_dress_52 : decode cX7_dress 52 = .ok (.aload_n 0, 1) := by decide +kernel
theorem dX7_dress_53 : decode cX7_dress 53 = .ok (.iload_n 1, 1) := by decide +kernel
theorem dX7_dress_54 : decode cX7_dress 54 = .ok (.invokevirtual 218, 3) := by decide +kernel
theorem dX7_dress_57 : decode cX7_dress 57 = .ok (.ireturn, 1) := by decide +kernel
theorem dX7_boxesAhead_0 : decode cX7_boxesAhead 0 = .ok (.iconst 0, 1) := by decide +kernel
theorem dX7_boxesAhead_1 : decode cX7_boxesAhead 1 = .ok (.istore_n 2, 1) := by decide +kernel
theorem dX7_boxesAhead_2 : decode cX7_boxesAhead 2 = .ok (.iconst 0, 1) := by decide +kernel
theorem dX7_boxesAhead_3 : decode cX7_boxesAhead 3 = .ok (.istore_n 3, 1) := by decide +kernel
theorem dX7_boxesAhead_4 : decode cX7_boxesAhead 4 = .ok (.iload_n 3, 1) := by decide +kernel
theorem dX7_boxesAhead_5 : decode cX7_boxesAhead 5 = .ok (.iload_n 1, 1) := by decide +kernel
theorem dX7_boxesAhead_6 : decode cX7_boxesAhead 6 = .ok (.if_icmp .ge 34, 3) := by decide +kernel
theorem dX7_boxesAhead_9 : decode cX7_boxesAhead 9 = .ok (.aload_n 0, 1) := by decide +kernel
theorem dX7_boxesAhead_10 : decode cX7_boxesAhead 10 = .ok (.getfield 41, 3) := by decide +kernel
theorem dX7_boxesAhead_13 : decode cX7_boxesAhead 13 = .ok (.iload_n 3, 1) := by decide +kernel
theorem dX7_boxesAhead_14 : decode cX7_boxesAhead 14 = .ok (.iaload, 1) := by decide +kernel
theorem dX7_boxesAhead_15 : decode cX7_boxesAhead 15 = .ok (.iconst 1, 1) := by decide +kernel
theorem dX7_boxesAhead_16 : decode cX7_boxesAhead 16 = .ok (.iadd, 1) := by decide +kernel
theorem dX7_boxesAhead_17 : decode cX7_boxesAhead 17 = .ok (.iload_n 2, 1) := by decide +kernel
theorem dX7_boxesAhead_18 : decode cX7_boxesAhead 18 = .ok (.if_icmp .le 14, 3) := by decide +kernel
theorem dX7_boxesAhead_21 : decode cX7_boxesAhead 21 = .ok (.aload_n 0, 1) := by decide +kernel
theorem dX7_boxesAhead_22 : decode cX7_boxesAhead 22 = .ok (.getfield 41, 3) := by decide +kernel
theorem dX7_boxesAhead_25 : decode cX7_boxesAhead 25 = .ok (.iload_n 3, 1) := by decide +kernel
theorem dX7_boxesAhead_26 : decode cX7_boxesAhead 26 = .ok (.iaload, 1) := by decide +kernel
theorem dX7_boxesAhead_27 : decode cX7_boxesAhead 27 = .ok (.iconst 1, 1) := by decide +kernel
theorem dX7_boxesAhead_28 : decode cX7_boxesAhead 28 = .ok (.iadd, 1) := by decide +kernel
theorem dX7_boxesAhead_29 : decode cX7_boxesAhead 29 = .ok (.goto 4, 3) := by decide +kernel
theorem dX7_boxesAhead_32 : decode cX7_boxesAhead 32 = .ok (.iload_n 2, 1) := by decide +kernel
theorem dX7_boxesAhead_33 : decode cX7_boxesAhead 33 = .ok (.istore_n 2, 1) := by decide +kernel
theorem dX7_boxesAhead_34 : decode cX7_boxesAhead 34 = .ok (.iinc 3 1, 3) := by decide +kernel
theorem dX7_boxesAhead_37 : decode cX7_boxesAhead 37 = .ok (.goto (-33), 3) := by decide +kernel
theorem dX7_boxesAhead_40 : decode cX7_boxesAhead 40 = .ok (.iload_n 2, 1) := by decide +kernel
theorem dX7_boxesAhead_41 : decode cX7_boxesAhead 41 = .ok (.ireturn, 1) := by decide +kernel
theorem dX7_areQuiet_0 : decode cX7_areQuiet 0 = .ok (.iconst 1, 1) := by decide +kernel
theorem dX7_areQuiet_1 : decode cX7_areQuiet 1 = .ok (.istore_n 1, 1) := by decide +kernel
theorem dX7_areQuiet_2 : decode cX7_areQuiet 2 = .ok (.iconst 0, 1) := by decide +kernel
theorem dX7_areQuiet_3 : decode cX7_areQuiet 3 = .ok (.istore_n 2, 1) := by decide +kernel
theorem dX7_areQuiet_4 : decode cX7_areQuiet 4 = .ok (.iload_n 2, 1) := by decide +kernel
theorem dX7_areQuiet_5 : decode cX7_areQuiet 5 = .ok (.aload_n 0, 1) := by decide +kernel
theorem dX7_areQuiet_6 : decode cX7_areQuiet 6 = .ok (.getfield 113, 3) := by decide +kernel
theorem dX7_areQuiet_9 : decode cX7_areQuiet 9 = .ok (.if_icmp .ge 57, 3) := by decide +kernel
theorem dX7_areQuiet_12 : decode cX7_areQuiet 12 = .ok (.iconst 0, 1) := by decide +kernel
theorem dX7_areQuiet_13 : decode cX7_areQuiet 13 = .ok (.istore_n 3, 1) := by decide +kernel
theorem dX7_areQuiet_14 : decode cX7_areQuiet 14 = .ok (.iload_n 3, 1) := by decide +kernel
theorem dX7_areQuiet_15 : decode cX7_areQuiet 15 = .ok (.iload_n 2, 1) := by decide +kernel
theorem dX7_areQuiet_16 : decode cX7_areQuiet 16 = .ok (.if_icmp .ge 44, 3) := by decide +kernel
theorem dX7_areQuiet_19 : decode cX7_areQuiet 19 = .ok (.iload_n 1, 1) := by decide +kernel
theorem dX7_areQuiet_20 : decode cX7_areQuiet 20 = .ok (.ifCond .eq 32, 3) := by decide +kernel
theorem dX7_areQuiet_23 : decode cX7_areQuiet 23 = .ok (.aload_n 0, 1) := by decide +kernel
theorem dX7_areQuiet_24 : decode cX7_areQuiet 24 = .ok (.getfield 41, 3) := by decide +kernel
theorem dX7_areQuiet_27 : decode cX7_areQuiet 27 = .ok (.iload_n 2, 1) := by decide +kernel
theorem dX7_areQuiet_28 : decode cX7_areQuiet 28 = .ok (.iaload, 1) := by decide +kernel
theorem dX7_areQuiet_29 : decode cX7_areQuiet 29 = .ok (.aload_n 0, 1) := by decide +kernel
theorem dX7_areQuiet_30 : decode cX7_areQuiet 30 = .ok (.getfield 41, 3) := by decide +kernel
theorem dX7_areQuiet_33 : decode cX7_areQuiet 33 = .ok (.iload_n 3, 1) := by decide +kernel
theorem dX7_areQuiet_34 : decode cX7_areQuiet 34 = .ok (.iaload, 1) := by decide +kernel
theorem dX7_areQuiet_35 : decode cX7_areQuiet 35 = .ok (.if_icmp .ne 13, 3) := by decide +kernel
theorem dX7_areQuiet_38 : decode cX7_areQuiet 38 = .ok (.aload_n 0, 1) := by decide +kernel
theorem dX7_areQuiet_39 : decode cX7_areQuiet 39 = .ok (.iload_n 2, 1) := by decide +kernel
theorem dX7_areQuiet_40 : decode cX7_areQuiet 40 = .ok (.iload_n 3, 1) := by decide +kernel
theorem dX7_areQuiet_41 : decode cX7_areQuiet 41 = .ok (.iconst 0, 1) := by decide +kernel
theorem dX7_areQuiet_42 : decode cX7_areQuiet 42 = .ok (.invokevirtual 143, 3) := by decide +kernel
theorem dX7_areQuiet_45 : decode cX7_areQuiet 45 = .ok (.ifCond .ne 7, 3) := by decide +kernel
theorem dX7_areQuiet_48 : decode cX7_areQuiet 48 = .ok (.iconst 1, 1) := by decide +kernel
theorem dX7_areQuiet_49 : decode cX7_areQuiet 49 = .ok (.goto 4, 3) := by decide +kernel
theorem dX7_areQuiet_52 : decode cX7_areQuiet 52 = .ok (.iconst 0, 1) := by decide +kernel
theorem dX7_areQuiet_53 : decode cX7_areQuiet 53 = .ok (.istore_n 1, 1) := by decide +kernel
theorem dX7_areQuiet_54 : decode cX7_areQuiet 54 = .ok (.iinc 3 1, 3) := by decide +kernel
theorem dX7_areQuiet_57 : decode cX7_areQuiet 57 = .ok (.goto (-43), 3) := by decide +kernel
theorem dX7_areQuiet_60 : decode cX7_areQuiet 60 = .ok (.iinc 2 1, 3) := by decide +kernel
theorem dX7_areQuiet_63 : decode cX7_areQuiet 63 = .ok (.goto (-59), 3) := by decide +kernel
theorem dX7_areQuiet_66 : decode cX7_areQuiet 66 = .ok (.iload_n 1, 1) := by decide +kernel
theorem dX7_areQuiet_67 : decode cX7_areQuiet 67 = .ok (.ireturn, 1) := by decide +kernel
theorem dX7_nextBoxes_0 : decode cX7_nextBoxes 0 = .ok (.aload_n 0, 1) := by decide +kernel
theorem dX7_nextBoxes_1 : decode cX7_nextBoxes 1 = .ok (.getfield 113, 3) := by decide +kernel
theorem dX7_nextBoxes_4 : decode cX7_nextBoxes 4 = .ok (.iconst 1, 1) := by decide +kernel
theorem dX7_nextBoxes_5 : decode cX7_nextBoxes 5 = .ok (.isub, 1) := by decide +kernel
theorem dX7_nextBoxes_6 : decode cX7_nextBoxes 6 = .ok (.istore_n 1, 1) := by decide +kernel
theorem dX7_nextBoxes_7 : decode cX7_nextBoxes 7 = .ok (.iload_n 1, 1) := by decide +kernel
theorem dX7_nextBoxes_8 : decode cX7_nextBoxes 8 = .ok (.ifCond .lt 30, 3) := by decide +kernel
theorem dX7_nextBoxes_11 : decode cX7_nextBoxes 11 = .ok (.aload_n 0, 1) := by decide +kernel
theorem dX7_nextBoxes_12 : decode cX7_nextBoxes 12 = .ok (.getfield 41, 3) := by decide +kernel
theorem dX7_nextBoxes_15 : decode cX7_nextBoxes 15 = .ok (.iload_n 1, 1) := by decide +kernel
theorem dX7_nextBoxes_16 : decode cX7_nextBoxes 16 = .ok (.iaload, 1) := by decide +kernel
theorem dX7_nextBoxes_17 : decode cX7_nextBoxes 17 = .ok (.aload_n 0, 1) := by decide +kernel
theorem dX7_nextBoxes_18 : decode cX7_nextBoxes 18 = .ok (.iload_n 1, 1) := by decide +kernel
theorem dX7_nextBoxes_19 : decode cX7_nextBoxes 19 = .ok (.invokevirtual 221, 3) := by decide +kernel
theorem dX7_nextBoxes_22 : decode cX7_nextBoxes 22 = .ok (.if_icmp .ne 16, 3) := by decide +kernel
theorem dX7_nextBoxes_25 : decode cX7_nextBoxes 25 = .ok (.aload_n 0, 1) := by decide +kernel
theorem dX7_nextBoxes_26 : decode cX7_nextBoxes 26 = .ok (.getfield 41, 3) := by decide +kernel
theorem dX7_nextBoxes_29 : decode cX7_nextBoxes 29 = .ok (.iload_n 1, 1) := by decide +kernel
theorem dX7_nextBoxes_30 : decode cX7_nextBoxes 30 = .ok (.iconst 0, 1) := by decide +kernel
theorem dX7_nextBoxes_31 : decode cX7_nextBoxes 31 = .ok (.iastore, 1) := by decide +kernel
theorem dX7_nextBoxes_32 : decode cX7_nextBoxes 32 = .ok (.iinc 1 (-1), 3) := by decide +kernel
theorem dX7_nextBoxes_35 : decode cX7_nextBoxes 35 = .ok (.goto (-28), 3) := by decide +kernel
theorem dX7_nextBoxes_38 : decode cX7_nextBoxes 38 = .ok (.iload_n 1, 1) := by decide +kernel
theorem dX7_nextBoxes_39 : decode cX7_nextBoxes 39 = .ok (.ifCond .ge 5, 3) := by decide +kernel
theorem dX7_nextBoxes_42 : decode cX7_nextBoxes 42 = .ok (.iconst 0, 1) := by decide +kernel
theorem dX7_nextBoxes_43 : decode cX7_nextBoxes 43 = .ok (.ireturn, 1) := by decide +kernel
theorem dX7_nextBoxes_44 : decode cX7_nextBoxes 44 = .ok (.aload_n 0, 1) := by decide +kernel
theorem dX7_nextBoxes_45 : decode cX7_nextBoxes 45 = .ok (.getfield 41, 3) := by decide +kernel
theorem dX7_nextBoxes_48 : decode cX7_nextBoxes 48 = .ok (.iload_n 1, 1) := by decide +kernel
theorem dX7_nextBoxes_49 : decode cX7_nextBoxes 49 = .ok (.dup2, 1) := by decide +kernel
theorem dX7_nextBoxes_50 : decode cX7_nextBoxes 50 = .ok (.iaload, 1) := by decide +kernel
theorem dX7_nextBoxes_51 : decode cX7_nextBoxes 51 = .ok (.iconst 1, 1) := by decide +kernel
theorem dX7_nextBoxes_52 : decode cX7_nextBoxes 52 = .ok (.iadd, 1) := by decide +kernel
theorem dX7_nextBoxes_53 : decode cX7_nextBoxes 53 = .ok (.iastore, 1) := by decide +kernel
theorem dX7_nextBoxes_54 : decode cX7_nextBoxes 54 = .ok (.iconst 1, 1) := by decide +kernel
theorem dX7_nextBoxes_55 : decode cX7_nextBoxes 55 = .ok (.ireturn, 1) := by decide +kernel
theorem dX7_boxesNow_0 : decode cX7_boxesNow 0 = .ok (.aload_n 0, 1) := by decide +kernel
theorem dX7_boxesNow_1 : decode cX7_boxesNow 1 = .ok (.invokevirtual 197, 3) := by decide +kernel
theorem dX7_boxesNow_4 : decode cX7_boxesNow 4 = .ok (.ldc 200, 2) := by decide +kernel
theorem dX7_boxesNow_6 : decode cX7_boxesNow 6 = .ok (.istore_n 2, 1) := by decide +kernel
theorem dX7_boxesNow_7 : decode cX7_boxesNow 7 = .ok (.iconst 1, 1) := by decide +kernel
theorem dX7_boxesNow_8 : decode cX7_boxesNow 8 = .ok (.istore_n 3, 1) := by decide +kernel
theorem dX7_boxesNow_9 : decode cX7_boxesNow 9 = .ok (.iload_n 3, 1) := by decide +kernel
theorem dX7_boxesNow_10 : decode cX7_boxesNow 10 = .ok (.ifCond .eq 44, 3) := by decide +kernel
theorem dX7_boxesNow_13 : decode cX7_boxesNow 13 = .ok (.aload_n 0, 1) := by decide +kernel
theorem dX7_boxesNow_14 : decode cX7_boxesNow 14 = .ok (.aload_n 0, 1) := by decide +kernel
theorem dX7_boxesNow_15 : decode cX7_boxesNow 15 = .ok (.getfield 113, 3) := by decide +kernel
theorem dX7_boxesNow_18 : decode cX7_boxesNow 18 = .ok (.invokevirtual 221, 3) := by decide +kernel
theorem dX7_boxesNow_21 : decode cX7_boxesNow 21 = .ok (.iload_n 2, 1) := by decide +kernel
theorem dX7_boxesNow_22 : decode cX7_boxesNow 22 = .ok (.if_icmp .ge 24, 3) := by decide +kernel
theorem dX7_boxesNow_25 : decode cX7_boxesNow 25 = .ok (.aload_n 0, 1) := by decide +kernel
theorem dX7_boxesNow_26 : decode cX7_boxesNow 26 = .ok (.invokevirtual 224, 3) := by decide +kernel
theorem dX7_boxesNow_29 : decode cX7_boxesNow 29 = .ok (.ifCond .eq 17, 3) := by decide +kernel
theorem dX7_boxesNow_32 : decode cX7_boxesNow 32 = .ok (.aload_n 0, 1) := by decide +kernel
theorem dX7_boxesNow_33 : decode cX7_boxesNow 33 = .ok (.aload_n 0, 1) := by decide +kernel
theorem dX7_boxesNow_34 : decode cX7_boxesNow 34 = .ok (.getfield 113, 3) := by decide +kernel
theorem dX7_boxesNow_37 : decode cX7_boxesNow 37 = .ok (.invokevirtual 221, 3) := by decide +kernel
theorem dX7_boxesNow_40 : decode cX7_boxesNow 40 = .ok (.istore_n 2, 1) := by decide +kernel
theorem dX7_boxesNow_41 : decode cX7_boxesNow 41 = .ok (.aload_n 0, 1) := by decide +kernel
theorem dX7_boxesNow_42 : decode cX7_boxesNow 42 = .ok (.iconst 0, 1) := by decide +kernel
theorem dX7_boxesNow_43 : decode cX7_boxesNow 43 = .ok (.invokevirtual 207, 3) := by decide +kernel
theorem dX7_boxesNow_46 : decode cX7_boxesNow 46 = .ok (.aload_n 0, 1) := by decide +kernel
theorem dX7_boxesNow_47 : decode cX7_boxesNow 47 = .ok (.invokevirtual 227, 3) := by decide +kernel
theorem dX7_boxesNow_50 : decode cX7_boxesNow 50 = .ok (.istore_n 3, 1) := by decide +kernel
theorem dX7_boxesNow_51 : decode cX7_boxesNow 51 = .ok (.goto (-42), 3) := by decide +kernel
theorem dX7_boxesNow_54 : decode cX7_boxesNow 54 = .ok (.iload_n 1, 1) := by decide +kernel
theorem dX7_boxesNow_55 : decode cX7_boxesNow 55 = .ok (.ifCond .ne 7, 3) := by decide +kernel
theorem dX7_boxesNow_58 : decode cX7_boxesNow 58 = .ok (.iload_n 2, 1) := by decide +kernel
theorem dX7_boxesNow_59 : decode cX7_boxesNow 59 = .ok (.goto 12, 3) := by decide +kernel
theorem dX7_boxesNow_62 : decode cX7_boxesNow 62 = .ok (.aload_n 0, 1) := by decide +kernel
theorem dX7_boxesNow_63 : decode cX7_boxesNow 63 = .ok (.getfield 44, 3) := by decide +kernel
theorem dX7_boxesNow_66 : decode cX7_boxesNow 66 = .ok (.iload_n 1, 1) := by decide +kernel
theorem dX7_boxesNow_67 : decode cX7_boxesNow 67 = .ok (.bipush 10, 2) := by decide +kernel
theorem dX7_boxesNow_69 : decode cX7_boxesNow 69 = .ok (.isub, 1) := by decide +kernel
theorem dX7_boxesNow_70 : decode cX7_boxesNow 70 = .ok (.iaload, 1) := by decide +kernel
theorem dX7_boxesNow_71 : decode cX7_boxesNow 71 = .ok (.ireturn, 1) := by decide +kernel
theorem dX7_boxes_0 : decode cX7_boxes 0 = .ok (.iload_n 1, 1) := by decide +kernel
theorem dX7_boxes_1 : decode cX7_boxes 1 = .ok (.ifCond .eq 17, 3) := by decide +kernel
theorem dX7_boxes_4 : decode cX7_boxes 4 = .ok (.iload_n 1, 1) := by decide +kernel
theorem dX7_boxes_5 : decode cX7_boxes 5 = .ok (.bipush 10, 2) := by decide +kernel
theorem dX7_boxes_7 : decode cX7_boxes 7 = .ok (.bipush 15, 2) := by decide +kernel
theorem dX7_boxes_9 : decode cX7_boxes 9 = .ok (.invokestatic 77, 3) := by decide +kernel
theorem dX7_boxes_12 : decode cX7_boxes 12 = .ok (.ifCond .ne 6, 3) := by decide +kernel
theorem dX7_boxes_15 : decode cX7_boxes 15 = .ok (.bipush (-102), 2) := by decide +kernel
theorem dX7_boxes_17 : decode cX7_boxes 17 = .ok (.ireturn, 1) := by decide +kernel
theorem dX7_boxes_18 : decode cX7_boxes 18 = .ok (.aload_n 0, 1) := by decide +kernel
theorem dX7_boxes_19 : decode cX7_boxes 19 = .ok (.getfield 113, 3) := by decide +kernel
theorem dX7_boxes_22 : decode cX7_boxes 22 = .ok (.ifCond .ne 8, 3) := by decide +kernel
theorem dX7_boxes_25 : decode cX7_boxes 25 = .ok (.bipush (-103), 2) := by decide +kernel
theorem dX7_boxes_27 : decode cX7_boxes 27 = .ok (.goto 8, 3) := by decide +kernel
theorem dX7_boxes_30 : decode cX7_boxes 30 = .ok (.aload_n 0, 1) := by decide +kernel
theorem dX7_boxes_31 : decode cX7_boxes 31 = .ok (.iload_n 1, 1) := by decide +kernel
theorem dX7_boxes_32 : decode cX7_boxes 32 = .ok (.invokevirtual 230, 3) := by decide +kernel
theorem dX7_boxes_35 : decode cX7_boxes 35 = .ok (.ireturn, 1) := by decide +kernel
theorem dX7_changesNow_0 : decode cX7_changesNow 0 = .ok (.aload_n 0, 1) := by decide +kernel
theorem dX7_changesNow_1 : decode cX7_changesNow 1 = .ok (.iload_n 1, 1) := by decide +kernel
theorem dX7_changesNow_2 : decode cX7_changesNow 2 = .ok (.invokevirtual 146, 3) := by decide +kernel
theorem dX7_changesNow_5 : decode cX7_changesNow 5 = .ok (.istore_n 3, 1) := by decide +kernel
theorem dX7_changesNow_6 : decode cX7_changesNow 6 = .ok (.iload_n 3, 1) := by decide +kernel
theorem dX7_changesNow_7 : decode cX7_changesNow 7 = .ok (.istore 4, 2) := by decide +kernel
theorem dX7_changesNow_9 : decode cX7_changesNow 9 = .ok (.iconst 0, 1) := by decide +kernel
theorem dX7_changesNow_10 : decode cX7_changesNow 10 = .ok (.istore 5, 2) := by decide +kernel
theorem dX7_changesNow_12 : decode cX7_changesNow 12 = .ok (.iload 5, 2) := by decide +kernel
theorem dX7_changesNow_14 : decode cX7_changesNow 14 = .ok (.aload_n 0, 1) := by decide +kernel
theorem dX7_changesNow_15 : decode cX7_changesNow 15 = .ok (.getfield 113, 3) := by decide +kernel
theorem dX7_changesNow_18 : decode cX7_changesNow 18 = .ok (.if_icmp .ge 33, 3) := by decide +kernel
theorem dX7_changesNow_21 : decode cX7_changesNow 21 = .ok (.iload 4, 2) := by decide +kernel
theorem dX7_changesNow_23 : decode cX7_changesNow 23 = .ok (.aload_n 0, 1) := by decide +kernel
theorem dX7_changesNow_24 : decode cX7_changesNow 24 = .ok (.getfield 19, 3) := by decide +kernel
theorem dX7_changesNow_27 : decode cX7_changesNow 27 = .ok (.iload 5, 2) := by decide +kernel
theorem dX7_changesNow_29 : decode cX7_changesNow 29 = .ok (.iaload, 1) := by decide +kernel
theorem dX7_changesNow_30 : decode cX7_changesNow 30 = .ok (.iconst (-1), 1) := by decide +kernel
theorem dX7_changesNow_31 : decode cX7_changesNow 31 = .ok (.if_icmp .ne 10, 3) := by decide +kernel
theorem dX7_changesNow_34 : decode cX7_changesNow 34 = .ok (.iconst 1, 1) := by decide +kernel
theorem dX7_changesNow_35 : decode cX7_changesNow 35 = .ok (.iload 5, 2) := by decide +kernel
theorem dX7_changesNow_37 : decode cX7_changesNow 37 = .ok (.ishl, 1) := by decide +kernel
theorem dX7_changesNow_38 : decode cX7_changesNow 38 = .ok (.goto 4, 3) := by decide +kernel
theorem dX7_changesNow_41 : decode cX7_changesNow 41 = .ok (.iconst 0, 1) := by decide +kernel
theorem dX7_changesNow_42 : decode cX7_changesNow 42 = .ok (.ior, 1) := by decide +kernel
theorem dX7_changesNow_43 : decode cX7_changesNow 43 = .ok (.istore 4, 2) := by decide +kernel
theorem dX7_changesNow_45 : decode cX7_changesNow 45 = .ok (.iinc 5 1, 3) := by decide +kernel
theorem dX7_changesNow_48 : decode cX7_changesNow 48 = .ok (.goto (-36), 3) := by decide +kernel
theorem dX7_changesNow_51 : decode cX7_changesNow 51 = .ok (.iconst (-1), 1) := by decide +kernel
theorem dX7_changesNow_52 : decode cX7_changesNow 52 = .ok (.istore 5, 2) := by decide +kernel
theorem dX7_changesNow_54 : decode cX7_changesNow 54 = .ok (.iconst 0, 1) := by decide +kernel
theorem dX7_changesNow_55 : decode cX7_changesNow 55 = .ok (.istore 6, 2) := by decide +kernel
theorem dX7_changesNow_57 : decode cX7_changesNow 57 = .ok (.iload 6, 2) := by decide +kernel
theorem dX7_changesNow_59 : decode cX7_changesNow 59 = .ok (.iconst 1, 1) := by decide +kernel
theorem dX7_changesNow_60 : decode cX7_changesNow 60 = .ok (.aload_n 0, 1) := by decide +kernel
theorem dX7_changesNow_61 : decode cX7_changesNow 61 = .ok (.getfield 113, 3) := by decide +kernel
theorem dX7_changesNow_64 : decode cX7_changesNow 64 = .ok (.ishl, 1) := by decide +kernel
theorem dX7_changesNow_65 : decode cX7_changesNow 65 = .ok (.if_icmp .ge 97, 3) := by decide +kernel
theorem dX7_changesNow_68 : decode cX7_changesNow 68 = .ok (.iload 6, 2) := by decide +kernel
theorem dX7_changesNow_70 : decode cX7_changesNow 70 = .ok (.iload 4, 2) := by decide +kernel
theorem dX7_changesNow_72 : decode cX7_changesNow 72 = .ok (.iconst (-1), 1) := by decide +kernel
theorem dX7_changesNow_73 : decode cX7_changesNow 73 = .ok (.ixor, 1) := by decide +kernel
theorem dX7_changesNow_74 : decode cX7_changesNow 74 = .ok (.iand, 1) := by decide +kernel
theorem dX7_changesNow_75 : decode cX7_changesNow 75 = .ok (.ifCond .ne 16, 3) := by decide +kernel
theorem dX7_changesNow_78 : decode cX7_changesNow 78 = .ok (.iload 6, 2) := by decide +kernel
theorem dX7_changesNow_80 : decode cX7_changesNow 80 = .ok (.invokestatic 194, 3) := by decide +kernel
theorem dX7_changesNow_83 : decode cX7_changesNow 83 = .ok (.iconst 3, 1) := by decide +kernel
theorem dX7_changesNow_84 : decode cX7_changesNow 84 = .ok (.if_icmp .ge 7, 3) := by decide +kernel
theorem dX7_changesNow_87 : decode cX7_changesNow 87 = .ok (.iconst 1, 1) := by decide +kernel
theorem dX7_changesNow_88 : decode cX7_changesNow 88 = .ok (.goto 4, 3) := by decide +kernel
theorem dX7_changesNow_91 : decode cX7_changesNow 91 = .ok (.iconst 0, 1) := by decide +kernel
theorem dX7_changesNow_92 : decode cX7_changesNow 92 = .ok (.istore 7, 2) := by decide +kernel
theorem dX7_changesNow_94 : decode cX7_changesNow 94 = .ok (.iload 5, 2) := by decide +kernel
theorem dX7_changesNow_96 : decode cX7_changesNow 96 = .ok (.iconst (-1), 1) := by decide +kernel
theorem dX7_changesNow_97 : decode cX7_changesNow 97 = .ok (.if_icmp .eq 20, 3) := by decide +kernel
theorem dX7_changesNow_100 : decode cX7_changesNow 100 = .ok (.iload 6, 2) := by decide +kernel
theorem dX7_changesNow_102 : decode cX7_changesNow 102 = .ok (.iload_n 3, 1) := by decide +kernel
theorem dX7_changesNow_103 : decode cX7_changesNow 103 = .ok (.ixor, 1) := by decide +kernel
theorem dX7_changesNow_104 : decode cX7_changesNow 104 = .ok (.invokestatic 194, 3) := by decide +kernel
theorem dX7_changesNow_107 : decode cX7_changesNow 107 = .ok (.iload 5, 2) := by decide +kernel
theorem dX7_changesNow_109 : decode cX7_changesNow 109 = .ok (.iload_n 3, 1) := by decide +kernel
theorem dX7_changesNow_110 : decode cX7_changesNow 110 = .ok (.ixor, 1) := by decide +kernel
theorem dX7_changesNow_111 : decode cX7_changesNow 111 = .ok (.invokestatic 194, 3) := by decide +kernel
theorem dX7_changesNow_114 : decode cX7_changesNow 114 = .ok (.if_icmp .ge 7, 3) := by decide +kernel
theorem dX7_changesNow_117 : decode cX7_changesNow 117 = .ok (.iconst 1, 1) := by decide +kernel
theorem dX7_changesNow_118 : decode cX7_changesNow 118 = .ok (.goto 4, 3) := by decide +kernel
theorem dX7_changesNow_121 : decode cX7_changesNow 121 = .ok (.iconst 0, 1) := by decide +kernel
theorem dX7_changesNow_122 : decode cX7_changesNow 122 = .ok (.istore 8, 2) := by decide +kernel
theorem dX7_changesNow_124 : decode cX7_changesNow 124 = .ok (.iload 7, 2) := by decide +kernel
theorem dX7_changesNow_126 : decode cX7_changesNow 126 = .ok (.ifCond .eq 26, 3) := by decide +kernel
theorem dX7_changesNow_129 : decode cX7_changesNow 129 = .ok (.iload 8, 2) := by decide +kernel
theorem dX7_changesNow_131 : decode cX7_changesNow 131 = .ok (.ifCond .eq 21, 3) := by decide +kernel
theorem dX7_changesNow_134 : decode cX7_changesNow 134 = .ok (.aload_n 0, 1) := by decide +kernel
theorem dX7_changesNow_135 : decode cX7_changesNow 135 = .ok (.iload_n 1, 1) := by decide +kernel
theorem dX7_changesNow_136 : decode cX7_changesNow 136 = .ok (.iload 6, 2) := by decide +kernel
theorem dX7_changesNow_138 : decode cX7_changesNow 138 = .ok (.iconst 0, 1) := by decide +kernel
theorem dX7_changesNow_139 : decode cX7_changesNow 139 = .ok (.invokevirtual 149, 3) := by decide +kernel
theorem dX7_changesNow_142 : decode cX7_changesNow 142 = .ok (.bipush 8, 2) := by decide +kernel
theorem dX7_changesNow_144 : decode cX7_changesNow 144 = .ok (.if_icmp .gt 8, 3) := by decide +kernel
theorem dX7_changesNow_147 : decode cX7_changesNow 147 = .ok (.iload 6, 2) := by decide +kernel
theorem dX7_changesNow_149 : decode cX7_changesNow 149 = .ok (.goto 5, 3) := by decide +kernel
theorem dX7_changesNow_152 : decode cX7_changesNow 152 = .ok (.iload 5, 2) := by decide +kernel
theorem dX7_changesNow_154 : decode cX7_changesNow 154 = .ok (.istore 5, 2) := by decide +kernel
theorem dX7_changesNow_156 : decode cX7_changesNow 156 = .ok (.iinc 6 1, 3) := by decide +kernel
theorem dX7_changesNow_159 : decode cX7_changesNow 159 = .ok (.goto (-102), 3) := by decide +kernel
theorem dX7_changesNow_162 : decode cX7_changesNow 162 = .ok (.iload 5, 2) := by decide +kernel
theorem dX7_changesNow_164 : decode cX7_changesNow 164 = .ok (.iconst (-1), 1) := by decide +kernel
theorem dX7_changesNow_165 : decode cX7_changesNow 165 = .ok (.if_icmp .eq 8, 3) := by decide +kernel
theorem dX7_changesNow_168 : decode cX7_changesNow 168 = .ok (.iload_n 2, 1) := by decide +kernel
theorem dX7_changesNow_169 : decode cX7_changesNow 169 = .ok (.iconst 1, 1) := by decide +kernel
theorem dX7_changesNow_170 : decode cX7_changesNow 170 = .ok (.if_icmp .ne 8, 3) := by decide +kernel
theorem dX7_changesNow_173 : decode cX7_changesNow 173 = .ok (.iload 5, 2) := by decide +kernel
theorem dX7_changesNow_175 : decode cX7_changesNow 175 = .ok (.goto 10, 3) := by decide +kernel
theorem dX7_changesNow_178 : decode cX7_changesNow 178 = .ok (.iload 5, 2) := by decide +kernel
theorem dX7_changesNow_180 : decode cX7_changesNow 180 = .ok (.iload_n 3, 1) := by decide +kernel
theorem dX7_changesNow_181 : decode cX7_changesNow 181 = .ok (.ixor, 1) := by decide +kernel
theorem dX7_changesNow_182 : decode cX7_changesNow 182 = .ok (.invokestatic 194, 3) := by decide +kernel
theorem dX7_changesNow_185 : decode cX7_changesNow 185 = .ok (.ireturn, 1) := by decide +kernel
theorem dX7_oddsNow_0 : decode cX7_oddsNow 0 = .ok (.aload_n 0, 1) := by decide +kernel
theorem dX7_oddsNow_1 : decode cX7_oddsNow 1 = .ok (.iload_n 1, 1) := by decide +kernel
theorem dX7_oddsNow_2 : decode cX7_oddsNow 2 = .ok (.invokevirtual 146, 3) := by decide +kernel
theorem dX7_oddsNow_5 : decode cX7_oddsNow 5 = .ok (.istore 5, 2) := by decide +kernel
theorem dX7_oddsNow_7 : decode cX7_oddsNow 7 = .ok (.iconst 0, 1) := by decide +kernel
theorem dX7_oddsNow_8 : decode cX7_oddsNow 8 = .ok (.istore 6, 2) := by decide +kernel
theorem dX7_oddsNow_10 : decode cX7_oddsNow 10 = .ok (.iconst 1, 1) := by decide +kernel
theorem dX7_oddsNow_11 : decode cX7_oddsNow 11 = .ok (.istore 7, 2) := by decide +kernel
theorem dX7_oddsNow_13 : decode cX7_oddsNow 13 = .ok (.iconst 0, 1) := by decide +kernel
theorem dX7_oddsNow_14 : decode cX7_oddsNow 14 = .ok (.istore 8, 2) := by decide +kernel
theorem dX7_oddsNow_16 : decode cX7_oddsNow 16 = .ok (.iload 8, 2) := by decide +kernel
theorem dX7_oddsNow_18 : decode cX7_oddsNow 18 = .ok (.iload_n 2, 1) := by decide +kernel
theorem dX7_oddsNow_19 : decode cX7_oddsNow 19 = .ok (.if_icmp .ge 16, 3) := by decide +kernel
theorem dX7_oddsNow_22 : decode cX7_oddsNow 22 = .ok (.iload 7, 2) := by decide +kernel
theorem dX7_oddsNow_24 : decode cX7_oddsNow 24 = .ok (.bipush 10, 2) := by decide +kernel
theorem dX7_oddsNow_26 : decode cX7_oddsNow 26 = .ok (.imul, 1) := by decide +kernel
theorem dX7_oddsNow_27 : decode cX7_oddsNow 27 = .ok (.istore 7, 2) := by decide +kernel
theorem dX7_oddsNow_29 : decode cX7_oddsNow 29 = .ok (.iinc 8 1, 3) := by decide +kernel
theorem dX7_oddsNow_32 : decode cX7_oddsNow 32 = .ok (.goto (-16), 3) := by decide +kernel
theorem dX7_oddsNow_35 : decode cX7_oddsNow 35 = .ok (.iconst 0, 1) := by decide +kernel
theorem dX7_oddsNow_36 : decode cX7_oddsNow 36 = .ok (.istore 8, 2) := by decide +kernel
theorem dX7_oddsNow_38 : decode cX7_oddsNow 38 = .ok (.iload 8, 2) := by decide +kernel
theorem dX7_oddsNow_40 : decode cX7_oddsNow 40 = .ok (.iconst 1, 1) := by decide +kernel
theorem dX7_oddsNow_41 : decode cX7_oddsNow 41 = .ok (.iload_n 2, 1) := by decide +kernel
theorem dX7_oddsNow_42 : decode cX7_oddsNow 42 = .ok (.ishl, 1) := by decide +kernel
theorem dX7_oddsNow_43 : decode cX7_oddsNow 43 = .ok (.if_icmp .ge 78, 3) := by decide +kernel
theorem dX7_oddsNow_46 : decode cX7_oddsNow 46 = .ok (.iconst 1, 1) := by decide +kernel
theorem dX7_oddsNow_47 : decode cX7_oddsNow 47 = .ok (.istore 9, 2) := by decide +kernel
theorem dX7_oddsNow_49 : decode cX7_oddsNow 49 = .ok (.iconst 0, 1) := by decide +kernel
theorem dX7_oddsNow_50 : decode cX7_oddsNow 50 = .ok (.istore 10, 2) := by decide +kernel
theorem dX7_oddsNow_52 : decode cX7_oddsNow 52 = .ok (.iload 10, 2) := by decide +kernel
theorem dX7_oddsNow_54 : decode cX7_oddsNow 54 = .ok (.iload_n 2, 1) := by decide +kernel
theorem dX7_oddsNow_55 : decode cX7_oddsNow 55 = .ok (.if_icmp .ge 32, 3) := by decide +kernel
theorem dX7_oddsNow_58 : decode cX7_oddsNow 58 = .ok (.iload 9, 2) := by decide +kernel
theorem dX7_oddsNow_60 : decode cX7_oddsNow 60 = .ok (.iload 8, 2) := by decide +kernel
theorem dX7_oddsNow_62 : decode cX7_oddsNow 62 = .ok (.iload 10, 2) := by decide +kernel
theorem dX7_oddsNow_64 : decode cX7_oddsNow 64 = .ok (.invokestatic 139, 3) := by decide +kernel
theorem dX7_oddsNow_67 : decode cX7_oddsNow 67 = .ok (.ifCond .eq 7, 3) := by decide +kernel
theorem dX7_oddsNow_70 : decode cX7_oddsNow 70 = .ok (.iload_n 3, 1) := by decide +kernel
theorem dX7_oddsNow_71 : decode cX7_oddsNow 71 = .ok (.goto 7, 3) := by decide +kernel
theorem dX7_oddsNow_74 : decode cX7_oddsNow 74 = .ok (.bipush 10, 2) := by decide +kernel
theorem dX7_oddsNow_76 : decode cX7_oddsNow 76 = .ok (.iload_n 3, 1) := by decide +kernel
theorem dX7_oddsNow_77 : decode cX7_oddsNow 77 = .ok (.isub, 1) := by decide +kernel
theorem dX7_oddsNow_78 : decode cX7_oddsNow 78 = .ok (.imul, 1) := by decide +kernel
theorem dX7_oddsNow_79 : decode cX7_oddsNow 79 = .ok (.istore 9, 2) := by decide +kernel
theorem dX7_oddsNow_81 : decode cX7_oddsNow 81 = .ok (.iinc 10 1, 3) := by decide +kernel
theorem dX7_oddsNow_84 : decode cX7_oddsNow 84 = .ok (.goto (-32), 3) := by decide +kernel
theorem dX7_oddsNow_87 : decode cX7_oddsNow 87 = .ok (.iload 6, 2) := by decide +kernel
theorem dX7_oddsNow_89 : decode cX7_oddsNow 89 = .ok (.aload_n 0, 1) := by decide +kernel
theorem dX7_oddsNow_90 : decode cX7_oddsNow 90 = .ok (.iload_n 1, 1) := by decide +kernel
theorem dX7_oddsNow_91 : decode cX7_oddsNow 91 = .ok (.iload 5, 2) := by decide +kernel
theorem dX7_oddsNow_93 : decode cX7_oddsNow 93 = .ok (.iload 8, 2) := by decide +kernel
theorem dX7_oddsNow_95 : decode cX7_oddsNow 95 = .ok (.invokestatic 194, 3) := by decide +kernel
theorem dX7_oddsNow_98 : decode cX7_oddsNow 98 = .ok (.invokevirtual 149, 3) := by decide +kernel
theorem dX7_oddsNow_101 : decode cX7_oddsNow 101 = .ok (.bipush 15, 2) := by decide +kernel
theorem dX7_oddsNow_103 : decode cX7_oddsNow 103 = .ok (.if_icmp .lt 8, 3) := by decide +kernel
theorem dX7_oddsNow_106 : decode cX7_oddsNow 106 = .ok (.iload 9, 2) := by decide +kernel
theorem dX7_oddsNow_108 : decode cX7_oddsNow 108 = .ok (.goto 4, 3) := by decide +kernel
theorem dX7_oddsNow_111 : decode cX7_oddsNow 111 = .ok (.iconst 0, 1) := by decide +kernel
theorem dX7_oddsNow_112 : decode cX7_oddsNow 112 = .ok (.iadd, 1) := by decide +kernel
theorem dX7_oddsNow_113 : decode cX7_oddsNow 113 = .ok (.istore 6, 2) := by decide +kernel
theorem dX7_oddsNow_115 : decode cX7_oddsNow 115 = .ok (.iinc 8 1, 3) := by decide +kernel
theorem dX7_oddsNow_118 : decode cX7_oddsNow 118 = .ok (.goto (-80), 3) := by decide +kernel
theorem dX7_oddsNow_121 : decode cX7_oddsNow 121 = .ok (.iload 6, 2) := by decide +kernel
theorem dX7_oddsNow_123 : decode cX7_oddsNow 123 = .ok (.iload 7, 2) := by decide +kernel
theorem dX7_oddsNow_125 : decode cX7_oddsNow 125 = .ok (.invokestatic 233, 3) := by decide +kernel
theorem dX7_oddsNow_128 : decode cX7_oddsNow 128 = .ok (.istore 8, 2) := by decide +kernel
theorem dX7_oddsNow_130 : decode cX7_oddsNow 130 = .ok (.iload 4, 2) := by decide +kernel
theorem dX7_oddsNow_132 : decode cX7_oddsNow 132 = .ok (.ifCond .ne 11, 3) := by decide +kernel
theorem dX7_oddsNow_135 : decode cX7_oddsNow 135 = .ok (.iload 6, 2) := by decide +kernel
theorem dX7_oddsNow_137 : decode cX7_oddsNow 137 = .ok (.iload 8, 2) := by decide +kernel
theorem dX7_oddsNow_139 : decode cX7_oddsNow 139 = .ok (.idiv, 1) := by decide +kernel
theorem dX7_oddsNow_140 : decode cX7_oddsNow 140 = .ok (.goto 8, 3) := by decide +kernel
theorem dX7_oddsNow_143 : decode cX7_oddsNow 143 = .ok (.iload 7, 2) := by decide +kernel
theorem dX7_oddsNow_145 : decode cX7_oddsNow 145 = .ok (.iload 8, 2) := by decide +kernel
theorem dX7_oddsNow_147 : decode cX7_oddsNow 147 = .ok (.idiv, 1) := by decide +kernel
theorem dX7_oddsNow_148 : decode cX7_oddsNow 148 = .ok (.ireturn, 1) := by decide +kernel
theorem dX7_odds_0 : decode cX7_odds 0 = .ok (.aload_n 0, 1) := by decide +kernel
theorem dX7_odds_1 : decode cX7_odds 1 = .ok (.iload_n 1, 1) := by decide +kernel
theorem dX7_odds_2 : decode cX7_odds 2 = .ok (.invokevirtual 182, 3) := by decide +kernel
theorem dX7_odds_5 : decode cX7_odds 5 = .ok (.ifCond .ne 6, 3) := by decide +kernel
theorem dX7_odds_8 : decode cX7_odds 8 = .ok (.bipush (-101), 2) := by decide +kernel
theorem dX7_odds_10 : decode cX7_odds 10 = .ok (.ireturn, 1) := by decide +kernel
theorem dX7_odds_11 : decode cX7_odds 11 = .ok (.iload_n 2, 1) := by decide +kernel
theorem dX7_odds_12 : decode cX7_odds 12 = .ok (.iconst 1, 1) := by decide +kernel
theorem dX7_odds_13 : decode cX7_odds 13 = .ok (.bipush 8, 2) := by decide +kernel
theorem dX7_odds_15 : decode cX7_odds 15 = .ok (.invokestatic 77, 3) := by decide +kernel
theorem dX7_odds_18 : decode cX7_odds 18 = .ok (.ifCond .eq 27, 3) := by decide +kernel
theorem dX7_odds_21 : decode cX7_odds 21 = .ok (.iload_n 3, 1) := by decide +kernel
theorem dX7_odds_22 : decode cX7_odds 22 = .ok (.iconst 0, 1) := by decide +kernel
theorem dX7_odds_23 : decode cX7_odds 23 = .ok (.bipush 10, 2) := by decide +kernel
theorem dX7_odds_25 : decode cX7_odds 25 = .ok (.invokestatic 77, 3) := by decide +kernel
theorem dX7_odds_28 : decode cX7_odds 28 = .ok (.ifCond .eq 17, 3) := by decide +kernel
theorem dX7_odds_31 : decode cX7_odds 31 = .ok (.iload 4, 2) := by decide +kernel
theorem dX7_odds_33 : decode cX7_odds 33 = .ok (.iconst 0, 1) := by decide +kernel
theorem dX7_odds_34 : decode cX7_odds 34 = .ok (.iconst 1, 1) := by decide +kernel
theorem dX7_odds_35 : decode cX7_odds 35 = .ok (.invokestatic 77, 3) := by decide +kernel
theorem dX7_odds_38 : decode cX7_odds 38 = .ok (.ifCond .eq 7, 3) := by decide +kernel
theorem dX7_odds_41 : decode cX7_odds 41 = .ok (.iconst 1, 1) := by decide +kernel
theorem dX7_odds_42 : decode cX7_odds 42 = .ok (.goto 4, 3) := by decide +kernel
theorem dX7_odds_45 : decode cX7_odds 45 = .ok (.iconst 0, 1) := by decide +kernel
theorem dX7_odds_46 : decode cX7_odds 46 = .ok (.istore 5, 2) := by decide +kernel
theorem dX7_odds_48 : decode cX7_odds 48 = .ok (.iload 5, 2) := by decide +kernel
theorem dX7_odds_50 : decode cX7_odds 50 = .ok (.ifCond .eq 15, 3) := by decide +kernel
theorem dX7_odds_53 : decode cX7_odds 53 = .ok (.aload_n 0, 1) := by decide +kernel
theorem dX7_odds_54 : decode cX7_odds 54 = .ok (.iload_n 1, 1) := by decide +kernel
theorem dX7_odds_55 : decode cX7_odds 55 = .ok (.iload_n 2, 1) := by decide +kernel
theorem dX7_odds_56 : decode cX7_odds 56 = .ok (.iload_n 3, 1) := by decide +kernel
theorem dX7_odds_57 : decode cX7_odds 57 = .ok (.iload 4, 2) := by decide +kernel
theorem dX7_odds_59 : decode cX7_odds 59 = .ok (.invokevirtual 236, 3) := by decide +kernel
theorem dX7_odds_62 : decode cX7_odds 62 = .ok (.goto 5, 3) := by decide +kernel
theorem dX7_odds_65 : decode cX7_odds 65 = .ok (.bipush (-102), 2) := by decide +kernel
theorem dX7_odds_67 : decode cX7_odds 67 = .ok (.ireturn, 1) := by decide +kernel
theorem dX7_see_0 : decode cX7_see 0 = .ok (.aload_n 0, 1) := by decide +kernel
theorem dX7_see_1 : decode cX7_see 1 = .ok (.iload_n 1, 1) := by decide +kernel
theorem dX7_see_2 : decode cX7_see 2 = .ok (.invokevirtual 164, 3) := by decide +kernel
theorem dX7_see_5 : decode cX7_see 5 = .ok (.ifCond .ne 6, 3) := by decide +kernel
theorem dX7_see_8 : decode cX7_see 8 = .ok (.bipush (-101), 2) := by decide +kernel
theorem dX7_see_10 : decode cX7_see 10 = .ok (.ireturn, 1) := by decide +kernel
theorem dX7_see_11 : decode cX7_see 11 = .ok (.iload_n 2, 1) := by decide +kernel
theorem dX7_see_12 : decode cX7_see 12 = .ok (.iconst 0, 1) := by decide +kernel
theorem dX7_see_13 : decode cX7_see 13 = .ok (.bipush 9, 2) := by decide +kernel
theorem dX7_see_15 : decode cX7_see 15 = .ok (.invokestatic 77, 3) := by decide +kernel
theorem dX7_see_18 : decode cX7_see 18 = .ok (.ifCond .eq 13, 3) := by decide +kernel
theorem dX7_see_21 : decode cX7_see 21 = .ok (.iload_n 3, 1) := by decide +kernel
theorem dX7_see_22 : decode cX7_see 22 = .ok (.iconst 0, 1) := by decide +kernel
theorem dX7_see_23 : decode cX7_see 23 = .ok (.bipush 9, 2) := by decide +kernel
theorem dX7_see_25 : decode cX7_see 25 = .ok (.invokestatic 77, 3) := by decide +kernel
theorem dX7_see_28 : decode cX7_see 28 = .ok (.ifCond .ne 6, 3) := by decide +kernel
theorem dX7_see_31 : decode cX7_see 31 = .ok (.bipush (-102), 2) := by decide +kernel
theorem dX7_see_33 : decode cX7_see 33 = .ok (.ireturn, 1) := by decide +kernel
theorem dX7_see_34 : decode cX7_see 34 = .ok (.aload_n 0, 1) := by decide +kernel
theorem dX7_see_35 : decode cX7_see 35 = .ok (.getfield 125, 3) := by decide +kernel
theorem dX7_see_38 : decode cX7_see 38 = .ok (.bipush 8, 2) := by decide +kernel
theorem dX7_see_40 : decode cX7_see 40 = .ok (.if_icmp .ne 6, 3) := by decide +kernel
theorem dX7_see_43 : decode cX7_see 43 = .ok (.bipush (-104), 2) := by decide +kernel
theorem dX7_see_45 : decode cX7_see 45 = .ok (.ireturn, 1) := by decide +kernel
theorem dX7_see_46 : decode cX7_see 46 = .ok (.aload_n 0, 1) := by decide +kernel
theorem dX7_see_47 : decode cX7_see 47 = .ok (.getfield 28, 3) := by decide +kernel
theorem dX7_see_50 : decode cX7_see 50 = .ok (.aload_n 0, 1) := by decide +kernel
theorem dX7_see_51 : decode cX7_see 51 = .ok (.getfield 125, 3) := by decide +kernel
theorem dX7_see_54 : decode cX7_see 54 = .ok (.iload_n 1, 1) := by decide +kernel
theorem dX7_see_55 : decode cX7_see 55 = .ok (.iastore, 1) := by decide +kernel
theorem dX7_see_56 : decode cX7_see 56 = .ok (.aload_n 0, 1) := by decide +kernel
theorem dX7_see_57 : decode cX7_see 57 = .ok (.getfield 31, 3) := by decide +kernel
theorem dX7_see_60 : decode cX7_see 60 = .ok (.aload_n 0, 1) := by decide +kernel
end
section
theorem dX7_see_61 : decode cX7_see 61 = .ok (.getfield 125, 3) := by decide +kernel
theorem dX7_see_64 : decode cX7_see 64 = .ok (.iload_n 2, 1) := by decide +kernel
theorem dX7_see_65 : decode cX7_see 65 = .ok (.iastore, 1) := by decide +kernel
theorem dX7_see_66 : decode cX7_see 66 = .ok (.aload_n 0, 1) := by decide +kernel
theorem dX7_see_67 : decode cX7_see 67 = .ok (.getfield 34, 3) := by decide +kernel
theorem dX7_see_70 : decode cX7_see 70 = .ok (.aload_n 0, 1) := by decide +kernel
theorem dX7_see_71 : decode cX7_see 71 = .ok (.getfield 125, 3) := by decide +kernel
theorem dX7_see_74 : decode cX7_see 74 = .ok (.iload_n 3, 1) := by decide +kernel
theorem dX7_see_75 : decode cX7_see 75 = .ok (.iastore, 1) := by decide +kernel
theorem dX7_see_76 : decode cX7_see 76 = .ok (.aload_n 0, 1) := by decide +kernel
theorem dX7_see_77 : decode cX7_see 77 = .ok (.dup, 1) := by decide +kernel
theorem dX7_see_78 : decode cX7_see 78 = .ok (.getfield 125, 3) := by decide +kernel
theorem dX7_see_81 : decode cX7_see 81 = .ok (.iconst 1, 1) := by decide +kernel
theorem dX7_see_82 : decode cX7_see 82 = .ok (.iadd, 1) := by decide +kernel
theorem dX7_see_83 : decode cX7_see 83 = .ok (.putfield 125, 3) := by decide +kernel
theorem dX7_see_86 : decode cX7_see 86 = .ok (.aload_n 0, 1) := by decide +kernel
theorem dX7_see_87 : decode cX7_see 87 = .ok (.getfield 125, 3) := by decide +kernel
theorem dX7_see_90 : decode cX7_see 90 = .ok (.ireturn, 1) := by decide +kernel
theorem dX7_forget_0 : decode cX7_forget 0 = .ok (.aload_n 0, 1) := by decide +kernel
theorem dX7_forget_1 : decode cX7_forget 1 = .ok (.getfield 125, 3) := by decide +kernel
theorem dX7_forget_4 : decode cX7_forget 4 = .ok (.istore_n 1, 1) := by decide +kernel
theorem dX7_forget_5 : decode cX7_forget 5 = .ok (.aload_n 0, 1) := by decide +kernel
theorem dX7_forget_6 : decode cX7_forget 6 = .ok (.iconst 0, 1) := by decide +kernel
theorem dX7_forget_7 : decode cX7_forget 7 = .ok (.putfield 125, 3) := by decide +kernel
theorem dX7_forget_10 : decode cX7_forget 10 = .ok (.iload_n 1, 1) := by decide +kernel
theorem dX7_forget_11 : decode cX7_forget 11 = .ok (.ireturn, 1) := by decide +kernel
theorem dX7_marksOf_0 : decode cX7_marksOf 0 = .ok (.iconst 0, 1) := by decide +kernel
theorem dX7_marksOf_1 : decode cX7_marksOf 1 = .ok (.istore_n 2, 1) := by decide +kernel
theorem dX7_marksOf_2 : decode cX7_marksOf 2 = .ok (.iconst 0, 1) := by decide +kernel
theorem dX7_marksOf_3 : decode cX7_marksOf 3 = .ok (.istore_n 3, 1) := by decide +kernel
theorem dX7_marksOf_4 : decode cX7_marksOf 4 = .ok (.iload_n 3, 1) := by decide +kernel
theorem dX7_marksOf_5 : decode cX7_marksOf 5 = .ok (.bipush 9, 2) := by decide +kernel
theorem dX7_marksOf_7 : decode cX7_marksOf 7 = .ok (.if_icmp .gt 96, 3) := by decide +kernel
theorem dX7_marksOf_10 : decode cX7_marksOf 10 = .ok (.iconst 1, 1) := by decide +kernel
theorem dX7_marksOf_11 : decode cX7_marksOf 11 = .ok (.istore 4, 2) := by decide +kernel
theorem dX7_marksOf_13 : decode cX7_marksOf 13 = .ok (.iconst 0, 1) := by decide +kernel
theorem dX7_marksOf_14 : decode cX7_marksOf 14 = .ok (.istore 5, 2) := by decide +kernel
theorem dX7_marksOf_16 : decode cX7_marksOf 16 = .ok (.iload 5, 2) := by decide +kernel
theorem dX7_marksOf_18 : decode cX7_marksOf 18 = .ok (.aload_n 0, 1) := by decide +kernel
theorem dX7_marksOf_19 : decode cX7_marksOf 19 = .ok (.getfield 125, 3) := by decide +kernel
theorem dX7_marksOf_22 : decode cX7_marksOf 22 = .ok (.if_icmp .ge 60, 3) := by decide +kernel
theorem dX7_marksOf_25 : decode cX7_marksOf 25 = .ok (.iload 4, 2) := by decide +kernel
theorem dX7_marksOf_27 : decode cX7_marksOf 27 = .ok (.ifCond .eq 46, 3) := by decide +kernel
theorem dX7_marksOf_30 : decode cX7_marksOf 30 = .ok (.aload_n 0, 1) := by decide +kernel
theorem dX7_marksOf_31 : decode cX7_marksOf 31 = .ok (.getfield 28, 3) := by decide +kernel
theorem dX7_marksOf_34 : decode cX7_marksOf 34 = .ok (.iload 5, 2) := by decide +kernel
theorem dX7_marksOf_36 : decode cX7_marksOf 36 = .ok (.iaload, 1) := by decide +kernel
theorem dX7_marksOf_37 : decode cX7_marksOf 37 = .ok (.iload_n 1, 1) := by decide +kernel
theorem dX7_marksOf_38 : decode cX7_marksOf 38 = .ok (.if_icmp .ne 31, 3) := by decide +kernel
theorem dX7_marksOf_41 : decode cX7_marksOf 41 = .ok (.aload_n 0, 1) := by decide +kernel
theorem dX7_marksOf_42 : decode cX7_marksOf 42 = .ok (.iload_n 1, 1) := by decide +kernel
theorem dX7_marksOf_43 : decode cX7_marksOf 43 = .ok (.iload_n 3, 1) := by decide +kernel
theorem dX7_marksOf_44 : decode cX7_marksOf 44 = .ok (.aload_n 0, 1) := by decide +kernel
theorem dX7_marksOf_45 : decode cX7_marksOf 45 = .ok (.iload_n 1, 1) := by decide +kernel
theorem dX7_marksOf_46 : decode cX7_marksOf 46 = .ok (.aload_n 0, 1) := by decide +kernel
theorem dX7_marksOf_47 : decode cX7_marksOf 47 = .ok (.getfield 31, 3) := by decide +kernel
theorem dX7_marksOf_50 : decode cX7_marksOf 50 = .ok (.iload 5, 2) := by decide +kernel
theorem dX7_marksOf_52 : decode cX7_marksOf 52 = .ok (.iaload, 1) := by decide +kernel
theorem dX7_marksOf_53 : decode cX7_marksOf 53 = .ok (.invokevirtual 128, 3) := by decide +kernel
theorem dX7_marksOf_56 : decode cX7_marksOf 56 = .ok (.invokevirtual 132, 3) := by decide +kernel
theorem dX7_marksOf_59 : decode cX7_marksOf 59 = .ok (.aload_n 0, 1) := by decide +kernel
theorem dX7_marksOf_60 : decode cX7_marksOf 60 = .ok (.getfield 34, 3) := by decide +kernel
theorem dX7_marksOf_63 : decode cX7_marksOf 63 = .ok (.iload 5, 2) := by decide +kernel
theorem dX7_marksOf_65 : decode cX7_marksOf 65 = .ok (.iaload, 1) := by decide +kernel
theorem dX7_marksOf_66 : decode cX7_marksOf 66 = .ok (.if_icmp .ne 7, 3) := by decide +kernel
theorem dX7_marksOf_69 : decode cX7_marksOf 69 = .ok (.iconst 1, 1) := by decide +kernel
theorem dX7_marksOf_70 : decode cX7_marksOf 70 = .ok (.goto 4, 3) := by decide +kernel
theorem dX7_marksOf_73 : decode cX7_marksOf 73 = .ok (.iconst 0, 1) := by decide +kernel
theorem dX7_marksOf_74 : decode cX7_marksOf 74 = .ok (.istore 4, 2) := by decide +kernel
theorem dX7_marksOf_76 : decode cX7_marksOf 76 = .ok (.iinc 5 1, 3) := by decide +kernel
theorem dX7_marksOf_79 : decode cX7_marksOf 79 = .ok (.goto (-63), 3) := by decide +kernel
theorem dX7_marksOf_82 : decode cX7_marksOf 82 = .ok (.iload_n 2, 1) := by decide +kernel
theorem dX7_marksOf_83 : decode cX7_marksOf 83 = .ok (.iload 4, 2) := by decide +kernel
theorem dX7_marksOf_85 : decode cX7_marksOf 85 = .ok (.ifCond .eq 9, 3) := by decide +kernel
theorem dX7_marksOf_88 : decode cX7_marksOf 88 = .ok (.iconst 1, 1) := by decide +kernel
theorem dX7_marksOf_89 : decode cX7_marksOf 89 = .ok (.iload_n 3, 1) := by decide +kernel
theorem dX7_marksOf_90 : decode cX7_marksOf 90 = .ok (.ishl, 1) := by decide +kernel
theorem dX7_marksOf_91 : decode cX7_marksOf 91 = .ok (.goto 4, 3) := by decide +kernel
theorem dX7_marksOf_94 : decode cX7_marksOf 94 = .ok (.iconst 0, 1) := by decide +kernel
theorem dX7_marksOf_95 : decode cX7_marksOf 95 = .ok (.ior, 1) := by decide +kernel
theorem dX7_marksOf_96 : decode cX7_marksOf 96 = .ok (.istore_n 2, 1) := by decide +kernel
theorem dX7_marksOf_97 : decode cX7_marksOf 97 = .ok (.iinc 3 1, 3) := by decide +kernel
theorem dX7_marksOf_100 : decode cX7_marksOf 100 = .ok (.goto (-96), 3) := by decide +kernel
theorem dX7_marksOf_103 : decode cX7_marksOf 103 = .ok (.iload_n 2, 1) := by decide +kernel
theorem dX7_marksOf_104 : decode cX7_marksOf 104 = .ok (.ireturn, 1) := by decide +kernel
theorem dX7_worstBy_0 : decode cX7_worstBy 0 = .ok (.iconst 0, 1) := by decide +kernel
theorem dX7_worstBy_1 : decode cX7_worstBy 1 = .ok (.istore 4, 2) := by decide +kernel
theorem dX7_worstBy_3 : decode cX7_worstBy 3 = .ok (.iconst 0, 1) := by decide +kernel
theorem dX7_worstBy_4 : decode cX7_worstBy 4 = .ok (.istore 5, 2) := by decide +kernel
theorem dX7_worstBy_6 : decode cX7_worstBy 6 = .ok (.iload 5, 2) := by decide +kernel
theorem dX7_worstBy_8 : decode cX7_worstBy 8 = .ok (.bipush 9, 2) := by decide +kernel
theorem dX7_worstBy_10 : decode cX7_worstBy 10 = .ok (.if_icmp .gt 101, 3) := by decide +kernel
theorem dX7_worstBy_13 : decode cX7_worstBy 13 = .ok (.iconst 0, 1) := by decide +kernel
theorem dX7_worstBy_14 : decode cX7_worstBy 14 = .ok (.istore 6, 2) := by decide +kernel
theorem dX7_worstBy_16 : decode cX7_worstBy 16 = .ok (.iconst 0, 1) := by decide +kernel
theorem dX7_worstBy_17 : decode cX7_worstBy 17 = .ok (.istore 7, 2) := by decide +kernel
theorem dX7_worstBy_19 : decode cX7_worstBy 19 = .ok (.iload 7, 2) := by decide +kernel
theorem dX7_worstBy_21 : decode cX7_worstBy 21 = .ok (.bipush 9, 2) := by decide +kernel
theorem dX7_worstBy_23 : decode cX7_worstBy 23 = .ok (.if_icmp .gt 66, 3) := by decide +kernel
theorem dX7_worstBy_26 : decode cX7_worstBy 26 = .ok (.iload 6, 2) := by decide +kernel
theorem dX7_worstBy_28 : decode cX7_worstBy 28 = .ok (.iload_n 2, 1) := by decide +kernel
theorem dX7_worstBy_29 : decode cX7_worstBy 29 = .ok (.iload 5, 2) := by decide +kernel
theorem dX7_worstBy_31 : decode cX7_worstBy 31 = .ok (.invokestatic 139, 3) := by decide +kernel
theorem dX7_worstBy_34 : decode cX7_worstBy 34 = .ok (.ifCond .eq 45, 3) := by decide +kernel
theorem dX7_worstBy_37 : decode cX7_worstBy 37 = .ok (.iload_n 2, 1) := by decide +kernel
theorem dX7_worstBy_38 : decode cX7_worstBy 38 = .ok (.iload 7, 2) := by decide +kernel
theorem dX7_worstBy_40 : decode cX7_worstBy 40 = .ok (.invokestatic 139, 3) := by decide +kernel
theorem dX7_worstBy_43 : decode cX7_worstBy 43 = .ok (.ifCond .eq 36, 3) := by decide +kernel
theorem dX7_worstBy_46 : decode cX7_worstBy 46 = .ok (.aload_n 0, 1) := by decide +kernel
theorem dX7_worstBy_47 : decode cX7_worstBy 47 = .ok (.iload_n 1, 1) := by decide +kernel
theorem dX7_worstBy_48 : decode cX7_worstBy 48 = .ok (.iload 5, 2) := by decide +kernel
theorem dX7_worstBy_50 : decode cX7_worstBy 50 = .ok (.aload_n 0, 1) := by decide +kernel
theorem dX7_worstBy_51 : decode cX7_worstBy 51 = .ok (.iload_n 1, 1) := by decide +kernel
theorem dX7_worstBy_52 : decode cX7_worstBy 52 = .ok (.iload_n 3, 1) := by decide +kernel
theorem dX7_worstBy_53 : decode cX7_worstBy 53 = .ok (.invokevirtual 128, 3) := by decide +kernel
theorem dX7_worstBy_56 : decode cX7_worstBy 56 = .ok (.invokevirtual 132, 3) := by decide +kernel
theorem dX7_worstBy_59 : decode cX7_worstBy 59 = .ok (.aload_n 0, 1) := by decide +kernel
theorem dX7_worstBy_60 : decode cX7_worstBy 60 = .ok (.iload_n 1, 1) := by decide +kernel
theorem dX7_worstBy_61 : decode cX7_worstBy 61 = .ok (.iload 7, 2) := by decide +kernel
theorem dX7_worstBy_63 : decode cX7_worstBy 63 = .ok (.aload_n 0, 1) := by decide +kernel
theorem dX7_worstBy_64 : decode cX7_worstBy 64 = .ok (.iload_n 1, 1) := by decide +kernel
theorem dX7_worstBy_65 : decode cX7_worstBy 65 = .ok (.iload_n 3, 1) := by decide +kernel
theorem dX7_worstBy_66 : decode cX7_worstBy 66 = .ok (.invokevirtual 128, 3) := by decide +kernel
theorem dX7_worstBy_69 : decode cX7_worstBy 69 = .ok (.invokevirtual 132, 3) := by decide +kernel
theorem dX7_worstBy_72 : decode cX7_worstBy 72 = .ok (.if_icmp .ne 7, 3) := by decide +kernel
theorem dX7_worstBy_75 : decode cX7_worstBy 75 = .ok (.iconst 1, 1) := by decide +kernel
theorem dX7_worstBy_76 : decode cX7_worstBy 76 = .ok (.goto 4, 3) := by decide +kernel
theorem dX7_worstBy_79 : decode cX7_worstBy 79 = .ok (.iconst 0, 1) := by decide +kernel
theorem dX7_worstBy_80 : decode cX7_worstBy 80 = .ok (.iadd, 1) := by decide +kernel
theorem dX7_worstBy_81 : decode cX7_worstBy 81 = .ok (.istore 6, 2) := by decide +kernel
theorem dX7_worstBy_83 : decode cX7_worstBy 83 = .ok (.iinc 7 1, 3) := by decide +kernel
theorem dX7_worstBy_86 : decode cX7_worstBy 86 = .ok (.goto (-67), 3) := by decide +kernel
theorem dX7_worstBy_89 : decode cX7_worstBy 89 = .ok (.iload 6, 2) := by decide +kernel
theorem dX7_worstBy_91 : decode cX7_worstBy 91 = .ok (.iload 4, 2) := by decide +kernel
theorem dX7_worstBy_93 : decode cX7_worstBy 93 = .ok (.if_icmp .le 8, 3) := by decide +kernel
theorem dX7_worstBy_96 : decode cX7_worstBy 96 = .ok (.iload 6, 2) := by decide +kernel
theorem dX7_worstBy_98 : decode cX7_worstBy 98 = .ok (.goto 5, 3) := by decide +kernel
theorem dX7_worstBy_101 : decode cX7_worstBy 101 = .ok (.iload 4, 2) := by decide +kernel
theorem dX7_worstBy_103 : decode cX7_worstBy 103 = .ok (.istore 4, 2) := by decide +kernel
theorem dX7_worstBy_105 : decode cX7_worstBy 105 = .ok (.iinc 5 1, 3) := by decide +kernel
theorem dX7_worstBy_108 : decode cX7_worstBy 108 = .ok (.goto (-102), 3) := by decide +kernel
theorem dX7_worstBy_111 : decode cX7_worstBy 111 = .ok (.iload 4, 2) := by decide +kernel
theorem dX7_worstBy_113 : decode cX7_worstBy 113 = .ok (.ireturn, 1) := by decide +kernel
theorem dX7_feelFor_0 : decode cX7_feelFor 0 = .ok (.aload_n 0, 1) := by decide +kernel
theorem dX7_feelFor_1 : decode cX7_feelFor 1 = .ok (.iload_n 1, 1) := by decide +kernel
theorem dX7_feelFor_2 : decode cX7_feelFor 2 = .ok (.invokevirtual 158, 3) := by decide +kernel
theorem dX7_feelFor_5 : decode cX7_feelFor 5 = .ok (.istore_n 2, 1) := by decide +kernel
theorem dX7_feelFor_6 : decode cX7_feelFor 6 = .ok (.iconst (-1), 1) := by decide +kernel
theorem dX7_feelFor_7 : decode cX7_feelFor 7 = .ok (.istore_n 3, 1) := by decide +kernel
theorem dX7_feelFor_8 : decode cX7_feelFor 8 = .ok (.ldc 200, 2) := by decide +kernel
theorem dX7_feelFor_10 : decode cX7_feelFor 10 = .ok (.istore 4, 2) := by decide +kernel
theorem dX7_feelFor_12 : decode cX7_feelFor 12 = .ok (.iconst 0, 1) := by decide +kernel
theorem dX7_feelFor_13 : decode cX7_feelFor 13 = .ok (.istore 5, 2) := by decide +kernel
theorem dX7_feelFor_15 : decode cX7_feelFor 15 = .ok (.iload 5, 2) := by decide +kernel
theorem dX7_feelFor_17 : decode cX7_feelFor 17 = .ok (.bipush 9, 2) := by decide +kernel
theorem dX7_feelFor_19 : decode cX7_feelFor 19 = .ok (.if_icmp .gt 53, 3) := by decide +kernel
theorem dX7_feelFor_22 : decode cX7_feelFor 22 = .ok (.iload_n 2, 1) := by decide +kernel
theorem dX7_feelFor_23 : decode cX7_feelFor 23 = .ok (.ifCond .eq 49, 3) := by decide +kernel
theorem dX7_feelFor_26 : decode cX7_feelFor 26 = .ok (.aload_n 0, 1) := by decide +kernel
theorem dX7_feelFor_27 : decode cX7_feelFor 27 = .ok (.iload_n 1, 1) := by decide +kernel
theorem dX7_feelFor_28 : decode cX7_feelFor 28 = .ok (.iload_n 2, 1) := by decide +kernel
theorem dX7_feelFor_29 : decode cX7_feelFor 29 = .ok (.iload 5, 2) := by decide +kernel
theorem dX7_feelFor_31 : decode cX7_feelFor 31 = .ok (.invokevirtual 240, 3) := by decide +kernel
theorem dX7_feelFor_34 : decode cX7_feelFor 34 = .ok (.istore 6, 2) := by decide +kernel
theorem dX7_feelFor_36 : decode cX7_feelFor 36 = .ok (.iload 6, 2) := by decide +kernel
theorem dX7_feelFor_38 : decode cX7_feelFor 38 = .ok (.iload 4, 2) := by decide +kernel
theorem dX7_feelFor_40 : decode cX7_feelFor 40 = .ok (.if_icmp .ge 8, 3) := by decide +kernel
theorem dX7_feelFor_43 : decode cX7_feelFor 43 = .ok (.iload 5, 2) := by decide +kernel
theorem dX7_feelFor_45 : decode cX7_feelFor 45 = .ok (.goto 4, 3) := by decide +kernel
theorem dX7_feelFor_48 : decode cX7_feelFor 48 = .ok (.iload_n 3, 1) := by decide +kernel
theorem dX7_feelFor_49 : decode cX7_feelFor 49 = .ok (.istore_n 3, 1) := by decide +kernel
theorem dX7_feelFor_50 : decode cX7_feelFor 50 = .ok (.iload 6, 2) := by decide +kernel
theorem dX7_feelFor_52 : decode cX7_feelFor 52 = .ok (.iload 4, 2) := by decide +kernel
theorem dX7_feelFor_54 : decode cX7_feelFor 54 = .ok (.if_icmp .ge 8, 3) := by decide +kernel
theorem dX7_feelFor_57 : decode cX7_feelFor 57 = .ok (.iload 6, 2) := by decide +kernel
theorem dX7_feelFor_59 : decode cX7_feelFor 59 = .ok (.goto 5, 3) := by decide +kernel
theorem dX7_feelFor_62 : decode cX7_feelFor 62 = .ok (.iload 4, 2) := by decide +kernel
theorem dX7_feelFor_64 : decode cX7_feelFor 64 = .ok (.istore 4, 2) := by decide +kernel
theorem dX7_feelFor_66 : decode cX7_feelFor 66 = .ok (.iinc 5 1, 3) := by decide +kernel
theorem dX7_feelFor_69 : decode cX7_feelFor 69 = .ok (.goto (-54), 3) := by decide +kernel
theorem dX7_feelFor_72 : decode cX7_feelFor 72 = .ok (.iload_n 3, 1) := by decide +kernel
theorem dX7_feelFor_73 : decode cX7_feelFor 73 = .ok (.ireturn, 1) := by decide +kernel
theorem dX7_draw_0 : decode cX7_draw 0 = .ok (.aload_n 0, 1) := by decide +kernel
theorem dX7_draw_1 : decode cX7_draw 1 = .ok (.ldc2_w 243, 3) := by decide +kernel
theorem dX7_draw_4 : decode cX7_draw 4 = .ok (.aload_n 0, 1) := by decide +kernel
theorem dX7_draw_5 : decode cX7_draw 5 = .ok (.getfield 245, 3) := by decide +kernel
theorem dX7_draw_8 : decode cX7_draw 8 = .ok (.lmul, 1) := by decide +kernel
theorem dX7_draw_9 : decode cX7_draw 9 = .ok (.ldc2_w 249, 3) := by decide +kernel
theorem dX7_draw_12 : decode cX7_draw 12 = .ok (.ladd, 1) := by decide +kernel
theorem dX7_draw_13 : decode cX7_draw 13 = .ok (.ldc2_w 251, 3) := by decide +kernel
theorem dX7_draw_16 : decode cX7_draw 16 = .ok (.land, 1) := by decide +kernel
theorem dX7_draw_17 : decode cX7_draw 17 = .ok (.putfield 245, 3) := by decide +kernel
theorem dX7_draw_20 : decode cX7_draw 20 = .ok (.aload_n 0, 1) := by decide +kernel
theorem dX7_draw_21 : decode cX7_draw 21 = .ok (.getfield 245, 3) := by decide +kernel
theorem dX7_draw_24 : decode cX7_draw 24 = .ok (.ldc2_w 253, 3) := by decide +kernel
theorem dX7_draw_27 : decode cX7_draw 27 = .ok (.ldiv, 1) := by decide +kernel
theorem dX7_draw_28 : decode cX7_draw 28 = .ok (.iload_n 1, 1) := by decide +kernel
theorem dX7_draw_29 : decode cX7_draw 29 = .ok (.i2l, 1) := by decide +kernel
theorem dX7_draw_30 : decode cX7_draw 30 = .ok (.lrem, 1) := by decide +kernel
theorem dX7_draw_31 : decode cX7_draw 31 = .ok (.l2i, 1) := by decide +kernel
theorem dX7_draw_32 : decode cX7_draw 32 = .ok (.ireturn, 1) := by decide +kernel
theorem dX7_butting_0 : decode cX7_butting 0 = .ok (.iconst 0, 1) := by decide +kernel
theorem dX7_butting_1 : decode cX7_butting 1 = .ok (.istore_n 1, 1) := by decide +kernel
theorem dX7_butting_2 : decode cX7_butting 2 = .ok (.iconst 0, 1) := by decide +kernel
theorem dX7_butting_3 : decode cX7_butting 3 = .ok (.istore_n 2, 1) := by decide +kernel
theorem dX7_butting_4 : decode cX7_butting 4 = .ok (.iload_n 2, 1) := by decide +kernel
theorem dX7_butting_5 : decode cX7_butting 5 = .ok (.aload_n 0, 1) := by decide +kernel
theorem dX7_butting_6 : decode cX7_butting 6 = .ok (.getfield 116, 3) := by decide +kernel
theorem dX7_butting_9 : decode cX7_butting 9 = .ok (.if_icmp .ge 29, 3) := by decide +kernel
theorem dX7_butting_12 : decode cX7_butting 12 = .ok (.iload_n 1, 1) := by decide +kernel
theorem dX7_butting_13 : decode cX7_butting 13 = .ok (.aload_n 0, 1) := by decide +kernel
theorem dX7_butting_14 : decode cX7_butting 14 = .ok (.iload_n 2, 1) := by decide +kernel
theorem dX7_butting_15 : decode cX7_butting 15 = .ok (.invokevirtual 170, 3) := by decide +kernel
theorem dX7_butting_18 : decode cX7_butting 18 = .ok (.invokestatic 152, 3) := by decide +kernel
theorem dX7_butting_21 : decode cX7_butting 21 = .ok (.iconst 1, 1) := by decide +kernel
theorem dX7_butting_22 : decode cX7_butting 22 = .ok (.if_icmp .ne 7, 3) := by decide +kernel
theorem dX7_butting_25 : decode cX7_butting 25 = .ok (.iconst 1, 1) := by decide +kernel
theorem dX7_butting_26 : decode cX7_butting 26 = .ok (.goto 4, 3) := by decide +kernel
theorem dX7_butting_29 : decode cX7_butting 29 = .ok (.iconst 0, 1) := by decide +kernel
theorem dX7_butting_30 : decode cX7_butting 30 = .ok (.iadd, 1) := by decide +kernel
theorem dX7_butting_31 : decode cX7_butting 31 = .ok (.istore_n 1, 1) := by decide +kernel
theorem dX7_butting_32 : decode cX7_butting 32 = .ok (.iinc 2 1, 3) := by decide +kernel
theorem dX7_butting_35 : decode cX7_butting 35 = .ok (.goto (-31), 3) := by decide +kernel
theorem dX7_butting_38 : decode cX7_butting 38 = .ok (.iload_n 1, 1) := by decide +kernel
theorem dX7_butting_39 : decode cX7_butting 39 = .ok (.ireturn, 1) := by decide +kernel
theorem dX7_onHands_0 : decode cX7_onHands 0 = .ok (.iconst 0, 1) := by decide +kernel
theorem dX7_onHands_1 : decode cX7_onHands 1 = .ok (.istore_n 1, 1) := by decide +kernel
theorem dX7_onHands_2 : decode cX7_onHands 2 = .ok (.iconst 0, 1) := by decide +kernel
theorem dX7_onHands_3 : decode cX7_onHands 3 = .ok (.istore_n 2, 1) := by decide +kernel
theorem dX7_onHands_4 : decode cX7_onHands 4 = .ok (.iload_n 2, 1) := by decide +kernel
theorem dX7_onHands_5 : decode cX7_onHands 5 = .ok (.aload_n 0, 1) := by decide +kernel
theorem dX7_onHands_6 : decode cX7_onHands 6 = .ok (.getfield 113, 3) := by decide +kernel
theorem dX7_onHands_9 : decode cX7_onHands 9 = .ok (.if_icmp .ge 27, 3) := by decide +kernel
theorem dX7_onHands_12 : decode cX7_onHands 12 = .ok (.iload_n 1, 1) := by decide +kernel
theorem dX7_onHands_13 : decode cX7_onHands 13 = .ok (.aload_n 0, 1) := by decide +kernel
theorem dX7_onHands_14 : decode cX7_onHands 14 = .ok (.getfield 19, 3) := by decide +kernel
theorem dX7_onHands_17 : decode cX7_onHands 17 = .ok (.iload_n 2, 1) := by decide +kernel
theorem dX7_onHands_18 : decode cX7_onHands 18 = .ok (.iaload, 1) := by decide +kernel
theorem dX7_onHands_19 : decode cX7_onHands 19 = .ok (.iconst (-1), 1) := by decide +kernel
theorem dX7_onHands_20 : decode cX7_onHands 20 = .ok (.if_icmp .ne 7, 3) := by decide +kernel
theorem dX7_onHands_23 : decode cX7_onHands 23 = .ok (.iconst 0, 1) := by decide +kernel
theorem dX7_onHands_24 : decode cX7_onHands 24 = .ok (.goto 4, 3) := by decide +kernel
theorem dX7_onHands_27 : decode cX7_onHands 27 = .ok (.iconst 1, 1) := by decide +kernel
theorem dX7_onHands_28 : decode cX7_onHands 28 = .ok (.iadd, 1) := by decide +kernel
theorem dX7_onHands_29 : decode cX7_onHands 29 = .ok (.istore_n 1, 1) := by decide +kernel
theorem dX7_onHands_30 : decode cX7_onHands 30 = .ok (.iinc 2 1, 3) := by decide +kernel
theorem dX7_onHands_33 : decode cX7_onHands 33 = .ok (.goto (-29), 3) := by decide +kernel
theorem dX7_onHands_36 : decode cX7_onHands 36 = .ok (.iload_n 1, 1) := by decide +kernel
theorem dX7_onHands_37 : decode cX7_onHands 37 = .ok (.ireturn, 1) := by decide +kernel
theorem dX7_takeTea_0 : decode cX7_takeTea 0 = .ok (.aload_n 0, 1) := by decide +kernel
theorem dX7_takeTea_1 : decode cX7_takeTea 1 = .ok (.aload_n 0, 1) := by decide +kernel
theorem dX7_takeTea_2 : decode cX7_takeTea 2 = .ok (.getfield 113, 3) := by decide +kernel
theorem dX7_takeTea_5 : decode cX7_takeTea 5 = .ok (.invokevirtual 255, 3) := by decide +kernel
theorem dX7_takeTea_8 : decode cX7_takeTea 8 = .ok (.istore_n 1, 1) := by decide +kernel
theorem dX7_takeTea_9 : decode cX7_takeTea 9 = .ok (.aload_n 0, 1) := by decide +kernel
theorem dX7_takeTea_10 : decode cX7_takeTea 10 = .ok (.getfield 19, 3) := by decide +kernel
theorem dX7_takeTea_13 : decode cX7_takeTea 13 = .ok (.iload_n 1, 1) := by decide +kernel
theorem dX7_takeTea_14 : decode cX7_takeTea 14 = .ok (.iaload, 1) := by decide +kernel
theorem dX7_takeTea_15 : decode cX7_takeTea 15 = .ok (.iconst (-1), 1) := by decide +kernel
theorem dX7_takeTea_16 : decode cX7_takeTea 16 = .ok (.if_icmp .eq 13, 3) := by decide +kernel
theorem dX7_takeTea_19 : decode cX7_takeTea 19 = .ok (.aload_n 0, 1) := by decide +kernel
theorem dX7_takeTea_20 : decode cX7_takeTea 20 = .ok (.getfield 19, 3) := by decide +kernel
theorem dX7_takeTea_23 : decode cX7_takeTea 23 = .ok (.iload_n 1, 1) := by decide +kernel
theorem dX7_takeTea_24 : decode cX7_takeTea 24 = .ok (.iconst (-1), 1) := by decide +kernel
theorem dX7_takeTea_25 : decode cX7_takeTea 25 = .ok (.iastore, 1) := by decide +kernel
theorem dX7_takeTea_26 : decode cX7_takeTea 26 = .ok (.goto 42, 3) := by decide +kernel
theorem dX7_takeTea_29 : decode cX7_takeTea 29 = .ok (.iconst 2, 1) := by decide +kernel
theorem dX7_takeTea_30 : decode cX7_takeTea 30 = .ok (.aload_n 0, 1) := by decide +kernel
theorem dX7_takeTea_31 : decode cX7_takeTea 31 = .ok (.aload_n 0, 1) := by decide +kernel
theorem dX7_takeTea_32 : decode cX7_takeTea 32 = .ok (.getfield 116, 3) := by decide +kernel
theorem dX7_takeTea_35 : decode cX7_takeTea 35 = .ok (.invokevirtual 255, 3) := by decide +kernel
theorem dX7_takeTea_38 : decode cX7_takeTea 38 = .ok (.imul, 1) := by decide +kernel
theorem dX7_takeTea_39 : decode cX7_takeTea 39 = .ok (.istore_n 2, 1) := by decide +kernel
theorem dX7_takeTea_40 : decode cX7_takeTea 40 = .ok (.iload_n 2, 1) := by decide +kernel
theorem dX7_takeTea_41 : decode cX7_takeTea 41 = .ok (.aload_n 0, 1) := by decide +kernel
theorem dX7_takeTea_42 : decode cX7_takeTea 42 = .ok (.iconst 2, 1) := by decide +kernel
theorem dX7_takeTea_43 : decode cX7_takeTea 43 = .ok (.invokevirtual 255, 3) := by decide +kernel
theorem dX7_takeTea_46 : decode cX7_takeTea 46 = .ok (.iadd, 1) := by decide +kernel
theorem dX7_takeTea_47 : decode cX7_takeTea 47 = .ok (.istore_n 2, 1) := by decide +kernel
theorem dX7_takeTea_48 : decode cX7_takeTea 48 = .ok (.aload_n 0, 1) := by decide +kernel
theorem dX7_takeTea_49 : decode cX7_takeTea 49 = .ok (.getfield 19, 3) := by decide +kernel
theorem dX7_takeTea_52 : decode cX7_takeTea 52 = .ok (.iload_n 1, 1) := by decide +kernel
theorem dX7_takeTea_53 : decode cX7_takeTea 53 = .ok (.aload_n 0, 1) := by decide +kernel
theorem dX7_takeTea_54 : decode cX7_takeTea 54 = .ok (.iload_n 2, 1) := by decide +kernel
theorem dX7_takeTea_55 : decode cX7_takeTea 55 = .ok (.invokevirtual 173, 3) := by decide +kernel
theorem dX7_takeTea_58 : decode cX7_takeTea 58 = .ok (.iconst (-1), 1) := by decide +kernel
theorem dX7_takeTea_59 : decode cX7_takeTea 59 = .ok (.if_icmp .ne 7, 3) := by decide +kernel
theorem dX7_takeTea_62 : decode cX7_takeTea 62 = .ok (.iload_n 2, 1) := by decide +kernel
theorem dX7_takeTea_63 : decode cX7_takeTea 63 = .ok (.goto 4, 3) := by decide +kernel
theorem dX7_takeTea_66 : decode cX7_takeTea 66 = .ok (.iconst (-1), 1) := by decide +kernel
theorem dX7_takeTea_67 : decode cX7_takeTea 67 = .ok (.iastore, 1) := by decide +kernel
theorem dX7_takeTea_68 : decode cX7_takeTea 68 = .ok (.aload_n 0, 1) := by decide +kernel
theorem dX7_takeTea_69 : decode cX7_takeTea 69 = .ok (.invokevirtual 188, 3) := by decide +kernel
theorem dX7_takeTea_72 : decode cX7_takeTea 72 = .ok (.return_, 1) := by decide +kernel
theorem dX7_teasNow_0 : decode cX7_teasNow 0 = .ok (.iconst 0, 1) := by decide +kernel
theorem dX7_teasNow_1 : decode cX7_teasNow 1 = .ok (.istore 4, 2) := by decide +kernel
theorem dX7_teasNow_3 : decode cX7_teasNow 3 = .ok (.iload 4, 2) := by decide +kernel
theorem dX7_teasNow_5 : decode cX7_teasNow 5 = .ok (.bipush 6, 2) := by decide +kernel
theorem dX7_teasNow_7 : decode cX7_teasNow 7 = .ok (.if_icmp .ge 37, 3) := by decide +kernel
theorem dX7_teasNow_10 : decode cX7_teasNow 10 = .ok (.aload_n 0, 1) := by decide +kernel
theorem dX7_teasNow_11 : decode cX7_teasNow 11 = .ok (.getfield 47, 3) := by decide +kernel
theorem dX7_teasNow_14 : decode cX7_teasNow 14 = .ok (.iload 4, 2) := by decide +kernel
theorem dX7_teasNow_16 : decode cX7_teasNow 16 = .ok (.aload_n 0, 1) := by decide +kernel
theorem dX7_teasNow_17 : decode cX7_teasNow 17 = .ok (.getfield 16, 3) := by decide +kernel
theorem dX7_teasNow_20 : decode cX7_teasNow 20 = .ok (.iload 4, 2) := by decide +kernel
theorem dX7_teasNow_22 : decode cX7_teasNow 22 = .ok (.iaload, 1) := by decide +kernel
theorem dX7_teasNow_23 : decode cX7_teasNow 23 = .ok (.iastore, 1) := by decide +kernel
theorem dX7_teasNow_24 : decode cX7_teasNow 24 = .ok (.aload_n 0, 1) := by decide +kernel
theorem dX7_teasNow_25 : decode cX7_teasNow 25 = .ok (.getfield 50, 3) := by decide +kernel
theorem dX7_teasNow_28 : decode cX7_teasNow 28 = .ok (.iload 4, 2) := by decide +kernel
theorem dX7_teasNow_30 : decode cX7_teasNow 30 = .ok (.aload_n 0, 1) := by decide +kernel
theorem dX7_teasNow_31 : decode cX7_teasNow 31 = .ok (.getfield 19, 3) := by decide +kernel
theorem dX7_teasNow_34 : decode cX7_teasNow 34 = .ok (.iload 4, 2) := by decide +kernel
theorem dX7_teasNow_36 : decode cX7_teasNow 36 = .ok (.iaload, 1) := by decide +kernel
theorem dX7_teasNow_37 : decode cX7_teasNow 37 = .ok (.iastore, 1) := by decide +kernel
theorem dX7_teasNow_38 : decode cX7_teasNow 38 = .ok (.iinc 4 1, 3) := by decide +kernel
theorem dX7_teasNow_41 : decode cX7_teasNow 41 = .ok (.goto (-38), 3) := by decide +kernel
theorem dX7_teasNow_44 : decode cX7_teasNow 44 = .ok (.aload_n 0, 1) := by decide +kernel
theorem dX7_teasNow_45 : decode cX7_teasNow 45 = .ok (.iload_n 2, 1) := by decide +kernel
theorem dX7_teasNow_46 : decode cX7_teasNow 46 = .ok (.i2l, 1) := by decide +kernel
theorem dX7_teasNow_47 : decode cX7_teasNow 47 = .ok (.putfield 245, 3) := by decide +kernel
theorem dX7_teasNow_50 : decode cX7_teasNow 50 = .ok (.iconst 0, 1) := by decide +kernel
theorem dX7_teasNow_51 : decode cX7_teasNow 51 = .ok (.istore 4, 2) := by decide +kernel
theorem dX7_teasNow_53 : decode cX7_teasNow 53 = .ok (.iconst 0, 1) := by decide +kernel
theorem dX7_teasNow_54 : decode cX7_teasNow 54 = .ok (.istore 5, 2) := by decide +kernel
theorem dX7_teasNow_56 : decode cX7_teasNow 56 = .ok (.iload 5, 2) := by decide +kernel
theorem dX7_teasNow_58 : decode cX7_teasNow 58 = .ok (.iload_n 1, 1) := by decide +kernel
theorem dX7_teasNow_59 : decode cX7_teasNow 59 = .ok (.if_icmp .ge 22, 3) := by decide +kernel
theorem dX7_teasNow_62 : decode cX7_teasNow 62 = .ok (.aload_n 0, 1) := by decide +kernel
theorem dX7_teasNow_63 : decode cX7_teasNow 63 = .ok (.invokevirtual 258, 3) := by decide +kernel
theorem dX7_teasNow_66 : decode cX7_teasNow 66 = .ok (.iload 4, 2) := by decide +kernel
theorem dX7_teasNow_68 : decode cX7_teasNow 68 = .ok (.aload_n 0, 1) := by decide +kernel
theorem dX7_teasNow_69 : decode cX7_teasNow 69 = .ok (.invokevirtual 261, 3) := by decide +kernel
theorem dX7_teasNow_72 : decode cX7_teasNow 72 = .ok (.iadd, 1) := by decide +kernel
theorem dX7_teasNow_73 : decode cX7_teasNow 73 = .ok (.istore 4, 2) := by decide +kernel
theorem dX7_teasNow_75 : decode cX7_teasNow 75 = .ok (.iinc 5 1, 3) := by decide +kernel
theorem dX7_teasNow_78 : decode cX7_teasNow 78 = .ok (.goto (-22), 3) := by decide +kernel
theorem dX7_teasNow_81 : decode cX7_teasNow 81 = .ok (.aload_n 0, 1) := by decide +kernel
theorem dX7_teasNow_82 : decode cX7_teasNow 82 = .ok (.invokevirtual 264, 3) := by decide +kernel
theorem dX7_teasNow_85 : decode cX7_teasNow 85 = .ok (.istore 5, 2) := by decide +kernel
theorem dX7_teasNow_87 : decode cX7_teasNow 87 = .ok (.iconst 0, 1) := by decide +kernel
theorem dX7_teasNow_88 : decode cX7_teasNow 88 = .ok (.istore 6, 2) := by decide +kernel
theorem dX7_teasNow_90 : decode cX7_teasNow 90 = .ok (.iload 6, 2) := by decide +kernel
theorem dX7_teasNow_92 : decode cX7_teasNow 92 = .ok (.bipush 6, 2) := by decide +kernel
theorem dX7_teasNow_94 : decode cX7_teasNow 94 = .ok (.if_icmp .ge 37, 3) := by decide +kernel
theorem dX7_teasNow_97 : decode cX7_teasNow 97 = .ok (.aload_n 0, 1) := by decide +kernel
theorem dX7_teasNow_98 : decode cX7_teasNow 98 = .ok (.getfield 16, 3) := by decide +kernel
theorem dX7_teasNow_101 : decode cX7_teasNow 101 = .ok (.iload 6, 2) := by decide +kernel
theorem dX7_teasNow_103 : decode cX7_teasNow 103 = .ok (.aload_n 0, 1) := by decide +kernel
theorem dX7_teasNow_104 : decode cX7_teasNow 104 = .ok (.getfield 47, 3) := by decide +kernel
theorem dX7_teasNow_107 : decode cX7_teasNow 107 = .ok (.iload 6, 2) := by decide +kernel
theorem dX7_teasNow_109 : decode cX7_teasNow 109 = .ok (.iaload, 1) := by decide +kernel
theorem dX7_teasNow_110 : decode cX7_teasNow 110 = .ok (.iastore, 1) := by decide +kernel
theorem dX7_teasNow_111 : decode cX7_teasNow 111 = .ok (.aload_n 0, 1) := by decide +kernel
theorem dX7_teasNow_112 : decode cX7_teasNow 112 = .ok (.getfield 19, 3) := by decide +kernel
theorem dX7_teasNow_115 : decode cX7_teasNow 115 = .ok (.iload 6, 2) := by decide +kernel
theorem dX7_teasNow_117 : decode cX7_teasNow 117 = .ok (.aload_n 0, 1) := by decide +kernel
theorem dX7_teasNow_118 : decode cX7_teasNow 118 = .ok (.getfield 50, 3) := by decide +kernel
theorem dX7_teasNow_121 : decode cX7_teasNow 121 = .ok (.iload 6, 2) := by decide +kernel
theorem dX7_teasNow_123 : decode cX7_teasNow 123 = .ok (.iaload, 1) := by decide +kernel
theorem dX7_teasNow_124 : decode cX7_teasNow 124 = .ok (.iastore, 1) := by decide +kernel
theorem dX7_teasNow_125 : decode cX7_teasNow 125 = .ok (.iinc 6 1, 3) := by decide +kernel
theorem dX7_teasNow_128 : decode cX7_teasNow 128 = .ok (.goto (-38), 3) := by decide +kernel
theorem dX7_teasNow_131 : decode cX7_teasNow 131 = .ok (.iload_n 3, 1) := by decide +kernel
theorem dX7_teasNow_132 : decode cX7_teasNow 132 = .ok (.ifCond .ne 8, 3) := by decide +kernel
theorem dX7_teasNow_135 : decode cX7_teasNow 135 = .ok (.iload 4, 2) := by decide +kernel
theorem dX7_teasNow_137 : decode cX7_teasNow 137 = .ok (.goto 18, 3) := by decide +kernel
theorem dX7_teasNow_140 : decode cX7_teasNow 140 = .ok (.iload_n 3, 1) := by decide +kernel
theorem dX7_teasNow_141 : decode cX7_teasNow 141 = .ok (.iconst 1, 1) := by decide +kernel
theorem dX7_teasNow_142 : decode cX7_teasNow 142 = .ok (.if_icmp .ne 8, 3) := by decide +kernel
theorem dX7_teasNow_145 : decode cX7_teasNow 145 = .ok (.iload 5, 2) := by decide +kernel
theorem dX7_teasNow_147 : decode cX7_teasNow 147 = .ok (.goto 8, 3) := by decide +kernel
theorem dX7_teasNow_150 : decode cX7_teasNow 150 = .ok (.aload_n 0, 1) := by decide +kernel
theorem dX7_teasNow_151 : decode cX7_teasNow 151 = .ok (.getfield 245, 3) := by decide +kernel
theorem dX7_teasNow_154 : decode cX7_teasNow 154 = .ok (.l2i, 1) := by decide +kernel
theorem dX7_teasNow_155 : decode cX7_teasNow 155 = .ok (.ireturn, 1) := by decide +kernel
theorem dX7_teas_0 : decode cX7_teas 0 = .ok (.iload_n 1, 1) := by decide +kernel
theorem dX7_teas_1 : decode cX7_teas 1 = .ok (.iconst 1, 1) := by decide +kernel
theorem dX7_teas_2 : decode cX7_teas 2 = .ok (.bipush 60, 2) := by decide +kernel
theorem dX7_teas_4 : decode cX7_teas 4 = .ok (.invokestatic 77, 3) := by decide +kernel
theorem dX7_teas_7 : decode cX7_teas 7 = .ok (.ifCond .eq 16, 3) := by decide +kernel
theorem dX7_teas_10 : decode cX7_teas 10 = .ok (.iload_n 2, 1) := by decide +kernel
theorem dX7_teas_11 : decode cX7_teas 11 = .ok (.ifCond .lt 12, 3) := by decide +kernel
theorem dX7_teas_14 : decode cX7_teas 14 = .ok (.iload_n 3, 1) := by decide +kernel
theorem dX7_teas_15 : decode cX7_teas 15 = .ok (.iconst 0, 1) := by decide +kernel
theorem dX7_teas_16 : decode cX7_teas 16 = .ok (.iconst 2, 1) := by decide +kernel
theorem dX7_teas_17 : decode cX7_teas 17 = .ok (.invokestatic 77, 3) := by decide +kernel
theorem dX7_teas_20 : decode cX7_teas 20 = .ok (.ifCond .ne 6, 3) := by decide +kernel
theorem dX7_teas_23 : decode cX7_teas 23 = .ok (.bipush (-102), 2) := by decide +kernel
theorem dX7_teas_25 : decode cX7_teas 25 = .ok (.ireturn, 1) := by decide +kernel
theorem dX7_teas_26 : decode cX7_teas 26 = .ok (.aload_n 0, 1) := by decide +kernel
theorem dX7_teas_27 : decode cX7_teas 27 = .ok (.getfield 113, 3) := by decide +kernel
theorem dX7_teas_30 : decode cX7_teas 30 = .ok (.ifCond .ne 8, 3) := by decide +kernel
theorem dX7_teas_33 : decode cX7_teas 33 = .ok (.bipush (-103), 2) := by decide +kernel
theorem dX7_teas_35 : decode cX7_teas 35 = .ok (.goto 10, 3) := by decide +kernel
theorem dX7_teas_38 : decode cX7_teas 38 = .ok (.aload_n 0, 1) := by decide +kernel
theorem dX7_teas_39 : decode cX7_teas 39 = .ok (.iload_n 1, 1) := by decide +kernel
theorem dX7_teas_40 : decode cX7_teas 40 = .ok (.iload_n 2, 1) := by decide +kernel
theorem dX7_teas_41 : decode cX7_teas 41 = .ok (.iload_n 3, 1) := by decide +kernel
theorem dX7_teas_42 : decode cX7_teas 42 = .ok (.invokevirtual 267, 3) := by decide +kernel
theorem dX7_teas_45 : decode cX7_teas 45 = .ok (.ireturn, 1) := by decide +kernel
theorem dX7_image_0 : decode cX7_image 0 = .ok (.aload_n 0, 1) := by decide +kernel
theorem dX7_image_1 : decode cX7_image 1 = .ok (.getfield 113, 3) := by decide +kernel
theorem dX7_image_4 : decode cX7_image 4 = .ok (.ifCond .ne 6, 3) := by decide +kernel
theorem dX7_image_7 : decode cX7_image 7 = .ok (.bipush (-103), 2) := by decide +kernel
theorem dX7_image_9 : decode cX7_image 9 = .ok (.ireturn, 1) := by decide +kernel
theorem dX7_image_10 : decode cX7_image 10 = .ok (.aload_n 0, 1) := by decide +kernel
theorem dX7_image_11 : decode cX7_image 11 = .ok (.iconst 1, 1) := by decide +kernel
theorem dX7_image_12 : decode cX7_image 12 = .ok (.putfield 270, 3) := by decide +kernel
theorem dX7_image_15 : decode cX7_image 15 = .ok (.aload_n 0, 1) := by decide +kernel
theorem dX7_image_16 : decode cX7_image 16 = .ok (.aload_n 0, 1) := by decide +kernel
theorem dX7_image_17 : decode cX7_image 17 = .ok (.getfield 122, 3) := by decide +kernel
theorem dX7_image_20 : decode cX7_image 20 = .ok (.putfield 273, 3) := by decide +kernel
theorem dX7_image_23 : decode cX7_image 23 = .ok (.aload_n 0, 1) := by decide +kernel
theorem dX7_image_24 : decode cX7_image 24 = .ok (.aload_n 0, 1) := by decide +kernel
theorem dX7_image_25 : decode cX7_image 25 = .ok (.getfield 119, 3) := by decide +kernel
theorem dX7_image_28 : decode cX7_image 28 = .ok (.putfield 276, 3) := by decide +kernel
theorem dX7_image_31 : decode cX7_image 31 = .ok (.aload_n 0, 1) := by decide +kernel
theorem dX7_image_32 : decode cX7_image 32 = .ok (.aload_n 0, 1) := by decide +kernel
theorem dX7_image_33 : decode cX7_image 33 = .ok (.getfield 125, 3) := by decide +kernel
theorem dX7_image_36 : decode cX7_image 36 = .ok (.putfield 279, 3) := by decide +kernel
theorem dX7_image_39 : decode cX7_image 39 = .ok (.iconst 0, 1) := by decide +kernel
theorem dX7_image_40 : decode cX7_image 40 = .ok (.istore_n 1, 1) := by decide +kernel
theorem dX7_image_41 : decode cX7_image 41 = .ok (.iload_n 1, 1) := by decide +kernel
theorem dX7_image_42 : decode cX7_image 42 = .ok (.bipush 6, 2) := by decide +kernel
theorem dX7_image_44 : decode cX7_image 44 = .ok (.if_icmp .ge 45, 3) := by decide +kernel
theorem dX7_image_47 : decode cX7_image 47 = .ok (.aload_n 0, 1) := by decide +kernel
theorem dX7_image_48 : decode cX7_image 48 = .ok (.getfield 53, 3) := by decide +kernel
theorem dX7_image_51 : decode cX7_image 51 = .ok (.iload_n 1, 1) := by decide +kernel
theorem dX7_image_52 : decode cX7_image 52 = .ok (.aload_n 0, 1) := by decide +kernel
theorem dX7_image_53 : decode cX7_image 53 = .ok (.getfield 13, 3) := by decide +kernel
theorem dX7_image_56 : decode cX7_image 56 = .ok (.iload_n 1, 1) := by decide +kernel
theorem dX7_image_57 : decode cX7_image 57 = .ok (.iaload, 1) := by decide +kernel
theorem dX7_image_58 : decode cX7_image 58 = .ok (.iastore, 1) := by decide +kernel
theorem dX7_image_59 : decode cX7_image 59 = .ok (.aload_n 0, 1) := by decide +kernel
theorem dX7_image_60 : decode cX7_image 60 = .ok (.getfield 56, 3) := by decide +kernel
theorem dX7_image_63 : decode cX7_image 63 = .ok (.iload_n 1, 1) := by decide +kernel
theorem dX7_image_64 : decode cX7_image 64 = .ok (.aload_n 0, 1) := by decide +kernel
theorem dX7_image_65 : decode cX7_image 65 = .ok (.getfield 16, 3) := by decide +kernel
theorem dX7_image_68 : decode cX7_image 68 = .ok (.iload_n 1, 1) := by decide +kernel
theorem dX7_image_69 : decode cX7_image 69 = .ok (.iaload, 1) := by decide +kernel
theorem dX7_image_70 : decode cX7_image 70 = .ok (.iastore, 1) := by decide +kernel
theorem dX7_image_71 : decode cX7_image 71 = .ok (.aload_n 0, 1) := by decide +kernel
theorem dX7_image_72 : decode cX7_image 72 = .ok (.getfield 59, 3) := by decide +kernel
theorem dX7_image_75 : decode cX7_image 75 = .ok (.iload_n 1, 1) := by decide +kernel
theorem dX7_image_76 : decode cX7_image 76 = .ok (.aload_n 0, 1) := by decide +kernel
theorem dX7_image_77 : decode cX7_image 77 = .ok (.getfield 19, 3) := by decide +kernel
theorem dX7_image_80 : decode cX7_image 80 = .ok (.iload_n 1, 1) := by decide +kernel
theorem dX7_image_81 : decode cX7_image 81 = .ok (.iaload, 1) := by decide +kernel
theorem dX7_image_82 : decode cX7_image 82 = .ok (.iastore, 1) := by decide +kernel
theorem dX7_image_83 : decode cX7_image 83 = .ok (.iinc 1 1, 3) := by decide +kernel
theorem dX7_image_86 : decode cX7_image 86 = .ok (.goto (-45), 3) := by decide +kernel
theorem dX7_image_89 : decode cX7_image 89 = .ok (.iconst 0, 1) := by decide +kernel
theorem dX7_image_90 : decode cX7_image 90 = .ok (.istore_n 1, 1) := by decide +kernel
theorem dX7_image_91 : decode cX7_image 91 = .ok (.iload_n 1, 1) := by decide +kernel
theorem dX7_image_92 : decode cX7_image 92 = .ok (.iconst 3, 1) := by decide +kernel
theorem dX7_image_93 : decode cX7_image 93 = .ok (.if_icmp .ge 33, 3) := by decide +kernel
theorem dX7_image_96 : decode cX7_image 96 = .ok (.aload_n 0, 1) := by decide +kernel
theorem dX7_image_97 : decode cX7_image 97 = .ok (.getfield 62, 3) := by decide +kernel
theorem dX7_image_100 : decode cX7_image 100 = .ok (.iload_n 1, 1) := by decide +kernel
theorem dX7_image_101 : decode cX7_image 101 = .ok (.aload_n 0, 1) := by decide +kernel
theorem dX7_image_102 : decode cX7_image 102 = .ok (.getfield 22, 3) := by decide +kernel
theorem dX7_image_105 : decode cX7_image 105 = .ok (.iload_n 1, 1) := by decide +kernel
theorem dX7_image_106 : decode cX7_image 106 = .ok (.iaload, 1) := by decide +kernel
theorem dX7_image_107 : decode cX7_image 107 = .ok (.iastore, 1) := by decide +kernel
theorem dX7_image_108 : decode cX7_image 108 = .ok (.aload_n 0, 1) := by decide +kernel
theorem dX7_image_109 : decode cX7_image 109 = .ok (.getfield 65, 3) := by decide +kernel
theorem dX7_image_112 : decode cX7_image 112 = .ok (.iload_n 1, 1) := by decide +kernel
theorem dX7_image_113 : decode cX7_image 113 = .ok (.aload_n 0, 1) := by decide +kernel
theorem dX7_image_114 : decode cX7_image 114 = .ok (.getfield 25, 3) := by decide +kernel
theorem dX7_image_117 : decode cX7_image 117 = .ok (.iload_n 1, 1) := by decide +kernel
theorem dX7_image_118 : decode cX7_image 118 = .ok (.iaload, 1) := by decide +kernel
theorem dX7_image_119 : decode cX7_image 119 = .ok (.iastore, 1) := by decide +kernel
theorem dX7_image_120 : decode cX7_image 120 = .ok (.iinc 1 1, 3) := by decide +kernel
theorem dX7_image_123 : decode cX7_image 123 = .ok (.goto (-32), 3) := by decide +kernel
theorem dX7_image_126 : decode cX7_image 126 = .ok (.iconst 0, 1) := by decide +kernel
theorem dX7_image_127 : decode cX7_image 127 = .ok (.istore_n 1, 1) := by decide +kernel
theorem dX7_image_128 : decode cX7_image 128 = .ok (.iload_n 1, 1) := by decide +kernel
theorem dX7_image_129 : decode cX7_image 129 = .ok (.bipush 8, 2) := by decide +kernel
theorem dX7_image_131 : decode cX7_image 131 = .ok (.if_icmp .ge 45, 3) := by decide +kernel
theorem dX7_image_134 : decode cX7_image 134 = .ok (.aload_n 0, 1) := by decide +kernel
theorem dX7_image_135 : decode cX7_image 135 = .ok (.getfield 68, 3) := by decide +kernel
theorem dX7_image_138 : decode cX7_image 138 = .ok (.iload_n 1, 1) := by decide +kernel
theorem dX7_image_139 : decode cX7_image 139 = .ok (.aload_n 0, 1) := by decide +kernel
theorem dX7_image_140 : decode cX7_image 140 = .ok (.getfield 28, 3) := by decide +kernel
theorem dX7_image_143 : decode cX7_image 143 = .ok (.iload_n 1, 1) := by decide +kernel
theorem dX7_image_144 : decode cX7_image 144 = .ok (.iaload, 1) := by decide +kernel
theorem dX7_image_145 : decode cX7_image 145 = .ok (.iastore, 1) := by decide +kernel
theorem dX7_image_146 : decode cX7_image 146 = .ok (.aload_n 0, 1) := by decide +kernel
theorem dX7_image_147 : decode cX7_image 147 = .ok (.getfield 71, 3) := by decide +kernel
theorem dX7_image_150 : decode cX7_image 150 = .ok (.iload_n 1, 1) := by decide +kernel
theorem dX7_image_151 : decode cX7_image 151 = .ok (.aload_n 0, 1) := by decide +kernel
theorem dX7_image_152 : decode cX7_image 152 = .ok (.getfield 31, 3) := by decide +kernel
theorem dX7_image_155 : decode cX7_image 155 = .ok (.iload_n 1, 1) := by decide +kernel
theorem dX7_image_156 : decode cX7_image 156 = .ok (.iaload, 1) := by decide +kernel
theorem dX7_image_157 : decode cX7_image 157 = .ok (.iastore, 1) := by decide +kernel
theorem dX7_image_158 : decode cX7_image 158 = .ok (.aload_n 0, 1) := by decide +kernel
theorem dX7_image_159 : decode cX7_image 159 = .ok (.getfield 74, 3) := by decide +kernel
theorem dX7_image_162 : decode cX7_image 162 = .ok (.iload_n 1, 1) := by decide +kernel
theorem dX7_image_163 : decode cX7_image 163 = .ok (.aload_n 0, 1) := by decide +kernel
theorem dX7_image_164 : decode cX7_image 164 = .ok (.getfield 34, 3) := by decide +kernel
theorem dX7_image_167 : decode cX7_image 167 = .ok (.iload_n 1, 1) := by decide +kernel
theorem dX7_image_168 : decode cX7_image 168 = .ok (.iaload, 1) := by decide +kernel
theorem dX7_image_169 : decode cX7_image 169 = .ok (.iastore, 1) := by decide +kernel
theorem dX7_image_170 : decode cX7_image 170 = .ok (.iinc 1 1, 3) := by decide +kernel
theorem dX7_image_173 : decode cX7_image 173 = .ok (.goto (-45), 3) := by decide +kernel
theorem dX7_image_176 : decode cX7_image 176 = .ok (.aload_n 0, 1) := by decide +kernel
theorem dX7_image_177 : decode cX7_image 177 = .ok (.getfield 119, 3) := by decide +kernel
theorem dX7_image_180 : decode cX7_image 180 = .ok (.ireturn, 1) := by decide +kernel
theorem dX7_restore_0 : decode cX7_restore 0 = .ok (.aload_n 0, 1) := by decide +kernel
theorem dX7_restore_1 : decode cX7_restore 1 = .ok (.getfield 270, 3) := by decide +kernel
theorem dX7_restore_4 : decode cX7_restore 4 = .ok (.ifCond .eq 14, 3) := by decide +kernel
theorem dX7_restore_7 : decode cX7_restore 7 = .ok (.aload_n 0, 1) := by decide +kernel
theorem dX7_restore_8 : decode cX7_restore 8 = .ok (.getfield 273, 3) := by decide +kernel
theorem dX7_restore_11 : decode cX7_restore 11 = .ok (.aload_n 0, 1) := by decide +kernel
theorem dX7_restore_12 : decode cX7_restore 12 = .ok (.getfield 122, 3) := by decide +kernel
theorem dX7_restore_15 : decode cX7_restore 15 = .ok (.if_icmp .eq 6, 3) := by decide +kernel
theorem dX7_restore_18 : decode cX7_restore 18 = .ok (.bipush (-103), 2) := by decide +kernel
theorem dX7_restore_20 : decode cX7_restore 20 = .ok (.ireturn, 1) := by decide +kernel
theorem dX7_restore_21 : decode cX7_restore 21 = .ok (.aload_n 0, 1) := by decide +kernel
theorem dX7_restore_22 : decode cX7_restore 22 = .ok (.aload_n 0, 1) := by decide +kernel
theorem dX7_restore_23 : decode cX7_restore 23 = .ok (.getfield 276, 3) := by decide +kernel
theorem dX7_restore_26 : decode cX7_restore 26 = .ok (.putfield 119, 3) := by decide +kernel
theorem dX7_restore_29 : decode cX7_restore 29 = .ok (.aload_n 0, 1) := by decide +kernel
theorem dX7_restore_30 : decode cX7_restore 30 = .ok (.aload_n 0, 1) := by decide +kernel
theorem dX7_restore_31 : decode cX7_restore 31 = .ok (.getfield 279, 3) := by decide +kernel
theorem dX7_restore_34 : decode cX7_restore 34 = .ok (.putfield 125, 3) := by decide +kernel
theorem dX7_restore_37 : decode cX7_restore 37 = .ok (.iconst 0, 1) := by decide +kernel
theorem dX7_restore_38 : decode cX7_restore 38 = .ok (.istore_n 1, 1) := by decide +kernel
theorem dX7_restore_39 : decode cX7_restore 39 = .ok (.iload_n 1, 1) := by decide +kernel
theorem dX7_restore_40 : decode cX7_restore 40 = .ok (.bipush 6, 2) := by decide +kernel
theorem dX7_restore_42 : decode cX7_restore 42 = .ok (.if_icmp .ge 45, 3) := by decide +kernel
theorem dX7_restore_45 : decode cX7_restore 45 = .ok (.aload_n 0, 1) := by decide +kernel
theorem dX7_restore_46 : decode cX7_restore 46 = .ok (.getfield 13, 3) := by decide +kernel
theorem dX7_restore_49 : decode cX7_restore 49 = .ok (.iload_n 1, 1) := by decide +kernel
theorem dX7_restore_50 : decode cX7_restore 50 = .ok (.aload_n 0, 1) := by decide +kernel
theorem dX7_restore_51 : decode cX7_restore 51 = .ok (.getfield 53, 3) := by decide +kernel
theorem dX7_restore_54 : decode cX7_restore 54 = .ok (.iload_n 1, 1) := by decide +kernel
theorem dX7_restore_55 : decode cX7_restore 55 = .ok (.iaload, 1) := by decide +kernel
theorem dX7_restore_56 : decode cX7_restore 56 = .ok (.iastore, 1) := by decide +kernel
theorem dX7_restore_57 : decode cX7_restore 57 = .ok (.aload_n 0, 1) := by decide +kernel
theorem dX7_restore_58 : decode cX7_restore 58 = .ok (.getfield 16, 3) := by decide +kernel
theorem dX7_restore_61 : decode cX7_restore 61 = .ok (.iload_n 1, 1) := by decide +kernel
theorem dX7_restore_62 : decode cX7_restore 62 = .ok (.aload_n 0, 1) := by decide +kernel
theorem dX7_restore_63 : decode cX7_restore 63 = .ok (.getfield 56, 3) := by decide +kernel
theorem dX7_restore_66 : decode cX7_restore 66 = .ok (.iload_n 1, 1) := by decide +kernel
theorem dX7_restore_67 : decode cX7_restore 67 = .ok (.iaload, 1) := by decide +kernel
theorem dX7_restore_68 : decode cX7_restore 68 = .ok (.iastore, 1) := by decide +kernel
theorem dX7_restore_69 : decode cX7_restore 69 = .ok (.aload_n 0, 1) := by decide +kernel
theorem dX7_restore_70 : decode cX7_restore 70 = .ok (.getfield 19, 3) := by decide +kernel
theorem dX7_restore_73 : decode cX7_restore 73 = .ok (.iload_n 1, 1) := by decide +kernel
theorem dX7_restore_74 : decode cX7_restore 74 = .ok (.aload_n 0, 1) := by decide +kernel
theorem dX7_restore_75 : decode cX7_restore 75 = .ok (.getfield 59, 3) := by decide +kernel
theorem dX7_restore_78 : decode cX7_restore 78 = .ok (.iload_n 1, 1) := by decide +kernel
theorem dX7_restore_79 : decode cX7_restore 79 = .ok (.iaload, 1) := by decide +kernel
theorem dX7_restore_80 : decode cX7_restore 80 = .ok (.iastore, 1) := by decide +kernel
theorem dX7_restore_81 : decode cX7_restore 81 = .ok (.iinc 1 1, 3) := by decide +kernel
theorem dX7_restore_84 : decode cX7_restore 84 = .ok (.goto (-45), 3) := by decide +kernel
theorem dX7_restore_87 : decode cX7_restore 87 = .ok (.iconst 0, 1) := by decide +kernel
theorem dX7_restore_88 : decode cX7_restore 88 = .ok (.istore_n 1, 1) := by decide +kernel
theorem dX7_restore_89 : decode cX7_restore 89 = .ok (.iload_n 1, 1) := by decide +kernel
theorem dX7_restore_90 : decode cX7_restore 90 = .ok (.iconst 3, 1) := by decide +kernel
theorem dX7_restore_91 : decode cX7_restore 91 = .ok (.if_icmp .ge 33, 3) := by decide +kernel
theorem dX7_restore_94 : decode cX7_restore 94 = .ok (.aload_n 0, 1) := by decide +kernel
theorem dX7_restore_95 : decode cX7_restore 95 = .ok (.getfield 22, 3) := by decide +kernel
theorem dX7_restore_98 : decode cX7_restore 98 = .ok (.iload_n 1, 1) := by decide +kernel
theorem dX7_restore_99 : decode cX7_restore 99 = .ok (.aload_n 0, 1) := by decide +kernel
theorem dX7_restore_100 : decode cX7_restore 100 = .ok (.getfield 62, 3) := by decide +kernel
theorem dX7_restore_103 : decode cX7_restore 103 = .ok (.iload_n 1, 1) := by decide +kernel
theorem dX7_restore_104 : decode cX7_restore 104 = .ok (.iaload, 1) := by decide +kernel
theorem dX7_restore_105 : decode cX7_restore 105 = .ok (.iastore, 1) := by decide +kernel
theorem dX7_restore_106 : decode cX7_restore 106 = .ok (.aload_n 0, 1) := by decide +kernel
theorem dX7_restore_107 : decode cX7_restore 107 = .ok (.getfield 25, 3) := by decide +kernel
theorem dX7_restore_110 : decode cX7_restore 110 = .ok (.iload_n 1, 1) := by decide +kernel
theorem dX7_restore_111 : decode cX7_restore 111 = .ok (.aload_n 0, 1) := by decide +kernel
theorem dX7_restore_112 : decode cX7_restore 112 = .ok (.getfield 65, 3) := by decide +kernel
theorem dX7_restore_115 : decode cX7_restore 115 = .ok (.iload_n 1, 1) := by decide +kernel
theorem dX7_restore_116 : decode cX7_restore 116 = .ok (.iaload, 1) := by decide +kernel
theorem dX7_restore_117 : decode cX7_restore 117 = .ok (.iastore, 1) := by decide +kernel
theorem dX7_restore_118 : decode cX7_restore 118 = .ok (.iinc 1 1, 3) := by decide +kernel
theorem dX7_restore_121 : decode cX7_restore 121 = .ok (.goto (-32), 3) := by decide +kernel
theorem dX7_restore_124 : decode cX7_restore 124 = .ok (.iconst 0, 1) := by decide +kernel
theorem dX7_restore_125 : decode cX7_restore 125 = .ok (.istore_n 1, 1) := by decide +kernel
theorem dX7_restore_126 : decode cX7_restore 126 = .ok (.iload_n 1, 1) := by decide +kernel
theorem dX7_restore_127 : decode cX7_restore 127 = .ok (.bipush 8, 2) := by decide +kernel
theorem dX7_restore_129 : decode cX7_restore 129 = .ok (.if_icmp .ge 45, 3) := by decide +kernel
theorem dX7_restore_132 : decode cX7_restore 132 = .ok (.aload_n 0, 1) := by decide +kernel
theorem dX7_restore_133 : decode cX7_restore 133 = .ok (.getfield 28, 3) := by decide +kernel
theorem dX7_restore_136 : decode cX7_restore 136 = .ok (.iload_n 1, 1) := by decide +kernel
theorem dX7_restore_137 : decode cX7_restore 137 = .ok (.aload_n 0, 1) := by decide +kernel
theorem dX7_restore_138 : decode cX7_restore 138 = .ok (.getfield 68, 3) := by decide +kernel
theorem dX7_restore_141 : decode cX7_restore 141 = .ok (.iload_n 1, 1) := by decide +kernel
theorem dX7_restore_142 : decode cX7_restore 142 = .ok (.iaload, 1) := by decide +kernel
theorem dX7_restore_143 : decode cX7_restore 143 = .ok (.iastore, 1) := by decide +kernel
theorem dX7_restore_144 : decode cX7_restore 144 = .ok (.aload_n 0, 1) := by decide +kernel
theorem dX7_restore_145 : decode cX7_restore 145 = .ok (.getfield 31, 3) := by decide +kernel
theorem dX7_restore_148 : decode cX7_restore 148 = .ok (.iload_n 1, 1) := by decide +kernel
theorem dX7_restore_149 : decode cX7_restore 149 = .ok (.aload_n 0, 1) := by decide +kernel
theorem dX7_restore_150 : decode cX7_restore 150 = .ok (.getfield 71, 3) := by decide +kernel
theorem dX7_restore_153 : decode cX7_restore 153 = .ok (.iload_n 1, 1) := by decide +kernel
theorem dX7_restore_154 : decode cX7_restore 154 = .ok (.iaload, 1) := by decide +kernel
theorem dX7_restore_155 : decode cX7_restore 155 = .ok (.iastore, 1) := by decide +kernel
theorem dX7_restore_156 : decode cX7_restore 156 = .ok (.aload_n 0, 1) := by decide +kernel
theorem dX7_restore_157 : decode cX7_restore 157 = .ok (.getfield 34, 3) := by decide +kernel
theorem dX7_restore_160 : decode cX7_restore 160 = .ok (.iload_n 1, 1) := by decide +kernel
theorem dX7_restore_161 : decode cX7_restore 161 = .ok (.aload_n 0, 1) := by decide +kernel
theorem dX7_restore_162 : decode cX7_restore 162 = .ok (.getfield 74, 3) := by decide +kernel
theorem dX7_restore_165 : decode cX7_restore 165 = .ok (.iload_n 1, 1) := by decide +kernel
theorem dX7_restore_166 : decode cX7_restore 166 = .ok (.iaload, 1) := by decide +kernel
theorem dX7_restore_167 : decode cX7_restore 167 = .ok (.iastore, 1) := by decide +kernel
theorem dX7_restore_168 : decode cX7_restore 168 = .ok (.iinc 1 1, 3) := by decide +kernel
theorem dX7_restore_171 : decode cX7_restore 171 = .ok (.goto (-45), 3) := by decide +kernel
theorem dX7_restore_174 : decode cX7_restore 174 = .ok (.aload_n 0, 1) := by decide +kernel
theorem dX7_restore_175 : decode cX7_restore 175 = .ok (.getfield 119, 3) := by decide +kernel
theorem dX7_restore_178 : decode cX7_restore 178 = .ok (.ireturn, 1) := by decide +kernel
theorem dX7_ofWearers_0 : decode cX7_ofWearers 0 = .ok (.iconst 0, 1) := by decide +kernel
theorem dX7_ofWearers_1 : decode cX7_ofWearers 1 = .ok (.istore_n 2, 1) := by decide +kernel
theorem dX7_ofWearers_2 : decode cX7_ofWearers 2 = .ok (.iconst 0, 1) := by decide +kernel
theorem dX7_ofWearers_3 : decode cX7_ofWearers 3 = .ok (.istore_n 3, 1) := by decide +kernel
theorem dX7_ofWearers_4 : decode cX7_ofWearers 4 = .ok (.iload_n 3, 1) := by decide +kernel
theorem dX7_ofWearers_5 : decode cX7_ofWearers 5 = .ok (.aload_n 0, 1) := by decide +kernel
theorem dX7_ofWearers_6 : decode cX7_ofWearers 6 = .ok (.getfield 116, 3) := by decide +kernel
theorem dX7_ofWearers_9 : decode cX7_ofWearers 9 = .ok (.if_icmp .ge 62, 3) := by decide +kernel
theorem dX7_ofWearers_12 : decode cX7_ofWearers 12 = .ok (.iload_n 1, 1) := by decide +kernel
theorem dX7_ofWearers_13 : decode cX7_ofWearers 13 = .ok (.bipush 6, 2) := by decide +kernel
theorem dX7_ofWearers_15 : decode cX7_ofWearers 15 = .ok (.if_icmp .ne 16, 3) := by decide +kernel
theorem dX7_ofWearers_18 : decode cX7_ofWearers 18 = .ok (.aload_n 0, 1) := by decide +kernel
theorem dX7_ofWearers_19 : decode cX7_ofWearers 19 = .ok (.iload_n 3, 1) := by decide +kernel
theorem dX7_ofWearers_20 : decode cX7_ofWearers 20 = .ok (.aload_n 0, 1) := by decide +kernel
theorem dX7_ofWearers_21 : decode cX7_ofWearers 21 = .ok (.iload_n 3, 1) := by decide +kernel
theorem dX7_ofWearers_22 : decode cX7_ofWearers 22 = .ok (.invokevirtual 170, 3) := by decide +kernel
theorem dX7_ofWearers_25 : decode cX7_ofWearers 25 = .ok (.invokevirtual 176, 3) := by decide +kernel
theorem dX7_ofWearers_28 : decode cX7_ofWearers 28 = .ok (.goto 22, 3) := by decide +kernel
theorem dX7_ofWearers_31 : decode cX7_ofWearers 31 = .ok (.aload_n 0, 1) := by decide +kernel
theorem dX7_ofWearers_32 : decode cX7_ofWearers 32 = .ok (.iload_n 3, 1) := by decide +kernel
theorem dX7_ofWearers_33 : decode cX7_ofWearers 33 = .ok (.invokevirtual 170, 3) := by decide +kernel
theorem dX7_ofWearers_36 : decode cX7_ofWearers 36 = .ok (.invokestatic 152, 3) := by decide +kernel
theorem dX7_ofWearers_39 : decode cX7_ofWearers 39 = .ok (.iconst 5, 1) := by decide +kernel
theorem dX7_ofWearers_40 : decode cX7_ofWearers 40 = .ok (.iload_n 1, 1) := by decide +kernel
theorem dX7_ofWearers_41 : decode cX7_ofWearers 41 = .ok (.isub, 1) := by decide +kernel
theorem dX7_ofWearers_42 : decode cX7_ofWearers 42 = .ok (.if_icmp .ne 7, 3) := by decide +kernel
theorem dX7_ofWearers_45 : decode cX7_ofWearers 45 = .ok (.iconst 1, 1) := by decide +kernel
theorem dX7_ofWearers_46 : decode cX7_ofWearers 46 = .ok (.goto 4, 3) := by decide +kernel
theorem dX7_ofWearers_49 : decode cX7_ofWearers 49 = .ok (.iconst 0, 1) := by decide +kernel
theorem dX7_ofWearers_50 : decode cX7_ofWearers 50 = .ok (.istore 4, 2) := by decide +kernel
theorem dX7_ofWearers_52 : decode cX7_ofWearers 52 = .ok (.iload_n 2, 1) := by decide +kernel
theorem dX7_ofWearers_53 : decode cX7_ofWearers 53 = .ok (.iload 4, 2) := by decide +kernel
theorem dX7_ofWearers_55 : decode cX7_ofWearers 55 = .ok (.ifCond .eq 7, 3) := by decide +kernel
theorem dX7_ofWearers_58 : decode cX7_ofWearers 58 = .ok (.iconst 1, 1) := by decide +kernel
theorem dX7_ofWearers_59 : decode cX7_ofWearers 59 = .ok (.goto 4, 3) := by decide +kernel
theorem dX7_ofWearers_62 : decode cX7_ofWearers 62 = .ok (.iconst 0, 1) := by decide +kernel
theorem dX7_ofWearers_63 : decode cX7_ofWearers 63 = .ok (.iadd, 1) := by decide +kernel
theorem dX7_ofWearers_64 : decode cX7_ofWearers 64 = .ok (.istore_n 2, 1) := by decide +kernel
theorem dX7_ofWearers_65 : decode cX7_ofWearers 65 = .ok (.iinc 3 1, 3) := by decide +kernel
theorem dX7_ofWearers_68 : decode cX7_ofWearers 68 = .ok (.goto (-64), 3) := by decide +kernel
theorem dX7_ofWearers_71 : decode cX7_ofWearers 71 = .ok (.iload_n 2, 1) := by decide +kernel
theorem dX7_ofWearers_72 : decode cX7_ofWearers 72 = .ok (.ireturn, 1) := by decide +kernel
theorem dX7_ofGloves_0 : decode cX7_ofGloves 0 = .ok (.iconst 0, 1) := by decide +kernel
theorem dX7_ofGloves_1 : decode cX7_ofGloves 1 = .ok (.istore_n 2, 1) := by decide +kernel
theorem dX7_ofGloves_2 : decode cX7_ofGloves 2 = .ok (.iconst 0, 1) := by decide +kernel
theorem dX7_ofGloves_3 : decode cX7_ofGloves 3 = .ok (.istore_n 3, 1) := by decide +kernel
theorem dX7_ofGloves_4 : decode cX7_ofGloves 4 = .ok (.iload_n 3, 1) := by decide +kernel
theorem dX7_ofGloves_5 : decode cX7_ofGloves 5 = .ok (.aload_n 0, 1) := by decide +kernel
theorem dX7_ofGloves_6 : decode cX7_ofGloves 6 = .ok (.getfield 113, 3) := by decide +kernel
theorem dX7_ofGloves_9 : decode cX7_ofGloves 9 = .ok (.if_icmp .ge 33, 3) := by decide +kernel
theorem dX7_ofGloves_12 : decode cX7_ofGloves 12 = .ok (.iload_n 2, 1) := by decide +kernel
theorem dX7_ofGloves_13 : decode cX7_ofGloves 13 = .ok (.iload_n 1, 1) := by decide +kernel
theorem dX7_ofGloves_14 : decode cX7_ofGloves 14 = .ok (.ifCond .eq 12, 3) := by decide +kernel
theorem dX7_ofGloves_17 : decode cX7_ofGloves 17 = .ok (.aload_n 0, 1) := by decide +kernel
theorem dX7_ofGloves_18 : decode cX7_ofGloves 18 = .ok (.iload_n 3, 1) := by decide +kernel
theorem dX7_ofGloves_19 : decode cX7_ofGloves 19 = .ok (.iconst 0, 1) := by decide +kernel
theorem dX7_ofGloves_20 : decode cX7_ofGloves 20 = .ok (.invokevirtual 136, 3) := by decide +kernel
theorem dX7_ofGloves_23 : decode cX7_ofGloves 23 = .ok (.goto 11, 3) := by decide +kernel
theorem dX7_ofGloves_26 : decode cX7_ofGloves 26 = .ok (.aload_n 0, 1) := by decide +kernel
theorem dX7_ofGloves_27 : decode cX7_ofGloves 27 = .ok (.iload_n 3, 1) := by decide +kernel
theorem dX7_ofGloves_28 : decode cX7_ofGloves 28 = .ok (.invokevirtual 155, 3) := by decide +kernel
theorem dX7_ofGloves_31 : decode cX7_ofGloves 31 = .ok (.invokestatic 194, 3) := by decide +kernel
theorem dX7_ofGloves_34 : decode cX7_ofGloves 34 = .ok (.iadd, 1) := by decide +kernel
theorem dX7_ofGloves_35 : decode cX7_ofGloves 35 = .ok (.istore_n 2, 1) := by decide +kernel
theorem dX7_ofGloves_36 : decode cX7_ofGloves 36 = .ok (.iinc 3 1, 3) := by decide +kernel
theorem dX7_ofGloves_39 : decode cX7_ofGloves 39 = .ok (.goto (-35), 3) := by decide +kernel
theorem dX7_ofGloves_42 : decode cX7_ofGloves 42 = .ok (.iload_n 1, 1) := by decide +kernel
theorem dX7_ofGloves_43 : decode cX7_ofGloves 43 = .ok (.ifCond .eq 7, 3) := by decide +kernel
theorem dX7_ofGloves_46 : decode cX7_ofGloves 46 = .ok (.iload_n 2, 1) := by decide +kernel
theorem dX7_ofGloves_47 : decode cX7_ofGloves 47 = .ok (.goto 6, 3) := by decide +kernel
theorem dX7_ofGloves_50 : decode cX7_ofGloves 50 = .ok (.iload_n 2, 1) := by decide +kernel
theorem dX7_ofGloves_51 : decode cX7_ofGloves 51 = .ok (.iconst 2, 1) := by decide +kernel
theorem dX7_ofGloves_52 : decode cX7_ofGloves 52 = .ok (.idiv, 1) := by decide +kernel
theorem dX7_ofGloves_53 : decode cX7_ofGloves 53 = .ok (.ireturn, 1) := by decide +kernel
theorem dX7_howMany_0 : decode cX7_howMany 0 = .ok (.iload_n 1, 1) := by decide +kernel
theorem dX7_howMany_1 : decode cX7_howMany 1 = .ok (.tableswitch 125 0 12 #[67, 72, 77, 82, 87, 87, 87, 93, 99, 105, 110, 115, 120], 67) := by decide +kernel
theorem dX7_howMany_68 : decode cX7_howMany 68 = .ok (.aload_n 0, 1) := by decide +kernel
theorem dX7_howMany_69 : decode cX7_howMany 69 = .ok (.getfield 113, 3) := by decide +kernel
theorem dX7_howMany_72 : decode cX7_howMany 72 = .ok (.ireturn, 1) := by decide +kernel
theorem dX7_howMany_73 : decode cX7_howMany 73 = .ok (.aload_n 0, 1) := by decide +kernel
theorem dX7_howMany_74 : decode cX7_howMany 74 = .ok (.getfield 116, 3) := by decide +kernel
theorem dX7_howMany_77 : decode cX7_howMany 77 = .ok (.ireturn, 1) := by decide +kernel
theorem dX7_howMany_78 : decode cX7_howMany 78 = .ok (.aload_n 0, 1) := by decide +kernel
theorem dX7_howMany_79 : decode cX7_howMany 79 = .ok (.invokevirtual 264, 3) := by decide +kernel
theorem dX7_howMany_82 : decode cX7_howMany 82 = .ok (.ireturn, 1) := by decide +kernel
theorem dX7_howMany_83 : decode cX7_howMany 83 = .ok (.aload_n 0, 1) := by decide +kernel
theorem dX7_howMany_84 : decode cX7_howMany 84 = .ok (.getfield 119, 3) := by decide +kernel
theorem dX7_howMany_87 : decode cX7_howMany 87 = .ok (.ireturn, 1) := by decide +kernel
theorem dX7_howMany_88 : decode cX7_howMany 88 = .ok (.aload_n 0, 1) := by decide +kernel
theorem dX7_howMany_89 : decode cX7_howMany 89 = .ok (.iload_n 1, 1) := by decide +kernel
theorem dX7_howMany_90 : decode cX7_howMany 90 = .ok (.invokevirtual 282, 3) := by decide +kernel
theorem dX7_howMany_93 : decode cX7_howMany 93 = .ok (.ireturn, 1) := by decide +kernel
theorem dX7_howMany_94 : decode cX7_howMany 94 = .ok (.aload_n 0, 1) := by decide +kernel
theorem dX7_howMany_95 : decode cX7_howMany 95 = .ok (.iconst 0, 1) := by decide +kernel
theorem dX7_howMany_96 : decode cX7_howMany 96 = .ok (.invokevirtual 285, 3) := by decide +kernel
theorem dX7_howMany_99 : decode cX7_howMany 99 = .ok (.ireturn, 1) := by decide +kernel
theorem dX7_howMany_100 : decode cX7_howMany 100 = .ok (.aload_n 0, 1) := by decide +kernel
theorem dX7_howMany_101 : decode cX7_howMany 101 = .ok (.iconst 1, 1) := by decide +kernel
theorem dX7_howMany_102 : decode cX7_howMany 102 = .ok (.invokevirtual 285, 3) := by decide +kernel
theorem dX7_howMany_105 : decode cX7_howMany 105 = .ok (.ireturn, 1) := by decide +kernel
theorem dX7_howMany_106 : decode cX7_howMany 106 = .ok (.aload_n 0, 1) := by decide +kernel
theorem dX7_howMany_107 : decode cX7_howMany 107 = .ok (.getfield 125, 3) := by decide +kernel
theorem dX7_howMany_110 : decode cX7_howMany 110 = .ok (.ireturn, 1) := by decide +kernel
theorem dX7_howMany_111 : decode cX7_howMany 111 = .ok (.aload_n 0, 1) := by decide +kernel
theorem dX7_howMany_112 : decode cX7_howMany 112 = .ok (.getfield 81, 3) := by decide +kernel
theorem dX7_howMany_115 : decode cX7_howMany 115 = .ok (.ireturn, 1) := by decide +kernel
theorem dX7_howMany_116 : decode cX7_howMany 116 = .ok (.aload_n 0, 1) := by decide +kernel
theorem dX7_howMany_117 : decode cX7_howMany 117 = .ok (.getfield 122, 3) := by decide +kernel
theorem dX7_howMany_120 : decode cX7_howMany 120 = .ok (.ireturn, 1) := by decide +kernel
theorem dX7_howMany_121 : decode cX7_howMany 121 = .ok (.aload_n 0, 1) := by decide +kernel
theorem dX7_howMany_122 : decode cX7_howMany 122 = .ok (.getfield 215, 3) := by decide +kernel
theorem dX7_howMany_125 : decode cX7_howMany 125 = .ok (.ireturn, 1) := by decide +kernel
theorem dX7_howMany_126 : decode cX7_howMany 126 = .ok (.bipush (-102), 2) := by decide +kernel
theorem dX7_howMany_128 : decode cX7_howMany 128 = .ok (.ireturn, 1) := by decide +kernel
theorem dX7_count_0 : decode cX7_count 0 = .ok (.aload_n 0, 1) := by decide +kernel
theorem dX7_count_1 : decode cX7_count 1 = .ok (.iload_n 1, 1) := by decide +kernel
theorem dX7_count_2 : decode cX7_count 2 = .ok (.invokevirtual 289, 3) := by decide +kernel
theorem dX7_count_5 : decode cX7_count 5 = .ok (.ireturn, 1) := by decide +kernel
theorem dX7_mix_0 : decode cX7_mix 0 = .ok (.aload_n 0, 1) := by decide +kernel
theorem dX7_mix_1 : decode cX7_mix 1 = .ok (.ldc2_w 292, 3) := by decide +kernel
theorem dX7_mix_4 : decode cX7_mix 4 = .ok (.aload_n 0, 1) := by decide +kernel
theorem dX7_mix_5 : decode cX7_mix 5 = .ok (.getfield 294, 3) := by decide +kernel
theorem dX7_mix_8 : decode cX7_mix 8 = .ok (.lmul, 1) := by decide +kernel
theorem dX7_mix_9 : decode cX7_mix 9 = .ok (.lload_n 1, 1) := by decide +kernel
theorem dX7_mix_10 : decode cX7_mix 10 = .ok (.ladd, 1) := by decide +kernel
theorem dX7_mix_11 : decode cX7_mix 11 = .ok (.putfield 294, 3) := by decide +kernel
theorem dX7_mix_14 : decode cX7_mix 14 = .ok (.return_, 1) := by decide +kernel
theorem dX7_mixWearer_0 : decode cX7_mixWearer 0 = .ok (.iconst 0, 1) := by decide +kernel
theorem dX7_mixWearer_1 : decode cX7_mixWearer 1 = .ok (.istore_n 2, 1) := by decide +kernel
theorem dX7_mixWearer_2 : decode cX7_mixWearer 2 = .ok (.iload_n 2, 1) := by decide +kernel
theorem dX7_mixWearer_3 : decode cX7_mixWearer 3 = .ok (.bipush 9, 2) := by decide +kernel
theorem dX7_mixWearer_5 : decode cX7_mixWearer 5 = .ok (.if_icmp .ge 20, 3) := by decide +kernel
theorem dX7_mixWearer_8 : decode cX7_mixWearer 8 = .ok (.aload_n 0, 1) := by decide +kernel
theorem dX7_mixWearer_9 : decode cX7_mixWearer 9 = .ok (.aload_n 0, 1) := by decide +kernel
theorem dX7_mixWearer_10 : decode cX7_mixWearer 10 = .ok (.iload_n 1, 1) := by decide +kernel
theorem dX7_mixWearer_11 : decode cX7_mixWearer 11 = .ok (.iload_n 2, 1) := by decide +kernel
theorem dX7_mixWearer_12 : decode cX7_mixWearer 12 = .ok (.invokevirtual 185, 3) := by decide +kernel
theorem dX7_mixWearer_15 : decode cX7_mixWearer 15 = .ok (.i2l, 1) := by decide +kernel
theorem dX7_mixWearer_16 : decode cX7_mixWearer 16 = .ok (.invokevirtual 297, 3) := by decide +kernel
theorem dX7_mixWearer_19 : decode cX7_mixWearer 19 = .ok (.iinc 2 1, 3) := by decide +kernel
theorem dX7_mixWearer_22 : decode cX7_mixWearer 22 = .ok (.goto (-20), 3) := by decide +kernel
theorem dX7_mixWearer_25 : decode cX7_mixWearer 25 = .ok (.aload_n 0, 1) := by decide +kernel
theorem dX7_mixWearer_26 : decode cX7_mixWearer 26 = .ok (.aload_n 0, 1) := by decide +kernel
theorem dX7_mixWearer_27 : decode cX7_mixWearer 27 = .ok (.iload_n 1, 1) := by decide +kernel
theorem dX7_mixWearer_28 : decode cX7_mixWearer 28 = .ok (.aload_n 0, 1) := by decide +kernel
theorem dX7_mixWearer_29 : decode cX7_mixWearer 29 = .ok (.iload_n 1, 1) := by decide +kernel
theorem dX7_mixWearer_30 : decode cX7_mixWearer 30 = .ok (.invokevirtual 146, 3) := by decide +kernel
theorem dX7_mixWearer_33 : decode cX7_mixWearer 33 = .ok (.iconst 5, 1) := by decide +kernel
theorem dX7_mixWearer_34 : decode cX7_mixWearer 34 = .ok (.invokevirtual 149, 3) := by decide +kernel
theorem dX7_mixWearer_37 : decode cX7_mixWearer 37 = .ok (.i2l, 1) := by decide +kernel
theorem dX7_mixWearer_38 : decode cX7_mixWearer 38 = .ok (.invokevirtual 297, 3) := by decide +kernel
theorem dX7_mixWearer_41 : decode cX7_mixWearer 41 = .ok (.aload_n 0, 1) := by decide +kernel
theorem dX7_mixWearer_42 : decode cX7_mixWearer 42 = .ok (.aload_n 0, 1) := by decide +kernel
theorem dX7_mixWearer_43 : decode cX7_mixWearer 43 = .ok (.iload_n 1, 1) := by decide +kernel
theorem dX7_mixWearer_44 : decode cX7_mixWearer 44 = .ok (.iconst 4, 1) := by decide +kernel
theorem dX7_mixWearer_45 : decode cX7_mixWearer 45 = .ok (.bipush 6, 2) := by decide +kernel
theorem dX7_mixWearer_47 : decode cX7_mixWearer 47 = .ok (.iconst 0, 1) := by decide +kernel
theorem dX7_mixWearer_48 : decode cX7_mixWearer 48 = .ok (.invokevirtual 236, 3) := by decide +kernel
theorem dX7_mixWearer_51 : decode cX7_mixWearer 51 = .ok (.i2l, 1) := by decide +kernel
theorem dX7_mixWearer_52 : decode cX7_mixWearer 52 = .ok (.invokevirtual 297, 3) := by decide +kernel
theorem dX7_mixWearer_55 : decode cX7_mixWearer 55 = .ok (.aload_n 0, 1) := by decide +kernel
theorem dX7_mixWearer_56 : decode cX7_mixWearer 56 = .ok (.aload_n 0, 1) := by decide +kernel
theorem dX7_mixWearer_57 : decode cX7_mixWearer 57 = .ok (.iload_n 1, 1) := by decide +kernel
theorem dX7_mixWearer_58 : decode cX7_mixWearer 58 = .ok (.iconst 4, 1) := by decide +kernel
theorem dX7_mixWearer_59 : decode cX7_mixWearer 59 = .ok (.bipush 6, 2) := by decide +kernel
theorem dX7_mixWearer_61 : decode cX7_mixWearer 61 = .ok (.iconst 1, 1) := by decide +kernel
theorem dX7_mixWearer_62 : decode cX7_mixWearer 62 = .ok (.invokevirtual 236, 3) := by decide +kernel
theorem dX7_mixWearer_65 : decode cX7_mixWearer 65 = .ok (.i2l, 1) := by decide +kernel
theorem dX7_mixWearer_66 : decode cX7_mixWearer 66 = .ok (.invokevirtual 297, 3) := by decide +kernel
theorem dX7_mixWearer_69 : decode cX7_mixWearer 69 = .ok (.return_, 1) := by decide +kernel
theorem dX7_digest_0 : decode cX7_digest 0 = .ok (.aload_n 0, 1) := by decide +kernel
theorem dX7_digest_1 : decode cX7_digest 1 = .ok (.ldc2_w 301, 3) := by decide +kernel
theorem dX7_digest_4 : decode cX7_digest 4 = .ok (.putfield 294, 3) := by decide +kernel
theorem dX7_digest_7 : decode cX7_digest 7 = .ok (.iconst 0, 1) := by decide +kernel
theorem dX7_digest_8 : decode cX7_digest 8 = .ok (.istore_n 1, 1) := by decide +kernel
theorem dX7_digest_9 : decode cX7_digest 9 = .ok (.iload_n 1, 1) := by decide +kernel
theorem dX7_digest_10 : decode cX7_digest 10 = .ok (.aload_n 0, 1) := by decide +kernel
theorem dX7_digest_11 : decode cX7_digest 11 = .ok (.getfield 113, 3) := by decide +kernel
theorem dX7_digest_14 : decode cX7_digest 14 = .ok (.if_icmp .ge 34, 3) := by decide +kernel
theorem dX7_digest_17 : decode cX7_digest 17 = .ok (.iconst 0, 1) := by decide +kernel
theorem dX7_digest_18 : decode cX7_digest 18 = .ok (.istore_n 2, 1) := by decide +kernel
theorem dX7_digest_19 : decode cX7_digest 19 = .ok (.iload_n 2, 1) := by decide +kernel
theorem dX7_digest_20 : decode cX7_digest 20 = .ok (.bipush 9, 2) := by decide +kernel
theorem dX7_digest_22 : decode cX7_digest 22 = .ok (.if_icmp .ge 20, 3) := by decide +kernel
theorem dX7_digest_25 : decode cX7_digest 25 = .ok (.aload_n 0, 1) := by decide +kernel
theorem dX7_digest_26 : decode cX7_digest 26 = .ok (.aload_n 0, 1) := by decide +kernel
theorem dX7_digest_27 : decode cX7_digest 27 = .ok (.iload_n 1, 1) := by decide +kernel
theorem dX7_digest_28 : decode cX7_digest 28 = .ok (.iload_n 2, 1) := by decide +kernel
theorem dX7_digest_29 : decode cX7_digest 29 = .ok (.invokevirtual 167, 3) := by decide +kernel
theorem dX7_digest_32 : decode cX7_digest 32 = .ok (.i2l, 1) := by decide +kernel
theorem dX7_digest_33 : decode cX7_digest 33 = .ok (.invokevirtual 297, 3) := by decide +kernel
theorem dX7_digest_36 : decode cX7_digest 36 = .ok (.iinc 2 1, 3) := by decide +kernel
theorem dX7_digest_39 : decode cX7_digest 39 = .ok (.goto (-20), 3) := by decide +kernel
theorem dX7_digest_42 : decode cX7_digest 42 = .ok (.iinc 1 1, 3) := by decide +kernel
theorem dX7_digest_45 : decode cX7_digest 45 = .ok (.goto (-36), 3) := by decide +kernel
theorem dX7_digest_48 : decode cX7_digest 48 = .ok (.iconst 0, 1) := by decide +kernel
theorem dX7_digest_49 : decode cX7_digest 49 = .ok (.istore_n 1, 1) := by decide +kernel
theorem dX7_digest_50 : decode cX7_digest 50 = .ok (.iload_n 1, 1) := by decide +kernel
theorem dX7_digest_51 : decode cX7_digest 51 = .ok (.aload_n 0, 1) := by decide +kernel
theorem dX7_digest_52 : decode cX7_digest 52 = .ok (.getfield 116, 3) := by decide +kernel
theorem dX7_digest_55 : decode cX7_digest 55 = .ok (.if_icmp .ge 14, 3) := by decide +kernel
theorem dX7_digest_58 : decode cX7_digest 58 = .ok (.aload_n 0, 1) := by decide +kernel
theorem dX7_digest_59 : decode cX7_digest 59 = .ok (.iload_n 1, 1) := by decide +kernel
theorem dX7_digest_60 : decode cX7_digest 60 = .ok (.invokevirtual 303, 3) := by decide +kernel
theorem dX7_digest_63 : decode cX7_digest 63 = .ok (.iinc 1 1, 3) := by decide +kernel
theorem dX7_digest_66 : decode cX7_digest 66 = .ok (.goto (-16), 3) := by decide +kernel
theorem dX7_digest_69 : decode cX7_digest 69 = .ok (.aload_n 0, 1) := by decide +kernel
theorem dX7_digest_70 : decode cX7_digest 70 = .ok (.getfield 113, 3) := by decide +kernel
theorem dX7_digest_73 : decode cX7_digest 73 = .ok (.ifCond .le 38, 3) := by decide +kernel
theorem dX7_digest_76 : decode cX7_digest 76 = .ok (.aload_n 0, 1) := by decide +kernel
theorem dX7_digest_77 : decode cX7_digest 77 = .ok (.aload_n 0, 1) := by decide +kernel
theorem dX7_digest_78 : decode cX7_digest 78 = .ok (.iconst 0, 1) := by decide +kernel
theorem dX7_digest_79 : decode cX7_digest 79 = .ok (.invokevirtual 230, 3) := by decide +kernel
theorem dX7_digest_82 : decode cX7_digest 82 = .ok (.i2l, 1) := by decide +kernel
theorem dX7_digest_83 : decode cX7_digest 83 = .ok (.invokevirtual 297, 3) := by decide +kernel
theorem dX7_digest_86 : decode cX7_digest 86 = .ok (.bipush 10, 2) := by decide +kernel
theorem dX7_digest_88 : decode cX7_digest 88 = .ok (.istore_n 1, 1) := by decide +kernel
theorem dX7_digest_89 : decode cX7_digest 89 = .ok (.iload_n 1, 1) := by decide +kernel
theorem dX7_digest_90 : decode cX7_digest 90 = .ok (.bipush 16, 2) := by decide +kernel
theorem dX7_digest_92 : decode cX7_digest 92 = .ok (.if_icmp .ge 19, 3) := by decide +kernel
theorem dX7_digest_95 : decode cX7_digest 95 = .ok (.aload_n 0, 1) := by decide +kernel
theorem dX7_digest_96 : decode cX7_digest 96 = .ok (.aload_n 0, 1) := by decide +kernel
theorem dX7_digest_97 : decode cX7_digest 97 = .ok (.iload_n 1, 1) := by decide +kernel
theorem dX7_digest_98 : decode cX7_digest 98 = .ok (.invokevirtual 230, 3) := by decide +kernel
theorem dX7_digest_101 : decode cX7_digest 101 = .ok (.i2l, 1) := by decide +kernel
theorem dX7_digest_102 : decode cX7_digest 102 = .ok (.invokevirtual 297, 3) := by decide +kernel
theorem dX7_digest_105 : decode cX7_digest 105 = .ok (.iinc 1 1, 3) := by decide +kernel
theorem dX7_digest_108 : decode cX7_digest 108 = .ok (.goto (-19), 3) := by decide +kernel
theorem dX7_digest_111 : decode cX7_digest 111 = .ok (.iconst 0, 1) := by decide +kernel
theorem dX7_digest_112 : decode cX7_digest 112 = .ok (.istore_n 1, 1) := by decide +kernel
theorem dX7_digest_113 : decode cX7_digest 113 = .ok (.iload_n 1, 1) := by decide +kernel
theorem dX7_digest_114 : decode cX7_digest 114 = .ok (.aload_n 0, 1) := by decide +kernel
theorem dX7_digest_115 : decode cX7_digest 115 = .ok (.getfield 81, 3) := by decide +kernel
theorem dX7_digest_118 : decode cX7_digest 118 = .ok (.if_icmp .ge 20, 3) := by decide +kernel
theorem dX7_digest_121 : decode cX7_digest 121 = .ok (.aload_n 0, 1) := by decide +kernel
theorem dX7_digest_122 : decode cX7_digest 122 = .ok (.aload_n 0, 1) := by decide +kernel
theorem dX7_digest_123 : decode cX7_digest 123 = .ok (.getfield 37, 3) := by decide +kernel
theorem dX7_digest_126 : decode cX7_digest 126 = .ok (.iload_n 1, 1) := by decide +kernel
theorem dX7_digest_127 : decode cX7_digest 127 = .ok (.baload, 1) := by decide +kernel
theorem dX7_digest_128 : decode cX7_digest 128 = .ok (.i2l, 1) := by decide +kernel
theorem dX7_digest_129 : decode cX7_digest 129 = .ok (.invokevirtual 297, 3) := by decide +kernel
theorem dX7_digest_132 : decode cX7_digest 132 = .ok (.iinc 1 1, 3) := by decide +kernel
theorem dX7_digest_135 : decode cX7_digest 135 = .ok (.goto (-22), 3) := by decide +kernel
theorem dX7_digest_138 : decode cX7_digest 138 = .ok (.iconst 0, 1) := by decide +kernel
theorem dX7_digest_139 : decode cX7_digest 139 = .ok (.istore_n 1, 1) := by decide +kernel
theorem dX7_digest_140 : decode cX7_digest 140 = .ok (.iload_n 1, 1) := by decide +kernel
theorem dX7_digest_141 : decode cX7_digest 141 = .ok (.bipush 13, 2) := by decide +kernel
theorem dX7_digest_143 : decode cX7_digest 143 = .ok (.if_icmp .ge 19, 3) := by decide +kernel
theorem dX7_digest_146 : decode cX7_digest 146 = .ok (.aload_n 0, 1) := by decide +kernel
theorem dX7_digest_147 : decode cX7_digest 147 = .ok (.aload_n 0, 1) := by decide +kernel
theorem dX7_digest_148 : decode cX7_digest 148 = .ok (.iload_n 1, 1) := by decide +kernel
theorem dX7_digest_149 : decode cX7_digest 149 = .ok (.invokevirtual 289, 3) := by decide +kernel
theorem dX7_digest_152 : decode cX7_digest 152 = .ok (.i2l, 1) := by decide +kernel
theorem dX7_digest_153 : decode cX7_digest 153 = .ok (.invokevirtual 297, 3) := by decide +kernel
theorem dX7_digest_156 : decode cX7_digest 156 = .ok (.iinc 1 1, 3) := by decide +kernel
theorem dX7_digest_159 : decode cX7_digest 159 = .ok (.goto (-19), 3) := by decide +kernel
theorem dX7_digest_162 : decode cX7_digest 162 = .ok (.aload_n 0, 1) := by decide +kernel
theorem dX7_digest_163 : decode cX7_digest 163 = .ok (.getfield 294, 3) := by decide +kernel
theorem dX7_digest_166 : decode cX7_digest 166 = .ok (.lreturn, 1) := by decide +kernel
theorem dJ6_bitCount_0f7a4_0 : decode cJ6_bitCount_0f7a4 0 = .ok (.iload_n 0, 1) := by decide +kernel
theorem dJ6_bitCount_0f7a4_1 : decode cJ6_bitCount_0f7a4 1 = .ok (.iload_n 0, 1) := by decide +kernel
theorem dJ6_bitCount_0f7a4_2 : decode cJ6_bitCount_0f7a4 2 = .ok (.iconst 1, 1) := by decide +kernel
theorem dJ6_bitCount_0f7a4_3 : decode cJ6_bitCount_0f7a4 3 = .ok (.iushr, 1) := by decide +kernel
theorem dJ6_bitCount_0f7a4_4 : decode cJ6_bitCount_0f7a4 4 = .ok (.ldc_w 265, 3) := by decide +kernel
theorem dJ6_bitCount_0f7a4_7 : decode cJ6_bitCount_0f7a4 7 = .ok (.iand, 1) := by decide +kernel
theorem dJ6_bitCount_0f7a4_8 : decode cJ6_bitCount_0f7a4 8 = .ok (.isub, 1) := by decide +kernel
theorem dJ6_bitCount_0f7a4_9 : decode cJ6_bitCount_0f7a4 9 = .ok (.istore_n 0, 1) := by decide +kernel
theorem dJ6_bitCount_0f7a4_10 : decode cJ6_bitCount_0f7a4 10 = .ok (.iload_n 0, 1) := by decide +kernel
theorem dJ6_bitCount_0f7a4_11 : decode cJ6_bitCount_0f7a4 11 = .ok (.ldc_w 266, 3) := by decide +kernel
theorem dJ6_bitCount_0f7a4_14 : decode cJ6_bitCount_0f7a4 14 = .ok (.iand, 1) := by decide +kernel
theorem dJ6_bitCount_0f7a4_15 : decode cJ6_bitCount_0f7a4 15 = .ok (.iload_n 0, 1) := by decide +kernel
theorem dJ6_bitCount_0f7a4_16 : decode cJ6_bitCount_0f7a4 16 = .ok (.iconst 2, 1) := by decide +kernel
theorem dJ6_bitCount_0f7a4_17 : decode cJ6_bitCount_0f7a4 17 = .ok (.iushr, 1) := by decide +kernel
theorem dJ6_bitCount_0f7a4_18 : decode cJ6_bitCount_0f7a4 18 = .ok (.ldc_w 266, 3) := by decide +kernel
theorem dJ6_bitCount_0f7a4_21 : decode cJ6_bitCount_0f7a4 21 = .ok (.iand, 1) := by decide +kernel
theorem dJ6_bitCount_0f7a4_22 : decode cJ6_bitCount_0f7a4 22 = .ok (.iadd, 1) := by decide +kernel
theorem dJ6_bitCount_0f7a4_23 : decode cJ6_bitCount_0f7a4 23 = .ok (.istore_n 0, 1) := by decide +kernel
theorem dJ6_bitCount_0f7a4_24 : decode cJ6_bitCount_0f7a4 24 = .ok (.iload_n 0, 1) := by decide +kernel
theorem dJ6_bitCount_0f7a4_25 : decode cJ6_bitCount_0f7a4 25 = .ok (.iload_n 0, 1) := by decide +kernel
theorem dJ6_bitCount_0f7a4_26 : decode cJ6_bitCount_0f7a4 26 = .ok (.iconst 4, 1) := by decide +kernel
theorem dJ6_bitCount_0f7a4_27 : decode cJ6_bitCount_0f7a4 27 = .ok (.iushr, 1) := by decide +kernel
theorem dJ6_bitCount_0f7a4_28 : decode cJ6_bitCount_0f7a4 28 = .ok (.iadd, 1) := by decide +kernel
theorem dJ6_bitCount_0f7a4_29 : decode cJ6_bitCount_0f7a4 29 = .ok (.ldc_w 267, 3) := by decide +kernel
theorem dJ6_bitCount_0f7a4_32 : decode cJ6_bitCount_0f7a4 32 = .ok (.iand, 1) := by decide +kernel
theorem dJ6_bitCount_0f7a4_33 : decode cJ6_bitCount_0f7a4 33 = .ok (.istore_n 0, 1) := by decide +kernel
theorem dJ6_bitCount_0f7a4_34 : decode cJ6_bitCount_0f7a4 34 = .ok (.iload_n 0, 1) := by decide +kernel
theorem dJ6_bitCount_0f7a4_35 : decode cJ6_bitCount_0f7a4 35 = .ok (.iload_n 0, 1) := by decide +kernel
theorem dJ6_bitCount_0f7a4_36 : decode cJ6_bitCount_0f7a4 36 = .ok (.bipush 8, 2) := by decide +kernel
theorem dJ6_bitCount_0f7a4_38 : decode cJ6_bitCount_0f7a4 38 = .ok (.iushr, 1) := by decide +kernel
theorem dJ6_bitCount_0f7a4_39 : decode cJ6_bitCount_0f7a4 39 = .ok (.iadd, 1) := by decide +kernel
theorem dJ6_bitCount_0f7a4_40 : decode cJ6_bitCount_0f7a4 40 = .ok (.istore_n 0, 1) := by decide +kernel
theorem dJ6_bitCount_0f7a4_41 : decode cJ6_bitCount_0f7a4 41 = .ok (.iload_n 0, 1) := by decide +kernel
theorem dJ6_bitCount_0f7a4_42 : decode cJ6_bitCount_0f7a4 42 = .ok (.iload_n 0, 1) := by decide +kernel
theorem dJ6_bitCount_0f7a4_43 : decode cJ6_bitCount_0f7a4 43 = .ok (.bipush 16, 2) := by decide +kernel
theorem dJ6_bitCount_0f7a4_45 : decode cJ6_bitCount_0f7a4 45 = .ok (.iushr, 1) := by decide +kernel
theorem dJ6_bitCount_0f7a4_46 : decode cJ6_bitCount_0f7a4 46 = .ok (.iadd, 1) := by decide +kernel
theorem dJ6_bitCount_0f7a4_47 : decode cJ6_bitCount_0f7a4 47 = .ok (.istore_n 0, 1) := by decide +kernel
theorem dJ6_bitCount_0f7a4_48 : decode cJ6_bitCount_0f7a4 48 = .ok (.iload_n 0, 1) := by decide +kernel
theorem dJ6_bitCount_0f7a4_49 : decode cJ6_bitCount_0f7a4 49 = .ok (.bipush 63, 2) := by decide +kernel
theorem dJ6_bitCount_0f7a4_51 : decode cJ6_bitCount_0f7a4 51 = .ok (.iand, 1) := by decide +kernel
theorem dJ6_bitCount_0f7a4_52 : decode cJ6_bitCount_0f7a4 52 = .ok (.ireturn, 1) := by decide +kernel
theorem dJ9_abs_0f7a4_0 : decode cJ9_abs_0f7a4 0 = .ok (.iload_n 0, 1) := by decide +kernel
theorem dJ9_abs_0f7a4_1 : decode cJ9_abs_0f7a4 1 = .ok (.ifCond .ge 8, 3) := by decide +kernel
theorem dJ9_abs_0f7a4_4 : decode cJ9_abs_0f7a4 4 = .ok (.iload_n 0, 1) := by decide +kernel
theorem dJ9_abs_0f7a4_5 : decode cJ9_abs_0f7a4 5 = .ok (.ineg, 1) := by decide +kernel
theorem dJ9_abs_0f7a4_6 : decode cJ9_abs_0f7a4 6 = .ok (.goto 4, 3) := by decide +kernel
theorem dJ9_abs_0f7a4_9 : decode cJ9_abs_0f7a4 9 = .ok (.iload_n 0, 1) := by decide +kernel
theorem dJ9_abs_0f7a4_10 : decode cJ9_abs_0f7a4 10 = .ok (.ireturn, 1) := by decide +kernel
theorem dJ9_max_7cf53_0 : decode cJ9_max_7cf53 0 = .ok (.iload_n 0, 1) := by decide +kernel
theorem dJ9_max_7cf53_1 : decode cJ9_max_7cf53 1 = .ok (.iload_n 1, 1) := by decide +kernel
theorem dJ9_max_7cf53_2 : decode cJ9_max_7cf53 2 = .ok (.if_icmp .lt 7, 3) := by decide +kernel
theorem dJ9_max_7cf53_5 : decode cJ9_max_7cf53 5 = .ok (.iload_n 0, 1) := by decide +kernel
theorem dJ9_max_7cf53_6 : decode cJ9_max_7cf53 6 = .ok (.goto 4, 3) := by decide +kernel
theorem dJ9_max_7cf53_9 : decode cJ9_max_7cf53 9 = .ok (.iload_n 1, 1) := by decide +kernel
theorem dJ9_max_7cf53_10 : decode cJ9_max_7cf53 10 = .ok (.ireturn, 1) := by decide +kernel
theorem dJ9_min_7cf53_0 : decode cJ9_min_7cf53 0 = .ok (.iload_n 0, 1) := by decide +kernel
theorem dJ9_min_7cf53_1 : decode cJ9_min_7cf53 1 = .ok (.iload_n 1, 1) := by decide +kernel
theorem dJ9_min_7cf53_2 : decode cJ9_min_7cf53 2 = .ok (.if_icmp .gt 7, 3) := by decide +kernel
theorem dJ9_min_7cf53_5 : decode cJ9_min_7cf53 5 = .ok (.iload_n 0, 1) := by decide +kernel
theorem dJ9_min_7cf53_6 : decode cJ9_min_7cf53 6 = .ok (.goto 4, 3) := by decide +kernel
theorem dJ9_min_7cf53_9 : decode cJ9_min_7cf53 9 = .ok (.iload_n 1, 1) := by decide +kernel
theorem dJ9_min_7cf53_10 : decode cJ9_min_7cf53 10 = .ok (.ireturn, 1) := by decide +kernel
theorem dJ7_fill_53178_0 : decode cJ7_fill_53178 0 = .ok (.iconst 0, 1) := by decide +kernel
theorem dJ7_fill_53178_1 : decode cJ7_fill_53178 1 = .ok (.istore_n 2, 1) := by decide +kernel
theorem dJ7_fill_53178_2 : decode cJ7_fill_53178 2 = .ok (.aload_n 0, 1) := by decide +kernel
theorem dJ7_fill_53178_3 : decode cJ7_fill_53178 3 = .ok (.arraylength, 1) := by decide +kernel
theorem dJ7_fill_53178_4 : decode cJ7_fill_53178 4 = .ok (.istore_n 3, 1) := by decide +kernel
theorem dJ7_fill_53178_5 : decode cJ7_fill_53178 5 = .ok (.iload_n 2, 1) := by decide +kernel
theorem dJ7_fill_53178_6 : decode cJ7_fill_53178 6 = .ok (.iload_n 3, 1) := by decide +kernel
theorem dJ7_fill_53178_7 : decode cJ7_fill_53178 7 = .ok (.if_icmp .ge 13, 3) := by decide +kernel
theorem dJ7_fill_53178_10 : decode cJ7_fill_53178 10 = .ok (.aload_n 0, 1) := by decide +kernel
theorem dJ7_fill_53178_11 : decode cJ7_fill_53178 11 = .ok (.iload_n 2, 1) := by decide +kernel
theorem dJ7_fill_53178_12 : decode cJ7_fill_53178 12 = .ok (.iload_n 1, 1) := by decide +kernel
theorem dJ7_fill_53178_13 : decode cJ7_fill_53178 13 = .ok (.iastore, 1) := by decide +kernel
theorem dJ7_fill_53178_14 : decode cJ7_fill_53178 14 = .ok (.iinc 2 1, 3) := by decide +kernel
theorem dJ7_fill_53178_17 : decode cJ7_fill_53178 17 = .ok (.goto (-12), 3) := by decide +kernel
theorem dJ7_fill_53178_20 : decode cJ7_fill_53178 20 = .ok (.return_, 1) := by decide +kernel
theorem dL_law_0 : decode cL_law 0 = .ok (.new 7, 3) := by decide +kernel
theorem dL_law_3 : decode cL_law 3 = .ok (.dup, 1) := by decide +kernel
theorem dL_law_4 : decode cL_law 4 = .ok (.invokespecial 9, 3) := by decide +kernel
theorem dL_law_7 : decode cL_law 7 = .ok (.astore_n 1, 1) := by decide +kernel
theorem dL_law_8 : decode cL_law 8 = .ok (.new 10, 3) := by decide +kernel
theorem dL_law_11 : decode cL_law 11 = .ok (.dup, 1) := by decide +kernel
theorem dL_law_12 : decode cL_law 12 = .ok (.invokespecial 12, 3) := by decide +kernel
theorem dL_law_15 : decode cL_law 15 = .ok (.astore_n 2, 1) := by decide +kernel
theorem dL_law_16 : decode cL_law 16 = .ok (.iconst 0, 1) := by decide +kernel
theorem dL_law_17 : decode cL_law 17 = .ok (.istore_n 3, 1) := by decide +kernel
theorem dL_law_18 : decode cL_law 18 = .ok (.iload_n 3, 1) := by decide +kernel
theorem dL_law_19 : decode cL_law 19 = .ok (.aload_n 0, 1) := by decide +kernel
theorem dL_law_20 : decode cL_law 20 = .ok (.arraylength, 1) := by decide +kernel
theorem dL_law_21 : decode cL_law 21 = .ok (.iconst 5, 1) := by decide +kernel
theorem dL_law_22 : decode cL_law 22 = .ok (.isub, 1) := by decide +kernel
theorem dL_law_23 : decode cL_law 23 = .ok (.if_icmp .gt 733, 3) := by decide +kernel
theorem dL_law_26 : decode cL_law 26 = .ok (.aload_n 0, 1) := by decide +kernel
theorem dL_law_27 : decode cL_law 27 = .ok (.iload_n 3, 1) := by decide +kernel
theorem dL_law_28 : decode cL_law 28 = .ok (.iaload, 1) := by decide +kernel
theorem dL_law_29 : decode cL_law 29 = .ok (.bipush 31, 2) := by decide +kernel
theorem dL_law_31 : decode cL_law 31 = .ok (.iand, 1) := by decide +kernel
theorem dL_law_32 : decode cL_law 32 = .ok (.tableswitch 718 0 22 #[108, 131, 144, 157, 170, 203, 236, 269, 312, 335, 348, 381, 424, 457, 480, 503, 556, 599, 612, 655, 668, 681, 704], 108) := by decide +kernel
theorem dL_law_140 : decode cL_law 140 = .ok (.aload_n 1, 1) := by decide +kernel
theorem dL_law_141 : decode cL_law 141 = .ok (.aload_n 0, 1) := by decide +kernel
theorem dL_law_142 : decode cL_law 142 = .ok (.iload_n 3, 1) := by decide +kernel
theorem dL_law_143 : decode cL_law 143 = .ok (.iconst 1, 1) := by decide +kernel
theorem dL_law_144 : decode cL_law 144 = .ok (.iadd, 1) := by decide +kernel
theorem dL_law_145 : decode cL_law 145 = .ok (.iaload, 1) := by decide +kernel
theorem dL_law_146 : decode cL_law 146 = .ok (.invokevirtual 13, 3) := by decide +kernel
theorem dL_law_149 : decode cL_law 149 = .ok (.aload_n 2, 1) := by decide +kernel
theorem dL_law_150 : decode cL_law 150 = .ok (.aload_n 0, 1) := by decide +kernel
theorem dL_law_151 : decode cL_law 151 = .ok (.iload_n 3, 1) := by decide +kernel
theorem dL_law_152 : decode cL_law 152 = .ok (.iconst 1, 1) := by decide +kernel
theorem dL_law_153 : decode cL_law 153 = .ok (.iadd, 1) := by decide +kernel
theorem dL_law_154 : decode cL_law 154 = .ok (.iaload, 1) := by decide +kernel
theorem dL_law_155 : decode cL_law 155 = .ok (.invokevirtual 17, 3) := by decide +kernel
theorem dL_law_158 : decode cL_law 158 = .ok (.if_icmp .eq 592, 3) := by decide +kernel
theorem dL_law_161 : decode cL_law 161 = .ok (.iconst 0, 1) := by decide +kernel
theorem dL_law_162 : decode cL_law 162 = .ok (.ireturn, 1) := by decide +kernel
theorem dL_law_163 : decode cL_law 163 = .ok (.aload_n 1, 1) := by decide +kernel
theorem dL_law_164 : decode cL_law 164 = .ok (.invokevirtual 18, 3) := by decide +kernel
theorem dL_law_167 : decode cL_law 167 = .ok (.aload_n 2, 1) := by decide +kernel
theorem dL_law_168 : decode cL_law 168 = .ok (.invokevirtual 22, 3) := by decide +kernel
theorem dL_law_171 : decode cL_law 171 = .ok (.if_icmp .eq 579, 3) := by decide +kernel
theorem dL_law_174 : decode cL_law 174 = .ok (.iconst 0, 1) := by decide +kernel
theorem dL_law_175 : decode cL_law 175 = .ok (.ireturn, 1) := by decide +kernel
theorem dL_law_176 : decode cL_law 176 = .ok (.aload_n 1, 1) := by decide +kernel
theorem dL_law_177 : decode cL_law 177 = .ok (.invokevirtual 23, 3) := by decide +kernel
theorem dL_law_180 : decode cL_law 180 = .ok (.aload_n 2, 1) := by decide +kernel
theorem dL_law_181 : decode cL_law 181 = .ok (.invokevirtual 26, 3) := by decide +kernel
theorem dL_law_184 : decode cL_law 184 = .ok (.if_icmp .eq 566, 3) := by decide +kernel
theorem dL_law_187 : decode cL_law 187 = .ok (.iconst 0, 1) := by decide +kernel
theorem dL_law_188 : decode cL_law 188 = .ok (.ireturn, 1) := by decide +kernel
theorem dL_law_189 : decode cL_law 189 = .ok (.aload_n 1, 1) := by decide +kernel
theorem dL_law_190 : decode cL_law 190 = .ok (.invokevirtual 27, 3) := by decide +kernel
theorem dL_law_193 : decode cL_law 193 = .ok (.aload_n 2, 1) := by decide +kernel
theorem dL_law_194 : decode cL_law 194 = .ok (.invokevirtual 30, 3) := by decide +kernel
theorem dL_law_197 : decode cL_law 197 = .ok (.if_icmp .eq 553, 3) := by decide +kernel
theorem dL_law_200 : decode cL_law 200 = .ok (.iconst 0, 1) := by decide +kernel
theorem dL_law_201 : decode cL_law 201 = .ok (.ireturn, 1) := by decide +kernel
theorem dL_law_202 : decode cL_law 202 = .ok (.aload_n 1, 1) := by decide +kernel
theorem dL_law_203 : decode cL_law 203 = .ok (.aload_n 0, 1) := by decide +kernel
theorem dL_law_204 : decode cL_law 204 = .ok (.iload_n 3, 1) := by decide +kernel
theorem dL_law_205 : decode cL_law 205 = .ok (.iconst 1, 1) := by decide +kernel
theorem dL_law_206 : decode cL_law 206 = .ok (.iadd, 1) := by decide +kernel
theorem dL_law_207 : decode cL_law 207 = .ok (.iaload, 1) := by decide +kernel
theorem dL_law_208 : decode cL_law 208 = .ok (.aload_n 0, 1) := by decide +kernel
theorem dL_law_209 : decode cL_law 209 = .ok (.iload_n 3, 1) := by decide +kernel
theorem dL_law_210 : decode cL_law 210 = .ok (.iconst 2, 1) := by decide +kernel
theorem dL_law_211 : decode cL_law 211 = .ok (.iadd, 1) := by decide +kernel
theorem dL_law_212 : decode cL_law 212 = .ok (.iaload, 1) := by decide +kernel
theorem dL_law_213 : decode cL_law 213 = .ok (.invokevirtual 31, 3) := by decide +kernel
theorem dL_law_216 : decode cL_law 216 = .ok (.aload_n 2, 1) := by decide +kernel
theorem dL_law_217 : decode cL_law 217 = .ok (.aload_n 0, 1) := by decide +kernel
theorem dL_law_218 : decode cL_law 218 = .ok (.iload_n 3, 1) := by decide +kernel
theorem dL_law_219 : decode cL_law 219 = .ok (.iconst 1, 1) := by decide +kernel
theorem dL_law_220 : decode cL_law 220 = .ok (.iadd, 1) := by decide +kernel
theorem dL_law_221 : decode cL_law 221 = .ok (.iaload, 1) := by decide +kernel
theorem dL_law_222 : decode cL_law 222 = .ok (.aload_n 0, 1) := by decide +kernel
theorem dL_law_223 : decode cL_law 223 = .ok (.iload_n 3, 1) := by decide +kernel
theorem dL_law_224 : decode cL_law 224 = .ok (.iconst 2, 1) := by decide +kernel
theorem dL_law_225 : decode cL_law 225 = .ok (.iadd, 1) := by decide +kernel
theorem dL_law_226 : decode cL_law 226 = .ok (.iaload, 1) := by decide +kernel
theorem dL_law_227 : decode cL_law 227 = .ok (.invokevirtual 35, 3) := by decide +kernel
theorem dL_law_230 : decode cL_law 230 = .ok (.if_icmp .eq 520, 3) := by decide +kernel
theorem dL_law_233 : decode cL_law 233 = .ok (.iconst 0, 1) := by decide +kernel
theorem dL_law_234 : decode cL_law 234 = .ok (.ireturn, 1) := by decide +kernel
theorem dL_law_235 : decode cL_law 235 = .ok (.aload_n 1, 1) := by decide +kernel
theorem dL_law_236 : decode cL_law 236 = .ok (.aload_n 0, 1) := by decide +kernel
theorem dL_law_237 : decode cL_law 237 = .ok (.iload_n 3, 1) := by decide +kernel
theorem dL_law_238 : decode cL_law 238 = .ok (.iconst 1, 1) := by decide +kernel
theorem dL_law_239 : decode cL_law 239 = .ok (.iadd, 1) := by decide +kernel
theorem dL_law_240 : decode cL_law 240 = .ok (.iaload, 1) := by decide +kernel
theorem dL_law_241 : decode cL_law 241 = .ok (.aload_n 0, 1) := by decide +kernel
theorem dL_law_242 : decode cL_law 242 = .ok (.iload_n 3, 1) := by decide +kernel
theorem dL_law_243 : decode cL_law 243 = .ok (.iconst 2, 1) := by decide +kernel
theorem dL_law_244 : decode cL_law 244 = .ok (.iadd, 1) := by decide +kernel
theorem dL_law_245 : decode cL_law 245 = .ok (.iaload, 1) := by decide +kernel
theorem dL_law_246 : decode cL_law 246 = .ok (.invokevirtual 36, 3) := by decide +kernel
theorem dL_law_249 : decode cL_law 249 = .ok (.aload_n 2, 1) := by decide +kernel
theorem dL_law_250 : decode cL_law 250 = .ok (.aload_n 0, 1) := by decide +kernel
theorem dL_law_251 : decode cL_law 251 = .ok (.iload_n 3, 1) := by decide +kernel
theorem dL_law_252 : decode cL_law 252 = .ok (.iconst 1, 1) := by decide +kernel
theorem dL_law_253 : decode cL_law 253 = .ok (.iadd, 1) := by decide +kernel
theorem dL_law_254 : decode cL_law 254 = .ok (.iaload, 1) := by decide +kernel
theorem dL_law_255 : decode cL_law 255 = .ok (.aload_n 0, 1) := by decide +kernel
theorem dL_law_256 : decode cL_law 256 = .ok (.iload_n 3, 1) := by decide +kernel
theorem dL_law_257 : decode cL_law 257 = .ok (.iconst 2, 1) := by decide +kernel
theorem dL_law_258 : decode cL_law 258 = .ok (.iadd, 1) := by decide +kernel
theorem dL_law_259 : decode cL_law 259 = .ok (.iaload, 1) := by decide +kernel
theorem dL_law_260 : decode cL_law 260 = .ok (.invokevirtual 39, 3) := by decide +kernel
theorem dL_law_263 : decode cL_law 263 = .ok (.if_icmp .eq 487, 3) := by decide +kernel
theorem dL_law_266 : decode cL_law 266 = .ok (.iconst 0, 1) := by decide +kernel
theorem dL_law_267 : decode cL_law 267 = .ok (.ireturn, 1) := by decide +kernel
theorem dL_law_268 : decode cL_law 268 = .ok (.aload_n 1, 1) := by decide +kernel
theorem dL_law_269 : decode cL_law 269 = .ok (.aload_n 0, 1) := by decide +kernel
theorem dL_law_270 : decode cL_law 270 = .ok (.iload_n 3, 1) := by decide +kernel
theorem dL_law_271 : decode cL_law 271 = .ok (.iconst 1, 1) := by decide +kernel
theorem dL_law_272 : decode cL_law 272 = .ok (.iadd, 1) := by decide +kernel
theorem dL_law_273 : decode cL_law 273 = .ok (.iaload, 1) := by decide +kernel
theorem dL_law_274 : decode cL_law 274 = .ok (.aload_n 0, 1) := by decide +kernel
theorem dL_law_275 : decode cL_law 275 = .ok (.iload_n 3, 1) := by decide +kernel
theorem dL_law_276 : decode cL_law 276 = .ok (.iconst 2, 1) := by decide +kernel
theorem dL_law_277 : decode cL_law 277 = .ok (.iadd, 1) := by decide +kernel
theorem dL_law_278 : decode cL_law 278 = .ok (.iaload, 1) := by decide +kernel
theorem dL_law_279 : decode cL_law 279 = .ok (.invokevirtual 40, 3) := by decide +kernel
theorem dL_law_282 : decode cL_law 282 = .ok (.aload_n 2, 1) := by decide +kernel
theorem dL_law_283 : decode cL_law 283 = .ok (.aload_n 0, 1) := by decide +kernel
theorem dL_law_284 : decode cL_law 284 = .ok (.iload_n 3, 1) := by decide +kernel
theorem dL_law_285 : decode cL_law 285 = .ok (.iconst 1, 1) := by decide +kernel
theorem dL_law_286 : decode cL_law 286 = .ok (.iadd, 1) := by decide +kernel
theorem dL_law_287 : decode cL_law 287 = .ok (.iaload, 1) := by decide +kernel
theorem dL_law_288 : decode cL_law 288 = .ok (.aload_n 0, 1) := by decide +kernel
theorem dL_law_289 : decode cL_law 289 = .ok (.iload_n 3, 1) := by decide +kernel
theorem dL_law_290 : decode cL_law 290 = .ok (.iconst 2, 1) := by decide +kernel
theorem dL_law_291 : decode cL_law 291 = .ok (.iadd, 1) := by decide +kernel
theorem dL_law_292 : decode cL_law 292 = .ok (.iaload, 1) := by decide +kernel
theorem dL_law_293 : decode cL_law 293 = .ok (.invokevirtual 43, 3) := by decide +kernel
theorem dL_law_296 : decode cL_law 296 = .ok (.if_icmp .eq 454, 3) := by decide +kernel
theorem dL_law_299 : decode cL_law 299 = .ok (.iconst 0, 1) := by decide +kernel
theorem dL_law_300 : decode cL_law 300 = .ok (.ireturn, 1) := by decide +kernel
theorem dL_law_301 : decode cL_law 301 = .ok (.aload_n 1, 1) := by decide +kernel
theorem dL_law_302 : decode cL_law 302 = .ok (.aload_n 0, 1) := by decide +kernel
theorem dL_law_303 : decode cL_law 303 = .ok (.iload_n 3, 1) := by decide +kernel
theorem dL_law_304 : decode cL_law 304 = .ok (.iconst 1, 1) := by decide +kernel
theorem dL_law_305 : decode cL_law 305 = .ok (.iadd, 1) := by decide +kernel
theorem dL_law_306 : decode cL_law 306 = .ok (.iaload, 1) := by decide +kernel
theorem dL_law_307 : decode cL_law 307 = .ok (.aload_n 0, 1) := by decide +kernel
theorem dL_law_308 : decode cL_law 308 = .ok (.iload_n 3, 1) := by decide +kernel
theorem dL_law_309 : decode cL_law 309 = .ok (.iconst 2, 1) := by decide +kernel
theorem dL_law_310 : decode cL_law 310 = .ok (.iadd, 1) := by decide +kernel
theorem dL_law_311 : decode cL_law 311 = .ok (.iaload, 1) := by decide +kernel
theorem dL_law_312 : decode cL_law 312 = .ok (.aload_n 0, 1) := by decide +kernel
theorem dL_law_313 : decode cL_law 313 = .ok (.iload_n 3, 1) := by decide +kernel
theorem dL_law_314 : decode cL_law 314 = .ok (.iconst 3, 1) := by decide +kernel
theorem dL_law_315 : decode cL_law 315 = .ok (.iadd, 1) := by decide +kernel
theorem dL_law_316 : decode cL_law 316 = .ok (.iaload, 1) := by decide +kernel
theorem dL_law_317 : decode cL_law 317 = .ok (.invokevirtual 44, 3) := by decide +kernel
theorem dL_law_320 : decode cL_law 320 = .ok (.aload_n 2, 1) := by decide +kernel
theorem dL_law_321 : decode cL_law 321 = .ok (.aload_n 0, 1) := by decide +kernel
theorem dL_law_322 : decode cL_law 322 = .ok (.iload_n 3, 1) := by decide +kernel
theorem dL_law_323 : decode cL_law 323 = .ok (.iconst 1, 1) := by decide +kernel
theorem dL_law_324 : decode cL_law 324 = .ok (.iadd, 1) := by decide +kernel
theorem dL_law_325 : decode cL_law 325 = .ok (.iaload, 1) := by decide +kernel
theorem dL_law_326 : decode cL_law 326 = .ok (.aload_n 0, 1) := by decide +kernel
theorem dL_law_327 : decode cL_law 327 = .ok (.iload_n 3, 1) := by decide +kernel
theorem dL_law_328 : decode cL_law 328 = .ok (.iconst 2, 1) := by decide +kernel
theorem dL_law_329 : decode cL_law 329 = .ok (.iadd, 1) := by decide +kernel
theorem dL_law_330 : decode cL_law 330 = .ok (.iaload, 1) := by decide +kernel
theorem dL_law_331 : decode cL_law 331 = .ok (.aload_n 0, 1) := by decide +kernel
theorem dL_law_332 : decode cL_law 332 = .ok (.iload_n 3, 1) := by decide +kernel
theorem dL_law_333 : decode cL_law 333 = .ok (.iconst 3, 1) := by decide +kernel
theorem dL_law_334 : decode cL_law 334 = .ok (.iadd, 1) := by decide +kernel
theorem dL_law_335 : decode cL_law 335 = .ok (.iaload, 1) := by decide +kernel
theorem dL_law_336 : decode cL_law 336 = .ok (.invokevirtual 48, 3) := by decide +kernel
theorem dL_law_339 : decode cL_law 339 = .ok (.if_icmp .eq 411, 3) := by decide +kernel
theorem dL_law_342 : decode cL_law 342 = .ok (.iconst 0, 1) := by decide +kernel
theorem dL_law_343 : decode cL_law 343 = .ok (.ireturn, 1) := by decide +kernel
theorem dL_law_344 : decode cL_law 344 = .ok (.aload_n 1, 1) := by decide +kernel
theorem dL_law_345 : decode cL_law 345 = .ok (.aload_n 0, 1) := by decide +kernel
theorem dL_law_346 : decode cL_law 346 = .ok (.iload_n 3, 1) := by decide +kernel
theorem dL_law_347 : decode cL_law 347 = .ok (.iconst 1, 1) := by decide +kernel
theorem dL_law_348 : decode cL_law 348 = .ok (.iadd, 1) := by decide +kernel
theorem dL_law_349 : decode cL_law 349 = .ok (.iaload, 1) := by decide +kernel
theorem dL_law_350 : decode cL_law 350 = .ok (.invokevirtual 49, 3) := by decide +kernel
theorem dL_law_353 : decode cL_law 353 = .ok (.aload_n 2, 1) := by decide +kernel
theorem dL_law_354 : decode cL_law 354 = .ok (.aload_n 0, 1) := by decide +kernel
theorem dL_law_355 : decode cL_law 355 = .ok (.iload_n 3, 1) := by decide +kernel
theorem dL_law_356 : decode cL_law 356 = .ok (.iconst 1, 1) := by decide +kernel
theorem dL_law_357 : decode cL_law 357 = .ok (.iadd, 1) := by decide +kernel
theorem dL_law_358 : decode cL_law 358 = .ok (.iaload, 1) := by decide +kernel
theorem dL_law_359 : decode cL_law 359 = .ok (.invokevirtual 52, 3) := by decide +kernel
theorem dL_law_362 : decode cL_law 362 = .ok (.if_icmp .eq 388, 3) := by decide +kernel
theorem dL_law_365 : decode cL_law 365 = .ok (.iconst 0, 1) := by decide +kernel
theorem dL_law_366 : decode cL_law 366 = .ok (.ireturn, 1) := by decide +kernel
theorem dL_law_367 : decode cL_law 367 = .ok (.aload_n 1, 1) := by decide +kernel
theorem dL_law_368 : decode cL_law 368 = .ok (.invokevirtual 53, 3) := by decide +kernel
theorem dL_law_371 : decode cL_law 371 = .ok (.aload_n 2, 1) := by decide +kernel
theorem dL_law_372 : decode cL_law 372 = .ok (.invokevirtual 56, 3) := by decide +kernel
theorem dL_law_375 : decode cL_law 375 = .ok (.if_icmp .eq 375, 3) := by decide +kernel
theorem dL_law_378 : decode cL_law 378 = .ok (.iconst 0, 1) := by decide +kernel
theorem dL_law_379 : decode cL_law 379 = .ok (.ireturn, 1) := by decide +kernel
theorem dL_law_380 : decode cL_law 380 = .ok (.aload_n 1, 1) := by decide +kernel
theorem dL_law_381 : decode cL_law 381 = .ok (.aload_n 0, 1) := by decide +kernel
theorem dL_law_382 : decode cL_law 382 = .ok (.iload_n 3, 1) := by decide +kernel
theorem dL_law_383 : decode cL_law 383 = .ok (.iconst 1, 1) := by decide +kernel
theorem dL_law_384 : decode cL_law 384 = .ok (.iadd, 1) := by decide +kernel
theorem dL_law_385 : decode cL_law 385 = .ok (.iaload, 1) := by decide +kernel
theorem dL_law_386 : decode cL_law 386 = .ok (.aload_n 0, 1) := by decide +kernel
theorem dL_law_387 : decode cL_law 387 = .ok (.iload_n 3, 1) := by decide +kernel
theorem dL_law_388 : decode cL_law 388 = .ok (.iconst 2, 1) := by decide +kernel
theorem dL_law_389 : decode cL_law 389 = .ok (.iadd, 1) := by decide +kernel
theorem dL_law_390 : decode cL_law 390 = .ok (.iaload, 1) := by decide +kernel
theorem dL_law_391 : decode cL_law 391 = .ok (.invokevirtual 57, 3) := by decide +kernel
theorem dL_law_394 : decode cL_law 394 = .ok (.aload_n 2, 1) := by decide +kernel
theorem dL_law_395 : decode cL_law 395 = .ok (.aload_n 0, 1) := by decide +kernel
theorem dL_law_396 : decode cL_law 396 = .ok (.iload_n 3, 1) := by decide +kernel
theorem dL_law_397 : decode cL_law 397 = .ok (.iconst 1, 1) := by decide +kernel
theorem dL_law_398 : decode cL_law 398 = .ok (.iadd, 1) := by decide +kernel
theorem dL_law_399 : decode cL_law 399 = .ok (.iaload, 1) := by decide +kernel
theorem dL_law_400 : decode cL_law 400 = .ok (.aload_n 0, 1) := by decide +kernel
theorem dL_law_401 : decode cL_law 401 = .ok (.iload_n 3, 1) := by decide +kernel
theorem dL_law_402 : decode cL_law 402 = .ok (.iconst 2, 1) := by decide +kernel
theorem dL_law_403 : decode cL_law 403 = .ok (.iadd, 1) := by decide +kernel
theorem dL_law_404 : decode cL_law 404 = .ok (.iaload, 1) := by decide +kernel
theorem dL_law_405 : decode cL_law 405 = .ok (.invokevirtual 60, 3) := by decide +kernel
theorem dL_law_408 : decode cL_law 408 = .ok (.if_icmp .eq 342, 3) := by decide +kernel
theorem dL_law_411 : decode cL_law 411 = .ok (.iconst 0, 1) := by decide +kernel
theorem dL_law_412 : decode cL_law 412 = .ok (.ireturn, 1) := by decide +kernel
theorem dL_law_413 : decode cL_law 413 = .ok (.aload_n 1, 1) := by decide +kernel
theorem dL_law_414 : decode cL_law 414 = .ok (.aload_n 0, 1) := by decide +kernel
theorem dL_law_415 : decode cL_law 415 = .ok (.iload_n 3, 1) := by decide +kernel
theorem dL_law_416 : decode cL_law 416 = .ok (.iconst 1, 1) := by decide +kernel
theorem dL_law_417 : decode cL_law 417 = .ok (.iadd, 1) := by decide +kernel
theorem dL_law_418 : decode cL_law 418 = .ok (.iaload, 1) := by decide +kernel
theorem dL_law_419 : decode cL_law 419 = .ok (.aload_n 0, 1) := by decide +kernel
theorem dL_law_420 : decode cL_law 420 = .ok (.iload_n 3, 1) := by decide +kernel
theorem dL_law_421 : decode cL_law 421 = .ok (.iconst 2, 1) := by decide +kernel
theorem dL_law_422 : decode cL_law 422 = .ok (.iadd, 1) := by decide +kernel
theorem dL_law_423 : decode cL_law 423 = .ok (.iaload, 1) := by decide +kernel
theorem dL_law_424 : decode cL_law 424 = .ok (.aload_n 0, 1) := by decide +kernel
theorem dL_law_425 : decode cL_law 425 = .ok (.iload_n 3, 1) := by decide +kernel
theorem dL_law_426 : decode cL_law 426 = .ok (.iconst 3, 1) := by decide +kernel
theorem dL_law_427 : decode cL_law 427 = .ok (.iadd, 1) := by decide +kernel
theorem dL_law_428 : decode cL_law 428 = .ok (.iaload, 1) := by decide +kernel
theorem dL_law_429 : decode cL_law 429 = .ok (.invokevirtual 61, 3) := by decide +kernel
theorem dL_law_432 : decode cL_law 432 = .ok (.aload_n 2, 1) := by decide +kernel
theorem dL_law_433 : decode cL_law 433 = .ok (.aload_n 0, 1) := by decide +kernel
theorem dL_law_434 : decode cL_law 434 = .ok (.iload_n 3, 1) := by decide +kernel
theorem dL_law_435 : decode cL_law 435 = .ok (.iconst 1, 1) := by decide +kernel
theorem dL_law_436 : decode cL_law 436 = .ok (.iadd, 1) := by decide +kernel
theorem dL_law_437 : decode cL_law 437 = .ok (.iaload, 1) := by decide +kernel
theorem dL_law_438 : decode cL_law 438 = .ok (.aload_n 0, 1) := by decide +kernel
theorem dL_law_439 : decode cL_law 439 = .ok (.iload_n 3, 1) := by decide +kernel
theorem dL_law_440 : decode cL_law 440 = .ok (.iconst 2, 1) := by decide +kernel
theorem dL_law_441 : decode cL_law 441 = .ok (.iadd, 1) := by decide +kernel
theorem dL_law_442 : decode cL_law 442 = .ok (.iaload, 1) := by decide +kernel
theorem dL_law_443 : decode cL_law 443 = .ok (.aload_n 0, 1) := by decide +kernel
theorem dL_law_444 : decode cL_law 444 = .ok (.iload_n 3, 1) := by decide +kernel
theorem dL_law_445 : decode cL_law 445 = .ok (.iconst 3, 1) := by decide +kernel
theorem dL_law_446 : decode cL_law 446 = .ok (.iadd, 1) := by decide +kernel
theorem dL_law_447 : decode cL_law 447 = .ok (.iaload, 1) := by decide +kernel
theorem dL_law_448 : decode cL_law 448 = .ok (.invokevirtual 64, 3) := by decide +kernel
theorem dL_law_451 : decode cL_law 451 = .ok (.if_icmp .eq 299, 3) := by decide +kernel
theorem dL_law_454 : decode cL_law 454 = .ok (.iconst 0, 1) := by decide +kernel
theorem dL_law_455 : decode cL_law 455 = .ok (.ireturn, 1) := by decide +kernel
theorem dL_law_456 : decode cL_law 456 = .ok (.aload_n 1, 1) := by decide +kernel
theorem dL_law_457 : decode cL_law 457 = .ok (.aload_n 0, 1) := by decide +kernel
theorem dL_law_458 : decode cL_law 458 = .ok (.iload_n 3, 1) := by decide +kernel
theorem dL_law_459 : decode cL_law 459 = .ok (.iconst 1, 1) := by decide +kernel
theorem dL_law_460 : decode cL_law 460 = .ok (.iadd, 1) := by decide +kernel
theorem dL_law_461 : decode cL_law 461 = .ok (.iaload, 1) := by decide +kernel
theorem dL_law_462 : decode cL_law 462 = .ok (.aload_n 0, 1) := by decide +kernel
theorem dL_law_463 : decode cL_law 463 = .ok (.iload_n 3, 1) := by decide +kernel
theorem dL_law_464 : decode cL_law 464 = .ok (.iconst 2, 1) := by decide +kernel
theorem dL_law_465 : decode cL_law 465 = .ok (.iadd, 1) := by decide +kernel
theorem dL_law_466 : decode cL_law 466 = .ok (.iaload, 1) := by decide +kernel
theorem dL_law_467 : decode cL_law 467 = .ok (.invokevirtual 65, 3) := by decide +kernel
theorem dL_law_470 : decode cL_law 470 = .ok (.aload_n 2, 1) := by decide +kernel
theorem dL_law_471 : decode cL_law 471 = .ok (.aload_n 0, 1) := by decide +kernel
theorem dL_law_472 : decode cL_law 472 = .ok (.iload_n 3, 1) := by decide +kernel
theorem dL_law_473 : decode cL_law 473 = .ok (.iconst 1, 1) := by decide +kernel
theorem dL_law_474 : decode cL_law 474 = .ok (.iadd, 1) := by decide +kernel
theorem dL_law_475 : decode cL_law 475 = .ok (.iaload, 1) := by decide +kernel
theorem dL_law_476 : decode cL_law 476 = .ok (.aload_n 0, 1) := by decide +kernel
theorem dL_law_477 : decode cL_law 477 = .ok (.iload_n 3, 1) := by decide +kernel
theorem dL_law_478 : decode cL_law 478 = .ok (.iconst 2, 1) := by decide +kernel
theorem dL_law_479 : decode cL_law 479 = .ok (.iadd, 1) := by decide +kernel
theorem dL_law_480 : decode cL_law 480 = .ok (.iaload, 1) := by decide +kernel
theorem dL_law_481 : decode cL_law 481 = .ok (.invokevirtual 68, 3) := by decide +kernel
theorem dL_law_484 : decode cL_law 484 = .ok (.if_icmp .eq 266, 3) := by decide +kernel
theorem dL_law_487 : decode cL_law 487 = .ok (.iconst 0, 1) := by decide +kernel
theorem dL_law_488 : decode cL_law 488 = .ok (.ireturn, 1) := by decide +kernel
theorem dL_law_489 : decode cL_law 489 = .ok (.aload_n 1, 1) := by decide +kernel
theorem dL_law_490 : decode cL_law 490 = .ok (.aload_n 0, 1) := by decide +kernel
theorem dL_law_491 : decode cL_law 491 = .ok (.iload_n 3, 1) := by decide +kernel
theorem dL_law_492 : decode cL_law 492 = .ok (.iconst 1, 1) := by decide +kernel
theorem dL_law_493 : decode cL_law 493 = .ok (.iadd, 1) := by decide +kernel
theorem dL_law_494 : decode cL_law 494 = .ok (.iaload, 1) := by decide +kernel
theorem dL_law_495 : decode cL_law 495 = .ok (.invokevirtual 69, 3) := by decide +kernel
theorem dL_law_498 : decode cL_law 498 = .ok (.aload_n 2, 1) := by decide +kernel
theorem dL_law_499 : decode cL_law 499 = .ok (.aload_n 0, 1) := by decide +kernel
theorem dL_law_500 : decode cL_law 500 = .ok (.iload_n 3, 1) := by decide +kernel
theorem dL_law_501 : decode cL_law 501 = .ok (.iconst 1, 1) := by decide +kernel
theorem dL_law_502 : decode cL_law 502 = .ok (.iadd, 1) := by decide +kernel
theorem dL_law_503 : decode cL_law 503 = .ok (.iaload, 1) := by decide +kernel
theorem dL_law_504 : decode cL_law 504 = .ok (.invokevirtual 72, 3) := by decide +kernel
theorem dL_law_507 : decode cL_law 507 = .ok (.if_icmp .eq 243, 3) := by decide +kernel
theorem dL_law_510 : decode cL_law 510 = .ok (.iconst 0, 1) := by decide +kernel
theorem dL_law_511 : decode cL_law 511 = .ok (.ireturn, 1) := by decide +kernel
theorem dL_law_512 : decode cL_law 512 = .ok (.aload_n 1, 1) := by decide +kernel
theorem dL_law_513 : decode cL_law 513 = .ok (.aload_n 0, 1) := by decide +kernel
theorem dL_law_514 : decode cL_law 514 = .ok (.iload_n 3, 1) := by decide +kernel
theorem dL_law_515 : decode cL_law 515 = .ok (.iconst 1, 1) := by decide +kernel
theorem dL_law_516 : decode cL_law 516 = .ok (.iadd, 1) := by decide +kernel
theorem dL_law_517 : decode cL_law 517 = .ok (.iaload, 1) := by decide +kernel
theorem dL_law_518 : decode cL_law 518 = .ok (.invokevirtual 73, 3) := by decide +kernel
theorem dL_law_521 : decode cL_law 521 = .ok (.aload_n 2, 1) := by decide +kernel
theorem dL_law_522 : decode cL_law 522 = .ok (.aload_n 0, 1) := by decide +kernel
theorem dL_law_523 : decode cL_law 523 = .ok (.iload_n 3, 1) := by decide +kernel
theorem dL_law_524 : decode cL_law 524 = .ok (.iconst 1, 1) := by decide +kernel
theorem dL_law_525 : decode cL_law 525 = .ok (.iadd, 1) := by decide +kernel
theorem dL_law_526 : decode cL_law 526 = .ok (.iaload, 1) := by decide +kernel
theorem dL_law_527 : decode cL_law 527 = .ok (.invokevirtual 76, 3) := by decide +kernel
theorem dL_law_530 : decode cL_law 530 = .ok (.if_icmp .eq 220, 3) := by decide +kernel
theorem dL_law_533 : decode cL_law 533 = .ok (.iconst 0, 1) := by decide +kernel
theorem dL_law_534 : decode cL_law 534 = .ok (.ireturn, 1) := by decide +kernel
theorem dL_law_535 : decode cL_law 535 = .ok (.aload_n 1, 1) := by decide +kernel
theorem dL_law_536 : decode cL_law 536 = .ok (.aload_n 0, 1) := by decide +kernel
theorem dL_law_537 : decode cL_law 537 = .ok (.iload_n 3, 1) := by decide +kernel
theorem dL_law_538 : decode cL_law 538 = .ok (.iconst 1, 1) := by decide +kernel
theorem dL_law_539 : decode cL_law 539 = .ok (.iadd, 1) := by decide +kernel
theorem dL_law_540 : decode cL_law 540 = .ok (.iaload, 1) := by decide +kernel
theorem dL_law_541 : decode cL_law 541 = .ok (.aload_n 0, 1) := by decide +kernel
theorem dL_law_542 : decode cL_law 542 = .ok (.iload_n 3, 1) := by decide +kernel
theorem dL_law_543 : decode cL_law 543 = .ok (.iconst 2, 1) := by decide +kernel
theorem dL_law_544 : decode cL_law 544 = .ok (.iadd, 1) := by decide +kernel
theorem dL_law_545 : decode cL_law 545 = .ok (.iaload, 1) := by decide +kernel
theorem dL_law_546 : decode cL_law 546 = .ok (.aload_n 0, 1) := by decide +kernel
theorem dL_law_547 : decode cL_law 547 = .ok (.iload_n 3, 1) := by decide +kernel
theorem dL_law_548 : decode cL_law 548 = .ok (.iconst 3, 1) := by decide +kernel
theorem dL_law_549 : decode cL_law 549 = .ok (.iadd, 1) := by decide +kernel
theorem dL_law_550 : decode cL_law 550 = .ok (.iaload, 1) := by decide +kernel
theorem dL_law_551 : decode cL_law 551 = .ok (.aload_n 0, 1) := by decide +kernel
theorem dL_law_552 : decode cL_law 552 = .ok (.iload_n 3, 1) := by decide +kernel
theorem dL_law_553 : decode cL_law 553 = .ok (.iconst 4, 1) := by decide +kernel
theorem dL_law_554 : decode cL_law 554 = .ok (.iadd, 1) := by decide +kernel
theorem dL_law_555 : decode cL_law 555 = .ok (.iaload, 1) := by decide +kernel
theorem dL_law_556 : decode cL_law 556 = .ok (.invokevirtual 77, 3) := by decide +kernel
theorem dL_law_559 : decode cL_law 559 = .ok (.aload_n 2, 1) := by decide +kernel
theorem dL_law_560 : decode cL_law 560 = .ok (.aload_n 0, 1) := by decide +kernel
theorem dL_law_561 : decode cL_law 561 = .ok (.iload_n 3, 1) := by decide +kernel
theorem dL_law_562 : decode cL_law 562 = .ok (.iconst 1, 1) := by decide +kernel
theorem dL_law_563 : decode cL_law 563 = .ok (.iadd, 1) := by decide +kernel
theorem dL_law_564 : decode cL_law 564 = .ok (.iaload, 1) := by decide +kernel
theorem dL_law_565 : decode cL_law 565 = .ok (.aload_n 0, 1) := by decide +kernel
theorem dL_law_566 : decode cL_law 566 = .ok (.iload_n 3, 1) := by decide +kernel
theorem dL_law_567 : decode cL_law 567 = .ok (.iconst 2, 1) := by decide +kernel
theorem dL_law_568 : decode cL_law 568 = .ok (.iadd, 1) := by decide +kernel
theorem dL_law_569 : decode cL_law 569 = .ok (.iaload, 1) := by decide +kernel
theorem dL_law_570 : decode cL_law 570 = .ok (.aload_n 0, 1) := by decide +kernel
theorem dL_law_571 : decode cL_law 571 = .ok (.iload_n 3, 1) := by decide +kernel
theorem dL_law_572 : decode cL_law 572 = .ok (.iconst 3, 1) := by decide +kernel
theorem dL_law_573 : decode cL_law 573 = .ok (.iadd, 1) := by decide +kernel
theorem dL_law_574 : decode cL_law 574 = .ok (.iaload, 1) := by decide +kernel
theorem dL_law_575 : decode cL_law 575 = .ok (.aload_n 0, 1) := by decide +kernel
theorem dL_law_576 : decode cL_law 576 = .ok (.iload_n 3, 1) := by decide +kernel
theorem dL_law_577 : decode cL_law 577 = .ok (.iconst 4, 1) := by decide +kernel
theorem dL_law_578 : decode cL_law 578 = .ok (.iadd, 1) := by decide +kernel
theorem dL_law_579 : decode cL_law 579 = .ok (.iaload, 1) := by decide +kernel
theorem dL_law_580 : decode cL_law 580 = .ok (.invokevirtual 81, 3) := by decide +kernel
theorem dL_law_583 : decode cL_law 583 = .ok (.if_icmp .eq 167, 3) := by decide +kernel
theorem dL_law_586 : decode cL_law 586 = .ok (.iconst 0, 1) := by decide +kernel
theorem dL_law_587 : decode cL_law 587 = .ok (.ireturn, 1) := by decide +kernel
theorem dL_law_588 : decode cL_law 588 = .ok (.aload_n 1, 1) := by decide +kernel
theorem dL_law_589 : decode cL_law 589 = .ok (.aload_n 0, 1) := by decide +kernel
theorem dL_law_590 : decode cL_law 590 = .ok (.iload_n 3, 1) := by decide +kernel
theorem dL_law_591 : decode cL_law 591 = .ok (.iconst 1, 1) := by decide +kernel
theorem dL_law_592 : decode cL_law 592 = .ok (.iadd, 1) := by decide +kernel
theorem dL_law_593 : decode cL_law 593 = .ok (.iaload, 1) := by decide +kernel
theorem dL_law_594 : decode cL_law 594 = .ok (.aload_n 0, 1) := by decide +kernel
theorem dL_law_595 : decode cL_law 595 = .ok (.iload_n 3, 1) := by decide +kernel
theorem dL_law_596 : decode cL_law 596 = .ok (.iconst 2, 1) := by decide +kernel
theorem dL_law_597 : decode cL_law 597 = .ok (.iadd, 1) := by decide +kernel
theorem dL_law_598 : decode cL_law 598 = .ok (.iaload, 1) := by decide +kernel
theorem dL_law_599 : decode cL_law 599 = .ok (.aload_n 0, 1) := by decide +kernel
theorem dL_law_600 : decode cL_law 600 = .ok (.iload_n 3, 1) := by decide +kernel
theorem dL_law_601 : decode cL_law 601 = .ok (.iconst 3, 1) := by decide +kernel
theorem dL_law_602 : decode cL_law 602 = .ok (.iadd, 1) := by decide +kernel
theorem dL_law_603 : decode cL_law 603 = .ok (.iaload, 1) := by decide +kernel
theorem dL_law_604 : decode cL_law 604 = .ok (.invokevirtual 82, 3) := by decide +kernel
theorem dL_law_607 : decode cL_law 607 = .ok (.aload_n 2, 1) := by decide +kernel
theorem dL_law_608 : decode cL_law 608 = .ok (.aload_n 0, 1) := by decide +kernel
theorem dL_law_609 : decode cL_law 609 = .ok (.iload_n 3, 1) := by decide +kernel
theorem dL_law_610 : decode cL_law 610 = .ok (.iconst 1, 1) := by decide +kernel
theorem dL_law_611 : decode cL_law 611 = .ok (.iadd, 1) := by decide +kernel
theorem dL_law_612 : decode cL_law 612 = .ok (.iaload, 1) := by decide +kernel
theorem dL_law_613 : decode cL_law 613 = .ok (.aload_n 0, 1) := by decide +kernel
theorem dL_law_614 : decode cL_law 614 = .ok (.iload_n 3, 1) := by decide +kernel
theorem dL_law_615 : decode cL_law 615 = .ok (.iconst 2, 1) := by decide +kernel
theorem dL_law_616 : decode cL_law 616 = .ok (.iadd, 1) := by decide +kernel
theorem dL_law_617 : decode cL_law 617 = .ok (.iaload, 1) := by decide +kernel
theorem dL_law_618 : decode cL_law 618 = .ok (.aload_n 0, 1) := by decide +kernel
theorem dL_law_619 : decode cL_law 619 = .ok (.iload_n 3, 1) := by decide +kernel
theorem dL_law_620 : decode cL_law 620 = .ok (.iconst 3, 1) := by decide +kernel
theorem dL_law_621 : decode cL_law 621 = .ok (.iadd, 1) := by decide +kernel
theorem dL_law_622 : decode cL_law 622 = .ok (.iaload, 1) := by decide +kernel
theorem dL_law_623 : decode cL_law 623 = .ok (.invokevirtual 85, 3) := by decide +kernel
theorem dL_law_626 : decode cL_law 626 = .ok (.if_icmp .eq 124, 3) := by decide +kernel
theorem dL_law_629 : decode cL_law 629 = .ok (.iconst 0, 1) := by decide +kernel
theorem dL_law_630 : decode cL_law 630 = .ok (.ireturn, 1) := by decide +kernel
theorem dL_law_631 : decode cL_law 631 = .ok (.aload_n 1, 1) := by decide +kernel
theorem dL_law_632 : decode cL_law 632 = .ok (.invokevirtual 86, 3) := by decide +kernel
theorem dL_law_635 : decode cL_law 635 = .ok (.aload_n 2, 1) := by decide +kernel
theorem dL_law_636 : decode cL_law 636 = .ok (.invokevirtual 89, 3) := by decide +kernel
theorem dL_law_639 : decode cL_law 639 = .ok (.if_icmp .eq 111, 3) := by decide +kernel
theorem dL_law_642 : decode cL_law 642 = .ok (.iconst 0, 1) := by decide +kernel
theorem dL_law_643 : decode cL_law 643 = .ok (.ireturn, 1) := by decide +kernel
theorem dL_law_644 : decode cL_law 644 = .ok (.aload_n 1, 1) := by decide +kernel
theorem dL_law_645 : decode cL_law 645 = .ok (.aload_n 0, 1) := by decide +kernel
theorem dL_law_646 : decode cL_law 646 = .ok (.iload_n 3, 1) := by decide +kernel
theorem dL_law_647 : decode cL_law 647 = .ok (.iconst 1, 1) := by decide +kernel
theorem dL_law_648 : decode cL_law 648 = .ok (.iadd, 1) := by decide +kernel
theorem dL_law_649 : decode cL_law 649 = .ok (.iaload, 1) := by decide +kernel
theorem dL_law_650 : decode cL_law 650 = .ok (.aload_n 0, 1) := by decide +kernel
theorem dL_law_651 : decode cL_law 651 = .ok (.iload_n 3, 1) := by decide +kernel
theorem dL_law_652 : decode cL_law 652 = .ok (.iconst 2, 1) := by decide +kernel
theorem dL_law_653 : decode cL_law 653 = .ok (.iadd, 1) := by decide +kernel
theorem dL_law_654 : decode cL_law 654 = .ok (.iaload, 1) := by decide +kernel
theorem dL_law_655 : decode cL_law 655 = .ok (.aload_n 0, 1) := by decide +kernel
theorem dL_law_656 : decode cL_law 656 = .ok (.iload_n 3, 1) := by decide +kernel
theorem dL_law_657 : decode cL_law 657 = .ok (.iconst 3, 1) := by decide +kernel
theorem dL_law_658 : decode cL_law 658 = .ok (.iadd, 1) := by decide +kernel
theorem dL_law_659 : decode cL_law 659 = .ok (.iaload, 1) := by decide +kernel
theorem dL_law_660 : decode cL_law 660 = .ok (.invokevirtual 90, 3) := by decide +kernel
theorem dL_law_663 : decode cL_law 663 = .ok (.aload_n 2, 1) := by decide +kernel
theorem dL_law_664 : decode cL_law 664 = .ok (.aload_n 0, 1) := by decide +kernel
theorem dL_law_665 : decode cL_law 665 = .ok (.iload_n 3, 1) := by decide +kernel
theorem dL_law_666 : decode cL_law 666 = .ok (.iconst 1, 1) := by decide +kernel
theorem dL_law_667 : decode cL_law 667 = .ok (.iadd, 1) := by decide +kernel
theorem dL_law_668 : decode cL_law 668 = .ok (.iaload, 1) := by decide +kernel
theorem dL_law_669 : decode cL_law 669 = .ok (.aload_n 0, 1) := by decide +kernel
theorem dL_law_670 : decode cL_law 670 = .ok (.iload_n 3, 1) := by decide +kernel
theorem dL_law_671 : decode cL_law 671 = .ok (.iconst 2, 1) := by decide +kernel
theorem dL_law_672 : decode cL_law 672 = .ok (.iadd, 1) := by decide +kernel
theorem dL_law_673 : decode cL_law 673 = .ok (.iaload, 1) := by decide +kernel
theorem dL_law_674 : decode cL_law 674 = .ok (.aload_n 0, 1) := by decide +kernel
theorem dL_law_675 : decode cL_law 675 = .ok (.iload_n 3, 1) := by decide +kernel
theorem dL_law_676 : decode cL_law 676 = .ok (.iconst 3, 1) := by decide +kernel
theorem dL_law_677 : decode cL_law 677 = .ok (.iadd, 1) := by decide +kernel
theorem dL_law_678 : decode cL_law 678 = .ok (.iaload, 1) := by decide +kernel
theorem dL_law_679 : decode cL_law 679 = .ok (.invokevirtual 93, 3) := by decide +kernel
theorem dL_law_682 : decode cL_law 682 = .ok (.if_icmp .eq 68, 3) := by decide +kernel
theorem dL_law_685 : decode cL_law 685 = .ok (.iconst 0, 1) := by decide +kernel
theorem dL_law_686 : decode cL_law 686 = .ok (.ireturn, 1) := by decide +kernel
theorem dL_law_687 : decode cL_law 687 = .ok (.aload_n 1, 1) := by decide +kernel
theorem dL_law_688 : decode cL_law 688 = .ok (.invokevirtual 94, 3) := by decide +kernel
theorem dL_law_691 : decode cL_law 691 = .ok (.aload_n 2, 1) := by decide +kernel
theorem dL_law_692 : decode cL_law 692 = .ok (.invokevirtual 97, 3) := by decide +kernel
theorem dL_law_695 : decode cL_law 695 = .ok (.if_icmp .eq 55, 3) := by decide +kernel
theorem dL_law_698 : decode cL_law 698 = .ok (.iconst 0, 1) := by decide +kernel
theorem dL_law_699 : decode cL_law 699 = .ok (.ireturn, 1) := by decide +kernel
theorem dL_law_700 : decode cL_law 700 = .ok (.aload_n 1, 1) := by decide +kernel
theorem dL_law_701 : decode cL_law 701 = .ok (.invokevirtual 98, 3) := by decide +kernel
theorem dL_law_704 : decode cL_law 704 = .ok (.aload_n 2, 1) := by decide +kernel
theorem dL_law_705 : decode cL_law 705 = .ok (.invokevirtual 101, 3) := by decide +kernel
theorem dL_law_708 : decode cL_law 708 = .ok (.if_icmp .eq 42, 3) := by decide +kernel
theorem dL_law_711 : decode cL_law 711 = .ok (.iconst 0, 1) := by decide +kernel
theorem dL_law_712 : decode cL_law 712 = .ok (.ireturn, 1) := by decide +kernel
theorem dL_law_713 : decode cL_law 713 = .ok (.aload_n 1, 1) := by decide +kernel
theorem dL_law_714 : decode cL_law 714 = .ok (.aload_n 0, 1) := by decide +kernel
theorem dL_law_715 : decode cL_law 715 = .ok (.iload_n 3, 1) := by decide +kernel
theorem dL_law_716 : decode cL_law 716 = .ok (.iconst 1, 1) := by decide +kernel
theorem dL_law_717 : decode cL_law 717 = .ok (.iadd, 1) := by decide +kernel
theorem dL_law_718 : decode cL_law 718 = .ok (.iaload, 1) := by decide +kernel
theorem dL_law_719 : decode cL_law 719 = .ok (.invokevirtual 102, 3) := by decide +kernel
theorem dL_law_722 : decode cL_law 722 = .ok (.aload_n 2, 1) := by decide +kernel
theorem dL_law_723 : decode cL_law 723 = .ok (.aload_n 0, 1) := by decide +kernel
theorem dL_law_724 : decode cL_law 724 = .ok (.iload_n 3, 1) := by decide +kernel
theorem dL_law_725 : decode cL_law 725 = .ok (.iconst 1, 1) := by decide +kernel
theorem dL_law_726 : decode cL_law 726 = .ok (.iadd, 1) := by decide +kernel
theorem dL_law_727 : decode cL_law 727 = .ok (.iaload, 1) := by decide +kernel
theorem dL_law_728 : decode cL_law 728 = .ok (.invokevirtual 105, 3) := by decide +kernel
theorem dL_law_731 : decode cL_law 731 = .ok (.if_icmp .eq 19, 3) := by decide +kernel
theorem dL_law_734 : decode cL_law 734 = .ok (.iconst 0, 1) := by decide +kernel
theorem dL_law_735 : decode cL_law 735 = .ok (.ireturn, 1) := by decide +kernel
theorem dL_law_736 : decode cL_law 736 = .ok (.aload_n 1, 1) := by decide +kernel
theorem dL_law_737 : decode cL_law 737 = .ok (.invokevirtual 106, 3) := by decide +kernel
theorem dL_law_740 : decode cL_law 740 = .ok (.aload_n 2, 1) := by decide +kernel
theorem dL_law_741 : decode cL_law 741 = .ok (.invokevirtual 110, 3) := by decide +kernel
theorem dL_law_744 : decode cL_law 744 = .ok (.lcmp, 1) := by decide +kernel
theorem dL_law_745 : decode cL_law 745 = .ok (.ifCond .eq 5, 3) := by decide +kernel
theorem dL_law_748 : decode cL_law 748 = .ok (.iconst 0, 1) := by decide +kernel
theorem dL_law_749 : decode cL_law 749 = .ok (.ireturn, 1) := by decide +kernel
theorem dL_law_750 : decode cL_law 750 = .ok (.iinc 3 5, 3) := by decide +kernel
theorem dL_law_753 : decode cL_law 753 = .ok (.goto (-735), 3) := by decide +kernel
theorem dL_law_756 : decode cL_law 756 = .ok (.iconst 1, 1) := by decide +kernel
theorem dL_law_757 : decode cL_law 757 = .ok (.ireturn, 1) := by decide +kernel
end
section
def wT : List Cond := lw_tbl.filter goodWord
theorem mem_wT {i : Nat} {w : Cond} (h : lw_tbl[i]? = some w) (g : goodWord w = true) : w ∈ wT := List.mem_filter.mpr ⟨List.mem_of_getElem? h, g⟩
theorem wT_in : GoodIn wT wT := fun w h => ⟨h, good_of_word (List.mem_filter.mp h).2⟩
theorem wT_tbl : ∀ w ∈ wT, w ∈ lw_tbl := fun w h => (List.mem_filter.mp h).1
theorem sel_yX6_hasShop : Cond.selects RX6 yX6_hasShop yX6_hasShop ∈ wT := mem_wT (i := 0) (by decide +kernel) (by decide +kernel)
theorem sel_yX6_digestOfWearer : Cond.selects RX6 yX6_digestOfWearer yX6_digestOfWearer ∈ wT := mem_wT (i := 1) (by decide +kernel) (by decide +kernel)
theorem sel_yX6_digestOfBoxes : Cond.selects RX6 yX6_digestOfBoxes yX6_digestOfBoxes ∈ wT := mem_wT (i := 2) (by decide +kernel) (by decide +kernel)
theorem sel_yX7_read : Cond.selects RX7 yX7_read yX7_read ∈ wT := mem_wT (i := 3) (by decide +kernel) (by decide +kernel)
theorem sel_yX7_at : Cond.selects RX7 yX7_at yX7_at ∈ wT := mem_wT (i := 4) (by decide +kernel) (by decide +kernel)
theorem sel_yX7_isFigure : Cond.selects RX7 yX7_isFigure yX7_isFigure ∈ wT := mem_wT (i := 5) (by decide +kernel) (by decide +kernel)
theorem sel_yX7_readWearers : Cond.selects RX7 yX7_readWearers yX7_readWearers ∈ wT := mem_wT (i := 6) (by decide +kernel) (by decide +kernel)
theorem sel_yX7_isGlove : Cond.selects RX7 yX7_isGlove yX7_isGlove ∈ wT := mem_wT (i := 7) (by decide +kernel) (by decide +kernel)
theorem sel_yX7_gloveNow : Cond.selects RX7 yX7_gloveNow yX7_gloveNow ∈ wT := mem_wT (i := 8) (by decide +kernel) (by decide +kernel)
theorem sel_yX7_temperBehind : Cond.selects RX7 yX7_temperBehind yX7_temperBehind ∈ wT := mem_wT (i := 9) (by decide +kernel) (by decide +kernel)
theorem sel_yX7_aged : Cond.selects RX7 yX7_aged yX7_aged ∈ wT := mem_wT (i := 10) (by decide +kernel) (by decide +kernel)
theorem sel_yX7_temperBy : Cond.selects RX7 yX7_temperBy yX7_temperBy ∈ wT := mem_wT (i := 11) (by decide +kernel) (by decide +kernel)
theorem sel_yX7_quarrels : Cond.selects RX7 yX7_quarrels yX7_quarrels ∈ wT := mem_wT (i := 12) (by decide +kernel) (by decide +kernel)
theorem sel_yX7_quarrel : Cond.selects RX7 yX7_quarrel yX7_quarrel ∈ wT := mem_wT (i := 13) (by decide +kernel) (by decide +kernel)
theorem sel_yX7_marksOf : Cond.selects RX7 yX7_marksOf yX7_marksOf ∈ wT := mem_wT (i := 14) (by decide +kernel) (by decide +kernel)
theorem sel_yX7_feelFor : Cond.selects RX7 yX7_feelFor yX7_feelFor ∈ wT := mem_wT (i := 15) (by decide +kernel) (by decide +kernel)
theorem sel_yX7_worstBy : Cond.selects RX7 yX7_worstBy yX7_worstBy ∈ wT := mem_wT (i := 16) (by decide +kernel) (by decide +kernel)
theorem sel_yX7_isWearer : Cond.selects RX7 yX7_isWearer yX7_isWearer ∈ wT := mem_wT (i := 17) (by decide +kernel) (by decide +kernel)
theorem sel_yX7_wearerNow : Cond.selects RX7 yX7_wearerNow yX7_wearerNow ∈ wT := mem_wT (i := 18) (by decide +kernel) (by decide +kernel)
theorem sel_yX7_moodNow : Cond.selects RX7 yX7_moodNow yX7_moodNow ∈ wT := mem_wT (i := 19) (by decide +kernel) (by decide +kernel)
theorem sel_yX7_wornBy : Cond.selects RX7 yX7_wornBy yX7_wornBy ∈ wT := mem_wT (i := 20) (by decide +kernel) (by decide +kernel)
theorem sel_yX7_moodWith : Cond.selects RX7 yX7_moodWith yX7_moodWith ∈ wT := mem_wT (i := 21) (by decide +kernel) (by decide +kernel)
theorem sel_yX7_onHand : Cond.selects RX7 yX7_onHand yX7_onHand ∈ wT := mem_wT (i := 22) (by decide +kernel) (by decide +kernel)
theorem sel_yX7_isWished : Cond.selects RX7 yX7_isWished yX7_isWished ∈ wT := mem_wT (i := 23) (by decide +kernel) (by decide +kernel)
theorem sel_yX7_changesNow : Cond.selects RX7 yX7_changesNow yX7_changesNow ∈ wT := mem_wT (i := 24) (by decide +kernel) (by decide +kernel)
theorem sel_yX7_goBy : Cond.selects RX7 yX7_goBy yX7_goBy ∈ wT := mem_wT (i := 25) (by decide +kernel) (by decide +kernel)
theorem sel_yX7_dressNow : Cond.selects RX7 yX7_dressNow yX7_dressNow ∈ wT := mem_wT (i := 26) (by decide +kernel) (by decide +kernel)
theorem sel_yX7_begin : Cond.selects RX7 yX7_begin yX7_begin ∈ wT := mem_wT (i := 27) (by decide +kernel) (by decide +kernel)
theorem sel_yX7_wishedBy : Cond.selects RX7 yX7_wishedBy yX7_wishedBy ∈ wT := mem_wT (i := 28) (by decide +kernel) (by decide +kernel)
theorem sel_yX7_givenTo : Cond.selects RX7 yX7_givenTo yX7_givenTo ∈ wT := mem_wT (i := 29) (by decide +kernel) (by decide +kernel)
theorem sel_yX7_given : Cond.selects RX7 yX7_given yX7_given ∈ wT := mem_wT (i := 30) (by decide +kernel) (by decide +kernel)
theorem sel_yX7_keepRow : Cond.selects RX7 yX7_keepRow yX7_keepRow ∈ wT := mem_wT (i := 31) (by decide +kernel) (by decide +kernel)
theorem sel_yX7_nextGiven : Cond.selects RX7 yX7_nextGiven yX7_nextGiven ∈ wT := mem_wT (i := 32) (by decide +kernel) (by decide +kernel)
theorem sel_yX7_boxesNow : Cond.selects RX7 yX7_boxesNow yX7_boxesNow ∈ wT := mem_wT (i := 33) (by decide +kernel) (by decide +kernel)
theorem sel_yX7_boxesAhead : Cond.selects RX7 yX7_boxesAhead yX7_boxesAhead ∈ wT := mem_wT (i := 34) (by decide +kernel) (by decide +kernel)
theorem sel_yX7_areQuiet : Cond.selects RX7 yX7_areQuiet yX7_areQuiet ∈ wT := mem_wT (i := 35) (by decide +kernel) (by decide +kernel)
theorem sel_yX7_nextBoxes : Cond.selects RX7 yX7_nextBoxes yX7_nextBoxes ∈ wT := mem_wT (i := 36) (by decide +kernel) (by decide +kernel)
theorem sel_yX7_oddsNow : Cond.selects RX7 yX7_oddsNow yX7_oddsNow ∈ wT := mem_wT (i := 37) (by decide +kernel) (by decide +kernel)
theorem sel_yX7_teasNow : Cond.selects RX7 yX7_teasNow yX7_teasNow ∈ wT := mem_wT (i := 38) (by decide +kernel) (by decide +kernel)
theorem sel_yX7_takeTea : Cond.selects RX7 yX7_takeTea yX7_takeTea ∈ wT := mem_wT (i := 39) (by decide +kernel) (by decide +kernel)
theorem sel_yX7_draw : Cond.selects RX7 yX7_draw yX7_draw ∈ wT := mem_wT (i := 40) (by decide +kernel) (by decide +kernel)
theorem sel_yX7_butting : Cond.selects RX7 yX7_butting yX7_butting ∈ wT := mem_wT (i := 41) (by decide +kernel) (by decide +kernel)
theorem sel_yX7_onHands : Cond.selects RX7 yX7_onHands yX7_onHands ∈ wT := mem_wT (i := 42) (by decide +kernel) (by decide +kernel)
theorem sel_yX7_howMany : Cond.selects RX7 yX7_howMany yX7_howMany ∈ wT := mem_wT (i := 43) (by decide +kernel) (by decide +kernel)
theorem sel_yX7_ofWearers : Cond.selects RX7 yX7_ofWearers yX7_ofWearers ∈ wT := mem_wT (i := 44) (by decide +kernel) (by decide +kernel)
theorem sel_yX7_ofGloves : Cond.selects RX7 yX7_ofGloves yX7_ofGloves ∈ wT := mem_wT (i := 45) (by decide +kernel) (by decide +kernel)
theorem sel_yX7_mix : Cond.selects RX7 yX7_mix yX7_mix ∈ wT := mem_wT (i := 46) (by decide +kernel) (by decide +kernel)
theorem sel_yX7_mixWearer : Cond.selects RX7 yX7_mixWearer yX7_mixWearer ∈ wT := mem_wT (i := 47) (by decide +kernel) (by decide +kernel)
theorem ini_L : Cond.initialized RL ∈ wT := mem_wT (i := 48) (by decide +kernel) (by decide +kernel)
theorem ini_X6 : Cond.initialized RX6 ∈ wT := mem_wT (i := 49) (by decide +kernel) (by decide +kernel)
theorem ini_X4 : Cond.initialized RX4 ∈ wT := mem_wT (i := 50) (by decide +kernel) (by decide +kernel)
theorem ini_X5 : Cond.initialized RX5 ∈ wT := mem_wT (i := 51) (by decide +kernel) (by decide +kernel)
theorem ini_X2 : Cond.initialized RX2 ∈ wT := mem_wT (i := 52) (by decide +kernel) (by decide +kernel)
theorem ini_X3 : Cond.initialized RX3 ∈ wT := mem_wT (i := 53) (by decide +kernel) (by decide +kernel)
theorem ini_X0 : Cond.initialized RX0 ∈ wT := mem_wT (i := 54) (by decide +kernel) (by decide +kernel)
theorem ini_X1 : Cond.initialized RX1 ∈ wT := mem_wT (i := 55) (by decide +kernel) (by decide +kernel)
theorem ini_X7 : Cond.initialized RX7 ∈ wT := mem_wT (i := 56) (by decide +kernel) (by decide +kernel)
theorem ini_J7 : Cond.initialized RJ7 ∈ wT := mem_wT (i := 57) (by decide +kernel) (by decide +kernel)
theorem ini_J9 : Cond.initialized RJ9 ∈ wT := mem_wT (i := 58) (by decide +kernel) (by decide +kernel)
theorem ini_J6 : Cond.initialized RJ6 ∈ wT := mem_wT (i := 59) (by decide +kernel) (by decide +kernel)
theorem ini_J10 : Cond.initialized RJ10 ∈ wT := mem_wT (i := 60) (by decide +kernel) (by decide +kernel)
theorem cl_L_7 : Cond.classLink RL 7 RX6 ∈ wT := mem_wT (i := 61) (by decide +kernel) (by decide +kernel)
theorem ins_X6 : Cond.instantiable RX6 11 ∈ wT := mem_wT (i := 62) (by decide +kernel) (by decide +kernel)
theorem ml_L_9 : Cond.methodLink RL 9 yX6_init ∈ wT := mem_wT (i := 63) (by decide +kernel) (by decide +kernel)
theorem ima_yX6_init : Cond.instanceMethod yX6_init ∈ wT := mem_wT (i := 64) (by decide +kernel) (by decide +kernel)
theorem co_yX6_init : Cond.code yX6_init cX6_init 1 none ∈ wT := mem_wT (i := 65) (by decide +kernel) (by decide +kernel)
theorem ml_X6_3 : Cond.methodLink RX6 3 objectInit ∈ wT := mem_wT (i := 66) (by decide +kernel) (by decide +kernel)
theorem ima_objectInit : Cond.instanceMethod objectInit ∈ wT := mem_wT (i := 67) (by decide +kernel) (by decide +kernel)
theorem co_objectInit : Cond.code objectInit ⟨#[0xb1]⟩ 1 none ∈ wT := mem_wT (i := 68) (by decide +kernel) (by decide +kernel)
theorem cl_X6_9 : Cond.classLink RX6 9 RX4 ∈ wT := mem_wT (i := 69) (by decide +kernel) (by decide +kernel)
theorem ins_X4 : Cond.instantiable RX4 2 ∈ wT := mem_wT (i := 70) (by decide +kernel) (by decide +kernel)
theorem ima_yX4_init : Cond.instanceMethod yX4_init ∈ wT := mem_wT (i := 72) (by decide +kernel) (by decide +kernel)
theorem co_yX4_init : Cond.code yX4_init cX4_init 1 none ∈ wT := mem_wT (i := 73) (by decide +kernel) (by decide +kernel)
theorem ml_X4_3 : Cond.methodLink RX4 3 objectInit ∈ wT := mem_wT (i := 74) (by decide +kernel) (by decide +kernel)
theorem fl_X4_9 : Cond.fieldLink RX4 9 "KidGloves$Page" "codes" "[I" ∈ wT := mem_wT (i := 75) (by decide +kernel) (by decide +kernel)
theorem fl_X6_265 : Cond.fieldLink RX6 265 "KidGloves$Page" "codes" "[I" ∈ wT := mem_wT (i := 76) (by decide +kernel) (by decide +kernel)
theorem fl_X4_15 : Cond.fieldLink RX4 15 "KidGloves$Page" "length" "I" ∈ wT := mem_wT (i := 77) (by decide +kernel) (by decide +kernel)
theorem fl_X6_65 : Cond.fieldLink RX6 65 "KidGloves$Page" "length" "I" ∈ wT := mem_wT (i := 78) (by decide +kernel) (by decide +kernel)
theorem arr_int : Cond.arrayClass .int ∈ wT := mem_wT (i := 84) (by decide +kernel) (by decide +kernel)
theorem cl_X6_16 : Cond.classLink RX6 16 RX5 ∈ wT := mem_wT (i := 85) (by decide +kernel) (by decide +kernel)
theorem ins_X5 : Cond.instantiable RX5 15 ∈ wT := mem_wT (i := 86) (by decide +kernel) (by decide +kernel)
theorem ima_yX5_init : Cond.instanceMethod yX5_init ∈ wT := mem_wT (i := 88) (by decide +kernel) (by decide +kernel)
theorem co_yX5_init : Cond.code yX5_init cX5_init 1 none ∈ wT := mem_wT (i := 89) (by decide +kernel) (by decide +kernel)
theorem ml_X5_3 : Cond.methodLink RX5 3 objectInit ∈ wT := mem_wT (i := 90) (by decide +kernel) (by decide +kernel)
theorem fl_X5_9 : Cond.fieldLink RX5 9 "KidGloves$Shop" "kinds" "[I" ∈ wT := mem_wT (i := 91) (by decide +kernel) (by decide +kernel)
theorem fl_X6_94 : Cond.fieldLink RX6 94 "KidGloves$Shop" "kinds" "[I" ∈ wT := mem_wT (i := 92) (by decide +kernel) (by decide +kernel)
theorem fl_X4_62 : Cond.fieldLink RX4 62 "KidGloves$Shop" "kinds" "[I" ∈ wT := mem_wT (i := 93) (by decide +kernel) (by decide +kernel)
theorem fl_X5_15 : Cond.fieldLink RX5 15 "KidGloves$Shop" "marks" "[I" ∈ wT := mem_wT (i := 94) (by decide +kernel) (by decide +kernel)
theorem fl_X6_102 : Cond.fieldLink RX6 102 "KidGloves$Shop" "marks" "[I" ∈ wT := mem_wT (i := 95) (by decide +kernel) (by decide +kernel)
theorem fl_X4_65 : Cond.fieldLink RX4 65 "KidGloves$Shop" "marks" "[I" ∈ wT := mem_wT (i := 96) (by decide +kernel) (by decide +kernel)
theorem fl_X5_18 : Cond.fieldLink RX5 18 "KidGloves$Shop" "ages" "[I" ∈ wT := mem_wT (i := 97) (by decide +kernel) (by decide +kernel)
theorem fl_X6_105 : Cond.fieldLink RX6 105 "KidGloves$Shop" "ages" "[I" ∈ wT := mem_wT (i := 98) (by decide +kernel) (by decide +kernel)
theorem fl_X5_21 : Cond.fieldLink RX5 21 "KidGloves$Shop" "holders" "[I" ∈ wT := mem_wT (i := 99) (by decide +kernel) (by decide +kernel)
theorem fl_X6_112 : Cond.fieldLink RX6 112 "KidGloves$Shop" "holders" "[I" ∈ wT := mem_wT (i := 100) (by decide +kernel) (by decide +kernel)
theorem fl_X5_24 : Cond.fieldLink RX5 24 "KidGloves$Shop" "sides" "[I" ∈ wT := mem_wT (i := 101) (by decide +kernel) (by decide +kernel)
theorem fl_X6_115 : Cond.fieldLink RX6 115 "KidGloves$Shop" "sides" "[I" ∈ wT := mem_wT (i := 102) (by decide +kernel) (by decide +kernel)
theorem fl_X5_27 : Cond.fieldLink RX5 27 "KidGloves$Shop" "nerves" "[I" ∈ wT := mem_wT (i := 103) (by decide +kernel) (by decide +kernel)
theorem fl_X6_135 : Cond.fieldLink RX6 135 "KidGloves$Shop" "nerves" "[I" ∈ wT := mem_wT (i := 104) (by decide +kernel) (by decide +kernel)
theorem fl_X4_71 : Cond.fieldLink RX4 71 "KidGloves$Shop" "nerves" "[I" ∈ wT := mem_wT (i := 105) (by decide +kernel) (by decide +kernel)
theorem fl_X5_30 : Cond.fieldLink RX5 30 "KidGloves$Shop" "wishes" "[I" ∈ wT := mem_wT (i := 106) (by decide +kernel) (by decide +kernel)
theorem fl_X6_147 : Cond.fieldLink RX6 147 "KidGloves$Shop" "wishes" "[I" ∈ wT := mem_wT (i := 107) (by decide +kernel) (by decide +kernel)
theorem fl_X5_33 : Cond.fieldLink RX5 33 "KidGloves$Shop" "seenGloves" "[I" ∈ wT := mem_wT (i := 108) (by decide +kernel) (by decide +kernel)
theorem fl_X5_36 : Cond.fieldLink RX5 36 "KidGloves$Shop" "seenMores" "[I" ∈ wT := mem_wT (i := 109) (by decide +kernel) (by decide +kernel)
theorem fl_X5_39 : Cond.fieldLink RX5 39 "KidGloves$Shop" "seenTempers" "[I" ∈ wT := mem_wT (i := 110) (by decide +kernel) (by decide +kernel)
theorem fl_X5_42 : Cond.fieldLink RX5 42 "KidGloves$Shop" "leftByTemper" "[I" ∈ wT := mem_wT (i := 111) (by decide +kernel) (by decide +kernel)
theorem fl_X5_45 : Cond.fieldLink RX5 45 "KidGloves$Shop" "gloves" "I" ∈ wT := mem_wT (i := 112) (by decide +kernel) (by decide +kernel)
theorem fl_X3_34 : Cond.fieldLink RX3 34 "KidGloves$Shop" "gloves" "I" ∈ wT := mem_wT (i := 113) (by decide +kernel) (by decide +kernel)
theorem fl_X2_50 : Cond.fieldLink RX2 50 "KidGloves$Shop" "gloves" "I" ∈ wT := mem_wT (i := 114) (by decide +kernel) (by decide +kernel)
theorem fl_X6_88 : Cond.fieldLink RX6 88 "KidGloves$Shop" "gloves" "I" ∈ wT := mem_wT (i := 115) (by decide +kernel) (by decide +kernel)
theorem fl_X4_59 : Cond.fieldLink RX4 59 "KidGloves$Shop" "gloves" "I" ∈ wT := mem_wT (i := 116) (by decide +kernel) (by decide +kernel)
theorem fl_X5_49 : Cond.fieldLink RX5 49 "KidGloves$Shop" "wearers" "I" ∈ wT := mem_wT (i := 117) (by decide +kernel) (by decide +kernel)
theorem fl_X2_45 : Cond.fieldLink RX2 45 "KidGloves$Shop" "wearers" "I" ∈ wT := mem_wT (i := 118) (by decide +kernel) (by decide +kernel)
theorem fl_X4_68 : Cond.fieldLink RX4 68 "KidGloves$Shop" "wearers" "I" ∈ wT := mem_wT (i := 119) (by decide +kernel) (by decide +kernel)
theorem fl_X6_238 : Cond.fieldLink RX6 238 "KidGloves$Shop" "wearers" "I" ∈ wT := mem_wT (i := 120) (by decide +kernel) (by decide +kernel)
theorem fl_X5_52 : Cond.fieldLink RX5 52 "KidGloves$Shop" "hours" "I" ∈ wT := mem_wT (i := 121) (by decide +kernel) (by decide +kernel)
theorem fl_X6_170 : Cond.fieldLink RX6 170 "KidGloves$Shop" "hours" "I" ∈ wT := mem_wT (i := 122) (by decide +kernel) (by decide +kernel)
theorem fl_X5_55 : Cond.fieldLink RX5 55 "KidGloves$Shop" "seen" "I" ∈ wT := mem_wT (i := 123) (by decide +kernel) (by decide +kernel)
theorem fl_X6_219 : Cond.fieldLink RX6 219 "KidGloves$Shop" "seen" "I" ∈ wT := mem_wT (i := 124) (by decide +kernel) (by decide +kernel)
theorem cl_X6_29 : Cond.classLink RX6 29 RX2 ∈ wT := mem_wT (i := 156) (by decide +kernel) (by decide +kernel)
theorem ins_X2 : Cond.instantiable RX2 6 ∈ wT := mem_wT (i := 157) (by decide +kernel) (by decide +kernel)
theorem ima_yX2_init : Cond.instanceMethod yX2_init ∈ wT := mem_wT (i := 159) (by decide +kernel) (by decide +kernel)
theorem co_yX2_init : Cond.code yX2_init cX2_init 1 none ∈ wT := mem_wT (i := 160) (by decide +kernel) (by decide +kernel)
theorem ml_X2_3 : Cond.methodLink RX2 3 objectInit ∈ wT := mem_wT (i := 161) (by decide +kernel) (by decide +kernel)
theorem fl_X2_9 : Cond.fieldLink RX2 9 "KidGloves$Dressing" "pleased" "[I" ∈ wT := mem_wT (i := 162) (by decide +kernel) (by decide +kernel)
theorem fl_X2_15 : Cond.fieldLink RX2 15 "KidGloves$Dressing" "sets" "[I" ∈ wT := mem_wT (i := 163) (by decide +kernel) (by decide +kernel)
theorem fl_X2_18 : Cond.fieldLink RX2 18 "KidGloves$Dressing" "given" "[I" ∈ wT := mem_wT (i := 164) (by decide +kernel) (by decide +kernel)
theorem fl_X2_21 : Cond.fieldLink RX2 21 "KidGloves$Dressing" "best" "[I" ∈ wT := mem_wT (i := 165) (by decide +kernel) (by decide +kernel)
theorem fl_X6_195 : Cond.fieldLink RX6 195 "KidGloves$Dressing" "best" "[I" ∈ wT := mem_wT (i := 166) (by decide +kernel) (by decide +kernel)
theorem fl_X2_30 : Cond.fieldLink RX2 30 "KidGloves$Dressing" "mostPleased" "I" ∈ wT := mem_wT (i := 167) (by decide +kernel) (by decide +kernel)
theorem fl_X6_189 : Cond.fieldLink RX6 189 "KidGloves$Dressing" "mostPleased" "I" ∈ wT := mem_wT (i := 168) (by decide +kernel) (by decide +kernel)
theorem fl_X2_34 : Cond.fieldLink RX2 34 "KidGloves$Dressing" "fewestGiven" "I" ∈ wT := mem_wT (i := 169) (by decide +kernel) (by decide +kernel)
theorem fl_X6_192 : Cond.fieldLink RX6 192 "KidGloves$Dressing" "fewestGiven" "I" ∈ wT := mem_wT (i := 170) (by decide +kernel) (by decide +kernel)
theorem cl_X6_36 : Cond.classLink RX6 36 RX3 ∈ wT := mem_wT (i := 184) (by decide +kernel) (by decide +kernel)
theorem ins_X3 : Cond.instantiable RX3 5 ∈ wT := mem_wT (i := 185) (by decide +kernel) (by decide +kernel)
theorem ima_yX3_init : Cond.instanceMethod yX3_init ∈ wT := mem_wT (i := 187) (by decide +kernel) (by decide +kernel)
theorem co_yX3_init : Cond.code yX3_init cX3_init 1 none ∈ wT := mem_wT (i := 188) (by decide +kernel) (by decide +kernel)
theorem ml_X3_3 : Cond.methodLink RX3 3 objectInit ∈ wT := mem_wT (i := 189) (by decide +kernel) (by decide +kernel)
theorem fl_X3_9 : Cond.fieldLink RX3 9 "KidGloves$Packing" "quarrels" "[I" ∈ wT := mem_wT (i := 190) (by decide +kernel) (by decide +kernel)
theorem fl_X3_15 : Cond.fieldLink RX3 15 "KidGloves$Packing" "inBox" "[I" ∈ wT := mem_wT (i := 191) (by decide +kernel) (by decide +kernel)
theorem fl_X3_18 : Cond.fieldLink RX3 18 "KidGloves$Packing" "boxOf" "[I" ∈ wT := mem_wT (i := 192) (by decide +kernel) (by decide +kernel)
theorem fl_X3_21 : Cond.fieldLink RX3 21 "KidGloves$Packing" "best" "[I" ∈ wT := mem_wT (i := 193) (by decide +kernel) (by decide +kernel)
theorem fl_X6_202 : Cond.fieldLink RX6 202 "KidGloves$Packing" "best" "[I" ∈ wT := mem_wT (i := 194) (by decide +kernel) (by decide +kernel)
theorem fl_X3_30 : Cond.fieldLink RX3 30 "KidGloves$Packing" "fewest" "I" ∈ wT := mem_wT (i := 195) (by decide +kernel) (by decide +kernel)
theorem fl_X6_199 : Cond.fieldLink RX6 199 "KidGloves$Packing" "fewest" "I" ∈ wT := mem_wT (i := 196) (by decide +kernel) (by decide +kernel)
theorem cl_X6_43 : Cond.classLink RX6 43 RX0 ∈ wT := mem_wT (i := 208) (by decide +kernel) (by decide +kernel)
theorem ins_X0 : Cond.instantiable RX0 2 ∈ wT := mem_wT (i := 209) (by decide +kernel) (by decide +kernel)
theorem ima_yX0_init : Cond.instanceMethod yX0_init ∈ wT := mem_wT (i := 211) (by decide +kernel) (by decide +kernel)
theorem co_yX0_init : Cond.code yX0_init cX0_init 1 none ∈ wT := mem_wT (i := 212) (by decide +kernel) (by decide +kernel)
theorem ml_X0_3 : Cond.methodLink RX0 3 objectInit ∈ wT := mem_wT (i := 213) (by decide +kernel) (by decide +kernel)
theorem fl_X0_9 : Cond.fieldLink RX0 9 "KidGloves$Chances" "ways" "[I" ∈ wT := mem_wT (i := 214) (by decide +kernel) (by decide +kernel)
theorem fl_X6_207 : Cond.fieldLink RX6 207 "KidGloves$Chances" "ways" "[I" ∈ wT := mem_wT (i := 215) (by decide +kernel) (by decide +kernel)
theorem fl_X0_25 : Cond.fieldLink RX0 25 "KidGloves$Chances" "all" "I" ∈ wT := mem_wT (i := 216) (by decide +kernel) (by decide +kernel)
theorem fl_X6_210 : Cond.fieldLink RX6 210 "KidGloves$Chances" "all" "I" ∈ wT := mem_wT (i := 217) (by decide +kernel) (by decide +kernel)
theorem cl_X6_50 : Cond.classLink RX6 50 RX1 ∈ wT := mem_wT (i := 223) (by decide +kernel) (by decide +kernel)
theorem ins_X1 : Cond.instantiable RX1 1 ∈ wT := mem_wT (i := 224) (by decide +kernel) (by decide +kernel)
theorem ima_yX1_init : Cond.instanceMethod yX1_init ∈ wT := mem_wT (i := 226) (by decide +kernel) (by decide +kernel)
theorem co_yX1_init : Cond.code yX1_init cX1_init 1 none ∈ wT := mem_wT (i := 227) (by decide +kernel) (by decide +kernel)
theorem ml_X1_1 : Cond.methodLink RX1 1 objectInit ∈ wT := mem_wT (i := 228) (by decide +kernel) (by decide +kernel)
theorem fl_X1_9 : Cond.fieldLink RX1 9 "KidGloves$Draws" "seed" "I" ∈ wT := mem_wT (i := 229) (by decide +kernel) (by decide +kernel)
theorem fl_X6_225 : Cond.fieldLink RX6 225 "KidGloves$Draws" "seed" "I" ∈ wT := mem_wT (i := 230) (by decide +kernel) (by decide +kernel)
theorem fl_X6_12 : Cond.fieldLink RX6 12 "KidGloves" "page" "LKidGloves$Page;" ∈ wT := mem_wT (i := 234) (by decide +kernel) (by decide +kernel)
theorem fl_X6_19 : Cond.fieldLink RX6 19 "KidGloves" "now" "LKidGloves$Shop;" ∈ wT := mem_wT (i := 235) (by decide +kernel) (by decide +kernel)
theorem fl_X6_23 : Cond.fieldLink RX6 23 "KidGloves" "kept" "LKidGloves$Shop;" ∈ wT := mem_wT (i := 236) (by decide +kernel) (by decide +kernel)
theorem fl_X6_26 : Cond.fieldLink RX6 26 "KidGloves" "dreamt" "LKidGloves$Shop;" ∈ wT := mem_wT (i := 237) (by decide +kernel) (by decide +kernel)
theorem fl_X6_32 : Cond.fieldLink RX6 32 "KidGloves" "dressing" "LKidGloves$Dressing;" ∈ wT := mem_wT (i := 238) (by decide +kernel) (by decide +kernel)
theorem fl_X6_39 : Cond.fieldLink RX6 39 "KidGloves" "packing" "LKidGloves$Packing;" ∈ wT := mem_wT (i := 239) (by decide +kernel) (by decide +kernel)
theorem fl_X6_46 : Cond.fieldLink RX6 46 "KidGloves" "chances" "LKidGloves$Chances;" ∈ wT := mem_wT (i := 240) (by decide +kernel) (by decide +kernel)
theorem fl_X6_53 : Cond.fieldLink RX6 53 "KidGloves" "draws" "LKidGloves$Draws;" ∈ wT := mem_wT (i := 241) (by decide +kernel) (by decide +kernel)
theorem fl_X6_81 : Cond.fieldLink RX6 81 "KidGloves" "imageKept" "Z" ∈ wT := mem_wT (i := 242) (by decide +kernel) (by decide +kernel)
theorem fl_X6_85 : Cond.fieldLink RX6 85 "KidGloves" "timesRead" "I" ∈ wT := mem_wT (i := 243) (by decide +kernel) (by decide +kernel)
theorem fl_X6_183 : Cond.fieldLink RX6 183 "KidGloves" "timesDressed" "I" ∈ wT := mem_wT (i := 244) (by decide +kernel) (by decide +kernel)
theorem ml_L_13 : Cond.methodLink RL 13 yX6_letter ∈ wT := mem_wT (i := 268) (by decide +kernel) (by decide +kernel)
theorem ima_yX6_letter : Cond.instanceMethod yX6_letter ∈ wT := mem_wT (i := 269) (by decide +kernel) (by decide +kernel)
theorem sel_yX6_letter : Cond.selects RX6 yX6_letter yX6_letter ∈ wT := mem_wT (i := 270) (by decide +kernel) (by decide +kernel)
theorem co_yX6_letter : Cond.code yX6_letter cX6_letter 2 (some .int) ∈ wT := mem_wT (i := 271) (by decide +kernel) (by decide +kernel)
theorem ml_X6_57 : Cond.methodLink RX6 57 yX6_within ∈ wT := mem_wT (i := 272) (by decide +kernel) (by decide +kernel)
theorem sta_yX6_within : Cond.static yX6_within ∈ wT := mem_wT (i := 273) (by decide +kernel) (by decide +kernel)
theorem co_yX6_within : Cond.code yX6_within cX6_within 3 (some .boolean) ∈ wT := mem_wT (i := 274) (by decide +kernel) (by decide +kernel)
theorem ml_X6_61 : Cond.methodLink RX6 61 yX4_add ∈ wT := mem_wT (i := 275) (by decide +kernel) (by decide +kernel)
theorem ima_yX4_add : Cond.instanceMethod yX4_add ∈ wT := mem_wT (i := 276) (by decide +kernel) (by decide +kernel)
theorem sel_yX4_add : Cond.selects RX4 yX4_add yX4_add ∈ wT := mem_wT (i := 277) (by decide +kernel) (by decide +kernel)
theorem co_yX4_add : Cond.code yX4_add cX4_add 2 (some .boolean) ∈ wT := mem_wT (i := 278) (by decide +kernel) (by decide +kernel)
theorem sta_yX6_put : Cond.static yX6_put ∈ wT := mem_wT (i := 280) (by decide +kernel) (by decide +kernel)
theorem co_yX6_put : Cond.code yX6_put cX6_put 3 none ∈ wT := mem_wT (i := 281) (by decide +kernel) (by decide +kernel)
theorem ml_L_18 : Cond.methodLink RL 18 yX6_blank ∈ wT := mem_wT (i := 282) (by decide +kernel) (by decide +kernel)
theorem ima_yX6_blank : Cond.instanceMethod yX6_blank ∈ wT := mem_wT (i := 283) (by decide +kernel) (by decide +kernel)
theorem sel_yX6_blank : Cond.selects RX6 yX6_blank yX6_blank ∈ wT := mem_wT (i := 284) (by decide +kernel) (by decide +kernel)
theorem co_yX6_blank : Cond.code yX6_blank cX6_blank 2 (some .int) ∈ wT := mem_wT (i := 285) (by decide +kernel) (by decide +kernel)
theorem ml_L_23 : Cond.methodLink RL 23 yX6_fault ∈ wT := mem_wT (i := 286) (by decide +kernel) (by decide +kernel)
theorem ima_yX6_fault : Cond.instanceMethod yX6_fault ∈ wT := mem_wT (i := 287) (by decide +kernel) (by decide +kernel)
theorem sel_yX6_fault : Cond.selects RX6 yX6_fault yX6_fault ∈ wT := mem_wT (i := 288) (by decide +kernel) (by decide +kernel)
theorem co_yX6_fault : Cond.code yX6_fault cX6_fault 1 (some .int) ∈ wT := mem_wT (i := 289) (by decide +kernel) (by decide +kernel)
theorem ml_X6_69 : Cond.methodLink RX6 69 yX4_firstFault ∈ wT := mem_wT (i := 290) (by decide +kernel) (by decide +kernel)
theorem ima_yX4_firstFault : Cond.instanceMethod yX4_firstFault ∈ wT := mem_wT (i := 291) (by decide +kernel) (by decide +kernel)
theorem sel_yX4_firstFault : Cond.selects RX4 yX4_firstFault yX4_firstFault ∈ wT := mem_wT (i := 292) (by decide +kernel) (by decide +kernel)
theorem co_yX4_firstFault : Cond.code yX4_firstFault cX4_firstFault 5 (some .int) ∈ wT := mem_wT (i := 293) (by decide +kernel) (by decide +kernel)
theorem ml_X4_27 : Cond.methodLink RX4 27 yX4_semicolon ∈ wT := mem_wT (i := 294) (by decide +kernel) (by decide +kernel)
theorem ima_yX4_semicolon : Cond.instanceMethod yX4_semicolon ∈ wT := mem_wT (i := 295) (by decide +kernel) (by decide +kernel)
theorem sel_yX4_semicolon : Cond.selects RX4 yX4_semicolon yX4_semicolon ∈ wT := mem_wT (i := 296) (by decide +kernel) (by decide +kernel)
theorem co_yX4_semicolon : Cond.code yX4_semicolon cX4_semicolon 2 (some .int) ∈ wT := mem_wT (i := 297) (by decide +kernel) (by decide +kernel)
theorem sta_yX6_at : Cond.static yX6_at ∈ wT := mem_wT (i := 299) (by decide +kernel) (by decide +kernel)
theorem co_yX6_at : Cond.code yX6_at cX6_at 2 (some .int) ∈ wT := mem_wT (i := 300) (by decide +kernel) (by decide +kernel)
theorem ml_X4_31 : Cond.methodLink RX4 31 yX4_isNerve ∈ wT := mem_wT (i := 301) (by decide +kernel) (by decide +kernel)
theorem sta_yX4_isNerve : Cond.static yX4_isNerve ∈ wT := mem_wT (i := 302) (by decide +kernel) (by decide +kernel)
theorem co_yX4_isNerve : Cond.code yX4_isNerve cX4_isNerve 2 (some .boolean) ∈ wT := mem_wT (i := 303) (by decide +kernel) (by decide +kernel)
theorem ml_X4_45 : Cond.methodLink RX4 45 yX4_isDigit ∈ wT := mem_wT (i := 304) (by decide +kernel) (by decide +kernel)
theorem sta_yX4_isDigit : Cond.static yX4_isDigit ∈ wT := mem_wT (i := 305) (by decide +kernel) (by decide +kernel)
theorem co_yX4_isDigit : Cond.code yX4_isDigit cX4_isDigit 1 (some .boolean) ∈ wT := mem_wT (i := 306) (by decide +kernel) (by decide +kernel)
theorem ml_X4_35 : Cond.methodLink RX4 35 yX4_isOfGloves ∈ wT := mem_wT (i := 308) (by decide +kernel) (by decide +kernel)
theorem sta_yX4_isOfGloves : Cond.static yX4_isOfGloves ∈ wT := mem_wT (i := 309) (by decide +kernel) (by decide +kernel)
theorem co_yX4_isOfGloves : Cond.code yX4_isOfGloves cX4_isOfGloves 3 (some .boolean) ∈ wT := mem_wT (i := 310) (by decide +kernel) (by decide +kernel)
theorem sta_yX6_kindOf : Cond.static yX6_kindOf ∈ wT := mem_wT (i := 312) (by decide +kernel) (by decide +kernel)
theorem co_yX6_kindOf : Cond.code yX6_kindOf cX6_kindOf 1 (some .int) ∈ wT := mem_wT (i := 313) (by decide +kernel) (by decide +kernel)
theorem ml_L_27 : Cond.methodLink RL 27 yX6_shop ∈ wT := mem_wT (i := 314) (by decide +kernel) (by decide +kernel)
theorem ima_yX6_shop : Cond.instanceMethod yX6_shop ∈ wT := mem_wT (i := 315) (by decide +kernel) (by decide +kernel)
theorem sel_yX6_shop : Cond.selects RX6 yX6_shop yX6_shop ∈ wT := mem_wT (i := 316) (by decide +kernel) (by decide +kernel)
theorem co_yX6_shop : Cond.code yX6_shop cX6_shop 1 (some .int) ∈ wT := mem_wT (i := 317) (by decide +kernel) (by decide +kernel)
theorem ml_X6_73 : Cond.methodLink RX6 73 yX4_isShop ∈ wT := mem_wT (i := 318) (by decide +kernel) (by decide +kernel)
theorem ima_yX4_isShop : Cond.instanceMethod yX4_isShop ∈ wT := mem_wT (i := 319) (by decide +kernel) (by decide +kernel)
theorem sel_yX4_isShop : Cond.selects RX4 yX4_isShop yX4_isShop ∈ wT := mem_wT (i := 320) (by decide +kernel) (by decide +kernel)
theorem co_yX4_isShop : Cond.code yX4_isShop cX4_isShop 2 (some .boolean) ∈ wT := mem_wT (i := 321) (by decide +kernel) (by decide +kernel)
theorem ml_X4_38 : Cond.methodLink RX4 38 yX4_firstFault ∈ wT := mem_wT (i := 322) (by decide +kernel) (by decide +kernel)
theorem ml_X6_77 : Cond.methodLink RX6 77 yX4_readInto ∈ wT := mem_wT (i := 323) (by decide +kernel) (by decide +kernel)
theorem ima_yX4_readInto : Cond.instanceMethod yX4_readInto ∈ wT := mem_wT (i := 324) (by decide +kernel) (by decide +kernel)
theorem sel_yX4_readInto : Cond.selects RX4 yX4_readInto yX4_readInto ∈ wT := mem_wT (i := 325) (by decide +kernel) (by decide +kernel)
theorem co_yX4_readInto : Cond.code yX4_readInto cX4_readInto 4 none ∈ wT := mem_wT (i := 326) (by decide +kernel) (by decide +kernel)
theorem ml_X4_53 : Cond.methodLink RX4 53 yX5_open ∈ wT := mem_wT (i := 327) (by decide +kernel) (by decide +kernel)
theorem ima_yX5_open : Cond.instanceMethod yX5_open ∈ wT := mem_wT (i := 328) (by decide +kernel) (by decide +kernel)
theorem sel_yX5_open : Cond.selects RX5 yX5_open yX5_open ∈ wT := mem_wT (i := 329) (by decide +kernel) (by decide +kernel)
theorem co_yX5_open : Cond.code yX5_open cX5_open 3 none ∈ wT := mem_wT (i := 330) (by decide +kernel) (by decide +kernel)
theorem ml_X5_58 : Cond.methodLink RX5 58 yJ7_fill_53178 ∈ wT := mem_wT (i := 331) (by decide +kernel) (by decide +kernel)
theorem sta_yJ7_fill_53178 : Cond.static yJ7_fill_53178 ∈ wT := mem_wT (i := 332) (by decide +kernel) (by decide +kernel)
theorem co_yJ7_fill_53178 : Cond.code yJ7_fill_53178 cJ7_fill_53178 4 none ∈ wT := mem_wT (i := 333) (by decide +kernel) (by decide +kernel)
theorem ml_L_31 : Cond.methodLink RL 31 yX6_glove ∈ wT := mem_wT (i := 334) (by decide +kernel) (by decide +kernel)
theorem ima_yX6_glove : Cond.instanceMethod yX6_glove ∈ wT := mem_wT (i := 335) (by decide +kernel) (by decide +kernel)
theorem sel_yX6_glove : Cond.selects RX6 yX6_glove yX6_glove ∈ wT := mem_wT (i := 336) (by decide +kernel) (by decide +kernel)
theorem co_yX6_glove : Cond.code yX6_glove cX6_glove 3 (some .int) ∈ wT := mem_wT (i := 337) (by decide +kernel) (by decide +kernel)
theorem ml_X6_91 : Cond.methodLink RX6 91 yX5_hasGlove ∈ wT := mem_wT (i := 338) (by decide +kernel) (by decide +kernel)
theorem ima_yX5_hasGlove : Cond.instanceMethod yX5_hasGlove ∈ wT := mem_wT (i := 339) (by decide +kernel) (by decide +kernel)
theorem sel_yX5_hasGlove : Cond.selects RX5 yX5_hasGlove yX5_hasGlove ∈ wT := mem_wT (i := 340) (by decide +kernel) (by decide +kernel)
theorem co_yX5_hasGlove : Cond.code yX5_hasGlove cX5_hasGlove 2 (some .boolean) ∈ wT := mem_wT (i := 341) (by decide +kernel) (by decide +kernel)
theorem ml_X6_98 : Cond.methodLink RX6 98 yX6_at ∈ wT := mem_wT (i := 342) (by decide +kernel) (by decide +kernel)
theorem ml_X6_108 : Cond.methodLink RX6 108 yX5_temper ∈ wT := mem_wT (i := 343) (by decide +kernel) (by decide +kernel)
theorem ima_yX5_temper : Cond.instanceMethod yX5_temper ∈ wT := mem_wT (i := 344) (by decide +kernel) (by decide +kernel)
theorem sel_yX5_temper : Cond.selects RX5 yX5_temper yX5_temper ∈ wT := mem_wT (i := 345) (by decide +kernel) (by decide +kernel)
theorem co_yX5_temper : Cond.code yX5_temper cX5_temper 3 (some .int) ∈ wT := mem_wT (i := 346) (by decide +kernel) (by decide +kernel)
theorem sta_yX6_ageOf : Cond.static yX6_ageOf ∈ wT := mem_wT (i := 349) (by decide +kernel) (by decide +kernel)
theorem co_yX6_ageOf : Cond.code yX6_ageOf cX6_ageOf 1 (some .int) ∈ wT := mem_wT (i := 350) (by decide +kernel) (by decide +kernel)
theorem sta_yX6_temperOf : Cond.static yX6_temperOf ∈ wT := mem_wT (i := 352) (by decide +kernel) (by decide +kernel)
theorem co_yX6_temperOf : Cond.code yX6_temperOf cX6_temperOf 3 (some .int) ∈ wT := mem_wT (i := 353) (by decide +kernel) (by decide +kernel)
theorem ml_X6_118 : Cond.methodLink RX6 118 yX5_quarrels ∈ wT := mem_wT (i := 354) (by decide +kernel) (by decide +kernel)
theorem ima_yX5_quarrels : Cond.instanceMethod yX5_quarrels ∈ wT := mem_wT (i := 355) (by decide +kernel) (by decide +kernel)
theorem sel_yX5_quarrels : Cond.selects RX5 yX5_quarrels yX5_quarrels ∈ wT := mem_wT (i := 356) (by decide +kernel) (by decide +kernel)
theorem co_yX5_quarrels : Cond.code yX5_quarrels cX5_quarrels 6 (some .int) ∈ wT := mem_wT (i := 357) (by decide +kernel) (by decide +kernel)
theorem ml_X5_84 : Cond.methodLink RX5 84 yX5_temper ∈ wT := mem_wT (i := 358) (by decide +kernel) (by decide +kernel)
theorem ml_X5_88 : Cond.methodLink RX5 88 yJ9_abs_0f7a4 ∈ wT := mem_wT (i := 359) (by decide +kernel) (by decide +kernel)
theorem sta_yJ9_abs_0f7a4 : Cond.static yJ9_abs_0f7a4 ∈ wT := mem_wT (i := 360) (by decide +kernel) (by decide +kernel)
theorem co_yJ9_abs_0f7a4 : Cond.code yJ9_abs_0f7a4 cJ9_abs_0f7a4 1 (some .int) ∈ wT := mem_wT (i := 361) (by decide +kernel) (by decide +kernel)
theorem ml_X6_122 : Cond.methodLink RX6 122 yX5_possibleMarks ∈ wT := mem_wT (i := 362) (by decide +kernel) (by decide +kernel)
theorem ima_yX5_possibleMarks : Cond.instanceMethod yX5_possibleMarks ∈ wT := mem_wT (i := 363) (by decide +kernel) (by decide +kernel)
theorem sel_yX5_possibleMarks : Cond.selects RX5 yX5_possibleMarks yX5_possibleMarks ∈ wT := mem_wT (i := 364) (by decide +kernel) (by decide +kernel)
theorem co_yX5_possibleMarks : Cond.code yX5_possibleMarks cX5_possibleMarks 4 (some .int) ∈ wT := mem_wT (i := 365) (by decide +kernel) (by decide +kernel)
theorem ml_X5_117 : Cond.methodLink RX5 117 yX5_agreesWithSeen ∈ wT := mem_wT (i := 366) (by decide +kernel) (by decide +kernel)
theorem ima_yX5_agreesWithSeen : Cond.instanceMethod yX5_agreesWithSeen ∈ wT := mem_wT (i := 367) (by decide +kernel) (by decide +kernel)
theorem sel_yX5_agreesWithSeen : Cond.selects RX5 yX5_agreesWithSeen yX5_agreesWithSeen ∈ wT := mem_wT (i := 368) (by decide +kernel) (by decide +kernel)
theorem co_yX5_agreesWithSeen : Cond.code yX5_agreesWithSeen cX5_agreesWithSeen 6 (some .boolean) ∈ wT := mem_wT (i := 369) (by decide +kernel) (by decide +kernel)
theorem ml_X6_125 : Cond.methodLink RX6 125 yX5_bestFeel ∈ wT := mem_wT (i := 370) (by decide +kernel) (by decide +kernel)
theorem ima_yX5_bestFeel : Cond.instanceMethod yX5_bestFeel ∈ wT := mem_wT (i := 371) (by decide +kernel) (by decide +kernel)
theorem sel_yX5_bestFeel : Cond.selects RX5 yX5_bestFeel yX5_bestFeel ∈ wT := mem_wT (i := 372) (by decide +kernel) (by decide +kernel)
theorem co_yX5_bestFeel : Cond.code yX5_bestFeel cX5_bestFeel 7 (some .int) ∈ wT := mem_wT (i := 373) (by decide +kernel) (by decide +kernel)
theorem ml_X5_120 : Cond.methodLink RX5 120 yX5_possibleMarks ∈ wT := mem_wT (i := 374) (by decide +kernel) (by decide +kernel)
theorem ml_X5_123 : Cond.methodLink RX5 123 yX5_mostLeft ∈ wT := mem_wT (i := 375) (by decide +kernel) (by decide +kernel)
theorem ima_yX5_mostLeft : Cond.instanceMethod yX5_mostLeft ∈ wT := mem_wT (i := 376) (by decide +kernel) (by decide +kernel)
theorem sel_yX5_mostLeft : Cond.selects RX5 yX5_mostLeft yX5_mostLeft ∈ wT := mem_wT (i := 377) (by decide +kernel) (by decide +kernel)
theorem co_yX5_mostLeft : Cond.code yX5_mostLeft cX5_mostLeft 10 (some .int) ∈ wT := mem_wT (i := 378) (by decide +kernel) (by decide +kernel)
theorem sta_yX6_hasBit : Cond.static yX6_hasBit ∈ wT := mem_wT (i := 380) (by decide +kernel) (by decide +kernel)
theorem co_yX6_hasBit : Cond.code yX6_hasBit cX6_hasBit 2 (some .boolean) ∈ wT := mem_wT (i := 381) (by decide +kernel) (by decide +kernel)
theorem ml_X5_100 : Cond.methodLink RX5 100 yJ9_max_7cf53 ∈ wT := mem_wT (i := 383) (by decide +kernel) (by decide +kernel)
theorem sta_yJ9_max_7cf53 : Cond.static yJ9_max_7cf53 ∈ wT := mem_wT (i := 384) (by decide +kernel) (by decide +kernel)
theorem co_yJ9_max_7cf53 : Cond.code yJ9_max_7cf53 cJ9_max_7cf53 2 (some .int) ∈ wT := mem_wT (i := 385) (by decide +kernel) (by decide +kernel)
theorem ml_L_36 : Cond.methodLink RL 36 yX6_as ∈ wT := mem_wT (i := 386) (by decide +kernel) (by decide +kernel)
theorem ima_yX6_as : Cond.instanceMethod yX6_as ∈ wT := mem_wT (i := 387) (by decide +kernel) (by decide +kernel)
theorem sel_yX6_as : Cond.selects RX6 yX6_as yX6_as ∈ wT := mem_wT (i := 388) (by decide +kernel) (by decide +kernel)
theorem co_yX6_as : Cond.code yX6_as cX6_as 3 (some .int) ∈ wT := mem_wT (i := 389) (by decide +kernel) (by decide +kernel)
theorem ml_X6_128 : Cond.methodLink RX6 128 yX6_isOfKind ∈ wT := mem_wT (i := 390) (by decide +kernel) (by decide +kernel)
theorem sta_yX6_isOfKind : Cond.static yX6_isOfKind ∈ wT := mem_wT (i := 391) (by decide +kernel) (by decide +kernel)
theorem co_yX6_isOfKind : Cond.code yX6_isOfKind cX6_isOfKind 2 (some .boolean) ∈ wT := mem_wT (i := 392) (by decide +kernel) (by decide +kernel)
theorem ml_L_40 : Cond.methodLink RL 40 yX6_wearer ∈ wT := mem_wT (i := 393) (by decide +kernel) (by decide +kernel)
theorem ima_yX6_wearer : Cond.instanceMethod yX6_wearer ∈ wT := mem_wT (i := 394) (by decide +kernel) (by decide +kernel)
theorem sel_yX6_wearer : Cond.selects RX6 yX6_wearer yX6_wearer ∈ wT := mem_wT (i := 395) (by decide +kernel) (by decide +kernel)
theorem co_yX6_wearer : Cond.code yX6_wearer cX6_wearer 3 (some .int) ∈ wT := mem_wT (i := 396) (by decide +kernel) (by decide +kernel)
theorem ml_X6_132 : Cond.methodLink RX6 132 yX5_hasWearer ∈ wT := mem_wT (i := 397) (by decide +kernel) (by decide +kernel)
theorem ima_yX5_hasWearer : Cond.instanceMethod yX5_hasWearer ∈ wT := mem_wT (i := 398) (by decide +kernel) (by decide +kernel)
theorem sel_yX5_hasWearer : Cond.selects RX5 yX5_hasWearer yX5_hasWearer ∈ wT := mem_wT (i := 399) (by decide +kernel) (by decide +kernel)
theorem co_yX5_hasWearer : Cond.code yX5_hasWearer cX5_hasWearer 2 (some .boolean) ∈ wT := mem_wT (i := 400) (by decide +kernel) (by decide +kernel)
theorem ml_X6_138 : Cond.methodLink RX6 138 yX5_moodOf ∈ wT := mem_wT (i := 401) (by decide +kernel) (by decide +kernel)
theorem ima_yX5_moodOf : Cond.instanceMethod yX5_moodOf ∈ wT := mem_wT (i := 402) (by decide +kernel) (by decide +kernel)
theorem sel_yX5_moodOf : Cond.selects RX5 yX5_moodOf yX5_moodOf ∈ wT := mem_wT (i := 403) (by decide +kernel) (by decide +kernel)
theorem co_yX5_moodOf : Cond.code yX5_moodOf cX5_moodOf 3 (some .int) ∈ wT := mem_wT (i := 404) (by decide +kernel) (by decide +kernel)
theorem ml_X5_103 : Cond.methodLink RX5 103 yX5_heldBy ∈ wT := mem_wT (i := 405) (by decide +kernel) (by decide +kernel)
theorem ima_yX5_heldBy : Cond.instanceMethod yX5_heldBy ∈ wT := mem_wT (i := 406) (by decide +kernel) (by decide +kernel)
theorem sel_yX5_heldBy : Cond.selects RX5 yX5_heldBy yX5_heldBy ∈ wT := mem_wT (i := 407) (by decide +kernel) (by decide +kernel)
theorem co_yX5_heldBy : Cond.code yX5_heldBy cX5_heldBy 4 (some .int) ∈ wT := mem_wT (i := 408) (by decide +kernel) (by decide +kernel)
theorem ml_X5_106 : Cond.methodLink RX5 106 yX5_moodWith ∈ wT := mem_wT (i := 409) (by decide +kernel) (by decide +kernel)
theorem ima_yX5_moodWith : Cond.instanceMethod yX5_moodWith ∈ wT := mem_wT (i := 410) (by decide +kernel) (by decide +kernel)
theorem sel_yX5_moodWith : Cond.selects RX5 yX5_moodWith yX5_moodWith ∈ wT := mem_wT (i := 411) (by decide +kernel) (by decide +kernel)
theorem co_yX5_moodWith : Cond.code yX5_moodWith cX5_moodWith 9 (some .int) ∈ wT := mem_wT (i := 412) (by decide +kernel) (by decide +kernel)
theorem ml_X5_97 : Cond.methodLink RX5 97 yJ9_min_7cf53 ∈ wT := mem_wT (i := 413) (by decide +kernel) (by decide +kernel)
theorem sta_yJ9_min_7cf53 : Cond.static yJ9_min_7cf53 ∈ wT := mem_wT (i := 414) (by decide +kernel) (by decide +kernel)
theorem co_yJ9_min_7cf53 : Cond.code yJ9_min_7cf53 cJ9_min_7cf53 2 (some .int) ∈ wT := mem_wT (i := 415) (by decide +kernel) (by decide +kernel)
theorem ml_X6_141 : Cond.methodLink RX6 141 yX5_gloveOn ∈ wT := mem_wT (i := 416) (by decide +kernel) (by decide +kernel)
theorem ima_yX5_gloveOn : Cond.instanceMethod yX5_gloveOn ∈ wT := mem_wT (i := 417) (by decide +kernel) (by decide +kernel)
theorem sel_yX5_gloveOn : Cond.selects RX5 yX5_gloveOn yX5_gloveOn ∈ wT := mem_wT (i := 418) (by decide +kernel) (by decide +kernel)
theorem co_yX5_gloveOn : Cond.code yX5_gloveOn cX5_gloveOn 4 (some .int) ∈ wT := mem_wT (i := 419) (by decide +kernel) (by decide +kernel)
theorem ml_X6_144 : Cond.methodLink RX6 144 yX6_doing ∈ wT := mem_wT (i := 420) (by decide +kernel) (by decide +kernel)
theorem sta_yX6_doing : Cond.static yX6_doing ∈ wT := mem_wT (i := 421) (by decide +kernel) (by decide +kernel)
theorem co_yX6_doing : Cond.code yX6_doing cX6_doing 1 (some .int) ∈ wT := mem_wT (i := 422) (by decide +kernel) (by decide +kernel)
theorem ml_X6_150 : Cond.methodLink RX6 150 yX5_pleases ∈ wT := mem_wT (i := 423) (by decide +kernel) (by decide +kernel)
theorem ima_yX5_pleases : Cond.instanceMethod yX5_pleases ∈ wT := mem_wT (i := 424) (by decide +kernel) (by decide +kernel)
theorem sel_yX5_pleases : Cond.selects RX5 yX5_pleases yX5_pleases ∈ wT := mem_wT (i := 425) (by decide +kernel) (by decide +kernel)
theorem co_yX5_pleases : Cond.code yX5_pleases cX5_pleases 4 (some .boolean) ∈ wT := mem_wT (i := 426) (by decide +kernel) (by decide +kernel)
theorem ml_X6_153 : Cond.methodLink RX6 153 yX5_stillSet ∈ wT := mem_wT (i := 428) (by decide +kernel) (by decide +kernel)
theorem ima_yX5_stillSet : Cond.instanceMethod yX5_stillSet ∈ wT := mem_wT (i := 429) (by decide +kernel) (by decide +kernel)
theorem sel_yX5_stillSet : Cond.selects RX5 yX5_stillSet yX5_stillSet ∈ wT := mem_wT (i := 430) (by decide +kernel) (by decide +kernel)
theorem co_yX5_stillSet : Cond.code yX5_stillSet cX5_stillSet 9 (some .int) ∈ wT := mem_wT (i := 431) (by decide +kernel) (by decide +kernel)
theorem ml_X5_112 : Cond.methodLink RX5 112 yJ6_bitCount_0f7a4 ∈ wT := mem_wT (i := 432) (by decide +kernel) (by decide +kernel)
theorem sta_yJ6_bitCount_0f7a4 : Cond.static yJ6_bitCount_0f7a4 ∈ wT := mem_wT (i := 433) (by decide +kernel) (by decide +kernel)
theorem co_yJ6_bitCount_0f7a4 : Cond.code yJ6_bitCount_0f7a4 cJ6_bitCount_0f7a4 1 (some .int) ∈ wT := mem_wT (i := 434) (by decide +kernel) (by decide +kernel)
theorem k_J6_265 : Cond.constant RJ6 265 (1431655765) ∈ wT := mem_wT (i := 435) (by decide +kernel) (by decide +kernel)
theorem k_J6_266 : Cond.constant RJ6 266 (858993459) ∈ wT := mem_wT (i := 436) (by decide +kernel) (by decide +kernel)
theorem k_J6_267 : Cond.constant RJ6 267 (252645135) ∈ wT := mem_wT (i := 437) (by decide +kernel) (by decide +kernel)
theorem ml_X6_156 : Cond.methodLink RX6 156 yX5_changesTo ∈ wT := mem_wT (i := 438) (by decide +kernel) (by decide +kernel)
theorem ima_yX5_changesTo : Cond.instanceMethod yX5_changesTo ∈ wT := mem_wT (i := 439) (by decide +kernel) (by decide +kernel)
theorem sel_yX5_changesTo : Cond.selects RX5 yX5_changesTo yX5_changesTo ∈ wT := mem_wT (i := 440) (by decide +kernel) (by decide +kernel)
theorem co_yX5_changesTo : Cond.code yX5_changesTo cX5_changesTo 3 (some .int) ∈ wT := mem_wT (i := 441) (by decide +kernel) (by decide +kernel)
theorem ml_L_44 : Cond.methodLink RL 44 yX6_wear ∈ wT := mem_wT (i := 442) (by decide +kernel) (by decide +kernel)
theorem ima_yX6_wear : Cond.instanceMethod yX6_wear ∈ wT := mem_wT (i := 443) (by decide +kernel) (by decide +kernel)
theorem sel_yX6_wear : Cond.selects RX6 yX6_wear yX6_wear ∈ wT := mem_wT (i := 444) (by decide +kernel) (by decide +kernel)
theorem co_yX6_wear : Cond.code yX6_wear cX6_wear 4 (some .int) ∈ wT := mem_wT (i := 445) (by decide +kernel) (by decide +kernel)
theorem ml_X6_159 : Cond.methodLink RX6 159 yX5_putOn ∈ wT := mem_wT (i := 446) (by decide +kernel) (by decide +kernel)
theorem ima_yX5_putOn : Cond.instanceMethod yX5_putOn ∈ wT := mem_wT (i := 447) (by decide +kernel) (by decide +kernel)
theorem sel_yX5_putOn : Cond.selects RX5 yX5_putOn yX5_putOn ∈ wT := mem_wT (i := 448) (by decide +kernel) (by decide +kernel)
theorem co_yX5_putOn : Cond.code yX5_putOn cX5_putOn 4 none ∈ wT := mem_wT (i := 449) (by decide +kernel) (by decide +kernel)
theorem ml_L_49 : Cond.methodLink RL 49 yX6_off ∈ wT := mem_wT (i := 450) (by decide +kernel) (by decide +kernel)
theorem ima_yX6_off : Cond.instanceMethod yX6_off ∈ wT := mem_wT (i := 451) (by decide +kernel) (by decide +kernel)
theorem sel_yX6_off : Cond.selects RX6 yX6_off yX6_off ∈ wT := mem_wT (i := 452) (by decide +kernel) (by decide +kernel)
theorem co_yX6_off : Cond.code yX6_off cX6_off 3 (some .int) ∈ wT := mem_wT (i := 453) (by decide +kernel) (by decide +kernel)
theorem ml_X6_163 : Cond.methodLink RX6 163 yX5_takeOff ∈ wT := mem_wT (i := 454) (by decide +kernel) (by decide +kernel)
theorem ima_yX5_takeOff : Cond.instanceMethod yX5_takeOff ∈ wT := mem_wT (i := 455) (by decide +kernel) (by decide +kernel)
theorem sel_yX5_takeOff : Cond.selects RX5 yX5_takeOff yX5_takeOff ∈ wT := mem_wT (i := 456) (by decide +kernel) (by decide +kernel)
theorem co_yX5_takeOff : Cond.code yX5_takeOff cX5_takeOff 2 none ∈ wT := mem_wT (i := 457) (by decide +kernel) (by decide +kernel)
theorem ml_L_53 : Cond.methodLink RL 53 yX6_hour ∈ wT := mem_wT (i := 458) (by decide +kernel) (by decide +kernel)
theorem ima_yX6_hour : Cond.instanceMethod yX6_hour ∈ wT := mem_wT (i := 459) (by decide +kernel) (by decide +kernel)
theorem sel_yX6_hour : Cond.selects RX6 yX6_hour yX6_hour ∈ wT := mem_wT (i := 460) (by decide +kernel) (by decide +kernel)
theorem co_yX6_hour : Cond.code yX6_hour cX6_hour 1 (some .int) ∈ wT := mem_wT (i := 461) (by decide +kernel) (by decide +kernel)
theorem ml_X6_167 : Cond.methodLink RX6 167 yX6_hasShop ∈ wT := mem_wT (i := 462) (by decide +kernel) (by decide +kernel)
theorem ima_yX6_hasShop : Cond.instanceMethod yX6_hasShop ∈ wT := mem_wT (i := 464) (by decide +kernel) (by decide +kernel)
theorem co_yX6_hasShop : Cond.code yX6_hasShop cX6_hasShop 1 (some .boolean) ∈ wT := mem_wT (i := 465) (by decide +kernel) (by decide +kernel)
theorem ml_X6_173 : Cond.methodLink RX6 173 yX5_passHour ∈ wT := mem_wT (i := 466) (by decide +kernel) (by decide +kernel)
theorem ima_yX5_passHour : Cond.instanceMethod yX5_passHour ∈ wT := mem_wT (i := 467) (by decide +kernel) (by decide +kernel)
theorem sel_yX5_passHour : Cond.selects RX5 yX5_passHour yX5_passHour ∈ wT := mem_wT (i := 468) (by decide +kernel) (by decide +kernel)
theorem co_yX5_passHour : Cond.code yX5_passHour cX5_passHour 2 none ∈ wT := mem_wT (i := 469) (by decide +kernel) (by decide +kernel)
theorem ml_L_57 : Cond.methodLink RL 57 yX6_book ∈ wT := mem_wT (i := 470) (by decide +kernel) (by decide +kernel)
theorem ima_yX6_book : Cond.instanceMethod yX6_book ∈ wT := mem_wT (i := 471) (by decide +kernel) (by decide +kernel)
theorem sel_yX6_book : Cond.selects RX6 yX6_book yX6_book ∈ wT := mem_wT (i := 472) (by decide +kernel) (by decide +kernel)
theorem co_yX6_book : Cond.code yX6_book cX6_book 4 (some .int) ∈ wT := mem_wT (i := 473) (by decide +kernel) (by decide +kernel)
theorem ml_X6_176 : Cond.methodLink RX6 176 yX6_put ∈ wT := mem_wT (i := 474) (by decide +kernel) (by decide +kernel)
theorem ml_L_61 : Cond.methodLink RL 61 yX6_wish ∈ wT := mem_wT (i := 475) (by decide +kernel) (by decide +kernel)
theorem ima_yX6_wish : Cond.instanceMethod yX6_wish ∈ wT := mem_wT (i := 476) (by decide +kernel) (by decide +kernel)
theorem sel_yX6_wish : Cond.selects RX6 yX6_wish yX6_wish ∈ wT := mem_wT (i := 477) (by decide +kernel) (by decide +kernel)
theorem co_yX6_wish : Cond.code yX6_wish cX6_wish 5 (some .int) ∈ wT := mem_wT (i := 478) (by decide +kernel) (by decide +kernel)
theorem ml_L_65 : Cond.methodLink RL 65 yX6_mood ∈ wT := mem_wT (i := 479) (by decide +kernel) (by decide +kernel)
theorem ima_yX6_mood : Cond.instanceMethod yX6_mood ∈ wT := mem_wT (i := 480) (by decide +kernel) (by decide +kernel)
theorem sel_yX6_mood : Cond.selects RX6 yX6_mood yX6_mood ∈ wT := mem_wT (i := 481) (by decide +kernel) (by decide +kernel)
theorem co_yX6_mood : Cond.code yX6_mood cX6_mood 3 (some .int) ∈ wT := mem_wT (i := 482) (by decide +kernel) (by decide +kernel)
theorem ml_L_69 : Cond.methodLink RL 69 yX6_dress ∈ wT := mem_wT (i := 483) (by decide +kernel) (by decide +kernel)
theorem ima_yX6_dress : Cond.instanceMethod yX6_dress ∈ wT := mem_wT (i := 484) (by decide +kernel) (by decide +kernel)
theorem sel_yX6_dress : Cond.selects RX6 yX6_dress yX6_dress ∈ wT := mem_wT (i := 485) (by decide +kernel) (by decide +kernel)
theorem co_yX6_dress : Cond.code yX6_dress cX6_dress 2 (some .int) ∈ wT := mem_wT (i := 486) (by decide +kernel) (by decide +kernel)
theorem ml_X6_180 : Cond.methodLink RX6 180 yX6_asksOfGlove ∈ wT := mem_wT (i := 487) (by decide +kernel) (by decide +kernel)
theorem sta_yX6_asksOfGlove : Cond.static yX6_asksOfGlove ∈ wT := mem_wT (i := 488) (by decide +kernel) (by decide +kernel)
theorem co_yX6_asksOfGlove : Cond.code yX6_asksOfGlove cX6_asksOfGlove 1 (some .boolean) ∈ wT := mem_wT (i := 489) (by decide +kernel) (by decide +kernel)
theorem ml_X6_186 : Cond.methodLink RX6 186 yX2_find ∈ wT := mem_wT (i := 490) (by decide +kernel) (by decide +kernel)
theorem ima_yX2_find : Cond.instanceMethod yX2_find ∈ wT := mem_wT (i := 491) (by decide +kernel) (by decide +kernel)
theorem sel_yX2_find : Cond.selects RX2 yX2_find yX2_find ∈ wT := mem_wT (i := 492) (by decide +kernel) (by decide +kernel)
theorem co_yX2_find : Cond.code yX2_find cX2_find 2 none ∈ wT := mem_wT (i := 493) (by decide +kernel) (by decide +kernel)
theorem ml_X2_24 : Cond.methodLink RX2 24 yJ7_fill_53178 ∈ wT := mem_wT (i := 494) (by decide +kernel) (by decide +kernel)
theorem ml_X2_37 : Cond.methodLink RX2 37 yX2_judgeSets ∈ wT := mem_wT (i := 495) (by decide +kernel) (by decide +kernel)
theorem ima_yX2_judgeSets : Cond.instanceMethod yX2_judgeSets ∈ wT := mem_wT (i := 496) (by decide +kernel) (by decide +kernel)
theorem sel_yX2_judgeSets : Cond.selects RX2 yX2_judgeSets yX2_judgeSets ∈ wT := mem_wT (i := 497) (by decide +kernel) (by decide +kernel)
theorem co_yX2_judgeSets : Cond.code yX2_judgeSets cX2_judgeSets 5 none ∈ wT := mem_wT (i := 498) (by decide +kernel) (by decide +kernel)
theorem ml_X2_53 : Cond.methodLink RX2 53 yJ6_bitCount_0f7a4 ∈ wT := mem_wT (i := 499) (by decide +kernel) (by decide +kernel)
theorem ml_X2_59 : Cond.methodLink RX2 59 yX5_moodWith ∈ wT := mem_wT (i := 500) (by decide +kernel) (by decide +kernel)
theorem ml_X2_63 : Cond.methodLink RX2 63 yX5_pleases ∈ wT := mem_wT (i := 501) (by decide +kernel) (by decide +kernel)
theorem ml_X2_41 : Cond.methodLink RX2 41 yX2_give ∈ wT := mem_wT (i := 503) (by decide +kernel) (by decide +kernel)
theorem sta_yX2_give : Cond.static yX2_give ∈ wT := mem_wT (i := 504) (by decide +kernel) (by decide +kernel)
theorem co_yX2_give : Cond.code yX2_give cX2_give 6 none ∈ wT := mem_wT (i := 505) (by decide +kernel) (by decide +kernel)
theorem ml_X2_71 : Cond.methodLink RX2 71 yX2_keepIfBetter ∈ wT := mem_wT (i := 506) (by decide +kernel) (by decide +kernel)
theorem ima_yX2_keepIfBetter : Cond.instanceMethod yX2_keepIfBetter ∈ wT := mem_wT (i := 507) (by decide +kernel) (by decide +kernel)
theorem sel_yX2_keepIfBetter : Cond.selects RX2 yX2_keepIfBetter yX2_keepIfBetter ∈ wT := mem_wT (i := 508) (by decide +kernel) (by decide +kernel)
theorem co_yX2_keepIfBetter : Cond.code yX2_keepIfBetter cX2_keepIfBetter 5 none ∈ wT := mem_wT (i := 509) (by decide +kernel) (by decide +kernel)
theorem sta_yX6_copyRow : Cond.static yX6_copyRow ∈ wT := mem_wT (i := 512) (by decide +kernel) (by decide +kernel)
theorem co_yX6_copyRow : Cond.code yX6_copyRow cX6_copyRow 2 none ∈ wT := mem_wT (i := 513) (by decide +kernel) (by decide +kernel)
theorem ml_X6_281 : Cond.methodLink RX6 281 yJ9_min_7cf53 ∈ wT := mem_wT (i := 514) (by decide +kernel) (by decide +kernel)
theorem ml_X6_286 : Cond.methodLink RX6 286 arraycopyName ∈ wT := mem_wT (i := 515) (by decide +kernel) (by decide +kernel)
theorem sta_arraycopyName : Cond.static arraycopyName ∈ wT := mem_wT (i := 516) (by decide +kernel) (by decide +kernel)
theorem nat_arraycopyName : Cond.native arraycopyName ∈ wT := mem_wT (i := 517) (by decide +kernel) (by decide +kernel)
theorem ml_L_73 : Cond.methodLink RL 73 yX6_boxes ∈ wT := mem_wT (i := 518) (by decide +kernel) (by decide +kernel)
theorem ima_yX6_boxes : Cond.instanceMethod yX6_boxes ∈ wT := mem_wT (i := 519) (by decide +kernel) (by decide +kernel)
theorem sel_yX6_boxes : Cond.selects RX6 yX6_boxes yX6_boxes ∈ wT := mem_wT (i := 520) (by decide +kernel) (by decide +kernel)
theorem co_yX6_boxes : Cond.code yX6_boxes cX6_boxes 2 (some .int) ∈ wT := mem_wT (i := 521) (by decide +kernel) (by decide +kernel)
theorem ml_X6_198 : Cond.methodLink RX6 198 yX3_find ∈ wT := mem_wT (i := 522) (by decide +kernel) (by decide +kernel)
theorem ima_yX3_find : Cond.instanceMethod yX3_find ∈ wT := mem_wT (i := 523) (by decide +kernel) (by decide +kernel)
theorem sel_yX3_find : Cond.selects RX3 yX3_find yX3_find ∈ wT := mem_wT (i := 524) (by decide +kernel) (by decide +kernel)
theorem co_yX3_find : Cond.code yX3_find cX3_find 3 none ∈ wT := mem_wT (i := 525) (by decide +kernel) (by decide +kernel)
theorem ml_X3_24 : Cond.methodLink RX3 24 yJ7_fill_53178 ∈ wT := mem_wT (i := 526) (by decide +kernel) (by decide +kernel)
theorem ml_X3_39 : Cond.methodLink RX3 39 yX5_quarrels ∈ wT := mem_wT (i := 527) (by decide +kernel) (by decide +kernel)
theorem ml_X3_46 : Cond.methodLink RX3 46 yX3_pack ∈ wT := mem_wT (i := 529) (by decide +kernel) (by decide +kernel)
theorem sta_yX3_pack : Cond.static yX3_pack ∈ wT := mem_wT (i := 530) (by decide +kernel) (by decide +kernel)
theorem co_yX3_pack : Cond.code yX3_pack cX3_pack 6 none ∈ wT := mem_wT (i := 531) (by decide +kernel) (by decide +kernel)
theorem ml_L_77 : Cond.methodLink RL 77 yX6_odds ∈ wT := mem_wT (i := 534) (by decide +kernel) (by decide +kernel)
theorem ima_yX6_odds : Cond.instanceMethod yX6_odds ∈ wT := mem_wT (i := 535) (by decide +kernel) (by decide +kernel)
theorem sel_yX6_odds : Cond.selects RX6 yX6_odds yX6_odds ∈ wT := mem_wT (i := 536) (by decide +kernel) (by decide +kernel)
theorem co_yX6_odds : Cond.code yX6_odds cX6_odds 9 (some .int) ∈ wT := mem_wT (i := 537) (by decide +kernel) (by decide +kernel)
theorem ml_X6_203 : Cond.methodLink RX6 203 yX0_spread ∈ wT := mem_wT (i := 538) (by decide +kernel) (by decide +kernel)
theorem ima_yX0_spread : Cond.instanceMethod yX0_spread ∈ wT := mem_wT (i := 539) (by decide +kernel) (by decide +kernel)
theorem sel_yX0_spread : Cond.selects RX0 yX0_spread yX0_spread ∈ wT := mem_wT (i := 540) (by decide +kernel) (by decide +kernel)
theorem co_yX0_spread : Cond.code yX0_spread cX0_spread 5 none ∈ wT := mem_wT (i := 541) (by decide +kernel) (by decide +kernel)
theorem ml_X0_15 : Cond.methodLink RX0 15 yJ7_fill_53178 ∈ wT := mem_wT (i := 542) (by decide +kernel) (by decide +kernel)
theorem ml_X6_213 : Cond.methodLink RX6 213 yX6_commonDivisor ∈ wT := mem_wT (i := 545) (by decide +kernel) (by decide +kernel)
theorem sta_yX6_commonDivisor : Cond.static yX6_commonDivisor ∈ wT := mem_wT (i := 546) (by decide +kernel) (by decide +kernel)
theorem co_yX6_commonDivisor : Cond.code yX6_commonDivisor cX6_commonDivisor 6 (some .int) ∈ wT := mem_wT (i := 547) (by decide +kernel) (by decide +kernel)
theorem ml_L_82 : Cond.methodLink RL 82 yX6_see ∈ wT := mem_wT (i := 548) (by decide +kernel) (by decide +kernel)
theorem ima_yX6_see : Cond.instanceMethod yX6_see ∈ wT := mem_wT (i := 549) (by decide +kernel) (by decide +kernel)
theorem sel_yX6_see : Cond.selects RX6 yX6_see yX6_see ∈ wT := mem_wT (i := 550) (by decide +kernel) (by decide +kernel)
theorem co_yX6_see : Cond.code yX6_see cX6_see 4 (some .int) ∈ wT := mem_wT (i := 551) (by decide +kernel) (by decide +kernel)
theorem ml_X6_216 : Cond.methodLink RX6 216 yX5_addSeen ∈ wT := mem_wT (i := 552) (by decide +kernel) (by decide +kernel)
theorem ima_yX5_addSeen : Cond.instanceMethod yX5_addSeen ∈ wT := mem_wT (i := 553) (by decide +kernel) (by decide +kernel)
theorem sel_yX5_addSeen : Cond.selects RX5 yX5_addSeen yX5_addSeen ∈ wT := mem_wT (i := 554) (by decide +kernel) (by decide +kernel)
theorem co_yX5_addSeen : Cond.code yX5_addSeen cX5_addSeen 4 (some .boolean) ∈ wT := mem_wT (i := 555) (by decide +kernel) (by decide +kernel)
theorem ml_L_86 : Cond.methodLink RL 86 yX6_forget ∈ wT := mem_wT (i := 556) (by decide +kernel) (by decide +kernel)
theorem ima_yX6_forget : Cond.instanceMethod yX6_forget ∈ wT := mem_wT (i := 557) (by decide +kernel) (by decide +kernel)
theorem sel_yX6_forget : Cond.selects RX6 yX6_forget yX6_forget ∈ wT := mem_wT (i := 558) (by decide +kernel) (by decide +kernel)
theorem co_yX6_forget : Cond.code yX6_forget cX6_forget 2 (some .int) ∈ wT := mem_wT (i := 559) (by decide +kernel) (by decide +kernel)
theorem ml_L_90 : Cond.methodLink RL 90 yX6_teas ∈ wT := mem_wT (i := 560) (by decide +kernel) (by decide +kernel)
theorem ima_yX6_teas : Cond.instanceMethod yX6_teas ∈ wT := mem_wT (i := 561) (by decide +kernel) (by decide +kernel)
theorem sel_yX6_teas : Cond.selects RX6 yX6_teas yX6_teas ∈ wT := mem_wT (i := 562) (by decide +kernel) (by decide +kernel)
theorem co_yX6_teas : Cond.code yX6_teas cX6_teas 6 (some .int) ∈ wT := mem_wT (i := 563) (by decide +kernel) (by decide +kernel)
theorem ml_X6_222 : Cond.methodLink RX6 222 yX5_copyFrom ∈ wT := mem_wT (i := 564) (by decide +kernel) (by decide +kernel)
theorem ima_yX5_copyFrom : Cond.instanceMethod yX5_copyFrom ∈ wT := mem_wT (i := 565) (by decide +kernel) (by decide +kernel)
theorem sel_yX5_copyFrom : Cond.selects RX5 yX5_copyFrom yX5_copyFrom ∈ wT := mem_wT (i := 566) (by decide +kernel) (by decide +kernel)
theorem co_yX5_copyFrom : Cond.code yX5_copyFrom cX5_copyFrom 2 none ∈ wT := mem_wT (i := 567) (by decide +kernel) (by decide +kernel)
theorem ml_X6_228 : Cond.methodLink RX6 228 yX5_changeByDraws ∈ wT := mem_wT (i := 569) (by decide +kernel) (by decide +kernel)
theorem ima_yX5_changeByDraws : Cond.instanceMethod yX5_changeByDraws ∈ wT := mem_wT (i := 570) (by decide +kernel) (by decide +kernel)
theorem sel_yX5_changeByDraws : Cond.selects RX5 yX5_changeByDraws yX5_changeByDraws ∈ wT := mem_wT (i := 571) (by decide +kernel) (by decide +kernel)
theorem co_yX5_changeByDraws : Cond.code yX5_changeByDraws cX5_changeByDraws 5 none ∈ wT := mem_wT (i := 572) (by decide +kernel) (by decide +kernel)
theorem ml_X5_126 : Cond.methodLink RX5 126 yX1_next ∈ wT := mem_wT (i := 573) (by decide +kernel) (by decide +kernel)
theorem ima_yX1_next : Cond.instanceMethod yX1_next ∈ wT := mem_wT (i := 574) (by decide +kernel) (by decide +kernel)
theorem sel_yX1_next : Cond.selects RX1 yX1_next yX1_next ∈ wT := mem_wT (i := 575) (by decide +kernel) (by decide +kernel)
theorem co_yX1_next : Cond.code yX1_next cX1_next 2 (some .int) ∈ wT := mem_wT (i := 576) (by decide +kernel) (by decide +kernel)
theorem k_X1_7 : Cond.constantLong RX1 7 (1103515245) ∈ wT := mem_wT (i := 577) (by decide +kernel) (by decide +kernel)
theorem k_X1_15 : Cond.constantLong RX1 15 (12345) ∈ wT := mem_wT (i := 578) (by decide +kernel) (by decide +kernel)
theorem k_X1_17 : Cond.constantLong RX1 17 (2147483648) ∈ wT := mem_wT (i := 579) (by decide +kernel) (by decide +kernel)
theorem k_X1_19 : Cond.constant RX1 19 (65536) ∈ wT := mem_wT (i := 580) (by decide +kernel) (by decide +kernel)
theorem ml_X5_131 : Cond.methodLink RX5 131 yX5_takeOff ∈ wT := mem_wT (i := 581) (by decide +kernel) (by decide +kernel)
theorem ml_X5_135 : Cond.methodLink RX5 135 yX5_gloveOn ∈ wT := mem_wT (i := 582) (by decide +kernel) (by decide +kernel)
theorem ml_X5_138 : Cond.methodLink RX5 138 yX5_putOn ∈ wT := mem_wT (i := 583) (by decide +kernel) (by decide +kernel)
theorem ml_X6_232 : Cond.methodLink RX6 232 yX5_countDoing ∈ wT := mem_wT (i := 584) (by decide +kernel) (by decide +kernel)
theorem ima_yX5_countDoing : Cond.instanceMethod yX5_countDoing ∈ wT := mem_wT (i := 585) (by decide +kernel) (by decide +kernel)
theorem sel_yX5_countDoing : Cond.selects RX5 yX5_countDoing yX5_countDoing ∈ wT := mem_wT (i := 586) (by decide +kernel) (by decide +kernel)
theorem co_yX5_countDoing : Cond.code yX5_countDoing cX5_countDoing 4 (some .int) ∈ wT := mem_wT (i := 587) (by decide +kernel) (by decide +kernel)
theorem ml_X5_142 : Cond.methodLink RX5 142 yX5_moodOf ∈ wT := mem_wT (i := 588) (by decide +kernel) (by decide +kernel)
theorem ml_X6_235 : Cond.methodLink RX6 235 yX5_countOnHands ∈ wT := mem_wT (i := 589) (by decide +kernel) (by decide +kernel)
theorem ima_yX5_countOnHands : Cond.instanceMethod yX5_countOnHands ∈ wT := mem_wT (i := 590) (by decide +kernel) (by decide +kernel)
theorem sel_yX5_countOnHands : Cond.selects RX5 yX5_countOnHands yX5_countOnHands ∈ wT := mem_wT (i := 591) (by decide +kernel) (by decide +kernel)
theorem co_yX5_countOnHands : Cond.code yX5_countOnHands cX5_countOnHands 1 (some .int) ∈ wT := mem_wT (i := 592) (by decide +kernel) (by decide +kernel)
theorem ml_L_94 : Cond.methodLink RL 94 yX6_image ∈ wT := mem_wT (i := 593) (by decide +kernel) (by decide +kernel)
theorem ima_yX6_image : Cond.instanceMethod yX6_image ∈ wT := mem_wT (i := 594) (by decide +kernel) (by decide +kernel)
theorem sel_yX6_image : Cond.selects RX6 yX6_image yX6_image ∈ wT := mem_wT (i := 595) (by decide +kernel) (by decide +kernel)
theorem co_yX6_image : Cond.code yX6_image cX6_image 1 (some .int) ∈ wT := mem_wT (i := 596) (by decide +kernel) (by decide +kernel)
theorem ml_L_98 : Cond.methodLink RL 98 yX6_restore ∈ wT := mem_wT (i := 597) (by decide +kernel) (by decide +kernel)
theorem ima_yX6_restore : Cond.instanceMethod yX6_restore ∈ wT := mem_wT (i := 598) (by decide +kernel) (by decide +kernel)
theorem sel_yX6_restore : Cond.selects RX6 yX6_restore yX6_restore ∈ wT := mem_wT (i := 599) (by decide +kernel) (by decide +kernel)
theorem co_yX6_restore : Cond.code yX6_restore cX6_restore 1 (some .int) ∈ wT := mem_wT (i := 600) (by decide +kernel) (by decide +kernel)
theorem ml_L_102 : Cond.methodLink RL 102 yX6_count ∈ wT := mem_wT (i := 601) (by decide +kernel) (by decide +kernel)
theorem ima_yX6_count : Cond.instanceMethod yX6_count ∈ wT := mem_wT (i := 602) (by decide +kernel) (by decide +kernel)
theorem sel_yX6_count : Cond.selects RX6 yX6_count yX6_count ∈ wT := mem_wT (i := 603) (by decide +kernel) (by decide +kernel)
theorem co_yX6_count : Cond.code yX6_count cX6_count 2 (some .int) ∈ wT := mem_wT (i := 604) (by decide +kernel) (by decide +kernel)
theorem ml_X6_241 : Cond.methodLink RX6 241 yX5_countPleased ∈ wT := mem_wT (i := 605) (by decide +kernel) (by decide +kernel)
theorem ima_yX5_countPleased : Cond.instanceMethod yX5_countPleased ∈ wT := mem_wT (i := 606) (by decide +kernel) (by decide +kernel)
theorem sel_yX5_countPleased : Cond.selects RX5 yX5_countPleased yX5_countPleased ∈ wT := mem_wT (i := 607) (by decide +kernel) (by decide +kernel)
theorem co_yX5_countPleased : Cond.code yX5_countPleased cX5_countPleased 3 (some .int) ∈ wT := mem_wT (i := 608) (by decide +kernel) (by decide +kernel)
theorem ml_X5_145 : Cond.methodLink RX5 145 yX5_pleases ∈ wT := mem_wT (i := 609) (by decide +kernel) (by decide +kernel)
theorem ml_X6_244 : Cond.methodLink RX6 244 yX5_countQuarrels ∈ wT := mem_wT (i := 610) (by decide +kernel) (by decide +kernel)
theorem ima_yX5_countQuarrels : Cond.instanceMethod yX5_countQuarrels ∈ wT := mem_wT (i := 611) (by decide +kernel) (by decide +kernel)
theorem sel_yX5_countQuarrels : Cond.selects RX5 yX5_countQuarrels yX5_countQuarrels ∈ wT := mem_wT (i := 612) (by decide +kernel) (by decide +kernel)
theorem co_yX5_countQuarrels : Cond.code yX5_countQuarrels cX5_countQuarrels 3 (some .int) ∈ wT := mem_wT (i := 613) (by decide +kernel) (by decide +kernel)
theorem ml_X5_148 : Cond.methodLink RX5 148 yX5_quarrels ∈ wT := mem_wT (i := 614) (by decide +kernel) (by decide +kernel)
theorem ml_X6_247 : Cond.methodLink RX6 247 yX5_sumOfTempers ∈ wT := mem_wT (i := 615) (by decide +kernel) (by decide +kernel)
theorem ima_yX5_sumOfTempers : Cond.instanceMethod yX5_sumOfTempers ∈ wT := mem_wT (i := 616) (by decide +kernel) (by decide +kernel)
theorem sel_yX5_sumOfTempers : Cond.selects RX5 yX5_sumOfTempers yX5_sumOfTempers ∈ wT := mem_wT (i := 617) (by decide +kernel) (by decide +kernel)
theorem co_yX5_sumOfTempers : Cond.code yX5_sumOfTempers cX5_sumOfTempers 3 (some .int) ∈ wT := mem_wT (i := 618) (by decide +kernel) (by decide +kernel)
theorem ml_L_106 : Cond.methodLink RL 106 yX6_digest ∈ wT := mem_wT (i := 619) (by decide +kernel) (by decide +kernel)
theorem ima_yX6_digest : Cond.instanceMethod yX6_digest ∈ wT := mem_wT (i := 620) (by decide +kernel) (by decide +kernel)
theorem sel_yX6_digest : Cond.selects RX6 yX6_digest yX6_digest ∈ wT := mem_wT (i := 621) (by decide +kernel) (by decide +kernel)
theorem co_yX6_digest : Cond.code yX6_digest cX6_digest 5 (some .long) ∈ wT := mem_wT (i := 622) (by decide +kernel) (by decide +kernel)
theorem k_X6_250 : Cond.constantLong RX6 250 (1237) ∈ wT := mem_wT (i := 623) (by decide +kernel) (by decide +kernel)
theorem k_X6_252 : Cond.constantLong RX6 252 (31) ∈ wT := mem_wT (i := 624) (by decide +kernel) (by decide +kernel)
theorem ml_X6_254 : Cond.methodLink RX6 254 yX6_glove ∈ wT := mem_wT (i := 625) (by decide +kernel) (by decide +kernel)
theorem ml_X6_257 : Cond.methodLink RX6 257 yX6_digestOfWearer ∈ wT := mem_wT (i := 626) (by decide +kernel) (by decide +kernel)
theorem ima_yX6_digestOfWearer : Cond.instanceMethod yX6_digestOfWearer ∈ wT := mem_wT (i := 628) (by decide +kernel) (by decide +kernel)
theorem co_yX6_digestOfWearer : Cond.code yX6_digestOfWearer cX6_digestOfWearer 7 (some .long) ∈ wT := mem_wT (i := 629) (by decide +kernel) (by decide +kernel)
theorem ml_X6_271 : Cond.methodLink RX6 271 yX6_wearer ∈ wT := mem_wT (i := 630) (by decide +kernel) (by decide +kernel)
theorem ml_X6_274 : Cond.methodLink RX6 274 yX6_mood ∈ wT := mem_wT (i := 631) (by decide +kernel) (by decide +kernel)
theorem ml_X6_277 : Cond.methodLink RX6 277 yX6_odds ∈ wT := mem_wT (i := 632) (by decide +kernel) (by decide +kernel)
theorem ml_X6_261 : Cond.methodLink RX6 261 yX6_digestOfBoxes ∈ wT := mem_wT (i := 633) (by decide +kernel) (by decide +kernel)
theorem ima_yX6_digestOfBoxes : Cond.instanceMethod yX6_digestOfBoxes ∈ wT := mem_wT (i := 635) (by decide +kernel) (by decide +kernel)
theorem co_yX6_digestOfBoxes : Cond.code yX6_digestOfBoxes cX6_digestOfBoxes 6 (some .long) ∈ wT := mem_wT (i := 636) (by decide +kernel) (by decide +kernel)
theorem ml_X6_268 : Cond.methodLink RX6 268 yX6_count ∈ wT := mem_wT (i := 637) (by decide +kernel) (by decide +kernel)
theorem cl_L_10 : Cond.classLink RL 10 RX7 ∈ wT := mem_wT (i := 638) (by decide +kernel) (by decide +kernel)
theorem ins_X7 : Cond.instantiable RX7 38 ∈ wT := mem_wT (i := 639) (by decide +kernel) (by decide +kernel)
theorem ml_L_12 : Cond.methodLink RL 12 yX7_init ∈ wT := mem_wT (i := 640) (by decide +kernel) (by decide +kernel)
theorem ima_yX7_init : Cond.instanceMethod yX7_init ∈ wT := mem_wT (i := 641) (by decide +kernel) (by decide +kernel)
theorem co_yX7_init : Cond.code yX7_init cX7_init 1 none ∈ wT := mem_wT (i := 642) (by decide +kernel) (by decide +kernel)
theorem ml_X7_1 : Cond.methodLink RX7 1 objectInit ∈ wT := mem_wT (i := 643) (by decide +kernel) (by decide +kernel)
theorem fl_X7_122 : Cond.fieldLink RX7 122 "KidGlovesModel" "shops" "I" ∈ wT := mem_wT (i := 644) (by decide +kernel) (by decide +kernel)
theorem fl_X7_113 : Cond.fieldLink RX7 113 "KidGlovesModel" "gloves" "I" ∈ wT := mem_wT (i := 645) (by decide +kernel) (by decide +kernel)
theorem fl_X7_116 : Cond.fieldLink RX7 116 "KidGlovesModel" "wearers" "I" ∈ wT := mem_wT (i := 646) (by decide +kernel) (by decide +kernel)
theorem fl_X7_7 : Cond.fieldLink RX7 7 "KidGlovesModel" "kindOf" "[I" ∈ wT := mem_wT (i := 647) (by decide +kernel) (by decide +kernel)
theorem fl_X7_13 : Cond.fieldLink RX7 13 "KidGlovesModel" "markOf" "[I" ∈ wT := mem_wT (i := 648) (by decide +kernel) (by decide +kernel)
theorem fl_X7_16 : Cond.fieldLink RX7 16 "KidGlovesModel" "ageOf" "[I" ∈ wT := mem_wT (i := 649) (by decide +kernel) (by decide +kernel)
theorem fl_X7_19 : Cond.fieldLink RX7 19 "KidGlovesModel" "handOf" "[I" ∈ wT := mem_wT (i := 650) (by decide +kernel) (by decide +kernel)
theorem fl_X7_22 : Cond.fieldLink RX7 22 "KidGlovesModel" "nerveOf" "[I" ∈ wT := mem_wT (i := 651) (by decide +kernel) (by decide +kernel)
theorem fl_X7_25 : Cond.fieldLink RX7 25 "KidGlovesModel" "wishOf" "[I" ∈ wT := mem_wT (i := 652) (by decide +kernel) (by decide +kernel)
theorem fl_X7_119 : Cond.fieldLink RX7 119 "KidGlovesModel" "hours" "I" ∈ wT := mem_wT (i := 653) (by decide +kernel) (by decide +kernel)
theorem fl_X7_215 : Cond.fieldLink RX7 215 "KidGlovesModel" "asks" "I" ∈ wT := mem_wT (i := 654) (by decide +kernel) (by decide +kernel)
theorem fl_X7_125 : Cond.fieldLink RX7 125 "KidGlovesModel" "seen" "I" ∈ wT := mem_wT (i := 655) (by decide +kernel) (by decide +kernel)
theorem fl_X7_28 : Cond.fieldLink RX7 28 "KidGlovesModel" "seenGlove" "[I" ∈ wT := mem_wT (i := 656) (by decide +kernel) (by decide +kernel)
theorem fl_X7_31 : Cond.fieldLink RX7 31 "KidGlovesModel" "seenMore" "[I" ∈ wT := mem_wT (i := 657) (by decide +kernel) (by decide +kernel)
theorem fl_X7_34 : Cond.fieldLink RX7 34 "KidGlovesModel" "seenTemper" "[I" ∈ wT := mem_wT (i := 658) (by decide +kernel) (by decide +kernel)
theorem fl_X7_81 : Cond.fieldLink RX7 81 "KidGlovesModel" "pageLength" "I" ∈ wT := mem_wT (i := 659) (by decide +kernel) (by decide +kernel)
theorem fl_X7_37 : Cond.fieldLink RX7 37 "KidGlovesModel" "page" "[B" ∈ wT := mem_wT (i := 660) (by decide +kernel) (by decide +kernel)
theorem fl_X7_96 : Cond.fieldLink RX7 96 "KidGlovesModel" "isWhole" "Z" ∈ wT := mem_wT (i := 661) (by decide +kernel) (by decide +kernel)
theorem fl_X7_100 : Cond.fieldLink RX7 100 "KidGlovesModel" "newGloves" "I" ∈ wT := mem_wT (i := 662) (by decide +kernel) (by decide +kernel)
theorem fl_X7_89 : Cond.fieldLink RX7 89 "KidGlovesModel" "newWearers" "I" ∈ wT := mem_wT (i := 663) (by decide +kernel) (by decide +kernel)
theorem fl_X7_41 : Cond.fieldLink RX7 41 "KidGlovesModel" "row" "[I" ∈ wT := mem_wT (i := 664) (by decide +kernel) (by decide +kernel)
theorem fl_X7_44 : Cond.fieldLink RX7 44 "KidGlovesModel" "bestRow" "[I" ∈ wT := mem_wT (i := 665) (by decide +kernel) (by decide +kernel)
theorem fl_X7_245 : Cond.fieldLink RX7 245 "KidGlovesModel" "seedNow" "J" ∈ wT := mem_wT (i := 666) (by decide +kernel) (by decide +kernel)
theorem fl_X7_47 : Cond.fieldLink RX7 47 "KidGlovesModel" "savedAge" "[I" ∈ wT := mem_wT (i := 667) (by decide +kernel) (by decide +kernel)
theorem fl_X7_50 : Cond.fieldLink RX7 50 "KidGlovesModel" "savedHand" "[I" ∈ wT := mem_wT (i := 668) (by decide +kernel) (by decide +kernel)
theorem fl_X7_270 : Cond.fieldLink RX7 270 "KidGlovesModel" "isKept" "Z" ∈ wT := mem_wT (i := 669) (by decide +kernel) (by decide +kernel)
theorem fl_X7_273 : Cond.fieldLink RX7 273 "KidGlovesModel" "keptShop" "I" ∈ wT := mem_wT (i := 670) (by decide +kernel) (by decide +kernel)
theorem fl_X7_276 : Cond.fieldLink RX7 276 "KidGlovesModel" "keptHours" "I" ∈ wT := mem_wT (i := 671) (by decide +kernel) (by decide +kernel)
theorem fl_X7_279 : Cond.fieldLink RX7 279 "KidGlovesModel" "keptSeen" "I" ∈ wT := mem_wT (i := 672) (by decide +kernel) (by decide +kernel)
theorem fl_X7_53 : Cond.fieldLink RX7 53 "KidGlovesModel" "keptMark" "[I" ∈ wT := mem_wT (i := 673) (by decide +kernel) (by decide +kernel)
theorem fl_X7_56 : Cond.fieldLink RX7 56 "KidGlovesModel" "keptAge" "[I" ∈ wT := mem_wT (i := 674) (by decide +kernel) (by decide +kernel)
theorem fl_X7_59 : Cond.fieldLink RX7 59 "KidGlovesModel" "keptHand" "[I" ∈ wT := mem_wT (i := 675) (by decide +kernel) (by decide +kernel)
theorem fl_X7_62 : Cond.fieldLink RX7 62 "KidGlovesModel" "keptNerve" "[I" ∈ wT := mem_wT (i := 676) (by decide +kernel) (by decide +kernel)
theorem fl_X7_65 : Cond.fieldLink RX7 65 "KidGlovesModel" "keptWish" "[I" ∈ wT := mem_wT (i := 677) (by decide +kernel) (by decide +kernel)
theorem fl_X7_68 : Cond.fieldLink RX7 68 "KidGlovesModel" "keptGlove" "[I" ∈ wT := mem_wT (i := 678) (by decide +kernel) (by decide +kernel)
theorem fl_X7_71 : Cond.fieldLink RX7 71 "KidGlovesModel" "keptMore" "[I" ∈ wT := mem_wT (i := 679) (by decide +kernel) (by decide +kernel)
theorem fl_X7_74 : Cond.fieldLink RX7 74 "KidGlovesModel" "keptTemper" "[I" ∈ wT := mem_wT (i := 680) (by decide +kernel) (by decide +kernel)
theorem fl_X7_294 : Cond.fieldLink RX7 294 "KidGlovesModel" "h" "J" ∈ wT := mem_wT (i := 681) (by decide +kernel) (by decide +kernel)
theorem arr_byte : Cond.arrayClass .byte ∈ wT := mem_wT (i := 759) (by decide +kernel) (by decide +kernel)
theorem ml_L_17 : Cond.methodLink RL 17 yX7_letter ∈ wT := mem_wT (i := 760) (by decide +kernel) (by decide +kernel)
theorem ima_yX7_letter : Cond.instanceMethod yX7_letter ∈ wT := mem_wT (i := 761) (by decide +kernel) (by decide +kernel)
theorem sel_yX7_letter : Cond.selects RX7 yX7_letter yX7_letter ∈ wT := mem_wT (i := 762) (by decide +kernel) (by decide +kernel)
theorem co_yX7_letter : Cond.code yX7_letter cX7_letter 2 (some .int) ∈ wT := mem_wT (i := 763) (by decide +kernel) (by decide +kernel)
theorem ml_X7_77 : Cond.methodLink RX7 77 yX7_within ∈ wT := mem_wT (i := 764) (by decide +kernel) (by decide +kernel)
theorem sta_yX7_within : Cond.static yX7_within ∈ wT := mem_wT (i := 765) (by decide +kernel) (by decide +kernel)
theorem co_yX7_within : Cond.code yX7_within cX7_within 3 (some .boolean) ∈ wT := mem_wT (i := 766) (by decide +kernel) (by decide +kernel)
theorem ml_L_22 : Cond.methodLink RL 22 yX7_blank ∈ wT := mem_wT (i := 767) (by decide +kernel) (by decide +kernel)
theorem ima_yX7_blank : Cond.instanceMethod yX7_blank ∈ wT := mem_wT (i := 768) (by decide +kernel) (by decide +kernel)
theorem sel_yX7_blank : Cond.selects RX7 yX7_blank yX7_blank ∈ wT := mem_wT (i := 769) (by decide +kernel) (by decide +kernel)
theorem co_yX7_blank : Cond.code yX7_blank cX7_blank 2 (some .int) ∈ wT := mem_wT (i := 770) (by decide +kernel) (by decide +kernel)
theorem ml_L_26 : Cond.methodLink RL 26 yX7_fault ∈ wT := mem_wT (i := 771) (by decide +kernel) (by decide +kernel)
theorem ima_yX7_fault : Cond.instanceMethod yX7_fault ∈ wT := mem_wT (i := 772) (by decide +kernel) (by decide +kernel)
theorem sel_yX7_fault : Cond.selects RX7 yX7_fault yX7_fault ∈ wT := mem_wT (i := 773) (by decide +kernel) (by decide +kernel)
theorem co_yX7_fault : Cond.code yX7_fault cX7_fault 1 (some .int) ∈ wT := mem_wT (i := 774) (by decide +kernel) (by decide +kernel)
theorem ml_X7_109 : Cond.methodLink RX7 109 yX7_read ∈ wT := mem_wT (i := 775) (by decide +kernel) (by decide +kernel)
theorem ima_yX7_read : Cond.instanceMethod yX7_read ∈ wT := mem_wT (i := 777) (by decide +kernel) (by decide +kernel)
theorem co_yX7_read : Cond.code yX7_read cX7_read 2 (some .int) ∈ wT := mem_wT (i := 778) (by decide +kernel) (by decide +kernel)
theorem ml_X7_85 : Cond.methodLink RX7 85 yX7_at ∈ wT := mem_wT (i := 779) (by decide +kernel) (by decide +kernel)
theorem ima_yX7_at : Cond.instanceMethod yX7_at ∈ wT := mem_wT (i := 781) (by decide +kernel) (by decide +kernel)
theorem co_yX7_at : Cond.code yX7_at cX7_at 2 (some .int) ∈ wT := mem_wT (i := 782) (by decide +kernel) (by decide +kernel)
theorem ml_X7_103 : Cond.methodLink RX7 103 yX7_kindBy ∈ wT := mem_wT (i := 783) (by decide +kernel) (by decide +kernel)
theorem sta_yX7_kindBy : Cond.static yX7_kindBy ∈ wT := mem_wT (i := 784) (by decide +kernel) (by decide +kernel)
theorem co_yX7_kindBy : Cond.code yX7_kindBy cX7_kindBy 1 (some .int) ∈ wT := mem_wT (i := 785) (by decide +kernel) (by decide +kernel)
theorem ml_X7_92 : Cond.methodLink RX7 92 yX7_isFigure ∈ wT := mem_wT (i := 786) (by decide +kernel) (by decide +kernel)
theorem ima_yX7_isFigure : Cond.instanceMethod yX7_isFigure ∈ wT := mem_wT (i := 788) (by decide +kernel) (by decide +kernel)
theorem co_yX7_isFigure : Cond.code yX7_isFigure cX7_isFigure 2 (some .boolean) ∈ wT := mem_wT (i := 789) (by decide +kernel) (by decide +kernel)
theorem ml_X7_106 : Cond.methodLink RX7 106 yX7_readWearers ∈ wT := mem_wT (i := 790) (by decide +kernel) (by decide +kernel)
theorem ima_yX7_readWearers : Cond.instanceMethod yX7_readWearers ∈ wT := mem_wT (i := 792) (by decide +kernel) (by decide +kernel)
theorem co_yX7_readWearers : Cond.code yX7_readWearers cX7_readWearers 3 (some .int) ∈ wT := mem_wT (i := 793) (by decide +kernel) (by decide +kernel)
theorem ml_L_30 : Cond.methodLink RL 30 yX7_shop ∈ wT := mem_wT (i := 794) (by decide +kernel) (by decide +kernel)
theorem ima_yX7_shop : Cond.instanceMethod yX7_shop ∈ wT := mem_wT (i := 795) (by decide +kernel) (by decide +kernel)
theorem sel_yX7_shop : Cond.selects RX7 yX7_shop yX7_shop ∈ wT := mem_wT (i := 796) (by decide +kernel) (by decide +kernel)
theorem co_yX7_shop : Cond.code yX7_shop cX7_shop 2 (some .int) ∈ wT := mem_wT (i := 797) (by decide +kernel) (by decide +kernel)
theorem ml_L_35 : Cond.methodLink RL 35 yX7_glove ∈ wT := mem_wT (i := 798) (by decide +kernel) (by decide +kernel)
theorem ima_yX7_glove : Cond.instanceMethod yX7_glove ∈ wT := mem_wT (i := 799) (by decide +kernel) (by decide +kernel)
theorem sel_yX7_glove : Cond.selects RX7 yX7_glove yX7_glove ∈ wT := mem_wT (i := 800) (by decide +kernel) (by decide +kernel)
theorem co_yX7_glove : Cond.code yX7_glove cX7_glove 3 (some .int) ∈ wT := mem_wT (i := 801) (by decide +kernel) (by decide +kernel)
theorem ml_X7_164 : Cond.methodLink RX7 164 yX7_isGlove ∈ wT := mem_wT (i := 802) (by decide +kernel) (by decide +kernel)
theorem ima_yX7_isGlove : Cond.instanceMethod yX7_isGlove ∈ wT := mem_wT (i := 804) (by decide +kernel) (by decide +kernel)
theorem co_yX7_isGlove : Cond.code yX7_isGlove cX7_isGlove 2 (some .boolean) ∈ wT := mem_wT (i := 805) (by decide +kernel) (by decide +kernel)
theorem ml_X7_167 : Cond.methodLink RX7 167 yX7_gloveNow ∈ wT := mem_wT (i := 806) (by decide +kernel) (by decide +kernel)
theorem ima_yX7_gloveNow : Cond.instanceMethod yX7_gloveNow ∈ wT := mem_wT (i := 808) (by decide +kernel) (by decide +kernel)
theorem co_yX7_gloveNow : Cond.code yX7_gloveNow cX7_gloveNow 3 (some .int) ∈ wT := mem_wT (i := 809) (by decide +kernel) (by decide +kernel)
theorem ml_X7_136 : Cond.methodLink RX7 136 yX7_temperBehind ∈ wT := mem_wT (i := 810) (by decide +kernel) (by decide +kernel)
theorem ima_yX7_temperBehind : Cond.instanceMethod yX7_temperBehind ∈ wT := mem_wT (i := 812) (by decide +kernel) (by decide +kernel)
theorem co_yX7_temperBehind : Cond.code yX7_temperBehind cX7_temperBehind 3 (some .int) ∈ wT := mem_wT (i := 813) (by decide +kernel) (by decide +kernel)
theorem ml_X7_128 : Cond.methodLink RX7 128 yX7_aged ∈ wT := mem_wT (i := 814) (by decide +kernel) (by decide +kernel)
theorem ima_yX7_aged : Cond.instanceMethod yX7_aged ∈ wT := mem_wT (i := 816) (by decide +kernel) (by decide +kernel)
theorem co_yX7_aged : Cond.code yX7_aged cX7_aged 3 (some .int) ∈ wT := mem_wT (i := 817) (by decide +kernel) (by decide +kernel)
theorem ml_X7_132 : Cond.methodLink RX7 132 yX7_temperBy ∈ wT := mem_wT (i := 818) (by decide +kernel) (by decide +kernel)
theorem ima_yX7_temperBy : Cond.instanceMethod yX7_temperBy ∈ wT := mem_wT (i := 820) (by decide +kernel) (by decide +kernel)
theorem co_yX7_temperBy : Cond.code yX7_temperBy cX7_temperBy 4 (some .int) ∈ wT := mem_wT (i := 821) (by decide +kernel) (by decide +kernel)
theorem ml_X7_155 : Cond.methodLink RX7 155 yX7_quarrels ∈ wT := mem_wT (i := 822) (by decide +kernel) (by decide +kernel)
theorem ima_yX7_quarrels : Cond.instanceMethod yX7_quarrels ∈ wT := mem_wT (i := 824) (by decide +kernel) (by decide +kernel)
theorem co_yX7_quarrels : Cond.code yX7_quarrels cX7_quarrels 4 (some .int) ∈ wT := mem_wT (i := 825) (by decide +kernel) (by decide +kernel)
theorem ml_X7_143 : Cond.methodLink RX7 143 yX7_quarrel ∈ wT := mem_wT (i := 826) (by decide +kernel) (by decide +kernel)
theorem ima_yX7_quarrel : Cond.instanceMethod yX7_quarrel ∈ wT := mem_wT (i := 828) (by decide +kernel) (by decide +kernel)
theorem co_yX7_quarrel : Cond.code yX7_quarrel cX7_quarrel 5 (some .boolean) ∈ wT := mem_wT (i := 829) (by decide +kernel) (by decide +kernel)
theorem ml_X7_158 : Cond.methodLink RX7 158 yX7_marksOf ∈ wT := mem_wT (i := 830) (by decide +kernel) (by decide +kernel)
theorem ima_yX7_marksOf : Cond.instanceMethod yX7_marksOf ∈ wT := mem_wT (i := 832) (by decide +kernel) (by decide +kernel)
theorem co_yX7_marksOf : Cond.code yX7_marksOf cX7_marksOf 6 (some .int) ∈ wT := mem_wT (i := 833) (by decide +kernel) (by decide +kernel)
theorem ml_X7_161 : Cond.methodLink RX7 161 yX7_feelFor ∈ wT := mem_wT (i := 834) (by decide +kernel) (by decide +kernel)
theorem ima_yX7_feelFor : Cond.instanceMethod yX7_feelFor ∈ wT := mem_wT (i := 836) (by decide +kernel) (by decide +kernel)
theorem co_yX7_feelFor : Cond.code yX7_feelFor cX7_feelFor 7 (some .int) ∈ wT := mem_wT (i := 837) (by decide +kernel) (by decide +kernel)
theorem k_X7_200 : Cond.constant RX7 200 (268435456) ∈ wT := mem_wT (i := 838) (by decide +kernel) (by decide +kernel)
theorem ml_X7_240 : Cond.methodLink RX7 240 yX7_worstBy ∈ wT := mem_wT (i := 839) (by decide +kernel) (by decide +kernel)
theorem ima_yX7_worstBy : Cond.instanceMethod yX7_worstBy ∈ wT := mem_wT (i := 841) (by decide +kernel) (by decide +kernel)
theorem co_yX7_worstBy : Cond.code yX7_worstBy cX7_worstBy 8 (some .int) ∈ wT := mem_wT (i := 842) (by decide +kernel) (by decide +kernel)
theorem ml_X7_139 : Cond.methodLink RX7 139 yX7_isIn ∈ wT := mem_wT (i := 843) (by decide +kernel) (by decide +kernel)
theorem sta_yX7_isIn : Cond.static yX7_isIn ∈ wT := mem_wT (i := 844) (by decide +kernel) (by decide +kernel)
theorem co_yX7_isIn : Cond.code yX7_isIn cX7_isIn 2 (some .boolean) ∈ wT := mem_wT (i := 845) (by decide +kernel) (by decide +kernel)
theorem ml_L_39 : Cond.methodLink RL 39 yX7_as ∈ wT := mem_wT (i := 846) (by decide +kernel) (by decide +kernel)
theorem ima_yX7_as : Cond.instanceMethod yX7_as ∈ wT := mem_wT (i := 847) (by decide +kernel) (by decide +kernel)
theorem sel_yX7_as : Cond.selects RX7 yX7_as yX7_as ∈ wT := mem_wT (i := 848) (by decide +kernel) (by decide +kernel)
theorem co_yX7_as : Cond.code yX7_as cX7_as 4 (some .int) ∈ wT := mem_wT (i := 849) (by decide +kernel) (by decide +kernel)
theorem ml_L_43 : Cond.methodLink RL 43 yX7_wearer ∈ wT := mem_wT (i := 850) (by decide +kernel) (by decide +kernel)
theorem ima_yX7_wearer : Cond.instanceMethod yX7_wearer ∈ wT := mem_wT (i := 851) (by decide +kernel) (by decide +kernel)
theorem sel_yX7_wearer : Cond.selects RX7 yX7_wearer yX7_wearer ∈ wT := mem_wT (i := 852) (by decide +kernel) (by decide +kernel)
theorem co_yX7_wearer : Cond.code yX7_wearer cX7_wearer 3 (some .int) ∈ wT := mem_wT (i := 853) (by decide +kernel) (by decide +kernel)
theorem ml_X7_182 : Cond.methodLink RX7 182 yX7_isWearer ∈ wT := mem_wT (i := 854) (by decide +kernel) (by decide +kernel)
theorem ima_yX7_isWearer : Cond.instanceMethod yX7_isWearer ∈ wT := mem_wT (i := 856) (by decide +kernel) (by decide +kernel)
theorem co_yX7_isWearer : Cond.code yX7_isWearer cX7_isWearer 2 (some .boolean) ∈ wT := mem_wT (i := 857) (by decide +kernel) (by decide +kernel)
theorem ml_X7_185 : Cond.methodLink RX7 185 yX7_wearerNow ∈ wT := mem_wT (i := 858) (by decide +kernel) (by decide +kernel)
theorem ima_yX7_wearerNow : Cond.instanceMethod yX7_wearerNow ∈ wT := mem_wT (i := 860) (by decide +kernel) (by decide +kernel)
theorem co_yX7_wearerNow : Cond.code yX7_wearerNow cX7_wearerNow 3 (some .int) ∈ wT := mem_wT (i := 861) (by decide +kernel) (by decide +kernel)
theorem ml_X7_170 : Cond.methodLink RX7 170 yX7_moodNow ∈ wT := mem_wT (i := 862) (by decide +kernel) (by decide +kernel)
theorem ima_yX7_moodNow : Cond.instanceMethod yX7_moodNow ∈ wT := mem_wT (i := 864) (by decide +kernel) (by decide +kernel)
theorem co_yX7_moodNow : Cond.code yX7_moodNow cX7_moodNow 2 (some .int) ∈ wT := mem_wT (i := 865) (by decide +kernel) (by decide +kernel)
theorem ml_X7_146 : Cond.methodLink RX7 146 yX7_wornBy ∈ wT := mem_wT (i := 866) (by decide +kernel) (by decide +kernel)
theorem ima_yX7_wornBy : Cond.instanceMethod yX7_wornBy ∈ wT := mem_wT (i := 868) (by decide +kernel) (by decide +kernel)
theorem co_yX7_wornBy : Cond.code yX7_wornBy cX7_wornBy 4 (some .int) ∈ wT := mem_wT (i := 869) (by decide +kernel) (by decide +kernel)
theorem ml_X7_149 : Cond.methodLink RX7 149 yX7_moodWith ∈ wT := mem_wT (i := 870) (by decide +kernel) (by decide +kernel)
theorem ima_yX7_moodWith : Cond.instanceMethod yX7_moodWith ∈ wT := mem_wT (i := 872) (by decide +kernel) (by decide +kernel)
theorem co_yX7_moodWith : Cond.code yX7_moodWith cX7_moodWith 8 (some .int) ∈ wT := mem_wT (i := 873) (by decide +kernel) (by decide +kernel)
theorem ml_X7_173 : Cond.methodLink RX7 173 yX7_onHand ∈ wT := mem_wT (i := 874) (by decide +kernel) (by decide +kernel)
theorem ima_yX7_onHand : Cond.instanceMethod yX7_onHand ∈ wT := mem_wT (i := 876) (by decide +kernel) (by decide +kernel)
theorem co_yX7_onHand : Cond.code yX7_onHand cX7_onHand 4 (some .int) ∈ wT := mem_wT (i := 877) (by decide +kernel) (by decide +kernel)
theorem ml_X7_152 : Cond.methodLink RX7 152 yX7_doesBy ∈ wT := mem_wT (i := 878) (by decide +kernel) (by decide +kernel)
theorem sta_yX7_doesBy : Cond.static yX7_doesBy ∈ wT := mem_wT (i := 879) (by decide +kernel) (by decide +kernel)
theorem co_yX7_doesBy : Cond.code yX7_doesBy cX7_doesBy 1 (some .int) ∈ wT := mem_wT (i := 880) (by decide +kernel) (by decide +kernel)
theorem ml_X7_176 : Cond.methodLink RX7 176 yX7_isWished ∈ wT := mem_wT (i := 881) (by decide +kernel) (by decide +kernel)
theorem ima_yX7_isWished : Cond.instanceMethod yX7_isWished ∈ wT := mem_wT (i := 883) (by decide +kernel) (by decide +kernel)
theorem co_yX7_isWished : Cond.code yX7_isWished cX7_isWished 3 (some .boolean) ∈ wT := mem_wT (i := 884) (by decide +kernel) (by decide +kernel)
theorem ml_X7_179 : Cond.methodLink RX7 179 yX7_changesNow ∈ wT := mem_wT (i := 885) (by decide +kernel) (by decide +kernel)
theorem ima_yX7_changesNow : Cond.instanceMethod yX7_changesNow ∈ wT := mem_wT (i := 887) (by decide +kernel) (by decide +kernel)
theorem co_yX7_changesNow : Cond.code yX7_changesNow cX7_changesNow 9 (some .int) ∈ wT := mem_wT (i := 888) (by decide +kernel) (by decide +kernel)
theorem ml_X7_194 : Cond.methodLink RX7 194 yX7_size ∈ wT := mem_wT (i := 889) (by decide +kernel) (by decide +kernel)
theorem sta_yX7_size : Cond.static yX7_size ∈ wT := mem_wT (i := 890) (by decide +kernel) (by decide +kernel)
theorem co_yX7_size : Cond.code yX7_size cX7_size 3 (some .int) ∈ wT := mem_wT (i := 891) (by decide +kernel) (by decide +kernel)
theorem ml_L_48 : Cond.methodLink RL 48 yX7_wear ∈ wT := mem_wT (i := 892) (by decide +kernel) (by decide +kernel)
theorem ima_yX7_wear : Cond.instanceMethod yX7_wear ∈ wT := mem_wT (i := 893) (by decide +kernel) (by decide +kernel)
theorem sel_yX7_wear : Cond.selects RX7 yX7_wear yX7_wear ∈ wT := mem_wT (i := 894) (by decide +kernel) (by decide +kernel)
theorem co_yX7_wear : Cond.code yX7_wear cX7_wear 4 (some .int) ∈ wT := mem_wT (i := 895) (by decide +kernel) (by decide +kernel)
theorem ml_L_52 : Cond.methodLink RL 52 yX7_off ∈ wT := mem_wT (i := 896) (by decide +kernel) (by decide +kernel)
theorem ima_yX7_off : Cond.instanceMethod yX7_off ∈ wT := mem_wT (i := 897) (by decide +kernel) (by decide +kernel)
theorem sel_yX7_off : Cond.selects RX7 yX7_off yX7_off ∈ wT := mem_wT (i := 898) (by decide +kernel) (by decide +kernel)
theorem co_yX7_off : Cond.code yX7_off cX7_off 3 (some .int) ∈ wT := mem_wT (i := 899) (by decide +kernel) (by decide +kernel)
theorem ml_L_56 : Cond.methodLink RL 56 yX7_hour ∈ wT := mem_wT (i := 900) (by decide +kernel) (by decide +kernel)
theorem ima_yX7_hour : Cond.instanceMethod yX7_hour ∈ wT := mem_wT (i := 901) (by decide +kernel) (by decide +kernel)
theorem sel_yX7_hour : Cond.selects RX7 yX7_hour yX7_hour ∈ wT := mem_wT (i := 902) (by decide +kernel) (by decide +kernel)
theorem co_yX7_hour : Cond.code yX7_hour cX7_hour 1 (some .int) ∈ wT := mem_wT (i := 903) (by decide +kernel) (by decide +kernel)
theorem ml_X7_188 : Cond.methodLink RX7 188 yX7_goBy ∈ wT := mem_wT (i := 904) (by decide +kernel) (by decide +kernel)
theorem ima_yX7_goBy : Cond.instanceMethod yX7_goBy ∈ wT := mem_wT (i := 906) (by decide +kernel) (by decide +kernel)
theorem co_yX7_goBy : Cond.code yX7_goBy cX7_goBy 2 none ∈ wT := mem_wT (i := 907) (by decide +kernel) (by decide +kernel)
theorem ml_L_60 : Cond.methodLink RL 60 yX7_book ∈ wT := mem_wT (i := 908) (by decide +kernel) (by decide +kernel)
theorem ima_yX7_book : Cond.instanceMethod yX7_book ∈ wT := mem_wT (i := 909) (by decide +kernel) (by decide +kernel)
theorem sel_yX7_book : Cond.selects RX7 yX7_book yX7_book ∈ wT := mem_wT (i := 910) (by decide +kernel) (by decide +kernel)
theorem co_yX7_book : Cond.code yX7_book cX7_book 4 (some .int) ∈ wT := mem_wT (i := 911) (by decide +kernel) (by decide +kernel)
theorem ml_L_64 : Cond.methodLink RL 64 yX7_wish ∈ wT := mem_wT (i := 912) (by decide +kernel) (by decide +kernel)
theorem ima_yX7_wish : Cond.instanceMethod yX7_wish ∈ wT := mem_wT (i := 913) (by decide +kernel) (by decide +kernel)
theorem sel_yX7_wish : Cond.selects RX7 yX7_wish yX7_wish ∈ wT := mem_wT (i := 914) (by decide +kernel) (by decide +kernel)
theorem co_yX7_wish : Cond.code yX7_wish cX7_wish 5 (some .int) ∈ wT := mem_wT (i := 915) (by decide +kernel) (by decide +kernel)
theorem ml_L_68 : Cond.methodLink RL 68 yX7_mood ∈ wT := mem_wT (i := 916) (by decide +kernel) (by decide +kernel)
theorem ima_yX7_mood : Cond.instanceMethod yX7_mood ∈ wT := mem_wT (i := 917) (by decide +kernel) (by decide +kernel)
theorem sel_yX7_mood : Cond.selects RX7 yX7_mood yX7_mood ∈ wT := mem_wT (i := 918) (by decide +kernel) (by decide +kernel)
theorem co_yX7_mood : Cond.code yX7_mood cX7_mood 3 (some .int) ∈ wT := mem_wT (i := 919) (by decide +kernel) (by decide +kernel)
theorem ml_L_72 : Cond.methodLink RL 72 yX7_dress ∈ wT := mem_wT (i := 920) (by decide +kernel) (by decide +kernel)
theorem ima_yX7_dress : Cond.instanceMethod yX7_dress ∈ wT := mem_wT (i := 921) (by decide +kernel) (by decide +kernel)
theorem sel_yX7_dress : Cond.selects RX7 yX7_dress yX7_dress ∈ wT := mem_wT (i := 922) (by decide +kernel) (by decide +kernel)
theorem co_yX7_dress : Cond.code yX7_dress cX7_dress 2 (some .int) ∈ wT := mem_wT (i := 923) (by decide +kernel) (by decide +kernel)
theorem ml_X7_218 : Cond.methodLink RX7 218 yX7_dressNow ∈ wT := mem_wT (i := 924) (by decide +kernel) (by decide +kernel)
theorem ima_yX7_dressNow : Cond.instanceMethod yX7_dressNow ∈ wT := mem_wT (i := 926) (by decide +kernel) (by decide +kernel)
theorem co_yX7_dressNow : Cond.code yX7_dressNow cX7_dressNow 6 (some .int) ∈ wT := mem_wT (i := 927) (by decide +kernel) (by decide +kernel)
theorem ml_X7_197 : Cond.methodLink RX7 197 yX7_begin ∈ wT := mem_wT (i := 928) (by decide +kernel) (by decide +kernel)
theorem ima_yX7_begin : Cond.instanceMethod yX7_begin ∈ wT := mem_wT (i := 930) (by decide +kernel) (by decide +kernel)
theorem co_yX7_begin : Cond.code yX7_begin cX7_begin 2 none ∈ wT := mem_wT (i := 931) (by decide +kernel) (by decide +kernel)
theorem ml_X7_201 : Cond.methodLink RX7 201 yX7_wishedBy ∈ wT := mem_wT (i := 932) (by decide +kernel) (by decide +kernel)
theorem ima_yX7_wishedBy : Cond.instanceMethod yX7_wishedBy ∈ wT := mem_wT (i := 934) (by decide +kernel) (by decide +kernel)
theorem co_yX7_wishedBy : Cond.code yX7_wishedBy cX7_wishedBy 4 (some .int) ∈ wT := mem_wT (i := 935) (by decide +kernel) (by decide +kernel)
theorem ml_X7_191 : Cond.methodLink RX7 191 yX7_givenTo ∈ wT := mem_wT (i := 936) (by decide +kernel) (by decide +kernel)
theorem ima_yX7_givenTo : Cond.instanceMethod yX7_givenTo ∈ wT := mem_wT (i := 938) (by decide +kernel) (by decide +kernel)
theorem co_yX7_givenTo : Cond.code yX7_givenTo cX7_givenTo 4 (some .int) ∈ wT := mem_wT (i := 939) (by decide +kernel) (by decide +kernel)
theorem ml_X7_204 : Cond.methodLink RX7 204 yX7_given ∈ wT := mem_wT (i := 940) (by decide +kernel) (by decide +kernel)
theorem ima_yX7_given : Cond.instanceMethod yX7_given ∈ wT := mem_wT (i := 942) (by decide +kernel) (by decide +kernel)
theorem co_yX7_given : Cond.code yX7_given cX7_given 3 (some .int) ∈ wT := mem_wT (i := 943) (by decide +kernel) (by decide +kernel)
theorem ml_X7_207 : Cond.methodLink RX7 207 yX7_keepRow ∈ wT := mem_wT (i := 944) (by decide +kernel) (by decide +kernel)
theorem ima_yX7_keepRow : Cond.instanceMethod yX7_keepRow ∈ wT := mem_wT (i := 946) (by decide +kernel) (by decide +kernel)
theorem co_yX7_keepRow : Cond.code yX7_keepRow cX7_keepRow 3 none ∈ wT := mem_wT (i := 947) (by decide +kernel) (by decide +kernel)
theorem ml_X7_211 : Cond.methodLink RX7 211 yX7_nextGiven ∈ wT := mem_wT (i := 948) (by decide +kernel) (by decide +kernel)
theorem ima_yX7_nextGiven : Cond.instanceMethod yX7_nextGiven ∈ wT := mem_wT (i := 950) (by decide +kernel) (by decide +kernel)
theorem co_yX7_nextGiven : Cond.code yX7_nextGiven cX7_nextGiven 2 (some .boolean) ∈ wT := mem_wT (i := 951) (by decide +kernel) (by decide +kernel)
theorem ml_L_76 : Cond.methodLink RL 76 yX7_boxes ∈ wT := mem_wT (i := 952) (by decide +kernel) (by decide +kernel)
theorem ima_yX7_boxes : Cond.instanceMethod yX7_boxes ∈ wT := mem_wT (i := 953) (by decide +kernel) (by decide +kernel)
theorem sel_yX7_boxes : Cond.selects RX7 yX7_boxes yX7_boxes ∈ wT := mem_wT (i := 954) (by decide +kernel) (by decide +kernel)
theorem co_yX7_boxes : Cond.code yX7_boxes cX7_boxes 2 (some .int) ∈ wT := mem_wT (i := 955) (by decide +kernel) (by decide +kernel)
theorem ml_X7_230 : Cond.methodLink RX7 230 yX7_boxesNow ∈ wT := mem_wT (i := 956) (by decide +kernel) (by decide +kernel)
theorem ima_yX7_boxesNow : Cond.instanceMethod yX7_boxesNow ∈ wT := mem_wT (i := 958) (by decide +kernel) (by decide +kernel)
theorem co_yX7_boxesNow : Cond.code yX7_boxesNow cX7_boxesNow 4 (some .int) ∈ wT := mem_wT (i := 959) (by decide +kernel) (by decide +kernel)
theorem ml_X7_221 : Cond.methodLink RX7 221 yX7_boxesAhead ∈ wT := mem_wT (i := 960) (by decide +kernel) (by decide +kernel)
theorem ima_yX7_boxesAhead : Cond.instanceMethod yX7_boxesAhead ∈ wT := mem_wT (i := 962) (by decide +kernel) (by decide +kernel)
theorem co_yX7_boxesAhead : Cond.code yX7_boxesAhead cX7_boxesAhead 4 (some .int) ∈ wT := mem_wT (i := 963) (by decide +kernel) (by decide +kernel)
theorem ml_X7_224 : Cond.methodLink RX7 224 yX7_areQuiet ∈ wT := mem_wT (i := 964) (by decide +kernel) (by decide +kernel)
theorem ima_yX7_areQuiet : Cond.instanceMethod yX7_areQuiet ∈ wT := mem_wT (i := 966) (by decide +kernel) (by decide +kernel)
theorem co_yX7_areQuiet : Cond.code yX7_areQuiet cX7_areQuiet 4 (some .boolean) ∈ wT := mem_wT (i := 967) (by decide +kernel) (by decide +kernel)
theorem ml_X7_227 : Cond.methodLink RX7 227 yX7_nextBoxes ∈ wT := mem_wT (i := 968) (by decide +kernel) (by decide +kernel)
theorem ima_yX7_nextBoxes : Cond.instanceMethod yX7_nextBoxes ∈ wT := mem_wT (i := 970) (by decide +kernel) (by decide +kernel)
theorem co_yX7_nextBoxes : Cond.code yX7_nextBoxes cX7_nextBoxes 2 (some .boolean) ∈ wT := mem_wT (i := 971) (by decide +kernel) (by decide +kernel)
theorem ml_L_81 : Cond.methodLink RL 81 yX7_odds ∈ wT := mem_wT (i := 972) (by decide +kernel) (by decide +kernel)
theorem ima_yX7_odds : Cond.instanceMethod yX7_odds ∈ wT := mem_wT (i := 973) (by decide +kernel) (by decide +kernel)
theorem sel_yX7_odds : Cond.selects RX7 yX7_odds yX7_odds ∈ wT := mem_wT (i := 974) (by decide +kernel) (by decide +kernel)
theorem co_yX7_odds : Cond.code yX7_odds cX7_odds 6 (some .int) ∈ wT := mem_wT (i := 975) (by decide +kernel) (by decide +kernel)
theorem ml_X7_236 : Cond.methodLink RX7 236 yX7_oddsNow ∈ wT := mem_wT (i := 976) (by decide +kernel) (by decide +kernel)
theorem ima_yX7_oddsNow : Cond.instanceMethod yX7_oddsNow ∈ wT := mem_wT (i := 978) (by decide +kernel) (by decide +kernel)
theorem co_yX7_oddsNow : Cond.code yX7_oddsNow cX7_oddsNow 11 (some .int) ∈ wT := mem_wT (i := 979) (by decide +kernel) (by decide +kernel)
theorem ml_X7_233 : Cond.methodLink RX7 233 yX7_divisor ∈ wT := mem_wT (i := 980) (by decide +kernel) (by decide +kernel)
theorem sta_yX7_divisor : Cond.static yX7_divisor ∈ wT := mem_wT (i := 981) (by decide +kernel) (by decide +kernel)
theorem co_yX7_divisor : Cond.code yX7_divisor cX7_divisor 5 (some .int) ∈ wT := mem_wT (i := 982) (by decide +kernel) (by decide +kernel)
theorem ml_L_85 : Cond.methodLink RL 85 yX7_see ∈ wT := mem_wT (i := 983) (by decide +kernel) (by decide +kernel)
theorem ima_yX7_see : Cond.instanceMethod yX7_see ∈ wT := mem_wT (i := 984) (by decide +kernel) (by decide +kernel)
theorem sel_yX7_see : Cond.selects RX7 yX7_see yX7_see ∈ wT := mem_wT (i := 985) (by decide +kernel) (by decide +kernel)
theorem co_yX7_see : Cond.code yX7_see cX7_see 4 (some .int) ∈ wT := mem_wT (i := 986) (by decide +kernel) (by decide +kernel)
theorem ml_L_89 : Cond.methodLink RL 89 yX7_forget ∈ wT := mem_wT (i := 987) (by decide +kernel) (by decide +kernel)
theorem ima_yX7_forget : Cond.instanceMethod yX7_forget ∈ wT := mem_wT (i := 988) (by decide +kernel) (by decide +kernel)
theorem sel_yX7_forget : Cond.selects RX7 yX7_forget yX7_forget ∈ wT := mem_wT (i := 989) (by decide +kernel) (by decide +kernel)
theorem co_yX7_forget : Cond.code yX7_forget cX7_forget 2 (some .int) ∈ wT := mem_wT (i := 990) (by decide +kernel) (by decide +kernel)
theorem ml_L_93 : Cond.methodLink RL 93 yX7_teas ∈ wT := mem_wT (i := 991) (by decide +kernel) (by decide +kernel)
theorem ima_yX7_teas : Cond.instanceMethod yX7_teas ∈ wT := mem_wT (i := 992) (by decide +kernel) (by decide +kernel)
theorem sel_yX7_teas : Cond.selects RX7 yX7_teas yX7_teas ∈ wT := mem_wT (i := 993) (by decide +kernel) (by decide +kernel)
theorem co_yX7_teas : Cond.code yX7_teas cX7_teas 4 (some .int) ∈ wT := mem_wT (i := 994) (by decide +kernel) (by decide +kernel)
theorem ml_X7_267 : Cond.methodLink RX7 267 yX7_teasNow ∈ wT := mem_wT (i := 995) (by decide +kernel) (by decide +kernel)
theorem ima_yX7_teasNow : Cond.instanceMethod yX7_teasNow ∈ wT := mem_wT (i := 997) (by decide +kernel) (by decide +kernel)
theorem co_yX7_teasNow : Cond.code yX7_teasNow cX7_teasNow 7 (some .int) ∈ wT := mem_wT (i := 998) (by decide +kernel) (by decide +kernel)
theorem ml_X7_258 : Cond.methodLink RX7 258 yX7_takeTea ∈ wT := mem_wT (i := 999) (by decide +kernel) (by decide +kernel)
theorem ima_yX7_takeTea : Cond.instanceMethod yX7_takeTea ∈ wT := mem_wT (i := 1001) (by decide +kernel) (by decide +kernel)
theorem co_yX7_takeTea : Cond.code yX7_takeTea cX7_takeTea 3 none ∈ wT := mem_wT (i := 1002) (by decide +kernel) (by decide +kernel)
theorem ml_X7_255 : Cond.methodLink RX7 255 yX7_draw ∈ wT := mem_wT (i := 1003) (by decide +kernel) (by decide +kernel)
theorem ima_yX7_draw : Cond.instanceMethod yX7_draw ∈ wT := mem_wT (i := 1005) (by decide +kernel) (by decide +kernel)
theorem co_yX7_draw : Cond.code yX7_draw cX7_draw 2 (some .int) ∈ wT := mem_wT (i := 1006) (by decide +kernel) (by decide +kernel)
theorem k_X7_243 : Cond.constantLong RX7 243 (1103515245) ∈ wT := mem_wT (i := 1007) (by decide +kernel) (by decide +kernel)
theorem k_X7_249 : Cond.constantLong RX7 249 (12345) ∈ wT := mem_wT (i := 1008) (by decide +kernel) (by decide +kernel)
theorem k_X7_251 : Cond.constantLong RX7 251 (2147483647) ∈ wT := mem_wT (i := 1009) (by decide +kernel) (by decide +kernel)
theorem k_X7_253 : Cond.constantLong RX7 253 (65536) ∈ wT := mem_wT (i := 1010) (by decide +kernel) (by decide +kernel)
theorem ml_X7_261 : Cond.methodLink RX7 261 yX7_butting ∈ wT := mem_wT (i := 1011) (by decide +kernel) (by decide +kernel)
theorem ima_yX7_butting : Cond.instanceMethod yX7_butting ∈ wT := mem_wT (i := 1013) (by decide +kernel) (by decide +kernel)
theorem co_yX7_butting : Cond.code yX7_butting cX7_butting 3 (some .int) ∈ wT := mem_wT (i := 1014) (by decide +kernel) (by decide +kernel)
theorem ml_X7_264 : Cond.methodLink RX7 264 yX7_onHands ∈ wT := mem_wT (i := 1015) (by decide +kernel) (by decide +kernel)
theorem ima_yX7_onHands : Cond.instanceMethod yX7_onHands ∈ wT := mem_wT (i := 1017) (by decide +kernel) (by decide +kernel)
theorem co_yX7_onHands : Cond.code yX7_onHands cX7_onHands 3 (some .int) ∈ wT := mem_wT (i := 1018) (by decide +kernel) (by decide +kernel)
theorem ml_L_97 : Cond.methodLink RL 97 yX7_image ∈ wT := mem_wT (i := 1019) (by decide +kernel) (by decide +kernel)
theorem ima_yX7_image : Cond.instanceMethod yX7_image ∈ wT := mem_wT (i := 1020) (by decide +kernel) (by decide +kernel)
theorem sel_yX7_image : Cond.selects RX7 yX7_image yX7_image ∈ wT := mem_wT (i := 1021) (by decide +kernel) (by decide +kernel)
theorem co_yX7_image : Cond.code yX7_image cX7_image 2 (some .int) ∈ wT := mem_wT (i := 1022) (by decide +kernel) (by decide +kernel)
theorem ml_L_101 : Cond.methodLink RL 101 yX7_restore ∈ wT := mem_wT (i := 1023) (by decide +kernel) (by decide +kernel)
theorem ima_yX7_restore : Cond.instanceMethod yX7_restore ∈ wT := mem_wT (i := 1024) (by decide +kernel) (by decide +kernel)
theorem sel_yX7_restore : Cond.selects RX7 yX7_restore yX7_restore ∈ wT := mem_wT (i := 1025) (by decide +kernel) (by decide +kernel)
theorem co_yX7_restore : Cond.code yX7_restore cX7_restore 2 (some .int) ∈ wT := mem_wT (i := 1026) (by decide +kernel) (by decide +kernel)
theorem ml_L_105 : Cond.methodLink RL 105 yX7_count ∈ wT := mem_wT (i := 1027) (by decide +kernel) (by decide +kernel)
theorem ima_yX7_count : Cond.instanceMethod yX7_count ∈ wT := mem_wT (i := 1028) (by decide +kernel) (by decide +kernel)
theorem sel_yX7_count : Cond.selects RX7 yX7_count yX7_count ∈ wT := mem_wT (i := 1029) (by decide +kernel) (by decide +kernel)
theorem co_yX7_count : Cond.code yX7_count cX7_count 2 (some .int) ∈ wT := mem_wT (i := 1030) (by decide +kernel) (by decide +kernel)
theorem ml_X7_289 : Cond.methodLink RX7 289 yX7_howMany ∈ wT := mem_wT (i := 1031) (by decide +kernel) (by decide +kernel)
theorem ima_yX7_howMany : Cond.instanceMethod yX7_howMany ∈ wT := mem_wT (i := 1033) (by decide +kernel) (by decide +kernel)
theorem co_yX7_howMany : Cond.code yX7_howMany cX7_howMany 2 (some .int) ∈ wT := mem_wT (i := 1034) (by decide +kernel) (by decide +kernel)
theorem ml_X7_282 : Cond.methodLink RX7 282 yX7_ofWearers ∈ wT := mem_wT (i := 1035) (by decide +kernel) (by decide +kernel)
theorem ima_yX7_ofWearers : Cond.instanceMethod yX7_ofWearers ∈ wT := mem_wT (i := 1037) (by decide +kernel) (by decide +kernel)
theorem co_yX7_ofWearers : Cond.code yX7_ofWearers cX7_ofWearers 5 (some .int) ∈ wT := mem_wT (i := 1038) (by decide +kernel) (by decide +kernel)
theorem ml_X7_285 : Cond.methodLink RX7 285 yX7_ofGloves ∈ wT := mem_wT (i := 1039) (by decide +kernel) (by decide +kernel)
theorem ima_yX7_ofGloves : Cond.instanceMethod yX7_ofGloves ∈ wT := mem_wT (i := 1041) (by decide +kernel) (by decide +kernel)
theorem co_yX7_ofGloves : Cond.code yX7_ofGloves cX7_ofGloves 4 (some .int) ∈ wT := mem_wT (i := 1042) (by decide +kernel) (by decide +kernel)
theorem ml_L_110 : Cond.methodLink RL 110 yX7_digest ∈ wT := mem_wT (i := 1043) (by decide +kernel) (by decide +kernel)
theorem ima_yX7_digest : Cond.instanceMethod yX7_digest ∈ wT := mem_wT (i := 1044) (by decide +kernel) (by decide +kernel)
theorem sel_yX7_digest : Cond.selects RX7 yX7_digest yX7_digest ∈ wT := mem_wT (i := 1045) (by decide +kernel) (by decide +kernel)
theorem co_yX7_digest : Cond.code yX7_digest cX7_digest 3 (some .long) ∈ wT := mem_wT (i := 1046) (by decide +kernel) (by decide +kernel)
theorem k_X7_301 : Cond.constantLong RX7 301 (1237) ∈ wT := mem_wT (i := 1047) (by decide +kernel) (by decide +kernel)
theorem ml_X7_297 : Cond.methodLink RX7 297 yX7_mix ∈ wT := mem_wT (i := 1048) (by decide +kernel) (by decide +kernel)
theorem ima_yX7_mix : Cond.instanceMethod yX7_mix ∈ wT := mem_wT (i := 1050) (by decide +kernel) (by decide +kernel)
theorem co_yX7_mix : Cond.code yX7_mix cX7_mix 3 none ∈ wT := mem_wT (i := 1051) (by decide +kernel) (by decide +kernel)
theorem k_X7_292 : Cond.constantLong RX7 292 (31) ∈ wT := mem_wT (i := 1052) (by decide +kernel) (by decide +kernel)
theorem ml_X7_303 : Cond.methodLink RX7 303 yX7_mixWearer ∈ wT := mem_wT (i := 1053) (by decide +kernel) (by decide +kernel)
theorem ima_yX7_mixWearer : Cond.instanceMethod yX7_mixWearer ∈ wT := mem_wT (i := 1055) (by decide +kernel) (by decide +kernel)
theorem co_yX7_mixWearer : Cond.code yX7_mixWearer cX7_mixWearer 3 none ∈ wT := mem_wT (i := 1056) (by decide +kernel) (by decide +kernel)
theorem inX0 : ∀ w ∈ wsX00, w ∈ wT := by
  have h : wsX00 = ([218, 220] : List Nat).filterMap (fun i => lw_tbl[i]?) := by decide +kernel
  have h2 : wsX00.all goodWord = true := by decide +kernel
  intro w hw
  have h3 := List.all_eq_true.mp h2 w hw
  rw [h] at hw
  obtain ⟨i, -, hi⟩ := List.mem_filterMap.mp hw
  exact mem_wT hi h3
theorem inX1 : ∀ w ∈ wsX10, w ∈ wT := by
  have h : wsX10 = ([231] : List Nat).filterMap (fun i => lw_tbl[i]?) := by decide +kernel
  have h2 : wsX10.all goodWord = true := by decide +kernel
  intro w hw
  have h3 := List.all_eq_true.mp h2 w hw
  rw [h] at hw
  obtain ⟨i, -, hi⟩ := List.mem_filterMap.mp hw
  exact mem_wT hi h3
theorem inX2 : ∀ w ∈ wsX20, w ∈ wT := by
  have h : wsX20 = ([171, 173, 175, 177, 179, 181] : List Nat).filterMap (fun i => lw_tbl[i]?) := by decide +kernel
  have h2 : wsX20.all goodWord = true := by decide +kernel
  intro w hw
  have h3 := List.all_eq_true.mp h2 w hw
  rw [h] at hw
  obtain ⟨i, -, hi⟩ := List.mem_filterMap.mp hw
  exact mem_wT hi h3
theorem inX3 : ∀ w ∈ wsX30, w ∈ wT := by
  have h : wsX30 = ([197, 199, 201, 203, 205] : List Nat).filterMap (fun i => lw_tbl[i]?) := by decide +kernel
  have h2 : wsX30.all goodWord = true := by decide +kernel
  intro w hw
  have h3 := List.all_eq_true.mp h2 w hw
  rw [h] at hw
  obtain ⟨i, -, hi⟩ := List.mem_filterMap.mp hw
  exact mem_wT hi h3
theorem inX4 : ∀ w ∈ wsX40, w ∈ wT := by
  have h : wsX40 = ([79, 81] : List Nat).filterMap (fun i => lw_tbl[i]?) := by decide +kernel
  have h2 : wsX40.all goodWord = true := by decide +kernel
  intro w hw
  have h3 := List.all_eq_true.mp h2 w hw
  rw [h] at hw
  obtain ⟨i, -, hi⟩ := List.mem_filterMap.mp hw
  exact mem_wT hi h3
theorem inX5 : ∀ w ∈ wsX50, w ∈ wT := by
  have h : wsX50 = ([125, 127, 129, 131, 133, 135, 137, 139, 141, 143, 145, 147, 149, 151, 153] : List Nat).filterMap (fun i => lw_tbl[i]?) := by decide +kernel
  have h2 : wsX50.all goodWord = true := by decide +kernel
  intro w hw
  have h3 := List.all_eq_true.mp h2 w hw
  rw [h] at hw
  obtain ⟨i, -, hi⟩ := List.mem_filterMap.mp hw
  exact mem_wT hi h3
theorem inX6 : ∀ w ∈ wsX60, w ∈ wT := by
  have h : wsX60 = ([245, 247, 249, 251, 253, 255, 257, 259, 261, 263, 265] : List Nat).filterMap (fun i => lw_tbl[i]?) := by decide +kernel
  have h2 : wsX60.all goodWord = true := by decide +kernel
  intro w hw
  have h3 := List.all_eq_true.mp h2 w hw
  rw [h] at hw
  obtain ⟨i, -, hi⟩ := List.mem_filterMap.mp hw
  exact mem_wT hi h3
theorem inX7 : ∀ w ∈ wsX70, w ∈ wT := by
  have h : wsX70 = ([682, 684, 686, 688, 690, 692, 694, 696, 698, 700, 702, 704, 706, 708, 710, 712, 714, 716, 718, 720, 722, 724, 726, 728, 730, 732, 734, 736, 738, 740, 742, 744, 746, 748, 750, 752, 754, 756] : List Nat).filterMap (fun i => lw_tbl[i]?) := by decide +kernel
  have h2 : wsX70.all goodWord = true := by decide +kernel
  intro w hw
  have h3 := List.all_eq_true.mp h2 w hw
  rw [h] at hw
  obtain ⟨i, -, hi⟩ := List.mem_filterMap.mp hw
  exact mem_wT hi h3
def nestL : List (String × Nat × MethodName × String) := [(RX6, 11, yX4_init, "KidGloves"), (RX6, 18, yX5_init, "KidGloves"), (RX6, 31, yX2_init, "KidGloves"), (RX6, 38, yX3_init, "KidGloves"), (RX6, 45, yX0_init, "KidGloves"), (RX6, 52, yX1_init, "KidGloves"), (RX4, 19, yX6_put, "KidGloves"), (RX4, 23, yX6_at, "KidGloves"), (RX4, 49, yX6_within, "KidGloves"), (RX4, 41, yX6_kindOf, "KidGloves"), (RX5, 72, yX6_at, "KidGloves"), (RX5, 76, yX6_ageOf, "KidGloves"), (RX5, 80, yX6_temperOf, "KidGloves"), (RX5, 93, yX6_hasBit, "KidGloves"), (RX5, 68, yX6_put, "KidGloves"), (RX5, 109, yX6_doing, "KidGloves"), (RX2, 67, yX6_put, "KidGloves"), (RX2, 75, yX6_at, "KidGloves"), (RX2, 79, yX6_copyRow, "KidGloves"), (RX3, 42, yX6_put, "KidGloves"), (RX3, 50, yX6_copyRow, "KidGloves"), (RX3, 54, yX6_at, "KidGloves"), (RX0, 21, yX6_put, "KidGloves"), (RX0, 29, yX6_at, "KidGloves"), (RX5, 64, yX6_copyRow, "KidGloves")]
theorem mn_X6_11 : (RX6, 11, yX4_init, "KidGloves") ∈ nestL := List.mem_of_getElem? (i := 0) rfl
theorem mn_X6_18 : (RX6, 18, yX5_init, "KidGloves") ∈ nestL := List.mem_of_getElem? (i := 1) rfl
theorem mn_X6_31 : (RX6, 31, yX2_init, "KidGloves") ∈ nestL := List.mem_of_getElem? (i := 2) rfl
theorem mn_X6_38 : (RX6, 38, yX3_init, "KidGloves") ∈ nestL := List.mem_of_getElem? (i := 3) rfl
theorem mn_X6_45 : (RX6, 45, yX0_init, "KidGloves") ∈ nestL := List.mem_of_getElem? (i := 4) rfl
theorem mn_X6_52 : (RX6, 52, yX1_init, "KidGloves") ∈ nestL := List.mem_of_getElem? (i := 5) rfl
theorem mn_X4_19 : (RX4, 19, yX6_put, "KidGloves") ∈ nestL := List.mem_of_getElem? (i := 6) rfl
theorem mn_X4_23 : (RX4, 23, yX6_at, "KidGloves") ∈ nestL := List.mem_of_getElem? (i := 7) rfl
theorem mn_X4_49 : (RX4, 49, yX6_within, "KidGloves") ∈ nestL := List.mem_of_getElem? (i := 8) rfl
theorem mn_X4_41 : (RX4, 41, yX6_kindOf, "KidGloves") ∈ nestL := List.mem_of_getElem? (i := 9) rfl
theorem mn_X5_72 : (RX5, 72, yX6_at, "KidGloves") ∈ nestL := List.mem_of_getElem? (i := 10) rfl
theorem mn_X5_76 : (RX5, 76, yX6_ageOf, "KidGloves") ∈ nestL := List.mem_of_getElem? (i := 11) rfl
theorem mn_X5_80 : (RX5, 80, yX6_temperOf, "KidGloves") ∈ nestL := List.mem_of_getElem? (i := 12) rfl
theorem mn_X5_93 : (RX5, 93, yX6_hasBit, "KidGloves") ∈ nestL := List.mem_of_getElem? (i := 13) rfl
theorem mn_X5_68 : (RX5, 68, yX6_put, "KidGloves") ∈ nestL := List.mem_of_getElem? (i := 14) rfl
theorem mn_X5_109 : (RX5, 109, yX6_doing, "KidGloves") ∈ nestL := List.mem_of_getElem? (i := 15) rfl
theorem mn_X2_67 : (RX2, 67, yX6_put, "KidGloves") ∈ nestL := List.mem_of_getElem? (i := 16) rfl
theorem mn_X2_75 : (RX2, 75, yX6_at, "KidGloves") ∈ nestL := List.mem_of_getElem? (i := 17) rfl
theorem mn_X2_79 : (RX2, 79, yX6_copyRow, "KidGloves") ∈ nestL := List.mem_of_getElem? (i := 18) rfl
theorem mn_X3_42 : (RX3, 42, yX6_put, "KidGloves") ∈ nestL := List.mem_of_getElem? (i := 19) rfl
theorem mn_X3_50 : (RX3, 50, yX6_copyRow, "KidGloves") ∈ nestL := List.mem_of_getElem? (i := 20) rfl
theorem mn_X3_54 : (RX3, 54, yX6_at, "KidGloves") ∈ nestL := List.mem_of_getElem? (i := 21) rfl
theorem mn_X0_21 : (RX0, 21, yX6_put, "KidGloves") ∈ nestL := List.mem_of_getElem? (i := 22) rfl
theorem mn_X0_29 : (RX0, 29, yX6_at, "KidGloves") ∈ nestL := List.mem_of_getElem? (i := 23) rfl
theorem mn_X5_64 : (RX5, 64, yX6_copyRow, "KidGloves") ∈ nestL := List.mem_of_getElem? (i := 24) rfl
theorem nest_in : ∀ q ∈ nestL, Cond.methodLinkNest q.1 q.2.1 q.2.2.1 q.2.2.2 ∈ lw_tbl := by
  have h : nestL.map (fun q => Cond.methodLinkNest q.1 q.2.1 q.2.2.1 q.2.2.2) = ([71, 87, 158, 186, 210, 225, 279, 298, 307, 311, 347, 348, 351, 379, 382, 427, 502, 510, 511, 528, 532, 533, 543, 544, 568] : List Nat).filterMap (fun i => lw_tbl[i]?) := by decide +kernel
  intro q hq
  have h1 : Cond.methodLinkNest q.1 q.2.1 q.2.2.1 q.2.2.2 ∈ nestL.map (fun q => Cond.methodLinkNest q.1 q.2.1 q.2.2.1 q.2.2.2) := List.mem_map.mpr ⟨q, hq, rfl⟩
  rw [h] at h1
  obtain ⟨i, -, hi⟩ := List.mem_filterMap.mp h1
  exact List.mem_of_getElem? hi
end
section
/-! the abstract machine: a heap of whole numbers, cells by number -/
abbrev Hp : Type := Nat → Int → Int
abbrev Gw : Type := va_G × ClassId × ClassId × (Nat → Nat)
abbrev MI : Type := MethodName × ByteArray × Nat × Option FieldType
abbrev Lo : Type := List (Option Value)
def vi (x : Int) : Value := .int (Int32.ofInt x)
def vl (x : Int) : Value := .long (Int64.ofInt x)
abbrev vr (c : Nat) : Value := .ref c
def ch (c k : Nat) : Nat := 16 * c + 1 + k
def hset (h : Hp) (c : Nat) (k v : Int) : Hp := fun c' k' => if c' = c ∧ k' = k then v else h c' k'
theorem hset_eq (h : Hp) (c : Nat) (k v : Int) : hset h c k v c k = v := by simp [hset]
theorem hset_nc {h : Hp} {c c' : Nat} {k k' v : Int} (e : c' ≠ c) : hset h c k v c' k' = h c' k' := by simp [hset, e]
theorem hset_nk {h : Hp} {c c' : Nat} {k k' v : Int} (e : k' ≠ k) : hset h c k v c' k' = h c' k' := by simp [hset, e]
def xjCl : List vw_C := [(RX0, TX0, 2), (RX1, TX1, 1), (RX2, TX2, 6), (RX3, TX3, 5), (RX4, TX4, 2), (RX5, TX5, 15), (RX6, TX6, 11), (RX7, TX7, 38)]
/-- fields by class: 0 a reference, 1 an int, 2 a long, 3 a boolean -/
def ftT : List (List Nat) := [[0, 1], [1], [0, 0, 0, 0, 1, 1], [0, 0, 0, 0, 1], [0, 1], [0, 0, 0, 0, 0, 0, 0, 0, 0, 0, 0, 1, 1, 1, 1], [0, 0, 0, 0, 0, 0, 0, 0, 3, 1, 1], [1, 1, 1, 0, 0, 0, 0, 0, 0, 1, 1, 1, 0, 0, 0, 1, 0, 3, 1, 1, 0, 0, 2, 0, 0, 3, 1, 1, 1, 0, 0, 0, 0, 0, 0, 0, 0, 2]]
def ftag (ci k : Nat) : Nat := ((ftT[ci]?.getD [])[k]?).getD 0
def nF (ci : Nat) : Nat := (ftT[ci]?.getD []).length
/-- cells: 0 an object of a class, 1 an int array of a length, 2 a byte array -/
def kdT : List (Nat × Nat × Nat) := [(0, 0, 6), (1, 0, 4), (2, 0, 5), (3, 0, 5), (4, 0, 5), (5, 0, 2), (6, 0, 3), (7, 0, 0), (8, 0, 1), (9, 0, 7), (17, 1, 26), (33, 1, 6), (34, 1, 6), (35, 1, 6), (36, 1, 6), (37, 1, 6), (38, 1, 3), (39, 1, 3), (40, 1, 8), (41, 1, 8), (42, 1, 8), (43, 1, 10), (49, 1, 6), (50, 1, 6), (51, 1, 6), (52, 1, 6), (53, 1, 6), (54, 1, 3), (55, 1, 3), (56, 1, 8), (57, 1, 8), (58, 1, 8), (59, 1, 10), (65, 1, 6), (66, 1, 6), (67, 1, 6), (68, 1, 6), (69, 1, 6), (70, 1, 3), (71, 1, 3), (72, 1, 8), (73, 1, 8), (74, 1, 8), (75, 1, 10), (81, 1, 192), (82, 1, 3), (83, 1, 6), (84, 1, 6), (97, 1, 6), (98, 1, 6), (99, 1, 6), (100, 1, 6), (113, 1, 9), (148, 1, 6), (149, 1, 6), (150, 1, 6), (151, 1, 6), (152, 1, 3), (153, 1, 3), (157, 1, 8), (158, 1, 8), (159, 1, 8), (161, 2, 26), (165, 1, 6), (166, 1, 6), (168, 1, 6), (169, 1, 6), (174, 1, 6), (175, 1, 6), (176, 1, 6), (177, 1, 3), (178, 1, 3), (179, 1, 8), (180, 1, 8), (181, 1, 8)]
def kd (c : Nat) : Nat × Nat := (kdT.lookup c).getD (9, 0)
def cellsL : List Nat := kdT.map (·.1)
def fv (G : Gw) (h : Hp) (c ci k : Nat) : Value := match ftag ci k with
  | 0 => .ref (G.2.2.2 (ch c k))
  | 2 => vl (h c k)
  | _ => vi (h c k)
def ent (G : Gw) (h : Hp) (c : Nat) : va_E := match (kd c).1 with
  | 0 => .inr ((kd c).2, (List.range (nF (kd c).2)).map (fv G h c (kd c).2))
  | 1 => .inl (G.2.1, (kd c).2, .inl fun i => Int32.ofInt (h c i))
  | _ => .inl (G.2.2.1, (kd c).2, .inl fun i => Int32.ofInt (h c i))
def WS (G : Gw) (h : Hp) : va_W := cellsL.map fun c => (G.2.2.2 c, ent G h c)
theorem cells_nd : cellsL.Nodup := by decide +kernel
theorem kd_look : ∀ (l : List (Nat × Nat × Nat)) (c : Nat) (p : Nat × Nat), l.lookup c = some p → c ∈ l.map (·.1)
  | [], c, p, h => by simp at h
  | (a, b) :: l, c, p, h => by
    rw [List.lookup_cons] at h
    by_cases e : c = a
    · subst e; simp
    · have : (c == a) = false := by simpa using e
      rw [this] at h
      simp only [List.map_cons, List.mem_cons]
      exact Or.inr (kd_look l c p h)
theorem kd_mem {c t i : Nat} (h : kd c = (t, i)) (ht : t ≠ 9) : c ∈ cellsL := by
  unfold kd at h
  cases hl : kdT.lookup c with
  | none =>
    rw [hl] at h
    simp only [Option.getD_none, Prod.mk.injEq] at h
    exact absurd h.1.symm ht
  | some p => exact kd_look _ _ _ hl
theorem ent_congr {G : Gw} {h h' : Hp} {c : Nat} (e : ∀ k, h' c k = h c k) : ent G h' c = ent G h c := by
  have e2 : h' c = h c := funext e
  unfold ent fv
  rw [e2]
theorem WS_at {G : Gw} {h : Hp} {c : Nat} (hc : c ∈ cellsL) : ∃ q0 : Nat, cellsL[q0]? = some c ∧ (WS G h)[q0]? = some (G.2.2.2 c, ent G h c) := by
  obtain ⟨q, hq⟩ := List.getElem?_of_mem hc
  exact ⟨q, hq, by simp [WS, hq]⟩
theorem WS_set {G : Gw} {h h' : Hp} {c q : Nat} (hq : cellsL[q]? = some c) (hh : ∀ c' k, c' ≠ c → h' c' k = h c' k) : (WS G h).set q (G.2.2.2 c, ent G h' c) = WS G h' := by
  apply List.ext_getElem?
  intro j
  have hl : q < cellsL.length := (List.getElem?_eq_some_iff.mp hq).1
  by_cases hj : q = j
  · subst hj
    rw [List.getElem?_set_self (by simpa [WS] using hl)]
    simp [WS, hq]
  · rw [List.getElem?_set_ne hj]
    simp only [WS, List.getElem?_map]
    cases hc : cellsL[j]? with
    | none => rfl
    | some c' =>
      have hne : c' ≠ c := fun e => hj ((List.getElem?_inj hl cells_nd).mp (by rw [hq, hc, e]))
      simp only [Option.map_some]
      rw [ent_congr (fun k => hh c' k hne)]
def Wd (G : Gw) (s : State) (A : Nat → Prop) : Prop := va_K G.1 xjCl [(G.2.1, .int), (G.2.2.1, .byte)] s ∧ (∀ c ∈ cellsL, ∀ c' ∈ cellsL, G.2.2.2 c = G.2.2.2 c' → c = c') ∧ ∀ c ∈ cellsL, A (G.2.2.2 c)
theorem Wd_D {G : Gw} {s : State} {A : Nat → Prop} (w : Wd G s A) (h : Hp) : va_D A (WS G h) := by
  have key : ∀ (k : Nat) (q : Nat × va_E), (WS G h)[k]? = some q → ∃ c, cellsL[k]? = some c ∧ q.1 = G.2.2.2 c := by
    intro k q hk
    simp only [WS, List.getElem?_map] at hk
    cases hc : cellsL[k]? with
    | none => rw [hc] at hk; simp at hk
    | some c =>
      rw [hc] at hk
      simp only [Option.map_some, Option.some.injEq] at hk
      exact ⟨c, rfl, by rw [← hk]⟩
  refine ⟨fun i j p q hi hj e => ?_, fun k q hk => ?_⟩
  · obtain ⟨c, h1, h2⟩ := key i p hi
    obtain ⟨c', h3, h4⟩ := key j q hj
    have hcc : c = c' := w.2.1 c (List.mem_of_getElem? h1) c' (List.mem_of_getElem? h3) (by rw [← h2, ← h4, e])
    subst hcc
    exact (List.getElem?_inj (List.getElem?_eq_some_iff.mp h1).1 cells_nd).mp (by rw [h1, h3])
  · obtain ⟨c, h1, h2⟩ := key k q hk
    rw [h2]
    exact w.2.2 c (List.mem_of_getElem? h1)
def cv (G : Gw) (v : Value) : Value := match v with
  | .ref c => .ref (G.2.2.2 c)
  | v => v
theorem cv_cat (G : Gw) (v : Value) : (cv G v).category = v.category := by cases v <;> rfl
def lp (G : Gw) : Nat → Lo → List (Nat × Value)
  | _, [] => []
  | i, none :: t => lp G (i + 1) t
  | i, some v :: t => (i, cv G v) :: lp G (i + 1) t
theorem lp_mem {G : Gw} : ∀ (lo : Lo) (i : Nat) (q : Nat × Value), q ∈ lp G i lo ↔ ∃ (n : Nat) (v : Value), lo[n]? = some (some v) ∧ q = (i + n, cv G v)
  | [], i, q => by simp [lp]
  | none :: t, i, q => by
    rw [show lp G i (none :: t) = lp G (i + 1) t from rfl, lp_mem t (i + 1) q]
    constructor
    · rintro ⟨n, v, h1, h2⟩
      exact ⟨n + 1, v, by simpa using h1, by rw [h2]; congr 1; omega⟩
    · rintro ⟨n, v, h1, h2⟩
      cases n with
      | zero => simp at h1
      | succ n => exact ⟨n, v, by simpa using h1, by rw [h2]; congr 1; omega⟩
  | some w :: t, i, q => by
    rw [show lp G i (some w :: t) = (i, cv G w) :: lp G (i + 1) t from rfl, List.mem_cons, lp_mem t (i + 1) q]
    constructor
    · rintro (h | ⟨n, v, h1, h2⟩)
      · exact ⟨0, w, by simp, by rw [h]; rfl⟩
      · exact ⟨n + 1, v, by simpa using h1, by rw [h2]; congr 1; omega⟩
    · rintro ⟨n, v, h1, h2⟩
      cases n with
      | zero =>
        simp only [List.getElem?_cons_zero, Option.some.injEq] at h1
        subst h1
        exact Or.inl h2
      | succ n => exact Or.inr ⟨n, v, by simpa using h1, by rw [h2]; congr 1; omega⟩
abbrev LH (G : Gw) (ls : Array Slot) (nL : Nat) (lo : Lo) : Prop := lv_has ls nL (lp G 0 lo)
theorem LH_at {G : Gw} {ls : Array Slot} {nL i : Nat} {lo : Lo} {v : Value} (hl : LH G ls nL lo) (h : lo[i]? = some (some v)) : ls[i]? = some (.val (cv G v)) := by
  have := hl.2.2 (i, cv G v) ((lp_mem lo 0 _).mpr ⟨i, v, h, by simp⟩)
  exact this
theorem LH_mono {G : Gw} {ls : Array Slot} {nL : Nat} {l : List (Nat × Value)} {lo : Lo} (hl : lv_has ls nL l) (h : ∀ q ∈ lp G 0 lo, q ∈ l) : LH G ls nL lo := ⟨hl.1, hl.2.1, fun q hq => hl.2.2 q (h q hq)⟩
def noL (lo : Lo) (i : Nat) : Bool := match i with
  | 0 => true
  | j + 1 => match lo[j]? with
    | some (some v) => v.category == 1
    | _ => true
theorem noL_at {lo : Lo} {n : Nat} {v : Value} (h : noL lo (n + 1) = true) (hn : lo[n]? = some (some v)) : v.category = 1 := by
  simp only [noL, hn] at h
  exact beq_iff_eq.mp h
theorem lp_set1 {G : Gw} {lo : Lo} {i : Nat} {v : Value} (hn : noL lo i = true) : ∀ q ∈ lp G 0 (lo.set i (some v)), q ∈ (i, cv G v) :: (lp G 0 lo).filter (fun q => !(q.1 == i) && !(q.1 + 1 == i && q.2.category == 2)) := by
  intro q hq
  obtain ⟨n, w, h1, rfl⟩ := (lp_mem _ _ _).mp hq
  by_cases e : i = n
  · subst e
    have hl : i < lo.length := by
      have := (List.getElem?_eq_some_iff.mp h1).1
      simpa using this
    rw [List.getElem?_set_self hl] at h1
    simp only [Option.some.injEq] at h1
    subst h1
    simp
  · rw [List.getElem?_set_ne e] at h1
    refine List.mem_cons_of_mem _ (List.mem_filter.mpr ⟨(lp_mem _ _ _).mpr ⟨n, w, h1, rfl⟩, ?_⟩)
    simp only [Nat.zero_add]
    have e1 : (n == i) = false := by simpa using fun z => e z.symm
    rw [e1]
    by_cases e2 : n + 1 = i
    · subst e2
      simp [cv_cat, noL_at hn h1]
    · simp [e2]
theorem lp_set2 {G : Gw} {lo : Lo} {i : Nat} {v : Value} (hn : noL lo i = true) : ∀ q ∈ lp G 0 ((lo.set i (some v)).set (i + 1) none), q ∈ (i, cv G v) :: (lp G 0 lo).filter (fun q => !(q.1 == i) && (!(q.1 == i + 1) && !(q.1 + 1 == i && q.2.category == 2))) := by
  intro q hq
  obtain ⟨n, w, h1, rfl⟩ := (lp_mem _ _ _).mp hq
  by_cases e0 : i + 1 = n
  · subst e0
    have hl : i + 1 < (lo.set i (some v)).length := by
      have := (List.getElem?_eq_some_iff.mp h1).1
      simpa using this
    rw [List.getElem?_set_self hl] at h1
    simp at h1
  · rw [List.getElem?_set_ne e0] at h1
    by_cases e : i = n
    · subst e
      have hl : i < lo.length := by
        have := (List.getElem?_eq_some_iff.mp h1).1
        simpa using this
      rw [List.getElem?_set_self hl] at h1
      simp only [Option.some.injEq] at h1
      subst h1
      simp
    · rw [List.getElem?_set_ne e] at h1
      refine List.mem_cons_of_mem _ (List.mem_filter.mpr ⟨(lp_mem _ _ _).mpr ⟨n, w, h1, rfl⟩, ?_⟩)
      simp only [Nat.zero_add]
      have e1 : (n == i) = false := by simpa using fun z => e z.symm
      have e3 : (n == i + 1) = false := by simpa using fun z => e0 z.symm
      rw [e1, e3]
      by_cases e2 : n + 1 = i
      · subst e2
        simp [cv_cat, noL_at hn h1]
      · simp [e2]
def NW (s : State) : Prop := ∀ q ∈ nestL, va_Nw (.methodLinkNest q.1 q.2.1 q.2.2.1 q.2.2.2) s
def Cx (p : Program) (R : Room) (s : State) (m : MethodId) (args : Array Value) (meth : Method) (c : Code) (k : MI) (d : Nat) : Prop :=
  p.tables.exec = Jvm.exec ∧ c.code = k.2.1 ∧ c.maxLocals = k.2.2.1 ∧ meth.sig.returnType = k.2.2.2 ∧ s.vm.findClass k.1.cls = some m.cls ∧ (∀ w ∈ wT, w.before args s = true) ∧ meth.locks = false ∧ NW s ∧ d + 1 ≤ R.frames ∧ 64 * (d + 1) ≤ R.locals
def ScP (sc : Option (Nat × (Int → Int))) (G : Gw) (s : State) (A : Nat → Prop) : Prop := ∀ (L : Nat) (xs : Int → Int), sc = some (L, xs) → va_X (G.2.2.2 1000) L (fun j => Int32.ofInt (xs j)) s s.heap ∧ G.2.2.2 1000 < s.heap.size ∧ ¬ A (G.2.2.2 1000)
def FinJ (k : MI) (x : Int) (pc : Nat) (st : List Value) : Prop :=
  (decode k.2.1 pc = .ok (.ireturn, 1) ∧ st = [vi x] ∧ (k.2.2.2 = some .int ∨ (k.2.2.2 = some .boolean ∧ (x = 0 ∨ x = 1)))) ∨
  (decode k.2.1 pc = .ok (.lreturn, 1) ∧ st = [vl x] ∧ k.2.2.2 = some .long) ∨
  (decode k.2.1 pc = .ok (.return_, 1) ∧ st = [] ∧ k.2.2.2 = none)
/-- from this place of method k, with this heap, these locals, this stack, the method comes to an end with Q -/
def XJ (sc : Option (Nat × (Int → Int))) (d : Nat) (k : MI) (h : Hp) (pc : Nat) (lo : Lo) (st : List Value) (Q : Int → Hp → Prop) : Prop :=
  ∀ (p : Program) (l : Launch) (e : Env) (R : Room) (s : State) (m : MethodId) (args : Array Value) (below : List Frame) (meth : Method) (c : Code) (Z : State → Prop) (G : Gw) (A : Nat → Prop) (cells slots : Nat),
    Cx p R s m args meth c k d → Wd G s A → ScP sc G s A → (cells ≤ R.cells ∧ slots ≤ R.slots) →
    (∀ (x : Int) (h' : Hp) (H : Heap) (locs : List Loc) (pc' : Nat) (ls : Array Slot) (st' : List Value), Q x h' → FinJ k x pc' st' → va_P G.1 xjCl (WS G h') H → va_S A s.heap H locs → W p l e R s m args below meth c H locs cells slots Z (F0 m pc' ls st')) →
    ∀ (H : Heap) (locs : List Loc) (ls : Array Slot), va_P G.1 xjCl (WS G h) H → va_S A s.heap H locs → LH G ls k.2.2.1 lo → W p l e R s m args below meth c H locs cells slots Z (F0 m pc ls (st.map (cv G)))
def wk (k : MI) : List Cond := Cond.code k.1 k.2.1 k.2.2.1 k.2.2.2 :: wT
def rmd (d : Nat) : Room := { frames := d + 1, cells := 0, slots := 0, locals := 64 * (d + 1) }
def AG (G : Gw) : Nat → Prop := fun q => ∃ c ∈ cellsL, G.2.2.2 c = q
def rv (k : MI) (x : Int) : Option Value := match k.2.2.2 with
  | none => none
  | some .long => some (vl x)
  | some _ => some (vi x)
def PJ (G : Gw) (h : Hp) (U : State) : Prop := va_P G.1 xjCl (WS G h) U.heap ∧ va_K G.1 xjCl [(G.2.1, .int), (G.2.2.1, .byte)] U ∧ NW U
def QJ (k : MI) (G : Gw) (Q : Int → Hp → Prop) : Array Value → State → Outcome → State → Prop := fun _ st o t => (∃ (x : Int) (h' : Hp), Q x h' ∧ o = .returned (rv k x) ∧ va_P G.1 xjCl (WS G h') t.heap) ∧ va_F (AG G) st t
/-- method k, called with these arguments in this heap, answers by Q -/
def CJ (d : Nat) (k : MI) (as : List Value) (h : Hp) (Q : Int → Hp → Prop) : Prop :=
  ∀ (l : Launch) (G : Gw), (∀ c ∈ cellsL, ∀ c' ∈ cellsL, G.2.2.2 c = G.2.2.2 c' → c = c') → Met l k.1 (wk k) (rmd d) (va_Pc (as.map (cv G)) (PJ G h)) (QJ k G Q) 0 0 (AG G)
def MOK (k : MI) (n : Nat) : Prop := plainName k.1.cls = true ∧ Cond.code k.1 k.2.1 k.2.2.1 k.2.2.2 ∈ wT ∧ Cond.initialized k.1.cls ∈ wT ∧ (k.1.cls ≠ "java/lang/invoke/MethodHandle" ∧ k.1.cls ≠ "java/lang/invoke/VarHandle") ∧ (parseMethodDescriptor k.1.desc).map (fun d => d.parameters.length) = some n
theorem wk_in {k : MI} {n : Nat} (hk : MOK k n) : GoodIn wT (wk k) := by
  intro w hw
  rcases List.mem_cons.mp hw with e | e
  · subst e
    exact wT_in _ hk.2.1
  · exact wT_in _ e
theorem NW_warm {s U : State} (hW : s.WarmedH U.vm) (h : NW s) : NW U := fun q hq => va_Nw.warmM hW (h q hq)
theorem NW_same {u U : State} (e : u.vm = U.vm) (h : NW u) : NW U := fun q hq => va_Nw.same rfl e (h q hq)
theorem PJ_blind (G : Gw) (h : Hp) (as : List Value) : FrameBlind (va_Pc as (PJ G h)) := fun a U g mk q => ⟨q.1, q.2.1, va_K.moved (u := U) (U := U.calling g mk a) (Vm.Alike.refl U.vm) q.2.2.1, NW_same rfl q.2.2.2⟩
end
section
abbrev rg (a : Int) : Prop := -2147483648 ≤ a ∧ a ≤ 2147483647
abbrev rgl (a : Int) : Prop := -9223372036854775808 ≤ a ∧ a ≤ 9223372036854775807
theorem rg_toInt {a : Int} (h : -2147483648 ≤ a ∧ a ≤ 2147483647) : (Int32.ofInt a).toInt = a := Int32.toInt_ofInt_of_le (by omega) (by omega)
theorem rg_le {a b : Int} (ha : -2147483648 ≤ a ∧ a ≤ 2147483647) (hb : -2147483648 ≤ b ∧ b ≤ 2147483647) : Int32.ofInt a ≤ Int32.ofInt b ↔ a ≤ b := by
  rw [Int32.le_iff_toInt_le, rg_toInt ha, rg_toInt hb]
theorem rg_lt {a b : Int} (ha : -2147483648 ≤ a ∧ a ≤ 2147483647) (hb : -2147483648 ≤ b ∧ b ≤ 2147483647) : Int32.ofInt a < Int32.ofInt b ↔ a < b := by
  rw [Int32.lt_iff_toInt_lt, rg_toInt ha, rg_toInt hb]
theorem rg_eq {a b : Int} (ha : -2147483648 ≤ a ∧ a ≤ 2147483647) (hb : -2147483648 ≤ b ∧ b ≤ 2147483647) : Int32.ofInt a = Int32.ofInt b ↔ a = b := by
  constructor
  · intro q
    have := congrArg Int32.toInt q
    rwa [rg_toInt ha, rg_toInt hb] at this
  · intro q; rw [q]
theorem rg_in {a : Int} {n : Nat} (h0 : 0 ≤ a ∧ a < n) (hn : n ≤ 4096) : vp_in (Int32.ofInt a) n := by
  rw [vp_in_iff, rg_toInt (by omega)]
  exact h0
theorem rg_clamp {a : Int} (h0 : 0 ≤ a ∧ a ≤ 2147483647) : (Int32.ofInt a).toNatClampNeg = a.toNat := by
  rw [Int32.toNatClampNeg_ofInt_of_le (by omega) (by omega)]
theorem i0 : (0 : Int32) = Int32.ofInt 0 := rfl
def band (a b : Int) : Int := (Int32.ofInt a &&& Int32.ofInt b).toInt
def bor (a b : Int) : Int := (Int32.ofInt a ||| Int32.ofInt b).toInt
def bxor (a b : Int) : Int := (Int32.ofInt a ^^^ Int32.ofInt b).toInt
def bshl (a b : Int) : Int := (Int32.ofInt a <<< (Int32.ofInt b &&& 31)).toInt
def bshr (a b : Int) : Int := (Int32.ofInt a >>> (Int32.ofInt b &&& 31)).toInt
def bushr (a b : Int) : Int := (((Int32.ofInt a).toUInt32 >>> ((Int32.ofInt b).toUInt32 &&& Int32.toUInt32 31)).toInt32).toInt
def bandl (a b : Int) : Int := (Int64.ofInt a &&& Int64.ofInt b).toInt
theorem xj_iconst {sc : Option (Nat × (Int → Int))} {d : Nat} {k : MI} {h : Hp} {pc pc2 : Nat} {lo : Lo} {st : List Value} {Q : Int → Hp → Prop} {n : Int} (hd : decode k.2.1 pc = .ok (.iconst n, 1)) (hp : pc + 1 = pc2) (kk : XJ sc d k h pc2 lo (vi n :: st) Q) : XJ sc d k h pc lo st Q := by
  subst hp
  intro p l e R s m args below meth c Z G A cells slots C w z r f H locs ls hP hS hl
  exact lv_iconst C.1 C.2.1 hd rfl (kk p l e R s m args below meth c Z G A cells slots C w z r f H locs ls hP hS hl)
theorem xj_bipush {sc : Option (Nat × (Int → Int))} {d : Nat} {k : MI} {h : Hp} {pc pc2 : Nat} {lo : Lo} {st : List Value} {Q : Int → Hp → Prop} {n : Int} (hd : decode k.2.1 pc = .ok (.bipush n, 2)) (hp : pc + 2 = pc2) (hn : -128 ≤ n ∧ n ≤ 127) (kk : XJ sc d k h pc2 lo (vi n :: st) Q) : XJ sc d k h pc lo st Q := by
  subst hp
  intro p l e R s m args below meth c Z G A cells slots C w z r f H locs ls hP hS hl
  exact lv_bipush C.1 C.2.1 hd (Int8.toInt32_ofInt hn.1 hn.2) (kk p l e R s m args below meth c Z G A cells slots C w z r f H locs ls hP hS hl)
theorem xj_sipush {sc : Option (Nat × (Int → Int))} {d : Nat} {k : MI} {h : Hp} {pc pc2 : Nat} {lo : Lo} {st : List Value} {Q : Int → Hp → Prop} {n : Int} (hd : decode k.2.1 pc = .ok (.sipush n, 3)) (hp : pc + 3 = pc2) (hn : -32768 ≤ n ∧ n ≤ 32767) (kk : XJ sc d k h pc2 lo (vi n :: st) Q) : XJ sc d k h pc lo st Q := by
  subst hp
  intro p l e R s m args below meth c Z G A cells slots C w z r f H locs ls hP hS hl
  exact lv_sipush C.1 C.2.1 hd (Int16.toInt32_ofInt hn.1 hn.2) (kk p l e R s m args below meth c Z G A cells slots C w z r f H locs ls hP hS hl)
theorem xj_ldc {sc : Option (Nat × (Int → Int))} {d : Nat} {k : MI} {h : Hp} {pc pc2 : Nat} {lo : Lo} {st : List Value} {Q : Int → Hp → Prop} {i : Nat} {n : Int} {cs : String} (hd : decode k.2.1 pc = .ok (.ldc i, 2)) (hp : pc + 2 = pc2) (hc : Cond.constant cs i (Int32.ofInt n) ∈ wT) (he : k.1.cls = cs) (kk : XJ sc d k h pc2 lo (vi n :: st) Q) : XJ sc d k h pc lo st Q := by
  subst hp
  intro p l e R s m args below meth c Z G A cells slots C w z r f H locs ls hP hS hl
  exact lv_ldc C.1 C.2.1 (he ▸ C.2.2.2.2.1) (C.2.2.2.2.2.1 _ hc) hd (kk p l e R s m args below meth c Z G A cells slots C w z r f H locs ls hP hS hl)
theorem xj_ldcw {sc : Option (Nat × (Int → Int))} {d : Nat} {k : MI} {h : Hp} {pc pc2 : Nat} {lo : Lo} {st : List Value} {Q : Int → Hp → Prop} {i : Nat} {n : Int} {cs : String} (hd : decode k.2.1 pc = .ok (.ldc_w i, 3)) (hp : pc + 3 = pc2) (hc : Cond.constant cs i (Int32.ofInt n) ∈ wT) (he : k.1.cls = cs) (kk : XJ sc d k h pc2 lo (vi n :: st) Q) : XJ sc d k h pc lo st Q := by
  subst hp
  intro p l e R s m args below meth c Z G A cells slots C w z r f H locs ls hP hS hl
  exact lv_ldcw C.1 C.2.1 (he ▸ C.2.2.2.2.1) (C.2.2.2.2.2.1 _ hc) hd (kk p l e R s m args below meth c Z G A cells slots C w z r f H locs ls hP hS hl)
theorem xj_ldc2 {sc : Option (Nat × (Int → Int))} {d : Nat} {k : MI} {h : Hp} {pc pc2 : Nat} {lo : Lo} {st : List Value} {Q : Int → Hp → Prop} {i : Nat} {n : Int} {cs : String} (hd : decode k.2.1 pc = .ok (.ldc2_w i, 3)) (hp : pc + 3 = pc2) (hc : Cond.constantLong cs i (Int64.ofInt n) ∈ wT) (he : k.1.cls = cs) (kk : XJ sc d k h pc2 lo (vl n :: st) Q) : XJ sc d k h pc lo st Q := by
  subst hp
  intro p l e R s m args below meth c Z G A cells slots C w z r f H locs ls hP hS hl
  exact lv_ldc2 C.1 C.2.1 (he ▸ C.2.2.2.2.1) (C.2.2.2.2.2.1 _ hc) hd (kk p l e R s m args below meth c Z G A cells slots C w z r f H locs ls hP hS hl)
theorem xj_iload_n {sc : Option (Nat × (Int → Int))} {d : Nat} {k : MI} {h : Hp} {pc pc2 : Nat} {lo : Lo} {st : List Value} {Q : Int → Hp → Prop} {a : Int} {j : _root_.Fin 4} {i : Nat} (hd : decode k.2.1 pc = .ok (.iload_n j, 1)) (hp : pc + 1 = pc2) (hj : (j : Nat) = i) (hv : lo[i]? = some (some (vi a))) (kk : XJ sc d k h pc2 lo (vi a :: st) Q) : XJ sc d k h pc lo st Q := by
  subst hp
  intro p l e R s m args below meth c Z G A cells slots C w z r f H locs ls hP hS hl
  exact lv_iload_n C.1 C.2.1 hd hj (LH_at hl hv) (kk p l e R s m args below meth c Z G A cells slots C w z r f H locs ls hP hS hl)
theorem xj_iload {sc : Option (Nat × (Int → Int))} {d : Nat} {k : MI} {h : Hp} {pc pc2 : Nat} {lo : Lo} {st : List Value} {Q : Int → Hp → Prop} {a : Int} {i : Nat} (hd : decode k.2.1 pc = .ok (.iload i, 2)) (hp : pc + 2 = pc2) (hv : lo[i]? = some (some (vi a))) (kk : XJ sc d k h pc2 lo (vi a :: st) Q) : XJ sc d k h pc lo st Q := by
  subst hp
  intro p l e R s m args below meth c Z G A cells slots C w z r f H locs ls hP hS hl
  exact lv_iload C.1 C.2.1 hd (LH_at hl hv) (kk p l e R s m args below meth c Z G A cells slots C w z r f H locs ls hP hS hl)
theorem xj_lload_n {sc : Option (Nat × (Int → Int))} {d : Nat} {k : MI} {h : Hp} {pc pc2 : Nat} {lo : Lo} {st : List Value} {Q : Int → Hp → Prop} {a : Int} {j : _root_.Fin 4} {i : Nat} (hd : decode k.2.1 pc = .ok (.lload_n j, 1)) (hp : pc + 1 = pc2) (hj : (j : Nat) = i) (hv : lo[i]? = some (some (vl a))) (kk : XJ sc d k h pc2 lo (vl a :: st) Q) : XJ sc d k h pc lo st Q := by
  subst hp
  intro p l e R s m args below meth c Z G A cells slots C w z r f H locs ls hP hS hl
  exact lv_lload_n C.1 C.2.1 hd hj (LH_at hl hv) (kk p l e R s m args below meth c Z G A cells slots C w z r f H locs ls hP hS hl)
theorem xj_lload {sc : Option (Nat × (Int → Int))} {d : Nat} {k : MI} {h : Hp} {pc pc2 : Nat} {lo : Lo} {st : List Value} {Q : Int → Hp → Prop} {a : Int} {i : Nat} (hd : decode k.2.1 pc = .ok (.lload i, 2)) (hp : pc + 2 = pc2) (hv : lo[i]? = some (some (vl a))) (kk : XJ sc d k h pc2 lo (vl a :: st) Q) : XJ sc d k h pc lo st Q := by
  subst hp
  intro p l e R s m args below meth c Z G A cells slots C w z r f H locs ls hP hS hl
  exact lv_lload C.1 C.2.1 hd (LH_at hl hv) (kk p l e R s m args below meth c Z G A cells slots C w z r f H locs ls hP hS hl)
theorem xj_aload_n {sc : Option (Nat × (Int → Int))} {d : Nat} {k : MI} {h : Hp} {pc pc2 : Nat} {lo : Lo} {st : List Value} {Q : Int → Hp → Prop} {a : Nat} {j : _root_.Fin 4} {i : Nat} (hd : decode k.2.1 pc = .ok (.aload_n j, 1)) (hp : pc + 1 = pc2) (hj : (j : Nat) = i) (hv : lo[i]? = some (some (.ref a))) (kk : XJ sc d k h pc2 lo (.ref a :: st) Q) : XJ sc d k h pc lo st Q := by
  subst hp
  intro p l e R s m args below meth c Z G A cells slots C w z r f H locs ls hP hS hl
  exact lv_aload_n C.1 C.2.1 hd hj (LH_at hl hv) (kk p l e R s m args below meth c Z G A cells slots C w z r f H locs ls hP hS hl)
theorem xj_aload {sc : Option (Nat × (Int → Int))} {d : Nat} {k : MI} {h : Hp} {pc pc2 : Nat} {lo : Lo} {st : List Value} {Q : Int → Hp → Prop} {a : Nat} {i : Nat} (hd : decode k.2.1 pc = .ok (.aload i, 2)) (hp : pc + 2 = pc2) (hv : lo[i]? = some (some (.ref a))) (kk : XJ sc d k h pc2 lo (.ref a :: st) Q) : XJ sc d k h pc lo st Q := by
  subst hp
  intro p l e R s m args below meth c Z G A cells slots C w z r f H locs ls hP hS hl
  exact lv_aload C.1 C.2.1 hd (LH_at hl hv) (kk p l e R s m args below meth c Z G A cells slots C w z r f H locs ls hP hS hl)
theorem xg_istore_n {sc : Option (Nat × (Int → Int))} {d : Nat} {k : MI} {h : Hp} {pc pc2 : Nat} {lo : Lo} {st : List Value} {Q : Int → Hp → Prop} {a : Int} {j : _root_.Fin 4} {i : Nat} (hd : decode k.2.1 pc = .ok (.istore_n j, 1)) (hp : pc + 1 = pc2) (hj : (j : Nat) = i) (hi : i < k.2.2.1) (hq : noL lo i = true) (kk : XJ sc d k h pc2 (lo.set i (some (vi a))) st Q) : XJ sc d k h pc lo (vi a :: st) Q := by
  subst hp
  intro p l e R s m args below meth c Z G A cells slots C w z r f H locs ls hP hS hl
  exact lv_istore_n C.1 C.2.1 hd hj hl hi rfl (fun ls2 h2 => kk p l e R s m args below meth c Z G A cells slots C w z r f H locs ls2 hP hS (LH_mono h2 (lp_set1 hq)))
theorem xg_istore {sc : Option (Nat × (Int → Int))} {d : Nat} {k : MI} {h : Hp} {pc pc2 : Nat} {lo : Lo} {st : List Value} {Q : Int → Hp → Prop} {a : Int} {i : Nat} (hd : decode k.2.1 pc = .ok (.istore i, 2)) (hp : pc + 2 = pc2) (hi : i < k.2.2.1) (hq : noL lo i = true) (kk : XJ sc d k h pc2 (lo.set i (some (vi a))) st Q) : XJ sc d k h pc lo (vi a :: st) Q := by
  subst hp
  intro p l e R s m args below meth c Z G A cells slots C w z r f H locs ls hP hS hl
  exact lv_istore C.1 C.2.1 hd hl hi rfl (fun ls2 h2 => kk p l e R s m args below meth c Z G A cells slots C w z r f H locs ls2 hP hS (LH_mono h2 (lp_set1 hq)))
theorem xg_astore_n {sc : Option (Nat × (Int → Int))} {d : Nat} {k : MI} {h : Hp} {pc pc2 : Nat} {lo : Lo} {st : List Value} {Q : Int → Hp → Prop} {a : Nat} {j : _root_.Fin 4} {i : Nat} (hd : decode k.2.1 pc = .ok (.astore_n j, 1)) (hp : pc + 1 = pc2) (hj : (j : Nat) = i) (hi : i < k.2.2.1) (hq : noL lo i = true) (kk : XJ sc d k h pc2 (lo.set i (some (.ref a))) st Q) : XJ sc d k h pc lo (.ref a :: st) Q := by
  subst hp
  intro p l e R s m args below meth c Z G A cells slots C w z r f H locs ls hP hS hl
  exact lv_astore_n C.1 C.2.1 hd hj hl hi rfl (fun ls2 h2 => kk p l e R s m args below meth c Z G A cells slots C w z r f H locs ls2 hP hS (LH_mono h2 (lp_set1 hq)))
theorem xg_astore {sc : Option (Nat × (Int → Int))} {d : Nat} {k : MI} {h : Hp} {pc pc2 : Nat} {lo : Lo} {st : List Value} {Q : Int → Hp → Prop} {a : Nat} {i : Nat} (hd : decode k.2.1 pc = .ok (.astore i, 2)) (hp : pc + 2 = pc2) (hi : i < k.2.2.1) (hq : noL lo i = true) (kk : XJ sc d k h pc2 (lo.set i (some (.ref a))) st Q) : XJ sc d k h pc lo (.ref a :: st) Q := by
  subst hp
  intro p l e R s m args below meth c Z G A cells slots C w z r f H locs ls hP hS hl
  exact lv_astore C.1 C.2.1 hd hl hi rfl (fun ls2 h2 => kk p l e R s m args below meth c Z G A cells slots C w z r f H locs ls2 hP hS (LH_mono h2 (lp_set1 hq)))
theorem xg_lstore_n {sc : Option (Nat × (Int → Int))} {d : Nat} {k : MI} {h : Hp} {pc pc2 : Nat} {lo : Lo} {st : List Value} {Q : Int → Hp → Prop} {a : Int} {j : _root_.Fin 4} {i : Nat} (hd : decode k.2.1 pc = .ok (.lstore_n j, 1)) (hp : pc + 1 = pc2) (hj : (j : Nat) = i) (hi : i + 1 < k.2.2.1) (hq : noL lo i = true) (kk : XJ sc d k h pc2 ((lo.set i (some (vl a))).set (i + 1) none) st Q) : XJ sc d k h pc lo (vl a :: st) Q := by
  subst hp
  intro p l e R s m args below meth c Z G A cells slots C w z r f H locs ls hP hS hl
  exact lv_lstore_n C.1 C.2.1 hd hj hl hi rfl (fun ls2 h2 => kk p l e R s m args below meth c Z G A cells slots C w z r f H locs ls2 hP hS (LH_mono h2 (lp_set2 hq)))
theorem xg_lstore {sc : Option (Nat × (Int → Int))} {d : Nat} {k : MI} {h : Hp} {pc pc2 : Nat} {lo : Lo} {st : List Value} {Q : Int → Hp → Prop} {a : Int} {i : Nat} (hd : decode k.2.1 pc = .ok (.lstore i, 2)) (hp : pc + 2 = pc2) (hi : i + 1 < k.2.2.1) (hq : noL lo i = true) (kk : XJ sc d k h pc2 ((lo.set i (some (vl a))).set (i + 1) none) st Q) : XJ sc d k h pc lo (vl a :: st) Q := by
  subst hp
  intro p l e R s m args below meth c Z G A cells slots C w z r f H locs ls hP hS hl
  exact lv_lstore C.1 C.2.1 hd hl hi rfl (fun ls2 h2 => kk p l e R s m args below meth c Z G A cells slots C w z r f H locs ls2 hP hS (LH_mono h2 (lp_set2 hq)))
theorem lp_idx {G : Gw} {lo : Lo} {i : Nat} {v : Value} (h : lo[i]? = some (some v)) : ∃ q : Nat, (lp G 0 lo)[q]? = some (i, cv G v) := by
  have h1 : (i, cv G v) ∈ lp G 0 lo := (lp_mem lo 0 _).mpr ⟨i, v, h, by simp⟩
  exact List.getElem?_of_mem h1
theorem xg_iinc {sc : Option (Nat × (Int → Int))} {d : Nat} {k : MI} {h : Hp} {pc pc2 : Nat} {lo : Lo} {st : List Value} {Q : Int → Hp → Prop} {a n : Int} {i : Nat} (hd : decode k.2.1 pc = .ok (.iinc i n, 3)) (hp : pc + 3 = pc2) (hi : i < k.2.2.1) (hq : noL lo i = true) (hv : lo[i]? = some (some (vi a))) (kk : XJ sc d k h pc2 (lo.set i (some (vi (a + n)))) st Q) : XJ sc d k h pc lo st Q := by
  subst hp
  intro p l e R s m args below meth c Z G A cells slots C w z r f H locs ls hP hS hl
  obtain ⟨q, hq1⟩ := lp_idx (G := G) hv
  exact lv_iinc (v := Int32.ofInt (a + n)) C.1 C.2.1 hd hl hq1 (Int32.ofInt_add a n).symm hi rfl (fun ls2 h2 => kk p l e R s m args below meth c Z G A cells slots C w z r f H locs ls2 hP hS (LH_mono h2 (lp_set1 hq)))
theorem xj_istore0 {sc : Option (Nat × (Int → Int))} {d : Nat} {k : MI} {h : Hp} {pc pc2 : Nat} {lo : Lo} {old : Option Value} {st : List Value} {Q : Int → Hp → Prop} {a : Int} {j : _root_.Fin 4} (hd : decode k.2.1 pc = .ok (.istore_n j, 1)) (hp : pc + 1 = pc2) (hj : (j : Nat) = 0) (hi : 0 < k.2.2.1) (hq : noL (old :: lo) 0 = true) (kk : XJ sc d k h pc2 (some (vi a) :: lo) st Q) : XJ sc d k h pc (old :: lo) (vi a :: st) Q := xg_istore_n hd hp hj hi hq kk
theorem xj_iinc0 {sc : Option (Nat × (Int → Int))} {d : Nat} {k : MI} {h : Hp} {pc pc2 : Nat} {lo : Lo} {st : List Value} {Q : Int → Hp → Prop} {a n : Int} (hd : decode k.2.1 pc = .ok (.iinc 0 n, 3)) (hp : pc + 3 = pc2) (hi : 0 < k.2.2.1) (hq : noL (some (vi a) :: lo) 0 = true) (kk : XJ sc d k h pc2 (some (vi (a + n)) :: lo) st Q) : XJ sc d k h pc (some (vi a) :: lo) st Q := xg_iinc hd hp hi hq rfl kk
theorem xj_istore1 {sc : Option (Nat × (Int → Int))} {d : Nat} {k : MI} {h : Hp} {pc pc2 : Nat} {lo : Lo} {v0 : Option Value} {old : Option Value} {st : List Value} {Q : Int → Hp → Prop} {a : Int} {j : _root_.Fin 4} (hd : decode k.2.1 pc = .ok (.istore_n j, 1)) (hp : pc + 1 = pc2) (hj : (j : Nat) = 1) (hi : 1 < k.2.2.1) (hq : noL (v0 :: old :: lo) 1 = true) (kk : XJ sc d k h pc2 (v0 :: some (vi a) :: lo) st Q) : XJ sc d k h pc (v0 :: old :: lo) (vi a :: st) Q := xg_istore_n hd hp hj hi hq kk
theorem xj_astore1 {sc : Option (Nat × (Int → Int))} {d : Nat} {k : MI} {h : Hp} {pc pc2 : Nat} {lo : Lo} {v0 : Option Value} {old : Option Value} {st : List Value} {Q : Int → Hp → Prop} {a : Nat} {j : _root_.Fin 4} (hd : decode k.2.1 pc = .ok (.astore_n j, 1)) (hp : pc + 1 = pc2) (hj : (j : Nat) = 1) (hi : 1 < k.2.2.1) (hq : noL (v0 :: old :: lo) 1 = true) (kk : XJ sc d k h pc2 (v0 :: some (.ref a) :: lo) st Q) : XJ sc d k h pc (v0 :: old :: lo) (.ref a :: st) Q := xg_astore_n hd hp hj hi hq kk
theorem xj_iinc1 {sc : Option (Nat × (Int → Int))} {d : Nat} {k : MI} {h : Hp} {pc pc2 : Nat} {lo : Lo} {v0 : Option Value} {st : List Value} {Q : Int → Hp → Prop} {a n : Int} (hd : decode k.2.1 pc = .ok (.iinc 1 n, 3)) (hp : pc + 3 = pc2) (hi : 1 < k.2.2.1) (hq : noL (v0 :: some (vi a) :: lo) 1 = true) (kk : XJ sc d k h pc2 (v0 :: some (vi (a + n)) :: lo) st Q) : XJ sc d k h pc (v0 :: some (vi a) :: lo) st Q := xg_iinc hd hp hi hq rfl kk
theorem xj_istore2 {sc : Option (Nat × (Int → Int))} {d : Nat} {k : MI} {h : Hp} {pc pc2 : Nat} {lo : Lo} {v0 v1 : Option Value} {old : Option Value} {st : List Value} {Q : Int → Hp → Prop} {a : Int} {j : _root_.Fin 4} (hd : decode k.2.1 pc = .ok (.istore_n j, 1)) (hp : pc + 1 = pc2) (hj : (j : Nat) = 2) (hi : 2 < k.2.2.1) (hq : noL (v0 :: v1 :: old :: lo) 2 = true) (kk : XJ sc d k h pc2 (v0 :: v1 :: some (vi a) :: lo) st Q) : XJ sc d k h pc (v0 :: v1 :: old :: lo) (vi a :: st) Q := xg_istore_n hd hp hj hi hq kk
theorem xj_astore2 {sc : Option (Nat × (Int → Int))} {d : Nat} {k : MI} {h : Hp} {pc pc2 : Nat} {lo : Lo} {v0 v1 : Option Value} {old : Option Value} {st : List Value} {Q : Int → Hp → Prop} {a : Nat} {j : _root_.Fin 4} (hd : decode k.2.1 pc = .ok (.astore_n j, 1)) (hp : pc + 1 = pc2) (hj : (j : Nat) = 2) (hi : 2 < k.2.2.1) (hq : noL (v0 :: v1 :: old :: lo) 2 = true) (kk : XJ sc d k h pc2 (v0 :: v1 :: some (.ref a) :: lo) st Q) : XJ sc d k h pc (v0 :: v1 :: old :: lo) (.ref a :: st) Q := xg_astore_n hd hp hj hi hq kk
theorem xj_iinc2 {sc : Option (Nat × (Int → Int))} {d : Nat} {k : MI} {h : Hp} {pc pc2 : Nat} {lo : Lo} {v0 v1 : Option Value} {st : List Value} {Q : Int → Hp → Prop} {a n : Int} (hd : decode k.2.1 pc = .ok (.iinc 2 n, 3)) (hp : pc + 3 = pc2) (hi : 2 < k.2.2.1) (hq : noL (v0 :: v1 :: some (vi a) :: lo) 2 = true) (kk : XJ sc d k h pc2 (v0 :: v1 :: some (vi (a + n)) :: lo) st Q) : XJ sc d k h pc (v0 :: v1 :: some (vi a) :: lo) st Q := xg_iinc hd hp hi hq rfl kk
theorem xj_istore3 {sc : Option (Nat × (Int → Int))} {d : Nat} {k : MI} {h : Hp} {pc pc2 : Nat} {lo : Lo} {v0 v1 v2 : Option Value} {old : Option Value} {st : List Value} {Q : Int → Hp → Prop} {a : Int} {j : _root_.Fin 4} (hd : decode k.2.1 pc = .ok (.istore_n j, 1)) (hp : pc + 1 = pc2) (hj : (j : Nat) = 3) (hi : 3 < k.2.2.1) (hq : noL (v0 :: v1 :: v2 :: old :: lo) 3 = true) (kk : XJ sc d k h pc2 (v0 :: v1 :: v2 :: some (vi a) :: lo) st Q) : XJ sc d k h pc (v0 :: v1 :: v2 :: old :: lo) (vi a :: st) Q := xg_istore_n hd hp hj hi hq kk
theorem xj_iinc3 {sc : Option (Nat × (Int → Int))} {d : Nat} {k : MI} {h : Hp} {pc pc2 : Nat} {lo : Lo} {v0 v1 v2 : Option Value} {st : List Value} {Q : Int → Hp → Prop} {a n : Int} (hd : decode k.2.1 pc = .ok (.iinc 3 n, 3)) (hp : pc + 3 = pc2) (hi : 3 < k.2.2.1) (hq : noL (v0 :: v1 :: v2 :: some (vi a) :: lo) 3 = true) (kk : XJ sc d k h pc2 (v0 :: v1 :: v2 :: some (vi (a + n)) :: lo) st Q) : XJ sc d k h pc (v0 :: v1 :: v2 :: some (vi a) :: lo) st Q := xg_iinc hd hp hi hq rfl kk
theorem xj_istore4 {sc : Option (Nat × (Int → Int))} {d : Nat} {k : MI} {h : Hp} {pc pc2 : Nat} {lo : Lo} {v0 v1 v2 v3 : Option Value} {old : Option Value} {st : List Value} {Q : Int → Hp → Prop} {a : Int} (hd : decode k.2.1 pc = .ok (.istore 4, 2)) (hp : pc + 2 = pc2) (hi : 4 < k.2.2.1) (hq : noL (v0 :: v1 :: v2 :: v3 :: old :: lo) 4 = true) (kk : XJ sc d k h pc2 (v0 :: v1 :: v2 :: v3 :: some (vi a) :: lo) st Q) : XJ sc d k h pc (v0 :: v1 :: v2 :: v3 :: old :: lo) (vi a :: st) Q := xg_istore hd hp hi hq kk
theorem xj_iinc4 {sc : Option (Nat × (Int → Int))} {d : Nat} {k : MI} {h : Hp} {pc pc2 : Nat} {lo : Lo} {v0 v1 v2 v3 : Option Value} {st : List Value} {Q : Int → Hp → Prop} {a n : Int} (hd : decode k.2.1 pc = .ok (.iinc 4 n, 3)) (hp : pc + 3 = pc2) (hi : 4 < k.2.2.1) (hq : noL (v0 :: v1 :: v2 :: v3 :: some (vi a) :: lo) 4 = true) (kk : XJ sc d k h pc2 (v0 :: v1 :: v2 :: v3 :: some (vi (a + n)) :: lo) st Q) : XJ sc d k h pc (v0 :: v1 :: v2 :: v3 :: some (vi a) :: lo) st Q := xg_iinc hd hp hi hq rfl kk
theorem xj_istore5 {sc : Option (Nat × (Int → Int))} {d : Nat} {k : MI} {h : Hp} {pc pc2 : Nat} {lo : Lo} {v0 v1 v2 v3 v4 : Option Value} {old : Option Value} {st : List Value} {Q : Int → Hp → Prop} {a : Int} (hd : decode k.2.1 pc = .ok (.istore 5, 2)) (hp : pc + 2 = pc2) (hi : 5 < k.2.2.1) (hq : noL (v0 :: v1 :: v2 :: v3 :: v4 :: old :: lo) 5 = true) (kk : XJ sc d k h pc2 (v0 :: v1 :: v2 :: v3 :: v4 :: some (vi a) :: lo) st Q) : XJ sc d k h pc (v0 :: v1 :: v2 :: v3 :: v4 :: old :: lo) (vi a :: st) Q := xg_istore hd hp hi hq kk
theorem xj_iinc5 {sc : Option (Nat × (Int → Int))} {d : Nat} {k : MI} {h : Hp} {pc pc2 : Nat} {lo : Lo} {v0 v1 v2 v3 v4 : Option Value} {st : List Value} {Q : Int → Hp → Prop} {a n : Int} (hd : decode k.2.1 pc = .ok (.iinc 5 n, 3)) (hp : pc + 3 = pc2) (hi : 5 < k.2.2.1) (hq : noL (v0 :: v1 :: v2 :: v3 :: v4 :: some (vi a) :: lo) 5 = true) (kk : XJ sc d k h pc2 (v0 :: v1 :: v2 :: v3 :: v4 :: some (vi (a + n)) :: lo) st Q) : XJ sc d k h pc (v0 :: v1 :: v2 :: v3 :: v4 :: some (vi a) :: lo) st Q := xg_iinc hd hp hi hq rfl kk
theorem xj_istore6 {sc : Option (Nat × (Int → Int))} {d : Nat} {k : MI} {h : Hp} {pc pc2 : Nat} {lo : Lo} {v0 v1 v2 v3 v4 v5 : Option Value} {old : Option Value} {st : List Value} {Q : Int → Hp → Prop} {a : Int} (hd : decode k.2.1 pc = .ok (.istore 6, 2)) (hp : pc + 2 = pc2) (hi : 6 < k.2.2.1) (hq : noL (v0 :: v1 :: v2 :: v3 :: v4 :: v5 :: old :: lo) 6 = true) (kk : XJ sc d k h pc2 (v0 :: v1 :: v2 :: v3 :: v4 :: v5 :: some (vi a) :: lo) st Q) : XJ sc d k h pc (v0 :: v1 :: v2 :: v3 :: v4 :: v5 :: old :: lo) (vi a :: st) Q := xg_istore hd hp hi hq kk
theorem xj_iinc6 {sc : Option (Nat × (Int → Int))} {d : Nat} {k : MI} {h : Hp} {pc pc2 : Nat} {lo : Lo} {v0 v1 v2 v3 v4 v5 : Option Value} {st : List Value} {Q : Int → Hp → Prop} {a n : Int} (hd : decode k.2.1 pc = .ok (.iinc 6 n, 3)) (hp : pc + 3 = pc2) (hi : 6 < k.2.2.1) (hq : noL (v0 :: v1 :: v2 :: v3 :: v4 :: v5 :: some (vi a) :: lo) 6 = true) (kk : XJ sc d k h pc2 (v0 :: v1 :: v2 :: v3 :: v4 :: v5 :: some (vi (a + n)) :: lo) st Q) : XJ sc d k h pc (v0 :: v1 :: v2 :: v3 :: v4 :: v5 :: some (vi a) :: lo) st Q := xg_iinc hd hp hi hq rfl kk
theorem xj_istore7 {sc : Option (Nat × (Int → Int))} {d : Nat} {k : MI} {h : Hp} {pc pc2 : Nat} {lo : Lo} {v0 v1 v2 v3 v4 v5 v6 : Option Value} {old : Option Value} {st : List Value} {Q : Int → Hp → Prop} {a : Int} (hd : decode k.2.1 pc = .ok (.istore 7, 2)) (hp : pc + 2 = pc2) (hi : 7 < k.2.2.1) (hq : noL (v0 :: v1 :: v2 :: v3 :: v4 :: v5 :: v6 :: old :: lo) 7 = true) (kk : XJ sc d k h pc2 (v0 :: v1 :: v2 :: v3 :: v4 :: v5 :: v6 :: some (vi a) :: lo) st Q) : XJ sc d k h pc (v0 :: v1 :: v2 :: v3 :: v4 :: v5 :: v6 :: old :: lo) (vi a :: st) Q := xg_istore hd hp hi hq kk
theorem xj_iinc7 {sc : Option (Nat × (Int → Int))} {d : Nat} {k : MI} {h : Hp} {pc pc2 : Nat} {lo : Lo} {v0 v1 v2 v3 v4 v5 v6 : Option Value} {st : List Value} {Q : Int → Hp → Prop} {a n : Int} (hd : decode k.2.1 pc = .ok (.iinc 7 n, 3)) (hp : pc + 3 = pc2) (hi : 7 < k.2.2.1) (hq : noL (v0 :: v1 :: v2 :: v3 :: v4 :: v5 :: v6 :: some (vi a) :: lo) 7 = true) (kk : XJ sc d k h pc2 (v0 :: v1 :: v2 :: v3 :: v4 :: v5 :: v6 :: some (vi (a + n)) :: lo) st Q) : XJ sc d k h pc (v0 :: v1 :: v2 :: v3 :: v4 :: v5 :: v6 :: some (vi a) :: lo) st Q := xg_iinc hd hp hi hq rfl kk
theorem xj_istore8 {sc : Option (Nat × (Int → Int))} {d : Nat} {k : MI} {h : Hp} {pc pc2 : Nat} {lo : Lo} {v0 v1 v2 v3 v4 v5 v6 v7 : Option Value} {old : Option Value} {st : List Value} {Q : Int → Hp → Prop} {a : Int} (hd : decode k.2.1 pc = .ok (.istore 8, 2)) (hp : pc + 2 = pc2) (hi : 8 < k.2.2.1) (hq : noL (v0 :: v1 :: v2 :: v3 :: v4 :: v5 :: v6 :: v7 :: old :: lo) 8 = true) (kk : XJ sc d k h pc2 (v0 :: v1 :: v2 :: v3 :: v4 :: v5 :: v6 :: v7 :: some (vi a) :: lo) st Q) : XJ sc d k h pc (v0 :: v1 :: v2 :: v3 :: v4 :: v5 :: v6 :: v7 :: old :: lo) (vi a :: st) Q := xg_istore hd hp hi hq kk
theorem xj_iinc8 {sc : Option (Nat × (Int → Int))} {d : Nat} {k : MI} {h : Hp} {pc pc2 : Nat} {lo : Lo} {v0 v1 v2 v3 v4 v5 v6 v7 : Option Value} {st : List Value} {Q : Int → Hp → Prop} {a n : Int} (hd : decode k.2.1 pc = .ok (.iinc 8 n, 3)) (hp : pc + 3 = pc2) (hi : 8 < k.2.2.1) (hq : noL (v0 :: v1 :: v2 :: v3 :: v4 :: v5 :: v6 :: v7 :: some (vi a) :: lo) 8 = true) (kk : XJ sc d k h pc2 (v0 :: v1 :: v2 :: v3 :: v4 :: v5 :: v6 :: v7 :: some (vi (a + n)) :: lo) st Q) : XJ sc d k h pc (v0 :: v1 :: v2 :: v3 :: v4 :: v5 :: v6 :: v7 :: some (vi a) :: lo) st Q := xg_iinc hd hp hi hq rfl kk
theorem xj_istore9 {sc : Option (Nat × (Int → Int))} {d : Nat} {k : MI} {h : Hp} {pc pc2 : Nat} {lo : Lo} {v0 v1 v2 v3 v4 v5 v6 v7 v8 : Option Value} {old : Option Value} {st : List Value} {Q : Int → Hp → Prop} {a : Int} (hd : decode k.2.1 pc = .ok (.istore 9, 2)) (hp : pc + 2 = pc2) (hi : 9 < k.2.2.1) (hq : noL (v0 :: v1 :: v2 :: v3 :: v4 :: v5 :: v6 :: v7 :: v8 :: old :: lo) 9 = true) (kk : XJ sc d k h pc2 (v0 :: v1 :: v2 :: v3 :: v4 :: v5 :: v6 :: v7 :: v8 :: some (vi a) :: lo) st Q) : XJ sc d k h pc (v0 :: v1 :: v2 :: v3 :: v4 :: v5 :: v6 :: v7 :: v8 :: old :: lo) (vi a :: st) Q := xg_istore hd hp hi hq kk
theorem xj_iinc9 {sc : Option (Nat × (Int → Int))} {d : Nat} {k : MI} {h : Hp} {pc pc2 : Nat} {lo : Lo} {v0 v1 v2 v3 v4 v5 v6 v7 v8 : Option Value} {st : List Value} {Q : Int → Hp → Prop} {a n : Int} (hd : decode k.2.1 pc = .ok (.iinc 9 n, 3)) (hp : pc + 3 = pc2) (hi : 9 < k.2.2.1) (hq : noL (v0 :: v1 :: v2 :: v3 :: v4 :: v5 :: v6 :: v7 :: v8 :: some (vi a) :: lo) 9 = true) (kk : XJ sc d k h pc2 (v0 :: v1 :: v2 :: v3 :: v4 :: v5 :: v6 :: v7 :: v8 :: some (vi (a + n)) :: lo) st Q) : XJ sc d k h pc (v0 :: v1 :: v2 :: v3 :: v4 :: v5 :: v6 :: v7 :: v8 :: some (vi a) :: lo) st Q := xg_iinc hd hp hi hq rfl kk
theorem xj_istore10 {sc : Option (Nat × (Int → Int))} {d : Nat} {k : MI} {h : Hp} {pc pc2 : Nat} {lo : Lo} {v0 v1 v2 v3 v4 v5 v6 v7 v8 v9 : Option Value} {old : Option Value} {st : List Value} {Q : Int → Hp → Prop} {a : Int} (hd : decode k.2.1 pc = .ok (.istore 10, 2)) (hp : pc + 2 = pc2) (hi : 10 < k.2.2.1) (hq : noL (v0 :: v1 :: v2 :: v3 :: v4 :: v5 :: v6 :: v7 :: v8 :: v9 :: old :: lo) 10 = true) (kk : XJ sc d k h pc2 (v0 :: v1 :: v2 :: v3 :: v4 :: v5 :: v6 :: v7 :: v8 :: v9 :: some (vi a) :: lo) st Q) : XJ sc d k h pc (v0 :: v1 :: v2 :: v3 :: v4 :: v5 :: v6 :: v7 :: v8 :: v9 :: old :: lo) (vi a :: st) Q := xg_istore hd hp hi hq kk
theorem xj_iinc10 {sc : Option (Nat × (Int → Int))} {d : Nat} {k : MI} {h : Hp} {pc pc2 : Nat} {lo : Lo} {v0 v1 v2 v3 v4 v5 v6 v7 v8 v9 : Option Value} {st : List Value} {Q : Int → Hp → Prop} {a n : Int} (hd : decode k.2.1 pc = .ok (.iinc 10 n, 3)) (hp : pc + 3 = pc2) (hi : 10 < k.2.2.1) (hq : noL (v0 :: v1 :: v2 :: v3 :: v4 :: v5 :: v6 :: v7 :: v8 :: v9 :: some (vi a) :: lo) 10 = true) (kk : XJ sc d k h pc2 (v0 :: v1 :: v2 :: v3 :: v4 :: v5 :: v6 :: v7 :: v8 :: v9 :: some (vi (a + n)) :: lo) st Q) : XJ sc d k h pc (v0 :: v1 :: v2 :: v3 :: v4 :: v5 :: v6 :: v7 :: v8 :: v9 :: some (vi a) :: lo) st Q := xg_iinc hd hp hi hq rfl kk
theorem xj_istore11 {sc : Option (Nat × (Int → Int))} {d : Nat} {k : MI} {h : Hp} {pc pc2 : Nat} {lo : Lo} {v0 v1 v2 v3 v4 v5 v6 v7 v8 v9 v10 : Option Value} {old : Option Value} {st : List Value} {Q : Int → Hp → Prop} {a : Int} (hd : decode k.2.1 pc = .ok (.istore 11, 2)) (hp : pc + 2 = pc2) (hi : 11 < k.2.2.1) (hq : noL (v0 :: v1 :: v2 :: v3 :: v4 :: v5 :: v6 :: v7 :: v8 :: v9 :: v10 :: old :: lo) 11 = true) (kk : XJ sc d k h pc2 (v0 :: v1 :: v2 :: v3 :: v4 :: v5 :: v6 :: v7 :: v8 :: v9 :: v10 :: some (vi a) :: lo) st Q) : XJ sc d k h pc (v0 :: v1 :: v2 :: v3 :: v4 :: v5 :: v6 :: v7 :: v8 :: v9 :: v10 :: old :: lo) (vi a :: st) Q := xg_istore hd hp hi hq kk
theorem xj_iinc11 {sc : Option (Nat × (Int → Int))} {d : Nat} {k : MI} {h : Hp} {pc pc2 : Nat} {lo : Lo} {v0 v1 v2 v3 v4 v5 v6 v7 v8 v9 v10 : Option Value} {st : List Value} {Q : Int → Hp → Prop} {a n : Int} (hd : decode k.2.1 pc = .ok (.iinc 11 n, 3)) (hp : pc + 3 = pc2) (hi : 11 < k.2.2.1) (hq : noL (v0 :: v1 :: v2 :: v3 :: v4 :: v5 :: v6 :: v7 :: v8 :: v9 :: v10 :: some (vi a) :: lo) 11 = true) (kk : XJ sc d k h pc2 (v0 :: v1 :: v2 :: v3 :: v4 :: v5 :: v6 :: v7 :: v8 :: v9 :: v10 :: some (vi (a + n)) :: lo) st Q) : XJ sc d k h pc (v0 :: v1 :: v2 :: v3 :: v4 :: v5 :: v6 :: v7 :: v8 :: v9 :: v10 :: some (vi a) :: lo) st Q := xg_iinc hd hp hi hq rfl kk
theorem xj_lstore0 {sc : Option (Nat × (Int → Int))} {d : Nat} {k : MI} {h : Hp} {pc pc2 : Nat} {lo : Lo} {old old2 : Option Value} {st : List Value} {Q : Int → Hp → Prop} {a : Int} {j : _root_.Fin 4} (hd : decode k.2.1 pc = .ok (.lstore_n j, 1)) (hp : pc + 1 = pc2) (hj : (j : Nat) = 0) (hi : 0 + 1 < k.2.2.1) (hq : noL (old :: old2 :: lo) 0 = true) (kk : XJ sc d k h pc2 (some (vl a) :: none :: lo) st Q) : XJ sc d k h pc (old :: old2 :: lo) (vl a :: st) Q := xg_lstore_n hd hp hj hi hq kk
theorem xj_lstore1 {sc : Option (Nat × (Int → Int))} {d : Nat} {k : MI} {h : Hp} {pc pc2 : Nat} {lo : Lo} {v0 : Option Value} {old old2 : Option Value} {st : List Value} {Q : Int → Hp → Prop} {a : Int} {j : _root_.Fin 4} (hd : decode k.2.1 pc = .ok (.lstore_n j, 1)) (hp : pc + 1 = pc2) (hj : (j : Nat) = 1) (hi : 1 + 1 < k.2.2.1) (hq : noL (v0 :: old :: old2 :: lo) 1 = true) (kk : XJ sc d k h pc2 (v0 :: some (vl a) :: none :: lo) st Q) : XJ sc d k h pc (v0 :: old :: old2 :: lo) (vl a :: st) Q := xg_lstore_n hd hp hj hi hq kk
theorem xj_lstore2 {sc : Option (Nat × (Int → Int))} {d : Nat} {k : MI} {h : Hp} {pc pc2 : Nat} {lo : Lo} {v0 v1 : Option Value} {old old2 : Option Value} {st : List Value} {Q : Int → Hp → Prop} {a : Int} {j : _root_.Fin 4} (hd : decode k.2.1 pc = .ok (.lstore_n j, 1)) (hp : pc + 1 = pc2) (hj : (j : Nat) = 2) (hi : 2 + 1 < k.2.2.1) (hq : noL (v0 :: v1 :: old :: old2 :: lo) 2 = true) (kk : XJ sc d k h pc2 (v0 :: v1 :: some (vl a) :: none :: lo) st Q) : XJ sc d k h pc (v0 :: v1 :: old :: old2 :: lo) (vl a :: st) Q := xg_lstore_n hd hp hj hi hq kk
theorem xj_lstore3 {sc : Option (Nat × (Int → Int))} {d : Nat} {k : MI} {h : Hp} {pc pc2 : Nat} {lo : Lo} {v0 v1 v2 : Option Value} {old old2 : Option Value} {st : List Value} {Q : Int → Hp → Prop} {a : Int} {j : _root_.Fin 4} (hd : decode k.2.1 pc = .ok (.lstore_n j, 1)) (hp : pc + 1 = pc2) (hj : (j : Nat) = 3) (hi : 3 + 1 < k.2.2.1) (hq : noL (v0 :: v1 :: v2 :: old :: old2 :: lo) 3 = true) (kk : XJ sc d k h pc2 (v0 :: v1 :: v2 :: some (vl a) :: none :: lo) st Q) : XJ sc d k h pc (v0 :: v1 :: v2 :: old :: old2 :: lo) (vl a :: st) Q := xg_lstore_n hd hp hj hi hq kk
theorem xj_lstore4 {sc : Option (Nat × (Int → Int))} {d : Nat} {k : MI} {h : Hp} {pc pc2 : Nat} {lo : Lo} {v0 v1 v2 v3 : Option Value} {old old2 : Option Value} {st : List Value} {Q : Int → Hp → Prop} {a : Int} (hd : decode k.2.1 pc = .ok (.lstore 4, 2)) (hp : pc + 2 = pc2) (hi : 4 + 1 < k.2.2.1) (hq : noL (v0 :: v1 :: v2 :: v3 :: old :: old2 :: lo) 4 = true) (kk : XJ sc d k h pc2 (v0 :: v1 :: v2 :: v3 :: some (vl a) :: none :: lo) st Q) : XJ sc d k h pc (v0 :: v1 :: v2 :: v3 :: old :: old2 :: lo) (vl a :: st) Q := xg_lstore hd hp hi hq kk
theorem xj_lstore5 {sc : Option (Nat × (Int → Int))} {d : Nat} {k : MI} {h : Hp} {pc pc2 : Nat} {lo : Lo} {v0 v1 v2 v3 v4 : Option Value} {old old2 : Option Value} {st : List Value} {Q : Int → Hp → Prop} {a : Int} (hd : decode k.2.1 pc = .ok (.lstore 5, 2)) (hp : pc + 2 = pc2) (hi : 5 + 1 < k.2.2.1) (hq : noL (v0 :: v1 :: v2 :: v3 :: v4 :: old :: old2 :: lo) 5 = true) (kk : XJ sc d k h pc2 (v0 :: v1 :: v2 :: v3 :: v4 :: some (vl a) :: none :: lo) st Q) : XJ sc d k h pc (v0 :: v1 :: v2 :: v3 :: v4 :: old :: old2 :: lo) (vl a :: st) Q := xg_lstore hd hp hi hq kk
theorem xj_lstore6 {sc : Option (Nat × (Int → Int))} {d : Nat} {k : MI} {h : Hp} {pc pc2 : Nat} {lo : Lo} {v0 v1 v2 v3 v4 v5 : Option Value} {old old2 : Option Value} {st : List Value} {Q : Int → Hp → Prop} {a : Int} (hd : decode k.2.1 pc = .ok (.lstore 6, 2)) (hp : pc + 2 = pc2) (hi : 6 + 1 < k.2.2.1) (hq : noL (v0 :: v1 :: v2 :: v3 :: v4 :: v5 :: old :: old2 :: lo) 6 = true) (kk : XJ sc d k h pc2 (v0 :: v1 :: v2 :: v3 :: v4 :: v5 :: some (vl a) :: none :: lo) st Q) : XJ sc d k h pc (v0 :: v1 :: v2 :: v3 :: v4 :: v5 :: old :: old2 :: lo) (vl a :: st) Q := xg_lstore hd hp hi hq kk
theorem xj_lstore7 {sc : Option (Nat × (Int → Int))} {d : Nat} {k : MI} {h : Hp} {pc pc2 : Nat} {lo : Lo} {v0 v1 v2 v3 v4 v5 v6 : Option Value} {old old2 : Option Value} {st : List Value} {Q : Int → Hp → Prop} {a : Int} (hd : decode k.2.1 pc = .ok (.lstore 7, 2)) (hp : pc + 2 = pc2) (hi : 7 + 1 < k.2.2.1) (hq : noL (v0 :: v1 :: v2 :: v3 :: v4 :: v5 :: v6 :: old :: old2 :: lo) 7 = true) (kk : XJ sc d k h pc2 (v0 :: v1 :: v2 :: v3 :: v4 :: v5 :: v6 :: some (vl a) :: none :: lo) st Q) : XJ sc d k h pc (v0 :: v1 :: v2 :: v3 :: v4 :: v5 :: v6 :: old :: old2 :: lo) (vl a :: st) Q := xg_lstore hd hp hi hq kk
theorem xj_lstore8 {sc : Option (Nat × (Int → Int))} {d : Nat} {k : MI} {h : Hp} {pc pc2 : Nat} {lo : Lo} {v0 v1 v2 v3 v4 v5 v6 v7 : Option Value} {old old2 : Option Value} {st : List Value} {Q : Int → Hp → Prop} {a : Int} (hd : decode k.2.1 pc = .ok (.lstore 8, 2)) (hp : pc + 2 = pc2) (hi : 8 + 1 < k.2.2.1) (hq : noL (v0 :: v1 :: v2 :: v3 :: v4 :: v5 :: v6 :: v7 :: old :: old2 :: lo) 8 = true) (kk : XJ sc d k h pc2 (v0 :: v1 :: v2 :: v3 :: v4 :: v5 :: v6 :: v7 :: some (vl a) :: none :: lo) st Q) : XJ sc d k h pc (v0 :: v1 :: v2 :: v3 :: v4 :: v5 :: v6 :: v7 :: old :: old2 :: lo) (vl a :: st) Q := xg_lstore hd hp hi hq kk
theorem xj_iadd {sc : Option (Nat × (Int → Int))} {d : Nat} {k : MI} {h : Hp} {pc pc2 : Nat} {lo : Lo} {st : List Value} {Q : Int → Hp → Prop} {a b : Int} (hd : decode k.2.1 pc = .ok (.iadd, 1)) (hp : pc + 1 = pc2) (kk : XJ sc d k h pc2 lo (vi (a + b) :: st) Q) : XJ sc d k h pc lo (vi b :: vi a :: st) Q := by
  subst hp
  intro p l e R s m args below meth c Z G A cells slots C w z r f H locs ls hP hS hl
  have K := kk p l e R s m args below meth c Z G A cells slots C w z r f H locs ls hP hS hl
  refine lv_iadd C.1 C.2.1 hd ?_
  rw [← Int32.ofInt_add]
  exact K
theorem xj_isub {sc : Option (Nat × (Int → Int))} {d : Nat} {k : MI} {h : Hp} {pc pc2 : Nat} {lo : Lo} {st : List Value} {Q : Int → Hp → Prop} {a b : Int} (hd : decode k.2.1 pc = .ok (.isub, 1)) (hp : pc + 1 = pc2) (kk : XJ sc d k h pc2 lo (vi (a - b) :: st) Q) : XJ sc d k h pc lo (vi b :: vi a :: st) Q := by
  subst hp
  intro p l e R s m args below meth c Z G A cells slots C w z r f H locs ls hP hS hl
  have K := kk p l e R s m args below meth c Z G A cells slots C w z r f H locs ls hP hS hl
  refine lv_isub C.1 C.2.1 hd ?_
  rw [← Int32.ofInt_sub]
  exact K
theorem xj_imul {sc : Option (Nat × (Int → Int))} {d : Nat} {k : MI} {h : Hp} {pc pc2 : Nat} {lo : Lo} {st : List Value} {Q : Int → Hp → Prop} {a b : Int} (hd : decode k.2.1 pc = .ok (.imul, 1)) (hp : pc + 1 = pc2) (kk : XJ sc d k h pc2 lo (vi (a * b) :: st) Q) : XJ sc d k h pc lo (vi b :: vi a :: st) Q := by
  subst hp
  intro p l e R s m args below meth c Z G A cells slots C w z r f H locs ls hP hS hl
  have K := kk p l e R s m args below meth c Z G A cells slots C w z r f H locs ls hP hS hl
  refine lv_imul C.1 C.2.1 hd ?_
  rw [← Int32.ofInt_mul]
  exact K
theorem xj_ladd {sc : Option (Nat × (Int → Int))} {d : Nat} {k : MI} {h : Hp} {pc pc2 : Nat} {lo : Lo} {st : List Value} {Q : Int → Hp → Prop} {a b : Int} (hd : decode k.2.1 pc = .ok (.ladd, 1)) (hp : pc + 1 = pc2) (kk : XJ sc d k h pc2 lo (vl (a + b) :: st) Q) : XJ sc d k h pc lo (vl b :: vl a :: st) Q := by
  subst hp
  intro p l e R s m args below meth c Z G A cells slots C w z r f H locs ls hP hS hl
  have K := kk p l e R s m args below meth c Z G A cells slots C w z r f H locs ls hP hS hl
  refine lv_ladd C.1 C.2.1 hd ?_
  rw [← Int64.ofInt_add]
  exact K
theorem xj_lmul {sc : Option (Nat × (Int → Int))} {d : Nat} {k : MI} {h : Hp} {pc pc2 : Nat} {lo : Lo} {st : List Value} {Q : Int → Hp → Prop} {a b : Int} (hd : decode k.2.1 pc = .ok (.lmul, 1)) (hp : pc + 1 = pc2) (kk : XJ sc d k h pc2 lo (vl (a * b) :: st) Q) : XJ sc d k h pc lo (vl b :: vl a :: st) Q := by
  subst hp
  intro p l e R s m args below meth c Z G A cells slots C w z r f H locs ls hP hS hl
  have K := kk p l e R s m args below meth c Z G A cells slots C w z r f H locs ls hP hS hl
  refine lv_lmul C.1 C.2.1 hd ?_
  rw [← Int64.ofInt_mul]
  exact K
theorem xj_iand {sc : Option (Nat × (Int → Int))} {d : Nat} {k : MI} {h : Hp} {pc pc2 : Nat} {lo : Lo} {st : List Value} {Q : Int → Hp → Prop} {a b : Int} (hd : decode k.2.1 pc = .ok (.iand, 1)) (hp : pc + 1 = pc2) (kk : XJ sc d k h pc2 lo (vi (band a b) :: st) Q) : XJ sc d k h pc lo (vi b :: vi a :: st) Q := by
  subst hp
  intro p l e R s m args below meth c Z G A cells slots C w z r f H locs ls hP hS hl
  have K := kk p l e R s m args below meth c Z G A cells slots C w z r f H locs ls hP hS hl
  refine lv_iand C.1 C.2.1 hd ?_
  have e := Int32.ofInt_toInt (Int32.ofInt a &&& Int32.ofInt b)
  rw [← e]
  exact K
theorem xj_ior {sc : Option (Nat × (Int → Int))} {d : Nat} {k : MI} {h : Hp} {pc pc2 : Nat} {lo : Lo} {st : List Value} {Q : Int → Hp → Prop} {a b : Int} (hd : decode k.2.1 pc = .ok (.ior, 1)) (hp : pc + 1 = pc2) (kk : XJ sc d k h pc2 lo (vi (bor a b) :: st) Q) : XJ sc d k h pc lo (vi b :: vi a :: st) Q := by
  subst hp
  intro p l e R s m args below meth c Z G A cells slots C w z r f H locs ls hP hS hl
  have K := kk p l e R s m args below meth c Z G A cells slots C w z r f H locs ls hP hS hl
  refine lv_ior C.1 C.2.1 hd ?_
  have e := Int32.ofInt_toInt (Int32.ofInt a ||| Int32.ofInt b)
  rw [← e]
  exact K
theorem xj_ixor {sc : Option (Nat × (Int → Int))} {d : Nat} {k : MI} {h : Hp} {pc pc2 : Nat} {lo : Lo} {st : List Value} {Q : Int → Hp → Prop} {a b : Int} (hd : decode k.2.1 pc = .ok (.ixor, 1)) (hp : pc + 1 = pc2) (kk : XJ sc d k h pc2 lo (vi (bxor a b) :: st) Q) : XJ sc d k h pc lo (vi b :: vi a :: st) Q := by
  subst hp
  intro p l e R s m args below meth c Z G A cells slots C w z r f H locs ls hP hS hl
  have K := kk p l e R s m args below meth c Z G A cells slots C w z r f H locs ls hP hS hl
  refine lv_ixor C.1 C.2.1 hd ?_
  have e := Int32.ofInt_toInt (Int32.ofInt a ^^^ Int32.ofInt b)
  rw [← e]
  exact K
theorem xj_ishl {sc : Option (Nat × (Int → Int))} {d : Nat} {k : MI} {h : Hp} {pc pc2 : Nat} {lo : Lo} {st : List Value} {Q : Int → Hp → Prop} {a b : Int} (hd : decode k.2.1 pc = .ok (.ishl, 1)) (hp : pc + 1 = pc2) (kk : XJ sc d k h pc2 lo (vi (bshl a b) :: st) Q) : XJ sc d k h pc lo (vi b :: vi a :: st) Q := by
  subst hp
  intro p l e R s m args below meth c Z G A cells slots C w z r f H locs ls hP hS hl
  have K := kk p l e R s m args below meth c Z G A cells slots C w z r f H locs ls hP hS hl
  refine lv_ishl C.1 C.2.1 hd ?_
  have e := Int32.ofInt_toInt (Int32.ofInt a <<< (Int32.ofInt b &&& 31))
  rw [← e]
  exact K
theorem xj_ishr {sc : Option (Nat × (Int → Int))} {d : Nat} {k : MI} {h : Hp} {pc pc2 : Nat} {lo : Lo} {st : List Value} {Q : Int → Hp → Prop} {a b : Int} (hd : decode k.2.1 pc = .ok (.ishr, 1)) (hp : pc + 1 = pc2) (kk : XJ sc d k h pc2 lo (vi (bshr a b) :: st) Q) : XJ sc d k h pc lo (vi b :: vi a :: st) Q := by
  subst hp
  intro p l e R s m args below meth c Z G A cells slots C w z r f H locs ls hP hS hl
  have K := kk p l e R s m args below meth c Z G A cells slots C w z r f H locs ls hP hS hl
  refine lv_ishr C.1 C.2.1 hd ?_
  have e := Int32.ofInt_toInt (Int32.ofInt a >>> (Int32.ofInt b &&& 31))
  rw [← e]
  exact K
theorem xj_iushr {sc : Option (Nat × (Int → Int))} {d : Nat} {k : MI} {h : Hp} {pc pc2 : Nat} {lo : Lo} {st : List Value} {Q : Int → Hp → Prop} {a b : Int} (hd : decode k.2.1 pc = .ok (.iushr, 1)) (hp : pc + 1 = pc2) (kk : XJ sc d k h pc2 lo (vi (bushr a b) :: st) Q) : XJ sc d k h pc lo (vi b :: vi a :: st) Q := by
  subst hp
  intro p l e R s m args below meth c Z G A cells slots C w z r f H locs ls hP hS hl
  have K := kk p l e R s m args below meth c Z G A cells slots C w z r f H locs ls hP hS hl
  have e := Int32.ofInt_toInt (((Int32.ofInt a).toUInt32 >>> ((Int32.ofInt b).toUInt32 &&& Int32.toUInt32 31)).toInt32)
  exact lv_iushr C.1 C.2.1 hd e.symm K
theorem xj_land {sc : Option (Nat × (Int → Int))} {d : Nat} {k : MI} {h : Hp} {pc pc2 : Nat} {lo : Lo} {st : List Value} {Q : Int → Hp → Prop} {a b : Int} (hd : decode k.2.1 pc = .ok (.land, 1)) (hp : pc + 1 = pc2) (kk : XJ sc d k h pc2 lo (vl (bandl a b) :: st) Q) : XJ sc d k h pc lo (vl b :: vl a :: st) Q := by
  subst hp
  intro p l e R s m args below meth c Z G A cells slots C w z r f H locs ls hP hS hl
  have K := kk p l e R s m args below meth c Z G A cells slots C w z r f H locs ls hP hS hl
  refine lv_land C.1 C.2.1 hd ?_
  have e := Int64.ofInt_toInt (Int64.ofInt a &&& Int64.ofInt b)
  rw [← e]
  exact K
theorem dv_ne {b : Int} (hb : 0 < b ∧ b ≤ 2147483647) : ¬ Int32.ofInt b = 0 := by
  rw [i0, rg_eq (by omega) (by omega)]; omega
theorem dv_i {a b : Int} (ha : 0 ≤ a ∧ a ≤ 2147483647) (hb : 0 < b ∧ b ≤ 2147483647) : Int32.ofInt a / Int32.ofInt b = Int32.ofInt (a / b) := by
  have h1 : (Int32.ofInt b) ≠ -1 := by
    rw [show (-1 : Int32) = Int32.ofInt (-1) from rfl, Ne, rg_eq (by omega) (by omega)]; omega
  apply Int32.toInt_inj.mp
  have h2 : 0 ≤ a / b := Int.ediv_nonneg ha.1 (by omega)
  have h3 : a / b ≤ a := Int.ediv_le_self b ha.1
  rw [Int32.toInt_div_of_ne_right _ _ h1, rg_toInt (by omega), rg_toInt (by omega), rg_toInt (by omega), Int.tdiv_eq_ediv_of_nonneg ha.1]
theorem dv_m {a b : Int} (ha : 0 ≤ a ∧ a ≤ 2147483647) (hb : 0 < b ∧ b ≤ 2147483647) : Int32.ofInt a - Int32.ofInt a / Int32.ofInt b * Int32.ofInt b = Int32.ofInt (a % b) := by
  rw [dv_i ha hb, ← Int32.ofInt_mul, ← Int32.ofInt_sub, Int.emod_def, Int.mul_comm b]
theorem rgl_toInt {a : Int} (h : -9223372036854775808 ≤ a ∧ a ≤ 9223372036854775807) : (Int64.ofInt a).toInt = a := Int64.toInt_ofInt_of_le (by omega) (by omega)
theorem rgl_eq {a b : Int} (ha : -9223372036854775808 ≤ a ∧ a ≤ 9223372036854775807) (hb : -9223372036854775808 ≤ b ∧ b ≤ 9223372036854775807) : Int64.ofInt a = Int64.ofInt b ↔ a = b := by
  constructor
  · intro q
    have := congrArg Int64.toInt q
    rwa [rgl_toInt ha, rgl_toInt hb] at this
  · intro q; rw [q]
theorem dvl_ne {b : Int} (hb : 0 < b ∧ b ≤ 9223372036854775807) : ¬ Int64.ofInt b = 0 := by
  rw [show (0 : Int64) = Int64.ofInt 0 from rfl, rgl_eq (by omega) (by omega)]; omega
theorem dvl_i {a b : Int} (ha : 0 ≤ a ∧ a ≤ 9223372036854775807) (hb : 0 < b ∧ b ≤ 9223372036854775807) : Int64.ofInt a / Int64.ofInt b = Int64.ofInt (a / b) := by
  have h1 : (Int64.ofInt b) ≠ -1 := by
    rw [show (-1 : Int64) = Int64.ofInt (-1) from rfl, Ne, rgl_eq (by omega) (by omega)]; omega
  apply Int64.toInt_inj.mp
  have h2 : 0 ≤ a / b := Int.ediv_nonneg ha.1 (by omega)
  have h3 : a / b ≤ a := Int.ediv_le_self b ha.1
  rw [Int64.toInt_div_of_ne_right _ _ h1, rgl_toInt (by omega), rgl_toInt (by omega), rgl_toInt (by omega), Int.tdiv_eq_ediv_of_nonneg ha.1]
theorem dvl_m {a b : Int} (ha : 0 ≤ a ∧ a ≤ 9223372036854775807) (hb : 0 < b ∧ b ≤ 9223372036854775807) : Int64.ofInt a - Int64.ofInt a / Int64.ofInt b * Int64.ofInt b = Int64.ofInt (a % b) := by
  rw [dvl_i ha hb, ← Int64.ofInt_mul, ← Int64.ofInt_sub, Int.emod_def, Int.mul_comm b]
theorem xj_idiv {sc : Option (Nat × (Int → Int))} {d : Nat} {k : MI} {h : Hp} {pc pc2 : Nat} {lo : Lo} {st : List Value} {Q : Int → Hp → Prop} {a b : Int} (hd : decode k.2.1 pc = .ok (.idiv, 1)) (hp : pc + 1 = pc2) (ha : 0 ≤ a ∧ a ≤ 2147483647) (hb : 0 < b ∧ b ≤ 2147483647) (kk : XJ sc d k h pc2 lo (vi (a / b) :: st) Q) : XJ sc d k h pc lo (vi b :: vi a :: st) Q := by
  subst hp
  intro p l e R s m args below meth c Z G A cells slots C w z r f H locs ls hP hS hl
  have K := kk p l e R s m args below meth c Z G A cells slots C w z r f H locs ls hP hS hl
  refine lv_idiv C.1 C.2.1 hd (dv_ne hb) ?_
  rw [dv_i ha hb]
  exact K
theorem xj_irem {sc : Option (Nat × (Int → Int))} {d : Nat} {k : MI} {h : Hp} {pc pc2 : Nat} {lo : Lo} {st : List Value} {Q : Int → Hp → Prop} {a b : Int} (hd : decode k.2.1 pc = .ok (.irem, 1)) (hp : pc + 1 = pc2) (ha : 0 ≤ a ∧ a ≤ 2147483647) (hb : 0 < b ∧ b ≤ 2147483647) (kk : XJ sc d k h pc2 lo (vi (a % b) :: st) Q) : XJ sc d k h pc lo (vi b :: vi a :: st) Q := by
  subst hp
  intro p l e R s m args below meth c Z G A cells slots C w z r f H locs ls hP hS hl
  have K := kk p l e R s m args below meth c Z G A cells slots C w z r f H locs ls hP hS hl
  refine lv_irem C.1 C.2.1 hd (dv_ne hb) ?_
  rw [dv_m ha hb]
  exact K
theorem xj_ldiv {sc : Option (Nat × (Int → Int))} {d : Nat} {k : MI} {h : Hp} {pc pc2 : Nat} {lo : Lo} {st : List Value} {Q : Int → Hp → Prop} {a b : Int} (hd : decode k.2.1 pc = .ok (.ldiv, 1)) (hp : pc + 1 = pc2) (ha : 0 ≤ a ∧ a ≤ 9223372036854775807) (hb : 0 < b ∧ b ≤ 9223372036854775807) (kk : XJ sc d k h pc2 lo (vl (a / b) :: st) Q) : XJ sc d k h pc lo (vl b :: vl a :: st) Q := by
  subst hp
  intro p l e R s m args below meth c Z G A cells slots C w z r f H locs ls hP hS hl
  have K := kk p l e R s m args below meth c Z G A cells slots C w z r f H locs ls hP hS hl
  refine lv_ldiv C.1 C.2.1 hd (dvl_ne hb) ?_
  rw [dvl_i ha hb]
  exact K
theorem xj_lrem {sc : Option (Nat × (Int → Int))} {d : Nat} {k : MI} {h : Hp} {pc pc2 : Nat} {lo : Lo} {st : List Value} {Q : Int → Hp → Prop} {a b : Int} (hd : decode k.2.1 pc = .ok (.lrem, 1)) (hp : pc + 1 = pc2) (ha : 0 ≤ a ∧ a ≤ 9223372036854775807) (hb : 0 < b ∧ b ≤ 9223372036854775807) (kk : XJ sc d k h pc2 lo (vl (a % b) :: st) Q) : XJ sc d k h pc lo (vl b :: vl a :: st) Q := by
  subst hp
  intro p l e R s m args below meth c Z G A cells slots C w z r f H locs ls hP hS hl
  have K := kk p l e R s m args below meth c Z G A cells slots C w z r f H locs ls hP hS hl
  refine lv_lrem C.1 C.2.1 hd (dvl_ne hb) ?_
  rw [dvl_m ha hb]
  exact K
theorem xj_i2l {sc : Option (Nat × (Int → Int))} {d : Nat} {k : MI} {h : Hp} {pc pc2 : Nat} {lo : Lo} {st : List Value} {Q : Int → Hp → Prop} {a : Int} (hd : decode k.2.1 pc = .ok (.i2l, 1)) (hp : pc + 1 = pc2) (ha : -2147483648 ≤ a ∧ a ≤ 2147483647) (kk : XJ sc d k h pc2 lo (vl a :: st) Q) : XJ sc d k h pc lo (vi a :: st) Q := by
  subst hp
  intro p l e R s m args below meth c Z G A cells slots C w z r f H locs ls hP hS hl
  exact lv_i2l C.1 C.2.1 hd (Int32.toInt64_ofInt ha.1 ha.2) (kk p l e R s m args below meth c Z G A cells slots C w z r f H locs ls hP hS hl)
theorem xj_l2i {sc : Option (Nat × (Int → Int))} {d : Nat} {k : MI} {h : Hp} {pc pc2 : Nat} {lo : Lo} {st : List Value} {Q : Int → Hp → Prop} {a : Int} (hd : decode k.2.1 pc = .ok (.l2i, 1)) (hp : pc + 1 = pc2) (kk : XJ sc d k h pc2 lo (vi a :: st) Q) : XJ sc d k h pc lo (vl a :: st) Q := by
  subst hp
  intro p l e R s m args below meth c Z G A cells slots C w z r f H locs ls hP hS hl
  exact lv_l2i C.1 C.2.1 hd Int64.toInt32_ofInt (kk p l e R s m args below meth c Z G A cells slots C w z r f H locs ls hP hS hl)
theorem i2b_ok {a : Int} (ha : -128 ≤ a ∧ a ≤ 127) : (Int32.ofInt a).toInt8.toInt32 = Int32.ofInt a := by
  have e : Int32.ofInt a = (Int8.ofInt a).toInt32 := (Int8.toInt32_ofInt ha.1 ha.2).symm
  rw [e, Int8.toInt8_toInt32]
theorem xj_i2b {sc : Option (Nat × (Int → Int))} {d : Nat} {k : MI} {h : Hp} {pc pc2 : Nat} {lo : Lo} {st : List Value} {Q : Int → Hp → Prop} {a : Int} (hd : decode k.2.1 pc = .ok (.i2b, 1)) (hp : pc + 1 = pc2) (ha : -128 ≤ a ∧ a ≤ 127) (kk : XJ sc d k h pc2 lo (vi a :: st) Q) : XJ sc d k h pc lo (vi a :: st) Q := by
  subst hp
  intro p l e R s m args below meth c Z G A cells slots C w z r f H locs ls hP hS hl
  exact lv_i2b C.1 C.2.1 hd (i2b_ok ha) (kk p l e R s m args below meth c Z G A cells slots C w z r f H locs ls hP hS hl)
theorem xj_ineg {sc : Option (Nat × (Int → Int))} {d : Nat} {k : MI} {h : Hp} {pc pc2 : Nat} {lo : Lo} {st : List Value} {Q : Int → Hp → Prop} {a : Int} (hd : decode k.2.1 pc = .ok (.ineg, 1)) (hp : pc + 1 = pc2) (kk : XJ sc d k h pc2 lo (vi (-a) :: st) Q) : XJ sc d k h pc lo (vi a :: st) Q := by
  subst hp
  intro p l e R s m args below meth c Z G A cells slots C w z r f H locs ls hP hS hl
  exact lv_ineg C.1 C.2.1 hd (by rw [← Int32.ofInt_neg]; exact kk p l e R s m args below meth c Z G A cells slots C w z r f H locs ls hP hS hl)
theorem xj_dup {sc : Option (Nat × (Int → Int))} {d : Nat} {k : MI} {h : Hp} {pc pc2 : Nat} {lo : Lo} {st : List Value} {Q : Int → Hp → Prop} {v : Value} (hd : decode k.2.1 pc = .ok (.dup, 1)) (hp : pc + 1 = pc2) (hv : v.category = 1) (kk : XJ sc d k h pc2 lo (v :: v :: st) Q) : XJ sc d k h pc lo (v :: st) Q := by
  subst hp
  intro p l e R s m args below meth c Z G A cells slots C w z r f H locs ls hP hS hl
  exact lv_dup C.1 C.2.1 hd ((cv_cat _ _).trans hv) (kk p l e R s m args below meth c Z G A cells slots C w z r f H locs ls hP hS hl)
theorem xj_pop {sc : Option (Nat × (Int → Int))} {d : Nat} {k : MI} {h : Hp} {pc pc2 : Nat} {lo : Lo} {st : List Value} {Q : Int → Hp → Prop} {v : Value} (hd : decode k.2.1 pc = .ok (.pop, 1)) (hp : pc + 1 = pc2) (hv : v.category = 1) (kk : XJ sc d k h pc2 lo (st) Q) : XJ sc d k h pc lo (v :: st) Q := by
  subst hp
  intro p l e R s m args below meth c Z G A cells slots C w z r f H locs ls hP hS hl
  exact lv_pop C.1 C.2.1 hd ((cv_cat _ _).trans hv) (kk p l e R s m args below meth c Z G A cells slots C w z r f H locs ls hP hS hl)
theorem xj_dup2 {sc : Option (Nat × (Int → Int))} {d : Nat} {k : MI} {h : Hp} {pc pc2 : Nat} {lo : Lo} {st : List Value} {Q : Int → Hp → Prop} {v v2 : Value} (hd : decode k.2.1 pc = .ok (.dup2, 1)) (hp : pc + 1 = pc2) (hv : v.category = 1) (hv2 : v2.category = 1) (kk : XJ sc d k h pc2 lo (v :: v2 :: v :: v2 :: st) Q) : XJ sc d k h pc lo (v :: v2 :: st) Q := by
  subst hp
  intro p l e R s m args below meth c Z G A cells slots C w z r f H locs ls hP hS hl
  exact lv_dup2_11 C.1 C.2.1 hd ((cv_cat _ _).trans hv) ((cv_cat _ _).trans hv2) (kk p l e R s m args below meth c Z G A cells slots C w z r f H locs ls hP hS hl)
theorem xj_lcmp_eq {sc : Option (Nat × (Int → Int))} {d : Nat} {k : MI} {h : Hp} {pc pc2 : Nat} {lo : Lo} {st : List Value} {Q : Int → Hp → Prop} {a b : Int} (hd : decode k.2.1 pc = .ok (.lcmp, 1)) (hp : pc + 1 = pc2) (he : a = b) (kk : XJ sc d k h pc2 lo (vi 0 :: st) Q) : XJ sc d k h pc lo (vl b :: vl a :: st) Q := by
  subst hp
  subst he
  intro p l e R s m args below meth c Z G A cells slots C w z r f H locs ls hP hS hl
  have K := kk p l e R s m args below meth c Z G A cells slots C w z r f H locs ls hP hS hl
  refine W.lcmp C.1 C.2.1 hd ?_
  rw [show lg_cmp (Int64.ofInt a) (Int64.ofInt a) = 0 from by simp [lg_cmp]]
  exact K
theorem xj_cmp_eq {sc : Option (Nat × (Int → Int))} {d : Nat} {k : MI} {h : Hp} {pc pc2 : Nat} {lo : Lo} {st : List Value} {Q : Int → Hp → Prop} {a b off : Int} {tgt : Nat} (hd : decode k.2.1 pc = .ok (.if_icmp .eq off, 3)) (ht : (pc : Int) + off = (tgt : Int)) (hp : pc + 3 = pc2) (ha : -2147483648 ≤ a ∧ a ≤ 2147483647) (hb : -2147483648 ≤ b ∧ b ≤ 2147483647) (kk1 : a = b → XJ sc d k h tgt lo st Q) (kk2 : ¬ (a = b) → XJ sc d k h pc2 lo st Q) : XJ sc d k h pc lo (vi b :: vi a :: st) Q := by
  subst hp
  intro p l e R s m args below meth c Z G A cells slots C w z r f H locs ls hP hS hl
  exact lv_icmp_eq C.1 C.2.1 hd ht (fun q => kk1 ((rg_eq ha hb).mp q) p l e R s m args below meth c Z G A cells slots C w z r f H locs ls hP hS hl) (fun q => kk2 (fun q2 => q ((rg_eq ha hb).mpr q2)) p l e R s m args below meth c Z G A cells slots C w z r f H locs ls hP hS hl)
theorem xj_cmp_ne {sc : Option (Nat × (Int → Int))} {d : Nat} {k : MI} {h : Hp} {pc pc2 : Nat} {lo : Lo} {st : List Value} {Q : Int → Hp → Prop} {a b off : Int} {tgt : Nat} (hd : decode k.2.1 pc = .ok (.if_icmp .ne off, 3)) (ht : (pc : Int) + off = (tgt : Int)) (hp : pc + 3 = pc2) (ha : -2147483648 ≤ a ∧ a ≤ 2147483647) (hb : -2147483648 ≤ b ∧ b ≤ 2147483647) (kk1 : ¬ a = b → XJ sc d k h tgt lo st Q) (kk2 : a = b → XJ sc d k h pc2 lo st Q) : XJ sc d k h pc lo (vi b :: vi a :: st) Q := by
  subst hp
  intro p l e R s m args below meth c Z G A cells slots C w z r f H locs ls hP hS hl
  exact lv_icmp_ne C.1 C.2.1 hd ht (fun q => kk1 (fun q2 => q (by rw [q2])) p l e R s m args below meth c Z G A cells slots C w z r f H locs ls hP hS hl) (fun q => kk2 ((rg_eq ha hb).mp q) p l e R s m args below meth c Z G A cells slots C w z r f H locs ls hP hS hl)
theorem xj_cmp_lt {sc : Option (Nat × (Int → Int))} {d : Nat} {k : MI} {h : Hp} {pc pc2 : Nat} {lo : Lo} {st : List Value} {Q : Int → Hp → Prop} {a b off : Int} {tgt : Nat} (hd : decode k.2.1 pc = .ok (.if_icmp .lt off, 3)) (ht : (pc : Int) + off = (tgt : Int)) (hp : pc + 3 = pc2) (ha : -2147483648 ≤ a ∧ a ≤ 2147483647) (hb : -2147483648 ≤ b ∧ b ≤ 2147483647) (kk1 : a < b → XJ sc d k h tgt lo st Q) (kk2 : ¬ (a < b) → XJ sc d k h pc2 lo st Q) : XJ sc d k h pc lo (vi b :: vi a :: st) Q := by
  subst hp
  intro p l e R s m args below meth c Z G A cells slots C w z r f H locs ls hP hS hl
  exact lv_icmp_lt C.1 C.2.1 hd ht (fun q => kk1 ((rg_lt ha hb).mp q) p l e R s m args below meth c Z G A cells slots C w z r f H locs ls hP hS hl) (fun q => kk2 (fun q2 => q ((rg_lt ha hb).mpr q2)) p l e R s m args below meth c Z G A cells slots C w z r f H locs ls hP hS hl)
theorem xj_cmp_ge {sc : Option (Nat × (Int → Int))} {d : Nat} {k : MI} {h : Hp} {pc pc2 : Nat} {lo : Lo} {st : List Value} {Q : Int → Hp → Prop} {a b off : Int} {tgt : Nat} (hd : decode k.2.1 pc = .ok (.if_icmp .ge off, 3)) (ht : (pc : Int) + off = (tgt : Int)) (hp : pc + 3 = pc2) (ha : -2147483648 ≤ a ∧ a ≤ 2147483647) (hb : -2147483648 ≤ b ∧ b ≤ 2147483647) (kk1 : b ≤ a → XJ sc d k h tgt lo st Q) (kk2 : ¬ (b ≤ a) → XJ sc d k h pc2 lo st Q) : XJ sc d k h pc lo (vi b :: vi a :: st) Q := by
  subst hp
  intro p l e R s m args below meth c Z G A cells slots C w z r f H locs ls hP hS hl
  exact lv_icmp_ge C.1 C.2.1 hd ht (fun q => kk1 ((rg_le hb ha).mp q) p l e R s m args below meth c Z G A cells slots C w z r f H locs ls hP hS hl) (fun q => kk2 (fun q2 => q ((rg_le hb ha).mpr q2)) p l e R s m args below meth c Z G A cells slots C w z r f H locs ls hP hS hl)
theorem xj_cmp_gt {sc : Option (Nat × (Int → Int))} {d : Nat} {k : MI} {h : Hp} {pc pc2 : Nat} {lo : Lo} {st : List Value} {Q : Int → Hp → Prop} {a b off : Int} {tgt : Nat} (hd : decode k.2.1 pc = .ok (.if_icmp .gt off, 3)) (ht : (pc : Int) + off = (tgt : Int)) (hp : pc + 3 = pc2) (ha : -2147483648 ≤ a ∧ a ≤ 2147483647) (hb : -2147483648 ≤ b ∧ b ≤ 2147483647) (kk1 : b < a → XJ sc d k h tgt lo st Q) (kk2 : ¬ (b < a) → XJ sc d k h pc2 lo st Q) : XJ sc d k h pc lo (vi b :: vi a :: st) Q := by
  subst hp
  intro p l e R s m args below meth c Z G A cells slots C w z r f H locs ls hP hS hl
  exact lv_icmp_gt C.1 C.2.1 hd ht (fun q => kk1 ((rg_lt hb ha).mp q) p l e R s m args below meth c Z G A cells slots C w z r f H locs ls hP hS hl) (fun q => kk2 (fun q2 => q ((rg_lt hb ha).mpr q2)) p l e R s m args below meth c Z G A cells slots C w z r f H locs ls hP hS hl)
theorem xj_cmp_le {sc : Option (Nat × (Int → Int))} {d : Nat} {k : MI} {h : Hp} {pc pc2 : Nat} {lo : Lo} {st : List Value} {Q : Int → Hp → Prop} {a b off : Int} {tgt : Nat} (hd : decode k.2.1 pc = .ok (.if_icmp .le off, 3)) (ht : (pc : Int) + off = (tgt : Int)) (hp : pc + 3 = pc2) (ha : -2147483648 ≤ a ∧ a ≤ 2147483647) (hb : -2147483648 ≤ b ∧ b ≤ 2147483647) (kk1 : a ≤ b → XJ sc d k h tgt lo st Q) (kk2 : ¬ (a ≤ b) → XJ sc d k h pc2 lo st Q) : XJ sc d k h pc lo (vi b :: vi a :: st) Q := by
  subst hp
  intro p l e R s m args below meth c Z G A cells slots C w z r f H locs ls hP hS hl
  exact lv_icmp_le C.1 C.2.1 hd ht (fun q => kk1 ((rg_le ha hb).mp q) p l e R s m args below meth c Z G A cells slots C w z r f H locs ls hP hS hl) (fun q => kk2 (fun q2 => q ((rg_le ha hb).mpr q2)) p l e R s m args below meth c Z G A cells slots C w z r f H locs ls hP hS hl)
theorem r00 : -2147483648 ≤ (0 : Int) ∧ (0 : Int) ≤ 2147483647 := by decide
theorem xj_if_eq {sc : Option (Nat × (Int → Int))} {d : Nat} {k : MI} {h : Hp} {pc pc2 : Nat} {lo : Lo} {st : List Value} {Q : Int → Hp → Prop} {a off : Int} {tgt : Nat} (hd : decode k.2.1 pc = .ok (.ifCond .eq off, 3)) (ht : (pc : Int) + off = (tgt : Int)) (hp : pc + 3 = pc2) (ha : -2147483648 ≤ a ∧ a ≤ 2147483647) (kk1 : a = 0 → XJ sc d k h tgt lo st Q) (kk2 : ¬ (a = 0) → XJ sc d k h pc2 lo st Q) : XJ sc d k h pc lo (vi a :: st) Q := by
  subst hp
  intro p l e R s m args below meth c Z G A cells slots C w z r f H locs ls hP hS hl
  exact lv_if_eq C.1 C.2.1 hd ht (fun q => kk1 ((rg_eq ha r00).mp q) p l e R s m args below meth c Z G A cells slots C w z r f H locs ls hP hS hl) (fun q => kk2 (fun q2 => q ((rg_eq ha r00).mpr q2)) p l e R s m args below meth c Z G A cells slots C w z r f H locs ls hP hS hl)
theorem xj_if_ne {sc : Option (Nat × (Int → Int))} {d : Nat} {k : MI} {h : Hp} {pc pc2 : Nat} {lo : Lo} {st : List Value} {Q : Int → Hp → Prop} {a off : Int} {tgt : Nat} (hd : decode k.2.1 pc = .ok (.ifCond .ne off, 3)) (ht : (pc : Int) + off = (tgt : Int)) (hp : pc + 3 = pc2) (ha : -2147483648 ≤ a ∧ a ≤ 2147483647) (kk1 : ¬ a = 0 → XJ sc d k h tgt lo st Q) (kk2 : a = 0 → XJ sc d k h pc2 lo st Q) : XJ sc d k h pc lo (vi a :: st) Q := by
  subst hp
  intro p l e R s m args below meth c Z G A cells slots C w z r f H locs ls hP hS hl
  exact lv_if_ne C.1 C.2.1 hd ht (fun q => kk1 (fun q2 => q (by rw [q2]; rfl)) p l e R s m args below meth c Z G A cells slots C w z r f H locs ls hP hS hl) (fun q => kk2 ((rg_eq ha r00).mp q) p l e R s m args below meth c Z G A cells slots C w z r f H locs ls hP hS hl)
theorem xj_if_lt {sc : Option (Nat × (Int → Int))} {d : Nat} {k : MI} {h : Hp} {pc pc2 : Nat} {lo : Lo} {st : List Value} {Q : Int → Hp → Prop} {a off : Int} {tgt : Nat} (hd : decode k.2.1 pc = .ok (.ifCond .lt off, 3)) (ht : (pc : Int) + off = (tgt : Int)) (hp : pc + 3 = pc2) (ha : -2147483648 ≤ a ∧ a ≤ 2147483647) (kk1 : a < 0 → XJ sc d k h tgt lo st Q) (kk2 : ¬ (a < 0) → XJ sc d k h pc2 lo st Q) : XJ sc d k h pc lo (vi a :: st) Q := by
  subst hp
  intro p l e R s m args below meth c Z G A cells slots C w z r f H locs ls hP hS hl
  exact lv_if_lt C.1 C.2.1 hd ht (fun q => kk1 ((rg_lt ha r00).mp q) p l e R s m args below meth c Z G A cells slots C w z r f H locs ls hP hS hl) (fun q => kk2 (fun q2 => q ((rg_lt ha r00).mpr q2)) p l e R s m args below meth c Z G A cells slots C w z r f H locs ls hP hS hl)
theorem xj_if_ge {sc : Option (Nat × (Int → Int))} {d : Nat} {k : MI} {h : Hp} {pc pc2 : Nat} {lo : Lo} {st : List Value} {Q : Int → Hp → Prop} {a off : Int} {tgt : Nat} (hd : decode k.2.1 pc = .ok (.ifCond .ge off, 3)) (ht : (pc : Int) + off = (tgt : Int)) (hp : pc + 3 = pc2) (ha : -2147483648 ≤ a ∧ a ≤ 2147483647) (kk1 : 0 ≤ a → XJ sc d k h tgt lo st Q) (kk2 : ¬ (0 ≤ a) → XJ sc d k h pc2 lo st Q) : XJ sc d k h pc lo (vi a :: st) Q := by
  subst hp
  intro p l e R s m args below meth c Z G A cells slots C w z r f H locs ls hP hS hl
  exact lv_if_ge C.1 C.2.1 hd ht (fun q => kk1 ((rg_le r00 ha).mp q) p l e R s m args below meth c Z G A cells slots C w z r f H locs ls hP hS hl) (fun q => kk2 (fun q2 => q ((rg_le r00 ha).mpr q2)) p l e R s m args below meth c Z G A cells slots C w z r f H locs ls hP hS hl)
theorem xj_if_gt {sc : Option (Nat × (Int → Int))} {d : Nat} {k : MI} {h : Hp} {pc pc2 : Nat} {lo : Lo} {st : List Value} {Q : Int → Hp → Prop} {a off : Int} {tgt : Nat} (hd : decode k.2.1 pc = .ok (.ifCond .gt off, 3)) (ht : (pc : Int) + off = (tgt : Int)) (hp : pc + 3 = pc2) (ha : -2147483648 ≤ a ∧ a ≤ 2147483647) (kk1 : 0 < a → XJ sc d k h tgt lo st Q) (kk2 : ¬ (0 < a) → XJ sc d k h pc2 lo st Q) : XJ sc d k h pc lo (vi a :: st) Q := by
  subst hp
  intro p l e R s m args below meth c Z G A cells slots C w z r f H locs ls hP hS hl
  exact lv_if_gt C.1 C.2.1 hd ht (fun q => kk1 ((rg_lt r00 ha).mp q) p l e R s m args below meth c Z G A cells slots C w z r f H locs ls hP hS hl) (fun q => kk2 (fun q2 => q ((rg_lt r00 ha).mpr q2)) p l e R s m args below meth c Z G A cells slots C w z r f H locs ls hP hS hl)
theorem xj_if_le {sc : Option (Nat × (Int → Int))} {d : Nat} {k : MI} {h : Hp} {pc pc2 : Nat} {lo : Lo} {st : List Value} {Q : Int → Hp → Prop} {a off : Int} {tgt : Nat} (hd : decode k.2.1 pc = .ok (.ifCond .le off, 3)) (ht : (pc : Int) + off = (tgt : Int)) (hp : pc + 3 = pc2) (ha : -2147483648 ≤ a ∧ a ≤ 2147483647) (kk1 : a ≤ 0 → XJ sc d k h tgt lo st Q) (kk2 : ¬ (a ≤ 0) → XJ sc d k h pc2 lo st Q) : XJ sc d k h pc lo (vi a :: st) Q := by
  subst hp
  intro p l e R s m args below meth c Z G A cells slots C w z r f H locs ls hP hS hl
  exact lv_if_le C.1 C.2.1 hd ht (fun q => kk1 ((rg_le ha r00).mp q) p l e R s m args below meth c Z G A cells slots C w z r f H locs ls hP hS hl) (fun q => kk2 (fun q2 => q ((rg_le ha r00).mpr q2)) p l e R s m args below meth c Z G A cells slots C w z r f H locs ls hP hS hl)
theorem xj_goto {sc : Option (Nat × (Int → Int))} {d : Nat} {k : MI} {h : Hp} {pc : Nat} {lo : Lo} {st : List Value} {Q : Int → Hp → Prop} {off : Int} {tgt : Nat} (hd : decode k.2.1 pc = .ok (.goto off, 3)) (ht : (pc : Int) + off = (tgt : Int)) (kk : XJ sc d k h tgt lo st Q) : XJ sc d k h pc lo st Q := by
  intro p l e R s m args below meth c Z G A cells slots C w z r f H locs ls hP hS hl
  exact lv_goto C.1 C.2.1 hd ht (kk p l e R s m args below meth c Z G A cells slots C w z r f H locs ls hP hS hl)
theorem xj_ifnull {sc : Option (Nat × (Int → Int))} {d : Nat} {k : MI} {h : Hp} {pc pc2 : Nat} {lo : Lo} {st : List Value} {Q : Int → Hp → Prop} {off : Int} {a : Nat} (hd : decode k.2.1 pc = .ok (.ifnull off, 3)) (hp : pc + 3 = pc2) (kk : XJ sc d k h pc2 lo st Q) : XJ sc d k h pc lo (.ref a :: st) Q := by
  subst hp
  intro p l e R s m args below meth c Z G A cells slots C w z r f H locs ls hP hS hl
  exact lv_ifnull C.1 C.2.1 hd (kk p l e R s m args below meth c Z G A cells slots C w z r f H locs ls hP hS hl)
theorem xj_tabIn {sc : Option (Nat × (Int → Int))} {d : Nat} {k : MI} {h : Hp} {pc : Nat} {lo : Lo} {st : List Value} {Q : Int → Hp → Prop} {a dflt x1 x2 off : Int} {offs : Array Int} {len tgt : Nat} (hd : decode k.2.1 pc = .ok (.tableswitch dflt x1 x2 offs, len)) (ha : -2147483648 ≤ a ∧ a ≤ 2147483647) (h12 : x1 ≤ a ∧ a ≤ x2) (ho : offs[(a - x1).toNat]? = some off) (ht : (pc : Int) + off = (tgt : Int)) (kk : XJ sc d k h tgt lo st Q) : XJ sc d k h pc lo (vi a :: st) Q := by
  intro p l e R s m args below meth c Z G A cells slots C w z r f H locs ls hP hS hl
  exact lv_tableIn C.1 C.2.1 hd (by rw [rg_toInt ha]; omega) (by rw [rg_toInt ha]; omega) (by rw [rg_toInt ha]; exact ho) ht (kk p l e R s m args below meth c Z G A cells slots C w z r f H locs ls hP hS hl)
theorem xj_tabOut {sc : Option (Nat × (Int → Int))} {d : Nat} {k : MI} {h : Hp} {pc : Nat} {lo : Lo} {st : List Value} {Q : Int → Hp → Prop} {a dflt x1 x2 : Int} {offs : Array Int} {len tgt : Nat} (hd : decode k.2.1 pc = .ok (.tableswitch dflt x1 x2 offs, len)) (ha : -2147483648 ≤ a ∧ a ≤ 2147483647) (h12 : a < x1 ∨ x2 < a) (ht : (pc : Int) + dflt = (tgt : Int)) (kk : XJ sc d k h tgt lo st Q) : XJ sc d k h pc lo (vi a :: st) Q := by
  intro p l e R s m args below meth c Z G A cells slots C w z r f H locs ls hP hS hl
  exact lv_tableOut C.1 C.2.1 hd (by rw [rg_toInt ha]; exact h12) ht (kk p l e R s m args below meth c Z G A cells slots C w z r f H locs ls hP hS hl)
theorem xj_look {sc : Option (Nat × (Int → Int))} {d : Nat} {k : MI} {h : Hp} {pc : Nat} {lo : Lo} {st : List Value} {Q : Int → Hp → Prop} {a dflt off : Int} {ps : Array (Int × Int)} {len tgt : Nat} (hd : decode k.2.1 pc = .ok (.lookupswitch dflt ps, len)) (ha : -2147483648 ≤ a ∧ a ≤ 2147483647) (hs : (ps.toList.zip (ps.toList.drop 1)).all (fun (a, next) => a.1 < next.1) = true) (ho : Op.lookupswitch.offset ps.toList dflt a = off) (ht : (pc : Int) + off = (tgt : Int)) (kk : XJ sc d k h tgt lo st Q) : XJ sc d k h pc lo (vi a :: st) Q := by
  intro p l e R s m args below meth c Z G A cells slots C w z r f H locs ls hP hS hl
  exact lv_lookup C.1 C.2.1 hd hs (by rw [rg_toInt ha]; exact ho) ht (kk p l e R s m args below meth c Z G A cells slots C w z r f H locs ls hP hS hl)
end
section
def FOK (cs : String) (idx ci kf : Nat) : Prop := ∃ (C : String) (T : u_T) (N : Nat) (ty : Nat → FieldType), xjCl[ci]? = some (C, T, N) ∧ kf < N ∧ (∀ w ∈ u_ws C T N, w ∈ wT) ∧ Cond.fieldLink cs idx (T kf).1 (T kf).2.1 (T kf).2.2.1 ∈ wT ∧ (∀ j, j < N → parseFieldDescriptor (T j).2.2.1 = some (ty j)) ∧ (∀ a, a < N → ∀ b, b < N → a ≠ b → (T a).2.1 ≠ (T b).2.1) ∧ nF ci = N ∧ (ftag ci kf ≠ 0 → (T kf).2.2.2 = false) ∧ (ftag ci kf = 1 → ty kf = .int) ∧ (ftag ci kf = 2 → ty kf = .long) ∧ (ftag ci kf = 3 → ty kf = .boolean)
theorem ent_obj {G : Gw} {h : Hp} {c ci : Nat} (hk : kd c = (0, ci)) : ent G h c = .inr (ci, (List.range (nF ci)).map (fv G h c ci)) := by
  unfold ent
  rw [hk]
  rfl
theorem ent_ia {G : Gw} {h : Hp} {c n : Nat} (hk : kd c = (1, n)) : ent G h c = .inl (G.2.1, n, .inl fun i => Int32.ofInt (h c i)) := by
  unfold ent
  rw [hk]
  rfl
theorem ent_ba {G : Gw} {h : Hp} {c n : Nat} (hk : kd c = (2, n)) : ent G h c = .inl (G.2.2.1, n, .inl fun i => Int32.ofInt (h c i)) := by
  unfold ent
  rw [hk]
  rfl
section FJ
variable {sc : Option (Nat × (Int → Int))} {d : Nat} {k : MI} {h : Hp} {pc pc2 : Nat} {lo : Lo} {st : List Value} {Q : Int → Hp → Prop}
theorem xg_get {cs : String} {idx ci kf c : Nat} (F : FOK cs idx ci kf) (hd : decode k.2.1 pc = .ok (.getfield idx, 3)) (he : k.1.cls = cs) (hk : kd c = (0, ci)) {v : Value} (hv : ∀ G : Gw, fv G h c ci kf = cv G v) (kk : XJ sc d k h (pc + 3) lo (v :: st) Q) : XJ sc d k h pc lo (.ref c :: st) Q := by
  intro p l e R s m args below meth c0 Z G A cells slots C w z r f H locs ls hP hS hl
  have K := kk p l e R s m args below meth c0 Z G A cells slots C w z r f H locs ls hP hS hl
  obtain ⟨Cn, T, N, ty, f1, f2, f3, f4, f5, f6, f7, -⟩ := F
  obtain ⟨q0, -, hq⟩ := WS_at (G := G) (h := h) (kd_mem hk (by decide))
  rw [ent_obj hk] at hq
  refine va_get C.1 C.2.1 C.2.2.2.2.2.1 f3 (he ▸ C.2.2.2.2.1) w.1 hP q0 hq f1 kf f2 (C.2.2.2.2.2.1 _ f4) (fun x hx => hx) (v := fv G h c ci kf) ?_ hd ?_
  · rw [List.getElem?_map, List.getElem?_range (by rw [f7]; exact f2)]
    rfl
  · rw [hv G]
    exact K
theorem xj_getI {cs : String} {idx ci kf c : Nat} {kz v : Int} (F : FOK cs idx ci kf) (hd : decode k.2.1 pc = .ok (.getfield idx, 3)) (hp : pc + 3 = pc2) (he : k.1.cls = cs) (hk : kd c = (0, ci)) (ht : ftag ci kf = 1 ∨ ftag ci kf = 3) (hz : (kf : Int) = kz) (hv : h c kz = v) (kk : XJ sc d k h pc2 lo (vi v :: st) Q) : XJ sc d k h pc lo (.ref c :: st) Q := by
  subst hp; subst hz; subst hv
  refine xg_get F hd he hk (fun G => ?_) kk
  rcases ht with ht | ht <;> (unfold fv; rw [ht]; rfl)
theorem xj_getJ {cs : String} {idx ci kf c : Nat} {kz v : Int} (F : FOK cs idx ci kf) (hd : decode k.2.1 pc = .ok (.getfield idx, 3)) (hp : pc + 3 = pc2) (he : k.1.cls = cs) (hk : kd c = (0, ci)) (ht : ftag ci kf = 2) (hz : (kf : Int) = kz) (hv : h c kz = v) (kk : XJ sc d k h pc2 lo (vl v :: st) Q) : XJ sc d k h pc lo (.ref c :: st) Q := by
  subst hp; subst hz; subst hv
  exact xg_get F hd he hk (fun G => by unfold fv; rw [ht]; rfl) kk
theorem xj_getR {cs : String} {idx ci kf c : Nat} (F : FOK cs idx ci kf) (hd : decode k.2.1 pc = .ok (.getfield idx, 3)) (hp : pc + 3 = pc2) (he : k.1.cls = cs) (hk : kd c = (0, ci)) (ht : ftag ci kf = 0) (kk : XJ sc d k h pc2 lo (.ref (ch c kf) :: st) Q) : XJ sc d k h pc lo (.ref c :: st) Q := by
  subst hp
  exact xg_get F hd he hk (fun G => by unfold fv; rw [ht]; rfl) kk
theorem fv_set {G : Gw} {ci c kf N : Nat} {v : Int} {x : Value} (hx : fv G (hset h c kf v) c ci kf = x) : (List.range N).map (fv G (hset h c kf v) c ci) = ((List.range N).map (fv G h c ci)).set kf x := by
  apply List.ext_getElem?
  intro j
  by_cases e : kf = j
  · subst e
    by_cases hl : kf < N
    · rw [List.getElem?_set_self (by simpa using hl), List.getElem?_map, List.getElem?_range hl]
      simp [hx]
    · rw [List.getElem?_eq_none (by simpa using hl), List.getElem?_eq_none (by simpa using hl)]
  · rw [List.getElem?_set_ne e, List.getElem?_map, List.getElem?_map]
    cases hj : (List.range N)[j]? with
    | none => rfl
    | some j' =>
      have hj' : j' = j := by
        by_cases hl : j < N
        · rw [List.getElem?_range hl] at hj; exact (Option.some.inj hj).symm
        · rw [List.getElem?_eq_none (by simpa using hl)] at hj; cases hj
      subst hj'
      simp only [Option.map_some]
      unfold fv
      rw [hset_nk (by omega)]
theorem xg_put {cs : String} {idx ci kf c : Nat} {v : Int} {x : Value} (F : FOK cs idx ci kf) (hd : decode k.2.1 pc = .ok (.putfield idx, 3)) (he : k.1.cls = cs) (hk : kd c = (0, ci)) (ht : ftag ci kf ≠ 0) (hx : ∀ G : Gw, fv G (hset h c kf v) c ci kf = x) (hcv : ∀ G : Gw, cv G x = x) (hn : ∀ ty : FieldType, (ftag ci kf = 1 → ty = .int) → (ftag ci kf = 2 → ty = .long) → (ftag ci kf = 3 → ty = .boolean) → narrow ty x = x ∧ fits ty x = true) (kk : XJ sc d k (hset h c kf v) (pc + 3) lo st Q) : XJ sc d k h pc lo (x :: .ref c :: st) Q := by
  intro p l e R s m args below meth c0 Z G A cells slots C w z r f H locs ls hP hS hl
  obtain ⟨Cn, T, N, ty, f1, f2, f3, f4, f5, f6, f7, f8, f9, f10, f11⟩ := F
  obtain ⟨q0, hc0, hq⟩ := WS_at (G := G) (h := h) (kd_mem hk (by decide))
  rw [ent_obj hk] at hq
  have hnn := hn (ty kf) f9 f10 f11
  have hst : List.map (cv G) (x :: .ref c :: st) = x :: .ref (G.2.2.2 c) :: st.map (cv G) := by
    rw [List.map_cons, hcv G]; rfl
  rw [hst]
  refine va_put C.1 C.2.1 C.2.2.2.2.2.1 f3 ty f5 f6 (he ▸ C.2.2.2.2.1) w.1 hP (Wd_D w h) hS q0 hq f1 kf f2 (C.2.2.2.2.2.1 _ f4) (fun x hx => hx) (f8 ht) (f5 kf f2) hnn.1 hnn.2 (by simpa [f7] using f2) hd ?_
  intro H1 locs1 hP1 hD1 hS1
  have e1 : ((List.range (nF ci)).map (fv G h c ci)).set kf x = (List.range (nF ci)).map (fv G (hset h c kf v) c ci) := (fv_set (hx G)).symm
  rw [e1, ← ent_obj hk, WS_set hc0 (fun c' j hj => hset_nc hj)] at hP1
  exact kk p l e R s m args below meth c0 Z G A cells slots C w z r f H1 locs1 ls hP1 hS1 hl
theorem xj_putI {cs : String} {idx ci kf c : Nat} {kz v : Int} (F : FOK cs idx ci kf) (hd : decode k.2.1 pc = .ok (.putfield idx, 3)) (hp : pc + 3 = pc2) (he : k.1.cls = cs) (hk : kd c = (0, ci)) (ht : ftag ci kf = 1) (hz : (kf : Int) = kz) (kk : XJ sc d k (hset h c kz v) pc2 lo st Q) : XJ sc d k h pc lo (vi v :: .ref c :: st) Q := by
  subst hp; subst hz
  refine xg_put F hd he hk (by rw [ht]; decide) (fun G => ?_) (fun G => rfl) (fun ty h1 h2 h3 => ?_) kk
  · unfold fv
    rw [ht, hset_eq]
    rfl
  · rw [h1 ht]
    exact ⟨rfl, rfl⟩
theorem xj_putZ {cs : String} {idx ci kf c : Nat} {kz v : Int} (F : FOK cs idx ci kf) (hd : decode k.2.1 pc = .ok (.putfield idx, 3)) (hp : pc + 3 = pc2) (he : k.1.cls = cs) (hk : kd c = (0, ci)) (ht : ftag ci kf = 3) (hz : (kf : Int) = kz) (hb : v = 0 ∨ v = 1) (kk : XJ sc d k (hset h c kz v) pc2 lo st Q) : XJ sc d k h pc lo (vi v :: .ref c :: st) Q := by
  subst hp; subst hz
  refine xg_put F hd he hk (by rw [ht]; decide) (fun G => ?_) (fun G => rfl) (fun ty h1 h2 h3 => ?_) kk
  · unfold fv
    rw [ht, hset_eq]
    rfl
  · rw [h3 ht]
    rcases hb with rfl | rfl <;> exact ⟨rfl, rfl⟩
theorem xj_putJ {cs : String} {idx ci kf c : Nat} {kz v : Int} (F : FOK cs idx ci kf) (hd : decode k.2.1 pc = .ok (.putfield idx, 3)) (hp : pc + 3 = pc2) (he : k.1.cls = cs) (hk : kd c = (0, ci)) (ht : ftag ci kf = 2) (hz : (kf : Int) = kz) (kk : XJ sc d k (hset h c kz v) pc2 lo st Q) : XJ sc d k h pc lo (vl v :: .ref c :: st) Q := by
  subst hp; subst hz
  refine xg_put F hd he hk (by rw [ht]; decide) (fun G => ?_) (fun G => rfl) (fun ty h1 h2 h3 => ?_) kk
  · unfold fv
    rw [ht, hset_eq]
    rfl
  · rw [h2 ht]
    exact ⟨rfl, rfl⟩
theorem xj_iald {c n : Nat} {i v : Int} (hd : decode k.2.1 pc = .ok (.iaload, 1)) (hp : pc + 1 = pc2) (hk : kd c = (1, n)) (hi : 0 ≤ i ∧ i < n) (hn : n ≤ 4096) (hv : h c i = v) (kk : XJ sc d k h pc2 lo (vi v :: st) Q) : XJ sc d k h pc lo (vi i :: .ref c :: st) Q := by
  subst hp; subst hv
  intro p l e R s m args below meth c0 Z G A cells slots C w z r f H locs ls hP hS hl
  have K := kk p l e R s m args below meth c0 Z G A cells slots C w z r f H locs ls hP hS hl
  obtain ⟨q0, -, hq⟩ := WS_at (G := G) (h := h) (kd_mem hk (by decide))
  rw [ent_ia hk] at hq
  refine va_iald C.1 C.2.1 w.1 hP q0 0 hq rfl (rg_in hi hn) hd ?_
  rw [rg_clamp (by omega), Int.toNat_of_nonneg hi.1]
  exact K
theorem xj_bald {c n : Nat} {i v : Int} (hd : decode k.2.1 pc = .ok (.baload, 1)) (hp : pc + 1 = pc2) (hk : kd c = (2, n)) (hi : 0 ≤ i ∧ i < n) (hn : n ≤ 4096) (hv : h c i = v) (kk : XJ sc d k h pc2 lo (vi v :: st) Q) : XJ sc d k h pc lo (vi i :: .ref c :: st) Q := by
  subst hp; subst hv
  intro p l e R s m args below meth c0 Z G A cells slots C w z r f H locs ls hP hS hl
  have K := kk p l e R s m args below meth c0 Z G A cells slots C w z r f H locs ls hP hS hl
  obtain ⟨q0, -, hq⟩ := WS_at (G := G) (h := h) (kd_mem hk (by decide))
  rw [ent_ba hk] at hq
  refine va_bald C.1 C.2.1 w.1 hP q0 1 hq rfl (rg_in hi hn) hd ?_
  rw [rg_clamp (by omega), Int.toNat_of_nonneg hi.1]
  exact K
theorem xj_aset {c : Nat} {i v : Int} (h0 : 0 ≤ i) : upd (fun j : Nat => Int32.ofInt (h c j)) i.toNat (Int32.ofInt v) = fun j : Nat => Int32.ofInt (hset h c i v c j) := by
  funext j
  unfold upd
  by_cases e : j = i.toNat
  · subst e
    rw [if_pos rfl, Int.toNat_of_nonneg h0, hset_eq]
  · rw [if_neg e, hset_nk (by omega)]
theorem xj_iast {c n : Nat} {i v : Int} (hd : decode k.2.1 pc = .ok (.iastore, 1)) (hp : pc + 1 = pc2) (hk : kd c = (1, n)) (hi : 0 ≤ i ∧ i < n) (hn : n ≤ 4096) (kk : XJ sc d k (hset h c i v) pc2 lo st Q) : XJ sc d k h pc lo (vi v :: vi i :: .ref c :: st) Q := by
  subst hp
  intro p l e R s m args below meth c0 Z G A cells slots C w z r f H locs ls hP hS hl
  obtain ⟨q0, hc0, hq⟩ := WS_at (G := G) (h := h) (kd_mem hk (by decide))
  rw [ent_ia hk] at hq
  refine va_iast C.1 C.2.1 w.1 hP (Wd_D w h) hS q0 0 hq rfl (rg_in hi hn) hd ?_
  intro H1 locs1 hP1 hD1 hS1
  rw [rg_clamp (by omega), xj_aset hi.1, ← ent_ia hk, WS_set hc0 (fun c' j hj => hset_nc hj)] at hP1
  exact kk p l e R s m args below meth c0 Z G A cells slots C w z r f H1 locs1 ls hP1 hS1 hl
theorem xj_bast {c n : Nat} {i v : Int} (hd : decode k.2.1 pc = .ok (.bastore, 1)) (hp : pc + 1 = pc2) (hk : kd c = (2, n)) (hi : 0 ≤ i ∧ i < n) (hn : n ≤ 4096) (hb : -128 ≤ v ∧ v ≤ 127) (kk : XJ sc d k (hset h c i v) pc2 lo st Q) : XJ sc d k h pc lo (vi v :: vi i :: .ref c :: st) Q := by
  subst hp
  intro p l e R s m args below meth c0 Z G A cells slots C w z r f H locs ls hP hS hl
  obtain ⟨q0, hc0, hq⟩ := WS_at (G := G) (h := h) (kd_mem hk (by decide))
  rw [ent_ba hk] at hq
  refine va_bast C.1 C.2.1 w.1 hP (Wd_D w h) hS q0 1 hq rfl (rg_in hi hn) hd ?_
  intro H1 locs1 hP1 hD1 hS1
  rw [rg_clamp (by omega), vp_nar_byte, i2b_ok hb, xj_aset hi.1, ← ent_ba hk, WS_set hc0 (fun c' j hj => hset_nc hj)] at hP1
  exact kk p l e R s m args below meth c0 Z G A cells slots C w z r f H1 locs1 ls hP1 hS1 hl
theorem xj_alen {c n : Nat} {v : Int} (hd : decode k.2.1 pc = .ok (.arraylength, 1)) (hp : pc + 1 = pc2) (hk : kd c = (1, n)) (hv : (n : Int) = v) (kk : XJ sc d k h pc2 lo (vi v :: st) Q) : XJ sc d k h pc lo (.ref c :: st) Q := by
  subst hp; subst hv
  intro p l e R s m args below meth c0 Z G A cells slots C w z r f H locs ls hP hS hl
  have K := kk p l e R s m args below meth c0 Z G A cells slots C w z r f H locs ls hP hS hl
  obtain ⟨q0, -, hq⟩ := WS_at (G := G) (h := h) (kd_mem hk (by decide))
  rw [ent_ia hk] at hq
  exact va_alen (v := Int32.ofInt (n : Int)) C.1 C.2.1 w.1 hP q0 0 hq rfl rfl hd K
def hcopy (h : Hp) (c0 c1 : Nat) (n : Int) : Hp := fun c i => if c = c1 ∧ 0 ≤ i ∧ i < n then h c0 i else h c i
theorem xj_copy {cs : String} {idx c0 c1 n0 n1 : Nat} {n : Int} (hl : Cond.methodLink cs idx arraycopyName ∈ wT) (hd : decode k.2.1 pc = .ok (.invokestatic idx, 3)) (hp : pc + 3 = pc2) (he : k.1.cls = cs) (hk0 : kd c0 = (1, n0)) (hk1 : kd c1 = (1, n1)) (hn : 0 ≤ n ∧ n ≤ n0 ∧ n ≤ n1 ∧ n ≤ 4096) (hst : st = []) (kk : XJ sc d k (hcopy h c0 c1 n) pc2 lo st Q) : XJ sc d k h pc lo (vi n :: vi 0 :: .ref c1 :: vi 0 :: .ref c0 :: st) Q := by
  subst hp; subst hst
  intro p l e R s m args below meth c Z G A cells slots C w z r f H locs ls hP hS hll
  obtain ⟨q0, hc0, hq0⟩ := WS_at (G := G) (h := h) (kd_mem hk0 (by decide))
  obtain ⟨q1, hc1, hq1⟩ := WS_at (G := G) (h := h) (kd_mem hk1 (by decide))
  rw [ent_ia hk0] at hq0
  rw [ent_ia hk1] at hq1
  have hn0 : (Int32.ofInt n).toNatClampNeg = n.toNat := rg_clamp (by omega)
  have h00 : (Int32.ofInt 0).toNatClampNeg = 0 := rfl
  refine va_copyi (sp := Int32.ofInt 0) (dp := Int32.ofInt 0) (n := Int32.ofInt n) C.1 C.2.1 (by rw [C.2.2.1]; exact hll.1.symm) (he ▸ C.2.2.2.2.1) (C.2.2.2.2.2.1 _ hl) (C.2.2.2.2.2.1 _ nat_arraycopyName) (C.2.2.2.2.2.1 _ sta_arraycopyName) (C.2.2.2.2.2.1 _ ini_J10) w.1 hP (Wd_D w h) hS q0 q1 0 0 hq0 hq1 rfl rfl rfl (by decide) (by decide) (by rw [i0, rg_lt (by omega) (by omega)]; omega) (by rw [hn0, h00]; omega) (by rw [hn0, h00]; omega) (fun _ _ => rfl) (by have := C.2.2.2.2.2.2.2.2.1; omega) (by have := C.2.2.2.2.2.2.2.2.2; simp [nativeFrameWords]; omega) hd ?_
  intro H1 locs1 hP1 hD1 hS1
  have e1 : va_cpy (fun i : Nat => Int32.ofInt (h c0 i)) (fun i : Nat => Int32.ofInt (h c1 i)) (Int32.ofInt 0).toNatClampNeg (Int32.ofInt 0).toNatClampNeg (Int32.ofInt n).toNatClampNeg = fun i : Nat => Int32.ofInt (hcopy h c0 c1 n c1 i) := by
    rw [hn0, h00]
    funext j
    unfold va_cpy hcopy
    by_cases hj : j < n.toNat
    · rw [if_pos (by omega), if_pos (by omega)]
      simp
    · rw [if_neg (by omega), if_neg (by omega)]
  rw [e1, ← ent_ia hk1, WS_set hc1 (fun c' j hj => by unfold hcopy; rw [if_neg (fun q => hj q.1)])] at hP1
  exact kk p l e R s m args below meth c Z G A cells slots C w z r f H1 locs1 ls hP1 hS1 hll
theorem xj_sld {c L : Nat} {xs : Int → Int} {i v : Int} (hsc : sc = some (L, xs)) (hd : decode k.2.1 pc = .ok (.iaload, 1)) (hp : pc + 1 = pc2) (hi : 0 ≤ i ∧ i < L) (hn : L ≤ 4096) (hv : xs i = v) (hc : c = 1000) (kk : XJ sc d k h pc2 lo (vi v :: st) Q) : XJ sc d k h pc lo (vi i :: .ref c :: st) Q := by
  subst hp; subst hv; subst hc
  intro p l e R s m args below meth c0 Z G A cells slots C w z r f H locs ls hP hS hl
  have K := kk p l e R s m args below meth c0 Z G A cells slots C w z r f H locs ls hP hS hl
  obtain ⟨z1, z2, z3⟩ := z L xs hsc
  refine va_sld C.1 C.2.1 z1 z2 z3 hS (rg_in hi hn) hd ?_
  rw [rg_clamp (by omega), Int.toNat_of_nonneg hi.1]
  exact K
theorem xj_slen {c L : Nat} {xs : Int → Int} {v : Int} (hsc : sc = some (L, xs)) (hd : decode k.2.1 pc = .ok (.arraylength, 1)) (hp : pc + 1 = pc2) (hv : (L : Int) = v) (hc : c = 1000) (kk : XJ sc d k h pc2 lo (vi v :: st) Q) : XJ sc d k h pc lo (.ref c :: st) Q := by
  subst hp; subst hv; subst hc
  intro p l e R s m args below meth c0 Z G A cells slots C w z r f H locs ls hP hS hl
  have K := kk p l e R s m args below meth c0 Z G A cells slots C w z r f H locs ls hP hS hl
  obtain ⟨z1, z2, z3⟩ := z L xs hsc
  exact va_slen C.1 C.2.1 z1 z2 z3 hS hd K
/-! the ends -/
theorem xj_iret {x : Int} (hd : decode k.2.1 pc = .ok (.ireturn, 1)) (hr : k.2.2.2 = some .int) (hq : Q x h) : XJ sc d k h pc lo [vi x] Q := by
  intro p l e R s m args below meth c0 Z G A cells slots C w z r f H locs ls hP hS hl
  exact f x h H locs pc ls [vi x] hq (Or.inl ⟨hd, rfl, Or.inl hr⟩) hP hS
theorem xj_zret {x : Int} (hd : decode k.2.1 pc = .ok (.ireturn, 1)) (hr : k.2.2.2 = some .boolean) (hx : x = 0 ∨ x = 1) (hq : Q x h) : XJ sc d k h pc lo [vi x] Q := by
  intro p l e R s m args below meth c0 Z G A cells slots C w z r f H locs ls hP hS hl
  exact f x h H locs pc ls [vi x] hq (Or.inl ⟨hd, rfl, Or.inr ⟨hr, hx⟩⟩) hP hS
theorem xj_lret {x : Int} (hd : decode k.2.1 pc = .ok (.lreturn, 1)) (hr : k.2.2.2 = some .long) (hq : Q x h) : XJ sc d k h pc lo [vl x] Q := by
  intro p l e R s m args below meth c0 Z G A cells slots C w z r f H locs ls hP hS hl
  exact f x h H locs pc ls [vl x] hq (Or.inr (Or.inl ⟨hd, rfl, hr⟩)) hP hS
theorem xj_vret (hd : decode k.2.1 pc = .ok (.return_, 1)) (hr : k.2.2.2 = none) (hq : Q 0 h) : XJ sc d k h pc lo [] Q := by
  intro p l e R s m args below meth c0 Z G A cells slots C w z r f H locs ls hP hS hl
  exact f 0 h H locs pc ls [] hq (Or.inr (Or.inr ⟨hd, rfl, hr⟩)) hP hS
/-! fewer locals -/
def subL : Lo → Lo → Prop
  | [], _ => True
  | none :: t, _ :: t' => subL t t'
  | some v :: t, some v' :: t' => v = v' ∧ subL t t'
  | _, _ => False
theorem subL_at : ∀ (a b : Lo), subL a b → ∀ (i : Nat) (v : Value), a[i]? = some (some v) → b[i]? = some (some v)
  | [], b, _, i, v, h => by simp at h
  | none :: t, [], hs, i, v, h => by cases hs
  | none :: t, x :: t', hs, i, v, h => by
    cases i with
    | zero => simp at h
    | succ i =>
      rw [List.getElem?_cons_succ] at h ⊢
      exact subL_at t t' (by simpa [subL] using hs) i v h
  | some v0 :: t, [], hs, i, v, h => by cases hs
  | some v0 :: t, none :: t', hs, i, v, h => by simp [subL] at hs
  | some v0 :: t, some v1 :: t', hs, i, v, h => by
    have hs2 : v0 = v1 ∧ subL t t' := hs
    cases i with
    | zero =>
      rw [List.getElem?_cons_zero] at h ⊢
      rw [← hs2.1]; exact h
    | succ i =>
      rw [List.getElem?_cons_succ] at h ⊢
      exact subL_at t t' hs2.2 i v h
theorem xj_sub {lo2 : Lo} (hs : subL lo2 lo) (kk : XJ sc d k h pc lo2 st Q) : XJ sc d k h pc lo st Q := by
  intro p l e R s m args below meth c0 Z G A cells slots C w z r f H locs ls hP hS hl
  refine kk p l e R s m args below meth c0 Z G A cells slots C w z r f H locs ls hP hS (LH_mono hl (fun q hq => ?_))
  obtain ⟨n, v, h1, h2⟩ := (lp_mem _ _ _).mp hq
  exact (lp_mem _ _ _).mpr ⟨n, v, subL_at _ _ hs n v h1, h2⟩
theorem xj_mono {Q2 : Int → Hp → Prop} (hQ : ∀ x h', Q2 x h' → Q x h') (kk : XJ sc d k h pc lo st Q2) : XJ sc d k h pc lo st Q := by
  intro p l e R s m args below meth c0 Z G A cells slots C w z r f H locs ls hP hS hl
  exact kk p l e R s m args below meth c0 Z G A cells slots C w z r (fun x h' H locs pc' ls st' hq => f x h' H locs pc' ls st' (hQ x h' hq)) H locs ls hP hS hl
end FJ
end
section
section CJs
variable {sc : Option (Nat × (Int → Int))} {d d2 n : Nat} {k k2 : MI} {h : Hp} {pc pc2 : Nat} {lo : Lo} {st : List Value} {Q : Int → Hp → Prop}
theorem AG_in {G : Gw} {s : State} {A : Nat → Prop} (w : Wd G s A) : ∀ q, AG G q → A q := by
  rintro q ⟨c, h1, rfl⟩
  exact w.2.2 c h1
theorem run_call {p : Program} {l : Launch} {e : Env} {R : Room} {s : State} {m : MethodId} {args : Array Value} {below : List Frame} {meth : Method} {c : Code} {H : Heap} {locs : List Loc} {cells slots : Nat} {Z : State → Prop} {ls : Array Slot} {st0 rest : List Value} {G : Gw} {A0 : Nat → Prop} {a : Array Value} {H0 : Heap}
    (hr : va_Run p l e R s m args below meth c H locs cells slots 0 0 (F0 m pc ls st0) rest (QJ k2 G Q a) (AG G)) (hS : va_S A0 H0 H locs) (hA : ∀ q, AG G q → A0 q)
    (kk : ∀ (x : Int) (h' : Hp) (H1 : Heap) (locs1 : List Loc), Q x h' → va_P G.1 xjCl (WS G h') H1 → va_S A0 H0 H1 locs1 → W p l e R s m args below meth c H1 locs1 cells slots Z (F0 m (pc + 3) ls ((rv k2 x).toList ++ rest))) : W p l e R s m args below meth c H locs cells slots Z (F0 m pc ls st0) := by
  intro T hT X
  obtain ⟨v, st₀, t, T', L, h0, X', hL, e1, e2, ⟨⟨x, h', hq, ho, hp⟩, hz, hk⟩, st⟩ := hr T hT X
  rw [h0] at hz hk
  have hv : v = rv k2 x := Outcome.returned.inj ho
  subst hv
  obtain ⟨t2, a1, b1⟩ := kk x h' T'.heap (locs ++ L) hq (by rw [e1]; exact hp)
    ⟨Nat.le_trans hS.1 (by rw [e1]; exact hz), fun q h1 h2 => by rw [e1, hk q (Nat.lt_of_lt_of_le h1 hS.1) (fun z => h2 (hA q z))]; exact hS.2.1 q h1 h2, fun q hq => by
      rcases List.mem_append.mp hq with h | h
      · exact hS.2.2 q h
      · exact hA _ (hL q h)⟩ T' rfl X'
  exact ⟨t2, st t2 a1, b1⟩
theorem sum_cat (G : Gw) : ∀ st : List Value, ((st.map (cv G)).map fun v => v.category).sum = (st.map fun v => v.category).sum
  | [] => rfl
  | v :: st => by
    rw [List.map_cons, List.map_cons, List.map_cons, List.sum_cons, List.sum_cons, sum_cat G st, cv_cat]
theorem cb_of {p : Program} {R : Room} {s : State} {m : MethodId} {args : Array Value} {meth : Method} {c : Code} {cs : String} {idx : Nat} (C : Cx p R s m args meth c k d) (M : MOK k2 n) (hl : Cond.methodLink cs idx k2.1 ∈ wT) (hd2 : d2 + 1 ≤ d) (hm : k2.2.2.1 ≤ 40) : CallB R s args cs idx k2.1 k2.2.1 k2.2.2.1 k2.2.2.2 (wk k2) (rmd d2) 0 0 n := by
  have hf := C.2.2.2.2.2.2.2.2.1
  have hlo := C.2.2.2.2.2.2.2.2.2
  refine ⟨rfl, rfl, by show d2 + 1 + 1 ≤ R.frames; omega, by show 8 + (k2.2.2.1 + 11) + 64 * (d2 + 1) ≤ R.locals; omega, pay_in C.2.2.2.2.2.1 (wk_in M), List.mem_cons_self, C.2.2.2.2.2.1 _ M.2.1, C.2.2.2.2.2.1 _ M.2.2.1, M.2.2.2.1, fun sig hs => ?_, C.2.2.2.2.2.1 _ hl⟩
  have h2 := M.2.2.2.2
  rw [hs] at h2
  exact (Option.some.inj h2).symm
theorem cn_of {p : Program} {R : Room} {s : State} {m : MethodId} {args : Array Value} {meth : Method} {c : Code} {cs host : String} {idx : Nat} (C : Cx p R s m args meth c k d) (M : MOK k2 n) (hl : (cs, idx, k2.1, host) ∈ nestL) (hd2 : d2 + 1 ≤ d) (hm : k2.2.2.1 ≤ 40) : va_CN R s args cs idx k2.1 host k2.2.1 k2.2.2.1 k2.2.2.2 (wk k2) (rmd d2) 0 0 n := by
  have hf := C.2.2.2.2.2.2.2.2.1
  have hlo := C.2.2.2.2.2.2.2.2.2
  refine ⟨⟨rfl, rfl, by show d2 + 1 + 1 ≤ R.frames; omega, by show 8 + (k2.2.2.1 + 11) + 64 * (d2 + 1) ≤ R.locals; omega, pay_in C.2.2.2.2.2.1 (wk_in M), List.mem_cons_self⟩, C.2.2.2.2.2.1 _ M.2.1, C.2.2.2.2.2.1 _ M.2.2.1, M.2.2.2.1, fun sig hs => ?_, va_Nw.use rfl (C.2.2.2.2.2.2.2.1 _ hl)⟩
  have h2 := M.2.2.2.2
  rw [hs] at h2
  exact (Option.some.inj h2).symm
theorem pre_of {G : Gw} {s : State} {A : Nat → Prop} {H : Heap} {as : List Value} (w : Wd G s A) (hn : NW s) (hP : va_P G.1 xjCl (WS G h) H) : ∀ U : State, U.heap = H → s.WarmedH U.vm → va_Pc as (PJ G h) as.toArray U := fun U hU hW => ⟨rfl, by rw [hU]; exact hP, va_K.moved hW.alike w.1, NW_warm hW hn⟩
/-- a static method, linked as it is -/
theorem xg_callS {cs : String} {idx : Nat} {as : List Value} (M : MOK k2 n) (hl : Cond.methodLink cs idx k2.1 ∈ wT) (hs : Cond.static k2.1 ∈ wT) (hd : decode k.2.1 pc = .ok (.invokestatic idx, 3)) (he : k.1.cls = cs) (hn : as.length = n) (hd2 : d2 + 1 ≤ d) (hm : k2.2.2.1 ≤ 40) (hst : (st.map fun v => v.category).sum ≤ 8)
    (kk : CJ d2 k2 as h (fun x h' => XJ sc d k h' (pc + 3) lo ((rv k2 x).toList ++ st) Q)) : XJ sc d k h pc lo (as.reverse ++ st) Q := by
  intro p l e R s m args below meth c Z G A cells slots C w z r f H locs ls hP hS hll
  have hM := kk l G w.2.1
  have hr := va_runS (H := H) (locs := locs) (below := below) (meth := meth) (e := e) (cells := cells) (slots := slots) (g := F0 m pc ls ((as.reverse ++ st).map (cv G))) (rest := st.map (cv G)) (As := as.map (cv G)) ⟨C.1, C.2.1, C.2.2.1, (he ▸ C.2.2.2.2.1 : s.vm.findClass cs = some m.cls), C.2.2.2.2.2.1⟩ hM ⟨cb_of C M hl hd2 hm, C.2.2.2.2.2.1 _ hs⟩ ⟨PJ_blind G h _, pre_of w C.2.2.2.2.2.2.2.1 hP⟩ rfl (by simpa using hn) hll.1 (by simp) (lv_room (by rw [sum_cat]; exact hst)) hd (by simpa using r)
  refine run_call hr hS (AG_in w) (fun x h' H1 locs1 hq hP1 hS1 => ?_)
  have K := hq p l e R s m args below meth c Z G A cells slots C w z r f H1 locs1 ls hP1 hS1 hll
  rw [List.map_append] at K
  have e2 : (rv k2 x).toList.map (cv G) = (rv k2 x).toList := by
    unfold rv
    split <;> rfl
  rw [e2] at K
  exact K
/-- a static method of a nest mate -/
theorem xg_callN {cs host : String} {idx : Nat} {as : List Value} (M : MOK k2 n) (hl : (cs, idx, k2.1, host) ∈ nestL) (hs : Cond.static k2.1 ∈ wT) (hd : decode k.2.1 pc = .ok (.invokestatic idx, 3)) (he : k.1.cls = cs) (hn : as.length = n) (hd2 : d2 + 1 ≤ d) (hm : k2.2.2.1 ≤ 40) (hst : (st.map fun v => v.category).sum ≤ 8)
    (kk : CJ d2 k2 as h (fun x h' => XJ sc d k h' (pc + 3) lo ((rv k2 x).toList ++ st) Q)) : XJ sc d k h pc lo (as.reverse ++ st) Q := by
  intro p l e R s m args below meth c Z G A cells slots C w z r f H locs ls hP hS hll
  have hM := kk l G w.2.1
  have hr := va_runSN (H := H) (locs := locs) (below := below) (meth := meth) (e := e) (cells := cells) (slots := slots) (g := F0 m pc ls ((as.reverse ++ st).map (cv G))) (rest := st.map (cv G)) (As := as.map (cv G)) ⟨C.1, C.2.1, C.2.2.1, (he ▸ C.2.2.2.2.1 : s.vm.findClass cs = some m.cls), C.2.2.2.2.2.1⟩ hM ⟨cn_of C M hl hd2 hm, C.2.2.2.2.2.1 _ hs, trivial⟩ ⟨PJ_blind G h _, pre_of w C.2.2.2.2.2.2.2.1 hP⟩ rfl (by simpa using hn) hll.1 (by simp) (lv_room (by rw [sum_cat]; exact hst)) hd (by simpa using r)
  refine run_call hr hS (AG_in w) (fun x h' H1 locs1 hq hP1 hS1 => ?_)
  have K := hq p l e R s m args below meth c Z G A cells slots C w z r f H1 locs1 ls hP1 hS1 hll
  rw [List.map_append] at K
  have e2 : (rv k2 x).toList.map (cv G) = (rv k2 x).toList := by
    unfold rv
    split <;> rfl
  rw [e2] at K
  exact K
/-- a method of an object -/
theorem xg_callV {cs Cn : String} {T : u_T} {N idx b ci : Nat} {as : List Value} (M : MOK k2 n) (hl : Cond.methodLink cs idx k2.1 ∈ wT) (hi : Cond.instanceMethod k2.1 ∈ wT) (hse : Cond.selects Cn k2.1 k2.1 ∈ wT) (hcl : xjCl[ci]? = some (Cn, T, N)) (hkb : kd b = (0, ci)) (hd : decode k.2.1 pc = .ok (.invokevirtual idx, 3)) (he : k.1.cls = cs) (hn : as.length = n) (hd2 : d2 + 1 ≤ d) (hm : k2.2.2.1 ≤ 40) (hst : (st.map fun v => v.category).sum ≤ 8)
    (kk : CJ d2 k2 (.ref b :: as) h (fun x h' => XJ sc d k h' (pc + 3) lo ((rv k2 x).toList ++ st) Q)) : XJ sc d k h pc lo (as.reverse ++ .ref b :: st) Q := by
  intro p l e R s m args below meth c Z G A cells slots C w z r f H locs ls hP hS hll
  have hM := kk l G w.2.1
  obtain ⟨q0, -, hq0⟩ := WS_at (G := G) (h := h) (kd_mem hkb (by decide))
  rw [ent_obj hkb] at hq0
  have hr := va_runV (H := H) (locs := locs) (below := below) (meth := meth) (e := e) (cells := cells) (slots := slots) (g := F0 m pc ls ((as.reverse ++ .ref b :: st).map (cv G))) (rest := st.map (cv G)) (As := as.map (cv G)) (b := G.2.2.2 b) ⟨C.1, C.2.1, C.2.2.1, (he ▸ C.2.2.2.2.1 : s.vm.findClass cs = some m.cls), C.2.2.2.2.2.1⟩ hM ⟨cb_of C M hl hd2 hm, C.2.2.2.2.2.1 _ hi, C.2.2.2.2.2.1 _ hse⟩ ⟨PJ_blind G h _, va_recv w.1 hP hcl hq0, pre_of (as := (.ref b :: as).map (cv G)) w C.2.2.2.2.2.2.2.1 hP⟩ rfl (by simpa using hn) hll.1 (by simp [cv]) (lv_room (by rw [sum_cat]; exact hst)) hd (by simpa using r)
  refine run_call hr hS (AG_in w) (fun x h' H1 locs1 hq hP1 hS1 => ?_)
  have K := hq p l e R s m args below meth c Z G A cells slots C w z r f H1 locs1 ls hP1 hS1 hll
  rw [List.map_append] at K
  have e2 : (rv k2 x).toList.map (cv G) = (rv k2 x).toList := by
    unfold rv
    split <;> rfl
  rw [e2] at K
  exact K
/-- a contract out of a walk from the entry -/
theorem cj_of {as : List Value} {lo : Lo} (M : MOK k n) (hlo : ∀ G : Gw, lp G 0 lo = lv_args 0 (as.map (cv G))) (hlen : ∀ G : Gw, (lg_sl (as.map (cv G))).length ≤ k.2.2.1) (kk : XJ none d k h 0 lo [] Q) : CJ d k as h Q := by
  intro l G hinj
  refine Met.ofW (cc := k.2.1) (maxL := k.2.2.1) (ret := k.2.2.2) M.1 rfl ?_
  intro p e s m args below meth c s₁ B hml hv
  obtain ⟨rfl, hP, hK, hN⟩ := hv
  have hts := atoms_spec (ws := wk k) B.pre
  have hroom : ((headSpec (wk k) (rmd d)).room) = rmd d := rfl
  have C : Cx p (headSpec (wk k) (rmd d)).room s m ((as.map (cv G)).toArray) meth c k d := ⟨B.exec, B.bytes, hml, B.returns, findClass_of_methodNamed B.named, fun w hw => hts w (List.mem_cons_of_mem _ hw), B.notSynchronized, hN, Nat.le_refl _, Nat.le_refl _⟩
  have w : Wd G s (AG G) := ⟨hK, hinj, fun c hc => ⟨c, hc, rfl⟩⟩
  have hl := lv_entry (as.map (cv G)) (n := k.2.2.1) (hlen G)
  rw [lg_entry_eq]
  rw [← hlo G] at hl
  refine kk p l e _ s m _ below meth c _ G (AG G) 0 0 C w (fun L xs hx => by cases hx) ⟨Nat.zero_le _, Nat.zero_le _⟩ ?_ s.heap [] _ hP va_S.rf hl
  intro x h' H locs pc' ls st' hq hf hP' hS'
  have hend : ∀ v : Option Value, v = rv k x → ∀ t : State, t.heap = H → s.WarmedH t.vm → QJ k G Q ((as.map (cv G)).toArray) s (.returned v) t := fun v hv t ht _ => ⟨⟨x, h', hq, by rw [hv], by rw [ht]; exact hP'⟩, hS'.F ht⟩
  rcases hf with ⟨hd, rfl, hr | ⟨hr, hx⟩⟩ | ⟨hd, rfl, hr⟩ | ⟨hd, rfl, hr⟩
  · exact W.iret C.1 C.2.1 (B.returns.trans hr) (hend _ (by unfold rv; rw [hr]; rfl)) hS'.2.2 hd B.notSynchronized
  · exact W.zret C.1 C.2.1 (B.returns.trans hr) (by rcases hx with rfl | rfl <;> rfl) (hend _ (by unfold rv; rw [hr]; rfl)) hS'.2.2 hd B.notSynchronized
  · exact W.lret C.1 C.2.1 (B.returns.trans hr) (hend _ (by unfold rv; rw [hr]; rfl)) hS'.2.2 hd B.notSynchronized
  · exact W.vret C.1 C.2.1 (B.returns.trans hr) (hend _ (by unfold rv; rw [hr])) hS'.2.2 hd B.notSynchronized
end CJs
end
section
theorem xj_S0I {sc : Option (Nat × (Int → Int))} {d d2 : Nat} {k k2 : MI} {h : Hp} {pc pc2 : Nat} {lo : Lo} {st : List Value} {Q : Int → Hp → Prop} {cs : String} {idx : Nat} (M : MOK k2 0) (hl : Cond.methodLink cs idx k2.1 ∈ wT) (hs : Cond.static k2.1 ∈ wT) (hd : decode k.2.1 pc = .ok (.invokestatic idx, 3)) (hp : pc + 3 = pc2) (he : k.1.cls = cs) (hd2 : d2 + 1 ≤ d) (hm : k2.2.2.1 ≤ 40) (hst : (st.map fun v => v.category).sum ≤ 8) (hr : ∀ x, rv k2 x = some (vi x)) (kk : CJ d2 k2 [] h (fun x h' => XJ sc d k h' pc2 lo (vi x :: st) Q)) : XJ sc d k h pc lo (st) Q := by
  subst hp
  have e : (fun x h' => XJ sc d k h' (pc + 3) lo ((rv k2 x).toList ++ st) Q) = (fun x h' => XJ sc d k h' (pc + 3) lo (vi x :: st) Q) := by
    funext x h'
    rw [hr x]
    rfl
  refine xg_callS (as := []) M hl hs hd he rfl hd2 hm hst ?_
  rw [e]
  exact kk
theorem xj_N0I {sc : Option (Nat × (Int → Int))} {d d2 : Nat} {k k2 : MI} {h : Hp} {pc pc2 : Nat} {lo : Lo} {st : List Value} {Q : Int → Hp → Prop} {cs host : String} {idx : Nat} (M : MOK k2 0) (hl : (cs, idx, k2.1, host) ∈ nestL) (hs : Cond.static k2.1 ∈ wT) (hd : decode k.2.1 pc = .ok (.invokestatic idx, 3)) (hp : pc + 3 = pc2) (he : k.1.cls = cs) (hd2 : d2 + 1 ≤ d) (hm : k2.2.2.1 ≤ 40) (hst : (st.map fun v => v.category).sum ≤ 8) (hr : ∀ x, rv k2 x = some (vi x)) (kk : CJ d2 k2 [] h (fun x h' => XJ sc d k h' pc2 lo (vi x :: st) Q)) : XJ sc d k h pc lo (st) Q := by
  subst hp
  have e : (fun x h' => XJ sc d k h' (pc + 3) lo ((rv k2 x).toList ++ st) Q) = (fun x h' => XJ sc d k h' (pc + 3) lo (vi x :: st) Q) := by
    funext x h'
    rw [hr x]
    rfl
  refine xg_callN (as := []) M hl hs hd he rfl hd2 hm hst ?_
  rw [e]
  exact kk
theorem xj_V0I {sc : Option (Nat × (Int → Int))} {d d2 : Nat} {k k2 : MI} {h : Hp} {pc pc2 : Nat} {lo : Lo} {st : List Value} {Q : Int → Hp → Prop} {cs Cn : String} {T : u_T} {N idx b ci : Nat} (M : MOK k2 0) (hl : Cond.methodLink cs idx k2.1 ∈ wT) (hi : Cond.instanceMethod k2.1 ∈ wT) (hse : Cond.selects Cn k2.1 k2.1 ∈ wT) (hcl : xjCl[ci]? = some (Cn, T, N)) (hkb : kd b = (0, ci)) (hd : decode k.2.1 pc = .ok (.invokevirtual idx, 3)) (hp : pc + 3 = pc2) (he : k.1.cls = cs) (hd2 : d2 + 1 ≤ d) (hm : k2.2.2.1 ≤ 40) (hst : (st.map fun v => v.category).sum ≤ 8) (hr : ∀ x, rv k2 x = some (vi x)) (kk : CJ d2 k2 [.ref b] h (fun x h' => XJ sc d k h' pc2 lo (vi x :: st) Q)) : XJ sc d k h pc lo (.ref b :: st) Q := by
  subst hp
  have e : (fun x h' => XJ sc d k h' (pc + 3) lo ((rv k2 x).toList ++ st) Q) = (fun x h' => XJ sc d k h' (pc + 3) lo (vi x :: st) Q) := by
    funext x h'
    rw [hr x]
    rfl
  refine xg_callV (as := []) M hl hi hse hcl hkb hd he rfl hd2 hm hst ?_
  rw [e]
  exact kk
theorem xj_S0J {sc : Option (Nat × (Int → Int))} {d d2 : Nat} {k k2 : MI} {h : Hp} {pc pc2 : Nat} {lo : Lo} {st : List Value} {Q : Int → Hp → Prop} {cs : String} {idx : Nat} (M : MOK k2 0) (hl : Cond.methodLink cs idx k2.1 ∈ wT) (hs : Cond.static k2.1 ∈ wT) (hd : decode k.2.1 pc = .ok (.invokestatic idx, 3)) (hp : pc + 3 = pc2) (he : k.1.cls = cs) (hd2 : d2 + 1 ≤ d) (hm : k2.2.2.1 ≤ 40) (hst : (st.map fun v => v.category).sum ≤ 8) (hr : ∀ x, rv k2 x = some (vl x)) (kk : CJ d2 k2 [] h (fun x h' => XJ sc d k h' pc2 lo (vl x :: st) Q)) : XJ sc d k h pc lo (st) Q := by
  subst hp
  have e : (fun x h' => XJ sc d k h' (pc + 3) lo ((rv k2 x).toList ++ st) Q) = (fun x h' => XJ sc d k h' (pc + 3) lo (vl x :: st) Q) := by
    funext x h'
    rw [hr x]
    rfl
  refine xg_callS (as := []) M hl hs hd he rfl hd2 hm hst ?_
  rw [e]
  exact kk
theorem xj_N0J {sc : Option (Nat × (Int → Int))} {d d2 : Nat} {k k2 : MI} {h : Hp} {pc pc2 : Nat} {lo : Lo} {st : List Value} {Q : Int → Hp → Prop} {cs host : String} {idx : Nat} (M : MOK k2 0) (hl : (cs, idx, k2.1, host) ∈ nestL) (hs : Cond.static k2.1 ∈ wT) (hd : decode k.2.1 pc = .ok (.invokestatic idx, 3)) (hp : pc + 3 = pc2) (he : k.1.cls = cs) (hd2 : d2 + 1 ≤ d) (hm : k2.2.2.1 ≤ 40) (hst : (st.map fun v => v.category).sum ≤ 8) (hr : ∀ x, rv k2 x = some (vl x)) (kk : CJ d2 k2 [] h (fun x h' => XJ sc d k h' pc2 lo (vl x :: st) Q)) : XJ sc d k h pc lo (st) Q := by
  subst hp
  have e : (fun x h' => XJ sc d k h' (pc + 3) lo ((rv k2 x).toList ++ st) Q) = (fun x h' => XJ sc d k h' (pc + 3) lo (vl x :: st) Q) := by
    funext x h'
    rw [hr x]
    rfl
  refine xg_callN (as := []) M hl hs hd he rfl hd2 hm hst ?_
  rw [e]
  exact kk
theorem xj_V0J {sc : Option (Nat × (Int → Int))} {d d2 : Nat} {k k2 : MI} {h : Hp} {pc pc2 : Nat} {lo : Lo} {st : List Value} {Q : Int → Hp → Prop} {cs Cn : String} {T : u_T} {N idx b ci : Nat} (M : MOK k2 0) (hl : Cond.methodLink cs idx k2.1 ∈ wT) (hi : Cond.instanceMethod k2.1 ∈ wT) (hse : Cond.selects Cn k2.1 k2.1 ∈ wT) (hcl : xjCl[ci]? = some (Cn, T, N)) (hkb : kd b = (0, ci)) (hd : decode k.2.1 pc = .ok (.invokevirtual idx, 3)) (hp : pc + 3 = pc2) (he : k.1.cls = cs) (hd2 : d2 + 1 ≤ d) (hm : k2.2.2.1 ≤ 40) (hst : (st.map fun v => v.category).sum ≤ 8) (hr : ∀ x, rv k2 x = some (vl x)) (kk : CJ d2 k2 [.ref b] h (fun x h' => XJ sc d k h' pc2 lo (vl x :: st) Q)) : XJ sc d k h pc lo (.ref b :: st) Q := by
  subst hp
  have e : (fun x h' => XJ sc d k h' (pc + 3) lo ((rv k2 x).toList ++ st) Q) = (fun x h' => XJ sc d k h' (pc + 3) lo (vl x :: st) Q) := by
    funext x h'
    rw [hr x]
    rfl
  refine xg_callV (as := []) M hl hi hse hcl hkb hd he rfl hd2 hm hst ?_
  rw [e]
  exact kk
theorem xj_S0V {sc : Option (Nat × (Int → Int))} {d d2 : Nat} {k k2 : MI} {h : Hp} {pc pc2 : Nat} {lo : Lo} {st : List Value} {Q : Int → Hp → Prop} {cs : String} {idx : Nat} (M : MOK k2 0) (hl : Cond.methodLink cs idx k2.1 ∈ wT) (hs : Cond.static k2.1 ∈ wT) (hd : decode k.2.1 pc = .ok (.invokestatic idx, 3)) (hp : pc + 3 = pc2) (he : k.1.cls = cs) (hd2 : d2 + 1 ≤ d) (hm : k2.2.2.1 ≤ 40) (hst : (st.map fun v => v.category).sum ≤ 8) (hr : ∀ x, rv k2 x = none) (kk : CJ d2 k2 [] h (fun x h' => XJ sc d k h' pc2 lo (st) Q)) : XJ sc d k h pc lo (st) Q := by
  subst hp
  have e : (fun x h' => XJ sc d k h' (pc + 3) lo ((rv k2 x).toList ++ st) Q) = (fun x h' => XJ sc d k h' (pc + 3) lo (st) Q) := by
    funext x h'
    rw [hr x]
    rfl
  refine xg_callS (as := []) M hl hs hd he rfl hd2 hm hst ?_
  rw [e]
  exact kk
theorem xj_N0V {sc : Option (Nat × (Int → Int))} {d d2 : Nat} {k k2 : MI} {h : Hp} {pc pc2 : Nat} {lo : Lo} {st : List Value} {Q : Int → Hp → Prop} {cs host : String} {idx : Nat} (M : MOK k2 0) (hl : (cs, idx, k2.1, host) ∈ nestL) (hs : Cond.static k2.1 ∈ wT) (hd : decode k.2.1 pc = .ok (.invokestatic idx, 3)) (hp : pc + 3 = pc2) (he : k.1.cls = cs) (hd2 : d2 + 1 ≤ d) (hm : k2.2.2.1 ≤ 40) (hst : (st.map fun v => v.category).sum ≤ 8) (hr : ∀ x, rv k2 x = none) (kk : CJ d2 k2 [] h (fun x h' => XJ sc d k h' pc2 lo (st) Q)) : XJ sc d k h pc lo (st) Q := by
  subst hp
  have e : (fun x h' => XJ sc d k h' (pc + 3) lo ((rv k2 x).toList ++ st) Q) = (fun x h' => XJ sc d k h' (pc + 3) lo (st) Q) := by
    funext x h'
    rw [hr x]
    rfl
  refine xg_callN (as := []) M hl hs hd he rfl hd2 hm hst ?_
  rw [e]
  exact kk
theorem xj_V0V {sc : Option (Nat × (Int → Int))} {d d2 : Nat} {k k2 : MI} {h : Hp} {pc pc2 : Nat} {lo : Lo} {st : List Value} {Q : Int → Hp → Prop} {cs Cn : String} {T : u_T} {N idx b ci : Nat} (M : MOK k2 0) (hl : Cond.methodLink cs idx k2.1 ∈ wT) (hi : Cond.instanceMethod k2.1 ∈ wT) (hse : Cond.selects Cn k2.1 k2.1 ∈ wT) (hcl : xjCl[ci]? = some (Cn, T, N)) (hkb : kd b = (0, ci)) (hd : decode k.2.1 pc = .ok (.invokevirtual idx, 3)) (hp : pc + 3 = pc2) (he : k.1.cls = cs) (hd2 : d2 + 1 ≤ d) (hm : k2.2.2.1 ≤ 40) (hst : (st.map fun v => v.category).sum ≤ 8) (hr : ∀ x, rv k2 x = none) (kk : CJ d2 k2 [.ref b] h (fun x h' => XJ sc d k h' pc2 lo (st) Q)) : XJ sc d k h pc lo (.ref b :: st) Q := by
  subst hp
  have e : (fun x h' => XJ sc d k h' (pc + 3) lo ((rv k2 x).toList ++ st) Q) = (fun x h' => XJ sc d k h' (pc + 3) lo (st) Q) := by
    funext x h'
    rw [hr x]
    rfl
  refine xg_callV (as := []) M hl hi hse hcl hkb hd he rfl hd2 hm hst ?_
  rw [e]
  exact kk
theorem xj_S1I {sc : Option (Nat × (Int → Int))} {d d2 : Nat} {k k2 : MI} {h : Hp} {pc pc2 : Nat} {lo : Lo} {st : List Value} {Q : Int → Hp → Prop} {a1 : Value} {cs : String} {idx : Nat} (M : MOK k2 1) (hl : Cond.methodLink cs idx k2.1 ∈ wT) (hs : Cond.static k2.1 ∈ wT) (hd : decode k.2.1 pc = .ok (.invokestatic idx, 3)) (hp : pc + 3 = pc2) (he : k.1.cls = cs) (hd2 : d2 + 1 ≤ d) (hm : k2.2.2.1 ≤ 40) (hst : (st.map fun v => v.category).sum ≤ 8) (hr : ∀ x, rv k2 x = some (vi x)) (kk : CJ d2 k2 [a1] h (fun x h' => XJ sc d k h' pc2 lo (vi x :: st) Q)) : XJ sc d k h pc lo (a1 :: st) Q := by
  subst hp
  have e : (fun x h' => XJ sc d k h' (pc + 3) lo ((rv k2 x).toList ++ st) Q) = (fun x h' => XJ sc d k h' (pc + 3) lo (vi x :: st) Q) := by
    funext x h'
    rw [hr x]
    rfl
  refine xg_callS (as := [a1]) M hl hs hd he rfl hd2 hm hst ?_
  rw [e]
  exact kk
theorem xj_N1I {sc : Option (Nat × (Int → Int))} {d d2 : Nat} {k k2 : MI} {h : Hp} {pc pc2 : Nat} {lo : Lo} {st : List Value} {Q : Int → Hp → Prop} {a1 : Value} {cs host : String} {idx : Nat} (M : MOK k2 1) (hl : (cs, idx, k2.1, host) ∈ nestL) (hs : Cond.static k2.1 ∈ wT) (hd : decode k.2.1 pc = .ok (.invokestatic idx, 3)) (hp : pc + 3 = pc2) (he : k.1.cls = cs) (hd2 : d2 + 1 ≤ d) (hm : k2.2.2.1 ≤ 40) (hst : (st.map fun v => v.category).sum ≤ 8) (hr : ∀ x, rv k2 x = some (vi x)) (kk : CJ d2 k2 [a1] h (fun x h' => XJ sc d k h' pc2 lo (vi x :: st) Q)) : XJ sc d k h pc lo (a1 :: st) Q := by
  subst hp
  have e : (fun x h' => XJ sc d k h' (pc + 3) lo ((rv k2 x).toList ++ st) Q) = (fun x h' => XJ sc d k h' (pc + 3) lo (vi x :: st) Q) := by
    funext x h'
    rw [hr x]
    rfl
  refine xg_callN (as := [a1]) M hl hs hd he rfl hd2 hm hst ?_
  rw [e]
  exact kk
theorem xj_V1I {sc : Option (Nat × (Int → Int))} {d d2 : Nat} {k k2 : MI} {h : Hp} {pc pc2 : Nat} {lo : Lo} {st : List Value} {Q : Int → Hp → Prop} {a1 : Value} {cs Cn : String} {T : u_T} {N idx b ci : Nat} (M : MOK k2 1) (hl : Cond.methodLink cs idx k2.1 ∈ wT) (hi : Cond.instanceMethod k2.1 ∈ wT) (hse : Cond.selects Cn k2.1 k2.1 ∈ wT) (hcl : xjCl[ci]? = some (Cn, T, N)) (hkb : kd b = (0, ci)) (hd : decode k.2.1 pc = .ok (.invokevirtual idx, 3)) (hp : pc + 3 = pc2) (he : k.1.cls = cs) (hd2 : d2 + 1 ≤ d) (hm : k2.2.2.1 ≤ 40) (hst : (st.map fun v => v.category).sum ≤ 8) (hr : ∀ x, rv k2 x = some (vi x)) (kk : CJ d2 k2 [.ref b, a1] h (fun x h' => XJ sc d k h' pc2 lo (vi x :: st) Q)) : XJ sc d k h pc lo (a1 :: .ref b :: st) Q := by
  subst hp
  have e : (fun x h' => XJ sc d k h' (pc + 3) lo ((rv k2 x).toList ++ st) Q) = (fun x h' => XJ sc d k h' (pc + 3) lo (vi x :: st) Q) := by
    funext x h'
    rw [hr x]
    rfl
  refine xg_callV (as := [a1]) M hl hi hse hcl hkb hd he rfl hd2 hm hst ?_
  rw [e]
  exact kk
theorem xj_S1J {sc : Option (Nat × (Int → Int))} {d d2 : Nat} {k k2 : MI} {h : Hp} {pc pc2 : Nat} {lo : Lo} {st : List Value} {Q : Int → Hp → Prop} {a1 : Value} {cs : String} {idx : Nat} (M : MOK k2 1) (hl : Cond.methodLink cs idx k2.1 ∈ wT) (hs : Cond.static k2.1 ∈ wT) (hd : decode k.2.1 pc = .ok (.invokestatic idx, 3)) (hp : pc + 3 = pc2) (he : k.1.cls = cs) (hd2 : d2 + 1 ≤ d) (hm : k2.2.2.1 ≤ 40) (hst : (st.map fun v => v.category).sum ≤ 8) (hr : ∀ x, rv k2 x = some (vl x)) (kk : CJ d2 k2 [a1] h (fun x h' => XJ sc d k h' pc2 lo (vl x :: st) Q)) : XJ sc d k h pc lo (a1 :: st) Q := by
  subst hp
  have e : (fun x h' => XJ sc d k h' (pc + 3) lo ((rv k2 x).toList ++ st) Q) = (fun x h' => XJ sc d k h' (pc + 3) lo (vl x :: st) Q) := by
    funext x h'
    rw [hr x]
    rfl
  refine xg_callS (as := [a1]) M hl hs hd he rfl hd2 hm hst ?_
  rw [e]
  exact kk
theorem xj_N1J {sc : Option (Nat × (Int → Int))} {d d2 : Nat} {k k2 : MI} {h : Hp} {pc pc2 : Nat} {lo : Lo} {st : List Value} {Q : Int → Hp → Prop} {a1 : Value} {cs host : String} {idx : Nat} (M : MOK k2 1) (hl : (cs, idx, k2.1, host) ∈ nestL) (hs : Cond.static k2.1 ∈ wT) (hd : decode k.2.1 pc = .ok (.invokestatic idx, 3)) (hp : pc + 3 = pc2) (he : k.1.cls = cs) (hd2 : d2 + 1 ≤ d) (hm : k2.2.2.1 ≤ 40) (hst : (st.map fun v => v.category).sum ≤ 8) (hr : ∀ x, rv k2 x = some (vl x)) (kk : CJ d2 k2 [a1] h (fun x h' => XJ sc d k h' pc2 lo (vl x :: st) Q)) : XJ sc d k h pc lo (a1 :: st) Q := by
  subst hp
  have e : (fun x h' => XJ sc d k h' (pc + 3) lo ((rv k2 x).toList ++ st) Q) = (fun x h' => XJ sc d k h' (pc + 3) lo (vl x :: st) Q) := by
    funext x h'
    rw [hr x]
    rfl
  refine xg_callN (as := [a1]) M hl hs hd he rfl hd2 hm hst ?_
  rw [e]
  exact kk
theorem xj_V1J {sc : Option (Nat × (Int → Int))} {d d2 : Nat} {k k2 : MI} {h : Hp} {pc pc2 : Nat} {lo : Lo} {st : List Value} {Q : Int → Hp → Prop} {a1 : Value} {cs Cn : String} {T : u_T} {N idx b ci : Nat} (M : MOK k2 1) (hl : Cond.methodLink cs idx k2.1 ∈ wT) (hi : Cond.instanceMethod k2.1 ∈ wT) (hse : Cond.selects Cn k2.1 k2.1 ∈ wT) (hcl : xjCl[ci]? = some (Cn, T, N)) (hkb : kd b = (0, ci)) (hd : decode k.2.1 pc = .ok (.invokevirtual idx, 3)) (hp : pc + 3 = pc2) (he : k.1.cls = cs) (hd2 : d2 + 1 ≤ d) (hm : k2.2.2.1 ≤ 40) (hst : (st.map fun v => v.category).sum ≤ 8) (hr : ∀ x, rv k2 x = some (vl x)) (kk : CJ d2 k2 [.ref b, a1] h (fun x h' => XJ sc d k h' pc2 lo (vl x :: st) Q)) : XJ sc d k h pc lo (a1 :: .ref b :: st) Q := by
  subst hp
  have e : (fun x h' => XJ sc d k h' (pc + 3) lo ((rv k2 x).toList ++ st) Q) = (fun x h' => XJ sc d k h' (pc + 3) lo (vl x :: st) Q) := by
    funext x h'
    rw [hr x]
    rfl
  refine xg_callV (as := [a1]) M hl hi hse hcl hkb hd he rfl hd2 hm hst ?_
  rw [e]
  exact kk
theorem xj_S1V {sc : Option (Nat × (Int → Int))} {d d2 : Nat} {k k2 : MI} {h : Hp} {pc pc2 : Nat} {lo : Lo} {st : List Value} {Q : Int → Hp → Prop} {a1 : Value} {cs : String} {idx : Nat} (M : MOK k2 1) (hl : Cond.methodLink cs idx k2.1 ∈ wT) (hs : Cond.static k2.1 ∈ wT) (hd : decode k.2.1 pc = .ok (.invokestatic idx, 3)) (hp : pc + 3 = pc2) (he : k.1.cls = cs) (hd2 : d2 + 1 ≤ d) (hm : k2.2.2.1 ≤ 40) (hst : (st.map fun v => v.category).sum ≤ 8) (hr : ∀ x, rv k2 x = none) (kk : CJ d2 k2 [a1] h (fun x h' => XJ sc d k h' pc2 lo (st) Q)) : XJ sc d k h pc lo (a1 :: st) Q := by
  subst hp
  have e : (fun x h' => XJ sc d k h' (pc + 3) lo ((rv k2 x).toList ++ st) Q) = (fun x h' => XJ sc d k h' (pc + 3) lo (st) Q) := by
    funext x h'
    rw [hr x]
    rfl
  refine xg_callS (as := [a1]) M hl hs hd he rfl hd2 hm hst ?_
  rw [e]
  exact kk
theorem xj_N1V {sc : Option (Nat × (Int → Int))} {d d2 : Nat} {k k2 : MI} {h : Hp} {pc pc2 : Nat} {lo : Lo} {st : List Value} {Q : Int → Hp → Prop} {a1 : Value} {cs host : String} {idx : Nat} (M : MOK k2 1) (hl : (cs, idx, k2.1, host) ∈ nestL) (hs : Cond.static k2.1 ∈ wT) (hd : decode k.2.1 pc = .ok (.invokestatic idx, 3)) (hp : pc + 3 = pc2) (he : k.1.cls = cs) (hd2 : d2 + 1 ≤ d) (hm : k2.2.2.1 ≤ 40) (hst : (st.map fun v => v.category).sum ≤ 8) (hr : ∀ x, rv k2 x = none) (kk : CJ d2 k2 [a1] h (fun x h' => XJ sc d k h' pc2 lo (st) Q)) : XJ sc d k h pc lo (a1 :: st) Q := by
  subst hp
  have e : (fun x h' => XJ sc d k h' (pc + 3) lo ((rv k2 x).toList ++ st) Q) = (fun x h' => XJ sc d k h' (pc + 3) lo (st) Q) := by
    funext x h'
    rw [hr x]
    rfl
  refine xg_callN (as := [a1]) M hl hs hd he rfl hd2 hm hst ?_
  rw [e]
  exact kk
theorem xj_V1V {sc : Option (Nat × (Int → Int))} {d d2 : Nat} {k k2 : MI} {h : Hp} {pc pc2 : Nat} {lo : Lo} {st : List Value} {Q : Int → Hp → Prop} {a1 : Value} {cs Cn : String} {T : u_T} {N idx b ci : Nat} (M : MOK k2 1) (hl : Cond.methodLink cs idx k2.1 ∈ wT) (hi : Cond.instanceMethod k2.1 ∈ wT) (hse : Cond.selects Cn k2.1 k2.1 ∈ wT) (hcl : xjCl[ci]? = some (Cn, T, N)) (hkb : kd b = (0, ci)) (hd : decode k.2.1 pc = .ok (.invokevirtual idx, 3)) (hp : pc + 3 = pc2) (he : k.1.cls = cs) (hd2 : d2 + 1 ≤ d) (hm : k2.2.2.1 ≤ 40) (hst : (st.map fun v => v.category).sum ≤ 8) (hr : ∀ x, rv k2 x = none) (kk : CJ d2 k2 [.ref b, a1] h (fun x h' => XJ sc d k h' pc2 lo (st) Q)) : XJ sc d k h pc lo (a1 :: .ref b :: st) Q := by
  subst hp
  have e : (fun x h' => XJ sc d k h' (pc + 3) lo ((rv k2 x).toList ++ st) Q) = (fun x h' => XJ sc d k h' (pc + 3) lo (st) Q) := by
    funext x h'
    rw [hr x]
    rfl
  refine xg_callV (as := [a1]) M hl hi hse hcl hkb hd he rfl hd2 hm hst ?_
  rw [e]
  exact kk
theorem xj_S2I {sc : Option (Nat × (Int → Int))} {d d2 : Nat} {k k2 : MI} {h : Hp} {pc pc2 : Nat} {lo : Lo} {st : List Value} {Q : Int → Hp → Prop} {a1 a2 : Value} {cs : String} {idx : Nat} (M : MOK k2 2) (hl : Cond.methodLink cs idx k2.1 ∈ wT) (hs : Cond.static k2.1 ∈ wT) (hd : decode k.2.1 pc = .ok (.invokestatic idx, 3)) (hp : pc + 3 = pc2) (he : k.1.cls = cs) (hd2 : d2 + 1 ≤ d) (hm : k2.2.2.1 ≤ 40) (hst : (st.map fun v => v.category).sum ≤ 8) (hr : ∀ x, rv k2 x = some (vi x)) (kk : CJ d2 k2 [a1, a2] h (fun x h' => XJ sc d k h' pc2 lo (vi x :: st) Q)) : XJ sc d k h pc lo (a2 :: a1 :: st) Q := by
  subst hp
  have e : (fun x h' => XJ sc d k h' (pc + 3) lo ((rv k2 x).toList ++ st) Q) = (fun x h' => XJ sc d k h' (pc + 3) lo (vi x :: st) Q) := by
    funext x h'
    rw [hr x]
    rfl
  refine xg_callS (as := [a1, a2]) M hl hs hd he rfl hd2 hm hst ?_
  rw [e]
  exact kk
theorem xj_N2I {sc : Option (Nat × (Int → Int))} {d d2 : Nat} {k k2 : MI} {h : Hp} {pc pc2 : Nat} {lo : Lo} {st : List Value} {Q : Int → Hp → Prop} {a1 a2 : Value} {cs host : String} {idx : Nat} (M : MOK k2 2) (hl : (cs, idx, k2.1, host) ∈ nestL) (hs : Cond.static k2.1 ∈ wT) (hd : decode k.2.1 pc = .ok (.invokestatic idx, 3)) (hp : pc + 3 = pc2) (he : k.1.cls = cs) (hd2 : d2 + 1 ≤ d) (hm : k2.2.2.1 ≤ 40) (hst : (st.map fun v => v.category).sum ≤ 8) (hr : ∀ x, rv k2 x = some (vi x)) (kk : CJ d2 k2 [a1, a2] h (fun x h' => XJ sc d k h' pc2 lo (vi x :: st) Q)) : XJ sc d k h pc lo (a2 :: a1 :: st) Q := by
  subst hp
  have e : (fun x h' => XJ sc d k h' (pc + 3) lo ((rv k2 x).toList ++ st) Q) = (fun x h' => XJ sc d k h' (pc + 3) lo (vi x :: st) Q) := by
    funext x h'
    rw [hr x]
    rfl
  refine xg_callN (as := [a1, a2]) M hl hs hd he rfl hd2 hm hst ?_
  rw [e]
  exact kk
theorem xj_V2I {sc : Option (Nat × (Int → Int))} {d d2 : Nat} {k k2 : MI} {h : Hp} {pc pc2 : Nat} {lo : Lo} {st : List Value} {Q : Int → Hp → Prop} {a1 a2 : Value} {cs Cn : String} {T : u_T} {N idx b ci : Nat} (M : MOK k2 2) (hl : Cond.methodLink cs idx k2.1 ∈ wT) (hi : Cond.instanceMethod k2.1 ∈ wT) (hse : Cond.selects Cn k2.1 k2.1 ∈ wT) (hcl : xjCl[ci]? = some (Cn, T, N)) (hkb : kd b = (0, ci)) (hd : decode k.2.1 pc = .ok (.invokevirtual idx, 3)) (hp : pc + 3 = pc2) (he : k.1.cls = cs) (hd2 : d2 + 1 ≤ d) (hm : k2.2.2.1 ≤ 40) (hst : (st.map fun v => v.category).sum ≤ 8) (hr : ∀ x, rv k2 x = some (vi x)) (kk : CJ d2 k2 [.ref b, a1, a2] h (fun x h' => XJ sc d k h' pc2 lo (vi x :: st) Q)) : XJ sc d k h pc lo (a2 :: a1 :: .ref b :: st) Q := by
  subst hp
  have e : (fun x h' => XJ sc d k h' (pc + 3) lo ((rv k2 x).toList ++ st) Q) = (fun x h' => XJ sc d k h' (pc + 3) lo (vi x :: st) Q) := by
    funext x h'
    rw [hr x]
    rfl
  refine xg_callV (as := [a1, a2]) M hl hi hse hcl hkb hd he rfl hd2 hm hst ?_
  rw [e]
  exact kk
theorem xj_S2J {sc : Option (Nat × (Int → Int))} {d d2 : Nat} {k k2 : MI} {h : Hp} {pc pc2 : Nat} {lo : Lo} {st : List Value} {Q : Int → Hp → Prop} {a1 a2 : Value} {cs : String} {idx : Nat} (M : MOK k2 2) (hl : Cond.methodLink cs idx k2.1 ∈ wT) (hs : Cond.static k2.1 ∈ wT) (hd : decode k.2.1 pc = .ok (.invokestatic idx, 3)) (hp : pc + 3 = pc2) (he : k.1.cls = cs) (hd2 : d2 + 1 ≤ d) (hm : k2.2.2.1 ≤ 40) (hst : (st.map fun v => v.category).sum ≤ 8) (hr : ∀ x, rv k2 x = some (vl x)) (kk : CJ d2 k2 [a1, a2] h (fun x h' => XJ sc d k h' pc2 lo (vl x :: st) Q)) : XJ sc d k h pc lo (a2 :: a1 :: st) Q := by
  subst hp
  have e : (fun x h' => XJ sc d k h' (pc + 3) lo ((rv k2 x).toList ++ st) Q) = (fun x h' => XJ sc d k h' (pc + 3) lo (vl x :: st) Q) := by
    funext x h'
    rw [hr x]
    rfl
  refine xg_callS (as := [a1, a2]) M hl hs hd he rfl hd2 hm hst ?_
  rw [e]
  exact kk
theorem xj_N2J {sc : Option (Nat × (Int → Int))} {d d2 : Nat} {k k2 : MI} {h : Hp} {pc pc2 : Nat} {lo : Lo} {st : List Value} {Q : Int → Hp → Prop} {a1 a2 : Value} {cs host : String} {idx : Nat} (M : MOK k2 2) (hl : (cs, idx, k2.1, host) ∈ nestL) (hs : Cond.static k2.1 ∈ wT) (hd : decode k.2.1 pc = .ok (.invokestatic idx, 3)) (hp : pc + 3 = pc2) (he : k.1.cls = cs) (hd2 : d2 + 1 ≤ d) (hm : k2.2.2.1 ≤ 40) (hst : (st.map fun v => v.category).sum ≤ 8) (hr : ∀ x, rv k2 x = some (vl x)) (kk : CJ d2 k2 [a1, a2] h (fun x h' => XJ sc d k h' pc2 lo (vl x :: st) Q)) : XJ sc d k h pc lo (a2 :: a1 :: st) Q := by
  subst hp
  have e : (fun x h' => XJ sc d k h' (pc + 3) lo ((rv k2 x).toList ++ st) Q) = (fun x h' => XJ sc d k h' (pc + 3) lo (vl x :: st) Q) := by
    funext x h'
    rw [hr x]
    rfl
  refine xg_callN (as := [a1, a2]) M hl hs hd he rfl hd2 hm hst ?_
  rw [e]
  exact kk
theorem xj_V2J {sc : Option (Nat × (Int → Int))} {d d2 : Nat} {k k2 : MI} {h : Hp} {pc pc2 : Nat} {lo : Lo} {st : List Value} {Q : Int → Hp → Prop} {a1 a2 : Value} {cs Cn : String} {T : u_T} {N idx b ci : Nat} (M : MOK k2 2) (hl : Cond.methodLink cs idx k2.1 ∈ wT) (hi : Cond.instanceMethod k2.1 ∈ wT) (hse : Cond.selects Cn k2.1 k2.1 ∈ wT) (hcl : xjCl[ci]? = some (Cn, T, N)) (hkb : kd b = (0, ci)) (hd : decode k.2.1 pc = .ok (.invokevirtual idx, 3)) (hp : pc + 3 = pc2) (he : k.1.cls = cs) (hd2 : d2 + 1 ≤ d) (hm : k2.2.2.1 ≤ 40) (hst : (st.map fun v => v.category).sum ≤ 8) (hr : ∀ x, rv k2 x = some (vl x)) (kk : CJ d2 k2 [.ref b, a1, a2] h (fun x h' => XJ sc d k h' pc2 lo (vl x :: st) Q)) : XJ sc d k h pc lo (a2 :: a1 :: .ref b :: st) Q := by
  subst hp
  have e : (fun x h' => XJ sc d k h' (pc + 3) lo ((rv k2 x).toList ++ st) Q) = (fun x h' => XJ sc d k h' (pc + 3) lo (vl x :: st) Q) := by
    funext x h'
    rw [hr x]
    rfl
  refine xg_callV (as := [a1, a2]) M hl hi hse hcl hkb hd he rfl hd2 hm hst ?_
  rw [e]
  exact kk
theorem xj_S2V {sc : Option (Nat × (Int → Int))} {d d2 : Nat} {k k2 : MI} {h : Hp} {pc pc2 : Nat} {lo : Lo} {st : List Value} {Q : Int → Hp → Prop} {a1 a2 : Value} {cs : String} {idx : Nat} (M : MOK k2 2) (hl : Cond.methodLink cs idx k2.1 ∈ wT) (hs : Cond.static k2.1 ∈ wT) (hd : decode k.2.1 pc = .ok (.invokestatic idx, 3)) (hp : pc + 3 = pc2) (he : k.1.cls = cs) (hd2 : d2 + 1 ≤ d) (hm : k2.2.2.1 ≤ 40) (hst : (st.map fun v => v.category).sum ≤ 8) (hr : ∀ x, rv k2 x = none) (kk : CJ d2 k2 [a1, a2] h (fun x h' => XJ sc d k h' pc2 lo (st) Q)) : XJ sc d k h pc lo (a2 :: a1 :: st) Q := by
  subst hp
  have e : (fun x h' => XJ sc d k h' (pc + 3) lo ((rv k2 x).toList ++ st) Q) = (fun x h' => XJ sc d k h' (pc + 3) lo (st) Q) := by
    funext x h'
    rw [hr x]
    rfl
  refine xg_callS (as := [a1, a2]) M hl hs hd he rfl hd2 hm hst ?_
  rw [e]
  exact kk
theorem xj_N2V {sc : Option (Nat × (Int → Int))} {d d2 : Nat} {k k2 : MI} {h : Hp} {pc pc2 : Nat} {lo : Lo} {st : List Value} {Q : Int → Hp → Prop} {a1 a2 : Value} {cs host : String} {idx : Nat} (M : MOK k2 2) (hl : (cs, idx, k2.1, host) ∈ nestL) (hs : Cond.static k2.1 ∈ wT) (hd : decode k.2.1 pc = .ok (.invokestatic idx, 3)) (hp : pc + 3 = pc2) (he : k.1.cls = cs) (hd2 : d2 + 1 ≤ d) (hm : k2.2.2.1 ≤ 40) (hst : (st.map fun v => v.category).sum ≤ 8) (hr : ∀ x, rv k2 x = none) (kk : CJ d2 k2 [a1, a2] h (fun x h' => XJ sc d k h' pc2 lo (st) Q)) : XJ sc d k h pc lo (a2 :: a1 :: st) Q := by
  subst hp
  have e : (fun x h' => XJ sc d k h' (pc + 3) lo ((rv k2 x).toList ++ st) Q) = (fun x h' => XJ sc d k h' (pc + 3) lo (st) Q) := by
    funext x h'
    rw [hr x]
    rfl
  refine xg_callN (as := [a1, a2]) M hl hs hd he rfl hd2 hm hst ?_
  rw [e]
  exact kk
theorem xj_V2V {sc : Option (Nat × (Int → Int))} {d d2 : Nat} {k k2 : MI} {h : Hp} {pc pc2 : Nat} {lo : Lo} {st : List Value} {Q : Int → Hp → Prop} {a1 a2 : Value} {cs Cn : String} {T : u_T} {N idx b ci : Nat} (M : MOK k2 2) (hl : Cond.methodLink cs idx k2.1 ∈ wT) (hi : Cond.instanceMethod k2.1 ∈ wT) (hse : Cond.selects Cn k2.1 k2.1 ∈ wT) (hcl : xjCl[ci]? = some (Cn, T, N)) (hkb : kd b = (0, ci)) (hd : decode k.2.1 pc = .ok (.invokevirtual idx, 3)) (hp : pc + 3 = pc2) (he : k.1.cls = cs) (hd2 : d2 + 1 ≤ d) (hm : k2.2.2.1 ≤ 40) (hst : (st.map fun v => v.category).sum ≤ 8) (hr : ∀ x, rv k2 x = none) (kk : CJ d2 k2 [.ref b, a1, a2] h (fun x h' => XJ sc d k h' pc2 lo (st) Q)) : XJ sc d k h pc lo (a2 :: a1 :: .ref b :: st) Q := by
  subst hp
  have e : (fun x h' => XJ sc d k h' (pc + 3) lo ((rv k2 x).toList ++ st) Q) = (fun x h' => XJ sc d k h' (pc + 3) lo (st) Q) := by
    funext x h'
    rw [hr x]
    rfl
  refine xg_callV (as := [a1, a2]) M hl hi hse hcl hkb hd he rfl hd2 hm hst ?_
  rw [e]
  exact kk
theorem xj_S3I {sc : Option (Nat × (Int → Int))} {d d2 : Nat} {k k2 : MI} {h : Hp} {pc pc2 : Nat} {lo : Lo} {st : List Value} {Q : Int → Hp → Prop} {a1 a2 a3 : Value} {cs : String} {idx : Nat} (M : MOK k2 3) (hl : Cond.methodLink cs idx k2.1 ∈ wT) (hs : Cond.static k2.1 ∈ wT) (hd : decode k.2.1 pc = .ok (.invokestatic idx, 3)) (hp : pc + 3 = pc2) (he : k.1.cls = cs) (hd2 : d2 + 1 ≤ d) (hm : k2.2.2.1 ≤ 40) (hst : (st.map fun v => v.category).sum ≤ 8) (hr : ∀ x, rv k2 x = some (vi x)) (kk : CJ d2 k2 [a1, a2, a3] h (fun x h' => XJ sc d k h' pc2 lo (vi x :: st) Q)) : XJ sc d k h pc lo (a3 :: a2 :: a1 :: st) Q := by
  subst hp
  have e : (fun x h' => XJ sc d k h' (pc + 3) lo ((rv k2 x).toList ++ st) Q) = (fun x h' => XJ sc d k h' (pc + 3) lo (vi x :: st) Q) := by
    funext x h'
    rw [hr x]
    rfl
  refine xg_callS (as := [a1, a2, a3]) M hl hs hd he rfl hd2 hm hst ?_
  rw [e]
  exact kk
theorem xj_N3I {sc : Option (Nat × (Int → Int))} {d d2 : Nat} {k k2 : MI} {h : Hp} {pc pc2 : Nat} {lo : Lo} {st : List Value} {Q : Int → Hp → Prop} {a1 a2 a3 : Value} {cs host : String} {idx : Nat} (M : MOK k2 3) (hl : (cs, idx, k2.1, host) ∈ nestL) (hs : Cond.static k2.1 ∈ wT) (hd : decode k.2.1 pc = .ok (.invokestatic idx, 3)) (hp : pc + 3 = pc2) (he : k.1.cls = cs) (hd2 : d2 + 1 ≤ d) (hm : k2.2.2.1 ≤ 40) (hst : (st.map fun v => v.category).sum ≤ 8) (hr : ∀ x, rv k2 x = some (vi x)) (kk : CJ d2 k2 [a1, a2, a3] h (fun x h' => XJ sc d k h' pc2 lo (vi x :: st) Q)) : XJ sc d k h pc lo (a3 :: a2 :: a1 :: st) Q := by
  subst hp
  have e : (fun x h' => XJ sc d k h' (pc + 3) lo ((rv k2 x).toList ++ st) Q) = (fun x h' => XJ sc d k h' (pc + 3) lo (vi x :: st) Q) := by
    funext x h'
    rw [hr x]
    rfl
  refine xg_callN (as := [a1, a2, a3]) M hl hs hd he rfl hd2 hm hst ?_
  rw [e]
  exact kk
theorem xj_V3I {sc : Option (Nat × (Int → Int))} {d d2 : Nat} {k k2 : MI} {h : Hp} {pc pc2 : Nat} {lo : Lo} {st : List Value} {Q : Int → Hp → Prop} {a1 a2 a3 : Value} {cs Cn : String} {T : u_T} {N idx b ci : Nat} (M : MOK k2 3) (hl : Cond.methodLink cs idx k2.1 ∈ wT) (hi : Cond.instanceMethod k2.1 ∈ wT) (hse : Cond.selects Cn k2.1 k2.1 ∈ wT) (hcl : xjCl[ci]? = some (Cn, T, N)) (hkb : kd b = (0, ci)) (hd : decode k.2.1 pc = .ok (.invokevirtual idx, 3)) (hp : pc + 3 = pc2) (he : k.1.cls = cs) (hd2 : d2 + 1 ≤ d) (hm : k2.2.2.1 ≤ 40) (hst : (st.map fun v => v.category).sum ≤ 8) (hr : ∀ x, rv k2 x = some (vi x)) (kk : CJ d2 k2 [.ref b, a1, a2, a3] h (fun x h' => XJ sc d k h' pc2 lo (vi x :: st) Q)) : XJ sc d k h pc lo (a3 :: a2 :: a1 :: .ref b :: st) Q := by
  subst hp
  have e : (fun x h' => XJ sc d k h' (pc + 3) lo ((rv k2 x).toList ++ st) Q) = (fun x h' => XJ sc d k h' (pc + 3) lo (vi x :: st) Q) := by
    funext x h'
    rw [hr x]
    rfl
  refine xg_callV (as := [a1, a2, a3]) M hl hi hse hcl hkb hd he rfl hd2 hm hst ?_
  rw [e]
  exact kk
theorem xj_S3J {sc : Option (Nat × (Int → Int))} {d d2 : Nat} {k k2 : MI} {h : Hp} {pc pc2 : Nat} {lo : Lo} {st : List Value} {Q : Int → Hp → Prop} {a1 a2 a3 : Value} {cs : String} {idx : Nat} (M : MOK k2 3) (hl : Cond.methodLink cs idx k2.1 ∈ wT) (hs : Cond.static k2.1 ∈ wT) (hd : decode k.2.1 pc = .ok (.invokestatic idx, 3)) (hp : pc + 3 = pc2) (he : k.1.cls = cs) (hd2 : d2 + 1 ≤ d) (hm : k2.2.2.1 ≤ 40) (hst : (st.map fun v => v.category).sum ≤ 8) (hr : ∀ x, rv k2 x = some (vl x)) (kk : CJ d2 k2 [a1, a2, a3] h (fun x h' => XJ sc d k h' pc2 lo (vl x :: st) Q)) : XJ sc d k h pc lo (a3 :: a2 :: a1 :: st) Q := by
  subst hp
  have e : (fun x h' => XJ sc d k h' (pc + 3) lo ((rv k2 x).toList ++ st) Q) = (fun x h' => XJ sc d k h' (pc + 3) lo (vl x :: st) Q) := by
    funext x h'
    rw [hr x]
    rfl
  refine xg_callS (as := [a1, a2, a3]) M hl hs hd he rfl hd2 hm hst ?_
  rw [e]
  exact kk
theorem xj_N3J {sc : Option (Nat × (Int → Int))} {d d2 : Nat} {k k2 : MI} {h : Hp} {pc pc2 : Nat} {lo : Lo} {st : List Value} {Q : Int → Hp → Prop} {a1 a2 a3 : Value} {cs host : String} {idx : Nat} (M : MOK k2 3) (hl : (cs, idx, k2.1, host) ∈ nestL) (hs : Cond.static k2.1 ∈ wT) (hd : decode k.2.1 pc = .ok (.invokestatic idx, 3)) (hp : pc + 3 = pc2) (he : k.1.cls = cs) (hd2 : d2 + 1 ≤ d) (hm : k2.2.2.1 ≤ 40) (hst : (st.map fun v => v.category).sum ≤ 8) (hr : ∀ x, rv k2 x = some (vl x)) (kk : CJ d2 k2 [a1, a2, a3] h (fun x h' => XJ sc d k h' pc2 lo (vl x :: st) Q)) : XJ sc d k h pc lo (a3 :: a2 :: a1 :: st) Q := by
  subst hp
  have e : (fun x h' => XJ sc d k h' (pc + 3) lo ((rv k2 x).toList ++ st) Q) = (fun x h' => XJ sc d k h' (pc + 3) lo (vl x :: st) Q) := by
    funext x h'
    rw [hr x]
    rfl
  refine xg_callN (as := [a1, a2, a3]) M hl hs hd he rfl hd2 hm hst ?_
  rw [e]
  exact kk
theorem xj_V3J {sc : Option (Nat × (Int → Int))} {d d2 : Nat} {k k2 : MI} {h : Hp} {pc pc2 : Nat} {lo : Lo} {st : List Value} {Q : Int → Hp → Prop} {a1 a2 a3 : Value} {cs Cn : String} {T : u_T} {N idx b ci : Nat} (M : MOK k2 3) (hl : Cond.methodLink cs idx k2.1 ∈ wT) (hi : Cond.instanceMethod k2.1 ∈ wT) (hse : Cond.selects Cn k2.1 k2.1 ∈ wT) (hcl : xjCl[ci]? = some (Cn, T, N)) (hkb : kd b = (0, ci)) (hd : decode k.2.1 pc = .ok (.invokevirtual idx, 3)) (hp : pc + 3 = pc2) (he : k.1.cls = cs) (hd2 : d2 + 1 ≤ d) (hm : k2.2.2.1 ≤ 40) (hst : (st.map fun v => v.category).sum ≤ 8) (hr : ∀ x, rv k2 x = some (vl x)) (kk : CJ d2 k2 [.ref b, a1, a2, a3] h (fun x h' => XJ sc d k h' pc2 lo (vl x :: st) Q)) : XJ sc d k h pc lo (a3 :: a2 :: a1 :: .ref b :: st) Q := by
  subst hp
  have e : (fun x h' => XJ sc d k h' (pc + 3) lo ((rv k2 x).toList ++ st) Q) = (fun x h' => XJ sc d k h' (pc + 3) lo (vl x :: st) Q) := by
    funext x h'
    rw [hr x]
    rfl
  refine xg_callV (as := [a1, a2, a3]) M hl hi hse hcl hkb hd he rfl hd2 hm hst ?_
  rw [e]
  exact kk
theorem xj_S3V {sc : Option (Nat × (Int → Int))} {d d2 : Nat} {k k2 : MI} {h : Hp} {pc pc2 : Nat} {lo : Lo} {st : List Value} {Q : Int → Hp → Prop} {a1 a2 a3 : Value} {cs : String} {idx : Nat} (M : MOK k2 3) (hl : Cond.methodLink cs idx k2.1 ∈ wT) (hs : Cond.static k2.1 ∈ wT) (hd : decode k.2.1 pc = .ok (.invokestatic idx, 3)) (hp : pc + 3 = pc2) (he : k.1.cls = cs) (hd2 : d2 + 1 ≤ d) (hm : k2.2.2.1 ≤ 40) (hst : (st.map fun v => v.category).sum ≤ 8) (hr : ∀ x, rv k2 x = none) (kk : CJ d2 k2 [a1, a2, a3] h (fun x h' => XJ sc d k h' pc2 lo (st) Q)) : XJ sc d k h pc lo (a3 :: a2 :: a1 :: st) Q := by
  subst hp
  have e : (fun x h' => XJ sc d k h' (pc + 3) lo ((rv k2 x).toList ++ st) Q) = (fun x h' => XJ sc d k h' (pc + 3) lo (st) Q) := by
    funext x h'
    rw [hr x]
    rfl
  refine xg_callS (as := [a1, a2, a3]) M hl hs hd he rfl hd2 hm hst ?_
  rw [e]
  exact kk
theorem xj_N3V {sc : Option (Nat × (Int → Int))} {d d2 : Nat} {k k2 : MI} {h : Hp} {pc pc2 : Nat} {lo : Lo} {st : List Value} {Q : Int → Hp → Prop} {a1 a2 a3 : Value} {cs host : String} {idx : Nat} (M : MOK k2 3) (hl : (cs, idx, k2.1, host) ∈ nestL) (hs : Cond.static k2.1 ∈ wT) (hd : decode k.2.1 pc = .ok (.invokestatic idx, 3)) (hp : pc + 3 = pc2) (he : k.1.cls = cs) (hd2 : d2 + 1 ≤ d) (hm : k2.2.2.1 ≤ 40) (hst : (st.map fun v => v.category).sum ≤ 8) (hr : ∀ x, rv k2 x = none) (kk : CJ d2 k2 [a1, a2, a3] h (fun x h' => XJ sc d k h' pc2 lo (st) Q)) : XJ sc d k h pc lo (a3 :: a2 :: a1 :: st) Q := by
  subst hp
  have e : (fun x h' => XJ sc d k h' (pc + 3) lo ((rv k2 x).toList ++ st) Q) = (fun x h' => XJ sc d k h' (pc + 3) lo (st) Q) := by
    funext x h'
    rw [hr x]
    rfl
  refine xg_callN (as := [a1, a2, a3]) M hl hs hd he rfl hd2 hm hst ?_
  rw [e]
  exact kk
theorem xj_V3V {sc : Option (Nat × (Int → Int))} {d d2 : Nat} {k k2 : MI} {h : Hp} {pc pc2 : Nat} {lo : Lo} {st : List Value} {Q : Int → Hp → Prop} {a1 a2 a3 : Value} {cs Cn : String} {T : u_T} {N idx b ci : Nat} (M : MOK k2 3) (hl : Cond.methodLink cs idx k2.1 ∈ wT) (hi : Cond.instanceMethod k2.1 ∈ wT) (hse : Cond.selects Cn k2.1 k2.1 ∈ wT) (hcl : xjCl[ci]? = some (Cn, T, N)) (hkb : kd b = (0, ci)) (hd : decode k.2.1 pc = .ok (.invokevirtual idx, 3)) (hp : pc + 3 = pc2) (he : k.1.cls = cs) (hd2 : d2 + 1 ≤ d) (hm : k2.2.2.1 ≤ 40) (hst : (st.map fun v => v.category).sum ≤ 8) (hr : ∀ x, rv k2 x = none) (kk : CJ d2 k2 [.ref b, a1, a2, a3] h (fun x h' => XJ sc d k h' pc2 lo (st) Q)) : XJ sc d k h pc lo (a3 :: a2 :: a1 :: .ref b :: st) Q := by
  subst hp
  have e : (fun x h' => XJ sc d k h' (pc + 3) lo ((rv k2 x).toList ++ st) Q) = (fun x h' => XJ sc d k h' (pc + 3) lo (st) Q) := by
    funext x h'
    rw [hr x]
    rfl
  refine xg_callV (as := [a1, a2, a3]) M hl hi hse hcl hkb hd he rfl hd2 hm hst ?_
  rw [e]
  exact kk
theorem xj_S4I {sc : Option (Nat × (Int → Int))} {d d2 : Nat} {k k2 : MI} {h : Hp} {pc pc2 : Nat} {lo : Lo} {st : List Value} {Q : Int → Hp → Prop} {a1 a2 a3 a4 : Value} {cs : String} {idx : Nat} (M : MOK k2 4) (hl : Cond.methodLink cs idx k2.1 ∈ wT) (hs : Cond.static k2.1 ∈ wT) (hd : decode k.2.1 pc = .ok (.invokestatic idx, 3)) (hp : pc + 3 = pc2) (he : k.1.cls = cs) (hd2 : d2 + 1 ≤ d) (hm : k2.2.2.1 ≤ 40) (hst : (st.map fun v => v.category).sum ≤ 8) (hr : ∀ x, rv k2 x = some (vi x)) (kk : CJ d2 k2 [a1, a2, a3, a4] h (fun x h' => XJ sc d k h' pc2 lo (vi x :: st) Q)) : XJ sc d k h pc lo (a4 :: a3 :: a2 :: a1 :: st) Q := by
  subst hp
  have e : (fun x h' => XJ sc d k h' (pc + 3) lo ((rv k2 x).toList ++ st) Q) = (fun x h' => XJ sc d k h' (pc + 3) lo (vi x :: st) Q) := by
    funext x h'
    rw [hr x]
    rfl
  refine xg_callS (as := [a1, a2, a3, a4]) M hl hs hd he rfl hd2 hm hst ?_
  rw [e]
  exact kk
theorem xj_N4I {sc : Option (Nat × (Int → Int))} {d d2 : Nat} {k k2 : MI} {h : Hp} {pc pc2 : Nat} {lo : Lo} {st : List Value} {Q : Int → Hp → Prop} {a1 a2 a3 a4 : Value} {cs host : String} {idx : Nat} (M : MOK k2 4) (hl : (cs, idx, k2.1, host) ∈ nestL) (hs : Cond.static k2.1 ∈ wT) (hd : decode k.2.1 pc = .ok (.invokestatic idx, 3)) (hp : pc + 3 = pc2) (he : k.1.cls = cs) (hd2 : d2 + 1 ≤ d) (hm : k2.2.2.1 ≤ 40) (hst : (st.map fun v => v.category).sum ≤ 8) (hr : ∀ x, rv k2 x = some (vi x)) (kk : CJ d2 k2 [a1, a2, a3, a4] h (fun x h' => XJ sc d k h' pc2 lo (vi x :: st) Q)) : XJ sc d k h pc lo (a4 :: a3 :: a2 :: a1 :: st) Q := by
  subst hp
  have e : (fun x h' => XJ sc d k h' (pc + 3) lo ((rv k2 x).toList ++ st) Q) = (fun x h' => XJ sc d k h' (pc + 3) lo (vi x :: st) Q) := by
    funext x h'
    rw [hr x]
    rfl
  refine xg_callN (as := [a1, a2, a3, a4]) M hl hs hd he rfl hd2 hm hst ?_
  rw [e]
  exact kk
theorem xj_V4I {sc : Option (Nat × (Int → Int))} {d d2 : Nat} {k k2 : MI} {h : Hp} {pc pc2 : Nat} {lo : Lo} {st : List Value} {Q : Int → Hp → Prop} {a1 a2 a3 a4 : Value} {cs Cn : String} {T : u_T} {N idx b ci : Nat} (M : MOK k2 4) (hl : Cond.methodLink cs idx k2.1 ∈ wT) (hi : Cond.instanceMethod k2.1 ∈ wT) (hse : Cond.selects Cn k2.1 k2.1 ∈ wT) (hcl : xjCl[ci]? = some (Cn, T, N)) (hkb : kd b = (0, ci)) (hd : decode k.2.1 pc = .ok (.invokevirtual idx, 3)) (hp : pc + 3 = pc2) (he : k.1.cls = cs) (hd2 : d2 + 1 ≤ d) (hm : k2.2.2.1 ≤ 40) (hst : (st.map fun v => v.category).sum ≤ 8) (hr : ∀ x, rv k2 x = some (vi x)) (kk : CJ d2 k2 [.ref b, a1, a2, a3, a4] h (fun x h' => XJ sc d k h' pc2 lo (vi x :: st) Q)) : XJ sc d k h pc lo (a4 :: a3 :: a2 :: a1 :: .ref b :: st) Q := by
  subst hp
  have e : (fun x h' => XJ sc d k h' (pc + 3) lo ((rv k2 x).toList ++ st) Q) = (fun x h' => XJ sc d k h' (pc + 3) lo (vi x :: st) Q) := by
    funext x h'
    rw [hr x]
    rfl
  refine xg_callV (as := [a1, a2, a3, a4]) M hl hi hse hcl hkb hd he rfl hd2 hm hst ?_
  rw [e]
  exact kk
theorem xj_S4J {sc : Option (Nat × (Int → Int))} {d d2 : Nat} {k k2 : MI} {h : Hp} {pc pc2 : Nat} {lo : Lo} {st : List Value} {Q : Int → Hp → Prop} {a1 a2 a3 a4 : Value} {cs : String} {idx : Nat} (M : MOK k2 4) (hl : Cond.methodLink cs idx k2.1 ∈ wT) (hs : Cond.static k2.1 ∈ wT) (hd : decode k.2.1 pc = .ok (.invokestatic idx, 3)) (hp : pc + 3 = pc2) (he : k.1.cls = cs) (hd2 : d2 + 1 ≤ d) (hm : k2.2.2.1 ≤ 40) (hst : (st.map fun v => v.category).sum ≤ 8) (hr : ∀ x, rv k2 x = some (vl x)) (kk : CJ d2 k2 [a1, a2, a3, a4] h (fun x h' => XJ sc d k h' pc2 lo (vl x :: st) Q)) : XJ sc d k h pc lo (a4 :: a3 :: a2 :: a1 :: st) Q := by
  subst hp
  have e : (fun x h' => XJ sc d k h' (pc + 3) lo ((rv k2 x).toList ++ st) Q) = (fun x h' => XJ sc d k h' (pc + 3) lo (vl x :: st) Q) := by
    funext x h'
    rw [hr x]
    rfl
  refine xg_callS (as := [a1, a2, a3, a4]) M hl hs hd he rfl hd2 hm hst ?_
  rw [e]
  exact kk
theorem xj_N4J {sc : Option (Nat × (Int → Int))} {d d2 : Nat} {k k2 : MI} {h : Hp} {pc pc2 : Nat} {lo : Lo} {st : List Value} {Q : Int → Hp → Prop} {a1 a2 a3 a4 : Value} {cs host : String} {idx : Nat} (M : MOK k2 4) (hl : (cs, idx, k2.1, host) ∈ nestL) (hs : Cond.static k2.1 ∈ wT) (hd : decode k.2.1 pc = .ok (.invokestatic idx, 3)) (hp : pc + 3 = pc2) (he : k.1.cls = cs) (hd2 : d2 + 1 ≤ d) (hm : k2.2.2.1 ≤ 40) (hst : (st.map fun v => v.category).sum ≤ 8) (hr : ∀ x, rv k2 x = some (vl x)) (kk : CJ d2 k2 [a1, a2, a3, a4] h (fun x h' => XJ sc d k h' pc2 lo (vl x :: st) Q)) : XJ sc d k h pc lo (a4 :: a3 :: a2 :: a1 :: st) Q := by
  subst hp
  have e : (fun x h' => XJ sc d k h' (pc + 3) lo ((rv k2 x).toList ++ st) Q) = (fun x h' => XJ sc d k h' (pc + 3) lo (vl x :: st) Q) := by
    funext x h'
    rw [hr x]
    rfl
  refine xg_callN (as := [a1, a2, a3, a4]) M hl hs hd he rfl hd2 hm hst ?_
  rw [e]
  exact kk
theorem xj_V4J {sc : Option (Nat × (Int → Int))} {d d2 : Nat} {k k2 : MI} {h : Hp} {pc pc2 : Nat} {lo : Lo} {st : List Value} {Q : Int → Hp → Prop} {a1 a2 a3 a4 : Value} {cs Cn : String} {T : u_T} {N idx b ci : Nat} (M : MOK k2 4) (hl : Cond.methodLink cs idx k2.1 ∈ wT) (hi : Cond.instanceMethod k2.1 ∈ wT) (hse : Cond.selects Cn k2.1 k2.1 ∈ wT) (hcl : xjCl[ci]? = some (Cn, T, N)) (hkb : kd b = (0, ci)) (hd : decode k.2.1 pc = .ok (.invokevirtual idx, 3)) (hp : pc + 3 = pc2) (he : k.1.cls = cs) (hd2 : d2 + 1 ≤ d) (hm : k2.2.2.1 ≤ 40) (hst : (st.map fun v => v.category).sum ≤ 8) (hr : ∀ x, rv k2 x = some (vl x)) (kk : CJ d2 k2 [.ref b, a1, a2, a3, a4] h (fun x h' => XJ sc d k h' pc2 lo (vl x :: st) Q)) : XJ sc d k h pc lo (a4 :: a3 :: a2 :: a1 :: .ref b :: st) Q := by
  subst hp
  have e : (fun x h' => XJ sc d k h' (pc + 3) lo ((rv k2 x).toList ++ st) Q) = (fun x h' => XJ sc d k h' (pc + 3) lo (vl x :: st) Q) := by
    funext x h'
    rw [hr x]
    rfl
  refine xg_callV (as := [a1, a2, a3, a4]) M hl hi hse hcl hkb hd he rfl hd2 hm hst ?_
  rw [e]
  exact kk
theorem xj_S4V {sc : Option (Nat × (Int → Int))} {d d2 : Nat} {k k2 : MI} {h : Hp} {pc pc2 : Nat} {lo : Lo} {st : List Value} {Q : Int → Hp → Prop} {a1 a2 a3 a4 : Value} {cs : String} {idx : Nat} (M : MOK k2 4) (hl : Cond.methodLink cs idx k2.1 ∈ wT) (hs : Cond.static k2.1 ∈ wT) (hd : decode k.2.1 pc = .ok (.invokestatic idx, 3)) (hp : pc + 3 = pc2) (he : k.1.cls = cs) (hd2 : d2 + 1 ≤ d) (hm : k2.2.2.1 ≤ 40) (hst : (st.map fun v => v.category).sum ≤ 8) (hr : ∀ x, rv k2 x = none) (kk : CJ d2 k2 [a1, a2, a3, a4] h (fun x h' => XJ sc d k h' pc2 lo (st) Q)) : XJ sc d k h pc lo (a4 :: a3 :: a2 :: a1 :: st) Q := by
  subst hp
  have e : (fun x h' => XJ sc d k h' (pc + 3) lo ((rv k2 x).toList ++ st) Q) = (fun x h' => XJ sc d k h' (pc + 3) lo (st) Q) := by
    funext x h'
    rw [hr x]
    rfl
  refine xg_callS (as := [a1, a2, a3, a4]) M hl hs hd he rfl hd2 hm hst ?_
  rw [e]
  exact kk
theorem xj_N4V {sc : Option (Nat × (Int → Int))} {d d2 : Nat} {k k2 : MI} {h : Hp} {pc pc2 : Nat} {lo : Lo} {st : List Value} {Q : Int → Hp → Prop} {a1 a2 a3 a4 : Value} {cs host : String} {idx : Nat} (M : MOK k2 4) (hl : (cs, idx, k2.1, host) ∈ nestL) (hs : Cond.static k2.1 ∈ wT) (hd : decode k.2.1 pc = .ok (.invokestatic idx, 3)) (hp : pc + 3 = pc2) (he : k.1.cls = cs) (hd2 : d2 + 1 ≤ d) (hm : k2.2.2.1 ≤ 40) (hst : (st.map fun v => v.category).sum ≤ 8) (hr : ∀ x, rv k2 x = none) (kk : CJ d2 k2 [a1, a2, a3, a4] h (fun x h' => XJ sc d k h' pc2 lo (st) Q)) : XJ sc d k h pc lo (a4 :: a3 :: a2 :: a1 :: st) Q := by
  subst hp
  have e : (fun x h' => XJ sc d k h' (pc + 3) lo ((rv k2 x).toList ++ st) Q) = (fun x h' => XJ sc d k h' (pc + 3) lo (st) Q) := by
    funext x h'
    rw [hr x]
    rfl
  refine xg_callN (as := [a1, a2, a3, a4]) M hl hs hd he rfl hd2 hm hst ?_
  rw [e]
  exact kk
theorem xj_V4V {sc : Option (Nat × (Int → Int))} {d d2 : Nat} {k k2 : MI} {h : Hp} {pc pc2 : Nat} {lo : Lo} {st : List Value} {Q : Int → Hp → Prop} {a1 a2 a3 a4 : Value} {cs Cn : String} {T : u_T} {N idx b ci : Nat} (M : MOK k2 4) (hl : Cond.methodLink cs idx k2.1 ∈ wT) (hi : Cond.instanceMethod k2.1 ∈ wT) (hse : Cond.selects Cn k2.1 k2.1 ∈ wT) (hcl : xjCl[ci]? = some (Cn, T, N)) (hkb : kd b = (0, ci)) (hd : decode k.2.1 pc = .ok (.invokevirtual idx, 3)) (hp : pc + 3 = pc2) (he : k.1.cls = cs) (hd2 : d2 + 1 ≤ d) (hm : k2.2.2.1 ≤ 40) (hst : (st.map fun v => v.category).sum ≤ 8) (hr : ∀ x, rv k2 x = none) (kk : CJ d2 k2 [.ref b, a1, a2, a3, a4] h (fun x h' => XJ sc d k h' pc2 lo (st) Q)) : XJ sc d k h pc lo (a4 :: a3 :: a2 :: a1 :: .ref b :: st) Q := by
  subst hp
  have e : (fun x h' => XJ sc d k h' (pc + 3) lo ((rv k2 x).toList ++ st) Q) = (fun x h' => XJ sc d k h' (pc + 3) lo (st) Q) := by
    funext x h'
    rw [hr x]
    rfl
  refine xg_callV (as := [a1, a2, a3, a4]) M hl hi hse hcl hkb hd he rfl hd2 hm hst ?_
  rw [e]
  exact kk
theorem xj_S5I {sc : Option (Nat × (Int → Int))} {d d2 : Nat} {k k2 : MI} {h : Hp} {pc pc2 : Nat} {lo : Lo} {st : List Value} {Q : Int → Hp → Prop} {a1 a2 a3 a4 a5 : Value} {cs : String} {idx : Nat} (M : MOK k2 5) (hl : Cond.methodLink cs idx k2.1 ∈ wT) (hs : Cond.static k2.1 ∈ wT) (hd : decode k.2.1 pc = .ok (.invokestatic idx, 3)) (hp : pc + 3 = pc2) (he : k.1.cls = cs) (hd2 : d2 + 1 ≤ d) (hm : k2.2.2.1 ≤ 40) (hst : (st.map fun v => v.category).sum ≤ 8) (hr : ∀ x, rv k2 x = some (vi x)) (kk : CJ d2 k2 [a1, a2, a3, a4, a5] h (fun x h' => XJ sc d k h' pc2 lo (vi x :: st) Q)) : XJ sc d k h pc lo (a5 :: a4 :: a3 :: a2 :: a1 :: st) Q := by
  subst hp
  have e : (fun x h' => XJ sc d k h' (pc + 3) lo ((rv k2 x).toList ++ st) Q) = (fun x h' => XJ sc d k h' (pc + 3) lo (vi x :: st) Q) := by
    funext x h'
    rw [hr x]
    rfl
  refine xg_callS (as := [a1, a2, a3, a4, a5]) M hl hs hd he rfl hd2 hm hst ?_
  rw [e]
  exact kk
theorem xj_N5I {sc : Option (Nat × (Int → Int))} {d d2 : Nat} {k k2 : MI} {h : Hp} {pc pc2 : Nat} {lo : Lo} {st : List Value} {Q : Int → Hp → Prop} {a1 a2 a3 a4 a5 : Value} {cs host : String} {idx : Nat} (M : MOK k2 5) (hl : (cs, idx, k2.1, host) ∈ nestL) (hs : Cond.static k2.1 ∈ wT) (hd : decode k.2.1 pc = .ok (.invokestatic idx, 3)) (hp : pc + 3 = pc2) (he : k.1.cls = cs) (hd2 : d2 + 1 ≤ d) (hm : k2.2.2.1 ≤ 40) (hst : (st.map fun v => v.category).sum ≤ 8) (hr : ∀ x, rv k2 x = some (vi x)) (kk : CJ d2 k2 [a1, a2, a3, a4, a5] h (fun x h' => XJ sc d k h' pc2 lo (vi x :: st) Q)) : XJ sc d k h pc lo (a5 :: a4 :: a3 :: a2 :: a1 :: st) Q := by
  subst hp
  have e : (fun x h' => XJ sc d k h' (pc + 3) lo ((rv k2 x).toList ++ st) Q) = (fun x h' => XJ sc d k h' (pc + 3) lo (vi x :: st) Q) := by
    funext x h'
    rw [hr x]
    rfl
  refine xg_callN (as := [a1, a2, a3, a4, a5]) M hl hs hd he rfl hd2 hm hst ?_
  rw [e]
  exact kk
theorem xj_V5I {sc : Option (Nat × (Int → Int))} {d d2 : Nat} {k k2 : MI} {h : Hp} {pc pc2 : Nat} {lo : Lo} {st : List Value} {Q : Int → Hp → Prop} {a1 a2 a3 a4 a5 : Value} {cs Cn : String} {T : u_T} {N idx b ci : Nat} (M : MOK k2 5) (hl : Cond.methodLink cs idx k2.1 ∈ wT) (hi : Cond.instanceMethod k2.1 ∈ wT) (hse : Cond.selects Cn k2.1 k2.1 ∈ wT) (hcl : xjCl[ci]? = some (Cn, T, N)) (hkb : kd b = (0, ci)) (hd : decode k.2.1 pc = .ok (.invokevirtual idx, 3)) (hp : pc + 3 = pc2) (he : k.1.cls = cs) (hd2 : d2 + 1 ≤ d) (hm : k2.2.2.1 ≤ 40) (hst : (st.map fun v => v.category).sum ≤ 8) (hr : ∀ x, rv k2 x = some (vi x)) (kk : CJ d2 k2 [.ref b, a1, a2, a3, a4, a5] h (fun x h' => XJ sc d k h' pc2 lo (vi x :: st) Q)) : XJ sc d k h pc lo (a5 :: a4 :: a3 :: a2 :: a1 :: .ref b :: st) Q := by
  subst hp
  have e : (fun x h' => XJ sc d k h' (pc + 3) lo ((rv k2 x).toList ++ st) Q) = (fun x h' => XJ sc d k h' (pc + 3) lo (vi x :: st) Q) := by
    funext x h'
    rw [hr x]
    rfl
  refine xg_callV (as := [a1, a2, a3, a4, a5]) M hl hi hse hcl hkb hd he rfl hd2 hm hst ?_
  rw [e]
  exact kk
theorem xj_S5J {sc : Option (Nat × (Int → Int))} {d d2 : Nat} {k k2 : MI} {h : Hp} {pc pc2 : Nat} {lo : Lo} {st : List Value} {Q : Int → Hp → Prop} {a1 a2 a3 a4 a5 : Value} {cs : String} {idx : Nat} (M : MOK k2 5) (hl : Cond.methodLink cs idx k2.1 ∈ wT) (hs : Cond.static k2.1 ∈ wT) (hd : decode k.2.1 pc = .ok (.invokestatic idx, 3)) (hp : pc + 3 = pc2) (he : k.1.cls = cs) (hd2 : d2 + 1 ≤ d) (hm : k2.2.2.1 ≤ 40) (hst : (st.map fun v => v.category).sum ≤ 8) (hr : ∀ x, rv k2 x = some (vl x)) (kk : CJ d2 k2 [a1, a2, a3, a4, a5] h (fun x h' => XJ sc d k h' pc2 lo (vl x :: st) Q)) : XJ sc d k h pc lo (a5 :: a4 :: a3 :: a2 :: a1 :: st) Q := by
  subst hp
  have e : (fun x h' => XJ sc d k h' (pc + 3) lo ((rv k2 x).toList ++ st) Q) = (fun x h' => XJ sc d k h' (pc + 3) lo (vl x :: st) Q) := by
    funext x h'
    rw [hr x]
    rfl
  refine xg_callS (as := [a1, a2, a3, a4, a5]) M hl hs hd he rfl hd2 hm hst ?_
  rw [e]
  exact kk
theorem xj_N5J {sc : Option (Nat × (Int → Int))} {d d2 : Nat} {k k2 : MI} {h : Hp} {pc pc2 : Nat} {lo : Lo} {st : List Value} {Q : Int → Hp → Prop} {a1 a2 a3 a4 a5 : Value} {cs host : String} {idx : Nat} (M : MOK k2 5) (hl : (cs, idx, k2.1, host) ∈ nestL) (hs : Cond.static k2.1 ∈ wT) (hd : decode k.2.1 pc = .ok (.invokestatic idx, 3)) (hp : pc + 3 = pc2) (he : k.1.cls = cs) (hd2 : d2 + 1 ≤ d) (hm : k2.2.2.1 ≤ 40) (hst : (st.map fun v => v.category).sum ≤ 8) (hr : ∀ x, rv k2 x = some (vl x)) (kk : CJ d2 k2 [a1, a2, a3, a4, a5] h (fun x h' => XJ sc d k h' pc2 lo (vl x :: st) Q)) : XJ sc d k h pc lo (a5 :: a4 :: a3 :: a2 :: a1 :: st) Q := by
  subst hp
  have e : (fun x h' => XJ sc d k h' (pc + 3) lo ((rv k2 x).toList ++ st) Q) = (fun x h' => XJ sc d k h' (pc + 3) lo (vl x :: st) Q) := by
    funext x h'
    rw [hr x]
    rfl
  refine xg_callN (as := [a1, a2, a3, a4, a5]) M hl hs hd he rfl hd2 hm hst ?_
  rw [e]
  exact kk
theorem xj_V5J {sc : Option (Nat × (Int → Int))} {d d2 : Nat} {k k2 : MI} {h : Hp} {pc pc2 : Nat} {lo : Lo} {st : List Value} {Q : Int → Hp → Prop} {a1 a2 a3 a4 a5 : Value} {cs Cn : String} {T : u_T} {N idx b ci : Nat} (M : MOK k2 5) (hl : Cond.methodLink cs idx k2.1 ∈ wT) (hi : Cond.instanceMethod k2.1 ∈ wT) (hse : Cond.selects Cn k2.1 k2.1 ∈ wT) (hcl : xjCl[ci]? = some (Cn, T, N)) (hkb : kd b = (0, ci)) (hd : decode k.2.1 pc = .ok (.invokevirtual idx, 3)) (hp : pc + 3 = pc2) (he : k.1.cls = cs) (hd2 : d2 + 1 ≤ d) (hm : k2.2.2.1 ≤ 40) (hst : (st.map fun v => v.category).sum ≤ 8) (hr : ∀ x, rv k2 x = some (vl x)) (kk : CJ d2 k2 [.ref b, a1, a2, a3, a4, a5] h (fun x h' => XJ sc d k h' pc2 lo (vl x :: st) Q)) : XJ sc d k h pc lo (a5 :: a4 :: a3 :: a2 :: a1 :: .ref b :: st) Q := by
  subst hp
  have e : (fun x h' => XJ sc d k h' (pc + 3) lo ((rv k2 x).toList ++ st) Q) = (fun x h' => XJ sc d k h' (pc + 3) lo (vl x :: st) Q) := by
    funext x h'
    rw [hr x]
    rfl
  refine xg_callV (as := [a1, a2, a3, a4, a5]) M hl hi hse hcl hkb hd he rfl hd2 hm hst ?_
  rw [e]
  exact kk
theorem xj_S5V {sc : Option (Nat × (Int → Int))} {d d2 : Nat} {k k2 : MI} {h : Hp} {pc pc2 : Nat} {lo : Lo} {st : List Value} {Q : Int → Hp → Prop} {a1 a2 a3 a4 a5 : Value} {cs : String} {idx : Nat} (M : MOK k2 5) (hl : Cond.methodLink cs idx k2.1 ∈ wT) (hs : Cond.static k2.1 ∈ wT) (hd : decode k.2.1 pc = .ok (.invokestatic idx, 3)) (hp : pc + 3 = pc2) (he : k.1.cls = cs) (hd2 : d2 + 1 ≤ d) (hm : k2.2.2.1 ≤ 40) (hst : (st.map fun v => v.category).sum ≤ 8) (hr : ∀ x, rv k2 x = none) (kk : CJ d2 k2 [a1, a2, a3, a4, a5] h (fun x h' => XJ sc d k h' pc2 lo (st) Q)) : XJ sc d k h pc lo (a5 :: a4 :: a3 :: a2 :: a1 :: st) Q := by
  subst hp
  have e : (fun x h' => XJ sc d k h' (pc + 3) lo ((rv k2 x).toList ++ st) Q) = (fun x h' => XJ sc d k h' (pc + 3) lo (st) Q) := by
    funext x h'
    rw [hr x]
    rfl
  refine xg_callS (as := [a1, a2, a3, a4, a5]) M hl hs hd he rfl hd2 hm hst ?_
  rw [e]
  exact kk
theorem xj_N5V {sc : Option (Nat × (Int → Int))} {d d2 : Nat} {k k2 : MI} {h : Hp} {pc pc2 : Nat} {lo : Lo} {st : List Value} {Q : Int → Hp → Prop} {a1 a2 a3 a4 a5 : Value} {cs host : String} {idx : Nat} (M : MOK k2 5) (hl : (cs, idx, k2.1, host) ∈ nestL) (hs : Cond.static k2.1 ∈ wT) (hd : decode k.2.1 pc = .ok (.invokestatic idx, 3)) (hp : pc + 3 = pc2) (he : k.1.cls = cs) (hd2 : d2 + 1 ≤ d) (hm : k2.2.2.1 ≤ 40) (hst : (st.map fun v => v.category).sum ≤ 8) (hr : ∀ x, rv k2 x = none) (kk : CJ d2 k2 [a1, a2, a3, a4, a5] h (fun x h' => XJ sc d k h' pc2 lo (st) Q)) : XJ sc d k h pc lo (a5 :: a4 :: a3 :: a2 :: a1 :: st) Q := by
  subst hp
  have e : (fun x h' => XJ sc d k h' (pc + 3) lo ((rv k2 x).toList ++ st) Q) = (fun x h' => XJ sc d k h' (pc + 3) lo (st) Q) := by
    funext x h'
    rw [hr x]
    rfl
  refine xg_callN (as := [a1, a2, a3, a4, a5]) M hl hs hd he rfl hd2 hm hst ?_
  rw [e]
  exact kk
theorem xj_V5V {sc : Option (Nat × (Int → Int))} {d d2 : Nat} {k k2 : MI} {h : Hp} {pc pc2 : Nat} {lo : Lo} {st : List Value} {Q : Int → Hp → Prop} {a1 a2 a3 a4 a5 : Value} {cs Cn : String} {T : u_T} {N idx b ci : Nat} (M : MOK k2 5) (hl : Cond.methodLink cs idx k2.1 ∈ wT) (hi : Cond.instanceMethod k2.1 ∈ wT) (hse : Cond.selects Cn k2.1 k2.1 ∈ wT) (hcl : xjCl[ci]? = some (Cn, T, N)) (hkb : kd b = (0, ci)) (hd : decode k.2.1 pc = .ok (.invokevirtual idx, 3)) (hp : pc + 3 = pc2) (he : k.1.cls = cs) (hd2 : d2 + 1 ≤ d) (hm : k2.2.2.1 ≤ 40) (hst : (st.map fun v => v.category).sum ≤ 8) (hr : ∀ x, rv k2 x = none) (kk : CJ d2 k2 [.ref b, a1, a2, a3, a4, a5] h (fun x h' => XJ sc d k h' pc2 lo (st) Q)) : XJ sc d k h pc lo (a5 :: a4 :: a3 :: a2 :: a1 :: .ref b :: st) Q := by
  subst hp
  have e : (fun x h' => XJ sc d k h' (pc + 3) lo ((rv k2 x).toList ++ st) Q) = (fun x h' => XJ sc d k h' (pc + 3) lo (st) Q) := by
    funext x h'
    rw [hr x]
    rfl
  refine xg_callV (as := [a1, a2, a3, a4, a5]) M hl hi hse hcl hkb hd he rfl hd2 hm hst ?_
  rw [e]
  exact kk
theorem xj_S6I {sc : Option (Nat × (Int → Int))} {d d2 : Nat} {k k2 : MI} {h : Hp} {pc pc2 : Nat} {lo : Lo} {st : List Value} {Q : Int → Hp → Prop} {a1 a2 a3 a4 a5 a6 : Value} {cs : String} {idx : Nat} (M : MOK k2 6) (hl : Cond.methodLink cs idx k2.1 ∈ wT) (hs : Cond.static k2.1 ∈ wT) (hd : decode k.2.1 pc = .ok (.invokestatic idx, 3)) (hp : pc + 3 = pc2) (he : k.1.cls = cs) (hd2 : d2 + 1 ≤ d) (hm : k2.2.2.1 ≤ 40) (hst : (st.map fun v => v.category).sum ≤ 8) (hr : ∀ x, rv k2 x = some (vi x)) (kk : CJ d2 k2 [a1, a2, a3, a4, a5, a6] h (fun x h' => XJ sc d k h' pc2 lo (vi x :: st) Q)) : XJ sc d k h pc lo (a6 :: a5 :: a4 :: a3 :: a2 :: a1 :: st) Q := by
  subst hp
  have e : (fun x h' => XJ sc d k h' (pc + 3) lo ((rv k2 x).toList ++ st) Q) = (fun x h' => XJ sc d k h' (pc + 3) lo (vi x :: st) Q) := by
    funext x h'
    rw [hr x]
    rfl
  refine xg_callS (as := [a1, a2, a3, a4, a5, a6]) M hl hs hd he rfl hd2 hm hst ?_
  rw [e]
  exact kk
theorem xj_N6I {sc : Option (Nat × (Int → Int))} {d d2 : Nat} {k k2 : MI} {h : Hp} {pc pc2 : Nat} {lo : Lo} {st : List Value} {Q : Int → Hp → Prop} {a1 a2 a3 a4 a5 a6 : Value} {cs host : String} {idx : Nat} (M : MOK k2 6) (hl : (cs, idx, k2.1, host) ∈ nestL) (hs : Cond.static k2.1 ∈ wT) (hd : decode k.2.1 pc = .ok (.invokestatic idx, 3)) (hp : pc + 3 = pc2) (he : k.1.cls = cs) (hd2 : d2 + 1 ≤ d) (hm : k2.2.2.1 ≤ 40) (hst : (st.map fun v => v.category).sum ≤ 8) (hr : ∀ x, rv k2 x = some (vi x)) (kk : CJ d2 k2 [a1, a2, a3, a4, a5, a6] h (fun x h' => XJ sc d k h' pc2 lo (vi x :: st) Q)) : XJ sc d k h pc lo (a6 :: a5 :: a4 :: a3 :: a2 :: a1 :: st) Q := by
  subst hp
  have e : (fun x h' => XJ sc d k h' (pc + 3) lo ((rv k2 x).toList ++ st) Q) = (fun x h' => XJ sc d k h' (pc + 3) lo (vi x :: st) Q) := by
    funext x h'
    rw [hr x]
    rfl
  refine xg_callN (as := [a1, a2, a3, a4, a5, a6]) M hl hs hd he rfl hd2 hm hst ?_
  rw [e]
  exact kk
theorem xj_V6I {sc : Option (Nat × (Int → Int))} {d d2 : Nat} {k k2 : MI} {h : Hp} {pc pc2 : Nat} {lo : Lo} {st : List Value} {Q : Int → Hp → Prop} {a1 a2 a3 a4 a5 a6 : Value} {cs Cn : String} {T : u_T} {N idx b ci : Nat} (M : MOK k2 6) (hl : Cond.methodLink cs idx k2.1 ∈ wT) (hi : Cond.instanceMethod k2.1 ∈ wT) (hse : Cond.selects Cn k2.1 k2.1 ∈ wT) (hcl : xjCl[ci]? = some (Cn, T, N)) (hkb : kd b = (0, ci)) (hd : decode k.2.1 pc = .ok (.invokevirtual idx, 3)) (hp : pc + 3 = pc2) (he : k.1.cls = cs) (hd2 : d2 + 1 ≤ d) (hm : k2.2.2.1 ≤ 40) (hst : (st.map fun v => v.category).sum ≤ 8) (hr : ∀ x, rv k2 x = some (vi x)) (kk : CJ d2 k2 [.ref b, a1, a2, a3, a4, a5, a6] h (fun x h' => XJ sc d k h' pc2 lo (vi x :: st) Q)) : XJ sc d k h pc lo (a6 :: a5 :: a4 :: a3 :: a2 :: a1 :: .ref b :: st) Q := by
  subst hp
  have e : (fun x h' => XJ sc d k h' (pc + 3) lo ((rv k2 x).toList ++ st) Q) = (fun x h' => XJ sc d k h' (pc + 3) lo (vi x :: st) Q) := by
    funext x h'
    rw [hr x]
    rfl
  refine xg_callV (as := [a1, a2, a3, a4, a5, a6]) M hl hi hse hcl hkb hd he rfl hd2 hm hst ?_
  rw [e]
  exact kk
theorem xj_S6J {sc : Option (Nat × (Int → Int))} {d d2 : Nat} {k k2 : MI} {h : Hp} {pc pc2 : Nat} {lo : Lo} {st : List Value} {Q : Int → Hp → Prop} {a1 a2 a3 a4 a5 a6 : Value} {cs : String} {idx : Nat} (M : MOK k2 6) (hl : Cond.methodLink cs idx k2.1 ∈ wT) (hs : Cond.static k2.1 ∈ wT) (hd : decode k.2.1 pc = .ok (.invokestatic idx, 3)) (hp : pc + 3 = pc2) (he : k.1.cls = cs) (hd2 : d2 + 1 ≤ d) (hm : k2.2.2.1 ≤ 40) (hst : (st.map fun v => v.category).sum ≤ 8) (hr : ∀ x, rv k2 x = some (vl x)) (kk : CJ d2 k2 [a1, a2, a3, a4, a5, a6] h (fun x h' => XJ sc d k h' pc2 lo (vl x :: st) Q)) : XJ sc d k h pc lo (a6 :: a5 :: a4 :: a3 :: a2 :: a1 :: st) Q := by
  subst hp
  have e : (fun x h' => XJ sc d k h' (pc + 3) lo ((rv k2 x).toList ++ st) Q) = (fun x h' => XJ sc d k h' (pc + 3) lo (vl x :: st) Q) := by
    funext x h'
    rw [hr x]
    rfl
  refine xg_callS (as := [a1, a2, a3, a4, a5, a6]) M hl hs hd he rfl hd2 hm hst ?_
  rw [e]
  exact kk
theorem xj_N6J {sc : Option (Nat × (Int → Int))} {d d2 : Nat} {k k2 : MI} {h : Hp} {pc pc2 : Nat} {lo : Lo} {st : List Value} {Q : Int → Hp → Prop} {a1 a2 a3 a4 a5 a6 : Value} {cs host : String} {idx : Nat} (M : MOK k2 6) (hl : (cs, idx, k2.1, host) ∈ nestL) (hs : Cond.static k2.1 ∈ wT) (hd : decode k.2.1 pc = .ok (.invokestatic idx, 3)) (hp : pc + 3 = pc2) (he : k.1.cls = cs) (hd2 : d2 + 1 ≤ d) (hm : k2.2.2.1 ≤ 40) (hst : (st.map fun v => v.category).sum ≤ 8) (hr : ∀ x, rv k2 x = some (vl x)) (kk : CJ d2 k2 [a1, a2, a3, a4, a5, a6] h (fun x h' => XJ sc d k h' pc2 lo (vl x :: st) Q)) : XJ sc d k h pc lo (a6 :: a5 :: a4 :: a3 :: a2 :: a1 :: st) Q := by
  subst hp
  have e : (fun x h' => XJ sc d k h' (pc + 3) lo ((rv k2 x).toList ++ st) Q) = (fun x h' => XJ sc d k h' (pc + 3) lo (vl x :: st) Q) := by
    funext x h'
    rw [hr x]
    rfl
  refine xg_callN (as := [a1, a2, a3, a4, a5, a6]) M hl hs hd he rfl hd2 hm hst ?_
  rw [e]
  exact kk
theorem xj_V6J {sc : Option (Nat × (Int → Int))} {d d2 : Nat} {k k2 : MI} {h : Hp} {pc pc2 : Nat} {lo : Lo} {st : List Value} {Q : Int → Hp → Prop} {a1 a2 a3 a4 a5 a6 : Value} {cs Cn : String} {T : u_T} {N idx b ci : Nat} (M : MOK k2 6) (hl : Cond.methodLink cs idx k2.1 ∈ wT) (hi : Cond.instanceMethod k2.1 ∈ wT) (hse : Cond.selects Cn k2.1 k2.1 ∈ wT) (hcl : xjCl[ci]? = some (Cn, T, N)) (hkb : kd b = (0, ci)) (hd : decode k.2.1 pc = .ok (.invokevirtual idx, 3)) (hp : pc + 3 = pc2) (he : k.1.cls = cs) (hd2 : d2 + 1 ≤ d) (hm : k2.2.2.1 ≤ 40) (hst : (st.map fun v => v.category).sum ≤ 8) (hr : ∀ x, rv k2 x = some (vl x)) (kk : CJ d2 k2 [.ref b, a1, a2, a3, a4, a5, a6] h (fun x h' => XJ sc d k h' pc2 lo (vl x :: st) Q)) : XJ sc d k h pc lo (a6 :: a5 :: a4 :: a3 :: a2 :: a1 :: .ref b :: st) Q := by
  subst hp
  have e : (fun x h' => XJ sc d k h' (pc + 3) lo ((rv k2 x).toList ++ st) Q) = (fun x h' => XJ sc d k h' (pc + 3) lo (vl x :: st) Q) := by
    funext x h'
    rw [hr x]
    rfl
  refine xg_callV (as := [a1, a2, a3, a4, a5, a6]) M hl hi hse hcl hkb hd he rfl hd2 hm hst ?_
  rw [e]
  exact kk
theorem xj_S6V {sc : Option (Nat × (Int → Int))} {d d2 : Nat} {k k2 : MI} {h : Hp} {pc pc2 : Nat} {lo : Lo} {st : List Value} {Q : Int → Hp → Prop} {a1 a2 a3 a4 a5 a6 : Value} {cs : String} {idx : Nat} (M : MOK k2 6) (hl : Cond.methodLink cs idx k2.1 ∈ wT) (hs : Cond.static k2.1 ∈ wT) (hd : decode k.2.1 pc = .ok (.invokestatic idx, 3)) (hp : pc + 3 = pc2) (he : k.1.cls = cs) (hd2 : d2 + 1 ≤ d) (hm : k2.2.2.1 ≤ 40) (hst : (st.map fun v => v.category).sum ≤ 8) (hr : ∀ x, rv k2 x = none) (kk : CJ d2 k2 [a1, a2, a3, a4, a5, a6] h (fun x h' => XJ sc d k h' pc2 lo (st) Q)) : XJ sc d k h pc lo (a6 :: a5 :: a4 :: a3 :: a2 :: a1 :: st) Q := by
  subst hp
  have e : (fun x h' => XJ sc d k h' (pc + 3) lo ((rv k2 x).toList ++ st) Q) = (fun x h' => XJ sc d k h' (pc + 3) lo (st) Q) := by
    funext x h'
    rw [hr x]
    rfl
  refine xg_callS (as := [a1, a2, a3, a4, a5, a6]) M hl hs hd he rfl hd2 hm hst ?_
  rw [e]
  exact kk
theorem xj_N6V {sc : Option (Nat × (Int → Int))} {d d2 : Nat} {k k2 : MI} {h : Hp} {pc pc2 : Nat} {lo : Lo} {st : List Value} {Q : Int → Hp → Prop} {a1 a2 a3 a4 a5 a6 : Value} {cs host : String} {idx : Nat} (M : MOK k2 6) (hl : (cs, idx, k2.1, host) ∈ nestL) (hs : Cond.static k2.1 ∈ wT) (hd : decode k.2.1 pc = .ok (.invokestatic idx, 3)) (hp : pc + 3 = pc2) (he : k.1.cls = cs) (hd2 : d2 + 1 ≤ d) (hm : k2.2.2.1 ≤ 40) (hst : (st.map fun v => v.category).sum ≤ 8) (hr : ∀ x, rv k2 x = none) (kk : CJ d2 k2 [a1, a2, a3, a4, a5, a6] h (fun x h' => XJ sc d k h' pc2 lo (st) Q)) : XJ sc d k h pc lo (a6 :: a5 :: a4 :: a3 :: a2 :: a1 :: st) Q := by
  subst hp
  have e : (fun x h' => XJ sc d k h' (pc + 3) lo ((rv k2 x).toList ++ st) Q) = (fun x h' => XJ sc d k h' (pc + 3) lo (st) Q) := by
    funext x h'
    rw [hr x]
    rfl
  refine xg_callN (as := [a1, a2, a3, a4, a5, a6]) M hl hs hd he rfl hd2 hm hst ?_
  rw [e]
  exact kk
theorem xj_V6V {sc : Option (Nat × (Int → Int))} {d d2 : Nat} {k k2 : MI} {h : Hp} {pc pc2 : Nat} {lo : Lo} {st : List Value} {Q : Int → Hp → Prop} {a1 a2 a3 a4 a5 a6 : Value} {cs Cn : String} {T : u_T} {N idx b ci : Nat} (M : MOK k2 6) (hl : Cond.methodLink cs idx k2.1 ∈ wT) (hi : Cond.instanceMethod k2.1 ∈ wT) (hse : Cond.selects Cn k2.1 k2.1 ∈ wT) (hcl : xjCl[ci]? = some (Cn, T, N)) (hkb : kd b = (0, ci)) (hd : decode k.2.1 pc = .ok (.invokevirtual idx, 3)) (hp : pc + 3 = pc2) (he : k.1.cls = cs) (hd2 : d2 + 1 ≤ d) (hm : k2.2.2.1 ≤ 40) (hst : (st.map fun v => v.category).sum ≤ 8) (hr : ∀ x, rv k2 x = none) (kk : CJ d2 k2 [.ref b, a1, a2, a3, a4, a5, a6] h (fun x h' => XJ sc d k h' pc2 lo (st) Q)) : XJ sc d k h pc lo (a6 :: a5 :: a4 :: a3 :: a2 :: a1 :: .ref b :: st) Q := by
  subst hp
  have e : (fun x h' => XJ sc d k h' (pc + 3) lo ((rv k2 x).toList ++ st) Q) = (fun x h' => XJ sc d k h' (pc + 3) lo (st) Q) := by
    funext x h'
    rw [hr x]
    rfl
  refine xg_callV (as := [a1, a2, a3, a4, a5, a6]) M hl hi hse hcl hkb hd he rfl hd2 hm hst ?_
  rw [e]
  exact kk
theorem xj_S7I {sc : Option (Nat × (Int → Int))} {d d2 : Nat} {k k2 : MI} {h : Hp} {pc pc2 : Nat} {lo : Lo} {st : List Value} {Q : Int → Hp → Prop} {a1 a2 a3 a4 a5 a6 a7 : Value} {cs : String} {idx : Nat} (M : MOK k2 7) (hl : Cond.methodLink cs idx k2.1 ∈ wT) (hs : Cond.static k2.1 ∈ wT) (hd : decode k.2.1 pc = .ok (.invokestatic idx, 3)) (hp : pc + 3 = pc2) (he : k.1.cls = cs) (hd2 : d2 + 1 ≤ d) (hm : k2.2.2.1 ≤ 40) (hst : (st.map fun v => v.category).sum ≤ 8) (hr : ∀ x, rv k2 x = some (vi x)) (kk : CJ d2 k2 [a1, a2, a3, a4, a5, a6, a7] h (fun x h' => XJ sc d k h' pc2 lo (vi x :: st) Q)) : XJ sc d k h pc lo (a7 :: a6 :: a5 :: a4 :: a3 :: a2 :: a1 :: st) Q := by
  subst hp
  have e : (fun x h' => XJ sc d k h' (pc + 3) lo ((rv k2 x).toList ++ st) Q) = (fun x h' => XJ sc d k h' (pc + 3) lo (vi x :: st) Q) := by
    funext x h'
    rw [hr x]
    rfl
  refine xg_callS (as := [a1, a2, a3, a4, a5, a6, a7]) M hl hs hd he rfl hd2 hm hst ?_
  rw [e]
  exact kk
theorem xj_N7I {sc : Option (Nat × (Int → Int))} {d d2 : Nat} {k k2 : MI} {h : Hp} {pc pc2 : Nat} {lo : Lo} {st : List Value} {Q : Int → Hp → Prop} {a1 a2 a3 a4 a5 a6 a7 : Value} {cs host : String} {idx : Nat} (M : MOK k2 7) (hl : (cs, idx, k2.1, host) ∈ nestL) (hs : Cond.static k2.1 ∈ wT) (hd : decode k.2.1 pc = .ok (.invokestatic idx, 3)) (hp : pc + 3 = pc2) (he : k.1.cls = cs) (hd2 : d2 + 1 ≤ d) (hm : k2.2.2.1 ≤ 40) (hst : (st.map fun v => v.category).sum ≤ 8) (hr : ∀ x, rv k2 x = some (vi x)) (kk : CJ d2 k2 [a1, a2, a3, a4, a5, a6, a7] h (fun x h' => XJ sc d k h' pc2 lo (vi x :: st) Q)) : XJ sc d k h pc lo (a7 :: a6 :: a5 :: a4 :: a3 :: a2 :: a1 :: st) Q := by
  subst hp
  have e : (fun x h' => XJ sc d k h' (pc + 3) lo ((rv k2 x).toList ++ st) Q) = (fun x h' => XJ sc d k h' (pc + 3) lo (vi x :: st) Q) := by
    funext x h'
    rw [hr x]
    rfl
  refine xg_callN (as := [a1, a2, a3, a4, a5, a6, a7]) M hl hs hd he rfl hd2 hm hst ?_
  rw [e]
  exact kk
theorem xj_V7I {sc : Option (Nat × (Int → Int))} {d d2 : Nat} {k k2 : MI} {h : Hp} {pc pc2 : Nat} {lo : Lo} {st : List Value} {Q : Int → Hp → Prop} {a1 a2 a3 a4 a5 a6 a7 : Value} {cs Cn : String} {T : u_T} {N idx b ci : Nat} (M : MOK k2 7) (hl : Cond.methodLink cs idx k2.1 ∈ wT) (hi : Cond.instanceMethod k2.1 ∈ wT) (hse : Cond.selects Cn k2.1 k2.1 ∈ wT) (hcl : xjCl[ci]? = some (Cn, T, N)) (hkb : kd b = (0, ci)) (hd : decode k.2.1 pc = .ok (.invokevirtual idx, 3)) (hp : pc + 3 = pc2) (he : k.1.cls = cs) (hd2 : d2 + 1 ≤ d) (hm : k2.2.2.1 ≤ 40) (hst : (st.map fun v => v.category).sum ≤ 8) (hr : ∀ x, rv k2 x = some (vi x)) (kk : CJ d2 k2 [.ref b, a1, a2, a3, a4, a5, a6, a7] h (fun x h' => XJ sc d k h' pc2 lo (vi x :: st) Q)) : XJ sc d k h pc lo (a7 :: a6 :: a5 :: a4 :: a3 :: a2 :: a1 :: .ref b :: st) Q := by
  subst hp
  have e : (fun x h' => XJ sc d k h' (pc + 3) lo ((rv k2 x).toList ++ st) Q) = (fun x h' => XJ sc d k h' (pc + 3) lo (vi x :: st) Q) := by
    funext x h'
    rw [hr x]
    rfl
  refine xg_callV (as := [a1, a2, a3, a4, a5, a6, a7]) M hl hi hse hcl hkb hd he rfl hd2 hm hst ?_
  rw [e]
  exact kk
theorem xj_S7J {sc : Option (Nat × (Int → Int))} {d d2 : Nat} {k k2 : MI} {h : Hp} {pc pc2 : Nat} {lo : Lo} {st : List Value} {Q : Int → Hp → Prop} {a1 a2 a3 a4 a5 a6 a7 : Value} {cs : String} {idx : Nat} (M : MOK k2 7) (hl : Cond.methodLink cs idx k2.1 ∈ wT) (hs : Cond.static k2.1 ∈ wT) (hd : decode k.2.1 pc = .ok (.invokestatic idx, 3)) (hp : pc + 3 = pc2) (he : k.1.cls = cs) (hd2 : d2 + 1 ≤ d) (hm : k2.2.2.1 ≤ 40) (hst : (st.map fun v => v.category).sum ≤ 8) (hr : ∀ x, rv k2 x = some (vl x)) (kk : CJ d2 k2 [a1, a2, a3, a4, a5, a6, a7] h (fun x h' => XJ sc d k h' pc2 lo (vl x :: st) Q)) : XJ sc d k h pc lo (a7 :: a6 :: a5 :: a4 :: a3 :: a2 :: a1 :: st) Q := by
  subst hp
  have e : (fun x h' => XJ sc d k h' (pc + 3) lo ((rv k2 x).toList ++ st) Q) = (fun x h' => XJ sc d k h' (pc + 3) lo (vl x :: st) Q) := by
    funext x h'
    rw [hr x]
    rfl
  refine xg_callS (as := [a1, a2, a3, a4, a5, a6, a7]) M hl hs hd he rfl hd2 hm hst ?_
  rw [e]
  exact kk
theorem xj_N7J {sc : Option (Nat × (Int → Int))} {d d2 : Nat} {k k2 : MI} {h : Hp} {pc pc2 : Nat} {lo : Lo} {st : List Value} {Q : Int → Hp → Prop} {a1 a2 a3 a4 a5 a6 a7 : Value} {cs host : String} {idx : Nat} (M : MOK k2 7) (hl : (cs, idx, k2.1, host) ∈ nestL) (hs : Cond.static k2.1 ∈ wT) (hd : decode k.2.1 pc = .ok (.invokestatic idx, 3)) (hp : pc + 3 = pc2) (he : k.1.cls = cs) (hd2 : d2 + 1 ≤ d) (hm : k2.2.2.1 ≤ 40) (hst : (st.map fun v => v.category).sum ≤ 8) (hr : ∀ x, rv k2 x = some (vl x)) (kk : CJ d2 k2 [a1, a2, a3, a4, a5, a6, a7] h (fun x h' => XJ sc d k h' pc2 lo (vl x :: st) Q)) : XJ sc d k h pc lo (a7 :: a6 :: a5 :: a4 :: a3 :: a2 :: a1 :: st) Q := by
  subst hp
  have e : (fun x h' => XJ sc d k h' (pc + 3) lo ((rv k2 x).toList ++ st) Q) = (fun x h' => XJ sc d k h' (pc + 3) lo (vl x :: st) Q) := by
    funext x h'
    rw [hr x]
    rfl
  refine xg_callN (as := [a1, a2, a3, a4, a5, a6, a7]) M hl hs hd he rfl hd2 hm hst ?_
  rw [e]
  exact kk
theorem xj_V7J {sc : Option (Nat × (Int → Int))} {d d2 : Nat} {k k2 : MI} {h : Hp} {pc pc2 : Nat} {lo : Lo} {st : List Value} {Q : Int → Hp → Prop} {a1 a2 a3 a4 a5 a6 a7 : Value} {cs Cn : String} {T : u_T} {N idx b ci : Nat} (M : MOK k2 7) (hl : Cond.methodLink cs idx k2.1 ∈ wT) (hi : Cond.instanceMethod k2.1 ∈ wT) (hse : Cond.selects Cn k2.1 k2.1 ∈ wT) (hcl : xjCl[ci]? = some (Cn, T, N)) (hkb : kd b = (0, ci)) (hd : decode k.2.1 pc = .ok (.invokevirtual idx, 3)) (hp : pc + 3 = pc2) (he : k.1.cls = cs) (hd2 : d2 + 1 ≤ d) (hm : k2.2.2.1 ≤ 40) (hst : (st.map fun v => v.category).sum ≤ 8) (hr : ∀ x, rv k2 x = some (vl x)) (kk : CJ d2 k2 [.ref b, a1, a2, a3, a4, a5, a6, a7] h (fun x h' => XJ sc d k h' pc2 lo (vl x :: st) Q)) : XJ sc d k h pc lo (a7 :: a6 :: a5 :: a4 :: a3 :: a2 :: a1 :: .ref b :: st) Q := by
  subst hp
  have e : (fun x h' => XJ sc d k h' (pc + 3) lo ((rv k2 x).toList ++ st) Q) = (fun x h' => XJ sc d k h' (pc + 3) lo (vl x :: st) Q) := by
    funext x h'
    rw [hr x]
    rfl
  refine xg_callV (as := [a1, a2, a3, a4, a5, a6, a7]) M hl hi hse hcl hkb hd he rfl hd2 hm hst ?_
  rw [e]
  exact kk
theorem xj_S7V {sc : Option (Nat × (Int → Int))} {d d2 : Nat} {k k2 : MI} {h : Hp} {pc pc2 : Nat} {lo : Lo} {st : List Value} {Q : Int → Hp → Prop} {a1 a2 a3 a4 a5 a6 a7 : Value} {cs : String} {idx : Nat} (M : MOK k2 7) (hl : Cond.methodLink cs idx k2.1 ∈ wT) (hs : Cond.static k2.1 ∈ wT) (hd : decode k.2.1 pc = .ok (.invokestatic idx, 3)) (hp : pc + 3 = pc2) (he : k.1.cls = cs) (hd2 : d2 + 1 ≤ d) (hm : k2.2.2.1 ≤ 40) (hst : (st.map fun v => v.category).sum ≤ 8) (hr : ∀ x, rv k2 x = none) (kk : CJ d2 k2 [a1, a2, a3, a4, a5, a6, a7] h (fun x h' => XJ sc d k h' pc2 lo (st) Q)) : XJ sc d k h pc lo (a7 :: a6 :: a5 :: a4 :: a3 :: a2 :: a1 :: st) Q := by
  subst hp
  have e : (fun x h' => XJ sc d k h' (pc + 3) lo ((rv k2 x).toList ++ st) Q) = (fun x h' => XJ sc d k h' (pc + 3) lo (st) Q) := by
    funext x h'
    rw [hr x]
    rfl
  refine xg_callS (as := [a1, a2, a3, a4, a5, a6, a7]) M hl hs hd he rfl hd2 hm hst ?_
  rw [e]
  exact kk
theorem xj_N7V {sc : Option (Nat × (Int → Int))} {d d2 : Nat} {k k2 : MI} {h : Hp} {pc pc2 : Nat} {lo : Lo} {st : List Value} {Q : Int → Hp → Prop} {a1 a2 a3 a4 a5 a6 a7 : Value} {cs host : String} {idx : Nat} (M : MOK k2 7) (hl : (cs, idx, k2.1, host) ∈ nestL) (hs : Cond.static k2.1 ∈ wT) (hd : decode k.2.1 pc = .ok (.invokestatic idx, 3)) (hp : pc + 3 = pc2) (he : k.1.cls = cs) (hd2 : d2 + 1 ≤ d) (hm : k2.2.2.1 ≤ 40) (hst : (st.map fun v => v.category).sum ≤ 8) (hr : ∀ x, rv k2 x = none) (kk : CJ d2 k2 [a1, a2, a3, a4, a5, a6, a7] h (fun x h' => XJ sc d k h' pc2 lo (st) Q)) : XJ sc d k h pc lo (a7 :: a6 :: a5 :: a4 :: a3 :: a2 :: a1 :: st) Q := by
  subst hp
  have e : (fun x h' => XJ sc d k h' (pc + 3) lo ((rv k2 x).toList ++ st) Q) = (fun x h' => XJ sc d k h' (pc + 3) lo (st) Q) := by
    funext x h'
    rw [hr x]
    rfl
  refine xg_callN (as := [a1, a2, a3, a4, a5, a6, a7]) M hl hs hd he rfl hd2 hm hst ?_
  rw [e]
  exact kk
theorem xj_V7V {sc : Option (Nat × (Int → Int))} {d d2 : Nat} {k k2 : MI} {h : Hp} {pc pc2 : Nat} {lo : Lo} {st : List Value} {Q : Int → Hp → Prop} {a1 a2 a3 a4 a5 a6 a7 : Value} {cs Cn : String} {T : u_T} {N idx b ci : Nat} (M : MOK k2 7) (hl : Cond.methodLink cs idx k2.1 ∈ wT) (hi : Cond.instanceMethod k2.1 ∈ wT) (hse : Cond.selects Cn k2.1 k2.1 ∈ wT) (hcl : xjCl[ci]? = some (Cn, T, N)) (hkb : kd b = (0, ci)) (hd : decode k.2.1 pc = .ok (.invokevirtual idx, 3)) (hp : pc + 3 = pc2) (he : k.1.cls = cs) (hd2 : d2 + 1 ≤ d) (hm : k2.2.2.1 ≤ 40) (hst : (st.map fun v => v.category).sum ≤ 8) (hr : ∀ x, rv k2 x = none) (kk : CJ d2 k2 [.ref b, a1, a2, a3, a4, a5, a6, a7] h (fun x h' => XJ sc d k h' pc2 lo (st) Q)) : XJ sc d k h pc lo (a7 :: a6 :: a5 :: a4 :: a3 :: a2 :: a1 :: .ref b :: st) Q := by
  subst hp
  have e : (fun x h' => XJ sc d k h' (pc + 3) lo ((rv k2 x).toList ++ st) Q) = (fun x h' => XJ sc d k h' (pc + 3) lo (st) Q) := by
    funext x h'
    rw [hr x]
    rfl
  refine xg_callV (as := [a1, a2, a3, a4, a5, a6, a7]) M hl hi hse hcl hkb hd he rfl hd2 hm hst ?_
  rw [e]
  exact kk
theorem q_eq {Q : Int → Hp → Prop} {x y : Int} {h : Hp} (e : x = y) (hq : Q y h) : Q x h := e ▸ hq
theorem q_eh {Q : Int → Hp → Prop} {x y : Int} {h h2 : Hp} (e : x = y) (eh : h = h2) (hq : Q y h2) : Q x h := e ▸ eh ▸ hq
abbrev kX6_init : MI := (yX6_init, cX6_init, 1, none)
theorem mok_X6_init : MOK kX6_init 0 := ⟨by decide +kernel, co_yX6_init, ini_X6, ⟨by decide +kernel, by decide +kernel⟩, by decide +kernel⟩
abbrev kX4_init : MI := (yX4_init, cX4_init, 1, none)
theorem mok_X4_init : MOK kX4_init 0 := ⟨by decide +kernel, co_yX4_init, ini_X4, ⟨by decide +kernel, by decide +kernel⟩, by decide +kernel⟩
abbrev kX5_init : MI := (yX5_init, cX5_init, 1, none)
theorem mok_X5_init : MOK kX5_init 0 := ⟨by decide +kernel, co_yX5_init, ini_X5, ⟨by decide +kernel, by decide +kernel⟩, by decide +kernel⟩
abbrev kX2_init : MI := (yX2_init, cX2_init, 1, none)
theorem mok_X2_init : MOK kX2_init 0 := ⟨by decide +kernel, co_yX2_init, ini_X2, ⟨by decide +kernel, by decide +kernel⟩, by decide +kernel⟩
abbrev kX3_init : MI := (yX3_init, cX3_init, 1, none)
theorem mok_X3_init : MOK kX3_init 0 := ⟨by decide +kernel, co_yX3_init, ini_X3, ⟨by decide +kernel, by decide +kernel⟩, by decide +kernel⟩
abbrev kX0_init : MI := (yX0_init, cX0_init, 1, none)
theorem mok_X0_init : MOK kX0_init 0 := ⟨by decide +kernel, co_yX0_init, ini_X0, ⟨by decide +kernel, by decide +kernel⟩, by decide +kernel⟩
abbrev kX1_init : MI := (yX1_init, cX1_init, 1, none)
theorem mok_X1_init : MOK kX1_init 0 := ⟨by decide +kernel, co_yX1_init, ini_X1, ⟨by decide +kernel, by decide +kernel⟩, by decide +kernel⟩
abbrev kX6_letter : MI := (yX6_letter, cX6_letter, 2, (some .int))
theorem mok_X6_letter : MOK kX6_letter 1 := ⟨by decide +kernel, co_yX6_letter, ini_X6, ⟨by decide +kernel, by decide +kernel⟩, by decide +kernel⟩
abbrev kX6_within : MI := (yX6_within, cX6_within, 3, (some .boolean))
theorem mok_X6_within : MOK kX6_within 3 := ⟨by decide +kernel, co_yX6_within, ini_X6, ⟨by decide +kernel, by decide +kernel⟩, by decide +kernel⟩
abbrev kX4_add : MI := (yX4_add, cX4_add, 2, (some .boolean))
theorem mok_X4_add : MOK kX4_add 1 := ⟨by decide +kernel, co_yX4_add, ini_X4, ⟨by decide +kernel, by decide +kernel⟩, by decide +kernel⟩
abbrev kX6_put : MI := (yX6_put, cX6_put, 3, none)
theorem mok_X6_put : MOK kX6_put 3 := ⟨by decide +kernel, co_yX6_put, ini_X6, ⟨by decide +kernel, by decide +kernel⟩, by decide +kernel⟩
abbrev kX6_blank : MI := (yX6_blank, cX6_blank, 2, (some .int))
theorem mok_X6_blank : MOK kX6_blank 0 := ⟨by decide +kernel, co_yX6_blank, ini_X6, ⟨by decide +kernel, by decide +kernel⟩, by decide +kernel⟩
abbrev kX6_fault : MI := (yX6_fault, cX6_fault, 1, (some .int))
theorem mok_X6_fault : MOK kX6_fault 0 := ⟨by decide +kernel, co_yX6_fault, ini_X6, ⟨by decide +kernel, by decide +kernel⟩, by decide +kernel⟩
abbrev kX4_firstFault : MI := (yX4_firstFault, cX4_firstFault, 5, (some .int))
theorem mok_X4_firstFault : MOK kX4_firstFault 0 := ⟨by decide +kernel, co_yX4_firstFault, ini_X4, ⟨by decide +kernel, by decide +kernel⟩, by decide +kernel⟩
abbrev kX4_semicolon : MI := (yX4_semicolon, cX4_semicolon, 2, (some .int))
theorem mok_X4_semicolon : MOK kX4_semicolon 0 := ⟨by decide +kernel, co_yX4_semicolon, ini_X4, ⟨by decide +kernel, by decide +kernel⟩, by decide +kernel⟩
abbrev kX6_at : MI := (yX6_at, cX6_at, 2, (some .int))
theorem mok_X6_at : MOK kX6_at 2 := ⟨by decide +kernel, co_yX6_at, ini_X6, ⟨by decide +kernel, by decide +kernel⟩, by decide +kernel⟩
abbrev kX4_isNerve : MI := (yX4_isNerve, cX4_isNerve, 2, (some .boolean))
theorem mok_X4_isNerve : MOK kX4_isNerve 2 := ⟨by decide +kernel, co_yX4_isNerve, ini_X4, ⟨by decide +kernel, by decide +kernel⟩, by decide +kernel⟩
abbrev kX4_isDigit : MI := (yX4_isDigit, cX4_isDigit, 1, (some .boolean))
theorem mok_X4_isDigit : MOK kX4_isDigit 1 := ⟨by decide +kernel, co_yX4_isDigit, ini_X4, ⟨by decide +kernel, by decide +kernel⟩, by decide +kernel⟩
abbrev kX4_isOfGloves : MI := (yX4_isOfGloves, cX4_isOfGloves, 3, (some .boolean))
theorem mok_X4_isOfGloves : MOK kX4_isOfGloves 2 := ⟨by decide +kernel, co_yX4_isOfGloves, ini_X4, ⟨by decide +kernel, by decide +kernel⟩, by decide +kernel⟩
abbrev kX6_kindOf : MI := (yX6_kindOf, cX6_kindOf, 1, (some .int))
theorem mok_X6_kindOf : MOK kX6_kindOf 1 := ⟨by decide +kernel, co_yX6_kindOf, ini_X6, ⟨by decide +kernel, by decide +kernel⟩, by decide +kernel⟩
abbrev kX6_shop : MI := (yX6_shop, cX6_shop, 1, (some .int))
theorem mok_X6_shop : MOK kX6_shop 0 := ⟨by decide +kernel, co_yX6_shop, ini_X6, ⟨by decide +kernel, by decide +kernel⟩, by decide +kernel⟩
abbrev kX4_isShop : MI := (yX4_isShop, cX4_isShop, 2, (some .boolean))
theorem mok_X4_isShop : MOK kX4_isShop 0 := ⟨by decide +kernel, co_yX4_isShop, ini_X4, ⟨by decide +kernel, by decide +kernel⟩, by decide +kernel⟩
abbrev kX4_readInto : MI := (yX4_readInto, cX4_readInto, 4, none)
theorem mok_X4_readInto : MOK kX4_readInto 1 := ⟨by decide +kernel, co_yX4_readInto, ini_X4, ⟨by decide +kernel, by decide +kernel⟩, by decide +kernel⟩
abbrev kX5_open : MI := (yX5_open, cX5_open, 3, none)
theorem mok_X5_open : MOK kX5_open 2 := ⟨by decide +kernel, co_yX5_open, ini_X5, ⟨by decide +kernel, by decide +kernel⟩, by decide +kernel⟩
abbrev kJ7_fill_53178 : MI := (yJ7_fill_53178, cJ7_fill_53178, 4, none)
theorem mok_J7_fill_53178 : MOK kJ7_fill_53178 2 := ⟨by decide +kernel, co_yJ7_fill_53178, ini_J7, ⟨by decide +kernel, by decide +kernel⟩, by decide +kernel⟩
abbrev kX6_glove : MI := (yX6_glove, cX6_glove, 3, (some .int))
theorem mok_X6_glove : MOK kX6_glove 2 := ⟨by decide +kernel, co_yX6_glove, ini_X6, ⟨by decide +kernel, by decide +kernel⟩, by decide +kernel⟩
abbrev kX5_hasGlove : MI := (yX5_hasGlove, cX5_hasGlove, 2, (some .boolean))
theorem mok_X5_hasGlove : MOK kX5_hasGlove 1 := ⟨by decide +kernel, co_yX5_hasGlove, ini_X5, ⟨by decide +kernel, by decide +kernel⟩, by decide +kernel⟩
abbrev kX5_temper : MI := (yX5_temper, cX5_temper, 3, (some .int))
theorem mok_X5_temper : MOK kX5_temper 2 := ⟨by decide +kernel, co_yX5_temper, ini_X5, ⟨by decide +kernel, by decide +kernel⟩, by decide +kernel⟩
abbrev kX6_ageOf : MI := (yX6_ageOf, cX6_ageOf, 1, (some .int))
theorem mok_X6_ageOf : MOK kX6_ageOf 1 := ⟨by decide +kernel, co_yX6_ageOf, ini_X6, ⟨by decide +kernel, by decide +kernel⟩, by decide +kernel⟩
abbrev kX6_temperOf : MI := (yX6_temperOf, cX6_temperOf, 3, (some .int))
theorem mok_X6_temperOf : MOK kX6_temperOf 3 := ⟨by decide +kernel, co_yX6_temperOf, ini_X6, ⟨by decide +kernel, by decide +kernel⟩, by decide +kernel⟩
abbrev kX5_quarrels : MI := (yX5_quarrels, cX5_quarrels, 6, (some .int))
theorem mok_X5_quarrels : MOK kX5_quarrels 1 := ⟨by decide +kernel, co_yX5_quarrels, ini_X5, ⟨by decide +kernel, by decide +kernel⟩, by decide +kernel⟩
abbrev kJ9_abs_0f7a4 : MI := (yJ9_abs_0f7a4, cJ9_abs_0f7a4, 1, (some .int))
abbrev kX5_possibleMarks : MI := (yX5_possibleMarks, cX5_possibleMarks, 4, (some .int))
theorem mok_X5_possibleMarks : MOK kX5_possibleMarks 1 := ⟨by decide +kernel, co_yX5_possibleMarks, ini_X5, ⟨by decide +kernel, by decide +kernel⟩, by decide +kernel⟩
abbrev kX5_agreesWithSeen : MI := (yX5_agreesWithSeen, cX5_agreesWithSeen, 6, (some .boolean))
theorem mok_X5_agreesWithSeen : MOK kX5_agreesWithSeen 2 := ⟨by decide +kernel, co_yX5_agreesWithSeen, ini_X5, ⟨by decide +kernel, by decide +kernel⟩, by decide +kernel⟩
abbrev kX5_bestFeel : MI := (yX5_bestFeel, cX5_bestFeel, 7, (some .int))
theorem mok_X5_bestFeel : MOK kX5_bestFeel 1 := ⟨by decide +kernel, co_yX5_bestFeel, ini_X5, ⟨by decide +kernel, by decide +kernel⟩, by decide +kernel⟩
abbrev kX5_mostLeft : MI := (yX5_mostLeft, cX5_mostLeft, 10, (some .int))
theorem mok_X5_mostLeft : MOK kX5_mostLeft 3 := ⟨by decide +kernel, co_yX5_mostLeft, ini_X5, ⟨by decide +kernel, by decide +kernel⟩, by decide +kernel⟩
abbrev kX6_hasBit : MI := (yX6_hasBit, cX6_hasBit, 2, (some .boolean))
theorem mok_X6_hasBit : MOK kX6_hasBit 2 := ⟨by decide +kernel, co_yX6_hasBit, ini_X6, ⟨by decide +kernel, by decide +kernel⟩, by decide +kernel⟩
abbrev kJ9_max_7cf53 : MI := (yJ9_max_7cf53, cJ9_max_7cf53, 2, (some .int))
abbrev kX6_as : MI := (yX6_as, cX6_as, 3, (some .int))
theorem mok_X6_as : MOK kX6_as 2 := ⟨by decide +kernel, co_yX6_as, ini_X6, ⟨by decide +kernel, by decide +kernel⟩, by decide +kernel⟩
abbrev kX6_isOfKind : MI := (yX6_isOfKind, cX6_isOfKind, 2, (some .boolean))
theorem mok_X6_isOfKind : MOK kX6_isOfKind 2 := ⟨by decide +kernel, co_yX6_isOfKind, ini_X6, ⟨by decide +kernel, by decide +kernel⟩, by decide +kernel⟩
abbrev kX6_wearer : MI := (yX6_wearer, cX6_wearer, 3, (some .int))
theorem mok_X6_wearer : MOK kX6_wearer 2 := ⟨by decide +kernel, co_yX6_wearer, ini_X6, ⟨by decide +kernel, by decide +kernel⟩, by decide +kernel⟩
abbrev kX5_hasWearer : MI := (yX5_hasWearer, cX5_hasWearer, 2, (some .boolean))
theorem mok_X5_hasWearer : MOK kX5_hasWearer 1 := ⟨by decide +kernel, co_yX5_hasWearer, ini_X5, ⟨by decide +kernel, by decide +kernel⟩, by decide +kernel⟩
abbrev kX5_moodOf : MI := (yX5_moodOf, cX5_moodOf, 3, (some .int))
theorem mok_X5_moodOf : MOK kX5_moodOf 2 := ⟨by decide +kernel, co_yX5_moodOf, ini_X5, ⟨by decide +kernel, by decide +kernel⟩, by decide +kernel⟩
abbrev kX5_heldBy : MI := (yX5_heldBy, cX5_heldBy, 4, (some .int))
theorem mok_X5_heldBy : MOK kX5_heldBy 1 := ⟨by decide +kernel, co_yX5_heldBy, ini_X5, ⟨by decide +kernel, by decide +kernel⟩, by decide +kernel⟩
abbrev kX5_moodWith : MI := (yX5_moodWith, cX5_moodWith, 9, (some .int))
theorem mok_X5_moodWith : MOK kX5_moodWith 3 := ⟨by decide +kernel, co_yX5_moodWith, ini_X5, ⟨by decide +kernel, by decide +kernel⟩, by decide +kernel⟩
abbrev kJ9_min_7cf53 : MI := (yJ9_min_7cf53, cJ9_min_7cf53, 2, (some .int))
abbrev kX5_gloveOn : MI := (yX5_gloveOn, cX5_gloveOn, 4, (some .int))
theorem mok_X5_gloveOn : MOK kX5_gloveOn 2 := ⟨by decide +kernel, co_yX5_gloveOn, ini_X5, ⟨by decide +kernel, by decide +kernel⟩, by decide +kernel⟩
abbrev kX6_doing : MI := (yX6_doing, cX6_doing, 1, (some .int))
theorem mok_X6_doing : MOK kX6_doing 1 := ⟨by decide +kernel, co_yX6_doing, ini_X6, ⟨by decide +kernel, by decide +kernel⟩, by decide +kernel⟩
abbrev kX5_pleases : MI := (yX5_pleases, cX5_pleases, 4, (some .boolean))
theorem mok_X5_pleases : MOK kX5_pleases 2 := ⟨by decide +kernel, co_yX5_pleases, ini_X5, ⟨by decide +kernel, by decide +kernel⟩, by decide +kernel⟩
abbrev kX5_stillSet : MI := (yX5_stillSet, cX5_stillSet, 9, (some .int))
theorem mok_X5_stillSet : MOK kX5_stillSet 1 := ⟨by decide +kernel, co_yX5_stillSet, ini_X5, ⟨by decide +kernel, by decide +kernel⟩, by decide +kernel⟩
abbrev kJ6_bitCount_0f7a4 : MI := (yJ6_bitCount_0f7a4, cJ6_bitCount_0f7a4, 1, (some .int))
theorem mok_J6_bitCount_0f7a4 : MOK kJ6_bitCount_0f7a4 1 := ⟨by decide +kernel, co_yJ6_bitCount_0f7a4, ini_J6, ⟨by decide +kernel, by decide +kernel⟩, by decide +kernel⟩
abbrev kX5_changesTo : MI := (yX5_changesTo, cX5_changesTo, 3, (some .int))
theorem mok_X5_changesTo : MOK kX5_changesTo 2 := ⟨by decide +kernel, co_yX5_changesTo, ini_X5, ⟨by decide +kernel, by decide +kernel⟩, by decide +kernel⟩
abbrev kX6_wear : MI := (yX6_wear, cX6_wear, 4, (some .int))
theorem mok_X6_wear : MOK kX6_wear 3 := ⟨by decide +kernel, co_yX6_wear, ini_X6, ⟨by decide +kernel, by decide +kernel⟩, by decide +kernel⟩
abbrev kX5_putOn : MI := (yX5_putOn, cX5_putOn, 4, none)
theorem mok_X5_putOn : MOK kX5_putOn 3 := ⟨by decide +kernel, co_yX5_putOn, ini_X5, ⟨by decide +kernel, by decide +kernel⟩, by decide +kernel⟩
abbrev kX6_off : MI := (yX6_off, cX6_off, 3, (some .int))
theorem mok_X6_off : MOK kX6_off 1 := ⟨by decide +kernel, co_yX6_off, ini_X6, ⟨by decide +kernel, by decide +kernel⟩, by decide +kernel⟩
abbrev kX5_takeOff : MI := (yX5_takeOff, cX5_takeOff, 2, none)
theorem mok_X5_takeOff : MOK kX5_takeOff 1 := ⟨by decide +kernel, co_yX5_takeOff, ini_X5, ⟨by decide +kernel, by decide +kernel⟩, by decide +kernel⟩
abbrev kX6_hour : MI := (yX6_hour, cX6_hour, 1, (some .int))
theorem mok_X6_hour : MOK kX6_hour 0 := ⟨by decide +kernel, co_yX6_hour, ini_X6, ⟨by decide +kernel, by decide +kernel⟩, by decide +kernel⟩
abbrev kX6_hasShop : MI := (yX6_hasShop, cX6_hasShop, 1, (some .boolean))
theorem mok_X6_hasShop : MOK kX6_hasShop 0 := ⟨by decide +kernel, co_yX6_hasShop, ini_X6, ⟨by decide +kernel, by decide +kernel⟩, by decide +kernel⟩
abbrev kX5_passHour : MI := (yX5_passHour, cX5_passHour, 2, none)
theorem mok_X5_passHour : MOK kX5_passHour 0 := ⟨by decide +kernel, co_yX5_passHour, ini_X5, ⟨by decide +kernel, by decide +kernel⟩, by decide +kernel⟩
abbrev kX6_book : MI := (yX6_book, cX6_book, 4, (some .int))
theorem mok_X6_book : MOK kX6_book 2 := ⟨by decide +kernel, co_yX6_book, ini_X6, ⟨by decide +kernel, by decide +kernel⟩, by decide +kernel⟩
abbrev kX6_wish : MI := (yX6_wish, cX6_wish, 5, (some .int))
theorem mok_X6_wish : MOK kX6_wish 3 := ⟨by decide +kernel, co_yX6_wish, ini_X6, ⟨by decide +kernel, by decide +kernel⟩, by decide +kernel⟩
abbrev kX6_mood : MI := (yX6_mood, cX6_mood, 3, (some .int))
theorem mok_X6_mood : MOK kX6_mood 2 := ⟨by decide +kernel, co_yX6_mood, ini_X6, ⟨by decide +kernel, by decide +kernel⟩, by decide +kernel⟩
abbrev kX6_dress : MI := (yX6_dress, cX6_dress, 2, (some .int))
theorem mok_X6_dress : MOK kX6_dress 1 := ⟨by decide +kernel, co_yX6_dress, ini_X6, ⟨by decide +kernel, by decide +kernel⟩, by decide +kernel⟩
abbrev kX6_asksOfGlove : MI := (yX6_asksOfGlove, cX6_asksOfGlove, 1, (some .boolean))
theorem mok_X6_asksOfGlove : MOK kX6_asksOfGlove 1 := ⟨by decide +kernel, co_yX6_asksOfGlove, ini_X6, ⟨by decide +kernel, by decide +kernel⟩, by decide +kernel⟩
abbrev kX2_find : MI := (yX2_find, cX2_find, 2, none)
theorem mok_X2_find : MOK kX2_find 1 := ⟨by decide +kernel, co_yX2_find, ini_X2, ⟨by decide +kernel, by decide +kernel⟩, by decide +kernel⟩
abbrev kX2_judgeSets : MI := (yX2_judgeSets, cX2_judgeSets, 5, none)
theorem mok_X2_judgeSets : MOK kX2_judgeSets 1 := ⟨by decide +kernel, co_yX2_judgeSets, ini_X2, ⟨by decide +kernel, by decide +kernel⟩, by decide +kernel⟩
abbrev kX2_give : MI := (yX2_give, cX2_give, 6, none)
theorem mok_X2_give : MOK kX2_give 4 := ⟨by decide +kernel, co_yX2_give, ini_X2, ⟨by decide +kernel, by decide +kernel⟩, by decide +kernel⟩
abbrev kX2_keepIfBetter : MI := (yX2_keepIfBetter, cX2_keepIfBetter, 5, none)
theorem mok_X2_keepIfBetter : MOK kX2_keepIfBetter 2 := ⟨by decide +kernel, co_yX2_keepIfBetter, ini_X2, ⟨by decide +kernel, by decide +kernel⟩, by decide +kernel⟩
abbrev kX6_copyRow : MI := (yX6_copyRow, cX6_copyRow, 2, none)
theorem mok_X6_copyRow : MOK kX6_copyRow 2 := ⟨by decide +kernel, co_yX6_copyRow, ini_X6, ⟨by decide +kernel, by decide +kernel⟩, by decide +kernel⟩
abbrev kX6_boxes : MI := (yX6_boxes, cX6_boxes, 2, (some .int))
theorem mok_X6_boxes : MOK kX6_boxes 1 := ⟨by decide +kernel, co_yX6_boxes, ini_X6, ⟨by decide +kernel, by decide +kernel⟩, by decide +kernel⟩
abbrev kX3_find : MI := (yX3_find, cX3_find, 3, none)
theorem mok_X3_find : MOK kX3_find 1 := ⟨by decide +kernel, co_yX3_find, ini_X3, ⟨by decide +kernel, by decide +kernel⟩, by decide +kernel⟩
abbrev kX3_pack : MI := (yX3_pack, cX3_pack, 6, none)
theorem mok_X3_pack : MOK kX3_pack 4 := ⟨by decide +kernel, co_yX3_pack, ini_X3, ⟨by decide +kernel, by decide +kernel⟩, by decide +kernel⟩
abbrev kX6_odds : MI := (yX6_odds, cX6_odds, 9, (some .int))
theorem mok_X6_odds : MOK kX6_odds 4 := ⟨by decide +kernel, co_yX6_odds, ini_X6, ⟨by decide +kernel, by decide +kernel⟩, by decide +kernel⟩
abbrev kX0_spread : MI := (yX0_spread, cX0_spread, 5, none)
theorem mok_X0_spread : MOK kX0_spread 2 := ⟨by decide +kernel, co_yX0_spread, ini_X0, ⟨by decide +kernel, by decide +kernel⟩, by decide +kernel⟩
abbrev kX6_commonDivisor : MI := (yX6_commonDivisor, cX6_commonDivisor, 6, (some .int))
theorem mok_X6_commonDivisor : MOK kX6_commonDivisor 2 := ⟨by decide +kernel, co_yX6_commonDivisor, ini_X6, ⟨by decide +kernel, by decide +kernel⟩, by decide +kernel⟩
abbrev kX6_see : MI := (yX6_see, cX6_see, 4, (some .int))
theorem mok_X6_see : MOK kX6_see 3 := ⟨by decide +kernel, co_yX6_see, ini_X6, ⟨by decide +kernel, by decide +kernel⟩, by decide +kernel⟩
abbrev kX5_addSeen : MI := (yX5_addSeen, cX5_addSeen, 4, (some .boolean))
theorem mok_X5_addSeen : MOK kX5_addSeen 3 := ⟨by decide +kernel, co_yX5_addSeen, ini_X5, ⟨by decide +kernel, by decide +kernel⟩, by decide +kernel⟩
abbrev kX6_forget : MI := (yX6_forget, cX6_forget, 2, (some .int))
theorem mok_X6_forget : MOK kX6_forget 0 := ⟨by decide +kernel, co_yX6_forget, ini_X6, ⟨by decide +kernel, by decide +kernel⟩, by decide +kernel⟩
abbrev kX6_teas : MI := (yX6_teas, cX6_teas, 6, (some .int))
theorem mok_X6_teas : MOK kX6_teas 3 := ⟨by decide +kernel, co_yX6_teas, ini_X6, ⟨by decide +kernel, by decide +kernel⟩, by decide +kernel⟩
abbrev kX5_copyFrom : MI := (yX5_copyFrom, cX5_copyFrom, 2, none)
theorem mok_X5_copyFrom : MOK kX5_copyFrom 1 := ⟨by decide +kernel, co_yX5_copyFrom, ini_X5, ⟨by decide +kernel, by decide +kernel⟩, by decide +kernel⟩
abbrev kX5_changeByDraws : MI := (yX5_changeByDraws, cX5_changeByDraws, 5, none)
theorem mok_X5_changeByDraws : MOK kX5_changeByDraws 1 := ⟨by decide +kernel, co_yX5_changeByDraws, ini_X5, ⟨by decide +kernel, by decide +kernel⟩, by decide +kernel⟩
abbrev kX1_next : MI := (yX1_next, cX1_next, 2, (some .int))
theorem mok_X1_next : MOK kX1_next 1 := ⟨by decide +kernel, co_yX1_next, ini_X1, ⟨by decide +kernel, by decide +kernel⟩, by decide +kernel⟩
abbrev kX5_countDoing : MI := (yX5_countDoing, cX5_countDoing, 4, (some .int))
theorem mok_X5_countDoing : MOK kX5_countDoing 1 := ⟨by decide +kernel, co_yX5_countDoing, ini_X5, ⟨by decide +kernel, by decide +kernel⟩, by decide +kernel⟩
abbrev kX5_countOnHands : MI := (yX5_countOnHands, cX5_countOnHands, 1, (some .int))
theorem mok_X5_countOnHands : MOK kX5_countOnHands 0 := ⟨by decide +kernel, co_yX5_countOnHands, ini_X5, ⟨by decide +kernel, by decide +kernel⟩, by decide +kernel⟩
abbrev kX6_image : MI := (yX6_image, cX6_image, 1, (some .int))
theorem mok_X6_image : MOK kX6_image 0 := ⟨by decide +kernel, co_yX6_image, ini_X6, ⟨by decide +kernel, by decide +kernel⟩, by decide +kernel⟩
abbrev kX6_restore : MI := (yX6_restore, cX6_restore, 1, (some .int))
theorem mok_X6_restore : MOK kX6_restore 0 := ⟨by decide +kernel, co_yX6_restore, ini_X6, ⟨by decide +kernel, by decide +kernel⟩, by decide +kernel⟩
abbrev kX6_count : MI := (yX6_count, cX6_count, 2, (some .int))
theorem mok_X6_count : MOK kX6_count 1 := ⟨by decide +kernel, co_yX6_count, ini_X6, ⟨by decide +kernel, by decide +kernel⟩, by decide +kernel⟩
abbrev kX5_countPleased : MI := (yX5_countPleased, cX5_countPleased, 3, (some .int))
theorem mok_X5_countPleased : MOK kX5_countPleased 0 := ⟨by decide +kernel, co_yX5_countPleased, ini_X5, ⟨by decide +kernel, by decide +kernel⟩, by decide +kernel⟩
abbrev kX5_countQuarrels : MI := (yX5_countQuarrels, cX5_countQuarrels, 3, (some .int))
theorem mok_X5_countQuarrels : MOK kX5_countQuarrels 0 := ⟨by decide +kernel, co_yX5_countQuarrels, ini_X5, ⟨by decide +kernel, by decide +kernel⟩, by decide +kernel⟩
abbrev kX5_sumOfTempers : MI := (yX5_sumOfTempers, cX5_sumOfTempers, 3, (some .int))
theorem mok_X5_sumOfTempers : MOK kX5_sumOfTempers 0 := ⟨by decide +kernel, co_yX5_sumOfTempers, ini_X5, ⟨by decide +kernel, by decide +kernel⟩, by decide +kernel⟩
abbrev kX6_digest : MI := (yX6_digest, cX6_digest, 5, (some .long))
theorem mok_X6_digest : MOK kX6_digest 0 := ⟨by decide +kernel, co_yX6_digest, ini_X6, ⟨by decide +kernel, by decide +kernel⟩, by decide +kernel⟩
abbrev kX6_digestOfWearer : MI := (yX6_digestOfWearer, cX6_digestOfWearer, 7, (some .long))
theorem mok_X6_digestOfWearer : MOK kX6_digestOfWearer 2 := ⟨by decide +kernel, co_yX6_digestOfWearer, ini_X6, ⟨by decide +kernel, by decide +kernel⟩, by decide +kernel⟩
abbrev kX6_digestOfBoxes : MI := (yX6_digestOfBoxes, cX6_digestOfBoxes, 6, (some .long))
theorem mok_X6_digestOfBoxes : MOK kX6_digestOfBoxes 1 := ⟨by decide +kernel, co_yX6_digestOfBoxes, ini_X6, ⟨by decide +kernel, by decide +kernel⟩, by decide +kernel⟩
abbrev kX7_init : MI := (yX7_init, cX7_init, 1, none)
theorem mok_X7_init : MOK kX7_init 0 := ⟨by decide +kernel, co_yX7_init, ini_X7, ⟨by decide +kernel, by decide +kernel⟩, by decide +kernel⟩
abbrev kX7_letter : MI := (yX7_letter, cX7_letter, 2, (some .int))
theorem mok_X7_letter : MOK kX7_letter 1 := ⟨by decide +kernel, co_yX7_letter, ini_X7, ⟨by decide +kernel, by decide +kernel⟩, by decide +kernel⟩
abbrev kX7_within : MI := (yX7_within, cX7_within, 3, (some .boolean))
theorem mok_X7_within : MOK kX7_within 3 := ⟨by decide +kernel, co_yX7_within, ini_X7, ⟨by decide +kernel, by decide +kernel⟩, by decide +kernel⟩
abbrev kX7_blank : MI := (yX7_blank, cX7_blank, 2, (some .int))
theorem mok_X7_blank : MOK kX7_blank 0 := ⟨by decide +kernel, co_yX7_blank, ini_X7, ⟨by decide +kernel, by decide +kernel⟩, by decide +kernel⟩
abbrev kX7_fault : MI := (yX7_fault, cX7_fault, 1, (some .int))
theorem mok_X7_fault : MOK kX7_fault 0 := ⟨by decide +kernel, co_yX7_fault, ini_X7, ⟨by decide +kernel, by decide +kernel⟩, by decide +kernel⟩
abbrev kX7_read : MI := (yX7_read, cX7_read, 2, (some .int))
theorem mok_X7_read : MOK kX7_read 0 := ⟨by decide +kernel, co_yX7_read, ini_X7, ⟨by decide +kernel, by decide +kernel⟩, by decide +kernel⟩
abbrev kX7_at : MI := (yX7_at, cX7_at, 2, (some .int))
theorem mok_X7_at : MOK kX7_at 1 := ⟨by decide +kernel, co_yX7_at, ini_X7, ⟨by decide +kernel, by decide +kernel⟩, by decide +kernel⟩
abbrev kX7_kindBy : MI := (yX7_kindBy, cX7_kindBy, 1, (some .int))
theorem mok_X7_kindBy : MOK kX7_kindBy 1 := ⟨by decide +kernel, co_yX7_kindBy, ini_X7, ⟨by decide +kernel, by decide +kernel⟩, by decide +kernel⟩
abbrev kX7_isFigure : MI := (yX7_isFigure, cX7_isFigure, 2, (some .boolean))
theorem mok_X7_isFigure : MOK kX7_isFigure 1 := ⟨by decide +kernel, co_yX7_isFigure, ini_X7, ⟨by decide +kernel, by decide +kernel⟩, by decide +kernel⟩
abbrev kX7_readWearers : MI := (yX7_readWearers, cX7_readWearers, 3, (some .int))
theorem mok_X7_readWearers : MOK kX7_readWearers 1 := ⟨by decide +kernel, co_yX7_readWearers, ini_X7, ⟨by decide +kernel, by decide +kernel⟩, by decide +kernel⟩
abbrev kX7_shop : MI := (yX7_shop, cX7_shop, 2, (some .int))
theorem mok_X7_shop : MOK kX7_shop 0 := ⟨by decide +kernel, co_yX7_shop, ini_X7, ⟨by decide +kernel, by decide +kernel⟩, by decide +kernel⟩
abbrev kX7_glove : MI := (yX7_glove, cX7_glove, 3, (some .int))
theorem mok_X7_glove : MOK kX7_glove 2 := ⟨by decide +kernel, co_yX7_glove, ini_X7, ⟨by decide +kernel, by decide +kernel⟩, by decide +kernel⟩
abbrev kX7_isGlove : MI := (yX7_isGlove, cX7_isGlove, 2, (some .boolean))
theorem mok_X7_isGlove : MOK kX7_isGlove 1 := ⟨by decide +kernel, co_yX7_isGlove, ini_X7, ⟨by decide +kernel, by decide +kernel⟩, by decide +kernel⟩
abbrev kX7_gloveNow : MI := (yX7_gloveNow, cX7_gloveNow, 3, (some .int))
theorem mok_X7_gloveNow : MOK kX7_gloveNow 2 := ⟨by decide +kernel, co_yX7_gloveNow, ini_X7, ⟨by decide +kernel, by decide +kernel⟩, by decide +kernel⟩
abbrev kX7_temperBehind : MI := (yX7_temperBehind, cX7_temperBehind, 3, (some .int))
theorem mok_X7_temperBehind : MOK kX7_temperBehind 2 := ⟨by decide +kernel, co_yX7_temperBehind, ini_X7, ⟨by decide +kernel, by decide +kernel⟩, by decide +kernel⟩
abbrev kX7_aged : MI := (yX7_aged, cX7_aged, 3, (some .int))
theorem mok_X7_aged : MOK kX7_aged 2 := ⟨by decide +kernel, co_yX7_aged, ini_X7, ⟨by decide +kernel, by decide +kernel⟩, by decide +kernel⟩
abbrev kX7_temperBy : MI := (yX7_temperBy, cX7_temperBy, 4, (some .int))
theorem mok_X7_temperBy : MOK kX7_temperBy 3 := ⟨by decide +kernel, co_yX7_temperBy, ini_X7, ⟨by decide +kernel, by decide +kernel⟩, by decide +kernel⟩
abbrev kX7_quarrels : MI := (yX7_quarrels, cX7_quarrels, 4, (some .int))
theorem mok_X7_quarrels : MOK kX7_quarrels 1 := ⟨by decide +kernel, co_yX7_quarrels, ini_X7, ⟨by decide +kernel, by decide +kernel⟩, by decide +kernel⟩
abbrev kX7_quarrel : MI := (yX7_quarrel, cX7_quarrel, 5, (some .boolean))
theorem mok_X7_quarrel : MOK kX7_quarrel 3 := ⟨by decide +kernel, co_yX7_quarrel, ini_X7, ⟨by decide +kernel, by decide +kernel⟩, by decide +kernel⟩
abbrev kX7_marksOf : MI := (yX7_marksOf, cX7_marksOf, 6, (some .int))
theorem mok_X7_marksOf : MOK kX7_marksOf 1 := ⟨by decide +kernel, co_yX7_marksOf, ini_X7, ⟨by decide +kernel, by decide +kernel⟩, by decide +kernel⟩
abbrev kX7_feelFor : MI := (yX7_feelFor, cX7_feelFor, 7, (some .int))
theorem mok_X7_feelFor : MOK kX7_feelFor 1 := ⟨by decide +kernel, co_yX7_feelFor, ini_X7, ⟨by decide +kernel, by decide +kernel⟩, by decide +kernel⟩
abbrev kX7_worstBy : MI := (yX7_worstBy, cX7_worstBy, 8, (some .int))
theorem mok_X7_worstBy : MOK kX7_worstBy 3 := ⟨by decide +kernel, co_yX7_worstBy, ini_X7, ⟨by decide +kernel, by decide +kernel⟩, by decide +kernel⟩
abbrev kX7_isIn : MI := (yX7_isIn, cX7_isIn, 2, (some .boolean))
theorem mok_X7_isIn : MOK kX7_isIn 2 := ⟨by decide +kernel, co_yX7_isIn, ini_X7, ⟨by decide +kernel, by decide +kernel⟩, by decide +kernel⟩
abbrev kX7_as : MI := (yX7_as, cX7_as, 4, (some .int))
theorem mok_X7_as : MOK kX7_as 2 := ⟨by decide +kernel, co_yX7_as, ini_X7, ⟨by decide +kernel, by decide +kernel⟩, by decide +kernel⟩
abbrev kX7_wearer : MI := (yX7_wearer, cX7_wearer, 3, (some .int))
theorem mok_X7_wearer : MOK kX7_wearer 2 := ⟨by decide +kernel, co_yX7_wearer, ini_X7, ⟨by decide +kernel, by decide +kernel⟩, by decide +kernel⟩
abbrev kX7_isWearer : MI := (yX7_isWearer, cX7_isWearer, 2, (some .boolean))
theorem mok_X7_isWearer : MOK kX7_isWearer 1 := ⟨by decide +kernel, co_yX7_isWearer, ini_X7, ⟨by decide +kernel, by decide +kernel⟩, by decide +kernel⟩
abbrev kX7_wearerNow : MI := (yX7_wearerNow, cX7_wearerNow, 3, (some .int))
theorem mok_X7_wearerNow : MOK kX7_wearerNow 2 := ⟨by decide +kernel, co_yX7_wearerNow, ini_X7, ⟨by decide +kernel, by decide +kernel⟩, by decide +kernel⟩
abbrev kX7_moodNow : MI := (yX7_moodNow, cX7_moodNow, 2, (some .int))
theorem mok_X7_moodNow : MOK kX7_moodNow 1 := ⟨by decide +kernel, co_yX7_moodNow, ini_X7, ⟨by decide +kernel, by decide +kernel⟩, by decide +kernel⟩
abbrev kX7_wornBy : MI := (yX7_wornBy, cX7_wornBy, 4, (some .int))
theorem mok_X7_wornBy : MOK kX7_wornBy 1 := ⟨by decide +kernel, co_yX7_wornBy, ini_X7, ⟨by decide +kernel, by decide +kernel⟩, by decide +kernel⟩
abbrev kX7_moodWith : MI := (yX7_moodWith, cX7_moodWith, 8, (some .int))
theorem mok_X7_moodWith : MOK kX7_moodWith 3 := ⟨by decide +kernel, co_yX7_moodWith, ini_X7, ⟨by decide +kernel, by decide +kernel⟩, by decide +kernel⟩
abbrev kX7_onHand : MI := (yX7_onHand, cX7_onHand, 4, (some .int))
theorem mok_X7_onHand : MOK kX7_onHand 1 := ⟨by decide +kernel, co_yX7_onHand, ini_X7, ⟨by decide +kernel, by decide +kernel⟩, by decide +kernel⟩
abbrev kX7_doesBy : MI := (yX7_doesBy, cX7_doesBy, 1, (some .int))
theorem mok_X7_doesBy : MOK kX7_doesBy 1 := ⟨by decide +kernel, co_yX7_doesBy, ini_X7, ⟨by decide +kernel, by decide +kernel⟩, by decide +kernel⟩
abbrev kX7_isWished : MI := (yX7_isWished, cX7_isWished, 3, (some .boolean))
theorem mok_X7_isWished : MOK kX7_isWished 2 := ⟨by decide +kernel, co_yX7_isWished, ini_X7, ⟨by decide +kernel, by decide +kernel⟩, by decide +kernel⟩
abbrev kX7_changesNow : MI := (yX7_changesNow, cX7_changesNow, 9, (some .int))
theorem mok_X7_changesNow : MOK kX7_changesNow 2 := ⟨by decide +kernel, co_yX7_changesNow, ini_X7, ⟨by decide +kernel, by decide +kernel⟩, by decide +kernel⟩
abbrev kX7_size : MI := (yX7_size, cX7_size, 3, (some .int))
theorem mok_X7_size : MOK kX7_size 1 := ⟨by decide +kernel, co_yX7_size, ini_X7, ⟨by decide +kernel, by decide +kernel⟩, by decide +kernel⟩
abbrev kX7_wear : MI := (yX7_wear, cX7_wear, 4, (some .int))
theorem mok_X7_wear : MOK kX7_wear 3 := ⟨by decide +kernel, co_yX7_wear, ini_X7, ⟨by decide +kernel, by decide +kernel⟩, by decide +kernel⟩
abbrev kX7_off : MI := (yX7_off, cX7_off, 3, (some .int))
theorem mok_X7_off : MOK kX7_off 1 := ⟨by decide +kernel, co_yX7_off, ini_X7, ⟨by decide +kernel, by decide +kernel⟩, by decide +kernel⟩
abbrev kX7_hour : MI := (yX7_hour, cX7_hour, 1, (some .int))
theorem mok_X7_hour : MOK kX7_hour 0 := ⟨by decide +kernel, co_yX7_hour, ini_X7, ⟨by decide +kernel, by decide +kernel⟩, by decide +kernel⟩
abbrev kX7_goBy : MI := (yX7_goBy, cX7_goBy, 2, none)
theorem mok_X7_goBy : MOK kX7_goBy 0 := ⟨by decide +kernel, co_yX7_goBy, ini_X7, ⟨by decide +kernel, by decide +kernel⟩, by decide +kernel⟩
abbrev kX7_book : MI := (yX7_book, cX7_book, 4, (some .int))
theorem mok_X7_book : MOK kX7_book 2 := ⟨by decide +kernel, co_yX7_book, ini_X7, ⟨by decide +kernel, by decide +kernel⟩, by decide +kernel⟩
abbrev kX7_wish : MI := (yX7_wish, cX7_wish, 5, (some .int))
theorem mok_X7_wish : MOK kX7_wish 3 := ⟨by decide +kernel, co_yX7_wish, ini_X7, ⟨by decide +kernel, by decide +kernel⟩, by decide +kernel⟩
abbrev kX7_mood : MI := (yX7_mood, cX7_mood, 3, (some .int))
theorem mok_X7_mood : MOK kX7_mood 2 := ⟨by decide +kernel, co_yX7_mood, ini_X7, ⟨by decide +kernel, by decide +kernel⟩, by decide +kernel⟩
abbrev kX7_dress : MI := (yX7_dress, cX7_dress, 2, (some .int))
theorem mok_X7_dress : MOK kX7_dress 1 := ⟨by decide +kernel, co_yX7_dress, ini_X7, ⟨by decide +kernel, by decide +kernel⟩, by decide +kernel⟩
abbrev kX7_dressNow : MI := (yX7_dressNow, cX7_dressNow, 6, (some .int))
theorem mok_X7_dressNow : MOK kX7_dressNow 1 := ⟨by decide +kernel, co_yX7_dressNow, ini_X7, ⟨by decide +kernel, by decide +kernel⟩, by decide +kernel⟩
abbrev kX7_begin : MI := (yX7_begin, cX7_begin, 2, none)
theorem mok_X7_begin : MOK kX7_begin 0 := ⟨by decide +kernel, co_yX7_begin, ini_X7, ⟨by decide +kernel, by decide +kernel⟩, by decide +kernel⟩
abbrev kX7_wishedBy : MI := (yX7_wishedBy, cX7_wishedBy, 4, (some .int))
theorem mok_X7_wishedBy : MOK kX7_wishedBy 0 := ⟨by decide +kernel, co_yX7_wishedBy, ini_X7, ⟨by decide +kernel, by decide +kernel⟩, by decide +kernel⟩
abbrev kX7_givenTo : MI := (yX7_givenTo, cX7_givenTo, 4, (some .int))
theorem mok_X7_givenTo : MOK kX7_givenTo 1 := ⟨by decide +kernel, co_yX7_givenTo, ini_X7, ⟨by decide +kernel, by decide +kernel⟩, by decide +kernel⟩
abbrev kX7_given : MI := (yX7_given, cX7_given, 3, (some .int))
theorem mok_X7_given : MOK kX7_given 0 := ⟨by decide +kernel, co_yX7_given, ini_X7, ⟨by decide +kernel, by decide +kernel⟩, by decide +kernel⟩
abbrev kX7_keepRow : MI := (yX7_keepRow, cX7_keepRow, 3, none)
theorem mok_X7_keepRow : MOK kX7_keepRow 1 := ⟨by decide +kernel, co_yX7_keepRow, ini_X7, ⟨by decide +kernel, by decide +kernel⟩, by decide +kernel⟩
abbrev kX7_nextGiven : MI := (yX7_nextGiven, cX7_nextGiven, 2, (some .boolean))
theorem mok_X7_nextGiven : MOK kX7_nextGiven 0 := ⟨by decide +kernel, co_yX7_nextGiven, ini_X7, ⟨by decide +kernel, by decide +kernel⟩, by decide +kernel⟩
abbrev kX7_boxes : MI := (yX7_boxes, cX7_boxes, 2, (some .int))
theorem mok_X7_boxes : MOK kX7_boxes 1 := ⟨by decide +kernel, co_yX7_boxes, ini_X7, ⟨by decide +kernel, by decide +kernel⟩, by decide +kernel⟩
abbrev kX7_boxesNow : MI := (yX7_boxesNow, cX7_boxesNow, 4, (some .int))
theorem mok_X7_boxesNow : MOK kX7_boxesNow 1 := ⟨by decide +kernel, co_yX7_boxesNow, ini_X7, ⟨by decide +kernel, by decide +kernel⟩, by decide +kernel⟩
abbrev kX7_boxesAhead : MI := (yX7_boxesAhead, cX7_boxesAhead, 4, (some .int))
theorem mok_X7_boxesAhead : MOK kX7_boxesAhead 1 := ⟨by decide +kernel, co_yX7_boxesAhead, ini_X7, ⟨by decide +kernel, by decide +kernel⟩, by decide +kernel⟩
abbrev kX7_areQuiet : MI := (yX7_areQuiet, cX7_areQuiet, 4, (some .boolean))
theorem mok_X7_areQuiet : MOK kX7_areQuiet 0 := ⟨by decide +kernel, co_yX7_areQuiet, ini_X7, ⟨by decide +kernel, by decide +kernel⟩, by decide +kernel⟩
abbrev kX7_nextBoxes : MI := (yX7_nextBoxes, cX7_nextBoxes, 2, (some .boolean))
theorem mok_X7_nextBoxes : MOK kX7_nextBoxes 0 := ⟨by decide +kernel, co_yX7_nextBoxes, ini_X7, ⟨by decide +kernel, by decide +kernel⟩, by decide +kernel⟩
abbrev kX7_odds : MI := (yX7_odds, cX7_odds, 6, (some .int))
theorem mok_X7_odds : MOK kX7_odds 4 := ⟨by decide +kernel, co_yX7_odds, ini_X7, ⟨by decide +kernel, by decide +kernel⟩, by decide +kernel⟩
abbrev kX7_oddsNow : MI := (yX7_oddsNow, cX7_oddsNow, 11, (some .int))
theorem mok_X7_oddsNow : MOK kX7_oddsNow 4 := ⟨by decide +kernel, co_yX7_oddsNow, ini_X7, ⟨by decide +kernel, by decide +kernel⟩, by decide +kernel⟩
abbrev kX7_divisor : MI := (yX7_divisor, cX7_divisor, 5, (some .int))
theorem mok_X7_divisor : MOK kX7_divisor 2 := ⟨by decide +kernel, co_yX7_divisor, ini_X7, ⟨by decide +kernel, by decide +kernel⟩, by decide +kernel⟩
abbrev kX7_see : MI := (yX7_see, cX7_see, 4, (some .int))
theorem mok_X7_see : MOK kX7_see 3 := ⟨by decide +kernel, co_yX7_see, ini_X7, ⟨by decide +kernel, by decide +kernel⟩, by decide +kernel⟩
abbrev kX7_forget : MI := (yX7_forget, cX7_forget, 2, (some .int))
theorem mok_X7_forget : MOK kX7_forget 0 := ⟨by decide +kernel, co_yX7_forget, ini_X7, ⟨by decide +kernel, by decide +kernel⟩, by decide +kernel⟩
abbrev kX7_teas : MI := (yX7_teas, cX7_teas, 4, (some .int))
theorem mok_X7_teas : MOK kX7_teas 3 := ⟨by decide +kernel, co_yX7_teas, ini_X7, ⟨by decide +kernel, by decide +kernel⟩, by decide +kernel⟩
abbrev kX7_teasNow : MI := (yX7_teasNow, cX7_teasNow, 7, (some .int))
theorem mok_X7_teasNow : MOK kX7_teasNow 3 := ⟨by decide +kernel, co_yX7_teasNow, ini_X7, ⟨by decide +kernel, by decide +kernel⟩, by decide +kernel⟩
abbrev kX7_takeTea : MI := (yX7_takeTea, cX7_takeTea, 3, none)
theorem mok_X7_takeTea : MOK kX7_takeTea 0 := ⟨by decide +kernel, co_yX7_takeTea, ini_X7, ⟨by decide +kernel, by decide +kernel⟩, by decide +kernel⟩
abbrev kX7_draw : MI := (yX7_draw, cX7_draw, 2, (some .int))
theorem mok_X7_draw : MOK kX7_draw 1 := ⟨by decide +kernel, co_yX7_draw, ini_X7, ⟨by decide +kernel, by decide +kernel⟩, by decide +kernel⟩
abbrev kX7_butting : MI := (yX7_butting, cX7_butting, 3, (some .int))
theorem mok_X7_butting : MOK kX7_butting 0 := ⟨by decide +kernel, co_yX7_butting, ini_X7, ⟨by decide +kernel, by decide +kernel⟩, by decide +kernel⟩
abbrev kX7_onHands : MI := (yX7_onHands, cX7_onHands, 3, (some .int))
theorem mok_X7_onHands : MOK kX7_onHands 0 := ⟨by decide +kernel, co_yX7_onHands, ini_X7, ⟨by decide +kernel, by decide +kernel⟩, by decide +kernel⟩
abbrev kX7_image : MI := (yX7_image, cX7_image, 2, (some .int))
theorem mok_X7_image : MOK kX7_image 0 := ⟨by decide +kernel, co_yX7_image, ini_X7, ⟨by decide +kernel, by decide +kernel⟩, by decide +kernel⟩
abbrev kX7_restore : MI := (yX7_restore, cX7_restore, 2, (some .int))
theorem mok_X7_restore : MOK kX7_restore 0 := ⟨by decide +kernel, co_yX7_restore, ini_X7, ⟨by decide +kernel, by decide +kernel⟩, by decide +kernel⟩
abbrev kX7_count : MI := (yX7_count, cX7_count, 2, (some .int))
theorem mok_X7_count : MOK kX7_count 1 := ⟨by decide +kernel, co_yX7_count, ini_X7, ⟨by decide +kernel, by decide +kernel⟩, by decide +kernel⟩
abbrev kX7_howMany : MI := (yX7_howMany, cX7_howMany, 2, (some .int))
theorem mok_X7_howMany : MOK kX7_howMany 1 := ⟨by decide +kernel, co_yX7_howMany, ini_X7, ⟨by decide +kernel, by decide +kernel⟩, by decide +kernel⟩
abbrev kX7_ofWearers : MI := (yX7_ofWearers, cX7_ofWearers, 5, (some .int))
theorem mok_X7_ofWearers : MOK kX7_ofWearers 1 := ⟨by decide +kernel, co_yX7_ofWearers, ini_X7, ⟨by decide +kernel, by decide +kernel⟩, by decide +kernel⟩
abbrev kX7_ofGloves : MI := (yX7_ofGloves, cX7_ofGloves, 4, (some .int))
theorem mok_X7_ofGloves : MOK kX7_ofGloves 1 := ⟨by decide +kernel, co_yX7_ofGloves, ini_X7, ⟨by decide +kernel, by decide +kernel⟩, by decide +kernel⟩
abbrev kX7_digest : MI := (yX7_digest, cX7_digest, 3, (some .long))
theorem mok_X7_digest : MOK kX7_digest 0 := ⟨by decide +kernel, co_yX7_digest, ini_X7, ⟨by decide +kernel, by decide +kernel⟩, by decide +kernel⟩
abbrev kX7_mix : MI := (yX7_mix, cX7_mix, 3, none)
theorem mok_X7_mix : MOK kX7_mix 1 := ⟨by decide +kernel, co_yX7_mix, ini_X7, ⟨by decide +kernel, by decide +kernel⟩, by decide +kernel⟩
abbrev kX7_mixWearer : MI := (yX7_mixWearer, cX7_mixWearer, 3, none)
theorem mok_X7_mixWearer : MOK kX7_mixWearer 1 := ⟨by decide +kernel, co_yX7_mixWearer, ini_X7, ⟨by decide +kernel, by decide +kernel⟩, by decide +kernel⟩
theorem fok_X4_9 : FOK RX4 9 4 0 := ⟨RX4, TX4, 2, tyX4, rfl, by decide, inX4, fl_X4_9, tyX4_ok, nmX4, rfl, by decide +kernel, by decide +kernel, by decide +kernel, by decide +kernel⟩
theorem fok_X6_265 : FOK RX6 265 4 0 := ⟨RX4, TX4, 2, tyX4, rfl, by decide, inX4, fl_X6_265, tyX4_ok, nmX4, rfl, by decide +kernel, by decide +kernel, by decide +kernel, by decide +kernel⟩
theorem fok_X4_15 : FOK RX4 15 4 1 := ⟨RX4, TX4, 2, tyX4, rfl, by decide, inX4, fl_X4_15, tyX4_ok, nmX4, rfl, by decide +kernel, by decide +kernel, by decide +kernel, by decide +kernel⟩
theorem fok_X6_65 : FOK RX6 65 4 1 := ⟨RX4, TX4, 2, tyX4, rfl, by decide, inX4, fl_X6_65, tyX4_ok, nmX4, rfl, by decide +kernel, by decide +kernel, by decide +kernel, by decide +kernel⟩
theorem fok_X5_9 : FOK RX5 9 5 0 := ⟨RX5, TX5, 15, tyX5, rfl, by decide, inX5, fl_X5_9, tyX5_ok, nmX5, rfl, by decide +kernel, by decide +kernel, by decide +kernel, by decide +kernel⟩
theorem fok_X6_94 : FOK RX6 94 5 0 := ⟨RX5, TX5, 15, tyX5, rfl, by decide, inX5, fl_X6_94, tyX5_ok, nmX5, rfl, by decide +kernel, by decide +kernel, by decide +kernel, by decide +kernel⟩
theorem fok_X4_62 : FOK RX4 62 5 0 := ⟨RX5, TX5, 15, tyX5, rfl, by decide, inX5, fl_X4_62, tyX5_ok, nmX5, rfl, by decide +kernel, by decide +kernel, by decide +kernel, by decide +kernel⟩
theorem fok_X5_15 : FOK RX5 15 5 1 := ⟨RX5, TX5, 15, tyX5, rfl, by decide, inX5, fl_X5_15, tyX5_ok, nmX5, rfl, by decide +kernel, by decide +kernel, by decide +kernel, by decide +kernel⟩
theorem fok_X6_102 : FOK RX6 102 5 1 := ⟨RX5, TX5, 15, tyX5, rfl, by decide, inX5, fl_X6_102, tyX5_ok, nmX5, rfl, by decide +kernel, by decide +kernel, by decide +kernel, by decide +kernel⟩
theorem fok_X4_65 : FOK RX4 65 5 1 := ⟨RX5, TX5, 15, tyX5, rfl, by decide, inX5, fl_X4_65, tyX5_ok, nmX5, rfl, by decide +kernel, by decide +kernel, by decide +kernel, by decide +kernel⟩
theorem fok_X5_18 : FOK RX5 18 5 2 := ⟨RX5, TX5, 15, tyX5, rfl, by decide, inX5, fl_X5_18, tyX5_ok, nmX5, rfl, by decide +kernel, by decide +kernel, by decide +kernel, by decide +kernel⟩
theorem fok_X6_105 : FOK RX6 105 5 2 := ⟨RX5, TX5, 15, tyX5, rfl, by decide, inX5, fl_X6_105, tyX5_ok, nmX5, rfl, by decide +kernel, by decide +kernel, by decide +kernel, by decide +kernel⟩
theorem fok_X5_21 : FOK RX5 21 5 3 := ⟨RX5, TX5, 15, tyX5, rfl, by decide, inX5, fl_X5_21, tyX5_ok, nmX5, rfl, by decide +kernel, by decide +kernel, by decide +kernel, by decide +kernel⟩
theorem fok_X6_112 : FOK RX6 112 5 3 := ⟨RX5, TX5, 15, tyX5, rfl, by decide, inX5, fl_X6_112, tyX5_ok, nmX5, rfl, by decide +kernel, by decide +kernel, by decide +kernel, by decide +kernel⟩
theorem fok_X5_24 : FOK RX5 24 5 4 := ⟨RX5, TX5, 15, tyX5, rfl, by decide, inX5, fl_X5_24, tyX5_ok, nmX5, rfl, by decide +kernel, by decide +kernel, by decide +kernel, by decide +kernel⟩
theorem fok_X6_115 : FOK RX6 115 5 4 := ⟨RX5, TX5, 15, tyX5, rfl, by decide, inX5, fl_X6_115, tyX5_ok, nmX5, rfl, by decide +kernel, by decide +kernel, by decide +kernel, by decide +kernel⟩
theorem fok_X5_27 : FOK RX5 27 5 5 := ⟨RX5, TX5, 15, tyX5, rfl, by decide, inX5, fl_X5_27, tyX5_ok, nmX5, rfl, by decide +kernel, by decide +kernel, by decide +kernel, by decide +kernel⟩
theorem fok_X6_135 : FOK RX6 135 5 5 := ⟨RX5, TX5, 15, tyX5, rfl, by decide, inX5, fl_X6_135, tyX5_ok, nmX5, rfl, by decide +kernel, by decide +kernel, by decide +kernel, by decide +kernel⟩
theorem fok_X4_71 : FOK RX4 71 5 5 := ⟨RX5, TX5, 15, tyX5, rfl, by decide, inX5, fl_X4_71, tyX5_ok, nmX5, rfl, by decide +kernel, by decide +kernel, by decide +kernel, by decide +kernel⟩
theorem fok_X5_30 : FOK RX5 30 5 6 := ⟨RX5, TX5, 15, tyX5, rfl, by decide, inX5, fl_X5_30, tyX5_ok, nmX5, rfl, by decide +kernel, by decide +kernel, by decide +kernel, by decide +kernel⟩
theorem fok_X6_147 : FOK RX6 147 5 6 := ⟨RX5, TX5, 15, tyX5, rfl, by decide, inX5, fl_X6_147, tyX5_ok, nmX5, rfl, by decide +kernel, by decide +kernel, by decide +kernel, by decide +kernel⟩
theorem fok_X5_33 : FOK RX5 33 5 7 := ⟨RX5, TX5, 15, tyX5, rfl, by decide, inX5, fl_X5_33, tyX5_ok, nmX5, rfl, by decide +kernel, by decide +kernel, by decide +kernel, by decide +kernel⟩
theorem fok_X5_36 : FOK RX5 36 5 8 := ⟨RX5, TX5, 15, tyX5, rfl, by decide, inX5, fl_X5_36, tyX5_ok, nmX5, rfl, by decide +kernel, by decide +kernel, by decide +kernel, by decide +kernel⟩
theorem fok_X5_39 : FOK RX5 39 5 9 := ⟨RX5, TX5, 15, tyX5, rfl, by decide, inX5, fl_X5_39, tyX5_ok, nmX5, rfl, by decide +kernel, by decide +kernel, by decide +kernel, by decide +kernel⟩
theorem fok_X5_42 : FOK RX5 42 5 10 := ⟨RX5, TX5, 15, tyX5, rfl, by decide, inX5, fl_X5_42, tyX5_ok, nmX5, rfl, by decide +kernel, by decide +kernel, by decide +kernel, by decide +kernel⟩
theorem fok_X5_45 : FOK RX5 45 5 11 := ⟨RX5, TX5, 15, tyX5, rfl, by decide, inX5, fl_X5_45, tyX5_ok, nmX5, rfl, by decide +kernel, by decide +kernel, by decide +kernel, by decide +kernel⟩
theorem fok_X3_34 : FOK RX3 34 5 11 := ⟨RX5, TX5, 15, tyX5, rfl, by decide, inX5, fl_X3_34, tyX5_ok, nmX5, rfl, by decide +kernel, by decide +kernel, by decide +kernel, by decide +kernel⟩
theorem fok_X2_50 : FOK RX2 50 5 11 := ⟨RX5, TX5, 15, tyX5, rfl, by decide, inX5, fl_X2_50, tyX5_ok, nmX5, rfl, by decide +kernel, by decide +kernel, by decide +kernel, by decide +kernel⟩
theorem fok_X6_88 : FOK RX6 88 5 11 := ⟨RX5, TX5, 15, tyX5, rfl, by decide, inX5, fl_X6_88, tyX5_ok, nmX5, rfl, by decide +kernel, by decide +kernel, by decide +kernel, by decide +kernel⟩
theorem fok_X4_59 : FOK RX4 59 5 11 := ⟨RX5, TX5, 15, tyX5, rfl, by decide, inX5, fl_X4_59, tyX5_ok, nmX5, rfl, by decide +kernel, by decide +kernel, by decide +kernel, by decide +kernel⟩
theorem fok_X5_49 : FOK RX5 49 5 12 := ⟨RX5, TX5, 15, tyX5, rfl, by decide, inX5, fl_X5_49, tyX5_ok, nmX5, rfl, by decide +kernel, by decide +kernel, by decide +kernel, by decide +kernel⟩
theorem fok_X2_45 : FOK RX2 45 5 12 := ⟨RX5, TX5, 15, tyX5, rfl, by decide, inX5, fl_X2_45, tyX5_ok, nmX5, rfl, by decide +kernel, by decide +kernel, by decide +kernel, by decide +kernel⟩
theorem fok_X4_68 : FOK RX4 68 5 12 := ⟨RX5, TX5, 15, tyX5, rfl, by decide, inX5, fl_X4_68, tyX5_ok, nmX5, rfl, by decide +kernel, by decide +kernel, by decide +kernel, by decide +kernel⟩
theorem fok_X6_238 : FOK RX6 238 5 12 := ⟨RX5, TX5, 15, tyX5, rfl, by decide, inX5, fl_X6_238, tyX5_ok, nmX5, rfl, by decide +kernel, by decide +kernel, by decide +kernel, by decide +kernel⟩
theorem fok_X5_52 : FOK RX5 52 5 13 := ⟨RX5, TX5, 15, tyX5, rfl, by decide, inX5, fl_X5_52, tyX5_ok, nmX5, rfl, by decide +kernel, by decide +kernel, by decide +kernel, by decide +kernel⟩
theorem fok_X6_170 : FOK RX6 170 5 13 := ⟨RX5, TX5, 15, tyX5, rfl, by decide, inX5, fl_X6_170, tyX5_ok, nmX5, rfl, by decide +kernel, by decide +kernel, by decide +kernel, by decide +kernel⟩
theorem fok_X5_55 : FOK RX5 55 5 14 := ⟨RX5, TX5, 15, tyX5, rfl, by decide, inX5, fl_X5_55, tyX5_ok, nmX5, rfl, by decide +kernel, by decide +kernel, by decide +kernel, by decide +kernel⟩
theorem fok_X6_219 : FOK RX6 219 5 14 := ⟨RX5, TX5, 15, tyX5, rfl, by decide, inX5, fl_X6_219, tyX5_ok, nmX5, rfl, by decide +kernel, by decide +kernel, by decide +kernel, by decide +kernel⟩
theorem fok_X2_9 : FOK RX2 9 2 0 := ⟨RX2, TX2, 6, tyX2, rfl, by decide, inX2, fl_X2_9, tyX2_ok, nmX2, rfl, by decide +kernel, by decide +kernel, by decide +kernel, by decide +kernel⟩
theorem fok_X2_15 : FOK RX2 15 2 1 := ⟨RX2, TX2, 6, tyX2, rfl, by decide, inX2, fl_X2_15, tyX2_ok, nmX2, rfl, by decide +kernel, by decide +kernel, by decide +kernel, by decide +kernel⟩
theorem fok_X2_18 : FOK RX2 18 2 2 := ⟨RX2, TX2, 6, tyX2, rfl, by decide, inX2, fl_X2_18, tyX2_ok, nmX2, rfl, by decide +kernel, by decide +kernel, by decide +kernel, by decide +kernel⟩
theorem fok_X2_21 : FOK RX2 21 2 3 := ⟨RX2, TX2, 6, tyX2, rfl, by decide, inX2, fl_X2_21, tyX2_ok, nmX2, rfl, by decide +kernel, by decide +kernel, by decide +kernel, by decide +kernel⟩
theorem fok_X6_195 : FOK RX6 195 2 3 := ⟨RX2, TX2, 6, tyX2, rfl, by decide, inX2, fl_X6_195, tyX2_ok, nmX2, rfl, by decide +kernel, by decide +kernel, by decide +kernel, by decide +kernel⟩
theorem fok_X2_30 : FOK RX2 30 2 4 := ⟨RX2, TX2, 6, tyX2, rfl, by decide, inX2, fl_X2_30, tyX2_ok, nmX2, rfl, by decide +kernel, by decide +kernel, by decide +kernel, by decide +kernel⟩
theorem fok_X6_189 : FOK RX6 189 2 4 := ⟨RX2, TX2, 6, tyX2, rfl, by decide, inX2, fl_X6_189, tyX2_ok, nmX2, rfl, by decide +kernel, by decide +kernel, by decide +kernel, by decide +kernel⟩
theorem fok_X2_34 : FOK RX2 34 2 5 := ⟨RX2, TX2, 6, tyX2, rfl, by decide, inX2, fl_X2_34, tyX2_ok, nmX2, rfl, by decide +kernel, by decide +kernel, by decide +kernel, by decide +kernel⟩
theorem fok_X6_192 : FOK RX6 192 2 5 := ⟨RX2, TX2, 6, tyX2, rfl, by decide, inX2, fl_X6_192, tyX2_ok, nmX2, rfl, by decide +kernel, by decide +kernel, by decide +kernel, by decide +kernel⟩
theorem fok_X3_9 : FOK RX3 9 3 0 := ⟨RX3, TX3, 5, tyX3, rfl, by decide, inX3, fl_X3_9, tyX3_ok, nmX3, rfl, by decide +kernel, by decide +kernel, by decide +kernel, by decide +kernel⟩
theorem fok_X3_15 : FOK RX3 15 3 1 := ⟨RX3, TX3, 5, tyX3, rfl, by decide, inX3, fl_X3_15, tyX3_ok, nmX3, rfl, by decide +kernel, by decide +kernel, by decide +kernel, by decide +kernel⟩
theorem fok_X3_18 : FOK RX3 18 3 2 := ⟨RX3, TX3, 5, tyX3, rfl, by decide, inX3, fl_X3_18, tyX3_ok, nmX3, rfl, by decide +kernel, by decide +kernel, by decide +kernel, by decide +kernel⟩
theorem fok_X3_21 : FOK RX3 21 3 3 := ⟨RX3, TX3, 5, tyX3, rfl, by decide, inX3, fl_X3_21, tyX3_ok, nmX3, rfl, by decide +kernel, by decide +kernel, by decide +kernel, by decide +kernel⟩
theorem fok_X6_202 : FOK RX6 202 3 3 := ⟨RX3, TX3, 5, tyX3, rfl, by decide, inX3, fl_X6_202, tyX3_ok, nmX3, rfl, by decide +kernel, by decide +kernel, by decide +kernel, by decide +kernel⟩
theorem fok_X3_30 : FOK RX3 30 3 4 := ⟨RX3, TX3, 5, tyX3, rfl, by decide, inX3, fl_X3_30, tyX3_ok, nmX3, rfl, by decide +kernel, by decide +kernel, by decide +kernel, by decide +kernel⟩
theorem fok_X6_199 : FOK RX6 199 3 4 := ⟨RX3, TX3, 5, tyX3, rfl, by decide, inX3, fl_X6_199, tyX3_ok, nmX3, rfl, by decide +kernel, by decide +kernel, by decide +kernel, by decide +kernel⟩
theorem fok_X0_9 : FOK RX0 9 0 0 := ⟨RX0, TX0, 2, tyX0, rfl, by decide, inX0, fl_X0_9, tyX0_ok, nmX0, rfl, by decide +kernel, by decide +kernel, by decide +kernel, by decide +kernel⟩
theorem fok_X6_207 : FOK RX6 207 0 0 := ⟨RX0, TX0, 2, tyX0, rfl, by decide, inX0, fl_X6_207, tyX0_ok, nmX0, rfl, by decide +kernel, by decide +kernel, by decide +kernel, by decide +kernel⟩
theorem fok_X0_25 : FOK RX0 25 0 1 := ⟨RX0, TX0, 2, tyX0, rfl, by decide, inX0, fl_X0_25, tyX0_ok, nmX0, rfl, by decide +kernel, by decide +kernel, by decide +kernel, by decide +kernel⟩
theorem fok_X6_210 : FOK RX6 210 0 1 := ⟨RX0, TX0, 2, tyX0, rfl, by decide, inX0, fl_X6_210, tyX0_ok, nmX0, rfl, by decide +kernel, by decide +kernel, by decide +kernel, by decide +kernel⟩
theorem fok_X1_9 : FOK RX1 9 1 0 := ⟨RX1, TX1, 1, tyX1, rfl, by decide, inX1, fl_X1_9, tyX1_ok, nmX1, rfl, by decide +kernel, by decide +kernel, by decide +kernel, by decide +kernel⟩
theorem fok_X6_225 : FOK RX6 225 1 0 := ⟨RX1, TX1, 1, tyX1, rfl, by decide, inX1, fl_X6_225, tyX1_ok, nmX1, rfl, by decide +kernel, by decide +kernel, by decide +kernel, by decide +kernel⟩
theorem fok_X6_12 : FOK RX6 12 6 0 := ⟨RX6, TX6, 11, tyX6, rfl, by decide, inX6, fl_X6_12, tyX6_ok, nmX6, rfl, by decide +kernel, by decide +kernel, by decide +kernel, by decide +kernel⟩
theorem fok_X6_19 : FOK RX6 19 6 1 := ⟨RX6, TX6, 11, tyX6, rfl, by decide, inX6, fl_X6_19, tyX6_ok, nmX6, rfl, by decide +kernel, by decide +kernel, by decide +kernel, by decide +kernel⟩
theorem fok_X6_23 : FOK RX6 23 6 2 := ⟨RX6, TX6, 11, tyX6, rfl, by decide, inX6, fl_X6_23, tyX6_ok, nmX6, rfl, by decide +kernel, by decide +kernel, by decide +kernel, by decide +kernel⟩
theorem fok_X6_26 : FOK RX6 26 6 3 := ⟨RX6, TX6, 11, tyX6, rfl, by decide, inX6, fl_X6_26, tyX6_ok, nmX6, rfl, by decide +kernel, by decide +kernel, by decide +kernel, by decide +kernel⟩
theorem fok_X6_32 : FOK RX6 32 6 4 := ⟨RX6, TX6, 11, tyX6, rfl, by decide, inX6, fl_X6_32, tyX6_ok, nmX6, rfl, by decide +kernel, by decide +kernel, by decide +kernel, by decide +kernel⟩
theorem fok_X6_39 : FOK RX6 39 6 5 := ⟨RX6, TX6, 11, tyX6, rfl, by decide, inX6, fl_X6_39, tyX6_ok, nmX6, rfl, by decide +kernel, by decide +kernel, by decide +kernel, by decide +kernel⟩
theorem fok_X6_46 : FOK RX6 46 6 6 := ⟨RX6, TX6, 11, tyX6, rfl, by decide, inX6, fl_X6_46, tyX6_ok, nmX6, rfl, by decide +kernel, by decide +kernel, by decide +kernel, by decide +kernel⟩
theorem fok_X6_53 : FOK RX6 53 6 7 := ⟨RX6, TX6, 11, tyX6, rfl, by decide, inX6, fl_X6_53, tyX6_ok, nmX6, rfl, by decide +kernel, by decide +kernel, by decide +kernel, by decide +kernel⟩
theorem fok_X6_81 : FOK RX6 81 6 8 := ⟨RX6, TX6, 11, tyX6, rfl, by decide, inX6, fl_X6_81, tyX6_ok, nmX6, rfl, by decide +kernel, by decide +kernel, by decide +kernel, by decide +kernel⟩
theorem fok_X6_85 : FOK RX6 85 6 9 := ⟨RX6, TX6, 11, tyX6, rfl, by decide, inX6, fl_X6_85, tyX6_ok, nmX6, rfl, by decide +kernel, by decide +kernel, by decide +kernel, by decide +kernel⟩
theorem fok_X6_183 : FOK RX6 183 6 10 := ⟨RX6, TX6, 11, tyX6, rfl, by decide, inX6, fl_X6_183, tyX6_ok, nmX6, rfl, by decide +kernel, by decide +kernel, by decide +kernel, by decide +kernel⟩
theorem fok_X7_122 : FOK RX7 122 7 0 := ⟨RX7, TX7, 38, tyX7, rfl, by decide, inX7, fl_X7_122, tyX7_ok, nmX7, rfl, by decide +kernel, by decide +kernel, by decide +kernel, by decide +kernel⟩
theorem fok_X7_113 : FOK RX7 113 7 1 := ⟨RX7, TX7, 38, tyX7, rfl, by decide, inX7, fl_X7_113, tyX7_ok, nmX7, rfl, by decide +kernel, by decide +kernel, by decide +kernel, by decide +kernel⟩
theorem fok_X7_116 : FOK RX7 116 7 2 := ⟨RX7, TX7, 38, tyX7, rfl, by decide, inX7, fl_X7_116, tyX7_ok, nmX7, rfl, by decide +kernel, by decide +kernel, by decide +kernel, by decide +kernel⟩
theorem fok_X7_7 : FOK RX7 7 7 3 := ⟨RX7, TX7, 38, tyX7, rfl, by decide, inX7, fl_X7_7, tyX7_ok, nmX7, rfl, by decide +kernel, by decide +kernel, by decide +kernel, by decide +kernel⟩
theorem fok_X7_13 : FOK RX7 13 7 4 := ⟨RX7, TX7, 38, tyX7, rfl, by decide, inX7, fl_X7_13, tyX7_ok, nmX7, rfl, by decide +kernel, by decide +kernel, by decide +kernel, by decide +kernel⟩
theorem fok_X7_16 : FOK RX7 16 7 5 := ⟨RX7, TX7, 38, tyX7, rfl, by decide, inX7, fl_X7_16, tyX7_ok, nmX7, rfl, by decide +kernel, by decide +kernel, by decide +kernel, by decide +kernel⟩
theorem fok_X7_19 : FOK RX7 19 7 6 := ⟨RX7, TX7, 38, tyX7, rfl, by decide, inX7, fl_X7_19, tyX7_ok, nmX7, rfl, by decide +kernel, by decide +kernel, by decide +kernel, by decide +kernel⟩
theorem fok_X7_22 : FOK RX7 22 7 7 := ⟨RX7, TX7, 38, tyX7, rfl, by decide, inX7, fl_X7_22, tyX7_ok, nmX7, rfl, by decide +kernel, by decide +kernel, by decide +kernel, by decide +kernel⟩
theorem fok_X7_25 : FOK RX7 25 7 8 := ⟨RX7, TX7, 38, tyX7, rfl, by decide, inX7, fl_X7_25, tyX7_ok, nmX7, rfl, by decide +kernel, by decide +kernel, by decide +kernel, by decide +kernel⟩
theorem fok_X7_119 : FOK RX7 119 7 9 := ⟨RX7, TX7, 38, tyX7, rfl, by decide, inX7, fl_X7_119, tyX7_ok, nmX7, rfl, by decide +kernel, by decide +kernel, by decide +kernel, by decide +kernel⟩
theorem fok_X7_215 : FOK RX7 215 7 10 := ⟨RX7, TX7, 38, tyX7, rfl, by decide, inX7, fl_X7_215, tyX7_ok, nmX7, rfl, by decide +kernel, by decide +kernel, by decide +kernel, by decide +kernel⟩
theorem fok_X7_125 : FOK RX7 125 7 11 := ⟨RX7, TX7, 38, tyX7, rfl, by decide, inX7, fl_X7_125, tyX7_ok, nmX7, rfl, by decide +kernel, by decide +kernel, by decide +kernel, by decide +kernel⟩
theorem fok_X7_28 : FOK RX7 28 7 12 := ⟨RX7, TX7, 38, tyX7, rfl, by decide, inX7, fl_X7_28, tyX7_ok, nmX7, rfl, by decide +kernel, by decide +kernel, by decide +kernel, by decide +kernel⟩
theorem fok_X7_31 : FOK RX7 31 7 13 := ⟨RX7, TX7, 38, tyX7, rfl, by decide, inX7, fl_X7_31, tyX7_ok, nmX7, rfl, by decide +kernel, by decide +kernel, by decide +kernel, by decide +kernel⟩
theorem fok_X7_34 : FOK RX7 34 7 14 := ⟨RX7, TX7, 38, tyX7, rfl, by decide, inX7, fl_X7_34, tyX7_ok, nmX7, rfl, by decide +kernel, by decide +kernel, by decide +kernel, by decide +kernel⟩
theorem fok_X7_81 : FOK RX7 81 7 15 := ⟨RX7, TX7, 38, tyX7, rfl, by decide, inX7, fl_X7_81, tyX7_ok, nmX7, rfl, by decide +kernel, by decide +kernel, by decide +kernel, by decide +kernel⟩
theorem fok_X7_37 : FOK RX7 37 7 16 := ⟨RX7, TX7, 38, tyX7, rfl, by decide, inX7, fl_X7_37, tyX7_ok, nmX7, rfl, by decide +kernel, by decide +kernel, by decide +kernel, by decide +kernel⟩
theorem fok_X7_96 : FOK RX7 96 7 17 := ⟨RX7, TX7, 38, tyX7, rfl, by decide, inX7, fl_X7_96, tyX7_ok, nmX7, rfl, by decide +kernel, by decide +kernel, by decide +kernel, by decide +kernel⟩
theorem fok_X7_100 : FOK RX7 100 7 18 := ⟨RX7, TX7, 38, tyX7, rfl, by decide, inX7, fl_X7_100, tyX7_ok, nmX7, rfl, by decide +kernel, by decide +kernel, by decide +kernel, by decide +kernel⟩
theorem fok_X7_89 : FOK RX7 89 7 19 := ⟨RX7, TX7, 38, tyX7, rfl, by decide, inX7, fl_X7_89, tyX7_ok, nmX7, rfl, by decide +kernel, by decide +kernel, by decide +kernel, by decide +kernel⟩
theorem fok_X7_41 : FOK RX7 41 7 20 := ⟨RX7, TX7, 38, tyX7, rfl, by decide, inX7, fl_X7_41, tyX7_ok, nmX7, rfl, by decide +kernel, by decide +kernel, by decide +kernel, by decide +kernel⟩
theorem fok_X7_44 : FOK RX7 44 7 21 := ⟨RX7, TX7, 38, tyX7, rfl, by decide, inX7, fl_X7_44, tyX7_ok, nmX7, rfl, by decide +kernel, by decide +kernel, by decide +kernel, by decide +kernel⟩
theorem fok_X7_245 : FOK RX7 245 7 22 := ⟨RX7, TX7, 38, tyX7, rfl, by decide, inX7, fl_X7_245, tyX7_ok, nmX7, rfl, by decide +kernel, by decide +kernel, by decide +kernel, by decide +kernel⟩
theorem fok_X7_47 : FOK RX7 47 7 23 := ⟨RX7, TX7, 38, tyX7, rfl, by decide, inX7, fl_X7_47, tyX7_ok, nmX7, rfl, by decide +kernel, by decide +kernel, by decide +kernel, by decide +kernel⟩
theorem fok_X7_50 : FOK RX7 50 7 24 := ⟨RX7, TX7, 38, tyX7, rfl, by decide, inX7, fl_X7_50, tyX7_ok, nmX7, rfl, by decide +kernel, by decide +kernel, by decide +kernel, by decide +kernel⟩
theorem fok_X7_270 : FOK RX7 270 7 25 := ⟨RX7, TX7, 38, tyX7, rfl, by decide, inX7, fl_X7_270, tyX7_ok, nmX7, rfl, by decide +kernel, by decide +kernel, by decide +kernel, by decide +kernel⟩
theorem fok_X7_273 : FOK RX7 273 7 26 := ⟨RX7, TX7, 38, tyX7, rfl, by decide, inX7, fl_X7_273, tyX7_ok, nmX7, rfl, by decide +kernel, by decide +kernel, by decide +kernel, by decide +kernel⟩
theorem fok_X7_276 : FOK RX7 276 7 27 := ⟨RX7, TX7, 38, tyX7, rfl, by decide, inX7, fl_X7_276, tyX7_ok, nmX7, rfl, by decide +kernel, by decide +kernel, by decide +kernel, by decide +kernel⟩
theorem fok_X7_279 : FOK RX7 279 7 28 := ⟨RX7, TX7, 38, tyX7, rfl, by decide, inX7, fl_X7_279, tyX7_ok, nmX7, rfl, by decide +kernel, by decide +kernel, by decide +kernel, by decide +kernel⟩
theorem fok_X7_53 : FOK RX7 53 7 29 := ⟨RX7, TX7, 38, tyX7, rfl, by decide, inX7, fl_X7_53, tyX7_ok, nmX7, rfl, by decide +kernel, by decide +kernel, by decide +kernel, by decide +kernel⟩
theorem fok_X7_56 : FOK RX7 56 7 30 := ⟨RX7, TX7, 38, tyX7, rfl, by decide, inX7, fl_X7_56, tyX7_ok, nmX7, rfl, by decide +kernel, by decide +kernel, by decide +kernel, by decide +kernel⟩
theorem fok_X7_59 : FOK RX7 59 7 31 := ⟨RX7, TX7, 38, tyX7, rfl, by decide, inX7, fl_X7_59, tyX7_ok, nmX7, rfl, by decide +kernel, by decide +kernel, by decide +kernel, by decide +kernel⟩
theorem fok_X7_62 : FOK RX7 62 7 32 := ⟨RX7, TX7, 38, tyX7, rfl, by decide, inX7, fl_X7_62, tyX7_ok, nmX7, rfl, by decide +kernel, by decide +kernel, by decide +kernel, by decide +kernel⟩
theorem fok_X7_65 : FOK RX7 65 7 33 := ⟨RX7, TX7, 38, tyX7, rfl, by decide, inX7, fl_X7_65, tyX7_ok, nmX7, rfl, by decide +kernel, by decide +kernel, by decide +kernel, by decide +kernel⟩
theorem fok_X7_68 : FOK RX7 68 7 34 := ⟨RX7, TX7, 38, tyX7, rfl, by decide, inX7, fl_X7_68, tyX7_ok, nmX7, rfl, by decide +kernel, by decide +kernel, by decide +kernel, by decide +kernel⟩
theorem fok_X7_71 : FOK RX7 71 7 35 := ⟨RX7, TX7, 38, tyX7, rfl, by decide, inX7, fl_X7_71, tyX7_ok, nmX7, rfl, by decide +kernel, by decide +kernel, by decide +kernel, by decide +kernel⟩
theorem fok_X7_74 : FOK RX7 74 7 36 := ⟨RX7, TX7, 38, tyX7, rfl, by decide, inX7, fl_X7_74, tyX7_ok, nmX7, rfl, by decide +kernel, by decide +kernel, by decide +kernel, by decide +kernel⟩
theorem fok_X7_294 : FOK RX7 294 7 37 := ⟨RX7, TX7, 38, tyX7, rfl, by decide, inX7, fl_X7_294, tyX7_ok, nmX7, rfl, by decide +kernel, by decide +kernel, by decide +kernel, by decide +kernel⟩
theorem xj_mmax {sc : Option (Nat × (Int → Int))} {d : Nat} {k : MI} {h : Hp} {pc pc2 : Nat} {lo : Lo} {st : List Value} {Q : Int → Hp → Prop} {a b : Int} {cs : String} {idx : Nat} (hlk : Cond.methodLink cs idx yJ9_max_7cf53 ∈ wT) (hd : decode k.2.1 pc = .ok (.invokestatic idx, 3)) (hp : pc + 3 = pc2) (he : k.1.cls = cs) (ha : -2147483648 ≤ a ∧ a ≤ 2147483647) (hb : -2147483648 ≤ b ∧ b ≤ 2147483647) (hst : (st.map fun v => v.category).sum ≤ 8) (kk : XJ sc d k h pc2 lo (vi (max a b) :: st) Q) : XJ sc d k h pc lo (vi b :: vi a :: st) Q := by
  subst hp
  intro p l e R s m args below meth c Z G A cells slots C w z r f H locs ls hP hS hl
  have K := kk p l e R s m args below meth c Z G A cells slots C w z r f H locs ls hP hS hl
  have hf := C.2.2.2.2.2.2.2.2.1
  have hlo := C.2.2.2.2.2.2.2.2.2
  refine va_mmax C.1 C.2.1 (C.2.2.1.trans hl.1.symm) (he ▸ C.2.2.2.2.1) (C.2.2.2.2.2.1 _ hlk) (C.2.2.2.2.2.1 _ sta_yJ9_max_7cf53) (C.2.2.2.2.2.1 _ ini_J9) (C.2.2.2.2.2.1 _ co_yJ9_max_7cf53) (by omega) (by rw [sum_cat]; omega) r.1 r.2 hd ?_
  rw [show (if Int32.ofInt a < Int32.ofInt b then Int32.ofInt b else Int32.ofInt a) = Int32.ofInt (max a b) from by
    by_cases q : a < b
    · rw [if_pos ((rg_lt ha hb).mpr q)]; congr 1; omega
    · rw [if_neg (fun q2 => q ((rg_lt ha hb).mp q2))]; congr 1; omega]
  exact K
theorem xj_mmin {sc : Option (Nat × (Int → Int))} {d : Nat} {k : MI} {h : Hp} {pc pc2 : Nat} {lo : Lo} {st : List Value} {Q : Int → Hp → Prop} {a b : Int} {cs : String} {idx : Nat} (hlk : Cond.methodLink cs idx yJ9_min_7cf53 ∈ wT) (hd : decode k.2.1 pc = .ok (.invokestatic idx, 3)) (hp : pc + 3 = pc2) (he : k.1.cls = cs) (ha : -2147483648 ≤ a ∧ a ≤ 2147483647) (hb : -2147483648 ≤ b ∧ b ≤ 2147483647) (hst : (st.map fun v => v.category).sum ≤ 8) (kk : XJ sc d k h pc2 lo (vi (min a b) :: st) Q) : XJ sc d k h pc lo (vi b :: vi a :: st) Q := by
  subst hp
  intro p l e R s m args below meth c Z G A cells slots C w z r f H locs ls hP hS hl
  have K := kk p l e R s m args below meth c Z G A cells slots C w z r f H locs ls hP hS hl
  have hf := C.2.2.2.2.2.2.2.2.1
  have hlo := C.2.2.2.2.2.2.2.2.2
  refine va_mmin C.1 C.2.1 (C.2.2.1.trans hl.1.symm) (he ▸ C.2.2.2.2.1) (C.2.2.2.2.2.1 _ hlk) (C.2.2.2.2.2.1 _ sta_yJ9_min_7cf53) (C.2.2.2.2.2.1 _ ini_J9) (C.2.2.2.2.2.1 _ co_yJ9_min_7cf53) (by omega) (by rw [sum_cat]; omega) r.1 r.2 hd ?_
  rw [show (if Int32.ofInt b < Int32.ofInt a then Int32.ofInt b else Int32.ofInt a) = Int32.ofInt (min a b) from by
    by_cases q : b < a
    · rw [if_pos ((rg_lt hb ha).mpr q)]; congr 1; omega
    · rw [if_neg (fun q2 => q ((rg_lt hb ha).mp q2))]; congr 1; omega]
  exact K
theorem xj_mabs {sc : Option (Nat × (Int → Int))} {d : Nat} {k : MI} {h : Hp} {pc pc2 : Nat} {lo : Lo} {st : List Value} {Q : Int → Hp → Prop} {a : Int} {cs : String} {idx : Nat} (hlk : Cond.methodLink cs idx yJ9_abs_0f7a4 ∈ wT) (hd : decode k.2.1 pc = .ok (.invokestatic idx, 3)) (hp : pc + 3 = pc2) (he : k.1.cls = cs) (ha : -2147483648 ≤ a ∧ a ≤ 2147483647) (hst : (st.map fun v => v.category).sum ≤ 8) (kk : XJ sc d k h pc2 lo (vi (if 0 ≤ a then a else -a) :: st) Q) : XJ sc d k h pc lo (vi a :: st) Q := by
  subst hp
  intro p l e R s m args below meth c Z G A cells slots C w z r f H locs ls hP hS hl
  have K := kk p l e R s m args below meth c Z G A cells slots C w z r f H locs ls hP hS hl
  have hf := C.2.2.2.2.2.2.2.2.1
  have hlo := C.2.2.2.2.2.2.2.2.2
  refine va_mabs C.1 C.2.1 (C.2.2.1.trans hl.1.symm) (he ▸ C.2.2.2.2.1) (C.2.2.2.2.2.1 _ hlk) (C.2.2.2.2.2.1 _ sta_yJ9_abs_0f7a4) (C.2.2.2.2.2.1 _ ini_J9) (C.2.2.2.2.2.1 _ co_yJ9_abs_0f7a4) (by omega) (by rw [sum_cat]; omega) r.1 r.2 hd ?_
  rw [show (if 0 ≤ Int32.ofInt a then Int32.ofInt a else 0 - Int32.ofInt a) = Int32.ofInt (if 0 ≤ a then a else -a) from by
    rw [i0]
    by_cases q : 0 ≤ a
    · rw [if_pos q, if_pos ((rg_le r00 ha).mpr q)]
    · rw [if_neg q, if_neg (fun q2 => q ((rg_le r00 ha).mp q2)), ← Int32.ofInt_sub, Int.zero_sub]]
  exact K
abbrev kL_law : MI := (x, code, maxLocals, ret)
end
section
theorem xj_getRn {sc : Option (Nat × (Int → Int))} {d : Nat} {k : MI} {h : Hp} {pc pc2 : Nat} {lo : Lo} {st : List Value} {Q : Int → Hp → Prop} {cs : String} {idx ci kf c c2 : Nat} (F : FOK cs idx ci kf) (hd : decode k.2.1 pc = .ok (.getfield idx, 3)) (hp : pc + 3 = pc2) (he : k.1.cls = cs) (hk : kd c = (0, ci)) (ht : ftag ci kf = 0) (hc : ch c kf = c2) (kk : XJ sc d k h pc2 lo (.ref c2 :: st) Q) : XJ sc d k h pc lo (.ref c :: st) Q := by
  subst hc
  exact xj_getR F hd hp he hk ht kk
theorem tsw_X4_isOfGloves_9 {sc : Option (Nat × (Int → Int))} {d : Nat} {h : Hp} {lo : Lo} {st : List Value} {Q : Int → Hp → Prop} {a : Int} (ha : -2147483648 ≤ a ∧ a ≤ 2147483647) (k0 : a = 0 → XJ sc d kX4_isOfGloves h 36 lo st Q) (k1 : a = 1 → XJ sc d kX4_isOfGloves h 50 lo st Q) (kout : (¬ a = 0 ∧ ¬ a = 1) → XJ sc d kX4_isOfGloves h 55 lo st Q) : XJ sc d kX4_isOfGloves h 9 lo (vi a :: st) Q := by
  rcases (show a = 0 ∨ a = 1 ∨ (¬ a = 0 ∧ ¬ a = 1) by omega) with e | e | e
  · exact xj_look (tgt := 36) dX4_isOfGloves_9 ha (by decide) (by subst e; rfl) rfl (k0 e)
  · exact xj_look (tgt := 50) dX4_isOfGloves_9 ha (by decide) (by subst e; rfl) rfl (k1 e)
  · refine xj_look (tgt := 55) dX4_isOfGloves_9 ha (by decide) (off := 46) ?_ rfl (kout e)
    obtain ⟨e0, e1⟩ := e
    simp only [Op.lookupswitch.offset_cons]
    rw [if_neg (fun q => e0 q.symm), if_neg (fun q => e1 q.symm)]
    rfl
theorem tsw_X6_glove_15 {sc : Option (Nat × (Int → Int))} {d : Nat} {h : Hp} {lo : Lo} {st : List Value} {Q : Int → Hp → Prop} {a : Int} (ha : -2147483648 ≤ a ∧ a ≤ 2147483647) (k0 : a = 0 → XJ sc d kX6_glove h 64 lo st Q) (k1 : a = 1 → XJ sc d kX6_glove h 76 lo st Q) (k2 : a = 2 → XJ sc d kX6_glove h 88 lo st Q) (k3 : a = 3 → XJ sc d kX6_glove h 100 lo st Q) (k4 : a = 4 → XJ sc d kX6_glove h 110 lo st Q) (k5 : a = 5 → XJ sc d kX6_glove h 122 lo st Q) (k6 : a = 6 → XJ sc d kX6_glove h 134 lo st Q) (k7 : a = 7 → XJ sc d kX6_glove h 143 lo st Q) (k8 : a = 8 → XJ sc d kX6_glove h 152 lo st Q) (kout : (a < 0 ∨ 8 < a) → XJ sc d kX6_glove h 161 lo st Q) : XJ sc d kX6_glove h 15 lo (vi a :: st) Q := by
  rcases (show a = 0 ∨ a = 1 ∨ a = 2 ∨ a = 3 ∨ a = 4 ∨ a = 5 ∨ a = 6 ∨ a = 7 ∨ a = 8 ∨ (a < 0 ∨ 8 < a) by omega) with e | e | e | e | e | e | e | e | e | e
  · exact xj_tabIn (tgt := 64) dX6_glove_15 ha (by omega) (by subst e; rfl) rfl (k0 e)
  · exact xj_tabIn (tgt := 76) dX6_glove_15 ha (by omega) (by subst e; rfl) rfl (k1 e)
  · exact xj_tabIn (tgt := 88) dX6_glove_15 ha (by omega) (by subst e; rfl) rfl (k2 e)
  · exact xj_tabIn (tgt := 100) dX6_glove_15 ha (by omega) (by subst e; rfl) rfl (k3 e)
  · exact xj_tabIn (tgt := 110) dX6_glove_15 ha (by omega) (by subst e; rfl) rfl (k4 e)
  · exact xj_tabIn (tgt := 122) dX6_glove_15 ha (by omega) (by subst e; rfl) rfl (k5 e)
  · exact xj_tabIn (tgt := 134) dX6_glove_15 ha (by omega) (by subst e; rfl) rfl (k6 e)
  · exact xj_tabIn (tgt := 143) dX6_glove_15 ha (by omega) (by subst e; rfl) rfl (k7 e)
  · exact xj_tabIn (tgt := 152) dX6_glove_15 ha (by omega) (by subst e; rfl) rfl (k8 e)
  · exact xj_tabOut (tgt := 161) dX6_glove_15 ha e rfl (kout e)
theorem tsw_X6_wearer_15 {sc : Option (Nat × (Int → Int))} {d : Nat} {h : Hp} {lo : Lo} {st : List Value} {Q : Int → Hp → Prop} {a : Int} (ha : -2147483648 ≤ a ∧ a ≤ 2147483647) (k0 : a = 0 → XJ sc d kX6_wearer h 64 lo st Q) (k1 : a = 1 → XJ sc d kX6_wearer h 76 lo st Q) (k2 : a = 2 → XJ sc d kX6_wearer h 86 lo st Q) (k3 : a = 3 → XJ sc d kX6_wearer h 96 lo st Q) (k4 : a = 4 → XJ sc d kX6_wearer h 106 lo st Q) (k5 : a = 5 → XJ sc d kX6_wearer h 119 lo st Q) (k6 : a = 6 → XJ sc d kX6_wearer h 131 lo st Q) (k7 : a = 7 → XJ sc d kX6_wearer h 157 lo st Q) (k8 : a = 8 → XJ sc d kX6_wearer h 174 lo st Q) (kout : (a < 0 ∨ 8 < a) → XJ sc d kX6_wearer h 183 lo st Q) : XJ sc d kX6_wearer h 15 lo (vi a :: st) Q := by
  rcases (show a = 0 ∨ a = 1 ∨ a = 2 ∨ a = 3 ∨ a = 4 ∨ a = 5 ∨ a = 6 ∨ a = 7 ∨ a = 8 ∨ (a < 0 ∨ 8 < a) by omega) with e | e | e | e | e | e | e | e | e | e
  · exact xj_tabIn (tgt := 64) dX6_wearer_15 ha (by omega) (by subst e; rfl) rfl (k0 e)
  · exact xj_tabIn (tgt := 76) dX6_wearer_15 ha (by omega) (by subst e; rfl) rfl (k1 e)
  · exact xj_tabIn (tgt := 86) dX6_wearer_15 ha (by omega) (by subst e; rfl) rfl (k2 e)
  · exact xj_tabIn (tgt := 96) dX6_wearer_15 ha (by omega) (by subst e; rfl) rfl (k3 e)
  · exact xj_tabIn (tgt := 106) dX6_wearer_15 ha (by omega) (by subst e; rfl) rfl (k4 e)
  · exact xj_tabIn (tgt := 119) dX6_wearer_15 ha (by omega) (by subst e; rfl) rfl (k5 e)
  · exact xj_tabIn (tgt := 131) dX6_wearer_15 ha (by omega) (by subst e; rfl) rfl (k6 e)
  · exact xj_tabIn (tgt := 157) dX6_wearer_15 ha (by omega) (by subst e; rfl) rfl (k7 e)
  · exact xj_tabIn (tgt := 174) dX6_wearer_15 ha (by omega) (by subst e; rfl) rfl (k8 e)
  · exact xj_tabOut (tgt := 183) dX6_wearer_15 ha e rfl (kout e)
theorem tsw_X6_dress_60 {sc : Option (Nat × (Int → Int))} {d : Nat} {h : Hp} {lo : Lo} {st : List Value} {Q : Int → Hp → Prop} {a : Int} (ha : -2147483648 ≤ a ∧ a ≤ 2147483647) (k0 : a = 0 → XJ sc d kX6_dress h 88 lo st Q) (k1 : a = 1 → XJ sc d kX6_dress h 96 lo st Q) (kout : (¬ a = 0 ∧ ¬ a = 1) → XJ sc d kX6_dress h 104 lo st Q) : XJ sc d kX6_dress h 60 lo (vi a :: st) Q := by
  rcases (show a = 0 ∨ a = 1 ∨ (¬ a = 0 ∧ ¬ a = 1) by omega) with e | e | e
  · exact xj_look (tgt := 88) dX6_dress_60 ha (by decide) (by subst e; rfl) rfl (k0 e)
  · exact xj_look (tgt := 96) dX6_dress_60 ha (by decide) (by subst e; rfl) rfl (k1 e)
  · refine xj_look (tgt := 104) dX6_dress_60 ha (by decide) (off := 44) ?_ rfl (kout e)
    obtain ⟨e0, e1⟩ := e
    simp only [Op.lookupswitch.offset_cons]
    rw [if_neg (fun q => e0 q.symm), if_neg (fun q => e1 q.symm)]
    rfl
theorem tsw_X6_teas_105 {sc : Option (Nat × (Int → Int))} {d : Nat} {h : Hp} {lo : Lo} {st : List Value} {Q : Int → Hp → Prop} {a : Int} (ha : -2147483648 ≤ a ∧ a ≤ 2147483647) (k0 : a = 0 → XJ sc d kX6_teas h 132 lo st Q) (k1 : a = 1 → XJ sc d kX6_teas h 135 lo st Q) (kout : (¬ a = 0 ∧ ¬ a = 1) → XJ sc d kX6_teas h 143 lo st Q) : XJ sc d kX6_teas h 105 lo (vi a :: st) Q := by
  rcases (show a = 0 ∨ a = 1 ∨ (¬ a = 0 ∧ ¬ a = 1) by omega) with e | e | e
  · exact xj_look (tgt := 132) dX6_teas_105 ha (by decide) (by subst e; rfl) rfl (k0 e)
  · exact xj_look (tgt := 135) dX6_teas_105 ha (by decide) (by subst e; rfl) rfl (k1 e)
  · refine xj_look (tgt := 143) dX6_teas_105 ha (by decide) (off := 38) ?_ rfl (kout e)
    obtain ⟨e0, e1⟩ := e
    simp only [Op.lookupswitch.offset_cons]
    rw [if_neg (fun q => e0 q.symm), if_neg (fun q => e1 q.symm)]
    rfl
theorem tsw_X6_count_1 {sc : Option (Nat × (Int → Int))} {d : Nat} {h : Hp} {lo : Lo} {st : List Value} {Q : Int → Hp → Prop} {a : Int} (ha : -2147483648 ≤ a ∧ a ≤ 2147483647) (k0 : a = 0 → XJ sc d kX6_count h 68 lo st Q) (k1 : a = 1 → XJ sc d kX6_count h 76 lo st Q) (k2 : a = 2 → XJ sc d kX6_count h 84 lo st Q) (k3 : a = 3 → XJ sc d kX6_count h 92 lo st Q) (k4 : a = 4 → XJ sc d kX6_count h 100 lo st Q) (k5 : a = 5 → XJ sc d kX6_count h 109 lo st Q) (k6 : a = 6 → XJ sc d kX6_count h 118 lo st Q) (k7 : a = 7 → XJ sc d kX6_count h 126 lo st Q) (k8 : a = 8 → XJ sc d kX6_count h 134 lo st Q) (k9 : a = 9 → XJ sc d kX6_count h 142 lo st Q) (k10 : a = 10 → XJ sc d kX6_count h 150 lo st Q) (k11 : a = 11 → XJ sc d kX6_count h 158 lo st Q) (k12 : a = 12 → XJ sc d kX6_count h 163 lo st Q) (kout : (a < 0 ∨ 12 < a) → XJ sc d kX6_count h 168 lo st Q) : XJ sc d kX6_count h 1 lo (vi a :: st) Q := by
  rcases (show a = 0 ∨ a = 1 ∨ a = 2 ∨ a = 3 ∨ a = 4 ∨ a = 5 ∨ a = 6 ∨ a = 7 ∨ a = 8 ∨ a = 9 ∨ a = 10 ∨ a = 11 ∨ a = 12 ∨ (a < 0 ∨ 12 < a) by omega) with e | e | e | e | e | e | e | e | e | e | e | e | e | e
  · exact xj_tabIn (tgt := 68) dX6_count_1 ha (by omega) (by subst e; rfl) rfl (k0 e)
  · exact xj_tabIn (tgt := 76) dX6_count_1 ha (by omega) (by subst e; rfl) rfl (k1 e)
  · exact xj_tabIn (tgt := 84) dX6_count_1 ha (by omega) (by subst e; rfl) rfl (k2 e)
  · exact xj_tabIn (tgt := 92) dX6_count_1 ha (by omega) (by subst e; rfl) rfl (k3 e)
  · exact xj_tabIn (tgt := 100) dX6_count_1 ha (by omega) (by subst e; rfl) rfl (k4 e)
  · exact xj_tabIn (tgt := 109) dX6_count_1 ha (by omega) (by subst e; rfl) rfl (k5 e)
  · exact xj_tabIn (tgt := 118) dX6_count_1 ha (by omega) (by subst e; rfl) rfl (k6 e)
  · exact xj_tabIn (tgt := 126) dX6_count_1 ha (by omega) (by subst e; rfl) rfl (k7 e)
  · exact xj_tabIn (tgt := 134) dX6_count_1 ha (by omega) (by subst e; rfl) rfl (k8 e)
  · exact xj_tabIn (tgt := 142) dX6_count_1 ha (by omega) (by subst e; rfl) rfl (k9 e)
  · exact xj_tabIn (tgt := 150) dX6_count_1 ha (by omega) (by subst e; rfl) rfl (k10 e)
  · exact xj_tabIn (tgt := 158) dX6_count_1 ha (by omega) (by subst e; rfl) rfl (k11 e)
  · exact xj_tabIn (tgt := 163) dX6_count_1 ha (by omega) (by subst e; rfl) rfl (k12 e)
  · exact xj_tabOut (tgt := 168) dX6_count_1 ha e rfl (kout e)
theorem tsw_X6_kindOf_1 {sc : Option (Nat × (Int → Int))} {d : Nat} {h : Hp} {lo : Lo} {st : List Value} {Q : Int → Hp → Prop} {a : Int} (ha : -2147483648 ≤ a ∧ a ≤ 2147483647) (k0 : a = 100 → XJ sc d kX6_kindOf h 68 lo st Q) (k1 : a = 101 → XJ sc d kX6_kindOf h 74 lo st Q) (k2 : a = 102 → XJ sc d kX6_kindOf h 74 lo st Q) (k3 : a = 103 → XJ sc d kX6_kindOf h 64 lo st Q) (k4 : a = 104 → XJ sc d kX6_kindOf h 74 lo st Q) (k5 : a = 105 → XJ sc d kX6_kindOf h 74 lo st Q) (k6 : a = 106 → XJ sc d kX6_kindOf h 74 lo st Q) (k7 : a = 107 → XJ sc d kX6_kindOf h 66 lo st Q) (k8 : a = 108 → XJ sc d kX6_kindOf h 72 lo st Q) (k9 : a = 109 → XJ sc d kX6_kindOf h 74 lo st Q) (k10 : a = 110 → XJ sc d kX6_kindOf h 74 lo st Q) (k11 : a = 111 → XJ sc d kX6_kindOf h 70 lo st Q) (kout : (a < 100 ∨ 111 < a) → XJ sc d kX6_kindOf h 74 lo st Q) : XJ sc d kX6_kindOf h 1 lo (vi a :: st) Q := by
  rcases (show a = 100 ∨ a = 101 ∨ a = 102 ∨ a = 103 ∨ a = 104 ∨ a = 105 ∨ a = 106 ∨ a = 107 ∨ a = 108 ∨ a = 109 ∨ a = 110 ∨ a = 111 ∨ (a < 100 ∨ 111 < a) by omega) with e | e | e | e | e | e | e | e | e | e | e | e | e
  · exact xj_tabIn (tgt := 68) dX6_kindOf_1 ha (by omega) (by subst e; rfl) rfl (k0 e)
  · exact xj_tabIn (tgt := 74) dX6_kindOf_1 ha (by omega) (by subst e; rfl) rfl (k1 e)
  · exact xj_tabIn (tgt := 74) dX6_kindOf_1 ha (by omega) (by subst e; rfl) rfl (k2 e)
  · exact xj_tabIn (tgt := 64) dX6_kindOf_1 ha (by omega) (by subst e; rfl) rfl (k3 e)
  · exact xj_tabIn (tgt := 74) dX6_kindOf_1 ha (by omega) (by subst e; rfl) rfl (k4 e)
  · exact xj_tabIn (tgt := 74) dX6_kindOf_1 ha (by omega) (by subst e; rfl) rfl (k5 e)
  · exact xj_tabIn (tgt := 74) dX6_kindOf_1 ha (by omega) (by subst e; rfl) rfl (k6 e)
  · exact xj_tabIn (tgt := 66) dX6_kindOf_1 ha (by omega) (by subst e; rfl) rfl (k7 e)
  · exact xj_tabIn (tgt := 72) dX6_kindOf_1 ha (by omega) (by subst e; rfl) rfl (k8 e)
  · exact xj_tabIn (tgt := 74) dX6_kindOf_1 ha (by omega) (by subst e; rfl) rfl (k9 e)
  · exact xj_tabIn (tgt := 74) dX6_kindOf_1 ha (by omega) (by subst e; rfl) rfl (k10 e)
  · exact xj_tabIn (tgt := 70) dX6_kindOf_1 ha (by omega) (by subst e; rfl) rfl (k11 e)
  · exact xj_tabOut (tgt := 74) dX6_kindOf_1 ha e rfl (kout e)
theorem tsw_X6_temperOf_1 {sc : Option (Nat × (Int → Int))} {d : Nat} {h : Hp} {lo : Lo} {st : List Value} {Q : Int → Hp → Prop} {a : Int} (ha : -2147483648 ≤ a ∧ a ≤ 2147483647) (k0 : a = 1 → XJ sc d kX6_temperOf h 32 lo st Q) (k1 : a = 2 → XJ sc d kX6_temperOf h 70 lo st Q) (k2 : a = 3 → XJ sc d kX6_temperOf h 82 lo st Q) (k3 : a = 4 → XJ sc d kX6_temperOf h 49 lo st Q) (kout : (a < 1 ∨ 4 < a) → XJ sc d kX6_temperOf h 95 lo st Q) : XJ sc d kX6_temperOf h 1 lo (vi a :: st) Q := by
  rcases (show a = 1 ∨ a = 2 ∨ a = 3 ∨ a = 4 ∨ (a < 1 ∨ 4 < a) by omega) with e | e | e | e | e
  · exact xj_tabIn (tgt := 32) dX6_temperOf_1 ha (by omega) (by subst e; rfl) rfl (k0 e)
  · exact xj_tabIn (tgt := 70) dX6_temperOf_1 ha (by omega) (by subst e; rfl) rfl (k1 e)
  · exact xj_tabIn (tgt := 82) dX6_temperOf_1 ha (by omega) (by subst e; rfl) rfl (k2 e)
  · exact xj_tabIn (tgt := 49) dX6_temperOf_1 ha (by omega) (by subst e; rfl) rfl (k3 e)
  · exact xj_tabOut (tgt := 95) dX6_temperOf_1 ha e rfl (kout e)
theorem tsw_X7_kindBy_1 {sc : Option (Nat × (Int → Int))} {d : Nat} {h : Hp} {lo : Lo} {st : List Value} {Q : Int → Hp → Prop} {a : Int} (ha : -2147483648 ≤ a ∧ a ≤ 2147483647) (k0 : a = 100 → XJ sc d kX7_kindBy h 68 lo st Q) (k1 : a = 101 → XJ sc d kX7_kindBy h 74 lo st Q) (k2 : a = 102 → XJ sc d kX7_kindBy h 74 lo st Q) (k3 : a = 103 → XJ sc d kX7_kindBy h 64 lo st Q) (k4 : a = 104 → XJ sc d kX7_kindBy h 74 lo st Q) (k5 : a = 105 → XJ sc d kX7_kindBy h 74 lo st Q) (k6 : a = 106 → XJ sc d kX7_kindBy h 74 lo st Q) (k7 : a = 107 → XJ sc d kX7_kindBy h 66 lo st Q) (k8 : a = 108 → XJ sc d kX7_kindBy h 72 lo st Q) (k9 : a = 109 → XJ sc d kX7_kindBy h 74 lo st Q) (k10 : a = 110 → XJ sc d kX7_kindBy h 74 lo st Q) (k11 : a = 111 → XJ sc d kX7_kindBy h 70 lo st Q) (kout : (a < 100 ∨ 111 < a) → XJ sc d kX7_kindBy h 74 lo st Q) : XJ sc d kX7_kindBy h 1 lo (vi a :: st) Q := by
  rcases (show a = 100 ∨ a = 101 ∨ a = 102 ∨ a = 103 ∨ a = 104 ∨ a = 105 ∨ a = 106 ∨ a = 107 ∨ a = 108 ∨ a = 109 ∨ a = 110 ∨ a = 111 ∨ (a < 100 ∨ 111 < a) by omega) with e | e | e | e | e | e | e | e | e | e | e | e | e
  · exact xj_tabIn (tgt := 68) dX7_kindBy_1 ha (by omega) (by subst e; rfl) rfl (k0 e)
  · exact xj_tabIn (tgt := 74) dX7_kindBy_1 ha (by omega) (by subst e; rfl) rfl (k1 e)
  · exact xj_tabIn (tgt := 74) dX7_kindBy_1 ha (by omega) (by subst e; rfl) rfl (k2 e)
  · exact xj_tabIn (tgt := 64) dX7_kindBy_1 ha (by omega) (by subst e; rfl) rfl (k3 e)
  · exact xj_tabIn (tgt := 74) dX7_kindBy_1 ha (by omega) (by subst e; rfl) rfl (k4 e)
  · exact xj_tabIn (tgt := 74) dX7_kindBy_1 ha (by omega) (by subst e; rfl) rfl (k5 e)
  · exact xj_tabIn (tgt := 74) dX7_kindBy_1 ha (by omega) (by subst e; rfl) rfl (k6 e)
  · exact xj_tabIn (tgt := 66) dX7_kindBy_1 ha (by omega) (by subst e; rfl) rfl (k7 e)
  · exact xj_tabIn (tgt := 72) dX7_kindBy_1 ha (by omega) (by subst e; rfl) rfl (k8 e)
  · exact xj_tabIn (tgt := 74) dX7_kindBy_1 ha (by omega) (by subst e; rfl) rfl (k9 e)
  · exact xj_tabIn (tgt := 74) dX7_kindBy_1 ha (by omega) (by subst e; rfl) rfl (k10 e)
  · exact xj_tabIn (tgt := 70) dX7_kindBy_1 ha (by omega) (by subst e; rfl) rfl (k11 e)
  · exact xj_tabOut (tgt := 74) dX7_kindBy_1 ha e rfl (kout e)
theorem tsw_X7_temperBy_6 {sc : Option (Nat × (Int → Int))} {d : Nat} {h : Hp} {lo : Lo} {st : List Value} {Q : Int → Hp → Prop} {a : Int} (ha : -2147483648 ≤ a ∧ a ≤ 2147483647) (k0 : a = 1 → XJ sc d kX7_temperBy h 36 lo st Q) (k1 : a = 2 → XJ sc d kX7_temperBy h 53 lo st Q) (k2 : a = 3 → XJ sc d kX7_temperBy h 66 lo st Q) (k3 : a = 4 → XJ sc d kX7_temperBy h 79 lo st Q) (kout : (a < 1 ∨ 4 < a) → XJ sc d kX7_temperBy h 100 lo st Q) : XJ sc d kX7_temperBy h 6 lo (vi a :: st) Q := by
  rcases (show a = 1 ∨ a = 2 ∨ a = 3 ∨ a = 4 ∨ (a < 1 ∨ 4 < a) by omega) with e | e | e | e | e
  · exact xj_tabIn (tgt := 36) dX7_temperBy_6 ha (by omega) (by subst e; rfl) rfl (k0 e)
  · exact xj_tabIn (tgt := 53) dX7_temperBy_6 ha (by omega) (by subst e; rfl) rfl (k1 e)
  · exact xj_tabIn (tgt := 66) dX7_temperBy_6 ha (by omega) (by subst e; rfl) rfl (k2 e)
  · exact xj_tabIn (tgt := 79) dX7_temperBy_6 ha (by omega) (by subst e; rfl) rfl (k3 e)
  · exact xj_tabOut (tgt := 100) dX7_temperBy_6 ha e rfl (kout e)
theorem tsw_X7_gloveNow_1 {sc : Option (Nat × (Int → Int))} {d : Nat} {h : Hp} {lo : Lo} {st : List Value} {Q : Int → Hp → Prop} {a : Int} (ha : -2147483648 ≤ a ∧ a ≤ 2147483647) (k0 : a = 0 → XJ sc d kX7_gloveNow h 48 lo st Q) (k1 : a = 1 → XJ sc d kX7_gloveNow h 55 lo st Q) (k2 : a = 2 → XJ sc d kX7_gloveNow h 62 lo st Q) (k3 : a = 3 → XJ sc d kX7_gloveNow h 69 lo st Q) (k4 : a = 4 → XJ sc d kX7_gloveNow h 76 lo st Q) (k5 : a = 5 → XJ sc d kX7_gloveNow h 99 lo st Q) (k6 : a = 6 → XJ sc d kX7_gloveNow h 122 lo st Q) (k7 : a = 7 → XJ sc d kX7_gloveNow h 128 lo st Q) (kout : (a < 0 ∨ 7 < a) → XJ sc d kX7_gloveNow h 134 lo st Q) : XJ sc d kX7_gloveNow h 1 lo (vi a :: st) Q := by
  rcases (show a = 0 ∨ a = 1 ∨ a = 2 ∨ a = 3 ∨ a = 4 ∨ a = 5 ∨ a = 6 ∨ a = 7 ∨ (a < 0 ∨ 7 < a) by omega) with e | e | e | e | e | e | e | e | e
  · exact xj_tabIn (tgt := 48) dX7_gloveNow_1 ha (by omega) (by subst e; rfl) rfl (k0 e)
  · exact xj_tabIn (tgt := 55) dX7_gloveNow_1 ha (by omega) (by subst e; rfl) rfl (k1 e)
  · exact xj_tabIn (tgt := 62) dX7_gloveNow_1 ha (by omega) (by subst e; rfl) rfl (k2 e)
  · exact xj_tabIn (tgt := 69) dX7_gloveNow_1 ha (by omega) (by subst e; rfl) rfl (k3 e)
  · exact xj_tabIn (tgt := 76) dX7_gloveNow_1 ha (by omega) (by subst e; rfl) rfl (k4 e)
  · exact xj_tabIn (tgt := 99) dX7_gloveNow_1 ha (by omega) (by subst e; rfl) rfl (k5 e)
  · exact xj_tabIn (tgt := 122) dX7_gloveNow_1 ha (by omega) (by subst e; rfl) rfl (k6 e)
  · exact xj_tabIn (tgt := 128) dX7_gloveNow_1 ha (by omega) (by subst e; rfl) rfl (k7 e)
  · exact xj_tabOut (tgt := 134) dX7_gloveNow_1 ha e rfl (kout e)
theorem tsw_X7_wearerNow_1 {sc : Option (Nat × (Int → Int))} {d : Nat} {h : Hp} {lo : Lo} {st : List Value} {Q : Int → Hp → Prop} {a : Int} (ha : -2147483648 ≤ a ∧ a ≤ 2147483647) (k0 : a = 0 → XJ sc d kX7_wearerNow h 44 lo st Q) (k1 : a = 1 → XJ sc d kX7_wearerNow h 51 lo st Q) (k2 : a = 2 → XJ sc d kX7_wearerNow h 57 lo st Q) (k3 : a = 3 → XJ sc d kX7_wearerNow h 57 lo st Q) (k4 : a = 4 → XJ sc d kX7_wearerNow h 69 lo st Q) (k5 : a = 5 → XJ sc d kX7_wearerNow h 78 lo st Q) (k6 : a = 6 → XJ sc d kX7_wearerNow h 85 lo st Q) (kout : (a < 0 ∨ 6 < a) → XJ sc d kX7_wearerNow h 104 lo st Q) : XJ sc d kX7_wearerNow h 1 lo (vi a :: st) Q := by
  rcases (show a = 0 ∨ a = 1 ∨ a = 2 ∨ a = 3 ∨ a = 4 ∨ a = 5 ∨ a = 6 ∨ (a < 0 ∨ 6 < a) by omega) with e | e | e | e | e | e | e | e
  · exact xj_tabIn (tgt := 44) dX7_wearerNow_1 ha (by omega) (by subst e; rfl) rfl (k0 e)
  · exact xj_tabIn (tgt := 51) dX7_wearerNow_1 ha (by omega) (by subst e; rfl) rfl (k1 e)
  · exact xj_tabIn (tgt := 57) dX7_wearerNow_1 ha (by omega) (by subst e; rfl) rfl (k2 e)
  · exact xj_tabIn (tgt := 57) dX7_wearerNow_1 ha (by omega) (by subst e; rfl) rfl (k3 e)
  · exact xj_tabIn (tgt := 69) dX7_wearerNow_1 ha (by omega) (by subst e; rfl) rfl (k4 e)
  · exact xj_tabIn (tgt := 78) dX7_wearerNow_1 ha (by omega) (by subst e; rfl) rfl (k5 e)
  · exact xj_tabIn (tgt := 85) dX7_wearerNow_1 ha (by omega) (by subst e; rfl) rfl (k6 e)
  · exact xj_tabOut (tgt := 104) dX7_wearerNow_1 ha e rfl (kout e)
theorem tsw_X7_howMany_1 {sc : Option (Nat × (Int → Int))} {d : Nat} {h : Hp} {lo : Lo} {st : List Value} {Q : Int → Hp → Prop} {a : Int} (ha : -2147483648 ≤ a ∧ a ≤ 2147483647) (k0 : a = 0 → XJ sc d kX7_howMany h 68 lo st Q) (k1 : a = 1 → XJ sc d kX7_howMany h 73 lo st Q) (k2 : a = 2 → XJ sc d kX7_howMany h 78 lo st Q) (k3 : a = 3 → XJ sc d kX7_howMany h 83 lo st Q) (k4 : a = 4 → XJ sc d kX7_howMany h 88 lo st Q) (k5 : a = 5 → XJ sc d kX7_howMany h 88 lo st Q) (k6 : a = 6 → XJ sc d kX7_howMany h 88 lo st Q) (k7 : a = 7 → XJ sc d kX7_howMany h 94 lo st Q) (k8 : a = 8 → XJ sc d kX7_howMany h 100 lo st Q) (k9 : a = 9 → XJ sc d kX7_howMany h 106 lo st Q) (k10 : a = 10 → XJ sc d kX7_howMany h 111 lo st Q) (k11 : a = 11 → XJ sc d kX7_howMany h 116 lo st Q) (k12 : a = 12 → XJ sc d kX7_howMany h 121 lo st Q) (kout : (a < 0 ∨ 12 < a) → XJ sc d kX7_howMany h 126 lo st Q) : XJ sc d kX7_howMany h 1 lo (vi a :: st) Q := by
  rcases (show a = 0 ∨ a = 1 ∨ a = 2 ∨ a = 3 ∨ a = 4 ∨ a = 5 ∨ a = 6 ∨ a = 7 ∨ a = 8 ∨ a = 9 ∨ a = 10 ∨ a = 11 ∨ a = 12 ∨ (a < 0 ∨ 12 < a) by omega) with e | e | e | e | e | e | e | e | e | e | e | e | e | e
  · exact xj_tabIn (tgt := 68) dX7_howMany_1 ha (by omega) (by subst e; rfl) rfl (k0 e)
  · exact xj_tabIn (tgt := 73) dX7_howMany_1 ha (by omega) (by subst e; rfl) rfl (k1 e)
  · exact xj_tabIn (tgt := 78) dX7_howMany_1 ha (by omega) (by subst e; rfl) rfl (k2 e)
  · exact xj_tabIn (tgt := 83) dX7_howMany_1 ha (by omega) (by subst e; rfl) rfl (k3 e)
  · exact xj_tabIn (tgt := 88) dX7_howMany_1 ha (by omega) (by subst e; rfl) rfl (k4 e)
  · exact xj_tabIn (tgt := 88) dX7_howMany_1 ha (by omega) (by subst e; rfl) rfl (k5 e)
  · exact xj_tabIn (tgt := 88) dX7_howMany_1 ha (by omega) (by subst e; rfl) rfl (k6 e)
  · exact xj_tabIn (tgt := 94) dX7_howMany_1 ha (by omega) (by subst e; rfl) rfl (k7 e)
  · exact xj_tabIn (tgt := 100) dX7_howMany_1 ha (by omega) (by subst e; rfl) rfl (k8 e)
  · exact xj_tabIn (tgt := 106) dX7_howMany_1 ha (by omega) (by subst e; rfl) rfl (k9 e)
  · exact xj_tabIn (tgt := 111) dX7_howMany_1 ha (by omega) (by subst e; rfl) rfl (k10 e)
  · exact xj_tabIn (tgt := 116) dX7_howMany_1 ha (by omega) (by subst e; rfl) rfl (k11 e)
  · exact xj_tabIn (tgt := 121) dX7_howMany_1 ha (by omega) (by subst e; rfl) rfl (k12 e)
  · exact xj_tabOut (tgt := 126) dX7_howMany_1 ha e rfl (kout e)
theorem tsw_L_law_32 {sc : Option (Nat × (Int → Int))} {d : Nat} {h : Hp} {lo : Lo} {st : List Value} {Q : Int → Hp → Prop} {a : Int} (ha : -2147483648 ≤ a ∧ a ≤ 2147483647) (k0 : a = 0 → XJ sc d kL_law h 140 lo st Q) (k1 : a = 1 → XJ sc d kL_law h 163 lo st Q) (k2 : a = 2 → XJ sc d kL_law h 176 lo st Q) (k3 : a = 3 → XJ sc d kL_law h 189 lo st Q) (k4 : a = 4 → XJ sc d kL_law h 202 lo st Q) (k5 : a = 5 → XJ sc d kL_law h 235 lo st Q) (k6 : a = 6 → XJ sc d kL_law h 268 lo st Q) (k7 : a = 7 → XJ sc d kL_law h 301 lo st Q) (k8 : a = 8 → XJ sc d kL_law h 344 lo st Q) (k9 : a = 9 → XJ sc d kL_law h 367 lo st Q) (k10 : a = 10 → XJ sc d kL_law h 380 lo st Q) (k11 : a = 11 → XJ sc d kL_law h 413 lo st Q) (k12 : a = 12 → XJ sc d kL_law h 456 lo st Q) (k13 : a = 13 → XJ sc d kL_law h 489 lo st Q) (k14 : a = 14 → XJ sc d kL_law h 512 lo st Q) (k15 : a = 15 → XJ sc d kL_law h 535 lo st Q) (k16 : a = 16 → XJ sc d kL_law h 588 lo st Q) (k17 : a = 17 → XJ sc d kL_law h 631 lo st Q) (k18 : a = 18 → XJ sc d kL_law h 644 lo st Q) (k19 : a = 19 → XJ sc d kL_law h 687 lo st Q) (k20 : a = 20 → XJ sc d kL_law h 700 lo st Q) (k21 : a = 21 → XJ sc d kL_law h 713 lo st Q) (k22 : a = 22 → XJ sc d kL_law h 736 lo st Q) (kout : (a < 0 ∨ 22 < a) → XJ sc d kL_law h 750 lo st Q) : XJ sc d kL_law h 32 lo (vi a :: st) Q := by
  rcases (show a = 0 ∨ a = 1 ∨ a = 2 ∨ a = 3 ∨ a = 4 ∨ a = 5 ∨ a = 6 ∨ a = 7 ∨ a = 8 ∨ a = 9 ∨ a = 10 ∨ a = 11 ∨ a = 12 ∨ a = 13 ∨ a = 14 ∨ a = 15 ∨ a = 16 ∨ a = 17 ∨ a = 18 ∨ a = 19 ∨ a = 20 ∨ a = 21 ∨ a = 22 ∨ (a < 0 ∨ 22 < a) by omega) with e | e | e | e | e | e | e | e | e | e | e | e | e | e | e | e | e | e | e | e | e | e | e | e
  · exact xj_tabIn (tgt := 140) dL_law_32 ha (by omega) (by subst e; rfl) rfl (k0 e)
  · exact xj_tabIn (tgt := 163) dL_law_32 ha (by omega) (by subst e; rfl) rfl (k1 e)
  · exact xj_tabIn (tgt := 176) dL_law_32 ha (by omega) (by subst e; rfl) rfl (k2 e)
  · exact xj_tabIn (tgt := 189) dL_law_32 ha (by omega) (by subst e; rfl) rfl (k3 e)
  · exact xj_tabIn (tgt := 202) dL_law_32 ha (by omega) (by subst e; rfl) rfl (k4 e)
  · exact xj_tabIn (tgt := 235) dL_law_32 ha (by omega) (by subst e; rfl) rfl (k5 e)
  · exact xj_tabIn (tgt := 268) dL_law_32 ha (by omega) (by subst e; rfl) rfl (k6 e)
  · exact xj_tabIn (tgt := 301) dL_law_32 ha (by omega) (by subst e; rfl) rfl (k7 e)
  · exact xj_tabIn (tgt := 344) dL_law_32 ha (by omega) (by subst e; rfl) rfl (k8 e)
  · exact xj_tabIn (tgt := 367) dL_law_32 ha (by omega) (by subst e; rfl) rfl (k9 e)
  · exact xj_tabIn (tgt := 380) dL_law_32 ha (by omega) (by subst e; rfl) rfl (k10 e)
  · exact xj_tabIn (tgt := 413) dL_law_32 ha (by omega) (by subst e; rfl) rfl (k11 e)
  · exact xj_tabIn (tgt := 456) dL_law_32 ha (by omega) (by subst e; rfl) rfl (k12 e)
  · exact xj_tabIn (tgt := 489) dL_law_32 ha (by omega) (by subst e; rfl) rfl (k13 e)
  · exact xj_tabIn (tgt := 512) dL_law_32 ha (by omega) (by subst e; rfl) rfl (k14 e)
  · exact xj_tabIn (tgt := 535) dL_law_32 ha (by omega) (by subst e; rfl) rfl (k15 e)
  · exact xj_tabIn (tgt := 588) dL_law_32 ha (by omega) (by subst e; rfl) rfl (k16 e)
  · exact xj_tabIn (tgt := 631) dL_law_32 ha (by omega) (by subst e; rfl) rfl (k17 e)
  · exact xj_tabIn (tgt := 644) dL_law_32 ha (by omega) (by subst e; rfl) rfl (k18 e)
  · exact xj_tabIn (tgt := 687) dL_law_32 ha (by omega) (by subst e; rfl) rfl (k19 e)
  · exact xj_tabIn (tgt := 700) dL_law_32 ha (by omega) (by subst e; rfl) rfl (k20 e)
  · exact xj_tabIn (tgt := 713) dL_law_32 ha (by omega) (by subst e; rfl) rfl (k21 e)
  · exact xj_tabIn (tgt := 736) dL_law_32 ha (by omega) (by subst e; rfl) rfl (k22 e)
  · exact xj_tabOut (tgt := 750) dL_law_32 ha e rfl (kout e)
end
section
/-! what both sides mean, in whole numbers -/
abbrev Sh : Type := Nat → Int → Int
def it {α : Type} (f : Nat → α → α) (a : α) : Nat → α
  | 0 => a
  | j + 1 => f j (it f a j)
/-- a bit of a set -/
def mem (b g : Int) : Prop := b / 2 ^ g.toNat % 2 = 1
def memb (b g : Int) : Bool := decide (b / 2 ^ g.toNat % 2 = 1)
theorem memb_iff {b g : Int} : memb b g = true ↔ mem b g := by unfold memb mem; exact decide_eq_true_iff
/-- the set of those below j with p -/
def bsum (p : Nat → Bool) : Nat → Int
  | 0 => 0
  | j + 1 => bsum p j + if p j then 2 ^ j else 0
theorem bsum_nn (p : Nat → Bool) : ∀ j, 0 ≤ bsum p j ∧ bsum p j < 2 ^ j
  | 0 => by simp [bsum]
  | j + 1 => by
    have := bsum_nn p j
    have e : (2 : Int) ^ (j + 1) = 2 * 2 ^ j := by rw [Int.pow_succ]; omega
    unfold bsum
    split <;> omega
theorem bsum_mem (p : Nat → Bool) : ∀ (j g : Nat), mem (bsum p j) g ↔ (g < j ∧ p g = true)
  | 0, g => by
    unfold mem bsum
    simp
  | j + 1, g => by
    have hb := bsum_nn p j
    have ih := bsum_mem p j g
    have pj : (0 : Int) < 2 ^ j := Int.pow_pos (by decide)
    have pg : (0 : Int) < 2 ^ g := Int.pow_pos (by decide)
    unfold mem at ih ⊢
    rw [Int.toNat_natCast] at ih ⊢
    unfold bsum
    by_cases hgj : g < j
    · have e : (2 : Int) ^ j = 2 ^ g * (2 * 2 ^ (j - g - 1)) := by
        rw [show j = g + (1 + (j - g - 1)) by omega, Int.pow_add, Int.pow_add]
        simp
      split
      · rename_i hp
        rw [e, Int.add_mul_ediv_left _ _ (by omega)]
        rw [Int.add_mul_emod_self_left]
        constructor
        · intro q; exact ⟨by omega, (ih.mp q).2⟩
        · intro q; exact ih.mpr ⟨hgj, q.2⟩
      · rw [Int.add_zero]
        constructor
        · intro q; exact ⟨by omega, (ih.mp q).2⟩
        · intro q; exact ih.mpr ⟨hgj, q.2⟩
    · by_cases e : g = j
      · subst e
        have h0 : bsum p g / 2 ^ g = 0 := Int.ediv_eq_zero_of_lt hb.1 hb.2
        split
        · rename_i hp
          rw [show bsum p g + 2 ^ g = bsum p g + 2 ^ g * 1 by omega, Int.add_mul_ediv_left _ _ (by omega), h0]
          simp [hp]
        · rename_i hp
          rw [Int.add_zero, h0]
          simp [hp]
      · have hle : (2 : Int) ^ j + 2 ^ j ≤ 2 ^ g := by
          have : (2 : Int) ^ g = 2 ^ j * (2 * 2 ^ (g - j - 1)) := by
            rw [show g = j + (1 + (g - j - 1)) by omega, Int.pow_add, Int.pow_add]
            simp
          have p2 : (0 : Int) < 2 ^ (g - j - 1) := Int.pow_pos (by decide)
          rw [this]
          have : (2 : Int) ^ j * 2 ≤ 2 ^ j * (2 * 2 ^ (g - j - 1)) := Int.mul_le_mul_of_nonneg_left (by omega) (by omega)
          omega
        have h0 : (bsum p j + if p j = true then (2 : Int) ^ j else 0) / 2 ^ g = 0 := by
          apply Int.ediv_eq_zero_of_lt
          · split <;> omega
          · split <;> omega
        rw [h0]
        simp
        omega
theorem bsum_congr {p q : Nat → Bool} : ∀ (j : Nat), (∀ g, g < j → p g = q g) → bsum p j = bsum q j
  | 0, _ => rfl
  | j + 1, h => by
    unfold bsum
    rw [bsum_congr j (fun g hg => h g (by omega)), h j (by omega)]
/-- by numbers: bits of Int32 -/
theorem i32_nat {x : Int32} {n : Nat} (h : x.toInt = n) : x.toBitVec = BitVec.ofNat 32 n := by
  have h1 : Int32.ofInt (n : Int) = x := by rw [← h, Int32.ofInt_toInt]
  rw [← h1, Int32.toBitVec_ofInt]
  simp
theorem i32_bv (n : Nat) (h : n < 2 ^ 31) : (Int32.ofInt (n : Int)).toBitVec.toNat = n := by
  rw [Int32.toBitVec_ofInt, BitVec.ofInt_natCast, BitVec.toNat_ofNat, Nat.mod_eq_of_lt (by omega)]
theorem i32_int {x : Int32} {n : Nat} (h : x.toBitVec.toNat = n) (hn : n < 2 ^ 31) : x.toInt = n := by
  show x.toBitVec.toInt = n
  rw [BitVec.toInt_eq_toNat_of_lt (by rw [h]; omega), h]
theorem band_nat {a b : Nat} (ha : a < 2 ^ 31) (hb : b < 2 ^ 31) : band a b = ((a &&& b : Nat) : Int) := by
  unfold band
  apply i32_int
  · rw [Int32.toBitVec_and, BitVec.toNat_and, i32_bv a ha, i32_bv b hb]
  · exact Nat.and_lt_two_pow _ hb
theorem bor_nat {a b : Nat} (ha : a < 2 ^ 31) (hb : b < 2 ^ 31) : bor a b = ((a ||| b : Nat) : Int) := by
  unfold bor
  apply i32_int
  · rw [Int32.toBitVec_or, BitVec.toNat_or, i32_bv a ha, i32_bv b hb]
  · exact Nat.or_lt_two_pow ha hb
theorem bxor_nat {a b : Nat} (ha : a < 2 ^ 31) (hb : b < 2 ^ 31) : bxor a b = ((a ^^^ b : Nat) : Int) := by
  unfold bxor
  apply i32_int
  · rw [Int32.toBitVec_xor, BitVec.toNat_xor, i32_bv a ha, i32_bv b hb]
  · exact Nat.xor_lt_two_pow ha hb
theorem bshl_one {j : Nat} (h : j ≤ 30) : bshl 1 j = 2 ^ j := by
  have : ∀ j : Fin 31, bshl 1 (j : Nat) = 2 ^ (j : Nat) := by decide +kernel
  exact this ⟨j, by omega⟩
theorem shr_amt (j : Nat) (h : j ≤ 30) : ((Int32.ofInt (j : Int) &&& 31).toBitVec.smod 32).toNat = j := by
  have : ∀ j : Fin 31, ((Int32.ofInt ((j : Nat) : Int) &&& 31).toBitVec.smod 32).toNat = j := by decide +kernel
  exact this ⟨j, by omega⟩
theorem bshr_nat {a j : Nat} (ha : a < 2 ^ 31) (hj : j ≤ 30) : bshr a j = ((a >>> j : Nat) : Int) := by
  unfold bshr
  have e1 := shr_amt j hj
  show (Int32.ofInt (a : Int) >>> (Int32.ofInt (j : Int) &&& 31)).toBitVec.toInt = _
  rw [Int32.toBitVec_shiftRight]
  show (BitVec.sshiftRight (Int32.ofInt (a : Int)).toBitVec ((Int32.ofInt (j : Int) &&& 31).toBitVec.smod 32).toNat).toInt = _
  rw [e1, BitVec.toInt_sshiftRight]
  have e3 : (Int32.ofInt (a : Int)).toBitVec.toInt = (a : Int) := rg_toInt (a := (a : Int)) (by omega)
  rw [e3]
  rfl
end
section
/-! the class's static methods, the model's, the JDK's two -/
theorem memb_test {b g : Int} (hb : 0 ≤ b ∧ b ≤ 2147483647) (hg : 0 ≤ g ∧ g ≤ 30) : band (bshr b g) 1 = b / 2 ^ g.toNat % 2 := by
  obtain ⟨bn, rfl⟩ := Int.eq_ofNat_of_zero_le hb.1
  obtain ⟨gn, rfl⟩ := Int.eq_ofNat_of_zero_le hg.1
  have h1 : bn >>> gn < 2 ^ 31 := Nat.lt_of_le_of_lt (Nat.shiftRight_le _ _) (by omega)
  rw [bshr_nat (by omega) (by omega), show (1 : Int) = ((1 : Nat) : Int) from rfl, band_nat h1 (by decide), Nat.and_one_is_mod, Nat.shiftRight_eq_div_pow, Int.toNat_natCast]
  simp
theorem bor_add {b : Int} {j : Nat} (hb : 0 ≤ b ∧ b < 2 ^ j) (hj : j ≤ 30) : bor b (bshl 1 j) = b + 2 ^ j := by
  obtain ⟨bn, rfl⟩ := Int.eq_ofNat_of_zero_le hb.1
  have h2 : bn < 2 ^ j := by have := hb.2; exact_mod_cast this
  have h3 : 2 ^ j ≤ 2 ^ 30 := Nat.pow_le_pow_right (by decide) hj
  rw [bshl_one hj, show (2 : Int) ^ j = ((2 ^ j : Nat) : Int) by simp, bor_nat (by omega) (by omega)]
  have := Nat.two_pow_add_eq_or_of_lt h2 1
  rw [Nat.mul_one] at this
  rw [Nat.or_comm, ← this]
  simp [Int.add_comm]
/-- how many bits of a number below 1024 -/
def pc (x : Int) : Int := x % 2 + x / 2 % 2 + x / 4 % 2 + x / 8 % 2 + x / 16 % 2 + x / 32 % 2 + x / 64 % 2 + x / 128 % 2 + x / 256 % 2 + x / 512 % 2
def popE (x : Int) : Int :=
  let x1 := x - band (bushr x 1) 1431655765
  let x2 := band x1 858993459 + band (bushr x1 2) 858993459
  let x3 := band (x2 + bushr x2 4) 252645135
  let x4 := x3 + bushr x3 8
  let x5 := x4 + bushr x4 16
  band x5 63
theorem pop_fin : ∀ x : Fin 1024, popE ((x : Nat) : Int) = pc ((x : Nat) : Int) := by decide +kernel
theorem pop_ok {x : Int} (h : 0 ≤ x ∧ x < 1024) : popE x = pc x := by
  obtain ⟨n, rfl⟩ := Int.eq_ofNat_of_zero_le h.1
  exact pop_fin ⟨n, by omega⟩
def temperZ (k m a : Int) : Int := if k = 1 then (if m + a < 9 then m + a else 9) else if k = 2 then (if a % 2 = 0 then 0 else m) else if k = 3 then (if m ≤ a then 0 else m - a) else if k = 4 then (if m + 2 * a < 9 then m + 2 * a else 9) else m
def doz (m : Int) : Int := if m ≤ 8 then 0 else if m < 15 then 2 else 1
def kindz (c : Int) : Int := if c = 103 then 0 else if c = 107 then 1 else if c = 100 then 2 else if c = 111 then 3 else if c = 108 then 4 else -1
def agez (a : Int) : Int := if a < 20 then a else 20
theorem c_X6_within {a x y : Int} {h : Hp} {Q : Int → Hp → Prop} (ha : -2147483648 ≤ a ∧ a ≤ 2147483647) (hx : -2147483648 ≤ x ∧ x ≤ 2147483647) (hy : -2147483648 ≤ y ∧ y ≤ 2147483647) (h1 : x ≤ a ∧ a ≤ y → Q 1 h) (h0 : ¬ (x ≤ a ∧ a ≤ y) → Q 0 h) : CJ 0 kX6_within [vi a, vi x, vi y] h Q := by
  refine cj_of (lo := [some (vi a), some (vi x), some (vi y)]) mok_X6_within (fun _ => rfl) (fun _ => Nat.le_of_ble_eq_true rfl) ?_
  refine xj_iload_n (pc2 := 1) dX6_within_0 rfl rfl rfl ?_
  refine xj_iload_n (pc2 := 2) dX6_within_1 rfl rfl rfl ?_
  refine xj_cmp_lt (pc2 := 5) (tgt := 14) dX6_within_2 rfl rfl (by omega) (by omega) (fun c_2 => ?_) (fun c_2 => ?_)
  · -- 14
    refine xj_iconst (pc2 := 15) dX6_within_14 rfl ?_
    refine xj_zret dX6_within_15 rfl (by decide) ?_
    first | exact h1 (by omega) | exact h0 (by omega)
  · -- 5
    refine xj_iload_n (pc2 := 6) dX6_within_5 rfl rfl rfl ?_
    refine xj_iload_n (pc2 := 7) dX6_within_6 rfl rfl rfl ?_
    refine xj_cmp_gt (pc2 := 10) (tgt := 14) dX6_within_7 rfl rfl (by omega) (by omega) (fun c_7 => ?_) (fun c_7 => ?_)
    · -- 14
      refine xj_iconst (pc2 := 15) dX6_within_14 rfl ?_
      refine xj_zret dX6_within_15 rfl (by decide) ?_
      first | exact h1 (by omega) | exact h0 (by omega)
    · -- 10
      refine xj_iconst (pc2 := 11) dX6_within_10 rfl ?_
      refine xj_goto (tgt := 15) dX6_within_11 rfl ?_
      refine xj_zret dX6_within_15 rfl (by decide) ?_
      first | exact h1 (by omega) | exact h0 (by omega)
theorem c_X7_within {a x y : Int} {h : Hp} {Q : Int → Hp → Prop} (ha : -2147483648 ≤ a ∧ a ≤ 2147483647) (hx : -2147483648 ≤ x ∧ x ≤ 2147483647) (hy : -2147483648 ≤ y ∧ y ≤ 2147483647) (h1 : x ≤ a ∧ a ≤ y → Q 1 h) (h0 : ¬ (x ≤ a ∧ a ≤ y) → Q 0 h) : CJ 0 kX7_within [vi a, vi x, vi y] h Q := by
  refine cj_of (lo := [some (vi a), some (vi x), some (vi y)]) mok_X7_within (fun _ => rfl) (fun _ => Nat.le_of_ble_eq_true rfl) ?_
  refine xj_iload_n (pc2 := 1) dX7_within_0 rfl rfl rfl ?_
  refine xj_iload_n (pc2 := 2) dX7_within_1 rfl rfl rfl ?_
  refine xj_cmp_lt (pc2 := 5) (tgt := 14) dX7_within_2 rfl rfl (by omega) (by omega) (fun c_2 => ?_) (fun c_2 => ?_)
  · -- 14
    refine xj_iconst (pc2 := 15) dX7_within_14 rfl ?_
    refine xj_zret dX7_within_15 rfl (by decide) ?_
    first | exact h1 (by omega) | exact h0 (by omega)
  · -- 5
    refine xj_iload_n (pc2 := 6) dX7_within_5 rfl rfl rfl ?_
    refine xj_iload_n (pc2 := 7) dX7_within_6 rfl rfl rfl ?_
    refine xj_cmp_gt (pc2 := 10) (tgt := 14) dX7_within_7 rfl rfl (by omega) (by omega) (fun c_7 => ?_) (fun c_7 => ?_)
    · -- 14
      refine xj_iconst (pc2 := 15) dX7_within_14 rfl ?_
      refine xj_zret dX7_within_15 rfl (by decide) ?_
      first | exact h1 (by omega) | exact h0 (by omega)
    · -- 10
      refine xj_iconst (pc2 := 11) dX7_within_10 rfl ?_
      refine xj_goto (tgt := 15) dX7_within_11 rfl ?_
      refine xj_zret dX7_within_15 rfl (by decide) ?_
      first | exact h1 (by omega) | exact h0 (by omega)
theorem c_X6_at {c n : Nat} {i v : Int} {h : Hp} {Q : Int → Hp → Prop} (hk : kd c = (1, n)) (hi : 0 ≤ i ∧ i < n) (hn : n ≤ 4096) (hv : h c i = v) (hq : Q v h) : CJ 0 kX6_at [.ref c, vi i] h Q := by
  refine cj_of (lo := [some (.ref c), some (vi i)]) mok_X6_at (fun _ => rfl) (fun _ => Nat.le_of_ble_eq_true rfl) ?_
  refine xj_aload_n (pc2 := 1) dX6_at_0 rfl rfl rfl ?_
  refine xj_ifnull (pc2 := 4) dX6_at_1 rfl ?_
  refine xj_iload_n (pc2 := 5) dX6_at_4 rfl rfl rfl ?_
  refine xj_if_lt (pc2 := 8) (tgt := 20) dX6_at_5 rfl rfl (by omega) (fun c_5 => by exfalso; omega) (fun c_5 => ?_)
  refine xj_iload_n (pc2 := 9) dX6_at_8 rfl rfl rfl ?_
  refine xj_aload_n (pc2 := 10) dX6_at_9 rfl rfl rfl ?_
  refine xj_alen (pc2 := 11) dX6_at_10 rfl hk rfl ?_
  refine xj_cmp_ge (pc2 := 14) (tgt := 20) dX6_at_11 rfl rfl (by omega) (by omega) (fun c_11 => by exfalso; omega) (fun c_11 => ?_)
  refine xj_aload_n (pc2 := 15) dX6_at_14 rfl rfl rfl ?_
  refine xj_iload_n (pc2 := 16) dX6_at_15 rfl rfl rfl ?_
  refine xj_iald (pc2 := 17) dX6_at_16 rfl hk (by omega) (by omega) hv ?_
  refine xj_goto (tgt := 21) dX6_at_17 rfl ?_
  refine xj_iret dX6_at_21 rfl ?_
  exact hq
theorem c_X6_put {c n : Nat} {i v : Int} {h : Hp} {Q : Int → Hp → Prop} (hk : kd c = (1, n)) (hi : 0 ≤ i ∧ i < n) (hn : n ≤ 4096) (hq : Q 0 (hset h c i v)) : CJ 0 kX6_put [.ref c, vi i, vi v] h Q := by
  refine cj_of (lo := [some (.ref c), some (vi i), some (vi v)]) mok_X6_put (fun _ => rfl) (fun _ => Nat.le_of_ble_eq_true rfl) ?_
  refine xj_aload_n (pc2 := 1) dX6_put_0 rfl rfl rfl ?_
  refine xj_ifnull (pc2 := 4) dX6_put_1 rfl ?_
  refine xj_iload_n (pc2 := 5) dX6_put_4 rfl rfl rfl ?_
  refine xj_if_lt (pc2 := 8) (tgt := 18) dX6_put_5 rfl rfl (by omega) (fun c_5 => by exfalso; omega) (fun c_5 => ?_)
  refine xj_iload_n (pc2 := 9) dX6_put_8 rfl rfl rfl ?_
  refine xj_aload_n (pc2 := 10) dX6_put_9 rfl rfl rfl ?_
  refine xj_alen (pc2 := 11) dX6_put_10 rfl hk rfl ?_
  refine xj_cmp_ge (pc2 := 14) (tgt := 18) dX6_put_11 rfl rfl (by omega) (by omega) (fun c_11 => by exfalso; omega) (fun c_11 => ?_)
  refine xj_aload_n (pc2 := 15) dX6_put_14 rfl rfl rfl ?_
  refine xj_iload_n (pc2 := 16) dX6_put_15 rfl rfl rfl ?_
  refine xj_iload_n (pc2 := 17) dX6_put_16 rfl rfl rfl ?_
  refine xj_iast (pc2 := 18) dX6_put_17 rfl hk (by omega) (by omega) ?_
  refine xj_vret dX6_put_18 rfl ?_
  exact hq
theorem c_X6_copyRow {c c2 n n2 : Nat} {h : Hp} {Q : Int → Hp → Prop} (hk : kd c = (1, n)) (hk2 : kd c2 = (1, n2)) (hn : n ≤ 4096) (hn2 : n2 ≤ 4096) (hq : Q 0 (hcopy h c c2 (min (n : Int) n2))) : CJ 0 kX6_copyRow [.ref c, .ref c2] h Q := by
  refine cj_of (lo := [some (.ref c), some (.ref c2)]) mok_X6_copyRow (fun _ => rfl) (fun _ => Nat.le_of_ble_eq_true rfl) ?_
  refine xj_aload_n (pc2 := 1) dX6_copyRow_0 rfl rfl rfl ?_
  refine xj_ifnull (pc2 := 4) dX6_copyRow_1 rfl ?_
  refine xj_aload_n (pc2 := 5) dX6_copyRow_4 rfl rfl rfl ?_
  refine xj_ifnull (pc2 := 8) dX6_copyRow_5 rfl ?_
  refine xj_aload_n (pc2 := 9) dX6_copyRow_8 rfl rfl rfl ?_
  refine xj_iconst (pc2 := 10) dX6_copyRow_9 rfl ?_
  refine xj_aload_n (pc2 := 11) dX6_copyRow_10 rfl rfl rfl ?_
  refine xj_iconst (pc2 := 12) dX6_copyRow_11 rfl ?_
  refine xj_aload_n (pc2 := 13) dX6_copyRow_12 rfl rfl rfl ?_
  refine xj_alen (pc2 := 14) dX6_copyRow_13 rfl hk rfl ?_
  refine xj_aload_n (pc2 := 15) dX6_copyRow_14 rfl rfl rfl ?_
  refine xj_alen (pc2 := 16) dX6_copyRow_15 rfl hk2 rfl ?_
  refine xj_mmin (pc2 := 19) ml_X6_281 dX6_copyRow_16 rfl rfl (by omega) (by omega) (Nat.le_of_ble_eq_true rfl) ?_
  refine xj_copy (pc2 := 22) ml_X6_286 dX6_copyRow_19 rfl rfl hk hk2 (by omega) rfl ?_
  refine xj_vret dX6_copyRow_22 rfl ?_
  exact hq
theorem c_X6_hasBit {b g : Int} {h : Hp} {Q : Int → Hp → Prop} (hb : 0 ≤ b ∧ b ≤ 2147483647) (hg : 0 ≤ g ∧ g ≤ 30) (h1 : mem b g → Q 1 h) (h0 : ¬ mem b g → Q 0 h) : CJ 0 kX6_hasBit [vi b, vi g] h Q := by
  have e := memb_test hb hg
  have e2 : 0 ≤ b / 2 ^ g.toNat % 2 ∧ b / 2 ^ g.toNat % 2 < 2 := ⟨Int.emod_nonneg _ (by decide), Int.emod_lt_of_pos _ (by decide)⟩
  unfold mem at h1 h0
  refine cj_of (lo := [some (vi b), some (vi g)]) mok_X6_hasBit (fun _ => rfl) (fun _ => Nat.le_of_ble_eq_true rfl) ?_
  refine xj_iload_n (pc2 := 1) dX6_hasBit_0 rfl rfl rfl ?_
  refine xj_iload_n (pc2 := 2) dX6_hasBit_1 rfl rfl rfl ?_
  refine xj_ishr (pc2 := 3) dX6_hasBit_2 rfl ?_
  refine xj_iconst (pc2 := 4) dX6_hasBit_3 rfl ?_
  refine xj_iand (pc2 := 5) dX6_hasBit_4 rfl ?_
  rw [e]
  refine xj_if_eq (pc2 := 8) (tgt := 12) dX6_hasBit_5 rfl rfl (by omega) (fun c_5 => ?_) (fun c_5 => ?_)
  · -- 12
    refine xj_iconst (pc2 := 13) dX6_hasBit_12 rfl ?_
    refine xj_zret dX6_hasBit_13 rfl (by decide) ?_
    first | exact h1 (by omega) | exact h0 (by omega)
  · -- 8
    refine xj_iconst (pc2 := 9) dX6_hasBit_8 rfl ?_
    refine xj_goto (tgt := 13) dX6_hasBit_9 rfl ?_
    refine xj_zret dX6_hasBit_13 rfl (by decide) ?_
    first | exact h1 (by omega) | exact h0 (by omega)
theorem c_X7_isIn {b g : Int} {h : Hp} {Q : Int → Hp → Prop} (hb : 0 ≤ b ∧ b ≤ 2147483647) (hg : 0 ≤ g ∧ g ≤ 30) (h1 : mem b g → Q 1 h) (h0 : ¬ mem b g → Q 0 h) : CJ 0 kX7_isIn [vi b, vi g] h Q := by
  have e := memb_test hb hg
  have e2 : 0 ≤ b / 2 ^ g.toNat % 2 ∧ b / 2 ^ g.toNat % 2 < 2 := ⟨Int.emod_nonneg _ (by decide), Int.emod_lt_of_pos _ (by decide)⟩
  unfold mem at h1 h0
  refine cj_of (lo := [some (vi b), some (vi g)]) mok_X7_isIn (fun _ => rfl) (fun _ => Nat.le_of_ble_eq_true rfl) ?_
  refine xj_iload_n (pc2 := 1) dX7_isIn_0 rfl rfl rfl ?_
  refine xj_iload_n (pc2 := 2) dX7_isIn_1 rfl rfl rfl ?_
  refine xj_ishr (pc2 := 3) dX7_isIn_2 rfl ?_
  refine xj_iconst (pc2 := 4) dX7_isIn_3 rfl ?_
  refine xj_iand (pc2 := 5) dX7_isIn_4 rfl ?_
  rw [e]
  refine xj_iconst (pc2 := 6) dX7_isIn_5 rfl ?_
  refine xj_cmp_ne (pc2 := 9) (tgt := 13) dX7_isIn_6 rfl rfl (by omega) (by omega) (fun c_6 => ?_) (fun c_6 => ?_)
  · -- 13
    refine xj_iconst (pc2 := 14) dX7_isIn_13 rfl ?_
    refine xj_zret dX7_isIn_14 rfl (by decide) ?_
    first | exact h1 (by omega) | exact h0 (by omega)
  · -- 9
    refine xj_iconst (pc2 := 10) dX7_isIn_9 rfl ?_
    refine xj_goto (tgt := 14) dX7_isIn_10 rfl ?_
    refine xj_zret dX7_isIn_14 rfl (by decide) ?_
    first | exact h1 (by omega) | exact h0 (by omega)
theorem c_X6_kindOf {a : Int} {h : Hp} {Q : Int → Hp → Prop} (ha : -2147483648 ≤ a ∧ a ≤ 2147483647) (hq : Q (kindz a) h) : CJ 0 kX6_kindOf [vi a] h Q := by
  refine cj_of (lo := [some (vi a)]) mok_X6_kindOf (fun _ => rfl) (fun _ => Nat.le_of_ble_eq_true rfl) ?_
  refine xj_iload_n (pc2 := 1) dX6_kindOf_0 rfl rfl rfl ?_
  refine tsw_X6_kindOf_1 (by omega) (fun c_1 => ?_) (fun c_1 => ?_) (fun c_1 => ?_) (fun c_1 => ?_) (fun c_1 => ?_) (fun c_1 => ?_) (fun c_1 => ?_) (fun c_1 => ?_) (fun c_1 => ?_) (fun c_1 => ?_) (fun c_1 => ?_) (fun c_1 => ?_) (fun c_1 => ?_)
  · -- 68
    refine xj_iconst (pc2 := 69) dX6_kindOf_68 rfl ?_
    refine xj_iret dX6_kindOf_69 rfl ?_
    exact q_eq (by unfold kindz; (repeat' split) <;> omega) hq
  · -- 74
    refine xj_iconst (pc2 := 75) dX6_kindOf_74 rfl ?_
    refine xj_iret dX6_kindOf_75 rfl ?_
    exact q_eq (by unfold kindz; (repeat' split) <;> omega) hq
  · -- 74
    refine xj_iconst (pc2 := 75) dX6_kindOf_74 rfl ?_
    refine xj_iret dX6_kindOf_75 rfl ?_
    exact q_eq (by unfold kindz; (repeat' split) <;> omega) hq
  · -- 64
    refine xj_iconst (pc2 := 65) dX6_kindOf_64 rfl ?_
    refine xj_iret dX6_kindOf_65 rfl ?_
    exact q_eq (by unfold kindz; (repeat' split) <;> omega) hq
  · -- 74
    refine xj_iconst (pc2 := 75) dX6_kindOf_74 rfl ?_
    refine xj_iret dX6_kindOf_75 rfl ?_
    exact q_eq (by unfold kindz; (repeat' split) <;> omega) hq
  · -- 74
    refine xj_iconst (pc2 := 75) dX6_kindOf_74 rfl ?_
    refine xj_iret dX6_kindOf_75 rfl ?_
    exact q_eq (by unfold kindz; (repeat' split) <;> omega) hq
  · -- 74
    refine xj_iconst (pc2 := 75) dX6_kindOf_74 rfl ?_
    refine xj_iret dX6_kindOf_75 rfl ?_
    exact q_eq (by unfold kindz; (repeat' split) <;> omega) hq
  · -- 66
    refine xj_iconst (pc2 := 67) dX6_kindOf_66 rfl ?_
    refine xj_iret dX6_kindOf_67 rfl ?_
    exact q_eq (by unfold kindz; (repeat' split) <;> omega) hq
  · -- 72
    refine xj_iconst (pc2 := 73) dX6_kindOf_72 rfl ?_
    refine xj_iret dX6_kindOf_73 rfl ?_
    exact q_eq (by unfold kindz; (repeat' split) <;> omega) hq
  · -- 74
    refine xj_iconst (pc2 := 75) dX6_kindOf_74 rfl ?_
    refine xj_iret dX6_kindOf_75 rfl ?_
    exact q_eq (by unfold kindz; (repeat' split) <;> omega) hq
  · -- 74
    refine xj_iconst (pc2 := 75) dX6_kindOf_74 rfl ?_
    refine xj_iret dX6_kindOf_75 rfl ?_
    exact q_eq (by unfold kindz; (repeat' split) <;> omega) hq
  · -- 70
    refine xj_iconst (pc2 := 71) dX6_kindOf_70 rfl ?_
    refine xj_iret dX6_kindOf_71 rfl ?_
    exact q_eq (by unfold kindz; (repeat' split) <;> omega) hq
  · -- 74
    refine xj_iconst (pc2 := 75) dX6_kindOf_74 rfl ?_
    refine xj_iret dX6_kindOf_75 rfl ?_
    exact q_eq (by unfold kindz; (repeat' split) <;> omega) hq
theorem c_X7_kindBy {a : Int} {h : Hp} {Q : Int → Hp → Prop} (ha : -2147483648 ≤ a ∧ a ≤ 2147483647) (hq : Q (kindz a) h) : CJ 0 kX7_kindBy [vi a] h Q := by
  refine cj_of (lo := [some (vi a)]) mok_X7_kindBy (fun _ => rfl) (fun _ => Nat.le_of_ble_eq_true rfl) ?_
  refine xj_iload_n (pc2 := 1) dX7_kindBy_0 rfl rfl rfl ?_
  refine tsw_X7_kindBy_1 (by omega) (fun c_1 => ?_) (fun c_1 => ?_) (fun c_1 => ?_) (fun c_1 => ?_) (fun c_1 => ?_) (fun c_1 => ?_) (fun c_1 => ?_) (fun c_1 => ?_) (fun c_1 => ?_) (fun c_1 => ?_) (fun c_1 => ?_) (fun c_1 => ?_) (fun c_1 => ?_)
  · -- 68
    refine xj_iconst (pc2 := 69) dX7_kindBy_68 rfl ?_
    refine xj_iret dX7_kindBy_69 rfl ?_
    exact q_eq (by unfold kindz; (repeat' split) <;> omega) hq
  · -- 74
    refine xj_iconst (pc2 := 75) dX7_kindBy_74 rfl ?_
    refine xj_iret dX7_kindBy_75 rfl ?_
    exact q_eq (by unfold kindz; (repeat' split) <;> omega) hq
  · -- 74
    refine xj_iconst (pc2 := 75) dX7_kindBy_74 rfl ?_
    refine xj_iret dX7_kindBy_75 rfl ?_
    exact q_eq (by unfold kindz; (repeat' split) <;> omega) hq
  · -- 64
    refine xj_iconst (pc2 := 65) dX7_kindBy_64 rfl ?_
    refine xj_iret dX7_kindBy_65 rfl ?_
    exact q_eq (by unfold kindz; (repeat' split) <;> omega) hq
  · -- 74
    refine xj_iconst (pc2 := 75) dX7_kindBy_74 rfl ?_
    refine xj_iret dX7_kindBy_75 rfl ?_
    exact q_eq (by unfold kindz; (repeat' split) <;> omega) hq
  · -- 74
    refine xj_iconst (pc2 := 75) dX7_kindBy_74 rfl ?_
    refine xj_iret dX7_kindBy_75 rfl ?_
    exact q_eq (by unfold kindz; (repeat' split) <;> omega) hq
  · -- 74
    refine xj_iconst (pc2 := 75) dX7_kindBy_74 rfl ?_
    refine xj_iret dX7_kindBy_75 rfl ?_
    exact q_eq (by unfold kindz; (repeat' split) <;> omega) hq
  · -- 66
    refine xj_iconst (pc2 := 67) dX7_kindBy_66 rfl ?_
    refine xj_iret dX7_kindBy_67 rfl ?_
    exact q_eq (by unfold kindz; (repeat' split) <;> omega) hq
  · -- 72
    refine xj_iconst (pc2 := 73) dX7_kindBy_72 rfl ?_
    refine xj_iret dX7_kindBy_73 rfl ?_
    exact q_eq (by unfold kindz; (repeat' split) <;> omega) hq
  · -- 74
    refine xj_iconst (pc2 := 75) dX7_kindBy_74 rfl ?_
    refine xj_iret dX7_kindBy_75 rfl ?_
    exact q_eq (by unfold kindz; (repeat' split) <;> omega) hq
  · -- 74
    refine xj_iconst (pc2 := 75) dX7_kindBy_74 rfl ?_
    refine xj_iret dX7_kindBy_75 rfl ?_
    exact q_eq (by unfold kindz; (repeat' split) <;> omega) hq
  · -- 70
    refine xj_iconst (pc2 := 71) dX7_kindBy_70 rfl ?_
    refine xj_iret dX7_kindBy_71 rfl ?_
    exact q_eq (by unfold kindz; (repeat' split) <;> omega) hq
  · -- 74
    refine xj_iconst (pc2 := 75) dX7_kindBy_74 rfl ?_
    refine xj_iret dX7_kindBy_75 rfl ?_
    exact q_eq (by unfold kindz; (repeat' split) <;> omega) hq
theorem c_X6_isOfKind {a b : Int} {h : Hp} {Q : Int → Hp → Prop} (ha : -2147483648 ≤ a ∧ a ≤ 2147483647) (hb : -2147483648 ≤ b ∧ b ≤ 2147483647) (h1 : b = 0 ∨ a = b ∨ (b = 1 ∧ a = 4) → Q 1 h) (h0 : ¬ (b = 0 ∨ a = b ∨ (b = 1 ∧ a = 4)) → Q 0 h) : CJ 0 kX6_isOfKind [vi a, vi b] h Q := by
  refine cj_of (lo := [some (vi a), some (vi b)]) mok_X6_isOfKind (fun _ => rfl) (fun _ => Nat.le_of_ble_eq_true rfl) ?_
  refine xj_iload_n (pc2 := 1) dX6_isOfKind_0 rfl rfl rfl ?_
  refine xj_if_eq (pc2 := 4) (tgt := 19) dX6_isOfKind_1 rfl rfl (by omega) (fun c_1 => ?_) (fun c_1 => ?_)
  · -- 19
    refine xj_iconst (pc2 := 20) dX6_isOfKind_19 rfl ?_
    refine xj_goto (tgt := 24) dX6_isOfKind_20 rfl ?_
    refine xj_zret dX6_isOfKind_24 rfl (by decide) ?_
    first | exact h1 (by omega) | exact h0 (by omega)
  · -- 4
    refine xj_iload_n (pc2 := 5) dX6_isOfKind_4 rfl rfl rfl ?_
    refine xj_iload_n (pc2 := 6) dX6_isOfKind_5 rfl rfl rfl ?_
    refine xj_cmp_eq (pc2 := 9) (tgt := 19) dX6_isOfKind_6 rfl rfl (by omega) (by omega) (fun c_6 => ?_) (fun c_6 => ?_)
    · -- 19
      refine xj_iconst (pc2 := 20) dX6_isOfKind_19 rfl ?_
      refine xj_goto (tgt := 24) dX6_isOfKind_20 rfl ?_
      refine xj_zret dX6_isOfKind_24 rfl (by decide) ?_
      first | exact h1 (by omega) | exact h0 (by omega)
    · -- 9
      refine xj_iload_n (pc2 := 10) dX6_isOfKind_9 rfl rfl rfl ?_
      refine xj_iconst (pc2 := 11) dX6_isOfKind_10 rfl ?_
      refine xj_cmp_ne (pc2 := 14) (tgt := 23) dX6_isOfKind_11 rfl rfl (by omega) (by omega) (fun c_11 => ?_) (fun c_11 => ?_)
      · -- 23
        refine xj_iconst (pc2 := 24) dX6_isOfKind_23 rfl ?_
        refine xj_zret dX6_isOfKind_24 rfl (by decide) ?_
        first | exact h1 (by omega) | exact h0 (by omega)
      · -- 14
        refine xj_iload_n (pc2 := 15) dX6_isOfKind_14 rfl rfl rfl ?_
        refine xj_iconst (pc2 := 16) dX6_isOfKind_15 rfl ?_
        refine xj_cmp_ne (pc2 := 19) (tgt := 23) dX6_isOfKind_16 rfl rfl (by omega) (by omega) (fun c_16 => ?_) (fun c_16 => ?_)
        · -- 23
          refine xj_iconst (pc2 := 24) dX6_isOfKind_23 rfl ?_
          refine xj_zret dX6_isOfKind_24 rfl (by decide) ?_
          first | exact h1 (by omega) | exact h0 (by omega)
        · -- 19
          refine xj_iconst (pc2 := 20) dX6_isOfKind_19 rfl ?_
          refine xj_goto (tgt := 24) dX6_isOfKind_20 rfl ?_
          refine xj_zret dX6_isOfKind_24 rfl (by decide) ?_
          first | exact h1 (by omega) | exact h0 (by omega)
theorem c_X6_ageOf {a : Int} {h : Hp} {Q : Int → Hp → Prop} (ha : -2147483648 ≤ a ∧ a ≤ 2147483647) (hq : Q (agez a) h) : CJ 0 kX6_ageOf [vi a] h Q := by
  refine cj_of (lo := [some (vi a)]) mok_X6_ageOf (fun _ => rfl) (fun _ => Nat.le_of_ble_eq_true rfl) ?_
  refine xj_iload_n (pc2 := 1) dX6_ageOf_0 rfl rfl rfl ?_
  refine xj_bipush (pc2 := 3) dX6_ageOf_1 rfl (by decide) ?_
  refine xj_cmp_ge (pc2 := 6) (tgt := 10) dX6_ageOf_3 rfl rfl (by omega) (by omega) (fun c_3 => ?_) (fun c_3 => ?_)
  · -- 10
    refine xj_bipush (pc2 := 12) dX6_ageOf_10 rfl (by decide) ?_
    refine xj_iret dX6_ageOf_12 rfl ?_
    exact q_eq (by unfold agez; split <;> omega) hq
  · -- 6
    refine xj_iload_n (pc2 := 7) dX6_ageOf_6 rfl rfl rfl ?_
    refine xj_goto (tgt := 12) dX6_ageOf_7 rfl ?_
    refine xj_iret dX6_ageOf_12 rfl ?_
    exact q_eq (by unfold agez; split <;> omega) hq
theorem c_X6_temperOf {k m a : Int} {h : Hp} {Q : Int → Hp → Prop} (hk : 0 ≤ k ∧ k ≤ 4) (hm : 0 ≤ m ∧ m ≤ 9) (ha : 0 ≤ a ∧ a ≤ 20) (hq : Q (temperZ k m a) h) : CJ 0 kX6_temperOf [vi k, vi m, vi a] h Q := by
  refine cj_of (lo := [some (vi k), some (vi m), some (vi a)]) mok_X6_temperOf (fun _ => rfl) (fun _ => Nat.le_of_ble_eq_true rfl) ?_
  refine xj_iload_n (pc2 := 1) dX6_temperOf_0 rfl rfl rfl ?_
  refine tsw_X6_temperOf_1 (by omega) (fun c_1 => ?_) (fun c_1 => ?_) (fun c_1 => ?_) (fun c_1 => ?_) (fun c_1 => ?_)
  · -- 32
    refine xj_iload_n (pc2 := 33) dX6_temperOf_32 rfl rfl rfl ?_
    refine xj_iload_n (pc2 := 34) dX6_temperOf_33 rfl rfl rfl ?_
    refine xj_iadd (pc2 := 35) dX6_temperOf_34 rfl ?_
    refine xj_bipush (pc2 := 37) dX6_temperOf_35 rfl (by decide) ?_
    refine xj_cmp_ge (pc2 := 40) (tgt := 46) dX6_temperOf_37 rfl rfl (by omega) (by omega) (fun c_37 => ?_) (fun c_37 => ?_)
    · -- 46
      refine xj_bipush (pc2 := 48) dX6_temperOf_46 rfl (by decide) ?_
      refine xj_iret dX6_temperOf_48 rfl ?_
      exact q_eq (by unfold temperZ; (repeat' split) <;> omega) hq
    · -- 40
      refine xj_iload_n (pc2 := 41) dX6_temperOf_40 rfl rfl rfl ?_
      refine xj_iload_n (pc2 := 42) dX6_temperOf_41 rfl rfl rfl ?_
      refine xj_iadd (pc2 := 43) dX6_temperOf_42 rfl ?_
      refine xj_goto (tgt := 48) dX6_temperOf_43 rfl ?_
      refine xj_iret dX6_temperOf_48 rfl ?_
      exact q_eq (by unfold temperZ; (repeat' split) <;> omega) hq
  · -- 70
    refine xj_iload_n (pc2 := 71) dX6_temperOf_70 rfl rfl rfl ?_
    refine xj_iconst (pc2 := 72) dX6_temperOf_71 rfl ?_
    refine xj_irem (pc2 := 73) dX6_temperOf_72 rfl (by omega) (by omega) ?_
    refine xj_if_eq (pc2 := 76) (tgt := 80) dX6_temperOf_73 rfl rfl (by omega) (fun c_73 => ?_) (fun c_73 => ?_)
    · -- 80
      refine xj_iconst (pc2 := 81) dX6_temperOf_80 rfl ?_
      refine xj_iret dX6_temperOf_81 rfl ?_
      exact q_eq (by unfold temperZ; (repeat' split) <;> omega) hq
    · -- 76
      refine xj_iload_n (pc2 := 77) dX6_temperOf_76 rfl rfl rfl ?_
      refine xj_goto (tgt := 81) dX6_temperOf_77 rfl ?_
      refine xj_iret dX6_temperOf_81 rfl ?_
      exact q_eq (by unfold temperZ; (repeat' split) <;> omega) hq
  · -- 82
    refine xj_iload_n (pc2 := 83) dX6_temperOf_82 rfl rfl rfl ?_
    refine xj_iload_n (pc2 := 84) dX6_temperOf_83 rfl rfl rfl ?_
    refine xj_cmp_le (pc2 := 87) (tgt := 93) dX6_temperOf_84 rfl rfl (by omega) (by omega) (fun c_84 => ?_) (fun c_84 => ?_)
    · -- 93
      refine xj_iconst (pc2 := 94) dX6_temperOf_93 rfl ?_
      refine xj_iret dX6_temperOf_94 rfl ?_
      exact q_eq (by unfold temperZ; (repeat' split) <;> omega) hq
    · -- 87
      refine xj_iload_n (pc2 := 88) dX6_temperOf_87 rfl rfl rfl ?_
      refine xj_iload_n (pc2 := 89) dX6_temperOf_88 rfl rfl rfl ?_
      refine xj_isub (pc2 := 90) dX6_temperOf_89 rfl ?_
      refine xj_goto (tgt := 94) dX6_temperOf_90 rfl ?_
      refine xj_iret dX6_temperOf_94 rfl ?_
      exact q_eq (by unfold temperZ; (repeat' split) <;> omega) hq
  · -- 49
    refine xj_iload_n (pc2 := 50) dX6_temperOf_49 rfl rfl rfl ?_
    refine xj_iconst (pc2 := 51) dX6_temperOf_50 rfl ?_
    refine xj_iload_n (pc2 := 52) dX6_temperOf_51 rfl rfl rfl ?_
    refine xj_imul (pc2 := 53) dX6_temperOf_52 rfl ?_
    refine xj_iadd (pc2 := 54) dX6_temperOf_53 rfl ?_
    refine xj_bipush (pc2 := 56) dX6_temperOf_54 rfl (by decide) ?_
    refine xj_cmp_ge (pc2 := 59) (tgt := 67) dX6_temperOf_56 rfl rfl (by omega) (by omega) (fun c_56 => ?_) (fun c_56 => ?_)
    · -- 67
      refine xj_bipush (pc2 := 69) dX6_temperOf_67 rfl (by decide) ?_
      refine xj_iret dX6_temperOf_69 rfl ?_
      exact q_eq (by unfold temperZ; (repeat' split) <;> omega) hq
    · -- 59
      refine xj_iload_n (pc2 := 60) dX6_temperOf_59 rfl rfl rfl ?_
      refine xj_iconst (pc2 := 61) dX6_temperOf_60 rfl ?_
      refine xj_iload_n (pc2 := 62) dX6_temperOf_61 rfl rfl rfl ?_
      refine xj_imul (pc2 := 63) dX6_temperOf_62 rfl ?_
      refine xj_iadd (pc2 := 64) dX6_temperOf_63 rfl ?_
      refine xj_goto (tgt := 69) dX6_temperOf_64 rfl ?_
      refine xj_iret dX6_temperOf_69 rfl ?_
      exact q_eq (by unfold temperZ; (repeat' split) <;> omega) hq
  · -- 95
    refine xj_iload_n (pc2 := 96) dX6_temperOf_95 rfl rfl rfl ?_
    refine xj_iret dX6_temperOf_96 rfl ?_
    exact q_eq (by unfold temperZ; (repeat' split) <;> omega) hq
theorem c_X6_doing {a : Int} {h : Hp} {Q : Int → Hp → Prop} (ha : -2147483648 ≤ a ∧ a ≤ 2147483647) (hq : Q (doz a) h) : CJ 0 kX6_doing [vi a] h Q := by
  refine cj_of (lo := [some (vi a)]) mok_X6_doing (fun _ => rfl) (fun _ => Nat.le_of_ble_eq_true rfl) ?_
  refine xj_iload_n (pc2 := 1) dX6_doing_0 rfl rfl rfl ?_
  refine xj_bipush (pc2 := 3) dX6_doing_1 rfl (by decide) ?_
  refine xj_cmp_gt (pc2 := 6) (tgt := 8) dX6_doing_3 rfl rfl (by omega) (by omega) (fun c_3 => ?_) (fun c_3 => ?_)
  · -- 8
    refine xj_iload_n (pc2 := 9) dX6_doing_8 rfl rfl rfl ?_
    refine xj_bipush (pc2 := 11) dX6_doing_9 rfl (by decide) ?_
    refine xj_cmp_lt (pc2 := 14) (tgt := 18) dX6_doing_11 rfl rfl (by omega) (by omega) (fun c_11 => ?_) (fun c_11 => ?_)
    · -- 18
      refine xj_iconst (pc2 := 19) dX6_doing_18 rfl ?_
      refine xj_iret dX6_doing_19 rfl ?_
      exact q_eq (by unfold doz; (repeat' split) <;> omega) hq
    · -- 14
      refine xj_iconst (pc2 := 15) dX6_doing_14 rfl ?_
      refine xj_goto (tgt := 19) dX6_doing_15 rfl ?_
      refine xj_iret dX6_doing_19 rfl ?_
      exact q_eq (by unfold doz; (repeat' split) <;> omega) hq
  · -- 6
    refine xj_iconst (pc2 := 7) dX6_doing_6 rfl ?_
    refine xj_iret dX6_doing_7 rfl ?_
    exact q_eq (by unfold doz; (repeat' split) <;> omega) hq
theorem c_X7_doesBy {a : Int} {h : Hp} {Q : Int → Hp → Prop} (ha : -2147483648 ≤ a ∧ a ≤ 2147483647) (hq : Q (doz a) h) : CJ 0 kX7_doesBy [vi a] h Q := by
  refine cj_of (lo := [some (vi a)]) mok_X7_doesBy (fun _ => rfl) (fun _ => Nat.le_of_ble_eq_true rfl) ?_
  refine xj_iload_n (pc2 := 1) dX7_doesBy_0 rfl rfl rfl ?_
  refine xj_bipush (pc2 := 3) dX7_doesBy_1 rfl (by decide) ?_
  refine xj_cmp_gt (pc2 := 6) (tgt := 10) dX7_doesBy_3 rfl rfl (by omega) (by omega) (fun c_3 => ?_) (fun c_3 => ?_)
  · -- 10
    refine xj_iload_n (pc2 := 11) dX7_doesBy_10 rfl rfl rfl ?_
    refine xj_bipush (pc2 := 13) dX7_doesBy_11 rfl (by decide) ?_
    refine xj_cmp_lt (pc2 := 16) (tgt := 20) dX7_doesBy_13 rfl rfl (by omega) (by omega) (fun c_13 => ?_) (fun c_13 => ?_)
    · -- 20
      refine xj_iconst (pc2 := 21) dX7_doesBy_20 rfl ?_
      refine xj_iret dX7_doesBy_21 rfl ?_
      exact q_eq (by unfold doz; (repeat' split) <;> omega) hq
    · -- 16
      refine xj_iconst (pc2 := 17) dX7_doesBy_16 rfl ?_
      refine xj_goto (tgt := 21) dX7_doesBy_17 rfl ?_
      refine xj_iret dX7_doesBy_21 rfl ?_
      exact q_eq (by unfold doz; (repeat' split) <;> omega) hq
  · -- 6
    refine xj_iconst (pc2 := 7) dX7_doesBy_6 rfl ?_
    refine xj_goto (tgt := 21) dX7_doesBy_7 rfl ?_
    refine xj_iret dX7_doesBy_21 rfl ?_
    exact q_eq (by unfold doz; (repeat' split) <;> omega) hq
theorem c_X6_asksOfGlove {a : Int} {h : Hp} {Q : Int → Hp → Prop} (ha : -2147483648 ≤ a ∧ a ≤ 2147483647) (h1 : 10 ≤ a ∧ a ≤ 15 → Q 1 h) (h0 : ¬ (10 ≤ a ∧ a ≤ 15) → Q 0 h) : CJ 1 kX6_asksOfGlove [vi a] h Q := by
  refine cj_of (lo := [some (vi a)]) mok_X6_asksOfGlove (fun _ => rfl) (fun _ => Nat.le_of_ble_eq_true rfl) ?_
  refine xj_iload_n (pc2 := 1) dX6_asksOfGlove_0 rfl rfl rfl ?_
  refine xj_bipush (pc2 := 3) dX6_asksOfGlove_1 rfl (by decide) ?_
  refine xj_bipush (pc2 := 5) dX6_asksOfGlove_3 rfl (by decide) ?_
  refine xj_S3I (pc2 := 8) (d2 := 0) mok_X6_within ml_X6_57 sta_yX6_within dX6_asksOfGlove_5 rfl rfl (by decide) (by decide) (Nat.le_of_ble_eq_true rfl) (fun _ => rfl) ?_
  refine c_X6_within (by omega) (by omega) (by omega) ?_ ?_
  · -- X6_within = 1
    intro c_5
    refine xj_zret dX6_asksOfGlove_8 rfl (by decide) ?_
    first | exact h1 (by omega) | exact h0 (by omega)
  · -- X6_within = 0
    intro c_5
    refine xj_zret dX6_asksOfGlove_8 rfl (by decide) ?_
    first | exact h1 (by omega) | exact h0 (by omega)
theorem c_X6_hasShop {n : Int} {h : Hp} {Q : Int → Hp → Prop} (hn : h 2 11 = n) (hr : -2147483648 ≤ n ∧ n ≤ 2147483647) (h1 : 0 < n → Q 1 h) (h0 : ¬ (0 < n) → Q 0 h) : CJ 0 kX6_hasShop [.ref 0] h Q := by
  refine cj_of (lo := [some (.ref 0)]) mok_X6_hasShop (fun _ => rfl) (fun _ => Nat.le_of_ble_eq_true rfl) ?_
  refine xj_aload_n (pc2 := 1) dX6_hasShop_0 rfl rfl rfl ?_
  refine xj_getRn (pc2 := 4) (c2 := 2) fok_X6_19 dX6_hasShop_1 rfl rfl rfl rfl rfl ?_
  refine xj_getI (pc2 := 7) (kz := 11) fok_X6_88 dX6_hasShop_4 rfl rfl rfl (by decide) rfl (by first | assumption | rfl) ?_
  refine xj_if_le (pc2 := 10) (tgt := 14) dX6_hasShop_7 rfl rfl (by omega) (fun c_7 => ?_) (fun c_7 => ?_)
  · -- 14
    refine xj_iconst (pc2 := 15) dX6_hasShop_14 rfl ?_
    refine xj_zret dX6_hasShop_15 rfl (by decide) ?_
    first | exact h1 (by omega) | exact h0 (by omega)
  · -- 10
    refine xj_iconst (pc2 := 11) dX6_hasShop_10 rfl ?_
    refine xj_goto (tgt := 15) dX6_hasShop_11 rfl ?_
    refine xj_zret dX6_hasShop_15 rfl (by decide) ?_
    first | exact h1 (by omega) | exact h0 (by omega)
theorem c_bitCount {a : Int} {h : Hp} {Q : Int → Hp → Prop} (ha : 0 ≤ a ∧ a < 1024) (hq : Q (pc a) h) : CJ 0 kJ6_bitCount_0f7a4 [vi a] h Q := by
  refine cj_of (lo := [some (vi a)]) mok_J6_bitCount_0f7a4 (fun _ => rfl) (fun _ => Nat.le_of_ble_eq_true rfl) ?_
  refine xj_iload_n (pc2 := 1) dJ6_bitCount_0f7a4_0 rfl rfl rfl ?_
  refine xj_iload_n (pc2 := 2) dJ6_bitCount_0f7a4_1 rfl rfl rfl ?_
  refine xj_iconst (pc2 := 3) dJ6_bitCount_0f7a4_2 rfl ?_
  refine xj_iushr (pc2 := 4) dJ6_bitCount_0f7a4_3 rfl ?_
  refine xj_ldcw (pc2 := 7) (n := 1431655765) dJ6_bitCount_0f7a4_4 rfl k_J6_265 rfl ?_
  refine xj_iand (pc2 := 8) dJ6_bitCount_0f7a4_7 rfl ?_
  refine xj_isub (pc2 := 9) dJ6_bitCount_0f7a4_8 rfl ?_
  refine xj_istore0 (pc2 := 10) dJ6_bitCount_0f7a4_9 rfl rfl (by decide) rfl ?_
  refine xj_iload_n (pc2 := 11) dJ6_bitCount_0f7a4_10 rfl rfl rfl ?_
  refine xj_ldcw (pc2 := 14) (n := 858993459) dJ6_bitCount_0f7a4_11 rfl k_J6_266 rfl ?_
  refine xj_iand (pc2 := 15) dJ6_bitCount_0f7a4_14 rfl ?_
  refine xj_iload_n (pc2 := 16) dJ6_bitCount_0f7a4_15 rfl rfl rfl ?_
  refine xj_iconst (pc2 := 17) dJ6_bitCount_0f7a4_16 rfl ?_
  refine xj_iushr (pc2 := 18) dJ6_bitCount_0f7a4_17 rfl ?_
  refine xj_ldcw (pc2 := 21) (n := 858993459) dJ6_bitCount_0f7a4_18 rfl k_J6_266 rfl ?_
  refine xj_iand (pc2 := 22) dJ6_bitCount_0f7a4_21 rfl ?_
  refine xj_iadd (pc2 := 23) dJ6_bitCount_0f7a4_22 rfl ?_
  refine xj_istore0 (pc2 := 24) dJ6_bitCount_0f7a4_23 rfl rfl (by decide) rfl ?_
  refine xj_iload_n (pc2 := 25) dJ6_bitCount_0f7a4_24 rfl rfl rfl ?_
  refine xj_iload_n (pc2 := 26) dJ6_bitCount_0f7a4_25 rfl rfl rfl ?_
  refine xj_iconst (pc2 := 27) dJ6_bitCount_0f7a4_26 rfl ?_
  refine xj_iushr (pc2 := 28) dJ6_bitCount_0f7a4_27 rfl ?_
  refine xj_iadd (pc2 := 29) dJ6_bitCount_0f7a4_28 rfl ?_
  refine xj_ldcw (pc2 := 32) (n := 252645135) dJ6_bitCount_0f7a4_29 rfl k_J6_267 rfl ?_
  refine xj_iand (pc2 := 33) dJ6_bitCount_0f7a4_32 rfl ?_
  refine xj_istore0 (pc2 := 34) dJ6_bitCount_0f7a4_33 rfl rfl (by decide) rfl ?_
  refine xj_iload_n (pc2 := 35) dJ6_bitCount_0f7a4_34 rfl rfl rfl ?_
  refine xj_iload_n (pc2 := 36) dJ6_bitCount_0f7a4_35 rfl rfl rfl ?_
  refine xj_bipush (pc2 := 38) dJ6_bitCount_0f7a4_36 rfl (by decide) ?_
  refine xj_iushr (pc2 := 39) dJ6_bitCount_0f7a4_38 rfl ?_
  refine xj_iadd (pc2 := 40) dJ6_bitCount_0f7a4_39 rfl ?_
  refine xj_istore0 (pc2 := 41) dJ6_bitCount_0f7a4_40 rfl rfl (by decide) rfl ?_
  refine xj_iload_n (pc2 := 42) dJ6_bitCount_0f7a4_41 rfl rfl rfl ?_
  refine xj_iload_n (pc2 := 43) dJ6_bitCount_0f7a4_42 rfl rfl rfl ?_
  refine xj_bipush (pc2 := 45) dJ6_bitCount_0f7a4_43 rfl (by decide) ?_
  refine xj_iushr (pc2 := 46) dJ6_bitCount_0f7a4_45 rfl ?_
  refine xj_iadd (pc2 := 47) dJ6_bitCount_0f7a4_46 rfl ?_
  refine xj_istore0 (pc2 := 48) dJ6_bitCount_0f7a4_47 rfl rfl (by decide) rfl ?_
  refine xj_iload_n (pc2 := 49) dJ6_bitCount_0f7a4_48 rfl rfl rfl ?_
  refine xj_bipush (pc2 := 51) dJ6_bitCount_0f7a4_49 rfl (by decide) ?_
  refine xj_iand (pc2 := 52) dJ6_bitCount_0f7a4_51 rfl ?_
  refine xj_iret dJ6_bitCount_0f7a4_52 rfl ?_
  exact q_eq (pop_ok ha) hq
end
section
/-! a shop of the class at a cell; the loops' rule; the plain methods of Shop -/
theorem down {P : Nat → Prop} {n : Nat} (hx : P n) (hs : ∀ j, j < n → P (j + 1) → P j) : P 0 := by
  have key : ∀ k, k ≤ n → P (n - k) := by
    intro k
    induction k with
    | zero => intro _; exact hx
    | succ k ih =>
      intro hk
      have h1 := ih (by omega)
      refine hs (n - (k + 1)) (by omega) ?_
      rw [show n - (k + 1) + 1 = n - k by omega]
      exact h1
  have := key n (Nat.le_refl n)
  rwa [Nat.sub_self] at this
def Shb (b : Nat) : Prop := b = 2 ∨ b = 3 ∨ b = 4
theorem ks {b : Nat} (hb : Shb b) : kd b = (0, 5) := by rcases hb with rfl | rfl | rfl <;> rfl
theorem ks0 {b : Nat} (hb : Shb b) : kd (ch b 0) = (1, 6) := by rcases hb with rfl | rfl | rfl <;> rfl
theorem ks1 {b : Nat} (hb : Shb b) : kd (ch b 1) = (1, 6) := by rcases hb with rfl | rfl | rfl <;> rfl
theorem ks2 {b : Nat} (hb : Shb b) : kd (ch b 2) = (1, 6) := by rcases hb with rfl | rfl | rfl <;> rfl
theorem ks3 {b : Nat} (hb : Shb b) : kd (ch b 3) = (1, 6) := by rcases hb with rfl | rfl | rfl <;> rfl
theorem ks4 {b : Nat} (hb : Shb b) : kd (ch b 4) = (1, 6) := by rcases hb with rfl | rfl | rfl <;> rfl
theorem ks5 {b : Nat} (hb : Shb b) : kd (ch b 5) = (1, 3) := by rcases hb with rfl | rfl | rfl <;> rfl
theorem ks6 {b : Nat} (hb : Shb b) : kd (ch b 6) = (1, 3) := by rcases hb with rfl | rfl | rfl <;> rfl
theorem ks7 {b : Nat} (hb : Shb b) : kd (ch b 7) = (1, 8) := by rcases hb with rfl | rfl | rfl <;> rfl
theorem ks8 {b : Nat} (hb : Shb b) : kd (ch b 8) = (1, 8) := by rcases hb with rfl | rfl | rfl <;> rfl
theorem ks9 {b : Nat} (hb : Shb b) : kd (ch b 9) = (1, 8) := by rcases hb with rfl | rfl | rfl <;> rfl
theorem ks10 {b : Nat} (hb : Shb b) : kd (ch b 10) = (1, 10) := by rcases hb with rfl | rfl | rfl <;> rfl
def hold (x : Int) : Int := if x < 0 then -1 else x / 2
def side (x : Int) : Int := if x < 0 then -1 else x % 2
def RC (b : Nat) (S : Sh) (h : Hp) : Prop := (h b 11 = S 6 0 ∧ h b 12 = S 6 1 ∧ h b 13 = S 6 2 ∧ h b 14 = S 6 3) ∧ (∀ g, 0 ≤ g → g < S 6 0 → h (ch b 0) g = S 0 g ∧ h (ch b 1) g = S 1 g ∧ h (ch b 2) g = S 2 g ∧ h (ch b 3) g = hold (S 3 g) ∧ h (ch b 4) g = side (S 3 g)) ∧ (∀ w, 0 ≤ w → w < S 6 1 → h (ch b 5) w = S 4 w ∧ h (ch b 6) w = S 5 w) ∧ (∀ i, 0 ≤ i → i < S 6 3 → h (ch b 7) i = S 7 i ∧ h (ch b 8) i = S 8 i ∧ h (ch b 9) i = S 9 i)
def WF (S : Sh) : Prop := ((S 6 0 = 0 ∧ S 6 1 = 0) ∨ (2 ≤ S 6 0 ∧ S 6 0 ≤ 6 ∧ 1 ≤ S 6 1 ∧ S 6 1 ≤ 3)) ∧ 0 ≤ S 6 2 ∧ (0 ≤ S 6 3 ∧ S 6 3 ≤ 8) ∧ (∀ g, 0 ≤ g → g < S 6 0 → (0 ≤ S 0 g ∧ S 0 g ≤ 4) ∧ (0 ≤ S 1 g ∧ S 1 g ≤ 9) ∧ (0 ≤ S 2 g ∧ S 2 g ≤ 20) ∧ (-1 ≤ S 3 g ∧ S 3 g < 2 * S 6 1)) ∧ (∀ w, 0 ≤ w → w < S 6 1 → (0 ≤ S 4 w ∧ S 4 w ≤ 9) ∧ (0 ≤ S 5 w ∧ S 5 w ≤ 2)) ∧ (∀ i, 0 ≤ i → i < S 6 3 → (0 ≤ S 7 i ∧ S 7 i < S 6 0) ∧ (0 ≤ S 8 i ∧ S 8 i ≤ 9) ∧ (0 ≤ S 9 i ∧ S 9 i ≤ 9)) ∧ (∀ g g', 0 ≤ g → g < S 6 0 → 0 ≤ g' → g' < S 6 0 → S 3 g = S 3 g' → S 3 g ≠ -1 → g = g')
theorem wf_n {S : Sh} (hW : WF S) : (0 ≤ S 6 0 ∧ S 6 0 ≤ 6) ∧ (0 ≤ S 6 1 ∧ S 6 1 ≤ 3) ∧ 0 ≤ S 6 2 ∧ (0 ≤ S 6 3 ∧ S 6 3 ≤ 8) := ⟨by rcases hW.1 with h | h <;> omega, by rcases hW.1 with h | h <;> omega, hW.2.1, hW.2.2.1⟩
theorem wf_g {S : Sh} (hW : WF S) {g : Int} (h : 0 ≤ g ∧ g < S 6 0) : (0 ≤ S 0 g ∧ S 0 g ≤ 4) ∧ (0 ≤ S 1 g ∧ S 1 g ≤ 9) ∧ (0 ≤ S 2 g ∧ S 2 g ≤ 20) ∧ (-1 ≤ S 3 g ∧ S 3 g < 2 * S 6 1) := hW.2.2.2.1 g h.1 h.2
theorem wf_w {S : Sh} (hW : WF S) {w : Int} (h : 0 ≤ w ∧ w < S 6 1) : (0 ≤ S 4 w ∧ S 4 w ≤ 9) ∧ (0 ≤ S 5 w ∧ S 5 w ≤ 2) := hW.2.2.2.2.1 w h.1 h.2
theorem wf_i {S : Sh} (hW : WF S) {i : Int} (h : 0 ≤ i ∧ i < S 6 3) : (0 ≤ S 7 i ∧ S 7 i < S 6 0) ∧ (0 ≤ S 8 i ∧ S 8 i ≤ 9) ∧ (0 ≤ S 9 i ∧ S 9 i ≤ 9) := hW.2.2.2.2.2.1 i h.1 h.2
theorem agez_rg {a : Int} (h : 0 ≤ a) : 0 ≤ agez a ∧ agez a ≤ 20 := by unfold agez; split <;> omega
theorem temperZ_rg {k m a : Int} (hm : 0 ≤ m ∧ m ≤ 9) (ha : 0 ≤ a) : 0 ≤ temperZ k m a ∧ temperZ k m a ≤ 9 := by unfold temperZ; (repeat' split) <;> omega
def tz (S : Sh) (g m : Int) : Int := temperZ (S 0 g) (S 1 g) (agez (S 2 g + m))
theorem tz_rg {S : Sh} (hW : WF S) {g m : Int} (hg : 0 ≤ g ∧ g < S 6 0) (hm : 0 ≤ m) : 0 ≤ tz S g m ∧ tz S g m ≤ 9 := by
  have h := wf_g hW hg
  exact temperZ_rg h.2.1 (agez_rg (by omega)).1
theorem hold_rg {x w : Int} (h : -1 ≤ x ∧ x < 2 * w) : -1 ≤ hold x ∧ hold x < w ∨ (hold x = -1 ∧ x = -1) := by unfold hold; split <;> omega
theorem hold_b {S : Sh} (hW : WF S) {g : Int} (hg : 0 ≤ g ∧ g < S 6 0) : -1 ≤ hold (S 3 g) ∧ hold (S 3 g) ≤ 2 := by
  have h := wf_g hW hg
  have h2 := wf_n hW
  unfold hold
  split <;> omega
theorem side_b {S : Sh} (hW : WF S) {g : Int} (hg : 0 ≤ g ∧ g < S 6 0) : -1 ≤ side (S 3 g) ∧ side (S 3 g) ≤ 1 := by
  have h := wf_g hW hg
  unfold side
  split <;> omega
theorem bs_t {p : Nat → Bool} {j : Nat} (hp : p j = true) (hj : j ≤ 30) : bor (bsum p j) (bshl 1 j) = bsum p (j + 1) := by
  rw [bor_add (bsum_nn p j) hj]
  show _ = bsum p j + if p j then 2 ^ j else 0
  rw [if_pos hp]
theorem bs_f {p : Nat → Bool} {j : Nat} (hp : p j = false) : bsum p j = bsum p (j + 1) := by
  show _ = bsum p j + if p j then 2 ^ j else 0
  rw [if_neg (by rw [hp]; decide), Int.add_zero]
def heldP (S : Sh) (x : Int) : Nat → Bool := fun g => decide (hold (S 3 g) = x)
def nG (S : Sh) : Nat := (S 6 0).toNat
def nW (S : Sh) : Nat := (S 6 1).toNat
theorem bsum_le {p : Nat → Bool} {n : Nat} (hn : n ≤ 10) : 0 ≤ bsum p n ∧ bsum p n < 1024 := by
  have h := bsum_nn p n
  have h2 : (2 : Int) ^ n ≤ 2 ^ 10 := by
    have : (2 : Nat) ^ n ≤ 2 ^ 10 := Nat.pow_le_pow_right (by decide) hn
    exact_mod_cast this
  omega
theorem bsum_le6 {p : Nat → Bool} {n : Nat} (hn : n ≤ 6) : 0 ≤ bsum p n ∧ bsum p n < 64 := by
  have h := bsum_nn p n
  have h2 : (2 : Int) ^ n ≤ 2 ^ 6 := by
    have : (2 : Nat) ^ n ≤ 2 ^ 6 := Nat.pow_le_pow_right (by decide) hn
    exact_mod_cast this
  omega
theorem c_X5_hasGlove {b : Nat} {S : Sh} {g : Int} {h : Hp} {Q : Int → Hp → Prop} (hb : Shb b) (hR : RC b S h) (hW : WF S) (hg : -2147483648 ≤ g ∧ g ≤ 2147483647) (h1 : 0 ≤ g ∧ g < S 6 0 → Q 1 h) (h0 : ¬ (0 ≤ g ∧ g < S 6 0) → Q 0 h) : CJ 0 kX5_hasGlove [.ref b, vi g] h Q := by
  obtain ⟨⟨hn, hw, hh, hs⟩, hG, hN, hE⟩ := id hR
  have hnn := wf_n hW
  refine cj_of (lo := [some (.ref b), some (vi g)]) mok_X5_hasGlove (fun _ => rfl) (fun _ => Nat.le_of_ble_eq_true rfl) ?_
  refine xj_iload_n (pc2 := 1) dX5_hasGlove_0 rfl rfl rfl ?_
  refine xj_if_lt (pc2 := 4) (tgt := 16) dX5_hasGlove_1 rfl rfl (by omega) (fun c_1 => ?_) (fun c_1 => ?_)
  · -- 16
    refine xj_iconst (pc2 := 17) dX5_hasGlove_16 rfl ?_
    refine xj_zret dX5_hasGlove_17 rfl (by decide) ?_
    first | exact h1 (by omega) | exact h0 (by omega)
  · -- 4
    refine xj_iload_n (pc2 := 5) dX5_hasGlove_4 rfl rfl rfl ?_
    refine xj_aload_n (pc2 := 6) dX5_hasGlove_5 rfl rfl rfl ?_
    refine xj_getI (pc2 := 9) (kz := 11) fok_X5_45 dX5_hasGlove_6 rfl rfl (ks hb) (by decide) rfl (by first | assumption | rfl) ?_
    refine xj_cmp_ge (pc2 := 12) (tgt := 16) dX5_hasGlove_9 rfl rfl (by omega) (by omega) (fun c_9 => ?_) (fun c_9 => ?_)
    · -- 16
      refine xj_iconst (pc2 := 17) dX5_hasGlove_16 rfl ?_
      refine xj_zret dX5_hasGlove_17 rfl (by decide) ?_
      first | exact h1 (by omega) | exact h0 (by omega)
    · -- 12
      refine xj_iconst (pc2 := 13) dX5_hasGlove_12 rfl ?_
      refine xj_goto (tgt := 17) dX5_hasGlove_13 rfl ?_
      refine xj_zret dX5_hasGlove_17 rfl (by decide) ?_
      first | exact h1 (by omega) | exact h0 (by omega)
theorem c_X5_hasWearer {b : Nat} {S : Sh} {g : Int} {h : Hp} {Q : Int → Hp → Prop} (hb : Shb b) (hR : RC b S h) (hW : WF S) (hg : -2147483648 ≤ g ∧ g ≤ 2147483647) (h1 : 0 ≤ g ∧ g < S 6 1 → Q 1 h) (h0 : ¬ (0 ≤ g ∧ g < S 6 1) → Q 0 h) : CJ 0 kX5_hasWearer [.ref b, vi g] h Q := by
  obtain ⟨⟨hn, hw, hh, hs⟩, hG, hN, hE⟩ := id hR
  have hnn := wf_n hW
  refine cj_of (lo := [some (.ref b), some (vi g)]) mok_X5_hasWearer (fun _ => rfl) (fun _ => Nat.le_of_ble_eq_true rfl) ?_
  refine xj_iload_n (pc2 := 1) dX5_hasWearer_0 rfl rfl rfl ?_
  refine xj_if_lt (pc2 := 4) (tgt := 16) dX5_hasWearer_1 rfl rfl (by omega) (fun c_1 => ?_) (fun c_1 => ?_)
  · -- 16
    refine xj_iconst (pc2 := 17) dX5_hasWearer_16 rfl ?_
    refine xj_zret dX5_hasWearer_17 rfl (by decide) ?_
    first | exact h1 (by omega) | exact h0 (by omega)
  · -- 4
    refine xj_iload_n (pc2 := 5) dX5_hasWearer_4 rfl rfl rfl ?_
    refine xj_aload_n (pc2 := 6) dX5_hasWearer_5 rfl rfl rfl ?_
    refine xj_getI (pc2 := 9) (kz := 12) fok_X5_49 dX5_hasWearer_6 rfl rfl (ks hb) (by decide) rfl (by first | assumption | rfl) ?_
    refine xj_cmp_ge (pc2 := 12) (tgt := 16) dX5_hasWearer_9 rfl rfl (by omega) (by omega) (fun c_9 => ?_) (fun c_9 => ?_)
    · -- 16
      refine xj_iconst (pc2 := 17) dX5_hasWearer_16 rfl ?_
      refine xj_zret dX5_hasWearer_17 rfl (by decide) ?_
      first | exact h1 (by omega) | exact h0 (by omega)
    · -- 12
      refine xj_iconst (pc2 := 13) dX5_hasWearer_12 rfl ?_
      refine xj_goto (tgt := 17) dX5_hasWearer_13 rfl ?_
      refine xj_zret dX5_hasWearer_17 rfl (by decide) ?_
      first | exact h1 (by omega) | exact h0 (by omega)
theorem c_X5_temper {b : Nat} {S : Sh} {g m : Int} {h : Hp} {Q : Int → Hp → Prop} (hb : Shb b) (hR : RC b S h) (hW : WF S) (hg : 0 ≤ g ∧ g < S 6 0) (hm : 0 ≤ m ∧ m ≤ 40) (hq : Q (tz S g m) h) : CJ 1 kX5_temper [.ref b, vi g, vi m] h Q := by
  obtain ⟨⟨hn, hw, hh, hs⟩, hG, hN, hE⟩ := id hR
  have hnn := wf_n hW
  have hwg := wf_g hW hg
  have hag := agez_rg (a := S 2 g + m) (by omega)
  refine cj_of (lo := [some (.ref b), some (vi g), some (vi m)]) mok_X5_temper (fun _ => rfl) (fun _ => Nat.le_of_ble_eq_true rfl) ?_
  refine xj_aload_n (pc2 := 1) dX5_temper_0 rfl rfl rfl ?_
  refine xj_getR (pc2 := 4) fok_X5_9 dX5_temper_1 rfl rfl (ks hb) rfl ?_
  refine xj_iload_n (pc2 := 5) dX5_temper_4 rfl rfl rfl ?_
  refine xj_N2I (pc2 := 8) (d2 := 0) mok_X6_at mn_X5_72 sta_yX6_at dX5_temper_5 rfl rfl (by decide) (by decide) (Nat.le_of_ble_eq_true rfl) (fun _ => rfl) ?_
  refine c_X6_at (ks0 hb) (by omega) (by decide) (hG _ (by omega) (by omega)).1 ?_
  refine xj_aload_n (pc2 := 9) dX5_temper_8 rfl rfl rfl ?_
  refine xj_getR (pc2 := 12) fok_X5_15 dX5_temper_9 rfl rfl (ks hb) rfl ?_
  refine xj_iload_n (pc2 := 13) dX5_temper_12 rfl rfl rfl ?_
  refine xj_N2I (pc2 := 16) (d2 := 0) mok_X6_at mn_X5_72 sta_yX6_at dX5_temper_13 rfl rfl (by decide) (by decide) (Nat.le_of_ble_eq_true rfl) (fun _ => rfl) ?_
  refine c_X6_at (ks1 hb) (by omega) (by decide) (hG _ (by omega) (by omega)).2.1 ?_
  refine xj_aload_n (pc2 := 17) dX5_temper_16 rfl rfl rfl ?_
  refine xj_getR (pc2 := 20) fok_X5_18 dX5_temper_17 rfl rfl (ks hb) rfl ?_
  refine xj_iload_n (pc2 := 21) dX5_temper_20 rfl rfl rfl ?_
  refine xj_N2I (pc2 := 24) (d2 := 0) mok_X6_at mn_X5_72 sta_yX6_at dX5_temper_21 rfl rfl (by decide) (by decide) (Nat.le_of_ble_eq_true rfl) (fun _ => rfl) ?_
  refine c_X6_at (ks2 hb) (by omega) (by decide) (hG _ (by omega) (by omega)).2.2.1 ?_
  refine xj_iload_n (pc2 := 25) dX5_temper_24 rfl rfl rfl ?_
  refine xj_iadd (pc2 := 26) dX5_temper_25 rfl ?_
  refine xj_N1I (pc2 := 29) (d2 := 0) mok_X6_ageOf mn_X5_76 sta_yX6_ageOf dX5_temper_26 rfl rfl (by decide) (by decide) (Nat.le_of_ble_eq_true rfl) (fun _ => rfl) ?_
  refine c_X6_ageOf (by omega) ?_
  refine xj_N3I (pc2 := 32) (d2 := 0) mok_X6_temperOf mn_X5_80 sta_yX6_temperOf dX5_temper_29 rfl rfl (by decide) (by decide) (Nat.le_of_ble_eq_true rfl) (fun _ => rfl) ?_
  refine c_X6_temperOf (by omega) (by omega) (by omega) ?_
  refine xj_iret dX5_temper_32 rfl ?_
  exact hq
theorem c_X5_heldBy {b : Nat} {S : Sh} {x : Int} {h : Hp} {Q : Int → Hp → Prop} (hb : Shb b) (hR : RC b S h) (hW : WF S) (hx : -1 ≤ x ∧ x ≤ 2) (hq : Q (bsum (heldP S x) (nG S)) h) : CJ 1 kX5_heldBy [.ref b, vi x] h Q := by
  obtain ⟨⟨hn, hw, hh, hs⟩, hG, hN, hE⟩ := id hR
  have hnn := wf_n hW
  obtain ⟨n, hn2⟩ : ∃ n : Nat, S 6 0 = n := ⟨(S 6 0).toNat, by omega⟩
  rw [show nG S = n by unfold nG; omega] at hq
  refine cj_of (lo := [some (.ref b), some (vi x), none, none]) mok_X5_heldBy (fun _ => rfl) (fun _ => Nat.le_of_ble_eq_true rfl) ?_
  refine xj_iconst (pc2 := 1) dX5_heldBy_0 rfl ?_
  refine xj_istore2 (pc2 := 2) dX5_heldBy_1 rfl rfl (by decide) rfl ?_
  refine xj_iconst (pc2 := 3) dX5_heldBy_2 rfl ?_
  refine xj_istore3 (pc2 := 4) dX5_heldBy_3 rfl rfl (by decide) rfl ?_
  refine down (P := fun j => XJ none 1 kX5_heldBy h 4 [some (.ref b), some (vi x), some (vi (bsum (heldP S x) j)), some (vi j)] [] Q) (n := n) ?_ ?_
  · refine xj_iload_n (pc2 := 5) dX5_heldBy_4 rfl rfl rfl ?_
    refine xj_aload_n (pc2 := 6) dX5_heldBy_5 rfl rfl rfl ?_
    refine xj_getI (pc2 := 9) (kz := 11) fok_X5_45 dX5_heldBy_6 rfl rfl (ks hb) (by decide) rfl (by first | assumption | rfl) ?_
    refine xj_cmp_ge (pc2 := 12) (tgt := 36) dX5_heldBy_9 rfl rfl (by omega) (by omega) (fun c_9 => ?_) (fun c_9 => by exfalso; omega)
    refine xj_iload_n (pc2 := 37) dX5_heldBy_36 rfl rfl rfl ?_
    refine xj_iret dX5_heldBy_37 rfl ?_
    exact hq
  · intro j hj ih
    try dsimp only at ih ⊢
    have hhb := hold_b hW (g := (j : Int)) (by omega)
    refine xj_iload_n (pc2 := 5) dX5_heldBy_4 rfl rfl rfl ?_
    refine xj_aload_n (pc2 := 6) dX5_heldBy_5 rfl rfl rfl ?_
    refine xj_getI (pc2 := 9) (kz := 11) fok_X5_45 dX5_heldBy_6 rfl rfl (ks hb) (by decide) rfl (by first | assumption | rfl) ?_
    refine xj_cmp_ge (pc2 := 12) (tgt := 36) dX5_heldBy_9 rfl rfl (by omega) (by omega) (fun c_9 => by exfalso; omega) (fun c_9 => ?_)
    refine xj_aload_n (pc2 := 13) dX5_heldBy_12 rfl rfl rfl ?_
    refine xj_getR (pc2 := 16) fok_X5_21 dX5_heldBy_13 rfl rfl (ks hb) rfl ?_
    refine xj_iload_n (pc2 := 17) dX5_heldBy_16 rfl rfl rfl ?_
    refine xj_N2I (pc2 := 20) (d2 := 0) mok_X6_at mn_X5_72 sta_yX6_at dX5_heldBy_17 rfl rfl (by decide) (by decide) (Nat.le_of_ble_eq_true rfl) (fun _ => rfl) ?_
    refine c_X6_at (ks3 hb) (by omega) (by decide) (hG _ (by omega) (by omega)).2.2.2.1 ?_
    refine xj_iload_n (pc2 := 21) dX5_heldBy_20 rfl rfl rfl ?_
    refine xj_cmp_ne (pc2 := 24) (tgt := 30) dX5_heldBy_21 rfl rfl (by omega) (by omega) (fun c_21 => ?_) (fun c_21 => ?_)
    · -- 30
      rw [← bs_f (by simpa [heldP] using c_21)] at ih
      refine xj_iinc3 (pc2 := 33) dX5_heldBy_30 rfl (by decide) rfl ?_
      refine xj_goto (tgt := 4) dX5_heldBy_33 rfl ?_
      exact ih
    · -- 24
      rw [← bs_t (by simpa [heldP] using c_21) (by omega)] at ih
      refine xj_iload_n (pc2 := 25) dX5_heldBy_24 rfl rfl rfl ?_
      refine xj_iconst (pc2 := 26) dX5_heldBy_25 rfl ?_
      refine xj_iload_n (pc2 := 27) dX5_heldBy_26 rfl rfl rfl ?_
      refine xj_ishl (pc2 := 28) dX5_heldBy_27 rfl ?_
      refine xj_ior (pc2 := 29) dX5_heldBy_28 rfl ?_
      refine xj_istore2 (pc2 := 30) dX5_heldBy_29 rfl rfl (by decide) rfl ?_
      refine xj_iinc3 (pc2 := 33) dX5_heldBy_30 rfl (by decide) rfl ?_
      refine xj_goto (tgt := 4) dX5_heldBy_33 rfl ?_
      exact ih
theorem c_X5_gloveOn {b : Nat} {S : Sh} {w s : Int} {h : Hp} {Q : Int → Hp → Prop} (hb : Shb b) (hR : RC b S h) (hW : WF S) (hw0 : 0 ≤ w ∧ w ≤ 2) (hs0 : 0 ≤ s ∧ s ≤ 1) (hq : ∀ v, ((v = -1 ∧ ∀ g, 0 ≤ g → g < S 6 0 → S 3 g ≠ 2 * w + s) ∨ (0 ≤ v ∧ v < S 6 0 ∧ S 3 v = 2 * w + s)) → Q v h) : CJ 1 kX5_gloveOn [.ref b, vi w, vi s] h Q := by
  obtain ⟨⟨hn, hw, hh, hs⟩, hG, hN, hE⟩ := id hR
  have hnn := wf_n hW
  obtain ⟨n, hn2⟩ : ∃ n : Nat, S 6 0 = n := ⟨(S 6 0).toNat, by omega⟩
  refine cj_of (lo := [some (.ref b), some (vi w), some (vi s), none]) mok_X5_gloveOn (fun _ => rfl) (fun _ => Nat.le_of_ble_eq_true rfl) ?_
  refine xj_iconst (pc2 := 1) dX5_gloveOn_0 rfl ?_
  refine xj_istore3 (pc2 := 2) dX5_gloveOn_1 rfl rfl (by decide) rfl ?_
  refine down (P := fun j => (∀ g, 0 ≤ g → g < (j : Int) → S 3 g ≠ 2 * w + s) → XJ none 1 kX5_gloveOn h 2 [some (.ref b), some (vi w), some (vi s), some (vi j)] [] Q) (n := n) ?_ ?_ (fun g h1 h2 => by exfalso; omega)
  · intro hall
    refine xj_iload_n (pc2 := 3) dX5_gloveOn_2 rfl rfl rfl ?_
    refine xj_aload_n (pc2 := 4) dX5_gloveOn_3 rfl rfl rfl ?_
    refine xj_getI (pc2 := 7) (kz := 11) fok_X5_45 dX5_gloveOn_4 rfl rfl (ks hb) (by decide) rfl (by first | assumption | rfl) ?_
    refine xj_cmp_ge (pc2 := 10) (tgt := 42) dX5_gloveOn_7 rfl rfl (by omega) (by omega) (fun c_7 => ?_) (fun c_7 => by exfalso; omega)
    refine xj_iconst (pc2 := 43) dX5_gloveOn_42 rfl ?_
    refine xj_iret dX5_gloveOn_43 rfl ?_
    exact hq _ (Or.inl ⟨rfl, fun g h1 h2 => hall g h1 (by omega)⟩)
  · intro j hj ih hall
    try dsimp only at ih ⊢
    have hhb := hold_b hW (g := (j : Int)) (by omega)
    have hsb := side_b hW (g := (j : Int)) (by omega)
    have hgb := wf_g hW (g := (j : Int)) (by omega)
    have hst : (S 3 j = 2 * w + s) ↔ (hold (S 3 j) = w ∧ side (S 3 j) = s) := by
      unfold hold side
      constructor
      · intro q; rw [if_neg (by omega), if_neg (by omega)]; omega
      · intro q; split at q <;> omega
    have ih := fun q => ih (fun g h1 h2 => by
      by_cases e : g = (j : Int)
      · subst e; exact q
      · exact hall g h1 (by omega))
    refine xj_iload_n (pc2 := 3) dX5_gloveOn_2 rfl rfl rfl ?_
    refine xj_aload_n (pc2 := 4) dX5_gloveOn_3 rfl rfl rfl ?_
    refine xj_getI (pc2 := 7) (kz := 11) fok_X5_45 dX5_gloveOn_4 rfl rfl (ks hb) (by decide) rfl (by first | assumption | rfl) ?_
    refine xj_cmp_ge (pc2 := 10) (tgt := 42) dX5_gloveOn_7 rfl rfl (by omega) (by omega) (fun c_7 => by exfalso; omega) (fun c_7 => ?_)
    refine xj_aload_n (pc2 := 11) dX5_gloveOn_10 rfl rfl rfl ?_
    refine xj_getR (pc2 := 14) fok_X5_21 dX5_gloveOn_11 rfl rfl (ks hb) rfl ?_
    refine xj_iload_n (pc2 := 15) dX5_gloveOn_14 rfl rfl rfl ?_
    refine xj_N2I (pc2 := 18) (d2 := 0) mok_X6_at mn_X5_72 sta_yX6_at dX5_gloveOn_15 rfl rfl (by decide) (by decide) (Nat.le_of_ble_eq_true rfl) (fun _ => rfl) ?_
    refine c_X6_at (ks3 hb) (by omega) (by decide) (hG _ (by omega) (by omega)).2.2.2.1 ?_
    refine xj_iload_n (pc2 := 19) dX5_gloveOn_18 rfl rfl rfl ?_
    refine xj_cmp_ne (pc2 := 22) (tgt := 36) dX5_gloveOn_19 rfl rfl (by omega) (by omega) (fun c_19 => ?_) (fun c_19 => ?_)
    · -- 36
      refine xj_iinc3 (pc2 := 39) dX5_gloveOn_36 rfl (by decide) rfl ?_
      refine xj_goto (tgt := 2) dX5_gloveOn_39 rfl ?_
      exact ih (fun q => by have := hst.mp q; omega)
    · -- 22
      refine xj_aload_n (pc2 := 23) dX5_gloveOn_22 rfl rfl rfl ?_
      refine xj_getR (pc2 := 26) fok_X5_24 dX5_gloveOn_23 rfl rfl (ks hb) rfl ?_
      refine xj_iload_n (pc2 := 27) dX5_gloveOn_26 rfl rfl rfl ?_
      refine xj_N2I (pc2 := 30) (d2 := 0) mok_X6_at mn_X5_72 sta_yX6_at dX5_gloveOn_27 rfl rfl (by decide) (by decide) (Nat.le_of_ble_eq_true rfl) (fun _ => rfl) ?_
      refine c_X6_at (ks4 hb) (by omega) (by decide) (hG _ (by omega) (by omega)).2.2.2.2 ?_
      refine xj_iload_n (pc2 := 31) dX5_gloveOn_30 rfl rfl rfl ?_
      refine xj_cmp_ne (pc2 := 34) (tgt := 36) dX5_gloveOn_31 rfl rfl (by omega) (by omega) (fun c_31 => ?_) (fun c_31 => ?_)
      · -- 36
        refine xj_iinc3 (pc2 := 39) dX5_gloveOn_36 rfl (by decide) rfl ?_
        refine xj_goto (tgt := 2) dX5_gloveOn_39 rfl ?_
        exact ih (fun q => by have := hst.mp q; omega)
      · -- 34
        refine xj_iload_n (pc2 := 35) dX5_gloveOn_34 rfl rfl rfl ?_
        refine xj_iret dX5_gloveOn_35 rfl ?_
        exact hq _ (Or.inr ⟨by omega, by omega, hst.mpr ⟨by omega, by omega⟩⟩)
end
